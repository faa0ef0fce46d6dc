theorem aAd (a b : Int32) : a < b ↔ a.toInt < b.toInt := Int32.lt_iff_toInt_lt
theorem aAO (a b : Int32) : a <= b ↔ a.toInt <= b.toInt := Int32.le_iff_toInt_le
theorem zJ (a b : Int32) : a = b ↔ a.toInt = b.toInt := Int32.toInt_inj.symm
theorem g_and1 (a : Int32) : a &&& (-1) = a := by
  apply Int32.toBitVec_inj.mp
  simp
theorem tp_o {x : Int32} (h : x.toBitVec.toNat < 2147483648) : x.toInt = (x.toBitVec.toNat : Int) := by
  show x.toBitVec.toInt = _
  rw [BitVec.toInt_eq_toNat_cond]
  rw [if_pos (by omega)]
theorem tp_n {x : Int32} (h : 0 <= x.toInt) : x.toInt = (x.toBitVec.toNat : Int) /\ x.toBitVec.toNat < 2147483648 := by
  have h1 : x.toInt = if 2 * x.toBitVec.toNat < 2 ^ 32 then (x.toBitVec.toNat : Int) else (x.toBitVec.toNat : Int) - (2 ^ 32 : Nat) := BitVec.toInt_eq_toNat_cond _
  have h2 := x.toBitVec.isLt
  split at h1 <;> omega
theorem aAT (x : Int32) : -2147483648 <= x.toInt /\ x.toInt <= 2147483647 := by
  have h1 : x.toInt = if 2 * x.toBitVec.toNat < 2 ^ 32 then (x.toBitVec.toNat : Int) else (x.toBitVec.toNat : Int) - (2 ^ 32 : Nat) := BitVec.toInt_eq_toNat_cond _
  have h2 := x.toBitVec.isLt
  split at h1 <;> omega
theorem tp_b {n : Int} (h : -2147483648 <= n /\ n <= 2147483647) : n.bmod (2 ^ 32) = n := Int.bmod_eq_of_le (by omega) (by omega)
theorem aAD (x y : Int32) (h : -2147483648 <= x.toInt + y.toInt /\ x.toInt + y.toInt <= 2147483647) : Int32.toInt (x + y) = x.toInt + y.toInt := by
  rw [Int32.toInt_add]; exact tp_b h
theorem aCA (x y : Int32) (h : -2147483648 <= x.toInt - y.toInt /\ x.toInt - y.toInt <= 2147483647) : Int32.toInt (x - y) = x.toInt - y.toInt := by
  rw [Int32.toInt_sub]; exact tp_b h
theorem ta_neg (x : Int32) (h : -2147483648 < x.toInt) : Int32.toInt (-x) = - x.toInt := by
  rw [Int32.toInt_neg]; exact tp_b (by have := aAT x; omega)
theorem ta_mulc (x c : Int32) {k : Int} (hk : c.toInt = k) (h : -2147483648 <= x.toInt * k /\ x.toInt * k <= 2147483647) : Int32.toInt (x * c) = x.toInt * k := by
  rw [Int32.toInt_mul, hk]; exact tp_b h
theorem ta_cmul (c x : Int32) {k : Int} (hk : c.toInt = k) (h : -2147483648 <= x.toInt * k /\ x.toInt * k <= 2147483647) : Int32.toInt (c * x) = x.toInt * k := by
  rw [Int32.toInt_mul, hk, Int.mul_comm]; exact tp_b h
theorem aAQ (x y : Int32) (h : 0 <= y.toInt) : 0 <= Int32.toInt (x &&& y) /\ Int32.toInt (x &&& y) <= y.toInt := by
  obtain ⟨h1, h2⟩ := tp_n h
  have h3 : (x &&& y).toBitVec.toNat <= y.toBitVec.toNat := by
    rw [Int32.toBitVec_and, BitVec.toNat_and]; exact Nat.and_le_right
  have h4 := tp_o (x := x &&& y) (by omega)
  omega
theorem aBx (x y : Int32) (h : 0 <= x.toInt) : 0 <= Int32.toInt (x &&& y) /\ Int32.toInt (x &&& y) <= x.toInt := by
  obtain ⟨h1, h2⟩ := tp_n h
  have h3 : (x &&& y).toBitVec.toNat <= x.toBitVec.toNat := by
    rw [Int32.toBitVec_and, BitVec.toNat_and]; exact Nat.and_le_left
  have h4 := tp_o (x := x &&& y) (by omega)
  omega
theorem ti_or (k : Nat) (B : Int) (x y : Int32) (hk : k <= 31 /\ ((2 ^ k : Nat) : Int) = B) (h1 : 0 <= x.toInt /\ x.toInt < B) (h2 : 0 <= y.toInt /\ y.toInt < B) : 0 <= Int32.toInt (x ||| y) /\ Int32.toInt (x ||| y) < B := by
  obtain ⟨a1, a2⟩ := tp_n h1.1
  obtain ⟨b1, b2⟩ := tp_n h2.1
  have h3 : (x ||| y).toBitVec.toNat < 2 ^ k := by
    rw [Int32.toBitVec_or, BitVec.toNat_or]; exact Nat.or_lt_two_pow (by omega) (by omega)
  have h4 : 2 ^ k <= 2 ^ 31 := Nat.pow_le_pow_right (by decide) hk.1
  have h5 := tp_o (x := x ||| y) (by omega)
  omega
theorem ti_xor (k : Nat) (B : Int) (x y : Int32) (hk : k <= 31 /\ ((2 ^ k : Nat) : Int) = B) (h1 : 0 <= x.toInt /\ x.toInt < B) (h2 : 0 <= y.toInt /\ y.toInt < B) : 0 <= Int32.toInt (x ^^^ y) /\ Int32.toInt (x ^^^ y) < B := by
  obtain ⟨a1, a2⟩ := tp_n h1.1
  obtain ⟨b1, b2⟩ := tp_n h2.1
  have h3 : (x ^^^ y).toBitVec.toNat < 2 ^ k := by
    rw [Int32.toBitVec_xor, BitVec.toNat_xor]; exact Nat.xor_lt_two_pow (by omega) (by omega)
  have h4 : 2 ^ k <= 2 ^ 31 := Nat.pow_le_pow_right (by decide) hk.1
  have h5 := tp_o (x := x ^^^ y) (by omega)
  omega
theorem tp_nI {x : Int32} (h : 0 <= x.toInt) : x = nI x.toInt.toNat := by
  obtain ⟨h1, h2⟩ := tp_n h
  apply Int32.toBitVec_inj.mp
  apply BitVec.eq_of_toNat_eq
  show _ = (BitVec.ofNat 32 _).toNat
  rw [BitVec.toNat_ofNat]
  omega
theorem ti_s1 : ∀ n, n < 31 -> Int32.toInt ((1 : Int32) <<< (nI n &&& 31)) = ((2 ^ n : Nat) : Int) := by decide +kernel
theorem aDv (k : Nat) (B : Int) (n : Int32) (hk : k <= 30 /\ ((2 ^ k : Nat) : Int) = B) (h : 0 <= n.toInt /\ n.toInt <= (k : Int)) : 1 <= Int32.toInt (1 <<< (n &&& 31)) /\ Int32.toInt (1 <<< (n &&& 31)) <= B := by
  rw [tp_nI h.1, ti_s1 _ (by omega)]
  have h1 : 2 ^ n.toInt.toNat <= 2 ^ k := Nat.pow_le_pow_right (by decide) (by omega)
  have h2 : 0 < 2 ^ n.toInt.toNat := Nat.two_pow_pos _
  omega
theorem ti_s8 : ∀ n, n < 16 -> Int32.toInt ((nI n) <<< ((8 : Int32) &&& 31)) = (n : Int) * 256 := by decide +kernel
theorem ti_shl8 (x : Int32) (h : 0 <= x.toInt /\ x.toInt <= 15) : Int32.toInt (x <<< (8 &&& 31)) = x.toInt * 256 := by
  have h1 : Int32.toInt ((nI x.toInt.toNat) <<< ((8 : Int32) &&& 31)) = (x.toInt.toNat : Int) * 256 := ti_s8 _ (by omega)
  rw [<- tp_nI h.1] at h1
  rw [h1]; omega
theorem aRJ (x y : Int32) (h : 0 <= x.toInt) : 0 <= Int32.toInt (x >>> (y &&& 31)) /\ Int32.toInt (x >>> (y &&& 31)) <= x.toInt := by
  have h1 : Int32.toInt (x >>> (y &&& 31)) = x.toInt >>> ((y &&& 31).toBitVec.smod 32).toNat := by
    show BitVec.toInt (Int32.toBitVec (x >>> (y &&& 31))) = _
    rw [Int32.toBitVec_shiftRight]
    exact BitVec.toInt_sshiftRight
  rw [h1]
  generalize ((y &&& 31).toBitVec.smod 32).toNat = n
  rw [Int.shiftRight_eq_div_pow]
  have h2 : (0 : Int) < ((2 ^ n : Nat) : Int) := by exact_mod_cast Nat.two_pow_pos n
  refine ⟨Int.ediv_nonneg h (by omega), ?_⟩
  exact Int.ediv_le_self _ h
theorem ti_i2b (x : Int32) : -128 <= Int32.toInt (x.toInt8.toInt32) /\ Int32.toInt (x.toInt8.toInt32) <= 127 := by
  rw [Int8.toInt_toInt32]
  have h1 := x.toInt8.toInt_lt
  have h2 := x.toInt8.le_toInt
  omega
theorem ti_i2be (x : Int32) (h : -128 <= x.toInt /\ x.toInt <= 127) : Int32.toInt (x.toInt8.toInt32) = x.toInt := by
  rw [Int8.toInt_toInt32, Int32.toInt_toInt8]
  exact Int.bmod_eq_of_le (by omega) (by omega)
theorem ti_i2s (x : Int32) : -32768 <= Int32.toInt (x.toInt16.toInt32) /\ Int32.toInt (x.toInt16.toInt32) <= 32767 := by
  rw [Int16.toInt_toInt32]
  have h1 := x.toInt16.toInt_lt
  have h2 := x.toInt16.le_toInt
  omega
theorem ti_i2c (x : Int32) : 0 <= Int32.toInt ((x.toUInt32 % 65536).toInt32) /\ Int32.toInt ((x.toUInt32 % 65536).toInt32) <= 65535 := by
  have h1 : ((x.toUInt32 % 65536).toInt32).toBitVec.toNat < 65536 := by
    show (x.toUInt32 % 65536).toNat < 65536
    rw [UInt32.toNat_mod]
    exact Nat.mod_lt _ (by decide)
  have h2 := tp_o (x := (x.toUInt32 % 65536).toInt32) (by omega)
  omega
theorem ti_nar_byte (x : Int32) : -128 <= Int32.toInt (vp_nar .byte x) /\ Int32.toInt (vp_nar .byte x) <= 127 := ti_i2b x
theorem ti_nar_char (x : Int32) : 0 <= Int32.toInt (vp_nar .char x) /\ Int32.toInt (vp_nar .char x) <= 65535 := ti_i2c x
theorem ti_nar_boolean (x : Int32) : 0 <= Int32.toInt (vp_nar .boolean x) /\ Int32.toInt (vp_nar .boolean x) <= 1 := aAQ x 1 (by decide)
theorem ti_min (x y : Int32) : Int32.toInt (if y < x then y else x) <= x.toInt /\ Int32.toInt (if y < x then y else x) <= y.toInt /\ (Int32.toInt (if y < x then y else x) = x.toInt \/ Int32.toInt (if y < x then y else x) = y.toInt) := by
  by_cases h : y < x
  · rw [if_pos h]; have := (aAd _ _).mp h; omega
  · rw [if_neg h]; have := mt (aAd _ _).mpr h; omega
theorem ti_max (x y : Int32) : x.toInt <= Int32.toInt (if x < y then y else x) /\ y.toInt <= Int32.toInt (if x < y then y else x) /\ (Int32.toInt (if x < y then y else x) = x.toInt \/ Int32.toInt (if x < y then y else x) = y.toInt) := by
  by_cases h : x < y
  · rw [if_pos h]; have := (aAd _ _).mp h; omega
  · rw [if_neg h]; have := mt (aAd _ _).mpr h; omega
theorem ti_abs (y : Int32) (h : -2147483648 < y.toInt) : (0 <= y.toInt /\ Int32.toInt (if 0 <= y then y else 0 - y) = y.toInt) \/ (y.toInt < 0 /\ Int32.toInt (if 0 <= y then y else 0 - y) = - y.toInt) := by
  have l0 : Int32.toInt (0 : Int32) = 0 := (by decide)
  by_cases h1 : 0 <= y
  · rw [if_pos h1]; have := (aAO _ _).mp h1; omega
  · rw [if_neg h1]; have := mt (aAO _ _).mpr h1; have h2 := aCA 0 y (by have := aAT y; omega); omega
theorem aBZ {x : Int32} {n : Nat} (h : 0 <= x.toInt /\ x.toInt < (n : Int)) : vp_in x n := by
  intro hc
  have l0 : Int32.toInt (0 : Int32) = 0 := (by decide)
  have e : x.toNatClampNeg = x.toInt.toNat := rfl
  rcases hc with hc | hc
  · have := (aAd _ _).mp hc; omega
  · omega
theorem aHE {x : Int32} (h : 0 <= x.toInt /\ x.toInt <= 1) : narrow .boolean (.int x) = .int x := by
  rcases (show x.toInt = 0 \/ x.toInt = 1 by omega) with h1 | h1
  · obtain rfl : x = 0 := (zJ _ _).mpr (by rw [h1]; decide)
    rfl
  · obtain rfl : x = 1 := (zJ _ _).mpr (by rw [h1]; decide)
    rfl
theorem t_upd {f : Nat -> Int32} {i : Nat} {v : Int32} {lo hi : Int} (h : ∀ k, lo <= Int32.toInt (f k) /\ Int32.toInt (f k) <= hi) (hv : lo <= v.toInt /\ v.toInt <= hi) : ∀ k : Nat, lo <= Int32.toInt (upd f i v k) /\ Int32.toInt (upd f i v k) <= hi := by
  intro k
  unfold upd
  split
  · exact hv
  · exact h k
theorem aCJ {f : Nat -> Int32} {i : Nat} {v : Int32} {lo hi : Int} {C : Nat -> Prop} (h : ∀ k, C k -> lo <= Int32.toInt (f k) /\ Int32.toInt (f k) <= hi) (hv : C i -> lo <= v.toInt /\ v.toInt <= hi) : ∀ k : Nat, C k -> lo <= Int32.toInt (upd f i v k) /\ Int32.toInt (upd f i v k) <= hi := by
  intro k hk
  unfold upd
  split
  · next h1 => exact hv (h1 ▸ hk)
  · exact h k hk
theorem ti_subset (x y : Int32) (h : x &&& (y ^^^ (-1)) = 0) (hy : 0 <= y.toInt) : 0 <= x.toInt /\ x.toInt <= y.toInt := by
  have h1 : x = x &&& y := by
    apply Int32.toBitVec_inj.mp
    have h2 := congrArg Int32.toBitVec h
    rw [Int32.toBitVec_and, Int32.toBitVec_xor] at h2
    rw [Int32.toBitVec_and]
    apply BitVec.eq_of_getLsbD_eq
    intro i hi
    have h3 := congrArg (fun b => b.getLsbD i) h2
    have h4 : (Int32.toBitVec (-1)).getLsbD i = true := by
      have : Int32.toBitVec (-1) = BitVec.allOnes 32 := by decide
      rw [this, BitVec.getLsbD_allOnes]
      exact decide_eq_true hi
    simp only [BitVec.getLsbD_and, BitVec.getLsbD_xor, h4] at h3 ⊢
    have h5 : (Int32.toBitVec 0).getLsbD i = false := by
      have : Int32.toBitVec 0 = 0#32 := by decide
      rw [this, BitVec.getLsbD_zero]
    rw [h5] at h3
    cases hx : x.toBitVec.getLsbD i <;> cases hy : y.toBitVec.getLsbD i <;> simp_all
  have h2 := aAQ x y hy
  rw [<- h1] at h2
  exact h2
theorem ti_lix (x : Int32) : -1 <= Int32.toInt (lix x) /\ Int32.toInt (lix x) <= 6 := by
  unfold lix lixB
  repeat' split
  all_goals decide
theorem ti_div (x c : Int32) {k : Int} (hk : c.toInt = k) (h : 0 <= x.toInt) (h0 : 0 < k) : Int32.toInt (x / c) = x.toInt / k := by
  have h1 := aAT x
  have h2 : 0 <= x.toInt / k := Int.ediv_nonneg h (by omega)
  have h3 : x.toInt / k <= x.toInt := Int.ediv_le_self _ h
  rw [Int32.toInt_div, hk, Int.tdiv_eq_ediv_of_nonneg h]
  exact tp_b (by omega)
theorem ti_rem (x c : Int32) {k : Int} (hk : c.toInt = k) (h : 0 <= x.toInt) (h0 : 0 < k) : Int32.toInt (x - x / c * c) = x.toInt % k := by
  have h1 := aAT x
  have h2 := ti_div x c hk h h0
  have h3 : 0 <= x.toInt / k := Int.ediv_nonneg h (by omega)
  have h4 : x.toInt / k * k <= x.toInt := Int.ediv_mul_le _ (by omega)
  have h5 : 0 <= x.toInt / k * k := Int.mul_nonneg h3 (by omega)
  have h6 : Int32.toInt (x / c * c) = x.toInt / k * k := by
    rw [Int32.toInt_mul, h2, hk]; exact tp_b (by omega)
  have h7 : 0 <= x.toInt % k := Int.emod_nonneg _ (by omega)
  have h8 : x.toInt % k = x.toInt - x.toInt / k * k := by
    rw [Int.emod_def, Int.mul_comm]
  rw [aCA _ _ (by omega), h6, h8]
theorem t_upk {f g : Nat -> Int32} {i k : Nat} {v : Int32} (h : f k = g k) (hn : i ≠ k) : upd f i v k = g k := by
  unfold upd
  rw [if_neg (fun h9 => hn h9.symm)]
  exact h
theorem t_nk {x : Int32} {k : Nat} (h : 0 <= x.toInt /\ x.toInt < (k : Int)) : x.toNatClampNeg ≠ k := by
  have e : x.toNatClampNeg = x.toInt.toNat := rfl
  omega
theorem gs_19 {f g : Nat -> Int32} {a b : Int32} (h : f 19 = g 19) : (upd (upd f (17 : Int32).toNatClampNeg a) (20 : Int32).toNatClampNeg b) (19 : Int32).toNatClampNeg = g (19 : Int32).toNatClampNeg :=
  t_upk (t_upk h (show (17 : Nat) ≠ 19 by decide)) (show (20 : Nat) ≠ 19 by decide)
/-! sets of bits; what some methods answer, as functions -/
def bt (x : Int32) (k : Nat) : Bool := x.toBitVec.getLsbD k
theorem bt_ext {x y : Int32} (h : ∀ k, k < 32 -> bt x k = bt y k) : x = y := by
  apply Int32.toBitVec_inj.mp
  apply BitVec.eq_of_getLsbD_eq
  intro i hi
  exact h i hi
theorem bt_and (x y : Int32) (k : Nat) : bt (x &&& y) k = (bt x k && bt y k) := by
  unfold bt; rw [Int32.toBitVec_and, BitVec.getLsbD_and]
theorem bt_or (x y : Int32) (k : Nat) : bt (x ||| y) k = (bt x k || bt y k) := by
  unfold bt; rw [Int32.toBitVec_or, BitVec.getLsbD_or]
theorem bt_xor (x y : Int32) (k : Nat) : bt (x ^^^ y) k = (bt x k ^^ bt y k) := by
  unfold bt; rw [Int32.toBitVec_xor, BitVec.getLsbD_xor]
theorem bt_ge (x : Int32) (k : Nat) (h : 32 <= k) : bt x k = false := BitVec.getLsbD_of_ge _ _ h
theorem bt_all : ∀ k, k < 32 -> bt (-1) k = true := by decide +kernel
theorem bt_nul : ∀ k, k < 32 -> bt 0 k = false := by decide +kernel
theorem bt_one' : ∀ k, k < 32 -> bt 1 k = decide (k = 0) := by decide +kernel
theorem bt_not (x : Int32) (k : Nat) (hk : k < 32) : bt (x ^^^ (-1)) k = !bt x k := by
  rw [bt_xor, bt_all k hk]; cases bt x k <;> rfl
theorem bt_zero (k : Nat) : bt 0 k = false := by
  by_cases h : k < 32
  · exact bt_nul k h
  · exact bt_ge _ _ (by omega)
theorem bt_one (k : Nat) : bt 1 k = decide (k = 0) := by
  by_cases h : k < 32
  · exact bt_one' k h
  · rw [bt_ge _ _ (by omega)]; exact (decide_eq_false (by omega)).symm
theorem bs_n : ∀ n, n < 32 -> ((nI n &&& 31).toBitVec.smod 32).toNat = n := by decide +kernel
theorem bs_1 : ∀ n, n < 32 -> ∀ k, k < 32 -> bt ((1 : Int32) <<< (nI n &&& 31)) k = decide (k = n) := by decide +kernel
theorem bt_shlN (n : Nat) (hn : n < 32) (k : Nat) : bt ((1 : Int32) <<< (nI n &&& 31)) k = decide (k = n) := by
  by_cases h : k < 32
  · exact bs_1 n hn k h
  · rw [bt_ge _ _ (by omega)]; exact (decide_eq_false (by omega)).symm
theorem bt_shl (f : Int32) (h : 0 <= f.toInt /\ f.toInt < 32) (k : Nat) : bt (1 <<< (f &&& 31)) k = decide (k = f.toInt.toNat) := by
  have e := tp_nI h.1
  obtain ⟨n, hn⟩ : ∃ n, n = f.toInt.toNat := ⟨_, rfl⟩
  rw [<- hn] at e ⊢
  rw [e]
  exact bt_shlN n (by omega) k
theorem bt_shr (x f : Int32) (h : 0 <= f.toInt /\ f.toInt < 32) : bt (x >>> (f &&& 31)) 0 = bt x f.toInt.toNat := by
  have e := tp_nI h.1
  obtain ⟨n, hn⟩ : ∃ n, n = f.toInt.toNat := ⟨_, rfl⟩
  rw [<- hn] at e ⊢
  have hn2 : n < 32 := by omega
  rw [e]
  unfold bt
  rw [Int32.toBitVec_shiftRight]
  show (x.toBitVec.sshiftRight ((nI n &&& 31).toBitVec.smod 32).toNat).getLsbD 0 = _
  rw [bs_n n hn2, BitVec.getLsbD_sshiftRight]
  simp [hn2]
theorem has_v (x f : Int32) (h : 0 <= f.toInt /\ f.toInt < 32) : (x >>> (f &&& 31)) &&& 1 = if bt x f.toInt.toNat = true then 1 else 0 := by
  apply bt_ext
  intro k hk
  rw [bt_and, bt_one]
  by_cases h0 : k = 0
  · subst h0
    rw [bt_shr x f h]
    cases bt x f.toInt.toNat
    · exact (bt_zero 0).symm
    · exact (bt_one 0).symm
  · have e : decide (k = 0) = false := decide_eq_false h0
    rw [e, Bool.and_false]
    cases bt x f.toInt.toNat
    · exact (bt_zero k).symm
    · exact ((bt_one k).trans e).symm
theorem has_1 {x f v1 v2 : Int32} (e1 : v1 = x >>> (f &&& 31)) (e2 : v2 = v1 &&& 1) (h : Int32.toInt v2 = Int32.toInt 1) (hf : 0 <= f.toInt /\ f.toInt < 32) : bt x f.toInt.toNat = true := by
  have e3 : v2 = if bt x f.toInt.toNat = true then 1 else 0 := by rw [e2, e1]; exact has_v x f hf
  cases hb : bt x f.toInt.toNat
  · rw [hb] at e3
    rw [show v2 = 0 from e3] at h
    exact absurd h (by decide)
  · rfl
theorem has_0 {x f v1 v2 : Int32} (e1 : v1 = x >>> (f &&& 31)) (e2 : v2 = v1 &&& 1) (h : ¬ Int32.toInt v2 = Int32.toInt 1) (hf : 0 <= f.toInt /\ f.toInt < 32) : bt x f.toInt.toNat = false := by
  have e3 : v2 = if bt x f.toInt.toNat = true then 1 else 0 := by rw [e2, e1]; exact has_v x f hf
  cases hb : bt x f.toInt.toNat
  · rfl
  · rw [hb] at e3
    rw [show v2 = 1 from e3] at h
    exact absurd rfl h
theorem bt_lt (x : Int32) (n : Nat) (h : 0 <= x.toInt /\ x.toInt < ((2 ^ n : Nat) : Int)) (k : Nat) (hk : n <= k) : bt x k = false := by
  obtain ⟨h1, h2⟩ := tp_n h.1
  have h3 : 2 ^ n <= 2 ^ k := Nat.pow_le_pow_right (by decide) hk
  exact Nat.testBit_lt_two_pow (by omega)
theorem bt_bound (x : Int32) (n : Nat) (hn : n <= 31) (h : ∀ k, n <= k -> bt x k = false) : 0 <= x.toInt /\ x.toInt < ((2 ^ n : Nat) : Int) := by
  have h1 : x.toBitVec.toNat < 2 ^ n := Nat.lt_pow_two_of_testBit _ (fun i hi => h i hi)
  have h2 : 2 ^ n <= 2 ^ 31 := Nat.pow_le_pow_right (by decide) hn
  have h3 := tp_o (x := x) (by omega)
  omega
def bsf : Nat -> (Nat -> Bool) -> Int32
  | 0, _ => 0
  | n + 1, c => bsf n c ||| (if c n = true then 1 <<< (nI n &&& 31) else 0)
theorem bt_bsf (c : Nat -> Bool) : ∀ n, n <= 32 -> ∀ k, bt (bsf n c) k = (decide (k < n) && c k) := by
  intro n
  induction n with
  | zero =>
    intro _ k
    show bt 0 k = _
    rw [bt_zero]
    simp
  | succ n ih =>
    intro hn k
    show bt (bsf n c ||| (if c n = true then 1 <<< (nI n &&& 31) else 0)) k = _
    rw [bt_or, ih (by omega) k]
    by_cases hk : k = n
    · subst hk
      have e1 : bt (if c k = true then (1 : Int32) <<< (nI k &&& 31) else 0) k = c k := by
        cases c k
        · exact bt_zero k
        · show bt ((1 : Int32) <<< (nI k &&& 31)) k = true
          rw [bt_shlN k (by omega)]
          exact decide_eq_true rfl
      rw [e1]
      simp
    · have e1 : bt (if c n = true then (1 : Int32) <<< (nI n &&& 31) else 0) k = false := by
        cases c n
        · exact bt_zero k
        · show bt ((1 : Int32) <<< (nI n &&& 31)) k = false
          rw [bt_shlN n (by omega)]
          exact decide_eq_false hk
      have e2 : decide (k < n) = decide (k < n + 1) := decide_eq_decide.mpr (by omega)
      rw [e1, Bool.or_false, e2]
theorem bsf_rng (n : Nat) (hn : n <= 16) (c : Nat -> Bool) : 0 <= Int32.toInt (bsf n c) /\ Int32.toInt (bsf n c) <= 65535 := by
  have h := bt_bound (bsf n c) 16 (by decide) (fun k hk => by
    rw [bt_bsf c n (by omega)]
    have e : decide (k < n) = false := decide_eq_false (by omega)
    rw [e]; rfl)
  have e : ((2 ^ 16 : Nat) : Int) = 65536 := by decide
  omega
theorem bsf_st {c : Nat -> Bool} (x : Int32) (h : 0 <= x.toInt /\ x.toInt < 31) (v : Int32) (e : v = x + 1) : v.toInt = x.toInt + 1 /\ bsf v.toInt.toNat c = bsf x.toInt.toNat c ||| (if c x.toInt.toNat = true then 1 <<< (x &&& 31) else 0) := by
  have l1 : Int32.toInt (1 : Int32) = 1 := by decide
  have h1 : v.toInt = x.toInt + 1 := by
    rw [e, aAD _ _ (by omega), l1]
  refine ⟨h1, ?_⟩
  have h2 : v.toInt.toNat = x.toInt.toNat + 1 := by omega
  rw [h2]
  show bsf x.toInt.toNat c ||| (if c x.toInt.toNat = true then 1 <<< (nI x.toInt.toNat &&& 31) else 0) = _
  rw [<- tp_nI h.1]
theorem bsf_0 (c : Nat -> Bool) : bsf (Int32.toInt 0).toNat c = 0 := by
  rw [show Int32.toInt (0 : Int32) = 0 by decide]; rfl
theorem f_which {post : Int32 -> Prop} {p1 fr : Int32} {now : Nat -> Int32} (hf : 0 <= fr.toInt /\ fr.toInt <= 16) (hp : post (bsf (Int32.toInt fr).toNat (fun k => decide (now k = p1)))) : aIB post p1 fr now := by
  have l0 : Int32.toInt (0 : Int32) = 0 := by decide
  refine ⟨18, ?_⟩
  have key : ∀ (n : Nat) (x4 : Int32), 0 <= x4.toInt -> x4.toInt <= fr.toInt -> fr.toInt - x4.toInt < (n : Int) -> wb_X10_which_5 post fr now n p1 (bsf x4.toInt.toNat (fun k => decide (now k = p1))) x4 := by
    intro n
    induction n with
    | zero => intro x4 h1 h2 h3; exfalso; omega
    | succ n ih =>
      intro x4 h1 h2 h3
      refine And.intro (fun hc => ?_) (fun hc => ?_)
      · have hc := (aAO _ _).mp hc
        obtain rfl : x4 = fr := (zJ _ _).mpr (by omega)
        exact hp
      · have hc := mt (aAO _ _).mpr hc
        refine And.intro (aBZ (by omega)) (fun v1 e1 => And.intro (fun c1 => ?_) (fun c1 v4 e4 => ?_))
        · intro v2 e2 v3 e3
          obtain ⟨s1, s2⟩ := bsf_st (c := fun k => decide (now k = p1)) x4 (by omega) v3 e3
          have ck : decide (now x4.toInt.toNat = p1) = false := decide_eq_false (fun h9 => c1 (e1.trans h9))
          rw [ck] at s2
          rw [show v2 = bsf v3.toInt.toNat (fun k => decide (now k = p1)) from e2.trans s2.symm]
          exact ih v3 (by omega) (by omega) (by omega)
        · intro v2 e2 v3 e3
          obtain ⟨s1, s2⟩ := bsf_st (c := fun k => decide (now k = p1)) x4 (by omega) v3 e3
          have ck : decide (now x4.toInt.toNat = p1) = true := decide_eq_true (e1.symm.trans c1)
          rw [ck] at s2
          rw [e4] at e2
          rw [show v2 = bsf v3.toInt.toNat (fun k => decide (now k = p1)) from e2.trans s2.symm]
          exact ih v3 (by omega) (by omega) (by omega)
  have k0 := key 18 0 (by omega) (by omega) (by omega)
  rw [bsf_0] at k0
  exact k0
theorem f_ripeOnes {post : Int32 -> Prop} {p0 fr : Int32} {ripe : Nat -> Int32} (hf : 0 <= fr.toInt /\ fr.toInt <= 16) (hp : post (bsf (Int32.toInt fr).toNat (fun k => decide (ripe k <= p0)))) : aLg post p0 fr ripe := by
  have l0 : Int32.toInt (0 : Int32) = 0 := by decide
  refine ⟨18, ?_⟩
  have key : ∀ (n : Nat) (x3 : Int32), 0 <= x3.toInt -> x3.toInt <= fr.toInt -> fr.toInt - x3.toInt < (n : Int) -> wb_X10_ripeOnes_4 post fr ripe n p0 (bsf x3.toInt.toNat (fun k => decide (ripe k <= p0))) x3 := by
    intro n
    induction n with
    | zero => intro x3 h1 h2 h3; exfalso; omega
    | succ n ih =>
      intro x3 h1 h2 h3
      refine And.intro (fun hc => ?_) (fun hc => ?_)
      · have hc := (aAO _ _).mp hc
        obtain rfl : x3 = fr := (zJ _ _).mpr (by omega)
        exact hp
      · have hc := mt (aAO _ _).mpr hc
        refine And.intro (aBZ (by omega)) (fun v1 e1 => And.intro (fun c1 => ?_) (fun c1 v4 e4 => ?_))
        · intro v2 e2 v3 e3
          obtain ⟨s1, s2⟩ := bsf_st (c := fun k => decide (ripe k <= p0)) x3 (by omega) v3 e3
          have ck : decide (ripe x3.toInt.toNat <= p0) = false := decide_eq_false (fun h9 => by
            have h9 : v1 <= p0 := by rw [e1]; exact h9
            have := (aAO _ _).mp h9
            have := (aAd _ _).mp c1
            omega)
          rw [ck] at s2
          rw [show v2 = bsf v3.toInt.toNat (fun k => decide (ripe k <= p0)) from e2.trans s2.symm]
          exact ih v3 (by omega) (by omega) (by omega)
        · intro v2 e2 v3 e3
          obtain ⟨s1, s2⟩ := bsf_st (c := fun k => decide (ripe k <= p0)) x3 (by omega) v3 e3
          have ck : decide (ripe x3.toInt.toNat <= p0) = true := decide_eq_true (by
            show ripe x3.toNatClampNeg <= p0
            rw [<- e1]
            have := mt (aAd _ _).mpr c1
            exact (aAO _ _).mpr (by omega))
          rw [ck] at s2
          rw [e4] at e2
          rw [show v2 = bsf v3.toInt.toNat (fun k => decide (ripe k <= p0)) from e2.trans s2.symm]
          exact ih v3 (by omega) (by omega) (by omega)
  have k0 := key 18 0 (by omega) (by omega) (by omega)
  rw [bsf_0] at k0
  exact k0
theorem ar_lt {x1 r d : Int32} {n : Nat} {c1 : Nat -> Bool} {ripe : Nat -> Int32} (h1 : x1 = bsf n c1) (h2 : r = bsf n (fun k => decide (ripe k <= d))) (hr : ∀ k : Nat, 0 <= Int32.toInt (ripe k) /\ Int32.toInt (ripe k) <= 9) (hne : ¬ Int32.toInt (x1 &&& (r ^^^ (-1))) = Int32.toInt 0) (hn : n <= 32) : Int32.toInt d <= 8 := by
  rcases (show d.toInt < 9 \/ 9 <= d.toInt by omega) with h | h
  · omega
  · exfalso
    apply hne
    have e : x1 &&& (r ^^^ (-1)) = 0 := by
      apply bt_ext
      intro k hk
      rw [bt_and, bt_not _ k hk, h1, h2, bt_bsf _ n hn, bt_bsf _ n hn, bt_zero]
      have e : decide (ripe k <= d) = true := decide_eq_true ((aAO _ _).mpr (by have := hr k; omega))
      rw [e]
      cases decide (k < n) <;> simp
    rw [e]
def pcn : Nat -> Int32 -> Nat
  | 0, _ => 0
  | n + 1, x => pcn n x + (if bt x n = true then 1 else 0)
theorem pcn_le (n : Nat) (x : Int32) : pcn n x <= n := by
  induction n with
  | zero => exact Nat.le_refl _
  | succ n ih =>
    show pcn n x + (if bt x n = true then 1 else 0) <= n + 1
    split <;> omega
theorem pcn_same (x y : Int32) : ∀ n, (∀ k, k < n -> bt y k = bt x k) -> pcn n y = pcn n x := by
  intro n
  induction n with
  | zero => intro _; rfl
  | succ n ih =>
    intro h
    show pcn n y + (if bt y n = true then 1 else 0) = pcn n x + (if bt x n = true then 1 else 0)
    rw [ih (fun k hk => h k (by omega)), h n (by omega)]
theorem pcn_one (x y : Int32) (f : Nat) (hx : bt x f = true) (hy : bt y f = false) (he : ∀ k, k ≠ f -> bt y k = bt x k) : ∀ n, f < n -> pcn n y + 1 = pcn n x := by
  intro n
  induction n with
  | zero => intro h; omega
  | succ n ih =>
    intro h
    show pcn n y + (if bt y n = true then 1 else 0) + 1 = pcn n x + (if bt x n = true then 1 else 0)
    by_cases hn : f = n
    · subst hn
      rw [pcn_same x y f (fun k hk => he k (by omega)), hx, hy]
      simp
    · rw [he n (fun h => hn h.symm)]
      have := ih (by omega)
      omega
theorem pcn_pos (x f : Int32) {v1 v2 : Int32} (e1 : v1 = x >>> (f &&& 31)) (e2 : v2 = v1 &&& 1) (h : Int32.toInt v2 = Int32.toInt 1) (hf : 0 <= f.toInt /\ f.toInt <= 15) : 1 <= pcn 16 x := by
  have hb := has_1 e1 e2 h (by omega)
  have h1 := pcn_one x (x &&& ((1 <<< (f &&& 31)) ^^^ (-1))) f.toInt.toNat hb (by
    rw [bt_and, bt_not _ _ (by omega), bt_shl f (by omega)]
    simp) (fun k hk => by
    by_cases h32 : k < 32
    · rw [bt_and, bt_not _ _ h32, bt_shl f (by omega), decide_eq_false hk]
      simp
    · rw [bt_ge _ _ (by omega), bt_ge _ _ (by omega)]) 16 (by omega)
  omega
theorem pcn_clr (y f : Int32) {x v1 v2 v3 : Int32} (e1 : v1 = x >>> (f &&& 31)) (e2 : v2 = v1 &&& 1) (h : Int32.toInt v2 = Int32.toInt 1) (e3 : v3 = 1 <<< (f &&& 31)) (e4 : y = x &&& (v3 ^^^ (-1))) (hf : 0 <= f.toInt /\ f.toInt <= 15) : pcn 16 y + 1 = pcn 16 x := by
  have hb := has_1 e1 e2 h (by omega)
  rw [e4, e3]
  exact pcn_one x (x &&& ((1 <<< (f &&& 31)) ^^^ (-1))) f.toInt.toNat hb (by
    rw [bt_and, bt_not _ _ (by omega), bt_shl f (by omega)]
    simp) (fun k hk => by
    by_cases h32 : k < 32
    · rw [bt_and, bt_not _ _ h32, bt_shl f (by omega), decide_eq_false hk]
      simp
    · rw [bt_ge _ _ (by omega), bt_ge _ _ (by omega)]) 16 (by omega)
def hv (jD : Nat) (mLn oF rP : Int32) (qO qQ : Nat -> Int32) : Int32 := if rP < mLn /\ rP < oF then ((if jD = 1 then qO rP.toNatClampNeg else qQ rP.toNatClampNeg) &&& 255) else -1
theorem hv_neg {r : Nat} {a b c : Int32} {t u : Nat -> Int32} (h : ¬ (c < a /\ c < b)) : hv r a b c t u = -1 := if_neg h
theorem hv_pos {r : Nat} {a b c : Int32} {t u : Nat -> Int32} (h : c < a /\ c < b) : hv r a b c t u = ((if r = 1 then t c.toNatClampNeg else u c.toNatClampNeg) &&& 255) := if_pos h
theorem ti_ushr (x s : Int32) (k : Nat) (hs : (s.toUInt32 &&& Int32.toUInt32 31).toNat % 32 = k) (hx : 0 <= x.toInt) : Int32.toInt ((x.toUInt32 >>> (s.toUInt32 &&& Int32.toUInt32 31)).toInt32) = x.toInt / ((2 ^ k : Nat) : Int) := by
  obtain ⟨h1, h2⟩ := tp_n hx
  have h3 : ((x.toUInt32 >>> (s.toUInt32 &&& Int32.toUInt32 31)).toInt32).toBitVec.toNat = x.toBitVec.toNat >>> k := by
    show (x.toUInt32 >>> (s.toUInt32 &&& Int32.toUInt32 31)).toNat = _
    rw [UInt32.toNat_shiftRight, hs]
    rfl
  have h4 : x.toBitVec.toNat >>> k <= x.toBitVec.toNat := Nat.shiftRight_le _ _
  have h5 := tp_o (x := (x.toUInt32 >>> (s.toUInt32 &&& Int32.toUInt32 31)).toInt32) (by omega)
  rw [h5, h3, h1, Nat.shiftRight_eq_div_pow]
  rfl
section NTZ
variable {post : Int32 -> Prop} {B : Prop}
theorem n_74 {x0 x1 : Int32} (hb : B -> 0 <= x0.toInt /\ x0.toInt <= 16 /\ 0 <= x1.toInt /\ x1.toInt + x0.toInt / 2 <= 15) (hp : ∀ r : Int32, (B -> 0 <= r.toInt /\ r.toInt <= 15) -> post r) : aRE post x0 x1 := by
  refine hp _ (fun h => ?_)
  obtain ⟨h1, h2, h3, h4⟩ := hb h
  have q : Int32.toInt ((x0.toUInt32 >>> ((1 : Int32).toUInt32 &&& Int32.toUInt32 31)).toInt32) = x0.toInt / 2 := ti_ushr x0 1 1 (by decide) h1
  have a := aAD x1 ((x0.toUInt32 >>> ((1 : Int32).toUInt32 &&& Int32.toUInt32 31)).toInt32) (by omega)
  omega
theorem n_62 {x0 x1 : Int32} (hb : B -> 0 <= x0.toInt /\ x0.toInt <= 16 /\ 0 <= x1.toInt /\ (x1.toInt + 4 <= 15 \/ (x0.toInt <= 7 /\ x1.toInt <= 13))) (hp : ∀ r : Int32, (B -> 0 <= r.toInt /\ r.toInt <= 15) -> post r) : aRD post x0 x1 := by
  have l1 : Int32.toInt (4 : Int32) = 4 := by decide
  have l2 : Int32.toInt (2 : Int32) = 2 := by decide
  refine And.intro (fun c => ?_) (fun c v3 e3 v4 e4 => ?_)
  · have c := (aAO _ _).mp c
    exact n_74 (fun h => by have := hb h; omega) hp
  · have c := mt (aAO _ _).mpr c
    refine n_74 (fun h => ?_) hp
    have h0 := hb h
    have q : Int32.toInt ((x0.toUInt32 >>> ((2 : Int32).toUInt32 &&& Int32.toUInt32 31)).toInt32) = x0.toInt / 4 := ti_ushr x0 2 2 (by decide) h0.1
    rw [<- e4] at q
    have a := aAD x1 2 (by omega)
    rw [<- e3] at a
    omega
theorem n_49 {x0 x1 : Int32} (hb : B -> 0 <= x0.toInt /\ x0.toInt <= 256 /\ 0 <= x1.toInt /\ (x1.toInt <= 7 \/ (x0.toInt <= 127 /\ x1.toInt <= 9))) (hp : ∀ r : Int32, (B -> 0 <= r.toInt /\ r.toInt <= 15) -> post r) : aRB post x0 x1 := by
  have l1 : Int32.toInt (16 : Int32) = 16 := by decide
  have l2 : Int32.toInt (4 : Int32) = 4 := by decide
  refine And.intro (fun c => ?_) (fun c v3 e3 v4 e4 => ?_)
  · have c := (aAO _ _).mp c
    exact n_62 (fun h => by have := hb h; omega) hp
  · have c := mt (aAO _ _).mpr c
    refine n_62 (fun h => ?_) hp
    have h0 := hb h
    have q : Int32.toInt ((x0.toUInt32 >>> ((4 : Int32).toUInt32 &&& Int32.toUInt32 31)).toInt32) = x0.toInt / 16 := ti_ushr x0 4 4 (by decide) h0.1
    rw [<- e4] at q
    have a := aAD x1 4 (by omega)
    rw [<- e3] at a
    omega
theorem n_34 {x0 x1 : Int32} (hb : B -> 0 <= x0.toInt /\ x0.toInt <= 32767 /\ x1.toInt = 1) (hp : ∀ r : Int32, (B -> 0 <= r.toInt /\ r.toInt <= 15) -> post r) : aRA post x0 x1 := by
  have l1 : Int32.toInt (256 : Int32) = 256 := by decide
  have l2 : Int32.toInt (8 : Int32) = 8 := by decide
  refine And.intro (fun c => ?_) (fun c v3 e3 v4 e4 => ?_)
  · have c := (aAO _ _).mp c
    exact n_49 (fun h => by have := hb h; omega) hp
  · have c := mt (aAO _ _).mpr c
    refine n_49 (fun h => ?_) hp
    have h0 := hb h
    have q : Int32.toInt ((x0.toUInt32 >>> ((8 : Int32).toUInt32 &&& Int32.toUInt32 31)).toInt32) = x0.toInt / 256 := ti_ushr x0 8 8 (by decide) h0.1
    rw [<- e4] at q
    have a := aAD x1 8 (by omega)
    rw [<- e3] at a
    omega
end NTZ
theorem ntz_b {p v1 v2 : Int32} (e1 : v1 = p ^^^ (-1)) (e2 : v2 = v1 &&& (p - 1)) (h : 1 <= p.toInt /\ p.toInt <= 65535) : 0 <= v2.toInt /\ v2.toInt <= 32767 := by
  have l1 : Int32.toInt (1 : Int32) = 1 := by decide
  have s := aCA p 1 (by omega)
  have e15 : ((2 ^ 15 : Nat) : Int) = 32768 := by decide
  have e16 : ((2 ^ 16 : Nat) : Int) = 65536 := by decide
  have hb := bt_bound v2 15 (by decide) (fun k hk => by
    rw [e2, e1, bt_and]
    by_cases h16 : 16 <= k
    · rw [bt_lt (p - 1) 16 (by omega) k h16, Bool.and_false]
    · have hk2 : k = 15 := by omega
      subst hk2
      rw [bt_not _ 15 (by decide)]
      cases hp : bt p 15
      · have hp2 := bt_bound p 15 (by decide) (fun j hj => by
          by_cases hj2 : j = 15
          · rw [hj2]; exact hp
          · exact bt_lt p 16 (by omega) j (by omega))
        rw [bt_lt (p - 1) 15 (by omega) 15 (by decide), Bool.and_false]
      · rfl)
  omega
theorem f_ntz {post : Int32 -> Prop} {p0 : Int32} (hpost : ∀ r : Int32, ((1 <= Int32.toInt p0 /\ Int32.toInt p0 <= 65535) -> (0 <= Int32.toInt r /\ Int32.toInt r <= 15)) -> post r) : aOk post p0 := by
  have l0 : Int32.toInt (0 : Int32) = 0 := by decide
  have l1 : Int32.toInt (1 : Int32) = 1 := by decide
  have l2 : Int32.toInt (65536 : Int32) = 65536 := by decide
  intro v1 e1 v2 e2
  have hb := ntz_b (p := p0) e1 e2
  refine And.intro (fun c1 => And.intro (fun c2 => ?_) (fun c2 v9 e9 v10 e10 => ?_)) (fun c1 => ?_)
  · exact n_34 (fun h => by have := hb h; omega) hpost
  · have c2 := mt (aAO _ _).mpr c2
    exact n_34 (fun h => by have := hb h; omega) hpost
  · have c1 := mt (aAd _ _).mpr c1
    refine hpost _ (fun h => ?_)
    have hz := hb h
    obtain rfl : v2 = 0 := (zJ _ _).mpr (by omega)
    decide
/-! the reference's grass(): where a row of standings goes on -/
def GD (rows : Nat -> Int32) (n st k s : Int32) : Prop := ∀ a b : Nat, k.toInt <= (a : Int) -> (a : Int) < n.toInt -> (b : Int) < st.toInt -> ((a : Int) = k.toInt -> (b : Int) < s.toInt) -> rows (8 * a + b) ≠ 0 -> ((a : Int) = n.toInt - 1 \/ ∃ o : Nat, (o : Int) < st.toInt /\ o ≠ b /\ rows (8 * (a + 1) + o) ≠ 0)
def GD1 (rows : Nat -> Int32) (n st k s : Int32) : Prop := ∀ a b : Nat, k.toInt <= (a : Int) -> (a : Int) < n.toInt -> (b : Int) < st.toInt -> ((a : Int) = k.toInt -> (b : Int) <= s.toInt) -> rows (8 * a + b) ≠ 0 -> ((a : Int) = n.toInt - 1 \/ ∃ o : Nat, (o : Int) < st.toInt /\ o ≠ b /\ rows (8 * (a + 1) + o) ≠ 0)
def SU (rows : Nat -> Int32) (n k s o v : Int32) : Prop := v ≠ 0 -> (k.toInt = n.toInt - 1 \/ ∃ j : Nat, (j : Int) < o.toInt /\ (j : Int) ≠ s.toInt /\ rows (8 * (k.toInt.toNat + 1) + j) ≠ 0)
def SU1 (rows : Nat -> Int32) (n k s o v : Int32) : Prop := v ≠ 0 -> (k.toInt = n.toInt - 1 \/ ∃ j : Nat, (j : Int) <= o.toInt /\ (j : Int) ≠ s.toInt /\ rows (8 * (k.toInt.toNat + 1) + j) ≠ 0)
def AL (rows : Nat -> Int32) (v s : Int32) : Prop := v ≠ 0 -> ∃ j : Nat, (j : Int) < s.toInt /\ rows j ≠ 0
def AL1 (rows : Nat -> Int32) (v s : Int32) : Prop := v ≠ 0 -> ∃ j : Nat, (j : Int) <= s.toInt /\ rows j ≠ 0
def NX (rows : Nat -> Int32) (n st k last v : Int32) : Prop := v ≠ 0 -> k.toInt < n.toInt -> ∃ j : Nat, (j : Int) < st.toInt /\ (j : Int) ≠ last.toInt /\ rows (8 * k.toInt.toNat + j) ≠ 0
def EX (rows : Nat -> Int32) (st k last x : Int32) : Prop := ∃ j : Nat, x.toInt <= (j : Int) /\ (j : Int) < st.toInt /\ (j : Int) ≠ last.toInt /\ rows (8 * k.toInt.toNat + j) ≠ 0
def EX1 (rows : Nat -> Int32) (st k last x : Int32) : Prop := ∃ j : Nat, x.toInt + 1 <= (j : Int) /\ (j : Int) < st.toInt /\ (j : Int) ≠ last.toInt /\ rows (8 * k.toInt.toNat + j) ≠ 0
theorem z_i0 : Int32.toInt (0 : Int32) = 0 := by decide
theorem z_im : Int32.toInt (-1 : Int32) = -1 := by decide
theorem z_eq {v : Int32} (h : v.toInt = 0) : v = 0 := (zJ _ _).mpr (by rw [h]; decide)
section GRASS
variable {rows : Nat -> Int32} {n st k k' s s' o o' v w y x last i : Int32}
theorem GD_init (h : k.toInt = n.toInt - 1) : GD rows n st k s := fun a b h1 h2 _ _ _ => Or.inl (by omega)
theorem GD_dn (h : GD rows n st k s) (hs : st.toInt <= s.toInt) (hv : v.toInt = k.toInt - 1) : GD rows n st v 0 := by
  intro a b h1 h2 h3 h4 h5
  have z := z_i0
  refine h a b ?_ h2 h3 (fun _ => by omega) h5
  by_cases e : (a : Int) = v.toInt
  · have := h4 e; omega
  · omega
theorem GD_s (h : GD1 rows n st k s) (hs : s'.toInt = s.toInt + 1) : GD rows n st k s' := fun a b h1 h2 h3 h4 h5 => h a b h1 h2 h3 (fun e => by have := h4 e; omega) h5
theorem GD_eq (h : GD rows n st k s) (hk : k.toInt = k'.toInt) : GD rows n st k' s := fun a b h1 h2 h3 h4 h5 => h a b (by omega) h2 h3 (fun e => h4 (by omega)) h5
theorem AL_z (h : v.toInt = 0) : AL rows v s := fun h9 => absurd (z_eq h) h9
theorem AL1_z (h : v.toInt = 0) : AL1 rows v s := fun h9 => absurd (z_eq h) h9
theorem AL_le (h : AL rows v s) (hs : s.toInt <= s'.toInt) : AL rows v s' := fun h9 => by
  obtain ⟨j, h1, h2⟩ := h h9
  exact ⟨j, by omega, h2⟩
theorem AL_s (h : AL1 rows v s) (hs : s'.toInt = s.toInt + 1) : AL rows v s' := fun h9 => by
  obtain ⟨j, h1, h2⟩ := h h9
  exact ⟨j, by omega, h2⟩
theorem AL_up (h : AL rows v s) (e : w = v + (upd rows i.toNatClampNeg y) s.toNatClampNeg) (hi : i.toInt = s.toInt) (hs : 0 <= s.toInt) : AL1 (upd rows i.toNatClampNeg y) w s := by
  intro h9
  have ei : i.toNatClampNeg = i.toInt.toNat := rfl
  have es : s.toNatClampNeg = s.toInt.toNat := rfl
  by_cases hz : (upd rows i.toNatClampNeg y) s.toNatClampNeg = 0
  · rw [hz] at e
    have e2 : w = v := by rw [e]; exact Int32.add_zero v
    obtain ⟨j, h1, h2⟩ := h (by rw [<- e2]; exact h9)
    refine ⟨j, by omega, ?_⟩
    unfold upd
    rw [if_neg (by omega)]
    exact h2
  · exact ⟨s.toNatClampNeg, by omega, hz⟩
theorem SU_0 (h : v.toInt = 0 \/ k.toInt = n.toInt - 1) : SU rows n k s o v := by
  intro h9
  rcases h with h | h
  · exact absurd (z_eq h) h9
  · exact Or.inl h
theorem SU_1 (h : SU rows n k s o v) : SU1 rows n k s o v := by
  intro h9
  rcases h h9 with h | ⟨j, h1, h2, h3⟩
  · exact Or.inl h
  · exact Or.inr ⟨j, by omega, h2, h3⟩
theorem SU_add (h : SU rows n k s o v) (e : w = v + rows i.toNatClampNeg) (hi : i.toInt = 8 * (k.toInt + 1) + o.toInt) (hos : o.toInt ≠ s.toInt) (ho : 0 <= o.toInt) (hk : 0 <= k.toInt) : SU1 rows n k s o w := by
  intro h9
  have ei : i.toNatClampNeg = i.toInt.toNat := rfl
  by_cases hz : rows i.toNatClampNeg = 0
  · rw [hz] at e
    have e2 : w = v := by rw [e]; exact Int32.add_zero v
    exact SU_1 h (by rw [<- e2]; exact h9)
  · refine Or.inr ⟨o.toInt.toNat, by omega, by omega, ?_⟩
    rw [show 8 * (k.toInt.toNat + 1) + o.toInt.toNat = i.toNatClampNeg by omega]
    exact hz
theorem SU_s (h : SU1 rows n k s o v) (ho : o'.toInt = o.toInt + 1) : SU rows n k s o' v := by
  intro h9
  rcases h h9 with h | ⟨j, h1, h2, h3⟩
  · exact Or.inl h
  · exact Or.inr ⟨j, by omega, h2, h3⟩
theorem SU_le (h : SU rows n k s o v) (ho : o.toInt <= o'.toInt) : SU rows n k s o' v := by
  intro h9
  rcases h h9 with h | ⟨j, h1, h2, h3⟩
  · exact Or.inl h
  · exact Or.inr ⟨j, by omega, h2, h3⟩
theorem GD_up (h : GD rows n st k s) (hs : SU rows n k s st v) (hi : i.toInt = 8 * k.toInt + s.toInt) (hk : 0 <= k.toInt) (hb : 0 <= s.toInt /\ s.toInt < 8) (ht : st.toInt <= 8) : GD1 (upd rows i.toNatClampNeg v) n st k s := by
  have ei : i.toNatClampNeg = i.toInt.toNat := rfl
  have keep : ∀ a o : Nat, k.toInt < (a : Int) -> (upd rows i.toNatClampNeg v) (8 * a + o) = rows (8 * a + o) := by
    intro a o ha
    unfold upd
    rw [if_neg (by omega)]
  intro a b h1 h2 h3 h4 h5
  by_cases e : (a : Int) = k.toInt /\ (b : Int) = s.toInt
  · have e1 : 8 * a + b = i.toNatClampNeg := by omega
    rw [e1] at h5
    have e2 : (upd rows i.toNatClampNeg v) i.toNatClampNeg = v := by
      unfold upd
      rw [if_pos rfl]
    rw [e2] at h5
    rcases hs h5 with h6 | ⟨j, j1, j2, j3⟩
    · exact Or.inl (by omega)
    · refine Or.inr ⟨j, j1, by omega, ?_⟩
      rw [keep (a + 1) j (by omega)]
      rw [show a + 1 = k.toInt.toNat + 1 by omega]
      exact j3
  · have e1 : (upd rows i.toNatClampNeg v) (8 * a + b) = rows (8 * a + b) := by
      unfold upd
      rw [if_neg (by omega)]
    rw [e1] at h5
    rcases h a b h1 h2 h3 (fun e9 => by have := h4 e9; omega) h5 with h6 | ⟨j, j1, j2, j3⟩
    · exact Or.inl h6
    · refine Or.inr ⟨j, j1, j2, ?_⟩
      rw [keep (a + 1) j (by omega)]
      exact j3
theorem NX_0 (h : AL rows v st) : NX rows n st 0 (-1) v := by
  intro h9 _
  obtain ⟨j, h1, h2⟩ := h h9
  have z := z_im
  refine ⟨j, h1, by omega, ?_⟩
  rw [z_i0]
  rw [show 8 * (0 : Int).toNat + j = j by simp]
  exact h2
theorem EX_0 (h : NX rows n st k last v) (hv : 0 < v.toInt) (hk : k.toInt < n.toInt) : EX rows st k last 0 := by
  have z := z_i0
  obtain ⟨j, h1, h2, h3⟩ := h (fun e => by rw [e] at hv; omega) hk
  exact ⟨j, by omega, h1, h2, h3⟩
theorem EX_l (h : EX rows st k last x) (e : x.toInt = last.toInt) : EX1 rows st k last x := by
  obtain ⟨j, h0, h1, h2, h3⟩ := h
  exact ⟨j, by omega, h1, h2, h3⟩
theorem EX_r (h : EX rows st k last x) (e : Int32.toInt (rows i.toNatClampNeg) = Int32.toInt 0) (hi : i.toInt = 8 * k.toInt + x.toInt) (hk : 0 <= k.toInt) (hx : 0 <= x.toInt) : EX1 rows st k last x := by
  obtain ⟨j, h0, h1, h2, h3⟩ := h
  have ei : i.toNatClampNeg = i.toInt.toNat := rfl
  refine ⟨j, ?_, h1, h2, h3⟩
  by_cases hj : (j : Int) = x.toInt
  · exfalso
    apply h3
    rw [show 8 * k.toInt.toNat + j = i.toNatClampNeg by omega]
    exact (zJ _ _).mpr e
  · omega
theorem EX_s (h : EX1 rows st k last x) (e : w.toInt = x.toInt + 1) : EX rows st k last w := by
  obtain ⟨j, h0, h1, h2, h3⟩ := h
  exact ⟨j, by omega, h1, h2, h3⟩
theorem EX1_le (h : EX1 rows st k last x) (ht : st.toInt <= 8) : x.toInt + 1 <= 7 := by
  obtain ⟨j, h0, h1, h2, h3⟩ := h
  omega
theorem EX_le (h : EX rows st k last x) (ht : st.toInt <= 8) : x.toInt < st.toInt := by
  obtain ⟨j, h0, h1, h2, h3⟩ := h
  omega
theorem NX_s (h : GD rows n st (-1) 0) (hne : ¬ Int32.toInt (rows i.toNatClampNeg) = Int32.toInt 0) (hi : i.toInt = 8 * k.toInt + x.toInt) (hk : 0 <= k.toInt /\ k.toInt < n.toInt) (hx : 0 <= x.toInt /\ x.toInt < st.toInt) (hv : k'.toInt = k.toInt + 1) : NX rows n st k' x v := by
  intro _ h9
  have ei : i.toNatClampNeg = i.toInt.toNat := rfl
  have z := z_im
  rcases h k.toInt.toNat x.toInt.toNat (by omega) (by omega) (by omega) (fun e => by omega) (by
    rw [show 8 * k.toInt.toNat + x.toInt.toNat = i.toNatClampNeg by omega]
    exact fun e => hne (congrArg Int32.toInt e)) with h6 | ⟨j, j1, j2, j3⟩
  · omega
  · refine ⟨j, j1, by omega, ?_⟩
    rw [show k'.toInt.toNat = k.toInt.toNat + 1 by omega]
    exact j3
end GRASS
/-! the reference's route(): the table of the least moves -/
def mvo (foot told : Nat -> Int32) (a b : Int32) : Int32 := if a = -1 then 9 else 9 + (told (3 : Int32).toNatClampNeg * (if 0 <= foot a.toNatClampNeg - foot b.toNatClampNeg then foot a.toNatClampNeg - foot b.toNatClampNeg else 0 - (foot a.toNatClampNeg - foot b.toNatClampNeg)))
theorem mvo_rng {foot told : Nat -> Int32} (hf : ∀ k : Nat, 0 <= Int32.toInt (foot k) /\ Int32.toInt (foot k) <= 99) (ht : ∀ k : Nat, k = 3 -> 0 <= Int32.toInt (told k) /\ Int32.toInt (told k) <= 9) (a b : Int32) : 9 <= (mvo foot told a b).toInt /\ (mvo foot told a b).toInt <= 900 := by
  have l9 : Int32.toInt (9 : Int32) = 9 := by decide
  unfold mvo
  by_cases h : a = -1
  · rw [if_pos h]; omega
  · rw [if_neg h]
    have h1 := hf a.toNatClampNeg
    have h2 := hf b.toNatClampNeg
    have h3 := aCA (foot a.toNatClampNeg) (foot b.toNatClampNeg) (by omega)
    generalize foot a.toNatClampNeg - foot b.toNatClampNeg = d at h3 ⊢
    have h4 := ti_abs d (by omega)
    generalize (if 0 <= d then d else 0 - d) = q at h4 ⊢
    have h5 := ht (3 : Int32).toNatClampNeg (by decide)
    generalize told (3 : Int32).toNatClampNeg = t at h5 ⊢
    have hq : 0 <= q.toInt /\ q.toInt <= 99 := by omega
    have m1 : 0 <= t.toInt * q.toInt := Int.mul_nonneg h5.1 hq.1
    have m2 : t.toInt * q.toInt <= 9 * 99 := Int.mul_le_mul h5.2 hq.2 hq.1 (by omega)
    have h6 : Int32.toInt (t * q) = t.toInt * q.toInt := by
      rw [Int32.toInt_mul]; exact tp_b (by omega)
    have h7 := aAD 9 (t * q) (by omega)
    omega
theorem f_moveOf {post : Int32 -> Prop} {p0 p1 : Int32} {foot told : Nat -> Int32} (h0 : -1 <= Int32.toInt p0 /\ Int32.toInt p0 <= 7) (h1 : 0 <= Int32.toInt p1 /\ Int32.toInt p1 <= 7) (hp : post (mvo foot told p0 p1)) : bCI post p0 p1 foot told := by
  have z := z_im
  refine And.intro (fun c => ?_) (fun c => ?_)
  · have c2 := mt (zJ _ _).mpr c
    intro v1 e1
    refine And.intro (aBZ (by omega)) (fun v2 e2 => And.intro (aBZ (by omega)) (fun v3 e3 v4 e4 => ?_))
    have e : 9 + (v1 * v4) = mvo foot told p0 p1 := by
      unfold mvo
      rw [if_neg c, e4, e3, e2, e1]
    rw [e]; exact hp
  · have e : (9 : Int32) = mvo foot told p0 p1 := (if_pos c).symm
    rw [e]; exact hp
def ent (mv : Nat -> Int32) (f l : Int32) : Int := Int32.toInt (mv (256 * f.toInt.toNat + l.toInt.toNat))
def clr (l s : Int32) : Int32 := l &&& ((1 <<< (s &&& 31)) ^^^ (-1))
def lad (f : Int32) : Int32 := if f.toInt = 8 then -1 else f
def plc (a : Int32) : Int32 := if a.toInt = -1 then 8 else a
def VAL (st f l : Int32) : Prop := f.toInt = 8 \/ (f.toInt < st.toInt /\ bt l f.toInt.toNat = false)
def VALz (st f l : Int32) : Prop := l.toInt = 0 \/ VAL st f l
def LB (l st : Int32) : Prop := ∀ k : Nat, bt l k = true -> (k : Int) < st.toInt
def OKE (mv foot told : Nat -> Int32) (st f l : Int32) : Prop :=
  (0 <= ent mv f l /\ ent mv f l <= 1000 * l.toInt) /\
  (∀ s : Int32, 0 <= s.toInt -> s.toInt < st.toInt -> bt l s.toInt.toNat = true -> ent mv f l <= (mvo foot told (lad f) s).toInt + ent mv s (clr l s)) /\
  (l.toInt ≠ 0 -> ∃ s : Int32, 0 <= s.toInt /\ s.toInt < st.toInt /\ bt l s.toInt.toNat = true /\ ent mv f l = (mvo foot told (lad f) s).toInt + ent mv s (clr l s))
def MVa (mv foot told : Nat -> Int32) (st l : Int32) : Prop := ∀ a : Int32, 0 <= a.toInt -> a.toInt < l.toInt -> ∀ f : Int32, 0 <= f.toInt -> VAL st f a -> OKE mv foot told st f a
def MVb (mv foot told : Nat -> Int32) (st l f : Int32) : Prop := MVa mv foot told st l /\ ∀ g : Int32, 0 <= g.toInt -> g.toInt < f.toInt -> VAL st g l -> OKE mv foot told st g l
def MVb1 (mv foot told : Nat -> Int32) (st l f : Int32) : Prop := MVa mv foot told st l /\ ∀ g : Int32, 0 <= g.toInt -> g.toInt <= f.toInt -> VAL st g l -> OKE mv foot told st g l
def MVT (mv foot told : Nat -> Int32) (st : Int32) : Prop := ∀ a : Int32, 0 <= a.toInt -> LB a st -> ∀ f : Int32, 0 <= f.toInt -> VAL st f a -> OKE mv foot told st f a
def PB (mv foot told : Nat -> Int32) (l f s best : Int32) : Prop :=
  (∀ t : Int32, 0 <= t.toInt -> t.toInt < s.toInt -> bt l t.toInt.toNat = true -> best.toInt <= (mvo foot told (lad f) t).toInt + ent mv t (clr l t)) /\
  ((l.toInt = 0 /\ best.toInt = 0) \/ (l.toInt ≠ 0 /\ best.toInt = 1000000) \/ ∃ t : Int32, 0 <= t.toInt /\ t.toInt < s.toInt /\ bt l t.toInt.toNat = true /\ best.toInt = (mvo foot told (lad f) t).toInt + ent mv t (clr l t))
def PB1 (mv foot told : Nat -> Int32) (l f s best : Int32) : Prop :=
  (∀ t : Int32, 0 <= t.toInt -> t.toInt <= s.toInt -> bt l t.toInt.toNat = true -> best.toInt <= (mvo foot told (lad f) t).toInt + ent mv t (clr l t)) /\
  ((l.toInt = 0 /\ best.toInt = 0) \/ (l.toInt ≠ 0 /\ best.toInt = 1000000) \/ ∃ t : Int32, 0 <= t.toInt /\ t.toInt <= s.toInt /\ bt l t.toInt.toNat = true /\ best.toInt = (mvo foot told (lad f) t).toInt + ent mv t (clr l t))
theorem clr_bt (l s : Int32) (hs : 0 <= s.toInt /\ s.toInt < 32) (k : Nat) (hk : k < 32) : bt (clr l s) k = (bt l k && !decide (k = s.toInt.toNat)) := by
  unfold clr
  rw [bt_and, bt_not _ k hk, bt_shl s hs]
theorem clr_lt {l s : Int32} (h0 : 0 <= l.toInt) (hs : 0 <= s.toInt /\ s.toInt < 32) (hb : bt l s.toInt.toNat = true) : 0 <= (clr l s).toInt /\ (clr l s).toInt < l.toInt := by
  have h1 : 0 <= (clr l s).toInt /\ (clr l s).toInt <= l.toInt := aBx l ((1 <<< (s &&& 31)) ^^^ (-1)) h0
  have h2 : clr l s ≠ l := by
    intro e
    have h3 := clr_bt l s hs s.toInt.toNat (by omega)
    rw [e, hb] at h3
    simp at h3
  have h3 : (clr l s).toInt ≠ l.toInt := fun e => h2 ((zJ _ _).mpr e)
  omega
theorem clr_val {st l s : Int32} (hs : 0 <= s.toInt /\ s.toInt < st.toInt) (h8 : st.toInt <= 8) : VAL st s (clr l s) := by
  refine Or.inr ⟨hs.2, ?_⟩
  rw [clr_bt l s (by omega) _ (by omega)]
  simp
section ROUTE
variable {mv foot told : Nat -> Int32} {st l l' f f' s s' best w x at0 left i j r k0 k2 v v1 v2 v9 v10 v12 v13 : Int32}
theorem MVb_0 (h : MVa mv foot told st l) : MVb mv foot told st l 0 := ⟨h, fun g h1 h2 => by have z := z_i0; omega⟩
theorem MVb_s (h : MVb1 mv foot told st l f) (hf : f'.toInt = f.toInt + 1) : MVb mv foot told st l f' := ⟨h.1, fun g h1 h2 => h.2 g h1 (by omega)⟩
theorem MVb1_sk1 (h : MVb mv foot told st l f) (h8 : f.toInt < 8) (hst : st.toInt <= f.toInt) : MVb1 mv foot told st l f := by
  refine ⟨h.1, fun g h1 h2 hv => ?_⟩
  refine h.2 g h1 ?_ hv
  rcases hv with h3 | ⟨h3, -⟩ <;> omega
theorem MVb1_sk2 (h : MVb mv foot told st l f) (h8 : 0 <= f.toInt /\ f.toInt < 8) (e1 : v1 = l >>> (f &&& 31)) (e2 : v2 = v1 &&& 1) (hh : Int32.toInt v2 = Int32.toInt 1) : MVb1 mv foot told st l f := by
  have hb := has_1 e1 e2 hh (by omega)
  refine ⟨h.1, fun g h1 h2 hv => ?_⟩
  by_cases hg : g.toInt = f.toInt
  · obtain rfl : g = f := (zJ _ _).mpr hg
    rcases hv with h3 | ⟨-, h3⟩
    · omega
    · rw [hb] at h3; exact absurd h3 (by decide)
  · exact h.2 g h1 (by omega) hv
theorem MVa_s (h : MVb mv foot told st l f) (hf : 8 < f.toInt) (hl : l'.toInt = l.toInt + 1) (h8 : st.toInt <= 8) : MVa mv foot told st l' := by
  intro a h1 h2 g h3 hv
  by_cases ha : a.toInt = l.toInt
  · obtain rfl : a = l := (zJ _ _).mpr ha
    refine h.2 g h3 ?_ hv
    rcases hv with h4 | ⟨h4, -⟩ <;> omega
  · exact h.1 a h1 (by omega) g h3 hv
theorem MVa_0 (h : l.toInt = 0) : MVa mv foot told st l := fun a h1 h2 => by omega
theorem VAL_8 (h : f.toInt = 8) : VAL st f l := Or.inl h
theorem VAL_b (hf : 0 <= f.toInt /\ f.toInt < 8) (hs : f.toInt < st.toInt) (e1 : v1 = l >>> (f &&& 31)) (e2 : v2 = v1 &&& 1) (hh : ¬ Int32.toInt v2 = Int32.toInt 1) : VAL st f l := Or.inr ⟨hs, has_0 e1 e2 hh (by omega)⟩
theorem sh_pow (hst : 0 <= st.toInt /\ st.toInt <= 8) (e : v = 1 <<< (st &&& 31)) : v.toInt = ((2 ^ st.toInt.toNat : Nat) : Int) := by
  have e2 := tp_nI hst.1
  obtain ⟨n, hn⟩ : ∃ n, n = st.toInt.toNat := ⟨_, rfl⟩
  rw [<- hn] at e2 ⊢
  rw [e, e2]
  exact ti_s1 n (by omega)
theorem LB_of (e : v = 1 <<< (st &&& 31)) (hst : 0 <= st.toInt /\ st.toInt <= 8) (h0 : 0 <= l.toInt) (hc : l.toInt <= v.toInt - 1) : LB l st := by
  intro k hk
  have h1 := sh_pow hst e
  by_cases h2 : st.toInt.toNat <= k
  · rw [bt_lt l st.toInt.toNat (by omega) k h2] at hk
    exact absurd hk (by decide)
  · omega
theorem LB_c (h : LB l st) : LB (l &&& w) st := by
  intro k hk
  rw [bt_and] at hk
  exact h k (by cases hb : bt l k <;> simp_all)
theorem LB_e (h : LB l st) (e : l' = l &&& w) : LB l' st := by rw [e]; exact LB_c h
theorem MVT_of (h : MVa mv foot told st l) (e : v = 1 <<< (st &&& 31)) (hst : 0 <= st.toInt /\ st.toInt <= 8) (hc : v.toInt - 1 < l.toInt) : MVT mv foot told st := by
  intro a h1 h2 g h3 hv
  refine h a h1 ?_ g h3 hv
  have h4 := sh_pow hst e
  have h5 := bt_bound a st.toInt.toNat (by omega) (fun k hk => by
    cases hb : bt a k
    · rfl
    · have := h2 k hb; omega)
  omega
theorem PB_init (h : (l.toInt = 0 /\ best.toInt = 0) \/ (l.toInt ≠ 0 /\ best.toInt = 1000000)) : PB mv foot told l f 0 best := by
  refine ⟨fun t h1 h2 => by have z := z_i0; omega, ?_⟩
  rcases h with h | h
  · exact Or.inl h
  · exact Or.inr (Or.inl h)
theorem PB_s (h : PB1 mv foot told l f s best) (hs : s'.toInt = s.toInt + 1) : PB mv foot told l f s' best := by
  refine ⟨fun t h1 h2 => h.1 t h1 (by omega), ?_⟩
  rcases h.2 with h3 | h3 | ⟨t, h3, h4, h5⟩
  · exact Or.inl h3
  · exact Or.inr (Or.inl h3)
  · exact Or.inr (Or.inr ⟨t, h3, by omega, h5⟩)
theorem PB_1 (h : PB mv foot told l f s best) (hk : bt l s.toInt.toNat = false) : PB1 mv foot told l f s best := by
  refine ⟨fun t h1 h2 h3 => ?_, ?_⟩
  · by_cases ht : t.toInt = s.toInt
    · rw [ht, hk] at h3; exact absurd h3 (by decide)
    · exact h.1 t h1 (by omega) h3
  · rcases h.2 with h3 | h3 | ⟨t, h3, h4, h5⟩
    · exact Or.inl h3
    · exact Or.inr (Or.inl h3)
    · exact Or.inr (Or.inr ⟨t, h3, by omega, h5⟩)
theorem PB_skip (h : PB mv foot told l f s best) (hs : 0 <= s.toInt /\ s.toInt <= 8) (e1 : v1 = l >>> (s &&& 31)) (e2 : v2 = v1 &&& 1) (hh : ¬ Int32.toInt v2 = Int32.toInt 1) : PB1 mv foot told l f s best := PB_1 h (has_0 e1 e2 hh (by omega))
theorem lad_of (hk : (f.toInt = 8 /\ k2.toInt = -1) \/ (f.toInt ≠ 8 /\ k2.toInt = f.toInt)) : k2 = lad f := by
  unfold lad
  rcases hk with ⟨h1, h2⟩ | ⟨h1, h2⟩
  · rw [if_pos h1]; exact (zJ _ _).mpr (by rw [h2]; decide)
  · rw [if_neg h1]; exact (zJ _ _).mpr h2
theorem ent_i (hi : i.toInt = 256 * f.toInt + l.toInt) (hf : 0 <= f.toInt) (hl : 0 <= l.toInt) : ent mv f l = Int32.toInt (mv i.toNatClampNeg) := by
  have ei : i.toNatClampNeg = i.toInt.toNat := rfl
  unfold ent
  rw [show 256 * f.toInt.toNat + l.toInt.toNat = i.toNatClampNeg by omega]
theorem PB_add (h : PB mv foot told l f s k0) (hm : MVb mv foot told st l f) (hb : bt l s.toInt.toNat = true) (er : r = mvo foot told k2 s) (hk : (f.toInt = 8 /\ k2.toInt = -1) \/ (f.toInt ≠ 8 /\ k2.toInt = f.toInt)) (e9 : v9 = 1 <<< (s &&& 31)) (e10 : v10 = l &&& (v9 ^^^ (-1))) (e12 : v12 = r + mv i.toNatClampNeg) (hi : i.toInt = 256 * s.toInt + v10.toInt) (e13 : v13 = if v12 < k0 then v12 else k0) (hs : 0 <= s.toInt /\ s.toInt < st.toInt) (h8 : st.toInt <= 8) (hl : 0 <= l.toInt /\ l.toInt <= 255) (hf : ∀ k : Nat, 0 <= Int32.toInt (foot k) /\ Int32.toInt (foot k) <= 99) (ht : ∀ k : Nat, k = 3 -> 0 <= Int32.toInt (told k) /\ Int32.toInt (told k) <= 9) : PB1 mv foot told l f s v13 := by
  obtain rfl := lad_of hk
  have ec : v10 = clr l s := by rw [e10, e9]; rfl
  have c1 := clr_lt hl.1 (by omega) hb
  rw [<- ec] at c1
  have o := hm.1 v10 c1.1 c1.2 s hs.1 (by rw [ec]; exact clr_val hs h8)
  have o1 := o.1
  have m := mvo_rng hf ht (lad f) s
  have en := ent_i (mv := mv) hi hs.1 c1.1
  rw [en] at o1
  have a12 : v12.toInt = (mvo foot told (lad f) s).toInt + ent mv s (clr l s) := by
    rw [e12, er, aAD _ _ (by omega), <- ec, en]
  by_cases hc : v12 < k0
  · rw [if_pos hc] at e13
    have hc := (aAd _ _).mp hc
    subst e13
    refine ⟨fun t h1 h2 h3 => ?_, Or.inr (Or.inr ⟨s, hs.1, by omega, hb, a12⟩)⟩
    by_cases ht : t.toInt = s.toInt
    · obtain rfl : t = s := (zJ _ _).mpr ht
      omega
    · have := h.1 t h1 (by omega) h3; omega
  · rw [if_neg hc] at e13
    have hc := mt (aAd _ _).mpr hc
    subst e13
    refine ⟨fun t h1 h2 h3 => ?_, ?_⟩
    · by_cases ht : t.toInt = s.toInt
      · obtain rfl : t = s := (zJ _ _).mpr ht
        omega
      · exact h.1 t h1 (by omega) h3
    · rcases h.2 with h3 | h3 | ⟨t, h3, h4, h5⟩
      · exact Or.inl h3
      · exact Or.inr (Or.inl h3)
      · exact Or.inr (Or.inr ⟨t, h3, by omega, h5⟩)
theorem MVb1_up (h : MVb mv foot told st l f) (hv : VAL st f l) (hlb : LB l st) (hp : PB mv foot told l f s best) (hs : st.toInt <= s.toInt) (hi : i.toInt = 256 * f.toInt + l.toInt) (hf0 : 0 <= f.toInt /\ f.toInt <= 8) (h8 : 0 <= st.toInt /\ st.toInt <= 8) (hs8 : s.toInt <= st.toInt) (hl : 0 <= l.toInt /\ l.toInt <= 255) (hf : ∀ k : Nat, 0 <= Int32.toInt (foot k) /\ Int32.toInt (foot k) <= 99) (ht : ∀ k : Nat, k = 3 -> 0 <= Int32.toInt (told k) /\ Int32.toInt (told k) <= 9) : MVb1 (upd mv i.toNatClampNeg best) foot told st l f := by
  have ei : i.toNatClampNeg = i.toInt.toNat := rfl
  have keep : ∀ g a : Int32, 0 <= g.toInt -> 0 <= a.toInt -> a.toInt <= 255 -> (a.toInt ≠ l.toInt \/ g.toInt ≠ f.toInt) -> ent (upd mv i.toNatClampNeg best) g a = ent mv g a := by
    intro g a g1 a1 a2 hne
    unfold ent upd
    rw [if_neg (by omega)]
  have okk : ∀ g a : Int32, 0 <= g.toInt -> 0 <= a.toInt -> a.toInt <= l.toInt -> (a.toInt ≠ l.toInt \/ g.toInt ≠ f.toInt) -> OKE mv foot told st g a -> OKE (upd mv i.toNatClampNeg best) foot told st g a := by
    intro g a g1 a1 a2 hne o
    have kg := keep g a g1 a1 (by omega) hne
    refine ⟨by rw [kg]; exact o.1, fun t t1 t2 t3 => ?_, fun hz => ?_⟩
    · have c := clr_lt a1 (by omega) t3
      rw [kg, keep t (clr a t) t1 c.1 (by omega) (Or.inl (by omega))]
      exact o.2.1 t t1 t2 t3
    · obtain ⟨t, t1, t2, t3, t4⟩ := o.2.2 hz
      have c := clr_lt a1 (by omega) t3
      refine ⟨t, t1, t2, t3, ?_⟩
      rw [kg, keep t (clr a t) t1 c.1 (by omega) (Or.inl (by omega))]
      exact t4
  have own : ent (upd mv i.toNatClampNeg best) f l = best.toInt := by
    unfold ent upd
    rw [if_pos (by omega)]
  have bnd : ∀ t : Int32, 0 <= t.toInt -> t.toInt < st.toInt -> bt l t.toInt.toNat = true -> 0 <= ent mv t (clr l t) /\ ent mv t (clr l t) <= 1000 * (l.toInt - 1) := by
    intro t t1 t2 t3
    have c := clr_lt hl.1 (by omega) t3
    have o := (h.1 (clr l t) c.1 c.2 t t1 (clr_val ⟨t1, t2⟩ h8.2)).1
    omega
  refine ⟨fun a h1 h2 g h3 hv => okk g a h3 h1 (by omega) (Or.inl (by omega)) (h.1 a h1 h2 g h3 hv), fun g h1 h2 hv2 => ?_⟩
  by_cases hg : g.toInt = f.toInt
  · obtain rfl : g = f := (zJ _ _).mpr hg
    have le : ∀ t : Int32, 0 <= t.toInt -> t.toInt < st.toInt -> bt l t.toInt.toNat = true -> ent (upd mv i.toNatClampNeg best) g l <= (mvo foot told (lad g) t).toInt + ent (upd mv i.toNatClampNeg best) t (clr l t) := by
      intro t t1 t2 t3
      have c := clr_lt hl.1 (by omega) t3
      rw [own, keep t (clr l t) t1 c.1 (by omega) (Or.inl (by omega))]
      exact hp.1 t t1 (by omega) t3
    have att : l.toInt ≠ 0 -> ∃ t : Int32, 0 <= t.toInt /\ t.toInt < st.toInt /\ bt l t.toInt.toNat = true /\ best.toInt = (mvo foot told (lad g) t).toInt + ent mv t (clr l t) := by
      intro hz
      have ex : ∃ k : Nat, bt l k = true := by
        apply Classical.byContradiction
        intro hn
        apply hz
        have e : l = 0 := bt_ext (fun k hk => by
          rw [bt_zero]
          cases hb : bt l k
          · rfl
          · exact absurd ⟨k, hb⟩ hn)
        rw [e]; decide
      obtain ⟨k, hk⟩ := ex
      have hk2 := hlb k hk
      have en : Int32.toInt (nI k) = (k : Int) := by
        have q := tp_o (x := nI k) (by
          show (BitVec.ofNat 32 k).toNat < _
          rw [BitVec.toNat_ofNat]; omega)
        rw [q]
        show (((BitVec.ofNat 32 k).toNat : Nat) : Int) = _
        rw [BitVec.toNat_ofNat]; omega
      have b1 := hp.1 (nI k) (by omega) (by omega) (by rw [en]; simpa using hk)
      have b2 := bnd (nI k) (by omega) (by omega) (by rw [en]; simpa using hk)
      have b3 := mvo_rng hf ht (lad g) (nI k)
      rcases hp.2 with h3 | h3 | ⟨t, t1, t2, t3, t4⟩
      · omega
      · omega
      · exact ⟨t, t1, by omega, t3, t4⟩
    refine ⟨?_, le, fun hz => ?_⟩
    · rw [own]
      by_cases hz : l.toInt = 0
      · rcases hp.2 with h3 | h3 | ⟨t, t1, t2, t3, t4⟩
        · omega
        · omega
        · have c := clr_lt hl.1 (by omega) t3
          omega
      · obtain ⟨t, t1, t2, t3, t4⟩ := att hz
        have b2 := bnd t t1 t2 t3
        have b3 := mvo_rng hf ht (lad g) t
        omega
    · obtain ⟨t, t1, t2, t3, t4⟩ := att hz
      have c := clr_lt hl.1 (by omega) t3
      refine ⟨t, t1, t2, t3, ?_⟩
      rw [own, keep t (clr l t) t1 c.1 (by omega) (Or.inl (by omega))]
      exact t4
  · exact okk g l h1 hl.1 (by omega) (Or.inr hg) (h.2 g h1 (by omega) hv2)
def RtX (mv foot told : Nat -> Int32) (st at0 left x : Int32) : Prop := ∃ s : Int32, x.toInt <= s.toInt /\ 0 <= s.toInt /\ s.toInt < st.toInt /\ bt left s.toInt.toNat = true /\ ent mv (plc at0) left = (mvo foot told at0 s).toInt + ent mv s (clr left s)
def RtY (mv foot told : Nat -> Int32) (st at0 left x : Int32) : Prop := ∃ s : Int32, x.toInt + 1 <= s.toInt /\ 0 <= s.toInt /\ s.toInt < st.toInt /\ bt left s.toInt.toNat = true /\ ent mv (plc at0) left = (mvo foot told at0 s).toInt + ent mv s (clr left s)
theorem plc_n (h : -1 <= at0.toInt /\ at0.toInt <= 7) : 0 <= (plc at0).toInt /\ lad (plc at0) = at0 /\ ((at0.toInt = -1 /\ (plc at0).toInt = 8) \/ (at0.toInt ≠ -1 /\ (plc at0).toInt = at0.toInt)) := by
  have l8 : Int32.toInt (8 : Int32) = 8 := by decide
  unfold plc lad
  by_cases e : at0.toInt = -1
  · rw [if_pos e, if_pos l8]
    exact ⟨by omega, ((zJ _ _).mpr (by rw [e]; decide)), by omega⟩
  · rw [if_neg e, if_neg (by omega)]
    exact ⟨by omega, rfl, by omega⟩
theorem RtX_0 (h : MVT mv foot told st) (hl : LB left st) (hv : VALz st (plc at0) left) (h0 : 0 <= left.toInt) (hne : ¬ Int32.toInt left = Int32.toInt 0) (ha : -1 <= at0.toInt /\ at0.toInt <= 7) : RtX mv foot told st at0 left 0 := by
  have z := z_i0
  obtain ⟨p1, p2, -⟩ := plc_n ha
  obtain ⟨s, s1, s2, s3, s4⟩ := (h left h0 hl (plc at0) p1 (hv.resolve_left (by omega))).2.2 (by omega)
  rw [p2] at s4
  exact ⟨s, by omega, s1, s2, s3, s4⟩
theorem RtX_h (h : RtX mv foot told st at0 left x) (hx : 0 <= x.toInt /\ x.toInt <= 7) (e1 : v1 = left >>> (x &&& 31)) (e2 : v2 = v1 &&& 1) (hh : ¬ Int32.toInt v2 = Int32.toInt 1) : RtY mv foot told st at0 left x := by
  have hb := has_0 e1 e2 hh (by omega)
  obtain ⟨s, s0, s1, s2, s3, s4⟩ := h
  refine ⟨s, ?_, s1, s2, s3, s4⟩
  by_cases e : s.toInt = x.toInt
  · rw [e, hb] at s3; exact absurd s3 (by decide)
  · omega
theorem RtX_n (h : RtX mv foot told st at0 left x) (hm : MVT mv foot told st) (hl : LB left st) (er : r = mvo foot told at0 x) (e9 : v9 = 1 <<< (x &&& 31)) (e10 : v10 = left &&& (v9 ^^^ (-1))) (e12 : v12 = r + mv i.toNatClampNeg) (hne : ¬ Int32.toInt v12 = Int32.toInt (mv j.toNatClampNeg)) (hi : i.toInt = 256 * x.toInt + v10.toInt) (hj : (at0.toInt = -1 /\ j.toInt = 2048 + left.toInt) \/ (at0.toInt ≠ -1 /\ j.toInt = 256 * at0.toInt + left.toInt)) (ha : -1 <= at0.toInt /\ at0.toInt <= 7) (hx : 0 <= x.toInt /\ x.toInt <= 7) (h8 : st.toInt <= 8) (h0 : 0 <= left.toInt /\ left.toInt <= 255) (hf : ∀ k : Nat, 0 <= Int32.toInt (foot k) /\ Int32.toInt (foot k) <= 99) (ht : ∀ k : Nat, k = 3 -> 0 <= Int32.toInt (told k) /\ Int32.toInt (told k) <= 9) : RtY mv foot told st at0 left x := by
  obtain ⟨s, s0, s1, s2, s3, s4⟩ := h
  refine ⟨s, ?_, s1, s2, s3, s4⟩
  by_cases e : s.toInt = x.toInt
  · exfalso
    obtain rfl : s = x := (zJ _ _).mpr e
    apply hne
    obtain ⟨p1, p2, p3⟩ := plc_n ha
    have ec : v10 = clr left s := by rw [e10, e9]; rfl
    have c := clr_lt h0.1 (by omega) s3
    have o := (hm (clr left s) c.1 (LB_c hl) s s1 (clr_val ⟨s1, s2⟩ h8)).1
    have en : ent mv s (clr left s) = Int32.toInt (mv i.toNatClampNeg) := ent_i (by rw [<- ec]; exact hi) s1 c.1
    have ej : ent mv (plc at0) left = Int32.toInt (mv j.toNatClampNeg) := ent_i (by omega) p1 h0.1
    have m := mvo_rng hf ht at0 s
    rw [<- ej, s4, e12, er, aAD _ _ (by omega), en]
  · omega
theorem RtX_s (h : RtY mv foot told st at0 left x) (e : w.toInt = x.toInt + 1) : RtX mv foot told st at0 left w := by
  obtain ⟨s, s0, s1, s2, s3, s4⟩ := h
  exact ⟨s, by omega, s1, s2, s3, s4⟩
theorem RtY_le (h : RtY mv foot told st at0 left x) (h8 : st.toInt <= 8) : x.toInt + 1 <= 7 := by
  obtain ⟨s, s0, s1, s2, s3, s4⟩ := h
  omega
theorem VAL_c (e : l' = left &&& (v ^^^ (-1))) (ev : v = 1 <<< (x &&& 31)) (hl : LB left st) (e1 : v1 = left >>> (x &&& 31)) (e2 : v2 = v1 &&& 1) (hh : Int32.toInt v2 = Int32.toInt 1) (hx : 0 <= x.toInt /\ x.toInt <= 7) : VAL st (plc x) l' := by
  have hb := hl _ (has_1 e1 e2 hh (by omega))
  have p := plc_n (at0 := x) (by omega)
  refine Or.inr ⟨by omega, ?_⟩
  rw [show (plc x).toInt.toNat = x.toInt.toNat by omega, e, ev]
  have := clr_bt left x (by omega) x.toInt.toNat (by omega)
  unfold clr at this
  rw [this]
  simp
theorem VAL_i {y p : Int32} (ev : v = 1 <<< (y &&& 31)) (ey : x = y) (hx : 0 <= x.toInt /\ x.toInt <= 7) (hs : x.toInt < st.toInt) : VAL st (plc x) (p &&& (v ^^^ (-1))) := by
  have q := plc_n (at0 := x) (by omega)
  refine Or.inr ⟨by omega, ?_⟩
  rw [show (plc x).toInt.toNat = x.toInt.toNat by omega, ev, <- ey]
  have := clr_bt p x (by omega) x.toInt.toNat (by omega)
  unfold clr at this
  rw [this]
  simp
theorem VAL_p (hx : x.toInt = -1) : VAL st (plc x) l := by
  have q := plc_n (at0 := x) (by omega)
  exact Or.inl (by omega)
theorem VALz_p (hx : x.toInt = -1) : VALz st (plc x) l := Or.inr (VAL_p hx)
theorem VALz_c (e : l' = left &&& (v ^^^ (-1))) (ev : v = 1 <<< (x &&& 31)) (hl : LB left st) (e1 : v1 = left >>> (x &&& 31)) (e2 : v2 = v1 &&& 1) (hh : Int32.toInt v2 = Int32.toInt 1) (hx : 0 <= x.toInt /\ x.toInt <= 7) : VALz st (plc x) l' := Or.inr (VAL_c e ev hl e1 e2 hh hx)
theorem VALz_i {y p v' : Int32} (ev : v = 1 <<< (y &&& 31)) (ey : x = y) (hx : 0 <= x.toInt /\ x.toInt <= 7) (hs : x.toInt < st.toInt \/ st.toInt <= 0) (es : v' = 1 <<< (st &&& 31)) (hst : 0 <= st.toInt /\ st.toInt <= 8) (h0 : 0 <= p.toInt) (hc : p.toInt <= v'.toInt - 1) : VALz st (plc x) (p &&& (v ^^^ (-1))) := by
  rcases hs with hs | hs
  · exact Or.inr (VAL_i ev ey hx hs)
  · left
    have h1 := sh_pow hst es
    rw [show st.toInt.toNat = 0 by omega] at h1
    have h2 : v'.toInt = 1 := h1
    have h3 := aBx p (v ^^^ (-1)) h0
    omega
end ROUTE
