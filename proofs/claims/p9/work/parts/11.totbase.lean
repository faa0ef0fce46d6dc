theorem tp_o {x : Int32} (h : x.toBitVec.toNat < 2147483648) : x.toInt = (x.toBitVec.toNat : Int) := by
  show x.toBitVec.toInt = _
  rw [BitVec.toInt_eq_toNat_cond]
  rw [if_pos (by omega)]
theorem tp_n {x : Int32} (h : 0 ≤ x.toInt) : x.toInt = (x.toBitVec.toNat : Int) ∧ x.toBitVec.toNat < 2147483648 := by
  have h1 : x.toInt = if 2 * x.toBitVec.toNat < 2 ^ 32 then (x.toBitVec.toNat : Int) else (x.toBitVec.toNat : Int) - (2 ^ 32 : Nat) := BitVec.toInt_eq_toNat_cond _
  have h2 := x.toBitVec.isLt
  split at h1 <;> omega
theorem tp_r (x : Int32) : -2147483648 ≤ x.toInt ∧ x.toInt ≤ 2147483647 := by
  have h1 : x.toInt = if 2 * x.toBitVec.toNat < 2 ^ 32 then (x.toBitVec.toNat : Int) else (x.toBitVec.toNat : Int) - (2 ^ 32 : Nat) := BitVec.toInt_eq_toNat_cond _
  have h2 := x.toBitVec.isLt
  split at h1 <;> omega
theorem tp_b {n : Int} (h : -2147483648 ≤ n ∧ n ≤ 2147483647) : n.bmod (2 ^ 32) = n := Int.bmod_eq_of_le (by omega) (by omega)
theorem ta_add (x y : Int32) (h : -2147483648 ≤ x.toInt + y.toInt ∧ x.toInt + y.toInt ≤ 2147483647) : Int32.toInt (x + y) = x.toInt + y.toInt := by
  rw [Int32.toInt_add]; exact tp_b h
theorem ta_sub (x y : Int32) (h : -2147483648 ≤ x.toInt - y.toInt ∧ x.toInt - y.toInt ≤ 2147483647) : Int32.toInt (x - y) = x.toInt - y.toInt := by
  rw [Int32.toInt_sub]; exact tp_b h
theorem ta_neg (x : Int32) (h : -2147483648 < x.toInt) : Int32.toInt (-x) = - x.toInt := by
  rw [Int32.toInt_neg]; exact tp_b (by have := tp_r x; omega)
theorem ta_mulc (x c : Int32) {k : Int} (hk : c.toInt = k) (h : -2147483648 ≤ x.toInt * k ∧ x.toInt * k ≤ 2147483647) : Int32.toInt (x * c) = x.toInt * k := by
  rw [Int32.toInt_mul, hk]; exact tp_b h
theorem ta_cmul (c x : Int32) {k : Int} (hk : c.toInt = k) (h : -2147483648 ≤ x.toInt * k ∧ x.toInt * k ≤ 2147483647) : Int32.toInt (c * x) = x.toInt * k := by
  rw [Int32.toInt_mul, hk, Int.mul_comm]; exact tp_b h
theorem ti_andr (x y : Int32) (h : 0 ≤ y.toInt) : 0 ≤ Int32.toInt (x &&& y) ∧ Int32.toInt (x &&& y) ≤ y.toInt := by
  obtain ⟨h1, h2⟩ := tp_n h
  have h3 : (x &&& y).toBitVec.toNat ≤ y.toBitVec.toNat := by
    rw [Int32.toBitVec_and, BitVec.toNat_and]; exact Nat.and_le_right
  have h4 := tp_o (x := x &&& y) (by omega)
  omega
theorem ti_andl (x y : Int32) (h : 0 ≤ x.toInt) : 0 ≤ Int32.toInt (x &&& y) ∧ Int32.toInt (x &&& y) ≤ x.toInt := by
  obtain ⟨h1, h2⟩ := tp_n h
  have h3 : (x &&& y).toBitVec.toNat ≤ x.toBitVec.toNat := by
    rw [Int32.toBitVec_and, BitVec.toNat_and]; exact Nat.and_le_left
  have h4 := tp_o (x := x &&& y) (by omega)
  omega
theorem ti_or (k : Nat) (B : Int) (x y : Int32) (hk : k ≤ 31 ∧ ((2 ^ k : Nat) : Int) = B) (h1 : 0 ≤ x.toInt ∧ x.toInt < B) (h2 : 0 ≤ y.toInt ∧ y.toInt < B) : 0 ≤ Int32.toInt (x ||| y) ∧ Int32.toInt (x ||| y) < B := by
  obtain ⟨a1, a2⟩ := tp_n h1.1
  obtain ⟨b1, b2⟩ := tp_n h2.1
  have h3 : (x ||| y).toBitVec.toNat < 2 ^ k := by
    rw [Int32.toBitVec_or, BitVec.toNat_or]; exact Nat.or_lt_two_pow (by omega) (by omega)
  have h4 : 2 ^ k ≤ 2 ^ 31 := Nat.pow_le_pow_right (by decide) hk.1
  have h5 := tp_o (x := x ||| y) (by omega)
  omega
theorem ti_xor (k : Nat) (B : Int) (x y : Int32) (hk : k ≤ 31 ∧ ((2 ^ k : Nat) : Int) = B) (h1 : 0 ≤ x.toInt ∧ x.toInt < B) (h2 : 0 ≤ y.toInt ∧ y.toInt < B) : 0 ≤ Int32.toInt (x ^^^ y) ∧ Int32.toInt (x ^^^ y) < B := by
  obtain ⟨a1, a2⟩ := tp_n h1.1
  obtain ⟨b1, b2⟩ := tp_n h2.1
  have h3 : (x ^^^ y).toBitVec.toNat < 2 ^ k := by
    rw [Int32.toBitVec_xor, BitVec.toNat_xor]; exact Nat.xor_lt_two_pow (by omega) (by omega)
  have h4 : 2 ^ k ≤ 2 ^ 31 := Nat.pow_le_pow_right (by decide) hk.1
  have h5 := tp_o (x := x ^^^ y) (by omega)
  omega
theorem tp_nI {x : Int32} (h : 0 ≤ x.toInt) : x = nI x.toInt.toNat := by
  obtain ⟨h1, h2⟩ := tp_n h
  apply Int32.toBitVec_inj.mp
  apply BitVec.eq_of_toNat_eq
  show _ = (BitVec.ofNat 32 _).toNat
  rw [BitVec.toNat_ofNat]
  omega
theorem ti_s1 : ∀ n, n < 31 → Int32.toInt ((1 : Int32) <<< (nI n &&& 31)) = ((2 ^ n : Nat) : Int) := by decide +kernel
theorem ti_shl1 (k : Nat) (B : Int) (n : Int32) (hk : k ≤ 30 ∧ ((2 ^ k : Nat) : Int) = B) (h : 0 ≤ n.toInt ∧ n.toInt ≤ (k : Int)) : 1 ≤ Int32.toInt (1 <<< (n &&& 31)) ∧ Int32.toInt (1 <<< (n &&& 31)) ≤ B := by
  rw [tp_nI h.1, ti_s1 _ (by omega)]
  have h1 : 2 ^ n.toInt.toNat ≤ 2 ^ k := Nat.pow_le_pow_right (by decide) (by omega)
  have h2 : 0 < 2 ^ n.toInt.toNat := Nat.two_pow_pos _
  omega
theorem ti_s8 : ∀ n, n < 16 → Int32.toInt ((nI n) <<< ((8 : Int32) &&& 31)) = (n : Int) * 256 := by decide +kernel
theorem ti_shl8 (x : Int32) (h : 0 ≤ x.toInt ∧ x.toInt ≤ 15) : Int32.toInt (x <<< (8 &&& 31)) = x.toInt * 256 := by
  have h1 : Int32.toInt ((nI x.toInt.toNat) <<< ((8 : Int32) &&& 31)) = (x.toInt.toNat : Int) * 256 := ti_s8 _ (by omega)
  rw [← tp_nI h.1] at h1
  rw [h1]; omega
theorem ti_shr (x y : Int32) (h : 0 ≤ x.toInt) : 0 ≤ Int32.toInt (x >>> (y &&& 31)) ∧ Int32.toInt (x >>> (y &&& 31)) ≤ x.toInt := by
  have h1 : Int32.toInt (x >>> (y &&& 31)) = x.toInt >>> ((y &&& 31).toBitVec.smod 32).toNat := by
    show BitVec.toInt (Int32.toBitVec (x >>> (y &&& 31))) = _
    rw [Int32.toBitVec_shiftRight]
    exact BitVec.toInt_sshiftRight
  rw [h1]
  generalize ((y &&& 31).toBitVec.smod 32).toNat = n
  rw [Int.shiftRight_eq_div_pow]
  have h2 : (0 : Int) < ((2 ^ n : Nat) : Int) := by exact_mod_cast Nat.two_pow_pos n
  refine ⟨Int.ediv_nonneg h (by omega), ?_⟩
  exact Int.ediv_le_self _ h
theorem ti_i2b (x : Int32) : -128 ≤ Int32.toInt (x.toInt8.toInt32) ∧ Int32.toInt (x.toInt8.toInt32) ≤ 127 := by
  rw [Int8.toInt_toInt32]
  have h1 := x.toInt8.toInt_lt
  have h2 := x.toInt8.le_toInt
  omega
theorem ti_i2be (x : Int32) (h : -128 ≤ x.toInt ∧ x.toInt ≤ 127) : Int32.toInt (x.toInt8.toInt32) = x.toInt := by
  rw [Int8.toInt_toInt32, Int32.toInt_toInt8]
  exact Int.bmod_eq_of_le (by omega) (by omega)
theorem ti_i2s (x : Int32) : -32768 ≤ Int32.toInt (x.toInt16.toInt32) ∧ Int32.toInt (x.toInt16.toInt32) ≤ 32767 := by
  rw [Int16.toInt_toInt32]
  have h1 := x.toInt16.toInt_lt
  have h2 := x.toInt16.le_toInt
  omega
theorem ti_i2c (x : Int32) : 0 ≤ Int32.toInt ((x.toUInt32 % 65536).toInt32) ∧ Int32.toInt ((x.toUInt32 % 65536).toInt32) ≤ 65535 := by
  have h1 : ((x.toUInt32 % 65536).toInt32).toBitVec.toNat < 65536 := by
    show (x.toUInt32 % 65536).toNat < 65536
    rw [UInt32.toNat_mod]
    exact Nat.mod_lt _ (by decide)
  have h2 := tp_o (x := (x.toUInt32 % 65536).toInt32) (by omega)
  omega
theorem ti_nar_byte (x : Int32) : -128 ≤ Int32.toInt (vp_nar .byte x) ∧ Int32.toInt (vp_nar .byte x) ≤ 127 := ti_i2b x
theorem ti_nar_char (x : Int32) : 0 ≤ Int32.toInt (vp_nar .char x) ∧ Int32.toInt (vp_nar .char x) ≤ 65535 := ti_i2c x
theorem ti_nar_boolean (x : Int32) : 0 ≤ Int32.toInt (vp_nar .boolean x) ∧ Int32.toInt (vp_nar .boolean x) ≤ 1 := ti_andr x 1 (by decide)
theorem ti_min (x y : Int32) : Int32.toInt (if y < x then y else x) ≤ x.toInt ∧ Int32.toInt (if y < x then y else x) ≤ y.toInt ∧ (Int32.toInt (if y < x then y else x) = x.toInt ∨ Int32.toInt (if y < x then y else x) = y.toInt) := by
  by_cases h : y < x
  · rw [if_pos h]; have := (fa_lt _ _).mp h; omega
  · rw [if_neg h]; have := mt (fa_lt _ _).mpr h; omega
theorem ti_max (x y : Int32) : x.toInt ≤ Int32.toInt (if x < y then y else x) ∧ y.toInt ≤ Int32.toInt (if x < y then y else x) ∧ (Int32.toInt (if x < y then y else x) = x.toInt ∨ Int32.toInt (if x < y then y else x) = y.toInt) := by
  by_cases h : x < y
  · rw [if_pos h]; have := (fa_lt _ _).mp h; omega
  · rw [if_neg h]; have := mt (fa_lt _ _).mpr h; omega
theorem ti_abs (y : Int32) (h : -2147483648 < y.toInt) : (0 ≤ y.toInt ∧ Int32.toInt (if 0 ≤ y then y else 0 - y) = y.toInt) ∨ (y.toInt < 0 ∧ Int32.toInt (if 0 ≤ y then y else 0 - y) = - y.toInt) := by
  have l0 : Int32.toInt (0 : Int32) = 0 := (by decide)
  by_cases h1 : 0 ≤ y
  · rw [if_pos h1]; have := (fa_le _ _).mp h1; omega
  · rw [if_neg h1]; have := mt (fa_le _ _).mpr h1; have h2 := ta_sub 0 y (by have := tp_r y; omega); omega
theorem t_in {x : Int32} {n : Nat} (h : 0 ≤ x.toInt ∧ x.toInt < (n : Int)) : vp_in x n := by
  intro hc
  have l0 : Int32.toInt (0 : Int32) = 0 := (by decide)
  have e : x.toNatClampNeg = x.toInt.toNat := rfl
  rcases hc with hc | hc
  · have := (fa_lt _ _).mp hc; omega
  · omega
theorem t_bool {x : Int32} (h : 0 ≤ x.toInt ∧ x.toInt ≤ 1) : narrow .boolean (.int x) = .int x := by
  rcases (show x.toInt = 0 ∨ x.toInt = 1 by omega) with h1 | h1
  · obtain rfl : x = 0 := (fa_eq _ _).mpr (by rw [h1]; decide)
    rfl
  · obtain rfl : x = 1 := (fa_eq _ _).mpr (by rw [h1]; decide)
    rfl
theorem t_upd {f : Nat → Int32} {i : Nat} {v : Int32} {lo hi : Int} (h : ∀ k, lo ≤ Int32.toInt (f k) ∧ Int32.toInt (f k) ≤ hi) (hv : lo ≤ v.toInt ∧ v.toInt ≤ hi) : ∀ k : Nat, lo ≤ Int32.toInt (upd f i v k) ∧ Int32.toInt (upd f i v k) ≤ hi := by
  intro k
  unfold upd
  split
  · exact hv
  · exact h k
theorem t_updc {f : Nat → Int32} {i : Nat} {v : Int32} {lo hi : Int} {C : Nat → Prop} (h : ∀ k, C k → lo ≤ Int32.toInt (f k) ∧ Int32.toInt (f k) ≤ hi) (hv : C i → lo ≤ v.toInt ∧ v.toInt ≤ hi) : ∀ k : Nat, C k → lo ≤ Int32.toInt (upd f i v k) ∧ Int32.toInt (upd f i v k) ≤ hi := by
  intro k hk
  unfold upd
  split
  · next h1 => exact hv (h1 ▸ hk)
  · exact h k hk
theorem ti_subset (x y : Int32) (h : x &&& (y ^^^ (-1)) = 0) (hy : 0 ≤ y.toInt) : 0 ≤ x.toInt ∧ x.toInt ≤ y.toInt := by
  have h1 : x = x &&& y := by
    apply Int32.toBitVec_inj.mp
    have h2 := congrArg Int32.toBitVec h
    rw [Int32.toBitVec_and, Int32.toBitVec_xor] at h2
    rw [Int32.toBitVec_and]
    apply BitVec.eq_of_getLsbD_eq
    intro i hi
    have h3 := congrArg (fun b => b.getLsbD i) h2
    have h4 : (Int32.toBitVec (-1)).getLsbD i = true := by
      have : Int32.toBitVec (-1) = BitVec.allOnes 32 := by decide
      rw [this, BitVec.getLsbD_allOnes]
      exact decide_eq_true hi
    simp only [BitVec.getLsbD_and, BitVec.getLsbD_xor, h4] at h3 ⊢
    have h5 : (Int32.toBitVec 0).getLsbD i = false := by
      have : Int32.toBitVec 0 = 0#32 := by decide
      rw [this, BitVec.getLsbD_zero]
    rw [h5] at h3
    cases hx : x.toBitVec.getLsbD i <;> cases hy : y.toBitVec.getLsbD i <;> simp_all
  have h2 := ti_andr x y hy
  rw [← h1] at h2
  exact h2
theorem ti_lix (x : Int32) : -1 ≤ Int32.toInt (lix x) ∧ Int32.toInt (lix x) ≤ 6 := by
  unfold lix lixB
  repeat' split
  all_goals decide
theorem ti_div (x c : Int32) {k : Int} (hk : c.toInt = k) (h : 0 ≤ x.toInt) (h0 : 0 < k) : Int32.toInt (x / c) = x.toInt / k := by
  have h1 := tp_r x
  have h2 : 0 ≤ x.toInt / k := Int.ediv_nonneg h (by omega)
  have h3 : x.toInt / k ≤ x.toInt := Int.ediv_le_self _ h
  rw [Int32.toInt_div, hk, Int.tdiv_eq_ediv_of_nonneg h]
  exact tp_b (by omega)
theorem ti_rem (x c : Int32) {k : Int} (hk : c.toInt = k) (h : 0 ≤ x.toInt) (h0 : 0 < k) : Int32.toInt (x - x / c * c) = x.toInt % k := by
  have h1 := tp_r x
  have h2 := ti_div x c hk h h0
  have h3 : 0 ≤ x.toInt / k := Int.ediv_nonneg h (by omega)
  have h4 : x.toInt / k * k ≤ x.toInt := Int.ediv_mul_le _ (by omega)
  have h5 : 0 ≤ x.toInt / k * k := Int.mul_nonneg h3 (by omega)
  have h6 : Int32.toInt (x / c * c) = x.toInt / k * k := by
    rw [Int32.toInt_mul, h2, hk]; exact tp_b (by omega)
  have h7 : 0 ≤ x.toInt % k := Int.emod_nonneg _ (by omega)
  have h8 : x.toInt % k = x.toInt - x.toInt / k * k := by
    rw [Int.emod_def, Int.mul_comm]
  rw [ta_sub _ _ (by omega), h6, h8]
theorem t_upk {f g : Nat → Int32} {i k : Nat} {v : Int32} (h : f k = g k) (hn : i ≠ k) : upd f i v k = g k := by
  unfold upd
  rw [if_neg (fun h9 => hn h9.symm)]
  exact h
theorem t_nk {x : Int32} {k : Nat} (h : 0 ≤ x.toInt ∧ x.toInt < (k : Int)) : x.toNatClampNeg ≠ k := by
  have e : x.toNatClampNeg = x.toInt.toNat := rfl
  omega
theorem gs_19 {f g : Nat → Int32} {a b : Int32} (h : f 19 = g 19) : (upd (upd f (17 : Int32).toNatClampNeg a) (20 : Int32).toNatClampNeg b) (19 : Int32).toNatClampNeg = g (19 : Int32).toNatClampNeg :=
  t_upk (t_upk h (show (17 : Nat) ≠ 19 by decide)) (show (20 : Nat) ≠ 19 by decide)
