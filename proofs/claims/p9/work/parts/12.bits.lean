/-! sets of bits; what some methods answer, as functions -/
def bt (x : Int32) (k : Nat) : Bool := x.toBitVec.getLsbD k
theorem bt_ext {x y : Int32} (h : ∀ k, k < 32 → bt x k = bt y k) : x = y := by
  apply Int32.toBitVec_inj.mp
  apply BitVec.eq_of_getLsbD_eq
  intro i hi
  exact h i hi
theorem bt_and (x y : Int32) (k : Nat) : bt (x &&& y) k = (bt x k && bt y k) := by
  unfold bt; rw [Int32.toBitVec_and, BitVec.getLsbD_and]
theorem bt_or (x y : Int32) (k : Nat) : bt (x ||| y) k = (bt x k || bt y k) := by
  unfold bt; rw [Int32.toBitVec_or, BitVec.getLsbD_or]
theorem bt_xor (x y : Int32) (k : Nat) : bt (x ^^^ y) k = (bt x k ^^ bt y k) := by
  unfold bt; rw [Int32.toBitVec_xor, BitVec.getLsbD_xor]
theorem bt_ge (x : Int32) (k : Nat) (h : 32 ≤ k) : bt x k = false := BitVec.getLsbD_of_ge _ _ h
theorem bt_all : ∀ k, k < 32 → bt (-1) k = true := by decide +kernel
theorem bt_nul : ∀ k, k < 32 → bt 0 k = false := by decide +kernel
theorem bt_one' : ∀ k, k < 32 → bt 1 k = decide (k = 0) := by decide +kernel
theorem bt_not (x : Int32) (k : Nat) (hk : k < 32) : bt (x ^^^ (-1)) k = !bt x k := by
  rw [bt_xor, bt_all k hk]; cases bt x k <;> rfl
theorem bt_zero (k : Nat) : bt 0 k = false := by
  by_cases h : k < 32
  · exact bt_nul k h
  · exact bt_ge _ _ (by omega)
theorem bt_one (k : Nat) : bt 1 k = decide (k = 0) := by
  by_cases h : k < 32
  · exact bt_one' k h
  · rw [bt_ge _ _ (by omega)]; exact (decide_eq_false (by omega)).symm
theorem bs_n : ∀ n, n < 32 → ((nI n &&& 31).toBitVec.smod 32).toNat = n := by decide +kernel
theorem bs_1 : ∀ n, n < 32 → ∀ k, k < 32 → bt ((1 : Int32) <<< (nI n &&& 31)) k = decide (k = n) := by decide +kernel
theorem bt_shlN (n : Nat) (hn : n < 32) (k : Nat) : bt ((1 : Int32) <<< (nI n &&& 31)) k = decide (k = n) := by
  by_cases h : k < 32
  · exact bs_1 n hn k h
  · rw [bt_ge _ _ (by omega)]; exact (decide_eq_false (by omega)).symm
theorem bt_shl (f : Int32) (h : 0 ≤ f.toInt ∧ f.toInt < 32) (k : Nat) : bt (1 <<< (f &&& 31)) k = decide (k = f.toInt.toNat) := by
  have e := tp_nI h.1
  obtain ⟨n, hn⟩ : ∃ n, n = f.toInt.toNat := ⟨_, rfl⟩
  rw [← hn] at e ⊢
  rw [e]
  exact bt_shlN n (by omega) k
theorem bt_shr (x f : Int32) (h : 0 ≤ f.toInt ∧ f.toInt < 32) : bt (x >>> (f &&& 31)) 0 = bt x f.toInt.toNat := by
  have e := tp_nI h.1
  obtain ⟨n, hn⟩ : ∃ n, n = f.toInt.toNat := ⟨_, rfl⟩
  rw [← hn] at e ⊢
  have hn2 : n < 32 := by omega
  rw [e]
  unfold bt
  rw [Int32.toBitVec_shiftRight]
  show (x.toBitVec.sshiftRight ((nI n &&& 31).toBitVec.smod 32).toNat).getLsbD 0 = _
  rw [bs_n n hn2, BitVec.getLsbD_sshiftRight]
  simp [hn2]
theorem has_v (x f : Int32) (h : 0 ≤ f.toInt ∧ f.toInt < 32) : (x >>> (f &&& 31)) &&& 1 = if bt x f.toInt.toNat = true then 1 else 0 := by
  apply bt_ext
  intro k hk
  rw [bt_and, bt_one]
  by_cases h0 : k = 0
  · subst h0
    rw [bt_shr x f h]
    cases bt x f.toInt.toNat
    · exact (bt_zero 0).symm
    · exact (bt_one 0).symm
  · have e : decide (k = 0) = false := decide_eq_false h0
    rw [e, Bool.and_false]
    cases bt x f.toInt.toNat
    · exact (bt_zero k).symm
    · exact ((bt_one k).trans e).symm
theorem has_1 {x f v1 v2 : Int32} (e1 : v1 = x >>> (f &&& 31)) (e2 : v2 = v1 &&& 1) (h : Int32.toInt v2 = Int32.toInt 1) (hf : 0 ≤ f.toInt ∧ f.toInt < 32) : bt x f.toInt.toNat = true := by
  have e3 : v2 = if bt x f.toInt.toNat = true then 1 else 0 := by rw [e2, e1]; exact has_v x f hf
  cases hb : bt x f.toInt.toNat
  · rw [hb] at e3
    rw [show v2 = 0 from e3] at h
    exact absurd h (by decide)
  · rfl
theorem has_0 {x f v1 v2 : Int32} (e1 : v1 = x >>> (f &&& 31)) (e2 : v2 = v1 &&& 1) (h : ¬ Int32.toInt v2 = Int32.toInt 1) (hf : 0 ≤ f.toInt ∧ f.toInt < 32) : bt x f.toInt.toNat = false := by
  have e3 : v2 = if bt x f.toInt.toNat = true then 1 else 0 := by rw [e2, e1]; exact has_v x f hf
  cases hb : bt x f.toInt.toNat
  · rfl
  · rw [hb] at e3
    rw [show v2 = 1 from e3] at h
    exact absurd rfl h
theorem bt_lt (x : Int32) (n : Nat) (h : 0 ≤ x.toInt ∧ x.toInt < ((2 ^ n : Nat) : Int)) (k : Nat) (hk : n ≤ k) : bt x k = false := by
  obtain ⟨h1, h2⟩ := tp_n h.1
  have h3 : 2 ^ n ≤ 2 ^ k := Nat.pow_le_pow_right (by decide) hk
  exact Nat.testBit_lt_two_pow (by omega)
theorem bt_bound (x : Int32) (n : Nat) (hn : n ≤ 31) (h : ∀ k, n ≤ k → bt x k = false) : 0 ≤ x.toInt ∧ x.toInt < ((2 ^ n : Nat) : Int) := by
  have h1 : x.toBitVec.toNat < 2 ^ n := Nat.lt_pow_two_of_testBit _ (fun i hi => h i hi)
  have h2 : 2 ^ n ≤ 2 ^ 31 := Nat.pow_le_pow_right (by decide) hn
  have h3 := tp_o (x := x) (by omega)
  omega
def bsf : Nat → (Nat → Bool) → Int32
  | 0, _ => 0
  | n + 1, c => bsf n c ||| (if c n = true then 1 <<< (nI n &&& 31) else 0)
theorem bt_bsf (c : Nat → Bool) : ∀ n, n ≤ 32 → ∀ k, bt (bsf n c) k = (decide (k < n) && c k) := by
  intro n
  induction n with
  | zero =>
    intro _ k
    show bt 0 k = _
    rw [bt_zero]
    simp
  | succ n ih =>
    intro hn k
    show bt (bsf n c ||| (if c n = true then 1 <<< (nI n &&& 31) else 0)) k = _
    rw [bt_or, ih (by omega) k]
    by_cases hk : k = n
    · subst hk
      have e1 : bt (if c k = true then (1 : Int32) <<< (nI k &&& 31) else 0) k = c k := by
        cases c k
        · exact bt_zero k
        · show bt ((1 : Int32) <<< (nI k &&& 31)) k = true
          rw [bt_shlN k (by omega)]
          exact decide_eq_true rfl
      rw [e1]
      simp
    · have e1 : bt (if c n = true then (1 : Int32) <<< (nI n &&& 31) else 0) k = false := by
        cases c n
        · exact bt_zero k
        · show bt ((1 : Int32) <<< (nI n &&& 31)) k = false
          rw [bt_shlN n (by omega)]
          exact decide_eq_false hk
      have e2 : decide (k < n) = decide (k < n + 1) := decide_eq_decide.mpr (by omega)
      rw [e1, Bool.or_false, e2]
theorem bsf_rng (n : Nat) (hn : n ≤ 16) (c : Nat → Bool) : 0 ≤ Int32.toInt (bsf n c) ∧ Int32.toInt (bsf n c) ≤ 65535 := by
  have h := bt_bound (bsf n c) 16 (by decide) (fun k hk => by
    rw [bt_bsf c n (by omega)]
    have e : decide (k < n) = false := decide_eq_false (by omega)
    rw [e]; rfl)
  have e : ((2 ^ 16 : Nat) : Int) = 65536 := by decide
  omega
theorem bsf_st {c : Nat → Bool} (x : Int32) (h : 0 ≤ x.toInt ∧ x.toInt < 31) (v : Int32) (e : v = x + 1) : v.toInt = x.toInt + 1 ∧ bsf v.toInt.toNat c = bsf x.toInt.toNat c ||| (if c x.toInt.toNat = true then 1 <<< (x &&& 31) else 0) := by
  have l1 : Int32.toInt (1 : Int32) = 1 := by decide
  have h1 : v.toInt = x.toInt + 1 := by
    rw [e, ta_add _ _ (by omega), l1]
  refine ⟨h1, ?_⟩
  have h2 : v.toInt.toNat = x.toInt.toNat + 1 := by omega
  rw [h2]
  show bsf x.toInt.toNat c ||| (if c x.toInt.toNat = true then 1 <<< (nI x.toInt.toNat &&& 31) else 0) = _
  rw [← tp_nI h.1]
theorem bsf_0 (c : Nat → Bool) : bsf (Int32.toInt 0).toNat c = 0 := by
  rw [show Int32.toInt (0 : Int32) = 0 by decide]; rfl
theorem f_which {post : Int32 → Prop} {p1 fr : Int32} {now : Nat → Int32} (hf : 0 ≤ fr.toInt ∧ fr.toInt ≤ 16) (hp : post (bsf (Int32.toInt fr).toNat (fun k => decide (now k = p1)))) : wp_X10_which post p1 fr now := by
  have l0 : Int32.toInt (0 : Int32) = 0 := by decide
  refine ⟨18, ?_⟩
  have key : ∀ (n : Nat) (x4 : Int32), 0 ≤ x4.toInt → x4.toInt ≤ fr.toInt → fr.toInt - x4.toInt < (n : Int) → wb_X10_which_5 post fr now n p1 (bsf x4.toInt.toNat (fun k => decide (now k = p1))) x4 := by
    intro n
    induction n with
    | zero => intro x4 h1 h2 h3; exfalso; omega
    | succ n ih =>
      intro x4 h1 h2 h3
      refine And.intro (fun hc => ?_) (fun hc => ?_)
      · have hc := (fa_le _ _).mp hc
        obtain rfl : x4 = fr := (fa_eq _ _).mpr (by omega)
        exact hp
      · have hc := mt (fa_le _ _).mpr hc
        refine And.intro (t_in (by omega)) (fun v1 e1 => And.intro (fun c1 => ?_) (fun c1 v4 e4 => ?_))
        · intro v2 e2 v3 e3
          obtain ⟨s1, s2⟩ := bsf_st (c := fun k => decide (now k = p1)) x4 (by omega) v3 e3
          have ck : decide (now x4.toInt.toNat = p1) = false := decide_eq_false (fun h9 => c1 (e1.trans h9))
          rw [ck] at s2
          rw [show v2 = bsf v3.toInt.toNat (fun k => decide (now k = p1)) from e2.trans s2.symm]
          exact ih v3 (by omega) (by omega) (by omega)
        · intro v2 e2 v3 e3
          obtain ⟨s1, s2⟩ := bsf_st (c := fun k => decide (now k = p1)) x4 (by omega) v3 e3
          have ck : decide (now x4.toInt.toNat = p1) = true := decide_eq_true (e1.symm.trans c1)
          rw [ck] at s2
          rw [e4] at e2
          rw [show v2 = bsf v3.toInt.toNat (fun k => decide (now k = p1)) from e2.trans s2.symm]
          exact ih v3 (by omega) (by omega) (by omega)
  have k0 := key 18 0 (by omega) (by omega) (by omega)
  rw [bsf_0] at k0
  exact k0
theorem f_ripeOnes {post : Int32 → Prop} {p0 fr : Int32} {ripe : Nat → Int32} (hf : 0 ≤ fr.toInt ∧ fr.toInt ≤ 16) (hp : post (bsf (Int32.toInt fr).toNat (fun k => decide (ripe k ≤ p0)))) : wp_X10_ripeOnes post p0 fr ripe := by
  have l0 : Int32.toInt (0 : Int32) = 0 := by decide
  refine ⟨18, ?_⟩
  have key : ∀ (n : Nat) (x3 : Int32), 0 ≤ x3.toInt → x3.toInt ≤ fr.toInt → fr.toInt - x3.toInt < (n : Int) → wb_X10_ripeOnes_4 post fr ripe n p0 (bsf x3.toInt.toNat (fun k => decide (ripe k ≤ p0))) x3 := by
    intro n
    induction n with
    | zero => intro x3 h1 h2 h3; exfalso; omega
    | succ n ih =>
      intro x3 h1 h2 h3
      refine And.intro (fun hc => ?_) (fun hc => ?_)
      · have hc := (fa_le _ _).mp hc
        obtain rfl : x3 = fr := (fa_eq _ _).mpr (by omega)
        exact hp
      · have hc := mt (fa_le _ _).mpr hc
        refine And.intro (t_in (by omega)) (fun v1 e1 => And.intro (fun c1 => ?_) (fun c1 v4 e4 => ?_))
        · intro v2 e2 v3 e3
          obtain ⟨s1, s2⟩ := bsf_st (c := fun k => decide (ripe k ≤ p0)) x3 (by omega) v3 e3
          have ck : decide (ripe x3.toInt.toNat ≤ p0) = false := decide_eq_false (fun h9 => by
            have h9 : v1 ≤ p0 := by rw [e1]; exact h9
            have := (fa_le _ _).mp h9
            have := (fa_lt _ _).mp c1
            omega)
          rw [ck] at s2
          rw [show v2 = bsf v3.toInt.toNat (fun k => decide (ripe k ≤ p0)) from e2.trans s2.symm]
          exact ih v3 (by omega) (by omega) (by omega)
        · intro v2 e2 v3 e3
          obtain ⟨s1, s2⟩ := bsf_st (c := fun k => decide (ripe k ≤ p0)) x3 (by omega) v3 e3
          have ck : decide (ripe x3.toInt.toNat ≤ p0) = true := decide_eq_true (by
            show ripe x3.toNatClampNeg ≤ p0
            rw [← e1]
            have := mt (fa_lt _ _).mpr c1
            exact (fa_le _ _).mpr (by omega))
          rw [ck] at s2
          rw [e4] at e2
          rw [show v2 = bsf v3.toInt.toNat (fun k => decide (ripe k ≤ p0)) from e2.trans s2.symm]
          exact ih v3 (by omega) (by omega) (by omega)
  have k0 := key 18 0 (by omega) (by omega) (by omega)
  rw [bsf_0] at k0
  exact k0
theorem ar_lt {x1 r d : Int32} {n : Nat} {c1 : Nat → Bool} {ripe : Nat → Int32} (h1 : x1 = bsf n c1) (h2 : r = bsf n (fun k => decide (ripe k ≤ d))) (hr : ∀ k : Nat, 0 ≤ Int32.toInt (ripe k) ∧ Int32.toInt (ripe k) ≤ 9) (hne : ¬ Int32.toInt (x1 &&& (r ^^^ (-1))) = Int32.toInt 0) (hn : n ≤ 32) : Int32.toInt d ≤ 8 := by
  rcases (show d.toInt < 9 ∨ 9 ≤ d.toInt by omega) with h | h
  · omega
  · exfalso
    apply hne
    have e : x1 &&& (r ^^^ (-1)) = 0 := by
      apply bt_ext
      intro k hk
      rw [bt_and, bt_not _ k hk, h1, h2, bt_bsf _ n hn, bt_bsf _ n hn, bt_zero]
      have e : decide (ripe k ≤ d) = true := decide_eq_true ((fa_le _ _).mpr (by have := hr k; omega))
      rw [e]
      cases decide (k < n) <;> simp
    rw [e]
def pcn : Nat → Int32 → Nat
  | 0, _ => 0
  | n + 1, x => pcn n x + (if bt x n = true then 1 else 0)
theorem pcn_le (n : Nat) (x : Int32) : pcn n x ≤ n := by
  induction n with
  | zero => exact Nat.le_refl _
  | succ n ih =>
    show pcn n x + (if bt x n = true then 1 else 0) ≤ n + 1
    split <;> omega
theorem pcn_same (x y : Int32) : ∀ n, (∀ k, k < n → bt y k = bt x k) → pcn n y = pcn n x := by
  intro n
  induction n with
  | zero => intro _; rfl
  | succ n ih =>
    intro h
    show pcn n y + (if bt y n = true then 1 else 0) = pcn n x + (if bt x n = true then 1 else 0)
    rw [ih (fun k hk => h k (by omega)), h n (by omega)]
theorem pcn_one (x y : Int32) (f : Nat) (hx : bt x f = true) (hy : bt y f = false) (he : ∀ k, k ≠ f → bt y k = bt x k) : ∀ n, f < n → pcn n y + 1 = pcn n x := by
  intro n
  induction n with
  | zero => intro h; omega
  | succ n ih =>
    intro h
    show pcn n y + (if bt y n = true then 1 else 0) + 1 = pcn n x + (if bt x n = true then 1 else 0)
    by_cases hn : f = n
    · subst hn
      rw [pcn_same x y f (fun k hk => he k (by omega)), hx, hy]
      simp
    · rw [he n (fun h => hn h.symm)]
      have := ih (by omega)
      omega
theorem pcn_pos (x f : Int32) {v1 v2 : Int32} (e1 : v1 = x >>> (f &&& 31)) (e2 : v2 = v1 &&& 1) (h : Int32.toInt v2 = Int32.toInt 1) (hf : 0 ≤ f.toInt ∧ f.toInt ≤ 15) : 1 ≤ pcn 16 x := by
  have hb := has_1 e1 e2 h (by omega)
  have h1 := pcn_one x (x &&& ((1 <<< (f &&& 31)) ^^^ (-1))) f.toInt.toNat hb (by
    rw [bt_and, bt_not _ _ (by omega), bt_shl f (by omega)]
    simp) (fun k hk => by
    by_cases h32 : k < 32
    · rw [bt_and, bt_not _ _ h32, bt_shl f (by omega), decide_eq_false hk]
      simp
    · rw [bt_ge _ _ (by omega), bt_ge _ _ (by omega)]) 16 (by omega)
  omega
theorem pcn_clr (y f : Int32) {x v1 v2 v3 : Int32} (e1 : v1 = x >>> (f &&& 31)) (e2 : v2 = v1 &&& 1) (h : Int32.toInt v2 = Int32.toInt 1) (e3 : v3 = 1 <<< (f &&& 31)) (e4 : y = x &&& (v3 ^^^ (-1))) (hf : 0 ≤ f.toInt ∧ f.toInt ≤ 15) : pcn 16 y + 1 = pcn 16 x := by
  have hb := has_1 e1 e2 h (by omega)
  rw [e4, e3]
  exact pcn_one x (x &&& ((1 <<< (f &&& 31)) ^^^ (-1))) f.toInt.toNat hb (by
    rw [bt_and, bt_not _ _ (by omega), bt_shl f (by omega)]
    simp) (fun k hk => by
    by_cases h32 : k < 32
    · rw [bt_and, bt_not _ _ h32, bt_shl f (by omega), decide_eq_false hk]
      simp
    · rw [bt_ge _ _ (by omega), bt_ge _ _ (by omega)]) 16 (by omega)
def hv (m_read : Nat) (m_length m_top m_at : Int32) (m_text m_rule : Nat → Int32) : Int32 := if m_at < m_length ∧ m_at < m_top then ((if m_read = 1 then m_text m_at.toNatClampNeg else m_rule m_at.toNatClampNeg) &&& 255) else -1
theorem hv_neg {r : Nat} {a b c : Int32} {t u : Nat → Int32} (h : ¬ (c < a ∧ c < b)) : hv r a b c t u = -1 := if_neg h
theorem hv_pos {r : Nat} {a b c : Int32} {t u : Nat → Int32} (h : c < a ∧ c < b) : hv r a b c t u = ((if r = 1 then t c.toNatClampNeg else u c.toNatClampNeg) &&& 255) := if_pos h
theorem ti_ushr (x s : Int32) (k : Nat) (hs : (s.toUInt32 &&& Int32.toUInt32 31).toNat % 32 = k) (hx : 0 ≤ x.toInt) : Int32.toInt ((x.toUInt32 >>> (s.toUInt32 &&& Int32.toUInt32 31)).toInt32) = x.toInt / ((2 ^ k : Nat) : Int) := by
  obtain ⟨h1, h2⟩ := tp_n hx
  have h3 : ((x.toUInt32 >>> (s.toUInt32 &&& Int32.toUInt32 31)).toInt32).toBitVec.toNat = x.toBitVec.toNat >>> k := by
    show (x.toUInt32 >>> (s.toUInt32 &&& Int32.toUInt32 31)).toNat = _
    rw [UInt32.toNat_shiftRight, hs]
    rfl
  have h4 : x.toBitVec.toNat >>> k ≤ x.toBitVec.toNat := Nat.shiftRight_le _ _
  have h5 := tp_o (x := (x.toUInt32 >>> (s.toUInt32 &&& Int32.toUInt32 31)).toInt32) (by omega)
  rw [h5, h3, h1, Nat.shiftRight_eq_div_pow]
  rfl
section NTZ
variable {post : Int32 → Prop} {B : Prop}
theorem n_74 {x0 x1 : Int32} (hb : B → 0 ≤ x0.toInt ∧ x0.toInt ≤ 16 ∧ 0 ≤ x1.toInt ∧ x1.toInt + x0.toInt / 2 ≤ 15) (hp : ∀ r : Int32, (B → 0 ≤ r.toInt ∧ r.toInt ≤ 15) → post r) : ws_J6_numberOfTrailingZeros_0f7a4_74 post x0 x1 := by
  refine hp _ (fun h => ?_)
  obtain ⟨h1, h2, h3, h4⟩ := hb h
  have q : Int32.toInt ((x0.toUInt32 >>> ((1 : Int32).toUInt32 &&& Int32.toUInt32 31)).toInt32) = x0.toInt / 2 := ti_ushr x0 1 1 (by decide) h1
  have a := ta_add x1 ((x0.toUInt32 >>> ((1 : Int32).toUInt32 &&& Int32.toUInt32 31)).toInt32) (by omega)
  omega
theorem n_62 {x0 x1 : Int32} (hb : B → 0 ≤ x0.toInt ∧ x0.toInt ≤ 16 ∧ 0 ≤ x1.toInt ∧ (x1.toInt + 4 ≤ 15 ∨ (x0.toInt ≤ 7 ∧ x1.toInt ≤ 13))) (hp : ∀ r : Int32, (B → 0 ≤ r.toInt ∧ r.toInt ≤ 15) → post r) : ws_J6_numberOfTrailingZeros_0f7a4_62 post x0 x1 := by
  have l1 : Int32.toInt (4 : Int32) = 4 := by decide
  have l2 : Int32.toInt (2 : Int32) = 2 := by decide
  refine And.intro (fun c => ?_) (fun c v3 e3 v4 e4 => ?_)
  · have c := (fa_le _ _).mp c
    exact n_74 (fun h => by have := hb h; omega) hp
  · have c := mt (fa_le _ _).mpr c
    refine n_74 (fun h => ?_) hp
    have h0 := hb h
    have q : Int32.toInt ((x0.toUInt32 >>> ((2 : Int32).toUInt32 &&& Int32.toUInt32 31)).toInt32) = x0.toInt / 4 := ti_ushr x0 2 2 (by decide) h0.1
    rw [← e4] at q
    have a := ta_add x1 2 (by omega)
    rw [← e3] at a
    omega
theorem n_49 {x0 x1 : Int32} (hb : B → 0 ≤ x0.toInt ∧ x0.toInt ≤ 256 ∧ 0 ≤ x1.toInt ∧ (x1.toInt ≤ 7 ∨ (x0.toInt ≤ 127 ∧ x1.toInt ≤ 9))) (hp : ∀ r : Int32, (B → 0 ≤ r.toInt ∧ r.toInt ≤ 15) → post r) : ws_J6_numberOfTrailingZeros_0f7a4_49 post x0 x1 := by
  have l1 : Int32.toInt (16 : Int32) = 16 := by decide
  have l2 : Int32.toInt (4 : Int32) = 4 := by decide
  refine And.intro (fun c => ?_) (fun c v3 e3 v4 e4 => ?_)
  · have c := (fa_le _ _).mp c
    exact n_62 (fun h => by have := hb h; omega) hp
  · have c := mt (fa_le _ _).mpr c
    refine n_62 (fun h => ?_) hp
    have h0 := hb h
    have q : Int32.toInt ((x0.toUInt32 >>> ((4 : Int32).toUInt32 &&& Int32.toUInt32 31)).toInt32) = x0.toInt / 16 := ti_ushr x0 4 4 (by decide) h0.1
    rw [← e4] at q
    have a := ta_add x1 4 (by omega)
    rw [← e3] at a
    omega
theorem n_34 {x0 x1 : Int32} (hb : B → 0 ≤ x0.toInt ∧ x0.toInt ≤ 32767 ∧ x1.toInt = 1) (hp : ∀ r : Int32, (B → 0 ≤ r.toInt ∧ r.toInt ≤ 15) → post r) : ws_J6_numberOfTrailingZeros_0f7a4_34 post x0 x1 := by
  have l1 : Int32.toInt (256 : Int32) = 256 := by decide
  have l2 : Int32.toInt (8 : Int32) = 8 := by decide
  refine And.intro (fun c => ?_) (fun c v3 e3 v4 e4 => ?_)
  · have c := (fa_le _ _).mp c
    exact n_49 (fun h => by have := hb h; omega) hp
  · have c := mt (fa_le _ _).mpr c
    refine n_49 (fun h => ?_) hp
    have h0 := hb h
    have q : Int32.toInt ((x0.toUInt32 >>> ((8 : Int32).toUInt32 &&& Int32.toUInt32 31)).toInt32) = x0.toInt / 256 := ti_ushr x0 8 8 (by decide) h0.1
    rw [← e4] at q
    have a := ta_add x1 8 (by omega)
    rw [← e3] at a
    omega
end NTZ
theorem ntz_b {p v1 v2 : Int32} (e1 : v1 = p ^^^ (-1)) (e2 : v2 = v1 &&& (p - 1)) (h : 1 ≤ p.toInt ∧ p.toInt ≤ 65535) : 0 ≤ v2.toInt ∧ v2.toInt ≤ 32767 := by
  have l1 : Int32.toInt (1 : Int32) = 1 := by decide
  have s := ta_sub p 1 (by omega)
  have e15 : ((2 ^ 15 : Nat) : Int) = 32768 := by decide
  have e16 : ((2 ^ 16 : Nat) : Int) = 65536 := by decide
  have hb := bt_bound v2 15 (by decide) (fun k hk => by
    rw [e2, e1, bt_and]
    by_cases h16 : 16 ≤ k
    · rw [bt_lt (p - 1) 16 (by omega) k h16, Bool.and_false]
    · have hk2 : k = 15 := by omega
      subst hk2
      rw [bt_not _ 15 (by decide)]
      cases hp : bt p 15
      · have hp2 := bt_bound p 15 (by decide) (fun j hj => by
          by_cases hj2 : j = 15
          · rw [hj2]; exact hp
          · exact bt_lt p 16 (by omega) j (by omega))
        rw [bt_lt (p - 1) 15 (by omega) 15 (by decide), Bool.and_false]
      · rfl)
  omega
theorem f_ntz {post : Int32 → Prop} {p0 : Int32} (hpost : ∀ r : Int32, ((1 ≤ Int32.toInt p0 ∧ Int32.toInt p0 ≤ 65535) → (0 ≤ Int32.toInt r ∧ Int32.toInt r ≤ 15)) → post r) : wp_J6_numberOfTrailingZeros_0f7a4 post p0 := by
  have l0 : Int32.toInt (0 : Int32) = 0 := by decide
  have l1 : Int32.toInt (1 : Int32) = 1 := by decide
  have l2 : Int32.toInt (65536 : Int32) = 65536 := by decide
  intro v1 e1 v2 e2
  have hb := ntz_b (p := p0) e1 e2
  refine And.intro (fun c1 => And.intro (fun c2 => ?_) (fun c2 v9 e9 v10 e10 => ?_)) (fun c1 => ?_)
  · exact n_34 (fun h => by have := hb h; omega) hpost
  · have c2 := mt (fa_le _ _).mpr c2
    exact n_34 (fun h => by have := hb h; omega) hpost
  · have c1 := mt (fa_lt _ _).mpr c1
    refine hpost _ (fun h => ?_)
    have hz := hb h
    obtain rfl : v2 = 0 := (fa_eq _ _).mpr (by omega)
    decide
