/-! sign, set, sheet: class against reference, by the functions -/
theorem itr_rel {α β : Type} (R : Nat → α → β → Prop) {f : Int32 → α → α} {g : Int32 → β → β} {a : α} {b : β} {i : Nat} (h0 : R 0 a b) (n : Nat) (hs : ∀ (k : Nat) (s : α) (t : β), k < n → R k s t → R (k + 1) (f (nI (i + k)) s) (g (nI (i + k)) t)) : R n (itr f a i n) (itr g b i n) := by
  have key : ∀ k : Nat, k ≤ n → R k (itr f a i k) (itr g b i k) := by
    intro k
    induction k with
    | zero => intro _; exact h0
    | succ k ih => intro hk; rw [itr_s, itr_s]; exact hs k _ _ (by omega) (ih (by omega))
  exact key n (Nat.le_refl n)
theorem nI_0c {k : Nat} (h : k < 2147483648) : (nI (0 + k)).toNatClampNeg = k ∧ Int32.toInt (nI (0 + k)) = (k : Int) := by
  rw [Nat.zero_add]
  exact ⟨nI_clamp (by omega), nI_toInt (by omega)⟩
theorem bt_tb (x : Int32) (k : Nat) : bt x k = x.toBitVec.toNat.testBit k := rfl
theorem bt_u (p s : Int32) (n : Nat) (hs : (s.toUInt32 &&& Int32.toUInt32 31).toNat % 32 = n) (k : Nat) : bt ((p.toUInt32 >>> (s.toUInt32 &&& Int32.toUInt32 31)).toInt32) k = bt p (n + k) := by
  rw [bt_tb, bt_tb]
  have h3 : ((p.toUInt32 >>> (s.toUInt32 &&& Int32.toUInt32 31)).toInt32).toBitVec.toNat = p.toBitVec.toNat >>> n := by
    show (p.toUInt32 >>> (s.toUInt32 &&& Int32.toUInt32 31)).toNat = _
    rw [UInt32.toNat_shiftRight, hs]
    rfl
  rw [h3, Nat.testBit_shiftRight]
theorem bt_255 : ∀ k, k < 32 → bt 255 k = decide (k < 8) := by decide +kernel
theorem nch {x : Int32} (h : 0 ≤ x.toInt ∧ x.toInt ≤ 255) : ((x.toUInt32 % 65536).toInt32) = x := by
  obtain ⟨h1, h2⟩ := tp_n h.1
  apply Int32.toBitVec_inj.mp
  apply BitVec.eq_of_toNat_eq
  show (x.toUInt32 % 65536).toNat = x.toBitVec.toNat
  rw [UInt32.toNat_mod]
  show x.toBitVec.toNat % 65536 = _
  exact Nat.mod_eq_of_lt (by omega)
theorem bt_b (y : Int32) (k : Nat) (hk : k < 8) : bt (y.toInt8.toInt32) k = bt y k := by
  unfold bt
  rw [Int8.toBitVec_toInt32, Int32.toBitVec_toInt8, BitVec.getLsbD_signExtend, if_pos hk, BitVec.getLsbD_signExtend, if_pos (show k < 32 by omega), decide_eq_true hk, decide_eq_true (show k < 32 by omega), Bool.true_and, Bool.true_and]
theorem bt_sr (p t : Int32) (n : Nat) (ht : (t.toBitVec.smod 32).toNat = n) (k : Nat) (hk : n + k < 32) : bt (p >>> t) k = bt p (n + k) := by
  unfold bt
  rw [Int32.toBitVec_shiftRight]
  show (p.toBitVec.sshiftRight (t.toBitVec.smod 32).toNat).getLsbD k = _
  rw [ht, BitVec.getLsbD_sshiftRight]
  have h1 : ¬ 32 ≤ k := by omega
  simp [h1, hk]
theorem sgn (p s t : Int32) (n : Nat) (hs : (s.toUInt32 &&& Int32.toUInt32 31).toNat % 32 = n) (ht : (t.toBitVec.smod 32).toNat = n) (hn : n ≤ 24) : vp_nar .char ((((p.toUInt32 >>> (s.toUInt32 &&& Int32.toUInt32 31)).toInt32 &&& 255).toUInt32 % 65536).toInt32) = (vp_nar .byte ((p >>> t).toInt8.toInt32)) &&& 255 := by
  have l255 : Int32.toInt (255 : Int32) = 255 := by decide
  have r := aAQ ((p.toUInt32 >>> (s.toUInt32 &&& Int32.toUInt32 31)).toInt32) 255 (by decide)
  rw [l255] at r
  show ((((((p.toUInt32 >>> (s.toUInt32 &&& Int32.toUInt32 31)).toInt32 &&& 255).toUInt32 % 65536).toInt32).toUInt32 % 65536).toInt32) = ((p >>> t).toInt8.toInt32).toInt8.toInt32 &&& 255
  rw [nch r, nch r]
  apply bt_ext
  intro k hk
  rw [bt_and, bt_and, bt_255 k hk]
  by_cases h8 : k < 8
  · rw [bt_u p s n hs, bt_b _ k h8, bt_b _ k h8, bt_sr p t n ht k (by omega)]
  · rw [decide_eq_false h8, Bool.and_false, Bool.and_false]
theorem sign_S {p p' L M th r1 L1 r2 M1 th1 : Int32} {sg tx sg1 tx1 : Nat → Int32} (e9 : (r1, L1, sg1) = F_X9_sign p L sg) (e10 : (r2, M1, th1, tx1) = F_X10_sign p' M th tx) (hp : p' = p) (hT : L.toInt = M.toInt) (hL : 0 ≤ L.toInt ∧ L.toInt ≤ 80) (hS : ∀ k : Nat, sg k = tx k &&& 255) : ∀ k : Nat, sg1 k = tx1 k &&& 255 := by
  obtain rfl : L = M := i32 hT
  subst hp
  have l76 : Int32.toInt (76 : Int32) = 76 := by decide
  have l4 : Int32.toInt (4 : Int32) = 4 := by decide
  have l80 : Int32.toInt (80 : Int32) = 80 := by decide
  have a4 := aAD L 4 (by omega)
  have u : ∀ (f g : Nat → Int32) (i : Nat) (v w : Int32), (∀ k : Nat, f k = g k &&& 255) → v = w &&& 255 → ∀ k : Nat, upd f i v k = upd g i w k &&& 255 := by
    intro f g i v w hf hv k
    by_cases hk : k = i
    · rw [hk, upd_i, upd_i]; exact hv
    · rw [aGi _ _ hk, aGi _ _ hk]; exact hf k
  rw [F_X9_sign, F_X8_add] at e9
  rw [F_X10_sign] at e10
  by_cases c : L ≤ 76
  · have d := (aAO _ _).mp c
    have c2 : L + 4 ≤ 80 := (aAO _ _).mpr (by omega)
    rw [if_pos c, show (33 : Nat) = 32 + 1 from rfl, flp_s, fs_X8_add_14, if_neg (by decide), show (32 : Nat) = 31 + 1 from rfl, flp_s, fs_X8_add_14, if_neg (by decide), show (31 : Nat) = 30 + 1 from rfl, flp_s, fs_X8_add_14, if_neg (by decide), show (30 : Nat) = 29 + 1 from rfl, flp_s, fs_X8_add_14, if_neg (by decide), show (29 : Nat) = 28 + 1 from rfl, flp_s, fs_X8_add_14, if_pos (by decide)] at e9
    rw [if_pos c2, show (5 : Nat) = 4 + 1 from rfl, flp_s, fs_X10_sign_20, if_neg (by decide), show (4 : Nat) = 3 + 1 from rfl, flp_s, fs_X10_sign_20, if_neg (by decide), show (3 : Nat) = 2 + 1 from rfl, flp_s, fs_X10_sign_20, if_neg (by decide), show (2 : Nat) = 1 + 1 from rfl, flp_s, fs_X10_sign_20, if_neg (by decide), show (1 : Nat) = 0 + 1 from rfl, flp_s, fs_X10_sign_20, if_pos (by decide)] at e10
    have e9 := congrArg (fun z => z.2.2) e9
    have e10 := congrArg (fun z => z.2.2.2) e10
    dsimp only at e9 e10
    rw [e9, e10]
    exact u _ _ _ _ _ (u _ _ _ _ _ (u _ _ _ _ _ (u _ _ _ _ _ hS (sgn _ _ _ 24 (by decide) (by decide) (by decide))) (sgn _ _ _ 16 (by decide) (by decide) (by decide))) (sgn _ _ _ 8 (by decide) (by decide) (by decide))) (sgn _ _ _ 0 (by decide) (by decide) (by decide))
  · have d := mt (aAO _ _).mpr c
    rw [if_neg c] at e9
    rw [if_neg (fun c2 => by have := (aAO _ _).mp c2; omega)] at e10
    have e9 := congrArg (fun z => z.2.2) e9
    have e10 := congrArg (fun z => z.2.2.2) e10
    dsimp only at e9 e10
    rw [e9, e10]
    exact hS
theorem in01 (v a b : Int32) : (aUe v a b = 0 ∧ (v.toInt < a.toInt ∨ b.toInt < v.toInt)) ∨ (aUe v a b = 1 ∧ a.toInt ≤ v.toInt ∧ v.toInt ≤ b.toInt) := by
  rw [aUe]
  by_cases c : v < a
  · rw [if_pos c]; exact Or.inl ⟨rfl, Or.inl ((aAd _ _).mp c)⟩
  · rw [if_neg c]
    by_cases d : b < v
    · rw [if_pos d]; exact Or.inl ⟨rfl, Or.inr ((aAd _ _).mp d)⟩
    · rw [if_neg d]; exact Or.inr ⟨rfl, by have := mt (aAd _ _).mpr c; omega, by have := mt (aAd _ _).mpr d; omega⟩
def stok (a v : Int) : Prop := 0 ≤ a ∧ a ≤ 4 ∧ (a = 4 → 1 ≤ v ∧ v ≤ 16) ∧ (a = 3 → 0 ≤ v ∧ v ≤ 9) ∧ (a < 3 → 0 ≤ v ∧ v ≤ 30)
theorem stL_w {x : Int32} (h : 0 ≤ x.toInt ∧ x.toInt ≤ 4) : (x.toInt = 4 ∧ Int32.toInt (stL x.toNatClampNeg) = 1) ∨ (x.toInt ≠ 4 ∧ Int32.toInt (stL x.toNatClampNeg) = 0) := by
  have e : x.toNatClampNeg = x.toInt.toNat := rfl
  rw [e]
  by_cases h4 : x.toInt = 4
  · left; refine ⟨h4, ?_⟩; rw [h4]; decide
  · right; refine ⟨h4, ?_⟩; unfold stL; rw [if_neg (by omega)]; decide
theorem stM_w {x : Int32} (h : 0 ≤ x.toInt ∧ x.toInt ≤ 4) : (x.toInt = 4 ∧ Int32.toInt (stM x.toNatClampNeg) = 16) ∨ (x.toInt = 3 ∧ Int32.toInt (stM x.toNatClampNeg) = 9) ∨ (x.toInt < 3 ∧ Int32.toInt (stM x.toNatClampNeg) = 30) := by
  have e : x.toNatClampNeg = x.toInt.toNat := rfl
  rw [e]
  by_cases h4 : x.toInt = 4
  · left; refine ⟨h4, ?_⟩; rw [h4]; decide
  · by_cases h3 : x.toInt = 3
    · right; left; refine ⟨h3, ?_⟩; rw [h3]; decide
    · right; right; refine ⟨by omega, ?_⟩; unfold stM; rw [if_neg (by omega), if_neg (by omega)]; decide
theorem set9_v (p v : Int32) (st : Nat → Int32) : (stok p.toInt v.toInt ∧ F_X9_set p v st = (st p.toNatClampNeg, upd st p.toNatClampNeg v)) ∨ (¬ stok p.toInt v.toInt ∧ F_X9_set p v st = (-1, st)) := by
  have l0 : Int32.toInt (0 : Int32) = 0 := by decide
  have l4 : Int32.toInt (4 : Int32) = 4 := by decide
  rw [F_X9_set]
  by_cases c : p < 0
  · have d := (aAd _ _).mp c
    rw [if_pos c]; exact Or.inr ⟨fun h => by unfold stok at h; omega, rfl⟩
  · have d := mt (aAd _ _).mpr c
    rw [if_neg c]
    by_cases c2 : 4 < p
    · have d2 := (aAd _ _).mp c2
      rw [if_pos c2]; exact Or.inr ⟨fun h => by unfold stok at h; omega, rfl⟩
    · have d2 := mt (aAd _ _).mpr c2
      have a := stL_w (x := p) (by omega)
      have b := stM_w (x := p) (by omega)
      rw [if_neg c2]
      by_cases c3 : v < stL p.toNatClampNeg
      · have d3 := (aAd _ _).mp c3
        rw [if_pos c3]; exact Or.inr ⟨fun h => by unfold stok at h; omega, rfl⟩
      · have d3 := mt (aAd _ _).mpr c3
        rw [if_neg c3]
        by_cases c4 : v ≤ stM p.toNatClampNeg
        · have d4 := (aAO _ _).mp c4
          rw [if_pos c4]; exact Or.inl ⟨by unfold stok; omega, rfl⟩
        · have d4 := mt (aAO _ _).mpr c4
          rw [if_neg c4]; exact Or.inr ⟨fun h => by unfold stok at h; omega, rfl⟩
theorem set10_v (p v th : Int32) (told : Nat → Int32) : (stok p.toInt v.toInt ∧ F_X10_set p v th told = (told p.toNatClampNeg, 0, upd told p.toNatClampNeg v)) ∨ (¬ stok p.toInt v.toInt ∧ F_X10_set p v th told = (-1, 0, told)) := by
  have l0 : Int32.toInt (0 : Int32) = 0 := by decide
  have l1 : Int32.toInt (1 : Int32) = 1 := by decide
  have l3 : Int32.toInt (3 : Int32) = 3 := by decide
  have l4 : Int32.toInt (4 : Int32) = 4 := by decide
  have l9 : Int32.toInt (9 : Int32) = 9 := by decide
  have l16 : Int32.toInt (16 : Int32) = 16 := by decide
  have l30 : Int32.toInt (30 : Int32) = 30 := by decide
  have key : ∀ a b : Int32, (0 ≤ p.toInt ∧ p.toInt ≤ 4) → ((a.toInt ≤ v.toInt ∧ v.toInt ≤ b.toInt) ↔ stok p.toInt v.toInt) → (stok p.toInt v.toInt ∧ j_X10_set_47 (fun o0 o1 o2 => (o0, o1, o2)) p v v a b 0 told = (told p.toNatClampNeg, 0, upd told p.toNatClampNeg v)) ∨ (¬ stok p.toInt v.toInt ∧ j_X10_set_47 (fun o0 o1 o2 => (o0, o1, o2)) p v v a b 0 told = (-1, 0, told)) := by
    intro a b hp hk
    rw [j_X10_set_47]
    rcases in01 v a b with ⟨e, h⟩ | ⟨e, h⟩
    · rw [if_pos e]; exact Or.inr ⟨fun h2 => by have := hk.mpr h2; omega, rfl⟩
    · rw [if_neg (by rw [e]; decide)]; exact Or.inl ⟨hk.mp h, rfl⟩
  rw [F_X10_set]
  rcases in01 p 0 4 with ⟨e, h⟩ | ⟨e, h⟩
  · rw [if_pos e]; exact Or.inr ⟨fun h2 => by unfold stok at h2; omega, rfl⟩
  · rw [if_neg (by rw [e]; decide)]
    by_cases c4 : p = 4
    · have d4 := (zJ _ _).mp c4
      rw [if_pos c4, j_X10_set_25, if_pos c4]
      exact key 1 16 (by omega) (by unfold stok; omega)
    · have d4 := mt (zJ _ _).mpr c4
      rw [if_neg c4, j_X10_set_25, if_neg c4]
      by_cases c3 : p = 3
      · have d3 := (zJ _ _).mp c3
        rw [if_pos c3]
        exact key 0 9 (by omega) (by unfold stok; omega)
      · have d3 := mt (zJ _ _).mpr c3
        rw [if_neg c3]
        exact key 0 30 (by omega) (by unfold stok; omega)
theorem set_rel {p v p' v' th r1 r2 th2 : Int32} {st told st1 told1 : Nat → Int32} (e9 : (r1, st1) = F_X9_set p v st) (e10 : (r2, th2, told1) = F_X10_set p' v' th told) (hp : p' = p) (hv : v' = v) (hr : ∀ k : Nat, k < 5 → st k = told k) : r1 = r2 ∧ ∀ k : Nat, k < 5 → st1 k = told1 k := by
  subst hp hv
  rcases set9_v p' v' st with ⟨a, e⟩ | ⟨a, e⟩
  · rcases set10_v p' v' th told with ⟨b, f⟩ | ⟨b, f⟩
    · rw [e] at e9; rw [f] at e10
      have g1 := congrArg Prod.fst e9
      have g2 := congrArg Prod.snd e9
      have g3 := congrArg Prod.fst e10
      have g4 := congrArg (fun z => z.2.2) e10
      dsimp only at g1 g2 g3 g4
      unfold stok at a
      have i9 : p'.toNatClampNeg < 5 := by have := cl_n p'; omega
      rw [g1, g2, g3, g4]
      refine ⟨hr _ i9, fun k hk => ?_⟩
      by_cases h : k = p'.toNatClampNeg
      · rw [h, upd_i, upd_i]
      · rw [aGi _ _ h, aGi _ _ h]; exact hr k hk
    · exact absurd a b
  · rcases set10_v p' v' th told with ⟨b, f⟩ | ⟨b, f⟩
    · exact absurd b a
    · rw [e] at e9; rw [f] at e10
      have g1 := congrArg Prod.fst e9
      have g2 := congrArg Prod.snd e9
      have g3 := congrArg Prod.fst e10
      have g4 := congrArg (fun z => z.2.2) e10
      dsimp only at g1 g2 g3 g4
      rw [g1, g2, g3, g4]
      exact ⟨rfl, hr⟩
