/-! Integer.bitCount counts the bits -/
def nb1 (n : Nat) : Nat := n - ((n >>> 1) &&& 1431655765)
def nb2 (a : Nat) : Nat := (a &&& 858993459) + ((a >>> 2) &&& 858993459)
def nb3 (b : Nat) : Nat := (b + (b >>> 4)) &&& 252645135
def nb4 (c : Nat) : Nat := c + (c >>> 8)
def nb5 (d : Nat) : Nat := d + (d >>> 16)
def bcN (n : Nat) : Nat := nb5 (nb4 (nb3 (nb2 (nb1 n)))) &&& 63
def chk : Nat → Nat → Nat → Bool
  | 0, n, p => Nat.beq (bcN n) p
  | k + 1, n, p => chk k (2 * n) p && chk k (2 * n + 1) (p + 1)
theorem chk16 : chk 16 0 0 = true := by decide +kernel
def cnt : Nat → Nat → Nat
  | 0, _ => 0
  | k + 1, n => cnt k n + (n / 2 ^ k) % 2
theorem chk_s : ∀ (k n p : Nat), chk k n p = true → ∀ m : Nat, m / 2 ^ k = n → bcN m = p + cnt k m := by
  intro k
  induction k with
  | zero =>
    intro n p h m hm
    have e : m = n := by rw [Nat.pow_zero, Nat.div_one] at hm; exact hm
    have h : Nat.beq (bcN n) p = true := h
    have h := Nat.eq_of_beq_eq_true h
    show bcN m = p + 0
    rw [e]; exact h
  | succ k ih =>
    intro n p h m hm
    have h : (chk k (2 * n) p && chk k (2 * n + 1) (p + 1)) = true := h
    rw [Bool.and_eq_true] at h
    obtain ⟨h1, h2⟩ := h
    have e : m / 2 ^ k / 2 = n := by rw [Nat.div_div_eq_div_mul, ← Nat.pow_succ]; exact hm
    show bcN m = p + (cnt k m + (m / 2 ^ k) % 2)
    rcases (show m / 2 ^ k = 2 * n ∨ m / 2 ^ k = 2 * n + 1 by omega) with c | c
    · have := ih _ _ h1 m c; omega
    · have := ih _ _ h2 m c; omega
theorem cnt_p (x : Int32) : ∀ k : Nat, cnt k x.toBitVec.toNat = pcn k x := by
  intro k
  induction k with
  | zero => rfl
  | succ k ih =>
    show cnt k x.toBitVec.toNat + (x.toBitVec.toNat / 2 ^ k) % 2 = pcn k x + (if bt x k = true then 1 else 0)
    rw [ih, bt_tb, Nat.testBit_eq_decide_div_mod_eq]
    by_cases c : x.toBitVec.toNat / 2 ^ k % 2 = 1
    · rw [decide_eq_true c, if_pos rfl, c]
    · rw [decide_eq_false c, if_neg (by decide)]
      omega
def VN (x : Int32) (n : Nat) : Prop := x.toBitVec.toNat = n ∧ n < 2147483648
theorem v_and {x y : Int32} {n m : Nat} (h1 : VN x n) (h2 : VN y m) : VN (x &&& y) (n &&& m) := by
  refine ⟨?_, Nat.lt_of_le_of_lt Nat.and_le_left h1.2⟩
  rw [Int32.toBitVec_and, BitVec.toNat_and, h1.1, h2.1]
theorem v_add {x y : Int32} {n m : Nat} (h1 : VN x n) (h2 : VN y m) (h : n + m < 2147483648) : VN (x + y) (n + m) := by
  refine ⟨?_, h⟩
  rw [Int32.toBitVec_add, BitVec.toNat_add, h1.1, h2.1]
  exact Nat.mod_eq_of_lt (by omega)
theorem v_sub {x y : Int32} {n m : Nat} (h1 : VN x n) (h2 : VN y m) (h : m ≤ n) : VN (x - y) (n - m) := by
  have b := h1.2
  refine ⟨?_, by omega⟩
  rw [Int32.toBitVec_sub, BitVec.toNat_sub, h1.1, h2.1]
  omega
theorem v_shr {x s : Int32} {n : Nat} (k : Nat) (h1 : VN x n) (hs : (s.toUInt32 &&& Int32.toUInt32 31).toNat % 32 = k) : VN ((x.toUInt32 >>> (s.toUInt32 &&& Int32.toUInt32 31)).toInt32) (n >>> k) := by
  have b := h1.2
  have o := tp_o (x := x) (by rw [h1.1]; exact b)
  have q := ti_ushr x s k hs (by omega)
  have g : 0 ≤ x.toInt / ((2 ^ k : Nat) : Int) := Int.ediv_nonneg (by omega) (Int.natCast_nonneg _)
  have r := tp_n (x := (x.toUInt32 >>> (s.toUInt32 &&& Int32.toUInt32 31)).toInt32) (by rw [q]; exact g)
  have e : ((n >>> k : Nat) : Int) = x.toInt / ((2 ^ k : Nat) : Int) := by
    rw [Nat.shiftRight_eq_div_pow, o, h1.1]
    exact Int.natCast_ediv _ _
  have le : n >>> k ≤ n := Nat.shiftRight_le n k
  refine ⟨?_, by omega⟩
  have r1 := r.1
  rw [q, ← e] at r1
  omega
theorem bc_v {x : Int32} (h : 0 ≤ x.toInt ∧ x.toInt < 65536) : Int32.toInt (F_J6_bitCount_0f7a4 x) = (pcn 16 x : Int) := by
  have hx := tp_n h.1
  obtain ⟨n, hn⟩ : ∃ n, n = x.toBitVec.toNat := ⟨_, rfl⟩
  have h0 : n < 65536 := by omega
  have V0 : VN x n := ⟨hn.symm, by omega⟩
  have i1 : (n >>> 1) &&& 1431655765 ≤ n := Nat.le_trans Nat.and_le_left (Nat.shiftRight_le n 1)
  have V1 : VN _ (nb1 n) := v_sub V0 (v_and (v_shr (s := 1) 1 V0 (by decide)) (⟨rfl, by decide⟩ : VN 1431655765 1431655765)) i1
  have b1 : nb1 n < 65536 := Nat.lt_of_le_of_lt (Nat.sub_le _ _) h0
  obtain ⟨a, ha⟩ : ∃ a, a = nb1 n := ⟨_, rfl⟩
  rw [← ha] at V1 b1
  have i2 : a &&& 858993459 ≤ a := Nat.and_le_left
  have i3 : (a >>> 2) &&& 858993459 ≤ a := Nat.le_trans Nat.and_le_left (Nat.shiftRight_le a 2)
  have V2 : VN _ (nb2 a) := v_add (v_and V1 (⟨rfl, by decide⟩ : VN 858993459 858993459)) (v_and (v_shr (s := 2) 2 V1 (by decide)) (⟨rfl, by decide⟩ : VN 858993459 858993459)) (by omega)
  have b2 : nb2 a < 131072 := by unfold nb2; omega
  obtain ⟨b, hb⟩ : ∃ b, b = nb2 a := ⟨_, rfl⟩
  rw [← hb] at V2 b2
  have i4 : b >>> 4 ≤ b := Nat.shiftRight_le b 4
  have V3 : VN _ (nb3 b) := v_and (v_add V2 (v_shr (s := 4) 4 V2 (by decide)) (by omega)) (⟨rfl, by decide⟩ : VN 252645135 252645135)
  have b3 : nb3 b < 262144 := Nat.lt_of_le_of_lt Nat.and_le_left (by omega)
  obtain ⟨c, hc⟩ : ∃ c, c = nb3 b := ⟨_, rfl⟩
  rw [← hc] at V3 b3
  have i5 : c >>> 8 ≤ c := Nat.shiftRight_le c 8
  have V4 : VN _ (nb4 c) := v_add V3 (v_shr (s := 8) 8 V3 (by decide)) (by omega)
  have b4 : nb4 c < 524288 := by unfold nb4; omega
  obtain ⟨d, hd⟩ : ∃ d, d = nb4 c := ⟨_, rfl⟩
  rw [← hd] at V4 b4
  have i6 : d >>> 16 ≤ d := Nat.shiftRight_le d 16
  have V5 : VN _ (nb5 d) := v_add V4 (v_shr (s := 16) 16 V4 (by decide)) (by omega)
  have V6 : VN _ (nb5 d &&& 63) := v_and V5 (⟨rfl, by decide⟩ : VN 63 63)
  have VF : VN (F_J6_bitCount_0f7a4 x) (nb5 d &&& 63) := by rw [F_J6_bitCount_0f7a4]; exact V6
  have eN : nb5 d &&& 63 = bcN n := by unfold bcN; rw [hd, hc, hb, ha]
  have k := chk_s 16 0 0 chk16 n (Nat.div_eq_of_lt (by omega))
  rw [hn, cnt_p] at k
  rw [hn] at eN
  rw [eN, k] at VF
  have o := tp_o (x := F_J6_bitCount_0f7a4 x) (by rw [VF.1]; exact VF.2)
  rw [o, VF.1]
  omega
theorem pcn_ext {x : Int32} {n : Nat} (h : ∀ k : Nat, n ≤ k → bt x k = false) : ∀ m : Nat, pcn (n + m) x = pcn n x := by
  intro m
  induction m with
  | zero => rfl
  | succ m ih =>
    show pcn (n + m) x + (if bt x (n + m) = true then 1 else 0) = pcn n x
    rw [ih, h (n + m) (by omega)]
    rfl
/-! down: how many -/
section DOWN
variable {fr sd ap ba gr br la he td cl : Int32} {x h w r ft fk mx mh mw mr mf mk st told now cells u : Nat → Int32}
theorem emp_c (hm : MO fr ap ba gr now) (bf : 0 ≤ fr.toInt ∧ fr.toInt ≤ 16) : Int32.toInt (F_X10_empty fr now).1 = (pcn fr.toInt.toNat ap : Int) := by
  have l1 : Int32.toInt (1 : Int32) = 1 := by decide
  have key : ∀ k : Nat, k ≤ fr.toInt.toNat → Int32.toInt (itr (bd_X10_empty_4 fr) (0, now) 0 k).1 = (pcn k ap : Int) ∧ ∀ j : Nat, k ≤ j → (itr (bd_X10_empty_4 fr) (0, now) 0 k).2 j = now j := by
    intro k
    induction k with
    | zero => intro _; exact ⟨(by decide : Int32.toInt (0 : Int32) = ((0 : Nat) : Int)), fun j _ => rfl⟩
    | succ k ih =>
      intro hk
      obtain ⟨i1, i2⟩ := ih (by omega)
      have i := nI_0c (k := k) (by omega)
      have p := pcn_le k ap
      obtain ⟨s, hs⟩ : ∃ s, s = itr (bd_X10_empty_4 fr) (0, now) 0 k := ⟨_, rfl⟩
      rw [← hs] at i1 i2
      rw [itr_s, ← hs, bd_X10_empty_4, i.1, i2 k (Nat.le_refl k)]
      have e : pcn (k + 1) ap = pcn k ap + (if bt ap k = true then 1 else 0) := rfl
      rw [e]
      rcases hm.1 k (by omega) with ⟨v, a, _, _⟩ | ⟨v, a, _, _⟩ | ⟨v, a, _, _⟩ | ⟨v, a, _, _⟩
      · rw [v, a, if_neg (by decide : ¬ (0 : Int32) = 1), j_X10_empty_35]
        exact ⟨i1, fun j hj => i2 j (by omega)⟩
      · have s9 := ta_add s.1 1 (by omega)
        rw [v, a, if_pos (rfl : (1 : Int32) = 1), j_X10_empty_35]
        refine ⟨?_, fun j hj => ?_⟩
        · show Int32.toInt (s.1 + 1) = ((pcn k ap + 1 : Nat) : Int)
          omega
        · show upd s.2 k 2 j = now j
          rw [upd_n _ _ (by omega)]; exact i2 j (by omega)
      · rw [v, a, if_neg (by decide : ¬ (2 : Int32) = 1), j_X10_empty_35]
        exact ⟨i1, fun j hj => i2 j (by omega)⟩
      · rw [v, a, if_neg (by decide : ¬ (3 : Int32) = 1), j_X10_empty_35]
        exact ⟨i1, fun j hj => i2 j (by omega)⟩
  rw [F_X10_empty, ex_X10_empty_4]
  have z : (Int32.toInt fr - ((0 : Nat) : Int)).toNat = fr.toInt.toNat := by omega
  rw [z]
  exact (key _ (Nat.le_refl _)).1
theorem ap_r (hm : MO fr ap ba gr now) (bf : 0 ≤ fr.toInt ∧ fr.toInt ≤ 16) : (0 ≤ ap.toInt ∧ ap.toInt < 65536) ∧ Int32.toInt (F_J6_bitCount_0f7a4 ap) = (pcn fr.toInt.toNat ap : Int) := by
  have q : ∀ k : Nat, fr.toInt.toNat ≤ k → bt ap k = false := fun k hk => (hm.2 k (by omega)).1
  have b := bt_bound ap 16 (by decide) (fun k hk => q k (by omega))
  have b : 0 ≤ ap.toInt ∧ ap.toInt < 65536 := b
  refine ⟨b, ?_⟩
  have e := pcn_ext q (16 - fr.toInt.toNat)
  rw [show fr.toInt.toNat + (16 - fr.toInt.toNat) = 16 by omega] at e
  rw [bc_v b, e]
theorem down_ans (T : TR fr sd x h w r ft fk mx mh mw mr mf mk) {th und free mund r1 ap1 ba1 cl1 und1 free1 r2 th2 mund1 : Int32} {cells1 now1 u1 : Nat → Int32} (e9 : (r1, ap1, ba1, cl1, und1, free1, cells1) = F_X9_down fk ap ba gr br la he td cl und free cells) (e10 : (r2, th2, mund1, now1, u1) = F_X10_down fr th mund now mk u) (hm : MR fr sd ap ba gr br la he td now) : r1 = r2 := by
  have bf := T.2.2.1
  rw [F_X9_down] at e9
  rw [F_X10_down] at e10
  rcases down_g (cl := cl) T hm with ⟨a, a2, b, c⟩ | ⟨a, b, _, d⟩
  · rw [hid_n a, a2] at e9
    rw [if_pos b] at e10
    exact (congrArg Prod.fst e9).trans (congrArg Prod.fst e10).symm
  · rw [hid_y (by rw [a]; exact (bc_r ap).1), a] at e9
    rw [if_neg (neg1 b), F_X10_goDown] at e10
    have q1 : r1 = F_J6_bitCount_0f7a4 ap := congrArg Prod.fst e9
    have q2 : r2 = (F_X10_empty fr (F_X10_passBy (F_X10_downOf (now (17 : Int32).toNatClampNeg) mk) now)).1 := congrArg Prod.fst e10
    rw [q1, q2]
    refine i32 ?_
    rw [emp_c (MQm_pass hm.1 bf.2 _).1 bf, (ap_r hm.1.1 bf).2]
end DOWN
