/-! Integer.bitCount counts the bits -/
def nb1 (n : Nat) : Nat := n - ((n >>> 1) &&& 1431655765)
def nb2 (a : Nat) : Nat := (a &&& 858993459) + ((a >>> 2) &&& 858993459)
def nb3 (b : Nat) : Nat := (b + (b >>> 4)) &&& 252645135
def nb4 (c : Nat) : Nat := c + (c >>> 8)
def nb5 (d : Nat) : Nat := d + (d >>> 16)
def bcN (n : Nat) : Nat := nb5 (nb4 (nb3 (nb2 (nb1 n)))) &&& 63
def chk : Nat -> Nat -> Nat -> Bool
  | 0, n, p => Nat.beq (bcN n) p
  | k + 1, n, p => chk k (2 * n) p && chk k (2 * n + 1) (p + 1)
theorem chk16 : chk 16 0 0 = true := by decide +kernel
def cnt : Nat -> Nat -> Nat
  | 0, _ => 0
  | k + 1, n => cnt k n + (n / 2 ^ k) % 2
theorem chk_s : ∀ (k n p : Nat), chk k n p = true -> ∀ m : Nat, m / 2 ^ k = n -> bcN m = p + cnt k m := by
  intro k
  induction k with
  | zero =>
    intro n p h m hm
    have e : m = n := by rw [Nat.pow_zero, Nat.div_one] at hm; exact hm
    have h : Nat.beq (bcN n) p = true := h
    have h := Nat.eq_of_beq_eq_true h
    show bcN m = p + 0
    rw [e]; exact h
  | succ k ih =>
    intro n p h m hm
    have h : (chk k (2 * n) p && chk k (2 * n + 1) (p + 1)) = true := h
    rw [Bool.and_eq_true] at h
    obtain ⟨h1, h2⟩ := h
    have e : m / 2 ^ k / 2 = n := by rw [Nat.div_div_eq_div_mul, <- Nat.pow_succ]; exact hm
    show bcN m = p + (cnt k m + (m / 2 ^ k) % 2)
    rcases (show m / 2 ^ k = 2 * n \/ m / 2 ^ k = 2 * n + 1 by omega) with c | c
    · have := ih _ _ h1 m c; omega
    · have := ih _ _ h2 m c; omega
theorem cnt_p (x : Int32) : ∀ k : Nat, cnt k x.toBitVec.toNat = pcn k x := by
  intro k
  induction k with
  | zero => rfl
  | succ k ih =>
    show cnt k x.toBitVec.toNat + (x.toBitVec.toNat / 2 ^ k) % 2 = pcn k x + (if bt x k = true then 1 else 0)
    rw [ih, bt_tb, Nat.testBit_eq_decide_div_mod_eq]
    by_cases c : x.toBitVec.toNat / 2 ^ k % 2 = 1
    · rw [decide_eq_true c, if_pos rfl, c]
    · rw [decide_eq_false c, if_neg (by decide)]
      omega
def VN (x : Int32) (n : Nat) : Prop := x.toBitVec.toNat = n /\ n < 2147483648
theorem v_and {x y : Int32} {n m : Nat} (h1 : VN x n) (h2 : VN y m) : VN (x &&& y) (n &&& m) := by
  refine ⟨?_, Nat.lt_of_le_of_lt Nat.and_le_left h1.2⟩
  rw [Int32.toBitVec_and, BitVec.toNat_and, h1.1, h2.1]
theorem v_add {x y : Int32} {n m : Nat} (h1 : VN x n) (h2 : VN y m) (h : n + m < 2147483648) : VN (x + y) (n + m) := by
  refine ⟨?_, h⟩
  rw [Int32.toBitVec_add, BitVec.toNat_add, h1.1, h2.1]
  exact Nat.mod_eq_of_lt (by omega)
theorem v_sub {x y : Int32} {n m : Nat} (h1 : VN x n) (h2 : VN y m) (h : m <= n) : VN (x - y) (n - m) := by
  have b := h1.2
  refine ⟨?_, by omega⟩
  rw [Int32.toBitVec_sub, BitVec.toNat_sub, h1.1, h2.1]
  omega
theorem v_shr {x s : Int32} {n : Nat} (k : Nat) (h1 : VN x n) (hs : (s.toUInt32 &&& Int32.toUInt32 31).toNat % 32 = k) : VN ((x.toUInt32 >>> (s.toUInt32 &&& Int32.toUInt32 31)).toInt32) (n >>> k) := by
  have b := h1.2
  have o := tp_o (x := x) (by rw [h1.1]; exact b)
  have q := ti_ushr x s k hs (by omega)
  have g : 0 <= x.toInt / ((2 ^ k : Nat) : Int) := Int.ediv_nonneg (by omega) (Int.natCast_nonneg _)
  have r := tp_n (x := (x.toUInt32 >>> (s.toUInt32 &&& Int32.toUInt32 31)).toInt32) (by rw [q]; exact g)
  have e : ((n >>> k : Nat) : Int) = x.toInt / ((2 ^ k : Nat) : Int) := by
    rw [Nat.shiftRight_eq_div_pow, o, h1.1]
    exact Int.natCast_ediv _ _
  have le : n >>> k <= n := Nat.shiftRight_le n k
  refine ⟨?_, by omega⟩
  have r1 := r.1
  rw [q, <- e] at r1
  omega
theorem bc_v {x : Int32} (h : 0 <= x.toInt /\ x.toInt < 65536) : Int32.toInt (aLS x) = (pcn 16 x : Int) := by
  have hx := tp_n h.1
  obtain ⟨n, hn⟩ : ∃ n, n = x.toBitVec.toNat := ⟨_, rfl⟩
  have h0 : n < 65536 := by omega
  have V0 : VN x n := ⟨hn.symm, by omega⟩
  have i1 : (n >>> 1) &&& 1431655765 <= n := Nat.le_trans Nat.and_le_left (Nat.shiftRight_le n 1)
  have V1 : VN _ (nb1 n) := v_sub V0 (v_and (v_shr (s := 1) 1 V0 (by decide)) (⟨rfl, by decide⟩ : VN 1431655765 1431655765)) i1
  have b1 : nb1 n < 65536 := Nat.lt_of_le_of_lt (Nat.sub_le _ _) h0
  obtain ⟨a, ha⟩ : ∃ a, a = nb1 n := ⟨_, rfl⟩
  rw [<- ha] at V1 b1
  have i2 : a &&& 858993459 <= a := Nat.and_le_left
  have i3 : (a >>> 2) &&& 858993459 <= a := Nat.le_trans Nat.and_le_left (Nat.shiftRight_le a 2)
  have V2 : VN _ (nb2 a) := v_add (v_and V1 (⟨rfl, by decide⟩ : VN 858993459 858993459)) (v_and (v_shr (s := 2) 2 V1 (by decide)) (⟨rfl, by decide⟩ : VN 858993459 858993459)) (by omega)
  have b2 : nb2 a < 131072 := by unfold nb2; omega
  obtain ⟨b, hb⟩ : ∃ b, b = nb2 a := ⟨_, rfl⟩
  rw [<- hb] at V2 b2
  have i4 : b >>> 4 <= b := Nat.shiftRight_le b 4
  have V3 : VN _ (nb3 b) := v_and (v_add V2 (v_shr (s := 4) 4 V2 (by decide)) (by omega)) (⟨rfl, by decide⟩ : VN 252645135 252645135)
  have b3 : nb3 b < 262144 := Nat.lt_of_le_of_lt Nat.and_le_left (by omega)
  obtain ⟨c, hc⟩ : ∃ c, c = nb3 b := ⟨_, rfl⟩
  rw [<- hc] at V3 b3
  have i5 : c >>> 8 <= c := Nat.shiftRight_le c 8
  have V4 : VN _ (nb4 c) := v_add V3 (v_shr (s := 8) 8 V3 (by decide)) (by omega)
  have b4 : nb4 c < 524288 := by unfold nb4; omega
  obtain ⟨d, hd⟩ : ∃ d, d = nb4 c := ⟨_, rfl⟩
  rw [<- hd] at V4 b4
  have i6 : d >>> 16 <= d := Nat.shiftRight_le d 16
  have V5 : VN _ (nb5 d) := v_add V4 (v_shr (s := 16) 16 V4 (by decide)) (by omega)
  have V6 : VN _ (nb5 d &&& 63) := v_and V5 (⟨rfl, by decide⟩ : VN 63 63)
  have VF : VN (aLS x) (nb5 d &&& 63) := by rw [aLS]; exact V6
  have eN : nb5 d &&& 63 = bcN n := by unfold bcN; rw [hd, hc, hb, ha]
  have k := chk_s 16 0 0 chk16 n (Nat.div_eq_of_lt (by omega))
  rw [hn, cnt_p] at k
  rw [hn] at eN
  rw [eN, k] at VF
  have o := tp_o (x := aLS x) (by rw [VF.1]; exact VF.2)
  rw [o, VF.1]
  omega
theorem pcn_ext {x : Int32} {n : Nat} (h : ∀ k : Nat, n <= k -> bt x k = false) : ∀ m : Nat, pcn (n + m) x = pcn n x := by
  intro m
  induction m with
  | zero => rfl
  | succ m ih =>
    show pcn (n + m) x + (if bt x (n + m) = true then 1 else 0) = pcn n x
    rw [ih, h (n + m) (by omega)]
    rfl
/-! down: how many -/
section DOWN
variable {fr sd ap ba gr br la he td cl : Int32} {x h w r ft fk mx mh mw mr mf mk st told now cells u : Nat -> Int32}
theorem emp_c (hm : MO fr ap ba gr now) (bf : 0 <= fr.toInt /\ fr.toInt <= 16) : Int32.toInt (F_X10_empty fr now).1 = (pcn fr.toInt.toNat ap : Int) := by
  have l1 : Int32.toInt (1 : Int32) = 1 := by decide
  have key : ∀ k : Nat, k <= fr.toInt.toNat -> Int32.toInt (itr (bd_X10_empty_4 fr) (0, now) 0 k).1 = (pcn k ap : Int) /\ ∀ j : Nat, k <= j -> (itr (bd_X10_empty_4 fr) (0, now) 0 k).2 j = now j := by
    intro k
    induction k with
    | zero => intro _; exact ⟨(by decide : Int32.toInt (0 : Int32) = ((0 : Nat) : Int)), fun j _ => rfl⟩
    | succ k ih =>
      intro hk
      obtain ⟨i1, i2⟩ := ih (by omega)
      have i := nI_0c (k := k) (by omega)
      have p := pcn_le k ap
      obtain ⟨s, hs⟩ : ∃ s, s = itr (bd_X10_empty_4 fr) (0, now) 0 k := ⟨_, rfl⟩
      rw [<- hs] at i1 i2
      rw [itr_s, <- hs, bd_X10_empty_4, i.1, i2 k (Nat.le_refl k)]
      have e : pcn (k + 1) ap = pcn k ap + (if bt ap k = true then 1 else 0) := rfl
      rw [e]
      rcases hm.1 k (by omega) with ⟨v, a, _, _⟩ | ⟨v, a, _, _⟩ | ⟨v, a, _, _⟩ | ⟨v, a, _, _⟩
      · rw [v, a, if_neg (by decide : ¬ (0 : Int32) = 1), j_X10_empty_35]
        exact ⟨i1, fun j hj => i2 j (by omega)⟩
      · have s9 := aAD s.1 1 (by omega)
        rw [v, a, if_pos (rfl : (1 : Int32) = 1), j_X10_empty_35]
        refine ⟨?_, fun j hj => ?_⟩
        · show Int32.toInt (s.1 + 1) = ((pcn k ap + 1 : Nat) : Int)
          omega
        · show upd s.2 k 2 j = now j
          rw [aGi _ _ (by omega)]; exact i2 j (by omega)
      · rw [v, a, if_neg (by decide : ¬ (2 : Int32) = 1), j_X10_empty_35]
        exact ⟨i1, fun j hj => i2 j (by omega)⟩
      · rw [v, a, if_neg (by decide : ¬ (3 : Int32) = 1), j_X10_empty_35]
        exact ⟨i1, fun j hj => i2 j (by omega)⟩
  rw [F_X10_empty, ex_X10_empty_4]
  have z : (Int32.toInt fr - ((0 : Nat) : Int)).toNat = fr.toInt.toNat := by omega
  rw [z]
  exact (key _ (Nat.le_refl _)).1
theorem ap_r (hm : MO fr ap ba gr now) (bf : 0 <= fr.toInt /\ fr.toInt <= 16) : (0 <= ap.toInt /\ ap.toInt < 65536) /\ Int32.toInt (aLS ap) = (pcn fr.toInt.toNat ap : Int) := by
  have q : ∀ k : Nat, fr.toInt.toNat <= k -> bt ap k = false := fun k hk => (hm.2 k (by omega)).1
  have b := bt_bound ap 16 (by decide) (fun k hk => q k (by omega))
  have b : 0 <= ap.toInt /\ ap.toInt < 65536 := b
  refine ⟨b, ?_⟩
  have e := pcn_ext q (16 - fr.toInt.toNat)
  rw [show fr.toInt.toNat + (16 - fr.toInt.toNat) = 16 by omega] at e
  rw [bc_v b, e]
theorem down_ans (T : TR fr sd x h w r ft fk mx mh mw mr mf mk) {th und free mund r1 ap1 ba1 cl1 und1 free1 r2 th2 mund1 : Int32} {cells1 now1 u1 : Nat -> Int32} (e9 : (r1, ap1, ba1, cl1, und1, free1, cells1) = F_X9_down fk ap ba gr br la he td cl und free cells) (e10 : (r2, th2, mund1, now1, u1) = F_X10_down fr th mund now mk u) (hm : MR fr sd ap ba gr br la he td now) : r1 = r2 := by
  have bf := T.2.2.1
  rw [F_X9_down] at e9
  rw [F_X10_down] at e10
  rcases down_g (cl := cl) T hm with ⟨a, a2, b, c⟩ | ⟨a, b, _, d⟩
  · rw [hid_n a, a2] at e9
    rw [if_pos b] at e10
    exact (congrArg Prod.fst e9).trans (congrArg Prod.fst e10).symm
  · rw [hid_y (by rw [a]; exact (bc_r ap).1), a] at e9
    rw [if_neg (neg1 b), F_X10_goDown] at e10
    have q1 : r1 = aLS ap := congrArg Prod.fst e9
    have q2 : r2 = (F_X10_empty fr (F_X10_passBy (F_X10_downOf (now (17 : Int32).toNatClampNeg) mk) now)).1 := congrArg Prod.fst e10
    rw [q1, q2]
    refine i32 ?_
    rw [emp_c (MQm_pass hm.1 bf.2 _).1 bf, (ap_r hm.1.1 bf).2]
end DOWN
/-! questions of the moment: hands, worth -/
theorem itr_inv {α : Type} (R : Nat -> α -> Prop) {f : Int32 -> α -> α} {a : α} {i : Nat} (h0 : R 0 a) (n : Nat) (hs : ∀ (k : Nat) (s : α), k < n -> R k s -> R (k + 1) (f (nI (i + k)) s)) : R n (itr f a i n) :=
  itr_rel (i := i) (f := f) (g := f) (a := a) (b := a) (fun k s _ => R k s) h0 n (fun k s _ hk h => hs k s hk h)
theorem has0 (x : Int32) {f : Int32} (hf : 0 <= f.toInt /\ f.toInt < 32) : F_X10_has x f = 0 ↔ ((x >>> (f &&& 31)) &&& 1) = 0 := by
  rw [hs_10 x hf, hs_i x hf]
  cases bt x f.toInt.toNat
  · exact ⟨fun _ => rfl, fun _ => if_neg (by decide)⟩
  · rw [if_pos rfl]
    exact ⟨fun h => absurd h n10, fun h => absurd h (by decide)⟩
theorem rb_eq {sd : Int32} {near hand : Nat -> Int32} (bd : 0 <= sd.toInt /\ sd.toInt <= 8) (hn : ∀ k : Nat, (k : Int) < sd.toInt -> near k = hand k) (S : Int32) : F_X5_reachedBy S near sd = F_X10_handOf S sd hand := by
  rw [F_X5_reachedBy, F_X10_handOf, ex_X5_reachedBy_4, ex_X10_handOf_4]
  refine itr_cg _ (fun k s hk => ?_)
  have i := nI_0c (k := k) (by omega)
  have h := has0 S (f := nI (0 + k)) (by omega)
  rw [bd_X5_reachedBy_4, bd_X10_handOf_4]
  by_cases c : ((S >>> (nI (0 + k) &&& 31)) &&& 1) = 0
  · rw [if_pos c, if_pos (h.mpr c), j_X5_reachedBy_32, j_X10_handOf_31, or0]
  · rw [if_neg c, if_neg (fun e => c (h.mp e)), j_X5_reachedBy_32, j_X10_handOf_31, hn _ (by rw [i.1]; omega)]
theorem wo_eq {fr : Int32} {w mw : Nat -> Int32} (bf : 0 <= fr.toInt /\ fr.toInt <= 16) (hw : ∀ k : Nat, (k : Int) < fr.toInt -> w k = mw k) (S B : Int32) : F_X3_worthOf S B fr w = F_X10_worthOfAll S B fr mw := by
  rw [F_X3_worthOf, F_X10_worthOfAll, ex_X3_worthOf_5, ex_X10_worthOfAll_5]
  refine itr_cg _ (fun k s hk => ?_)
  have i := nI_0c (k := k) (by omega)
  have h := has0 S (f := nI (0 + k)) (by omega)
  have h2 := has0 B (f := nI (0 + k)) (by omega)
  have e := hw _ (show ((nI (0 + k)).toNatClampNeg : Int) < fr.toInt by rw [i.1]; omega)
  rw [bd_X3_worthOf_5, bd_X10_worthOfAll_5]
  by_cases c : ((S >>> (nI (0 + k) &&& 31)) &&& 1) = 0
  · rw [if_pos c, if_pos (h.mpr c), j_X3_worthOf_54, j_X10_worthOfAll_35]
    exact (Int32.add_zero _).symm
  · rw [if_neg c, if_neg (fun e => c (h.mp e)), F_X10_worthOf]
    by_cases c2 : ((B >>> (nI (0 + k) &&& 31)) &&& 1) = 0
    · rw [if_pos c2, if_pos (h2.mpr c2), j_X3_worthOf_52, j_X3_worthOf_54, j_X10_worthOfAll_35, e]
    · rw [if_neg c2, if_neg (fun e => c2 (h2.mp e)), j_X3_worthOf_52, j_X3_worthOf_54, j_X10_worthOfAll_35, e]
theorem up_itr {f : Int32 -> (Nat -> Int32) -> (Nat -> Int32)} {v a : Nat -> Int32} (n : Nat) (hn : n <= 2000) (hf : ∀ (k : Nat) (s : Nat -> Int32), k < n -> f (nI (0 + k)) s = upd s k (v k)) : ∀ j : Nat, j < n -> itr f a 0 n j = v j := by
  have key : ∀ k : Nat, k <= n -> ∀ j : Nat, j < k -> itr f a 0 k j = v j := by
    intro k
    induction k with
    | zero => intro _ j hj; exact absurd hj (by omega)
    | succ k ih =>
      intro hk j hj
      rw [itr_s, hf k _ (by omega)]
      by_cases e : j = k
      · rw [e, upd_i]
      · rw [aGi _ _ e]; exact ih (by omega) j (by omega)
  exact key n (Nat.le_refl n)
section QB
variable {fr sd ap ba gr br la he td cl : Int32} {x h w r ft fk mx mh mw mr mf mk st told now : Nat -> Int32}
/-- what both hold of the hands -/
theorem look_eq (T : TR fr sd x h w r ft fk mx mh mw mr mf mk) (hst2 : ∀ k : Nat, k < 5 -> st k = told k) (hm : MR fr sd ap ba gr br la he td now) (a : Int32) {pw mwd : Int32} {pn hand : Nat -> Int32} : (F_X5_lookAs a td pw pn fr sd x h r ft fk st ap ba gr).1 = (F_X10_layHands_ a fr sd mwd now mx mh mr mf mk told hand).1 /\ ∀ k : Nat, (k : Int) < sd.toInt -> (F_X5_lookAs a td pw pn fr sd x h r ft fk st ap ba gr).2 k = (F_X10_layHands_ a fr sd mwd now mx mh mr mf mk told hand).2 k := by
  have bf := T.2.2.1
  have bd := T.2.2.2.1
  have z : (Int32.toInt sd - ((0 : Nat) : Int)).toNat = sd.toInt.toNat := by omega
  have h1 := up_itr (f := bd_X5_lookAs_13 fr sd x h r ft fk st ap ba gr td (F_X3_reach a 0 st) pw) (v := fun k => F_X3_within (nI (0 + k)) (F_X3_reach a 0 st) fr x h ft fk) (a := pn) (Int32.toInt sd - ((0 : Nat) : Int)).toNat (by omega) (fun k s hk => by
    have i := nI_0c (k := k) (by omega)
    rw [bd_X5_lookAs_13, i.1])
  have h2 := up_itr (f := bd_X10_layHands__2 fr sd now mx mh mr mf mk told a mwd) (v := fun k => aLM (nI (0 + k)) a 0 fr mx mh mf mk told) (a := hand) (Int32.toInt sd - ((0 : Nat) : Int)).toNat (by omega) (fun k s hk => by
    have i := nI_0c (k := k) (by omega)
    rw [bd_X10_layHands__2, i.1])
  have key : ∀ k : Nat, (k : Int) < sd.toInt -> itr (bd_X5_lookAs_13 fr sd x h r ft fk st ap ba gr td (F_X3_reach a 0 st) pw) pn 0 (Int32.toInt sd - ((0 : Nat) : Int)).toNat k = itr (bd_X10_layHands__2 fr sd now mx mh mr mf mk told a mwd) hand 0 (Int32.toInt sd - ((0 : Nat) : Int)).toNat k := by
    intro k hk
    have i := nI_0c (k := k) (by omega)
    rw [h1 k (by omega), h2 k (by omega)]
    exact wi_eq T hst2 a 0 (by omega)
  rw [F_X5_lookAs, F_X10_layHands_, ex_X5_lookAs_13, ex_X10_layHands__2]
  refine ⟨?_, key⟩
  show aVS fr ap ba gr &&& F_X3_ripeBy td fr r &&& F_X5_reachedBy (F_X3_allStandings sd) _ sd = aUf 0 fr now &&& F_X10_ripeOnes (now (19 : Int32).toNatClampNeg) fr mr &&& F_X10_handOf (F_X10_allStandings sd) sd _
  rw [rb_eq bd key, rp_eq T, mo_hg hm.1.1 bf, c19, <- hm.1.2.2.2.2]
  rfl
theorem look_e (T : TR fr sd x h w r ft fk mx mh mw mr mf mk) (hst2 : ∀ k : Nat, k < 5 -> st k = told k) (hm : MR fr sd ap ba gr br la he td now) {pw mwd : Int32} {pn hand : Nat -> Int32} : (F_X5_look pw pn fr sd x h r ft fk st ap ba gr he td).1 = (bBY fr sd mwd now mx mh mr mf mk told hand).1 /\ ∀ k : Nat, (k : Int) < sd.toInt -> (F_X5_look pw pn fr sd x h r ft fk st ap ba gr he td).2 k = (bBY fr sd mwd now mx mh mr mf mk told hand).2 k := by
  rw [F_X5_look, bBY, c18, <- hm.1.2.2.2.1]
  exact look_eq T hst2 hm he
theorem from_eq (T : TR fr sd x h w r ft fk mx mh mw mr mf mk) (hst2 : ∀ k : Nat, k < 5 -> st k = told k) (hm : MR fr sd ap ba gr br la he td now) {p k p' k' fr9 sd9 th : Int32} (hp : p' = p) (hk : k' = k) (e1 : fr9 = fr) (e2 : sd9 = sd) : F_X9_from p k fr9 sd9 x h ft fk st he = (F_X10_from p' k' fr sd th now mx mh mf mk told).1 := by
  subst hp hk e1 e2
  have bf := T.2.2.1
  have bd := T.2.2.2.1
  rw [F_X9_from, F_X10_from, yn_eq]
  rcases hfr (p := p') (fr := fr9) (by omega) with ⟨a, b, _⟩ | ⟨a, b, g⟩
  · rw [if_pos a, if_pos b]
  · rw [if_neg (neg1 a), if_neg (neg1 b)]
    rcases in01 k' 0 1 with ⟨q, _⟩ | ⟨q, _⟩
    · rw [if_pos q, if_pos q]
    · rw [if_neg (neg1 q), if_neg (neg1 q), ex_X9_from_42, ex_X10_from_29]
      refine itr_cg _ (fun k s hk => ?_)
      have i := nI_0c (k := k) (by omega)
      rw [bd_X9_from_42, bd_X10_from_29, iw_eq T _ g (by omega), rch_eq hst2, c18, <- hm.1.2.2.2.1, j_X9_from_77, j_X9_from_77, j_X10_from_69, j_X10_from_69, or0]
theorem never_eq (T : TR fr sd x h w r ft fk mx mh mw mr mf mk) (hst2 : ∀ k : Nat, k < 5 -> st k = told k) (hm : MR fr sd ap ba gr br la he td now) {fr9 sd9 th rs rm : Int32} {rn row : Nat -> Int32} (e1 : fr9 = fr) (e2 : sd9 = sd) : (F_X9_never fr9 sd9 x h w ft fk st ap ba gr br rs rn).1 = (F_X10_never fr sd rm th now mx mh mw mf mk told row).1 := by
  subst e1 e2
  have bf := T.2.2.1
  have bd := T.2.2.2.1
  rw [F_X9_never, F_X10_never, ex_X9_never_10, ex_X10_never_17, mo_hg hm.1.1 bf]
  refine itr_cg _ (fun k s hk => ?_)
  have i := nI_0c (k := k) (by omega)
  rw [bd_X9_never_10, bd_X10_never_17, wi_eq T hst2 1 1 (by omega)]
theorem and3 (a b c : Int32) : (a &&& b) &&& (a &&& c) = (a &&& b) &&& c := bt_ext (fun k _ => by
  rw [bt_and, bt_and, bt_and, bt_and, bt_and]
  cases bt a k <;> cases bt b k <;> cases bt c k <;> rfl)
theorem both_eq (T : TR fr sd x h w r ft fk mx mh mw mr mf mk) (hst2 : ∀ k : Nat, k < 5 -> st k = told k) (hm : MR fr sd ap ba gr br la he td now) {p k p' k' fr9 sd9 th rs rm pw mwd : Int32} {rn row pn hand : Nat -> Int32} (hp : p' = p) (hk : k' = k) (e1 : fr9 = fr) (e2 : sd9 = sd) : (F_X9_both p k pw pn fr9 sd9 x h r ft fk st ap ba gr he td rs rn).1 = (F_X10_both p' k' fr sd rm th mwd now mx mh mr mf mk told row hand).1 := by
  subst hp hk e1 e2
  have bd := T.2.2.2.1
  rw [F_X9_both, F_X10_both]
  rcases hst (p := p') (sd := sd9) (by omega) with ⟨a, b, _⟩ | ⟨a, b, g⟩
  · rw [if_pos a, if_pos b]
  · rw [if_neg (neg1 a), if_neg (neg1 b)]
    rcases hst (p := k') (sd := sd9) (by omega) with ⟨a2, b2, _⟩ | ⟨a2, b2, g2⟩
    · rw [if_pos a2, if_pos b2]
    · rw [if_neg (neg1 a2), if_neg (neg1 b2)]
      by_cases c : p' = k'
      · rw [if_pos c, if_pos c]
      · rw [if_neg c, if_neg c]
        obtain ⟨q1, q2⟩ := look_e T hst2 hm (pw := pw) (pn := pn) (mwd := mwd) (hand := hand)
        have c1 := cl_n p'
        have c2 := cl_n k'
        show F_X5_wantedFrom p' (F_X5_look pw pn fr9 sd9 x h r ft fk st ap ba gr he td).1 (F_X5_look pw pn fr9 sd9 x h r ft fk st ap ba gr he td).2 &&& F_X5_wantedFrom k' (F_X5_look pw pn fr9 sd9 x h r ft fk st ap ba gr he td).1 (F_X5_look pw pn fr9 sd9 x h r ft fk st ap ba gr he td).2 = (bBY fr9 sd9 mwd now mx mh mr mf mk told hand).1 &&& (bBY fr9 sd9 mwd now mx mh mr mf mk told hand).2 p'.toNatClampNeg &&& (bBY fr9 sd9 mwd now mx mh mr mf mk told hand).2 k'.toNatClampNeg
        rw [F_X5_wantedFrom, F_X5_wantedFrom, q1, q2 p'.toNatClampNeg (by omega), q2 k'.toNatClampNeg (by omega)]
        exact and3 _ _ _
end QB
/-! sets of standings; next -/
theorem as_b : ∀ n, n < 9 -> ∀ j, j < 32 -> bt (((1 : Int32) <<< (nI n &&& 31)) - 1) j = decide (j < n) := by decide +kernel
theorem as_t : ∀ n, n < 9 -> Int32.toInt (((1 : Int32) <<< (nI n &&& 31)) - 1) = ((2 ^ n : Nat) : Int) - 1 := by decide +kernel
theorem as_bt {sd : Int32} (bd : 0 <= sd.toInt /\ sd.toInt <= 8) (j : Nat) : bt (F_X10_allStandings sd) j = decide (j < sd.toInt.toNat) := by
  by_cases hj : j < 32
  · have e := tp_nI bd.1
    rw [F_X10_allStandings]
    have q := as_b sd.toInt.toNat (by omega) j hj
    rw [<- e] at q
    exact q
  · rw [bt_ge _ _ (by omega), decide_eq_false (by omega)]
theorem as_ti {sd : Int32} (bd : 0 <= sd.toInt /\ sd.toInt <= 8) : Int32.toInt (F_X10_allStandings sd) = ((2 ^ sd.toInt.toNat : Nat) : Int) - 1 := by
  have e := tp_nI bd.1
  rw [F_X10_allStandings]
  have q := as_t sd.toInt.toNat (by omega)
  rw [<- e] at q
  exact q
theorem as_lt {sd : Int32} (bd : 0 <= sd.toInt /\ sd.toInt <= 8) : Int32.toInt (F_X10_allStandings sd) < 2147483647 := by
  have t := as_ti bd
  have p : (2 ^ sd.toInt.toNat : Nat) <= 2 ^ 8 := Nat.pow_le_pow_right (by omega) (by omega)
  omega
theorem sub_bt {p a : Int32} : p &&& (a ^^^ (-1)) = 0 ↔ ∀ j : Nat, j < 32 -> bt p j = true -> bt a j = true := by
  refine ⟨fun e j hj hp => ?_, fun h => bt_ext (fun j hj => ?_)⟩
  · have q := congrArg (fun y => bt y j) e
    have q : bt (p &&& (a ^^^ (-1))) j = bt 0 j := q
    rw [bt_and, bt_not _ _ hj, bt_zero, hp, Bool.true_and] at q
    cases hx : bt a j
    · rw [hx] at q; exact absurd q (by decide)
    · rfl
  · rw [bt_and, bt_not _ _ hj, bt_zero]
    cases hp : bt p j
    · rfl
    · rw [h j hj hp]; rfl
theorem as_in {p sd : Int32} (bd : 0 <= sd.toInt /\ sd.toInt <= 8) : (F_X3_areStandings p sd = 0 /\ aUe p 0 (F_X10_allStandings sd) = 0) \/ (F_X3_areStandings p sd = 1 /\ aUe p 0 (F_X10_allStandings sd) = 1 /\ (0 <= p.toInt /\ p.toInt < ((2 ^ sd.toInt.toNat : Nat) : Int)) /\ ∀ j : Nat, sd.toInt.toNat <= j -> bt p j = false) := by
  have l0 : Int32.toInt (0 : Int32) = 0 := by decide
  have e9 : F_X3_allStandings sd = F_X10_allStandings sd := rfl
  have t := as_ti bd
  rw [F_X3_areStandings, e9]
  by_cases c : p &&& (F_X10_allStandings sd ^^^ (-1)) = 0
  · have hb : ∀ j : Nat, sd.toInt.toNat <= j -> bt p j = false := by
      intro j hj
      by_cases h32 : j < 32
      · cases hp : bt p j
        · rfl
        · have q := sub_bt.mp c j h32 hp
          rw [as_bt bd, decide_eq_false (by omega)] at q
          exact absurd q (by decide)
      · exact bt_ge _ _ (by omega)
    have r := bt_bound p sd.toInt.toNat (by omega) hb
    rw [if_pos c]
    refine Or.inr ⟨rfl, ?_, r, hb⟩
    rcases in01 p 0 (F_X10_allStandings sd) with ⟨_, q⟩ | ⟨q, _⟩
    · exfalso; omega
    · exact q
  · rw [if_neg c]
    refine Or.inl ⟨rfl, ?_⟩
    rcases in01 p 0 (F_X10_allStandings sd) with ⟨q, _⟩ | ⟨_, q1, q2⟩
    · exact q
    · exfalso
      have hb := bt_lt p sd.toInt.toNat (by omega)
      refine c (sub_bt.mpr (fun j _ hp => ?_))
      rw [as_bt bd]
      refine decide_eq_true ?_
      rcases Nat.lt_or_ge j sd.toInt.toNat with h | h
      · exact h
      · rw [hb j h] at hp; exact absurd hp (by decide)
section QC
variable {fr sd ap ba gr br la he td cl : Int32} {x h w r ft fk mx mh mw mr mf mk st told now : Nat -> Int32}
theorem wl_eq (T : TR fr sd x h w r ft fk mx mh mw mr mf mk) (hm : MR fr sd ap ba gr br la he td now) {wd mwd : Int32} {near hand : Nat -> Int32} (hwd : wd = mwd) (hn : ∀ k : Nat, (k : Int) < sd.toInt -> near k = hand k) (S : Int32) : F_X5_worthLeft S wd near fr sd w br = F_X10_leftBy S fr sd mwd now mw hand := by
  rw [F_X5_worthLeft, F_X10_leftBy, F_X0_worthOf, rb_eq T.2.2.2.1 hn, hwd, c16, <- hm.1.2.1, wo_eq T.2.2.1 (fun k hk => (T.1 k hk).2.2.1)]
theorem next_eq (T : TR fr sd x h w r ft fk mx mh mw mr mf mk) (hst2 : ∀ k : Nat, k < 5 -> st k = told k) (hm : MR fr sd ap ba gr br la he td now) {p p' fr9 sd9 th rs rm pw mwd : Int32} {rn row pn hand : Nat -> Int32} (hp : p' = p) (e1 : fr9 = fr) (e2 : sd9 = sd) : (F_X9_next p pw pn fr9 sd9 x h w r ft fk st ap ba gr br he td rs rn).1 = (F_X10_next p' fr sd rm th mwd now mx mh mw mr mf mk told row hand).1 := by
  subst hp e1 e2
  have bd := T.2.2.2.1
  have l0 : Int32.toInt (0 : Int32) = 0 := by decide
  have lm : Int32.toInt (-2 : Int32) = -2 := by decide
  rw [F_X9_next, F_X10_next]
  rcases as_in (p := p') bd with ⟨a, b⟩ | ⟨a, b, g, gb⟩
  · rw [if_pos a, if_pos b]
  · rw [if_neg (neg1 a), if_neg (neg1 b)]
    obtain ⟨q1, q2⟩ := look_e T hst2 hm (pw := pw) (pn := pn) (mwd := mwd) (hand := hand)
    obtain ⟨A, hA⟩ : ∃ l, l = F_X5_look pw pn fr9 sd9 x h r ft fk st ap ba gr he td := ⟨_, rfl⟩
    obtain ⟨B, hB⟩ : ∃ l, l = bBY fr9 sd9 mwd now mx mh mr mf mk told hand := ⟨_, rfl⟩
    rw [<- hA, <- hB] at q1 q2
    rw [<- hA, <- hB]
    have wl := wl_eq T hm q1 q2
    have key := itr_rel (i := 0) (f := bd_X9_next_28 fr9 sd9 x h w r ft fk st ap ba gr br he td p' A.1 A.2 rs rn) (g := bd_X10_next_28 fr9 sd9 now mx mh mw mr mf mk told p' rm 0 B.1 row B.2) (a := ((-2 : Int32), (0 : Int32))) (b := (-2 : Int32)) (fun (k : Nat) (s : Int32 × Int32) (t : Int32) => s.1 = t /\ (t = -2 \/ ((0 <= t.toInt /\ t.toInt < (k : Int)) /\ s.2 = F_X10_leftBy (p' ||| (1 <<< (t &&& 31))) fr9 sd9 B.1 now mw B.2))) ⟨rfl, Or.inl rfl⟩ (Int32.toInt sd9 - ((0 : Nat) : Int)).toNat (fun k s t hk hR => by
      have i := nI_0c (k := k) (by omega)
      have hh := has0 p' (f := nI (0 + k)) (by omega)
      obtain ⟨r1, r2⟩ := hR
      rw [bd_X9_next_28, bd_X10_next_28, r1, wl]
      have new : (j_X9_next_74 (fun q0 q1 q2 q3 q4 q5 q6 q7 => (q1, q2)) fr9 sd9 x h w r ft fk st ap ba gr br he td p' (nI (0 + k)) (F_X10_leftBy (p' ||| (1 <<< (nI (0 + k) &&& 31))) fr9 sd9 B.1 now mw B.2) A.1 A.2 rs rn).1 = j_X10_next_69 (fun q0 q1 q2 q3 q4 q5 q6 q7 => q1) fr9 sd9 now mx mh mw mr mf mk told p' (nI (0 + k)) rm 0 B.1 row B.2 /\ (j_X10_next_69 (fun q0 q1 q2 q3 q4 q5 q6 q7 => q1) fr9 sd9 now mx mh mw mr mf mk told p' (nI (0 + k)) rm 0 B.1 row B.2 = -2 \/ ((0 <= Int32.toInt (j_X10_next_69 (fun q0 q1 q2 q3 q4 q5 q6 q7 => q1) fr9 sd9 now mx mh mw mr mf mk told p' (nI (0 + k)) rm 0 B.1 row B.2) /\ Int32.toInt (j_X10_next_69 (fun q0 q1 q2 q3 q4 q5 q6 q7 => q1) fr9 sd9 now mx mh mw mr mf mk told p' (nI (0 + k)) rm 0 B.1 row B.2) < ((k + 1 : Nat) : Int)) /\ (j_X9_next_74 (fun q0 q1 q2 q3 q4 q5 q6 q7 => (q1, q2)) fr9 sd9 x h w r ft fk st ap ba gr br he td p' (nI (0 + k)) (F_X10_leftBy (p' ||| (1 <<< (nI (0 + k) &&& 31))) fr9 sd9 B.1 now mw B.2) A.1 A.2 rs rn).2 = F_X10_leftBy (p' ||| (1 <<< (j_X10_next_69 (fun q0 q1 q2 q3 q4 q5 q6 q7 => q1) fr9 sd9 now mx mh mw mr mf mk told p' (nI (0 + k)) rm 0 B.1 row B.2 &&& 31))) fr9 sd9 B.1 now mw B.2)) := by
        rw [j_X9_next_74, j_X9_next_80, j_X10_next_69, j_X10_next_71]
        exact ⟨rfl, Or.inr ⟨⟨by omega, by omega⟩, rfl⟩⟩
      have old : t = -2 \/ ((0 <= t.toInt /\ t.toInt < ((k + 1 : Nat) : Int)) /\ s.2 = F_X10_leftBy (p' ||| (1 <<< (t &&& 31))) fr9 sd9 B.1 now mw B.2) := by
        rcases r2 with r2 | ⟨r2, r3⟩
        · exact Or.inl r2
        · exact Or.inr ⟨by omega, r3⟩
      by_cases c : ((p' >>> (nI (0 + k) &&& 31)) &&& 1) = 0
      · rw [if_pos c, if_pos (hh.mpr c)]
        rcases r2 with r2 | ⟨r2, r3⟩
        · have k5 : t < 0 := by rw [r2]; decide
          rw [if_pos k5, if_pos k5]
          exact new
        · have k5 : ¬ t < 0 := fun c => by have := (aAd _ _).mp c; omega
          rw [if_neg k5, if_neg k5, r3]
          by_cases c2 : F_X10_leftBy (p' ||| (1 <<< (t &&& 31))) fr9 sd9 B.1 now mw B.2 <= F_X10_leftBy (p' ||| (1 <<< (nI (0 + k) &&& 31))) fr9 sd9 B.1 now mw B.2
          · rw [if_pos c2, if_pos c2, j_X9_next_80, j_X10_next_71]
            rw [r3] at old
            exact ⟨rfl, old⟩
          · rw [if_neg c2, if_neg c2]
            exact new
      · rw [if_neg c, if_neg (fun e => c (hh.mp e)), j_X9_next_80, j_X10_next_71]
        exact ⟨rfl, old⟩)
    rw [ex_X9_next_28, ex_X10_next_28]
    obtain ⟨r1, r2⟩ := key
    rcases r2 with r2 | ⟨r2, r3⟩
    · rw [r1, r2, if_pos (by decide), if_neg (by decide)]
    · rw [r1, if_neg (fun c => by have := (aAd _ _).mp c; omega), if_pos ((aAO _ _).mpr (by omega))]
end QC
/-! bits that are cleared and counted -/
theorem hand_bt {sd S : Int32} {hand : Nat -> Int32} (bd : 0 <= sd.toInt /\ sd.toInt <= 8) (j : Nat) : bt (F_X10_handOf S sd hand) j = true ↔ ∃ k : Nat, k < sd.toInt.toNat /\ bt S k = true /\ bt (hand k) j = true := by
  rw [F_X10_handOf, ex_X10_handOf_4, show (Int32.toInt sd - ((0 : Nat) : Int)).toNat = sd.toInt.toNat by omega]
  have q := itr_or (f := bd_X10_handOf_4 sd hand S) (c := fun k => bt S k = true) (v := hand) (a := 0) sd.toInt.toNat (fun k s hk hc => by
    have i := nI_0c (k := k) (by omega)
    have i2 : (Int32.toInt (nI (0 + k))).toNat = k := by omega
    have h := hs_10 S (f := nI (0 + k)) (by omega)
    rw [i2, if_pos hc] at h
    rw [bd_X10_handOf_4, h, if_neg n10, j_X10_handOf_31, i.1]) (fun k s hk hc => by
    have i := nI_0c (k := k) (by omega)
    have i2 : (Int32.toInt (nI (0 + k))).toNat = k := by omega
    have h := hs_10 S (f := nI (0 + k)) (by omega)
    rw [i2, if_neg hc] at h
    rw [bd_X10_handOf_4, h, if_pos rfl, j_X10_handOf_31, or0]) j
  rw [bt_zero] at q
  refine q.trans ⟨fun h9 => ?_, fun h9 => Or.inr h9⟩
  rcases h9 with h9 | h9
  · exact absurd h9 (by decide)
  · exact h9
theorem pcn_zero : ∀ n : Nat, pcn n 0 = 0 := by
  intro n
  induction n with
  | zero => rfl
  | succ n ih =>
    show pcn n 0 + (if bt 0 n = true then 1 else 0) = 0
    rw [ih, bt_zero]; rfl
theorem clrn (x : Int32) {j : Nat} (hj : j < 16) (k : Nat) : bt (x &&& ((1 <<< (nI j &&& 31)) ^^^ (-1))) k = (bt x k && !decide (k = j)) := by
  by_cases h : k < 32
  · rw [bt_and, bt_not _ _ h, bt_shlN j (by omega)]
  · rw [bt_and, bt_ge _ _ (by omega), bt_ge _ _ (by omega), Bool.false_and, Bool.false_and]
theorem pcn_clr1 (x : Int32) {j : Nat} (hj : j < 16) (h : bt x j = true) : pcn 16 (x &&& ((1 <<< (nI j &&& 31)) ^^^ (-1))) + 1 = pcn 16 x := by
  refine pcn_one x _ j h ?_ (fun k hk => ?_) 16 hj
  · rw [clrn x hj, decide_eq_true rfl, h]; rfl
  · rw [clrn x hj, decide_eq_false hk]; simp
theorem pcn_1 {x : Int32} (hx : ∀ k : Nat, 16 <= k -> bt x k = false) {j : Nat} (hj : bt x j = true) : pcn 16 x = 1 ↔ ∀ k : Nat, bt x k = true -> k = j := by
  have j16 : j < 16 := by
    rcases Nat.lt_or_ge j 16 with h | h
    · exact h
    · rw [hx j h] at hj; exact absurd hj (by decide)
  have q := pcn_clr1 x j16 hj
  refine ⟨fun h1 k hk => ?_, fun h1 => ?_⟩
  · rcases Nat.decEq k j with hn | he
    · exfalso
      have k16 : k < 16 := by
        rcases Nat.lt_or_ge k 16 with h | h
        · exact h
        · rw [hx k h] at hk; exact absurd hk (by decide)
      have hk2 : bt (x &&& ((1 <<< (nI j &&& 31)) ^^^ (-1))) k = true := by rw [clrn x j16, hk, decide_eq_false hn]; rfl
      have q2 := pcn_clr1 _ k16 hk2
      omega
    · exact he
  · have e : x &&& ((1 <<< (nI j &&& 31)) ^^^ (-1)) = 0 := bt_ext (fun k _ => by
      rw [clrn x j16, bt_zero]
      cases hk : bt x k
      · rfl
      · rw [h1 k hk, decide_eq_true rfl]; rfl)
    rw [e, pcn_zero] at q
    omega
theorem i_sc (a b c : Int32) : a + b - c = a - c + b := by
  refine Int32.toBitVec_inj.mp ?_
  rw [Int32.toBitVec_sub, Int32.toBitVec_add, Int32.toBitVec_add, Int32.toBitVec_sub]
  exact BitVec.add_sub_comm
theorem i_ss (a b : Int32) : a + b - b = a := by
  refine Int32.toBitVec_inj.mp ?_
  rw [Int32.toBitVec_sub, Int32.toBitVec_add]
  exact BitVec.add_sub_cancel _ _
/-! route: the table's least against the class's sum -/
def LH (foot : Nat -> Int32) (S : Int32) (lo hi : Int) : Prop := (∀ k : Nat, bt S k = true -> lo <= (foot k).toInt /\ (foot k).toInt <= hi) /\ (∃ a : Nat, bt S a = true /\ (foot a).toInt = lo) /\ ∃ b : Nat, bt S b = true /\ (foot b).toInt = hi
def AB (a b d : Int) : Prop := (a <= b /\ d = b - a) \/ (b <= a /\ d = a - b)
def MN (a b m : Int) : Prop := (a <= b /\ m = a) \/ (b <= a /\ m = b)
/-- how far it is from a place (none: v = false) through all of a set -/
def SP (v : Bool) (f lo hi D : Int) : Prop := (v = false /\ D = hi - lo) \/ (v = true /\ ∃ d1 d2 m : Int, AB f lo d1 /\ AB f hi d2 /\ MN d1 d2 m /\ D = hi - lo + m)
theorem SP_ex (v : Bool) (f lo hi : Int) : ∃ D, SP v f lo hi D := by
  cases v
  · exact ⟨hi - lo, Or.inl ⟨rfl, rfl⟩⟩
  · have ab : ∀ a b : Int, ∃ d, AB a b d := fun a b => by
      by_cases c : a <= b
      · exact ⟨b - a, Or.inl ⟨c, rfl⟩⟩
      · exact ⟨a - b, Or.inr ⟨by omega, rfl⟩⟩
    obtain ⟨d1, h1⟩ := ab f lo
    obtain ⟨d2, h2⟩ := ab f hi
    by_cases c : d1 <= d2
    · exact ⟨_, Or.inr ⟨rfl, d1, d2, d1, h1, h2, Or.inl ⟨c, rfl⟩, rfl⟩⟩
    · exact ⟨_, Or.inr ⟨rfl, d1, d2, d2, h1, h2, Or.inr ⟨by omega, rfl⟩, rfl⟩⟩
/-- one step and what is left: never shorter -/
theorem SP_le {v : Bool} {f lo hi s lo' hi' D D' e : Int} (h : SP v f lo hi D) (h' : SP true s lo' hi' D') (he : (v = false /\ e = 0) \/ (v = true /\ AB f s e)) (h1 : lo <= s /\ s <= hi) (h2 : lo <= lo' /\ lo' <= hi' /\ hi' <= hi) (h3 : s = lo \/ lo' = lo) (h4 : s = hi \/ hi' = hi) : D <= e + D' := by
  rcases h' with ⟨c, _⟩ | ⟨_, d1', d2', m', a1', a2', a3', rfl⟩
  · exact absurd c (by decide)
  unfold AB at a1' a2'
  unfold MN at a3'
  rcases h with ⟨rfl, rfl⟩ | ⟨rfl, d1, d2, m, a1, a2, a3, rfl⟩
  · rcases he with ⟨_, rfl⟩ | ⟨c, _⟩
    · omega
    · exact absurd c (by decide)
  · rcases he with ⟨c, _⟩ | ⟨_, ae⟩
    · exact absurd c (by decide)
    · unfold AB at a1 a2 ae
      unfold MN at a3
      omega
/-- from the nearer end: just as long -/
theorem SP_lo {v : Bool} {f lo hi lo' hi' D D' e : Int} (h : SP v f lo hi D) (h' : SP true lo lo' hi' D') (he : (v = false /\ e = 0) \/ (v = true /\ AB f lo e)) (hn : v = true -> ∀ d2, AB f hi d2 -> e <= d2) (h2 : lo <= lo' /\ lo' <= hi' /\ hi' <= hi) (h4 : lo = hi \/ hi' = hi) : D = e + D' := by
  rcases h' with ⟨c, _⟩ | ⟨_, d1', d2', m', a1', a2', a3', rfl⟩
  · exact absurd c (by decide)
  unfold AB at a1' a2'
  unfold MN at a3'
  rcases h with ⟨rfl, rfl⟩ | ⟨rfl, d1, d2, m, a1, a2, a3, rfl⟩
  · rcases he with ⟨_, rfl⟩ | ⟨c, _⟩
    · omega
    · exact absurd c (by decide)
  · rcases he with ⟨c, _⟩ | ⟨_, ae⟩
    · exact absurd c (by decide)
    · have q := hn rfl d2 a2
      unfold AB at a1 a2 ae
      unfold MN at a3
      omega
theorem SP_hi {f lo hi lo' hi' D D' e : Int} (h : SP true f lo hi D) (h' : SP true hi lo' hi' D') (he : AB f hi e) (hn : ∀ d1, AB f lo d1 -> e <= d1) (h2 : lo <= lo' /\ lo' <= hi' /\ hi' <= hi) (h4 : hi = lo \/ lo' = lo) : D = e + D' := by
  rcases h' with ⟨c, _⟩ | ⟨_, d1', d2', m', a1', a2', a3', rfl⟩
  · exact absurd c (by decide)
  rcases h with ⟨c, _⟩ | ⟨_, d1, d2, m, a1, a2, a3, rfl⟩
  · exact absurd c (by decide)
  have q := hn d1 a1
  unfold AB at a1' a2' a1 a2 he
  unfold MN at a3' a3
  omega
theorem ab_i {a b : Int32} (ha : 0 <= a.toInt /\ a.toInt <= 99) (hb : 0 <= b.toInt /\ b.toInt <= 99) : AB a.toInt b.toInt (Int32.toInt (if 0 <= a - b then a - b else 0 - (a - b))) := by
  have l0 : Int32.toInt (0 : Int32) = 0 := by decide
  have s := aCA a b (by omega)
  unfold AB
  by_cases c : 0 <= a - b
  · have d := (aAO _ _).mp c
    rw [if_pos c]; omega
  · have d := mt (aAO _ _).mpr c
    have n := aCA 0 (a - b) (by omega)
    rw [if_neg c]; omega
section QP
variable {sd : Int32} {mf told : Nat -> Int32}
theorem lh_v (bd : 0 <= sd.toInt /\ sd.toInt <= 8) (bm : ∀ k : Nat, 0 <= Int32.toInt (mf k) /\ Int32.toInt (mf k) <= 99) {a S n : Int32} (hS : ∀ k : Nat, bt S k = true -> (k : Int) < sd.toInt) (h0 : ∃ k : Nat, bt S k = true) : LH mf S (Int32.toInt (itr (bd_X3_waySeconds_21 sd mf told a S n) ((99 : Int32), (0 : Int32)) 0 (Int32.toInt sd - ((0 : Nat) : Int)).toNat).1) (Int32.toInt (itr (bd_X3_waySeconds_21 sd mf told a S n) ((99 : Int32), (0 : Int32)) 0 (Int32.toInt sd - ((0 : Nat) : Int)).toNat).2) := by
  have l99 : Int32.toInt (99 : Int32) = 99 := by decide
  have l0 : Int32.toInt (0 : Int32) = 0 := by decide
  have key := itr_inv (i := 0) (f := bd_X3_waySeconds_21 sd mf told a S n) (a := ((99 : Int32), (0 : Int32))) (fun (k : Nat) (s : Int32 × Int32) => (∀ j : Nat, j < k -> bt S j = true -> s.1.toInt <= (mf j).toInt /\ (mf j).toInt <= s.2.toInt) /\ ((s.1.toInt = 99 /\ s.2.toInt = 0 /\ ∀ j : Nat, j < k -> bt S j = false) \/ ((∃ b : Nat, bt S b = true /\ (mf b).toInt = s.1.toInt) /\ ∃ b : Nat, bt S b = true /\ (mf b).toInt = s.2.toInt))) ⟨fun j hj => absurd hj (by omega), Or.inl ⟨l99, l0, fun j hj => absurd hj (by omega)⟩⟩ (Int32.toInt sd - ((0 : Nat) : Int)).toNat (fun k s hk hR => by
    have kb : k < 8 := by omega
    have hR : (∀ j : Nat, j < k -> bt S j = true -> s.1.toInt <= (mf j).toInt /\ (mf j).toInt <= s.2.toInt) /\ ((s.1.toInt = 99 /\ s.2.toInt = 0 /\ ∀ j : Nat, j < k -> bt S j = false) \/ ((∃ b : Nat, bt S b = true /\ (mf b).toInt = s.1.toInt) /\ ∃ b : Nat, bt S b = true /\ (mf b).toInt = s.2.toInt)) := hR
    obtain ⟨r1, r2⟩ := hR
    have i := nI_0c (k := k) (Nat.lt_trans kb (by decide))
    have nn : nI (0 + k) = nI k := by rw [Nat.zero_add]
    have hh := hs_0 S (k := k) (Nat.lt_trans kb (by decide))
    have fin : ∀ t : Int32 × Int32, t = bd_X3_waySeconds_21 sd mf told a S n (nI (0 + k)) s -> (∀ j : Nat, j < k + 1 -> bt S j = true -> t.1.toInt <= (mf j).toInt /\ (mf j).toInt <= t.2.toInt) /\ ((t.1.toInt = 99 /\ t.2.toInt = 0 /\ ∀ j : Nat, j < k + 1 -> bt S j = false) \/ ((∃ b : Nat, bt S b = true /\ (mf b).toInt = t.1.toInt) /\ ∃ b : Nat, bt S b = true /\ (mf b).toInt = t.2.toInt)) := by
      intro t ht
      rw [bd_X3_waySeconds_21, i.1, nn] at ht
      by_cases c : ((S >>> (nI k &&& 31)) &&& 1) = 0
      · have b := hh.mp c
        rw [if_pos c, j_X3_waySeconds_67] at ht
        rw [ht]
        refine ⟨fun j hj hb => ?_, ?_⟩
        · by_cases e : j = k
          · rw [e, b] at hb; exact absurd hb (by decide)
          · exact r1 j (by omega) hb
        · rcases r2 with ⟨q1, q2, q3⟩ | q
          · refine Or.inl ⟨q1, q2, fun j hj => ?_⟩
            by_cases e : j = k
            · rw [e]; exact b
            · exact q3 j (by omega)
          · exact Or.inr q
      · have b : bt S k = true := by
          cases hx : bt S k
          · exact absurd (hh.mpr hx) c
          · rfl
        have mi := ti_min s.1 (mf k)
        have ma := ti_max s.2 (mf k)
        have bk := bm k
        rw [if_neg c, j_X3_waySeconds_67] at ht
        rw [ht]
        dsimp only
        refine ⟨fun j hj hb => ?_, Or.inr ⟨?_, ?_⟩⟩
        · by_cases e : j = k
          · rw [e]; omega
          · have q := r1 j (by omega) hb; omega
        · rcases r2 with ⟨q1, q2, q3⟩ | ⟨⟨u, u1, u2⟩, _⟩
          · exact ⟨k, b, by omega⟩
          · rcases mi.2.2 with e | e
            · exact ⟨u, u1, by omega⟩
            · exact ⟨k, b, by omega⟩
        · rcases r2 with ⟨q1, q2, q3⟩ | ⟨_, ⟨u, u1, u2⟩⟩
          · exact ⟨k, b, by omega⟩
          · rcases ma.2.2 with e | e
            · exact ⟨u, u1, by omega⟩
            · exact ⟨k, b, by omega⟩
    exact fin _ rfl)
  obtain ⟨r1, r2⟩ := key
  refine ⟨fun k hk => r1 k (by have := hS k hk; omega) hk, ?_⟩
  rcases r2 with ⟨_, _, q⟩ | q
  · obtain ⟨k, hk⟩ := h0
    have := q k (by have := hS k hk; omega)
    rw [hk] at this; exact absurd this (by decide)
  · exact q
/-- what the class says of a way -/
theorem way_v (bd : 0 <= sd.toInt /\ sd.toInt <= 8) (bm : ∀ k : Nat, 0 <= Int32.toInt (mf k) /\ Int32.toInt (mf k) <= 99) (ht : 0 <= Int32.toInt (told 3) /\ Int32.toInt (told 3) <= 9) {a S : Int32} (hS : ∀ k : Nat, bt S k = true -> (k : Int) < sd.toInt) (ha : a = -1 \/ 0 <= a.toInt) : (S = 0 /\ Int32.toInt (F_X3_waySeconds a S sd mf told) = 0) \/ ((∃ k : Nat, bt S k = true) /\ ∃ lo hi D : Int, LH mf S lo hi /\ SP (decide (¬ a = -1)) (Int32.toInt (mf a.toNatClampNeg)) lo hi D /\ Int32.toInt (F_X3_waySeconds a S sd mf told) = 9 * (pcn 16 S : Int) + Int32.toInt (told 3) * D) := by
  have l0 : Int32.toInt (0 : Int32) = 0 := by decide
  have l9 : Int32.toInt (9 : Int32) = 9 := by decide
  have c3 : (3 : Int32).toNatClampNeg = 3 := by decide
  have q8 : ∀ k : Nat, 8 <= k -> bt S k = false := fun k hk => by
    cases hx : bt S k
    · rfl
    · have := hS k hx; exfalso; omega
  have bS := bt_bound S 8 (by decide) q8
  have bS : 0 <= S.toInt /\ S.toInt < 256 := bS
  have bv := bc_v (x := S) (by omega)
  have p8 := pcn_ext (n := 8) q8 8
  have p8 : pcn 16 S = pcn 8 S := p8
  have pl := pcn_le 8 S
  rw [F_X3_waySeconds]
  rcases Classical.em (∃ k : Nat, bt S k = true) with h0 | h0
  · have pne : ¬ aLS S = 0 := fun e => by
      obtain ⟨k, hk⟩ := h0
      have k8 : k < 16 := by have := hS k hk; omega
      have q := pcn_clr1 S k8 hk
      have e := congrArg Int32.toInt e
      omega
    rw [if_neg pne]
    refine Or.inr ⟨h0, ?_⟩
    have lh := lh_v (told := told) (a := a) (n := aLS S) bd bm hS h0
    obtain ⟨s, hs⟩ : ∃ s, s = itr (bd_X3_waySeconds_21 sd mf told a S (aLS S)) ((99 : Int32), (0 : Int32)) 0 (Int32.toInt sd - ((0 : Nat) : Int)).toNat := ⟨_, rfl⟩
    rw [<- hs] at lh ⊢
    obtain ⟨_, ⟨u, u1, u2⟩, ⟨v, v1, v2⟩⟩ := id lh
    have bu := bm u
    have bvv := bm v
    have luv := lh.1 u u1
    have sh := aCA s.2 s.1 (by omega)
    have fin : ∀ y : Int32, 0 <= y.toInt -> y.toInt <= 300 -> Int32.toInt (9 * aLS S + told (3 : Int32).toNatClampNeg * y) = 9 * (pcn 16 S : Int) + Int32.toInt (told 3) * y.toInt := by
      intro y y0 y1
      rw [c3]
      have n9 := ta_cmul 9 (aLS S) l9 (by omega)
      have my0 : 0 <= Int32.toInt (told 3) * y.toInt := Int.mul_nonneg ht.1 y0
      have my1 : Int32.toInt (told 3) * y.toInt <= 9 * 300 := Int.mul_le_mul ht.2 y1 y0 (by decide)
      have nm : Int32.toInt (told 3 * y) = Int32.toInt (told 3) * y.toInt := by
        have e := Int32.toInt_mul (told 3) y
        rw [e]; exact tp_b (by omega)
      have ad := aAD (9 * aLS S) (told 3 * y) (by omega)
      omega
    rw [ex_X3_waySeconds_21]
    by_cases c : a = -1
    · rw [if_pos c, j_X3_waySeconds_117, fin _ (by omega) (by omega)]
      refine ⟨_, _, _, lh, ?_, rfl⟩
      rw [decide_eq_false (fun e => e c)]
      exact Or.inl ⟨rfl, sh⟩
    · rw [if_neg c, j_X3_waySeconds_117]
      have ba := bm a.toNatClampNeg
      have a1 := ab_i ba (show 0 <= s.2.toInt /\ s.2.toInt <= 99 by omega)
      have a2 := ab_i ba (show 0 <= s.1.toInt /\ s.1.toInt <= 99 by omega)
      obtain ⟨d2, hd2⟩ : ∃ d, d = (if 0 <= mf a.toNatClampNeg - s.2 then mf a.toNatClampNeg - s.2 else 0 - (mf a.toNatClampNeg - s.2)) := ⟨_, rfl⟩
      obtain ⟨d1, hd1⟩ : ∃ d, d = (if 0 <= mf a.toNatClampNeg - s.1 then mf a.toNatClampNeg - s.1 else 0 - (mf a.toNatClampNeg - s.1)) := ⟨_, rfl⟩
      rw [<- hd2] at a1 ⊢
      rw [<- hd1] at a2 ⊢
      have mi := ti_min d1 d2
      have b1 : 0 <= d1.toInt /\ d1.toInt <= 99 := by unfold AB at a2; omega
      have b2 : 0 <= d2.toInt /\ d2.toInt <= 99 := by unfold AB at a1; omega
      have ad := aAD (s.2 - s.1) (if d2 < d1 then d2 else d1) (by omega)
      rw [fin _ (by omega) (by omega)]
      refine ⟨_, _, _, lh, ?_, rfl⟩
      rw [decide_eq_true c]
      refine Or.inr ⟨rfl, d1.toInt, d2.toInt, Int32.toInt (if d2 < d1 then d2 else d1), a2, a1, ?_, by omega⟩
      unfold MN
      omega
  · have e : S = 0 := bt_ext (fun k _ => by
      rw [bt_zero]
      cases hx : bt S k
      · rfl
      · exact absurd ⟨k, hx⟩ h0)
    refine Or.inl ⟨e, ?_⟩
    have z : aLS S = 0 := i32 (by rw [bv, e, pcn_zero]; rfl)
    rw [if_pos z]; exact l0
end QP
section QP2
variable {sd : Int32} {mv mf told : Nat -> Int32}
theorem mvo_v (bm : ∀ k : Nat, 0 <= Int32.toInt (mf k) /\ Int32.toInt (mf k) <= 99) (ht : 0 <= Int32.toInt (told 3) /\ Int32.toInt (told 3) <= 9) (a s : Int32) : ∃ e : Int, 0 <= e /\ ((decide (¬ a = -1) = false /\ e = 0) \/ (decide (¬ a = -1) = true /\ AB (Int32.toInt (mf a.toNatClampNeg)) (Int32.toInt (mf s.toNatClampNeg)) e)) /\ Int32.toInt (mvo mf told a s) = 9 + Int32.toInt (told 3) * e := by
  have l9 : Int32.toInt (9 : Int32) = 9 := by decide
  have c3 : (3 : Int32).toNatClampNeg = 3 := by decide
  unfold mvo
  by_cases c : a = -1
  · refine ⟨0, by omega, Or.inl ⟨decide_eq_false (fun e => e c), rfl⟩, ?_⟩
    rw [if_pos c, l9]; omega
  · have q := ab_i (bm a.toNatClampNeg) (bm s.toNatClampNeg)
    rw [if_neg c, c3]
    obtain ⟨y, hy⟩ : ∃ y, y = (if 0 <= mf a.toNatClampNeg - mf s.toNatClampNeg then mf a.toNatClampNeg - mf s.toNatClampNeg else 0 - (mf a.toNatClampNeg - mf s.toNatClampNeg)) := ⟨_, rfl⟩
    rw [<- hy] at q ⊢
    have b1 := bm a.toNatClampNeg
    have b2 := bm s.toNatClampNeg
    have b : 0 <= y.toInt /\ y.toInt <= 99 := by unfold AB at q; omega
    have my0 : 0 <= Int32.toInt (told 3) * y.toInt := Int.mul_nonneg ht.1 b.1
    have my1 : Int32.toInt (told 3) * y.toInt <= 9 * 99 := Int.mul_le_mul ht.2 b.2 b.1 (by decide)
    have nm : Int32.toInt (told 3 * y) = Int32.toInt (told 3) * y.toInt := by
      rw [Int32.toInt_mul (told 3) y]; exact tp_b (by omega)
    have ad := aAD 9 (told 3 * y) (by omega)
    exact ⟨y.toInt, b.1, Or.inr ⟨decide_eq_true c, q⟩, by omega⟩
theorem rel_c {S : Int32} {lo hi lo' hi' : Int} {s : Nat} (h : LH mf S lo hi) (hs : bt S s = true) (C : Int32) (hC : ∀ k : Nat, bt C k = true ↔ bt S k = true /\ k ≠ s) (h' : LH mf C lo' hi') : (lo <= lo' /\ lo' <= hi' /\ hi' <= hi) /\ ((mf s).toInt = lo \/ lo' = lo) /\ ((mf s).toInt = hi \/ hi' = hi) := by
  obtain ⟨h1, ⟨a, a1, a2⟩, ⟨b, b1, b2⟩⟩ := h
  obtain ⟨g1, ⟨a', a1', a2'⟩, ⟨b', b1', b2'⟩⟩ := h'
  have q1 := h1 a' ((hC a').mp a1').1
  have q2 := h1 b' ((hC b').mp b1').1
  have q3 := g1 a' a1'
  refine ⟨by omega, ?_, ?_⟩
  · by_cases e : a = s
    · left; rw [<- e]; exact a2
    · have := g1 a ((hC a).mpr ⟨a1, e⟩); right; omega
  · by_cases e : b = s
    · left; rw [<- e]; exact b2
    · have := g1 b ((hC b).mpr ⟨b1, e⟩); right; omega
theorem wst (bd : 0 <= sd.toInt /\ sd.toInt <= 8) (bm : ∀ k : Nat, 0 <= Int32.toInt (mf k) /\ Int32.toInt (mf k) <= 99) (ht : 0 <= Int32.toInt (told 3) /\ Int32.toInt (told 3) <= 9) {a S : Int32} (hS : ∀ k : Nat, bt S k = true -> (k : Int) < sd.toInt) (ha : a = -1 \/ 0 <= a.toInt) (h0 : ∃ k : Nat, bt S k = true) :
    (∀ s : Int32, 0 <= s.toInt -> s.toInt < sd.toInt -> bt S s.toInt.toNat = true -> Int32.toInt (F_X3_waySeconds a S sd mf told) <= Int32.toInt (mvo mf told a s) + Int32.toInt (F_X3_waySeconds s (clr S s) sd mf told)) /\ (∃ s : Int32, (0 <= s.toInt /\ s.toInt < sd.toInt /\ bt S s.toInt.toNat = true) /\ Int32.toInt (F_X3_waySeconds a S sd mf told) = Int32.toInt (mvo mf told a s) + Int32.toInt (F_X3_waySeconds s (clr S s) sd mf told)) := by
  obtain ⟨M, hM⟩ : ∃ M, M = Int32.toInt (told 3) := ⟨_, rfl⟩
  rcases way_v bd bm ht hS ha with ⟨e, _⟩ | ⟨_, lo, hi, D, lh, sp, w⟩
  · obtain ⟨k, hk⟩ := h0
    rw [e, bt_zero] at hk; exact absurd hk (by decide)
  rw [w, <- hM]
  -- one member taken out
  have out : ∀ s : Int32, 0 <= s.toInt -> s.toInt < sd.toInt -> bt S s.toInt.toNat = true -> ∃ e D' : Int, Int32.toInt (mvo mf told a s) + Int32.toInt (F_X3_waySeconds s (clr S s) sd mf told) = 9 * (pcn 16 S : Int) + M * (e + D') /\ ((decide (¬ a = -1) = false /\ e = 0) \/ (decide (¬ a = -1) = true /\ AB (Int32.toInt (mf a.toNatClampNeg)) (Int32.toInt (mf s.toInt.toNat)) e)) /\ ((D' = 0 /\ lo = Int32.toInt (mf s.toInt.toNat) /\ hi = Int32.toInt (mf s.toInt.toNat)) \/ (∃ lo' hi' : Int, SP true (Int32.toInt (mf s.toInt.toNat)) lo' hi' D' /\ (lo <= lo' /\ lo' <= hi' /\ hi' <= hi) /\ (Int32.toInt (mf s.toInt.toNat) = lo \/ lo' = lo) /\ (Int32.toInt (mf s.toInt.toNat) = hi \/ hi' = hi))) := by
    intro s s0 s1 sb
    obtain ⟨e, e0, e1, e2⟩ := mvo_v bm ht a s
    have en := tp_nI s0
    have ec := cl_n s
    have j16 : s.toInt.toNat < 16 := by omega
    have pc := pcn_clr1 S j16 sb
    rw [<- en] at pc
    have pc : pcn 16 (clr S s) + 1 = pcn 16 S := pc
    have hC : ∀ k : Nat, bt (clr S s) k = true ↔ bt S k = true /\ k ≠ s.toInt.toNat := by
      intro k
      have q : bt (clr S s) k = (bt S k && !decide (k = s.toInt.toNat)) := by
        have := clrn S j16 k
        rw [<- en] at this
        exact this
      rw [q, Bool.and_eq_true]
      refine and_congr_right (fun _ => ?_)
      by_cases c : k = s.toInt.toNat
      · rw [decide_eq_true c]; exact ⟨fun h => absurd h (by decide), fun h => absurd c h⟩
      · rw [decide_eq_false c]; exact ⟨fun _ => c, fun _ => rfl⟩
    have nm : ¬ s = -1 := ne_m1 s0
    rw [ec] at e1
    rcases way_v bd bm ht (a := s) (S := clr S s) (fun k hk => hS k ((hC k).mp hk).1) (Or.inr s0) with ⟨z, w2⟩ | ⟨_, lo', hi', D', lh', sp', w2⟩
    · refine ⟨e, 0, ?_, e1, Or.inl ⟨rfl, ?_⟩⟩
      · rw [z, pcn_zero] at pc
        rw [e2, w2, <- hM, <- pc, Int.add_zero]
        rw [Int.add_zero]
        omega
      · have only : ∀ k : Nat, bt S k = true -> k = s.toInt.toNat := fun k hk => by
          by_cases c : k = s.toInt.toNat
          · exact c
          · have q := (hC k).mpr ⟨hk, c⟩
            rw [z, bt_zero] at q; exact absurd q (by decide)
        obtain ⟨_, ⟨x, x1, x2⟩, ⟨y, y1, y2⟩⟩ := lh
        rw [only x x1] at x2
        rw [only y y1] at y2
        exact ⟨x2.symm, y2.symm⟩
    · refine ⟨e, D', ?_, e1, Or.inr ⟨lo', hi', ?_, rel_c lh sb _ hC lh'⟩⟩
      · rw [e2, w2, <- hM, Int.mul_add, <- pc]
        omega
      · rw [decide_eq_true nm, ec] at sp'
        exact sp'
  have m0 : 0 <= M := by omega
  refine ⟨fun s s0 s1 sb => ?_, ?_⟩
  · obtain ⟨e, D', o1, o2, o3⟩ := out s s0 s1 sb
    rw [o1]
    have hb := lh.1 s.toInt.toNat sb
    have le : D <= e + D' := by
      rcases o3 with ⟨z1, z2, z3⟩ | ⟨lo', hi', p1, p2, p3, p4⟩
      · rcases sp with ⟨v, p⟩ | ⟨v, d1, d2, m, p1, p2, p3, p4⟩
        · rcases o2 with ⟨_, q⟩ | ⟨c, _⟩
          · omega
          · rw [v] at c; exact absurd c (by decide)
        · rcases o2 with ⟨c, _⟩ | ⟨_, q⟩
          · rw [v] at c; exact absurd c (by decide)
          · unfold AB at p1 p2 q
            unfold MN at p3
            omega
      · exact SP_le sp p1 o2 hb p2 p3 p4
    have := Int.mul_le_mul_of_nonneg_left le m0
    omega
  · obtain ⟨hall, ⟨x, x1, x2⟩, ⟨y, y1, y2⟩⟩ := id lh
    have pick : ∀ j : Nat, bt S j = true -> ∃ s : Int32, 0 <= s.toInt /\ s.toInt < sd.toInt /\ s.toInt.toNat = j := fun j hj => by
      have q := hS j hj
      have i := nI_0c (k := j) (by omega)
      exact ⟨nI (0 + j), by omega, by omega, by omega⟩
    -- the nearer end
    have near : ∃ s : Int32, (0 <= s.toInt /\ s.toInt < sd.toInt /\ bt S s.toInt.toNat = true) /\ ((Int32.toInt (mf s.toInt.toNat) = lo /\ ∀ e : Int, (decide (¬ a = -1) = true -> AB (Int32.toInt (mf a.toNatClampNeg)) lo e) -> decide (¬ a = -1) = true -> ∀ d2, AB (Int32.toInt (mf a.toNatClampNeg)) hi d2 -> e <= d2) \/ (Int32.toInt (mf s.toInt.toNat) = hi /\ decide (¬ a = -1) = true /\ ∀ e : Int, AB (Int32.toInt (mf a.toNatClampNeg)) hi e -> ∀ d1, AB (Int32.toInt (mf a.toNatClampNeg)) lo d1 -> e <= d1)) := by
      obtain ⟨s, s0, s1, s2⟩ := pick x x1
      obtain ⟨t, t0, t1, t2⟩ := pick y y1
      have lohi := hall x x1
      by_cases c : decide (¬ a = -1) = true
      · by_cases c2 : 2 * Int32.toInt (mf a.toNatClampNeg) <= lo + hi
        · refine ⟨s, ⟨s0, s1, by rw [s2]; exact x1⟩, Or.inl ⟨by rw [s2]; exact x2, fun e he _ d2 hd => ?_⟩⟩
          have he := he c
          unfold AB at he hd
          omega
        · refine ⟨t, ⟨t0, t1, by rw [t2]; exact y1⟩, Or.inr ⟨by rw [t2]; exact y2, c, fun e he d1 hd => ?_⟩⟩
          unfold AB at he hd
          omega
      · exact ⟨s, ⟨s0, s1, by rw [s2]; exact x1⟩, Or.inl ⟨by rw [s2]; exact x2, fun e _ h9 => absurd h9 c⟩⟩
    obtain ⟨s, ⟨s0, s1, sb⟩, hn⟩ := near
    obtain ⟨e, D', o1, o2, o3⟩ := out s s0 s1 sb
    refine ⟨s, ⟨s0, s1, sb⟩, ?_⟩
    rw [o1]
    have eq : D = e + D' := by
      rcases o3 with ⟨z1, z2, z3⟩ | ⟨lo', hi', p1, p2, p3, p4⟩
      · rcases sp with ⟨v, p⟩ | ⟨v, d1, d2, m, p1, p2, p3, p4⟩
        · rcases o2 with ⟨_, q⟩ | ⟨c, _⟩
          · omega
          · rw [v] at c; exact absurd c (by decide)
        · rcases o2 with ⟨c, _⟩ | ⟨_, q⟩
          · rw [v] at c; exact absurd c (by decide)
          · unfold AB at p1 p2 q
            unfold MN at p3
            omega
      · rcases hn with ⟨n1, n2⟩ | ⟨n1, n2, n3⟩
        · rw [n1] at p1 o2 p4
          refine SP_lo sp p1 o2 (fun v d2 hd => n2 e (fun _ => ?_) v d2 hd) p2 p4
          rcases o2 with ⟨c, _⟩ | ⟨_, q⟩
          · rw [v] at c; exact absurd c (by decide)
          · exact q
        · rw [n1] at p1 o2 p3
          rcases o2 with ⟨c, _⟩ | ⟨_, q⟩
          · rw [n2] at c; exact absurd c (by decide)
          · rw [n2] at sp
            exact SP_hi sp p1 q (n3 e q) p2 p3
    rw [eq]
theorem way_ent (bd : 0 <= sd.toInt /\ sd.toInt <= 8) (bm : ∀ k : Nat, 0 <= Int32.toInt (mf k) /\ Int32.toInt (mf k) <= 99) (ht : 0 <= Int32.toInt (told 3) /\ Int32.toInt (told 3) <= 9) (hmv : MVT mv mf told sd) : ∀ (n : Nat) (S : Int32), 0 <= S.toInt -> S.toInt <= (n : Int) -> LB S sd -> ∀ f : Int32, 0 <= f.toInt -> VAL sd f S -> ent mv f S = Int32.toInt (F_X3_waySeconds (lad f) S sd mf told) := by
  intro n
  induction n with
  | zero =>
    intro S h0 h1 hl f f0 hv
    obtain ⟨o1, _, _⟩ := hmv S h0 hl f f0 hv
    have z : S = 0 := z_eq (by omega)
    have e : Int32.toInt (F_X3_waySeconds (lad f) S sd mf told) = 0 := by
      rcases way_v (a := 0) bd bm ht hl (Or.inr (by decide)) with ⟨_, w⟩ | ⟨⟨k, hk⟩, _⟩
      · rw [F_X3_waySeconds] at w ⊢
        have k0 : aLS S = 0 := by rw [z]; decide
        rw [if_pos k0]; decide
      · rw [z, bt_zero] at hk; exact absurd hk (by decide)
    rw [e]
    have : S.toInt = 0 := by omega
    omega
  | succ n ih =>
    intro S h0 h1 hl f f0 hv
    by_cases c : S.toInt <= (n : Int)
    · exact ih S h0 c hl f f0 hv
    · obtain ⟨_, o2, o3⟩ := hmv S h0 hl f f0 hv
      obtain ⟨s, s0, s1, sb, se⟩ := o3 (by omega)
      have la : lad f = -1 \/ 0 <= (lad f).toInt := by
        unfold lad
        by_cases c8 : f.toInt = 8
        · rw [if_pos c8]; exact Or.inl rfl
        · rw [if_neg c8]; exact Or.inr f0
      obtain ⟨w1, t, ⟨t0, t1, tb⟩, te⟩ := wst (a := lad f) bd bm ht hl la ⟨_, sb⟩
      have sub : ∀ u : Int32, 0 <= u.toInt -> u.toInt < sd.toInt -> bt S u.toInt.toNat = true -> ent mv u (clr S u) = Int32.toInt (F_X3_waySeconds u (clr S u) sd mf told) := by
        intro u u0 u1 ub
        have lt := clr_lt h0 (show 0 <= u.toInt /\ u.toInt < 32 by omega) ub
        have q := ih (clr S u) lt.1 (by omega) (LB_c hl) u u0 (clr_val ⟨u0, u1⟩ bd.2)
        have lu : lad u = u := by unfold lad; rw [if_neg (by omega)]
        rw [lu] at q
        exact q
      have a1 := w1 s s0 s1 sb
      have a2 := o2 t t0 t1 tb
      rw [sub s s0 s1 sb] at se
      rw [sub t t0 t1 tb] at a2
      omega
end QP2
/-! route: what is answered -/
section QQ
variable {P Q : Int32 -> Int32 -> Int32 -> (Nat -> Int32) -> (Nat -> Int32) -> Prop} {sd x4 : Int32} {now mf told mv : Nat -> Int32}
theorem r61 {KP KQ : Int32 -> Int32 -> Int32 -> Int32 -> Int32 -> (Nat -> Int32) -> (Nat -> Int32) -> Prop} (hK : ∀ (x2 x3 rm : Int32) (row : Nat -> Int32), KP x2 x3 x4 rm 0 row mv -> KQ x2 x3 x4 rm 0 row mv) : ∀ (n : Nat) (x2 x3 x5 rm : Int32) (row : Nat -> Int32), wb_X10_route_61 P KP sd now mf told n x2 x3 x4 x5 rm 0 row mv -> wb_X10_route_61 Q KQ sd now mf told n x2 x3 x4 x5 rm 0 row mv := by
  intro n
  induction n with
  | zero => intro x2 x3 x5 rm row h; exact False.elim h
  | succ n ih =>
    intro x2 x3 x5 rm row h
    have h : ws_X10_route_61 P KP (wb_X10_route_61 P KP sd now mf told n) sd now mf told x2 x3 x4 x5 rm 0 row mv := h
    show ws_X10_route_61 Q KQ (wb_X10_route_61 Q KQ sd now mf told n) sd now mf told x2 x3 x4 x5 rm 0 row mv
    unfold ws_X10_route_61 at h ⊢
    unfold ws_X10_route_105 at h ⊢
    refine du_X10_has h ?_
    intro h
    refine And.intro (fun c => ?_) (fun c => ?_)
    · have h := And.left h c
      refine ae ?_
      have h := h _ rfl
      exact ih _ _ _ _ _ h
    · have h := And.right h c
      refine du_X10_moveOf h ?_
      intro h
      refine ae ?_
      have h := h _ rfl
      refine ae ?_
      have h := h _ rfl
      refine du_X10_leastMoves h ?_
      intro h
      refine ae ?_
      have h := h _ rfl
      refine du_X10_placeOf h ?_
      intro h
      refine du_X10_leastMoves h ?_
      intro h
      refine And.intro (fun c2 => ?_) (fun c2 => ?_)
      · have h := And.left h c2
        refine du_X10_tell h ?_
        intro h
        refine ae ?_
        have h := h _ rfl
        refine ae ?_
        have h := h _ rfl
        exact hK _ _ _ _ h
      · have h := And.right h c2
        refine ae ?_
        have h := h _ rfl
        exact ih _ _ _ _ _ h
theorem r54 (hq : ∀ (rm : Int32) (row : Nat -> Int32), P x4 rm 0 row mv -> Q x4 rm 0 row mv) : ∀ (n : Nat) (x2 x3 rm : Int32) (row : Nat -> Int32), wb_X10_route_54 P sd now mf told n x2 x3 x4 rm 0 row mv -> wb_X10_route_54 Q sd now mf told n x2 x3 x4 rm 0 row mv := by
  intro n
  induction n with
  | zero => intro x2 x3 rm row h; exact False.elim h
  | succ n ih =>
    intro x2 x3 rm row h
    have h : ws_X10_route_54 P (wb_X10_route_54 P sd now mf told n) sd now mf told x2 x3 x4 rm 0 row mv := h
    show ws_X10_route_54 Q (wb_X10_route_54 Q sd now mf told n) sd now mf told x2 x3 x4 rm 0 row mv
    unfold ws_X10_route_54 at h ⊢
    refine And.intro (fun c => hq _ _ (And.left h c)) (fun c => ?_)
    obtain ⟨n2, h⟩ := And.right h c
    exact ⟨n2, r61 ih n2 _ _ _ _ _ h⟩
end QQ
theorem route_w {Q : Int32 -> Int32 -> Int32 -> (Nat -> Int32) -> (Nat -> Int32) -> Prop} {p0 sd rm th : Int32} {now mf told row mv : Nat -> Int32} (bd : 0 <= sd.toInt /\ sd.toInt <= 8) (h9 : wp_X10_route (fun o0 o1 o2 o3 o4 => (aUe p0 0 (F_X10_allStandings sd) = 0 /\ o0 = -1) \/ (¬ aUe p0 0 (F_X10_allStandings sd) = 0 /\ o0 = F_X10_leastMoves (F_X10_placeOf (now (17 : Int32).toNatClampNeg)) (F_X10_besides p0 now) o4) -> Q o0 o1 o2 o3 o4) p0 sd rm th now mf told row mv) : wp_X10_route Q p0 sd rm th now mf told row mv := by
  unfold wp_X10_route at h9 ⊢
  refine du_X10_allStandings h9 ?_
  intro h9
  refine du_X10_in h9 ?_
  intro h9
  refine And.intro (fun c => ?_) (fun c => ?_)
  · have h9 := And.left h9 c
    refine du_X10_layMoves (as_lt (by omega)) h9 ?_
    intro h9
    refine du_X10_besides h9 ?_
    intro h9
    refine ae ?_
    have h9 := h9 _ rfl
    refine du_X10_placeOf h9 ?_
    intro h9
    refine du_X10_leastMoves h9 ?_
    intro h9
    obtain ⟨n, h9⟩ := h9
    refine ⟨n, ?_⟩
    exact r54 (fun rm row hp => hp (Or.inr ⟨c, rfl⟩)) n _ _ _ _ h9
  · exact And.right h9 c (Or.inl ⟨c, rfl⟩)
section QQ2
variable {fr sd ap ba gr br la he td cl : Int32} {x h w r ft fk mx mh mw mr mf mk st told now : Nat -> Int32}
theorem way_cg (T : TR fr sd x h w r ft fk mx mh mw mr mf mk) (hst2 : ∀ k : Nat, k < 5 -> st k = told k) {a S : Int32} (ha : -1 <= a.toInt /\ a.toInt < sd.toInt) : F_X3_waySeconds a S sd ft st = F_X3_waySeconds a S sd mf told := by
  have bd := T.2.2.2.1
  have lm : Int32.toInt (-1 : Int32) = -1 := by decide
  have e : itr (bd_X3_waySeconds_21 sd ft st a S (aLS S)) ((99 : Int32), (0 : Int32)) 0 (Int32.toInt sd - ((0 : Nat) : Int)).toNat = itr (bd_X3_waySeconds_21 sd mf told a S (aLS S)) ((99 : Int32), (0 : Int32)) 0 (Int32.toInt sd - ((0 : Nat) : Int)).toNat := by
    refine itr_cg _ (fun k s hk => ?_)
    have i := nI_0c (k := k) (by omega)
    rw [bd_X3_waySeconds_21, bd_X3_waySeconds_21, i.1, (T.2.1 k (by omega)).1, j_X3_waySeconds_67, j_X3_waySeconds_67, j_X3_waySeconds_67, j_X3_waySeconds_67]
  rw [F_X3_waySeconds, F_X3_waySeconds, e, ex_X3_waySeconds_21, ex_X3_waySeconds_21]
  have e3 := hst2 (3 : Int32).toNatClampNeg (by decide)
  by_cases c : a = -1
  · rw [if_pos c, if_pos c, j_X3_waySeconds_117, j_X3_waySeconds_117, e3]
  · have d := mt (zJ _ _).mpr c
    have ec := cl_n a
    rw [if_neg c, if_neg c, j_X3_waySeconds_117, j_X3_waySeconds_117, e3, (T.2.1 a.toNatClampNeg (by omega)).1]
theorem rt9 {sd la : Int32} {ft st : Nat -> Int32} : ∀ (f : Nat) (x2 x3 x4 x5 x6 rs : Int32) (rn : Nat -> Int32), 9 <= (f : Int) + x6.toInt -> 0 <= x6.toInt -> x6.toInt <= 8 -> (flp (fs_X9_route_55 (fun o0 o1 o2 => (o0, o1, o2)) sd ft st la) (fun _ _ _ _ _ _ _ => (0, 0, (fun _ => 0))) f x2 x3 x4 x5 x6 rs rn).1 = x4 := by
  have l1 : Int32.toInt (1 : Int32) = 1 := by decide
  have l8 : Int32.toInt (8 : Int32) = 8 := by decide
  intro f
  induction f with
  | zero => intro x2 x3 x4 x5 x6 rs rn h0 h1 h2; exfalso; omega
  | succ f ih =>
    intro x2 x3 x4 x5 x6 rs rn h0 h1 h2
    rw [flp_s, fs_X9_route_55]
    by_cases c : (8 : Int32) <= x6
    · rw [if_pos c]
    · have d := mt (aAO _ _).mpr c
      have ax := aAD x6 1 (by omega)
      rw [if_neg c]
      by_cases c2 : x2 = 0
      · rw [if_pos c2]
      · rw [if_neg c2]
        by_cases c3 : F_X3_firstOfWay x3 x2 x5 sd ft st = -1
        · rw [if_pos c3]
        · rw [if_neg c3]
          exact ih _ _ _ _ _ _ _ (by omega) (by omega) (by omega)
theorem route_eq (T : TR fr sd x h w r ft fk mx mh mw mr mf mk) (hst2 : ∀ k : Nat, k < 5 -> st k = told k) (ht : ∀ k : Nat, k = 3 -> 0 <= Int32.toInt (told k) /\ Int32.toInt (told k) <= 9) (hm : MR fr sd ap ba gr br la he td now) {p p' sd9 rs o0 : Int32} {rn mv : Nat -> Int32} (hp : p' = p) (e2 : sd9 = sd) (hmv : Int32.toInt o0 = -1 \/ MVT mv mf told sd) (hw : (aUe p' 0 (F_X10_allStandings sd) = 0 /\ o0 = -1) \/ (¬ aUe p' 0 (F_X10_allStandings sd) = 0 /\ o0 = F_X10_leastMoves (F_X10_placeOf (now (17 : Int32).toNatClampNeg)) (F_X10_besides p' now) mv)) (hr : ¬ aUe p' 0 (F_X10_allStandings sd) = 0 -> 0 <= Int32.toInt o0) : (F_X9_route p sd9 ft st la rs rn).1 = o0 := by
  subst hp e2
  have bd := T.2.2.2.1
  have bm := T.2.2.2.2.2.2.1
  have lq := hm.2.1
  have lm : Int32.toInt (-1 : Int32) = -1 := by decide
  have l8 : Int32.toInt (8 : Int32) = 8 := by decide
  rw [F_X9_route]
  rcases as_in (p := p') bd with ⟨a, b⟩ | ⟨a, b, g, gb⟩
  · rcases hw with ⟨_, q⟩ | ⟨q, _⟩
    · rw [if_pos a, q]
    · exact absurd b q
  · have nb := neg1 b
    rcases hw with ⟨q, _⟩ | ⟨_, q⟩
    · exact absurd q nb
    rw [if_neg (neg1 a), rt9 9 _ _ _ _ _ _ _ (by decide) (by decide) (by decide)]
    have eS : F_X10_besides p' now = F_X0_withoutLadder p' la := by rw [F_X10_besides, F_X0_withoutLadder, c17, <- hm.1.2.2.1]
    rw [c17, <- hm.1.2.2.1, eS] at q
    obtain ⟨S, hS⟩ : ∃ S, S = F_X0_withoutLadder p' la := ⟨_, rfl⟩
    rw [<- hS] at q ⊢
    rw [F_X0_withoutLadder] at hS
    have mvt : MVT mv mf told sd9 := by
      rcases hmv with e | e
      · have := hr nb; exfalso; omega
      · exact e
    have sub : ∀ k : Nat, bt S k = true -> bt p' k = true /\ (¬ la = -1 -> k ≠ la.toInt.toNat) := by
      intro k hk
      by_cases c : la = -1
      · rw [if_pos c] at hS
        rw [hS] at hk
        exact ⟨hk, fun e => absurd c e⟩
      · have d := mt (zJ _ _).mpr c
        rw [if_neg c] at hS
        have en := tp_nI (x := la) (by omega)
        rw [hS, en, clrn _ (by omega), Bool.and_eq_true] at hk
        refine ⟨hk.1, fun _ e => ?_⟩
        rw [e, decide_eq_true rfl] at hk
        exact absurd hk.2 (by decide)
    have lb : LB S sd9 := fun k hk => by
      rcases Nat.lt_or_ge k sd9.toInt.toNat with h | h
      · omega
      · have q := (sub k hk).1
        rw [gb k h] at q; exact absurd q (by decide)
    have s8 : ∀ k : Nat, 8 <= k -> bt S k = false := fun k hk => by
      cases hx : bt S k
      · rfl
      · have := lb k hx; exfalso; omega
    have bS := bt_bound S 8 (by decide) s8
    have bS : 0 <= S.toInt /\ S.toInt < 256 := bS
    have pv : ∀ f : Int32, f = F_X10_placeOf la -> 0 <= f.toInt /\ f.toInt <= 8 /\ VAL sd9 f S /\ lad f = la := by
      intro f hf
      rw [F_X10_placeOf] at hf
      by_cases c : la = -1
      · rw [if_pos c] at hf
        rw [hf]
        exact ⟨by decide, by decide, VAL_8 (by decide), by unfold lad; rw [if_pos (by decide), c]⟩
      · have d := mt (zJ _ _).mpr c
        rw [if_neg c] at hf
        rw [hf]
        refine ⟨by omega, by omega, Or.inr ⟨by omega, ?_⟩, by unfold lad; rw [if_neg (by omega)]⟩
        cases hx : bt S la.toInt.toNat
        · rfl
        · exact absurd rfl ((sub _ hx).2 c)
    obtain ⟨f, hf⟩ : ∃ f, f = F_X10_placeOf la := ⟨_, rfl⟩
    obtain ⟨f0, f1, f2, f3⟩ := pv f hf
    have we := way_ent bd bm (ht 3 rfl) mvt S.toInt.toNat S bS.1 (by omega) lb f f0 f2
    rw [f3] at we
    rw [way_cg T hst2 lq]
    refine i32 ?_
    rw [<- we, q, F_X10_leastMoves, <- hf]
    have s8i := ti_shl8 f (by omega)
    have ad := aAD (f <<< (8 &&& 31)) S (by omega)
    unfold ent
    rw [cl_n]
    have ei : (f <<< (8 &&& 31) + S).toInt.toNat = 256 * f.toInt.toNat + S.toInt.toNat := by omega
    rw [ei]
end QQ2
