/-! Integer.bitCount counts the bits -/
def nb1 (n : Nat) : Nat := n - ((n >>> 1) &&& 1431655765)
def nb2 (a : Nat) : Nat := (a &&& 858993459) + ((a >>> 2) &&& 858993459)
def nb3 (b : Nat) : Nat := (b + (b >>> 4)) &&& 252645135
def nb4 (c : Nat) : Nat := c + (c >>> 8)
def nb5 (d : Nat) : Nat := d + (d >>> 16)
def bcN (n : Nat) : Nat := nb5 (nb4 (nb3 (nb2 (nb1 n)))) &&& 63
def chk : Nat -> Nat -> Nat -> Bool
  | 0, n, p => Nat.beq (bcN n) p
  | k + 1, n, p => chk k (2 * n) p && chk k (2 * n + 1) (p + 1)
theorem chk16 : chk 16 0 0 = true := by decide +kernel
def cnt : Nat -> Nat -> Nat
  | 0, _ => 0
  | k + 1, n => cnt k n + (n / 2 ^ k) % 2
theorem chk_s : ∀ (k n p : Nat), chk k n p = true -> ∀ m : Nat, m / 2 ^ k = n -> bcN m = p + cnt k m := by
  intro k
  induction k with
  | zero =>
    intro n p h m hm
    have e : m = n := by rw [Nat.pow_zero, Nat.div_one] at hm; exact hm
    have h : Nat.beq (bcN n) p = true := h
    have h := Nat.eq_of_beq_eq_true h
    show bcN m = p + 0
    rw [e]; exact h
  | succ k ih =>
    intro n p h m hm
    have h : (chk k (2 * n) p && chk k (2 * n + 1) (p + 1)) = true := h
    rw [Bool.and_eq_true] at h
    obtain ⟨h1, h2⟩ := h
    have e : m / 2 ^ k / 2 = n := by rw [Nat.div_div_eq_div_mul, <- Nat.pow_succ]; exact hm
    show bcN m = p + (cnt k m + (m / 2 ^ k) % 2)
    rcases (show m / 2 ^ k = 2 * n \/ m / 2 ^ k = 2 * n + 1 by omega) with c | c
    · have := ih _ _ h1 m c; omega
    · have := ih _ _ h2 m c; omega
theorem cnt_p (x : Int32) : ∀ k : Nat, cnt k x.toBitVec.toNat = pcn k x := by
  intro k
  induction k with
  | zero => rfl
  | succ k ih =>
    show cnt k x.toBitVec.toNat + (x.toBitVec.toNat / 2 ^ k) % 2 = pcn k x + (if bt x k = true then 1 else 0)
    rw [ih, bt_tb, Nat.testBit_eq_decide_div_mod_eq]
    by_cases c : x.toBitVec.toNat / 2 ^ k % 2 = 1
    · rw [decide_eq_true c, if_pos rfl, c]
    · rw [decide_eq_false c, if_neg (by decide)]
      omega
def VN (x : Int32) (n : Nat) : Prop := x.toBitVec.toNat = n /\ n < 2147483648
theorem v_and {x y : Int32} {n m : Nat} (h1 : VN x n) (h2 : VN y m) : VN (x &&& y) (n &&& m) := by
  refine ⟨?_, Nat.lt_of_le_of_lt Nat.and_le_left h1.2⟩
  rw [Int32.toBitVec_and, BitVec.toNat_and, h1.1, h2.1]
theorem v_add {x y : Int32} {n m : Nat} (h1 : VN x n) (h2 : VN y m) (h : n + m < 2147483648) : VN (x + y) (n + m) := by
  refine ⟨?_, h⟩
  rw [Int32.toBitVec_add, BitVec.toNat_add, h1.1, h2.1]
  exact Nat.mod_eq_of_lt (by omega)
theorem v_sub {x y : Int32} {n m : Nat} (h1 : VN x n) (h2 : VN y m) (h : m <= n) : VN (x - y) (n - m) := by
  have b := h1.2
  refine ⟨?_, by omega⟩
  rw [Int32.toBitVec_sub, BitVec.toNat_sub, h1.1, h2.1]
  omega
theorem v_shr {x s : Int32} {n : Nat} (k : Nat) (h1 : VN x n) (hs : (s.toUInt32 &&& Int32.toUInt32 31).toNat % 32 = k) : VN ((x.toUInt32 >>> (s.toUInt32 &&& Int32.toUInt32 31)).toInt32) (n >>> k) := by
  have b := h1.2
  have o := tp_o (x := x) (by rw [h1.1]; exact b)
  have q := ti_ushr x s k hs (by omega)
  have g : 0 <= x.toInt / ((2 ^ k : Nat) : Int) := Int.ediv_nonneg (by omega) (Int.natCast_nonneg _)
  have r := tp_n (x := (x.toUInt32 >>> (s.toUInt32 &&& Int32.toUInt32 31)).toInt32) (by rw [q]; exact g)
  have e : ((n >>> k : Nat) : Int) = x.toInt / ((2 ^ k : Nat) : Int) := by
    rw [Nat.shiftRight_eq_div_pow, o, h1.1]
    exact Int.natCast_ediv _ _
  have le : n >>> k <= n := Nat.shiftRight_le n k
  refine ⟨?_, by omega⟩
  have r1 := r.1
  rw [q, <- e] at r1
  omega
theorem bc_v {x : Int32} (h : 0 <= x.toInt /\ x.toInt < 65536) : Int32.toInt (aLS x) = (pcn 16 x : Int) := by
  have hx := tp_n h.1
  obtain ⟨n, hn⟩ : ∃ n, n = x.toBitVec.toNat := ⟨_, rfl⟩
  have h0 : n < 65536 := by omega
  have V0 : VN x n := ⟨hn.symm, by omega⟩
  have i1 : (n >>> 1) &&& 1431655765 <= n := Nat.le_trans Nat.and_le_left (Nat.shiftRight_le n 1)
  have V1 : VN _ (nb1 n) := v_sub V0 (v_and (v_shr (s := 1) 1 V0 (by decide)) (⟨rfl, by decide⟩ : VN 1431655765 1431655765)) i1
  have b1 : nb1 n < 65536 := Nat.lt_of_le_of_lt (Nat.sub_le _ _) h0
  obtain ⟨a, ha⟩ : ∃ a, a = nb1 n := ⟨_, rfl⟩
  rw [<- ha] at V1 b1
  have i2 : a &&& 858993459 <= a := Nat.and_le_left
  have i3 : (a >>> 2) &&& 858993459 <= a := Nat.le_trans Nat.and_le_left (Nat.shiftRight_le a 2)
  have V2 : VN _ (nb2 a) := v_add (v_and V1 (⟨rfl, by decide⟩ : VN 858993459 858993459)) (v_and (v_shr (s := 2) 2 V1 (by decide)) (⟨rfl, by decide⟩ : VN 858993459 858993459)) (by omega)
  have b2 : nb2 a < 131072 := by unfold nb2; omega
  obtain ⟨b, hb⟩ : ∃ b, b = nb2 a := ⟨_, rfl⟩
  rw [<- hb] at V2 b2
  have i4 : b >>> 4 <= b := Nat.shiftRight_le b 4
  have V3 : VN _ (nb3 b) := v_and (v_add V2 (v_shr (s := 4) 4 V2 (by decide)) (by omega)) (⟨rfl, by decide⟩ : VN 252645135 252645135)
  have b3 : nb3 b < 262144 := Nat.lt_of_le_of_lt Nat.and_le_left (by omega)
  obtain ⟨c, hc⟩ : ∃ c, c = nb3 b := ⟨_, rfl⟩
  rw [<- hc] at V3 b3
  have i5 : c >>> 8 <= c := Nat.shiftRight_le c 8
  have V4 : VN _ (nb4 c) := v_add V3 (v_shr (s := 8) 8 V3 (by decide)) (by omega)
  have b4 : nb4 c < 524288 := by unfold nb4; omega
  obtain ⟨d, hd⟩ : ∃ d, d = nb4 c := ⟨_, rfl⟩
  rw [<- hd] at V4 b4
  have i6 : d >>> 16 <= d := Nat.shiftRight_le d 16
  have V5 : VN _ (nb5 d) := v_add V4 (v_shr (s := 16) 16 V4 (by decide)) (by omega)
  have V6 : VN _ (nb5 d &&& 63) := v_and V5 (⟨rfl, by decide⟩ : VN 63 63)
  have VF : VN (aLS x) (nb5 d &&& 63) := by rw [aLS]; exact V6
  have eN : nb5 d &&& 63 = bcN n := by unfold bcN; rw [hd, hc, hb, ha]
  have k := chk_s 16 0 0 chk16 n (Nat.div_eq_of_lt (by omega))
  rw [hn, cnt_p] at k
  rw [hn] at eN
  rw [eN, k] at VF
  have o := tp_o (x := aLS x) (by rw [VF.1]; exact VF.2)
  rw [o, VF.1]
  omega
theorem pcn_ext {x : Int32} {n : Nat} (h : ∀ k : Nat, n <= k -> bt x k = false) : ∀ m : Nat, pcn (n + m) x = pcn n x := by
  intro m
  induction m with
  | zero => rfl
  | succ m ih =>
    show pcn (n + m) x + (if bt x (n + m) = true then 1 else 0) = pcn n x
    rw [ih, h (n + m) (by omega)]
    rfl
/-! down: how many -/
section DOWN
variable {fr sd ap ba gr br la he td cl : Int32} {x h w r ft fk mx mh mw mr mf mk st told now cells u : Nat -> Int32}
theorem emp_c (hm : MO fr ap ba gr now) (bf : 0 <= fr.toInt /\ fr.toInt <= 16) : Int32.toInt (F_X10_empty fr now).1 = (pcn fr.toInt.toNat ap : Int) := by
  have l1 : Int32.toInt (1 : Int32) = 1 := by decide
  have key : ∀ k : Nat, k <= fr.toInt.toNat -> Int32.toInt (itr (bd_X10_empty_4 fr) (0, now) 0 k).1 = (pcn k ap : Int) /\ ∀ j : Nat, k <= j -> (itr (bd_X10_empty_4 fr) (0, now) 0 k).2 j = now j := by
    intro k
    induction k with
    | zero => intro _; exact ⟨(by decide : Int32.toInt (0 : Int32) = ((0 : Nat) : Int)), fun j _ => rfl⟩
    | succ k ih =>
      intro hk
      obtain ⟨i1, i2⟩ := ih (by omega)
      have i := nI_0c (k := k) (by omega)
      have p := pcn_le k ap
      obtain ⟨s, hs⟩ : ∃ s, s = itr (bd_X10_empty_4 fr) (0, now) 0 k := ⟨_, rfl⟩
      rw [<- hs] at i1 i2
      rw [itr_s, <- hs, bd_X10_empty_4, i.1, i2 k (Nat.le_refl k)]
      have e : pcn (k + 1) ap = pcn k ap + (if bt ap k = true then 1 else 0) := rfl
      rw [e]
      rcases hm.1 k (by omega) with ⟨v, a, _, _⟩ | ⟨v, a, _, _⟩ | ⟨v, a, _, _⟩ | ⟨v, a, _, _⟩
      · rw [v, a, if_neg (by decide : ¬ (0 : Int32) = 1), j_X10_empty_35]
        exact ⟨i1, fun j hj => i2 j (by omega)⟩
      · have s9 := aAD s.1 1 (by omega)
        rw [v, a, if_pos (rfl : (1 : Int32) = 1), j_X10_empty_35]
        refine ⟨?_, fun j hj => ?_⟩
        · show Int32.toInt (s.1 + 1) = ((pcn k ap + 1 : Nat) : Int)
          omega
        · show upd s.2 k 2 j = now j
          rw [aGi _ _ (by omega)]; exact i2 j (by omega)
      · rw [v, a, if_neg (by decide : ¬ (2 : Int32) = 1), j_X10_empty_35]
        exact ⟨i1, fun j hj => i2 j (by omega)⟩
      · rw [v, a, if_neg (by decide : ¬ (3 : Int32) = 1), j_X10_empty_35]
        exact ⟨i1, fun j hj => i2 j (by omega)⟩
  rw [F_X10_empty, ex_X10_empty_4]
  have z : (Int32.toInt fr - ((0 : Nat) : Int)).toNat = fr.toInt.toNat := by omega
  rw [z]
  exact (key _ (Nat.le_refl _)).1
theorem ap_r (hm : MO fr ap ba gr now) (bf : 0 <= fr.toInt /\ fr.toInt <= 16) : (0 <= ap.toInt /\ ap.toInt < 65536) /\ Int32.toInt (aLS ap) = (pcn fr.toInt.toNat ap : Int) := by
  have q : ∀ k : Nat, fr.toInt.toNat <= k -> bt ap k = false := fun k hk => (hm.2 k (by omega)).1
  have b := bt_bound ap 16 (by decide) (fun k hk => q k (by omega))
  have b : 0 <= ap.toInt /\ ap.toInt < 65536 := b
  refine ⟨b, ?_⟩
  have e := pcn_ext q (16 - fr.toInt.toNat)
  rw [show fr.toInt.toNat + (16 - fr.toInt.toNat) = 16 by omega] at e
  rw [bc_v b, e]
theorem down_ans (T : TR fr sd x h w r ft fk mx mh mw mr mf mk) {th und free mund r1 ap1 ba1 cl1 und1 free1 r2 th2 mund1 : Int32} {cells1 now1 u1 : Nat -> Int32} (e9 : (r1, ap1, ba1, cl1, und1, free1, cells1) = F_X9_down fk ap ba gr br la he td cl und free cells) (e10 : (r2, th2, mund1, now1, u1) = F_X10_down fr th mund now mk u) (hm : MR fr sd ap ba gr br la he td now) : r1 = r2 := by
  have bf := T.2.2.1
  rw [F_X9_down] at e9
  rw [F_X10_down] at e10
  rcases down_g (cl := cl) T hm with ⟨a, a2, b, c⟩ | ⟨a, b, _, d⟩
  · rw [hid_n a, a2] at e9
    rw [if_pos b] at e10
    exact (congrArg Prod.fst e9).trans (congrArg Prod.fst e10).symm
  · rw [hid_y (by rw [a]; exact (bc_r ap).1), a] at e9
    rw [if_neg (neg1 b), F_X10_goDown] at e10
    have q1 : r1 = aLS ap := congrArg Prod.fst e9
    have q2 : r2 = (F_X10_empty fr (F_X10_passBy (F_X10_downOf (now (17 : Int32).toNatClampNeg) mk) now)).1 := congrArg Prod.fst e10
    rw [q1, q2]
    refine i32 ?_
    rw [emp_c (MQm_pass hm.1 bf.2 _).1 bf, (ap_r hm.1.1 bf).2]
end DOWN
/-! questions of the moment: hands, worth -/
theorem itr_inv {α : Type} (R : Nat -> α -> Prop) {f : Int32 -> α -> α} {a : α} {i : Nat} (h0 : R 0 a) (n : Nat) (hs : ∀ (k : Nat) (s : α), k < n -> R k s -> R (k + 1) (f (nI (i + k)) s)) : R n (itr f a i n) :=
  itr_rel (i := i) (f := f) (g := f) (a := a) (b := a) (fun k s _ => R k s) h0 n (fun k s _ hk h => hs k s hk h)
theorem has0 (x : Int32) {f : Int32} (hf : 0 <= f.toInt /\ f.toInt < 32) : F_X10_has x f = 0 ↔ ((x >>> (f &&& 31)) &&& 1) = 0 := by
  rw [hs_10 x hf, hs_i x hf]
  cases bt x f.toInt.toNat
  · exact ⟨fun _ => rfl, fun _ => if_neg (by decide)⟩
  · rw [if_pos rfl]
    exact ⟨fun h => absurd h n10, fun h => absurd h (by decide)⟩
theorem rb_eq {sd : Int32} {near hand : Nat -> Int32} (bd : 0 <= sd.toInt /\ sd.toInt <= 8) (hn : ∀ k : Nat, (k : Int) < sd.toInt -> near k = hand k) (S : Int32) : F_X5_reachedBy S near sd = F_X10_handOf S sd hand := by
  rw [F_X5_reachedBy, F_X10_handOf, ex_X5_reachedBy_4, ex_X10_handOf_4]
  refine itr_cg _ (fun k s hk => ?_)
  have i := nI_0c (k := k) (by omega)
  have h := has0 S (f := nI (0 + k)) (by omega)
  rw [bd_X5_reachedBy_4, bd_X10_handOf_4]
  by_cases c : ((S >>> (nI (0 + k) &&& 31)) &&& 1) = 0
  · rw [if_pos c, if_pos (h.mpr c), j_X5_reachedBy_32, j_X10_handOf_31, or0]
  · rw [if_neg c, if_neg (fun e => c (h.mp e)), j_X5_reachedBy_32, j_X10_handOf_31, hn _ (by rw [i.1]; omega)]
theorem wo_eq {fr : Int32} {w mw : Nat -> Int32} (bf : 0 <= fr.toInt /\ fr.toInt <= 16) (hw : ∀ k : Nat, (k : Int) < fr.toInt -> w k = mw k) (S B : Int32) : F_X3_worthOf S B fr w = F_X10_worthOfAll S B fr mw := by
  rw [F_X3_worthOf, F_X10_worthOfAll, ex_X3_worthOf_5, ex_X10_worthOfAll_5]
  refine itr_cg _ (fun k s hk => ?_)
  have i := nI_0c (k := k) (by omega)
  have h := has0 S (f := nI (0 + k)) (by omega)
  have h2 := has0 B (f := nI (0 + k)) (by omega)
  have e := hw _ (show ((nI (0 + k)).toNatClampNeg : Int) < fr.toInt by rw [i.1]; omega)
  rw [bd_X3_worthOf_5, bd_X10_worthOfAll_5]
  by_cases c : ((S >>> (nI (0 + k) &&& 31)) &&& 1) = 0
  · rw [if_pos c, if_pos (h.mpr c), j_X3_worthOf_54, j_X10_worthOfAll_35]
    exact (Int32.add_zero _).symm
  · rw [if_neg c, if_neg (fun e => c (h.mp e)), F_X10_worthOf]
    by_cases c2 : ((B >>> (nI (0 + k) &&& 31)) &&& 1) = 0
    · rw [if_pos c2, if_pos (h2.mpr c2), j_X3_worthOf_52, j_X3_worthOf_54, j_X10_worthOfAll_35, e]
    · rw [if_neg c2, if_neg (fun e => c2 (h2.mp e)), j_X3_worthOf_52, j_X3_worthOf_54, j_X10_worthOfAll_35, e]
theorem up_itr {f : Int32 -> (Nat -> Int32) -> (Nat -> Int32)} {v a : Nat -> Int32} (n : Nat) (hn : n <= 2000) (hf : ∀ (k : Nat) (s : Nat -> Int32), k < n -> f (nI (0 + k)) s = upd s k (v k)) : ∀ j : Nat, j < n -> itr f a 0 n j = v j := by
  have key : ∀ k : Nat, k <= n -> ∀ j : Nat, j < k -> itr f a 0 k j = v j := by
    intro k
    induction k with
    | zero => intro _ j hj; exact absurd hj (by omega)
    | succ k ih =>
      intro hk j hj
      rw [itr_s, hf k _ (by omega)]
      by_cases e : j = k
      · rw [e, upd_i]
      · rw [aGi _ _ e]; exact ih (by omega) j (by omega)
  exact key n (Nat.le_refl n)
section QB
variable {fr sd ap ba gr br la he td cl : Int32} {x h w r ft fk mx mh mw mr mf mk st told now : Nat -> Int32}
/-- what both hold of the hands -/
theorem look_eq (T : TR fr sd x h w r ft fk mx mh mw mr mf mk) (hst2 : ∀ k : Nat, k < 5 -> st k = told k) (hm : MR fr sd ap ba gr br la he td now) (a : Int32) {pw mwd : Int32} {pn hand : Nat -> Int32} : (F_X5_lookAs a td pw pn fr sd x h r ft fk st ap ba gr).1 = (F_X10_layHands_ a fr sd mwd now mx mh mr mf mk told hand).1 /\ ∀ k : Nat, (k : Int) < sd.toInt -> (F_X5_lookAs a td pw pn fr sd x h r ft fk st ap ba gr).2 k = (F_X10_layHands_ a fr sd mwd now mx mh mr mf mk told hand).2 k := by
  have bf := T.2.2.1
  have bd := T.2.2.2.1
  have z : (Int32.toInt sd - ((0 : Nat) : Int)).toNat = sd.toInt.toNat := by omega
  have h1 := up_itr (f := bd_X5_lookAs_13 fr sd x h r ft fk st ap ba gr td (F_X3_reach a 0 st) pw) (v := fun k => F_X3_within (nI (0 + k)) (F_X3_reach a 0 st) fr x h ft fk) (a := pn) (Int32.toInt sd - ((0 : Nat) : Int)).toNat (by omega) (fun k s hk => by
    have i := nI_0c (k := k) (by omega)
    rw [bd_X5_lookAs_13, i.1])
  have h2 := up_itr (f := bd_X10_layHands__2 fr sd now mx mh mr mf mk told a mwd) (v := fun k => aLM (nI (0 + k)) a 0 fr mx mh mf mk told) (a := hand) (Int32.toInt sd - ((0 : Nat) : Int)).toNat (by omega) (fun k s hk => by
    have i := nI_0c (k := k) (by omega)
    rw [bd_X10_layHands__2, i.1])
  have key : ∀ k : Nat, (k : Int) < sd.toInt -> itr (bd_X5_lookAs_13 fr sd x h r ft fk st ap ba gr td (F_X3_reach a 0 st) pw) pn 0 (Int32.toInt sd - ((0 : Nat) : Int)).toNat k = itr (bd_X10_layHands__2 fr sd now mx mh mr mf mk told a mwd) hand 0 (Int32.toInt sd - ((0 : Nat) : Int)).toNat k := by
    intro k hk
    have i := nI_0c (k := k) (by omega)
    rw [h1 k (by omega), h2 k (by omega)]
    exact wi_eq T hst2 a 0 (by omega)
  rw [F_X5_lookAs, F_X10_layHands_, ex_X5_lookAs_13, ex_X10_layHands__2]
  refine ⟨?_, key⟩
  show aVS fr ap ba gr &&& F_X3_ripeBy td fr r &&& F_X5_reachedBy (F_X3_allStandings sd) _ sd = aUf 0 fr now &&& F_X10_ripeOnes (now (19 : Int32).toNatClampNeg) fr mr &&& F_X10_handOf (F_X10_allStandings sd) sd _
  rw [rb_eq bd key, rp_eq T, mo_hg hm.1.1 bf, c19, <- hm.1.2.2.2.2]
  rfl
theorem look_e (T : TR fr sd x h w r ft fk mx mh mw mr mf mk) (hst2 : ∀ k : Nat, k < 5 -> st k = told k) (hm : MR fr sd ap ba gr br la he td now) {pw mwd : Int32} {pn hand : Nat -> Int32} : (F_X5_look pw pn fr sd x h r ft fk st ap ba gr he td).1 = (bBY fr sd mwd now mx mh mr mf mk told hand).1 /\ ∀ k : Nat, (k : Int) < sd.toInt -> (F_X5_look pw pn fr sd x h r ft fk st ap ba gr he td).2 k = (bBY fr sd mwd now mx mh mr mf mk told hand).2 k := by
  rw [F_X5_look, bBY, c18, <- hm.1.2.2.2.1]
  exact look_eq T hst2 hm he
theorem from_eq (T : TR fr sd x h w r ft fk mx mh mw mr mf mk) (hst2 : ∀ k : Nat, k < 5 -> st k = told k) (hm : MR fr sd ap ba gr br la he td now) {p k p' k' fr9 sd9 th : Int32} (hp : p' = p) (hk : k' = k) (e1 : fr9 = fr) (e2 : sd9 = sd) : F_X9_from p k fr9 sd9 x h ft fk st he = (F_X10_from p' k' fr sd th now mx mh mf mk told).1 := by
  subst hp hk e1 e2
  have bf := T.2.2.1
  have bd := T.2.2.2.1
  rw [F_X9_from, F_X10_from, yn_eq]
  rcases hfr (p := p') (fr := fr9) (by omega) with ⟨a, b, _⟩ | ⟨a, b, g⟩
  · rw [if_pos a, if_pos b]
  · rw [if_neg (neg1 a), if_neg (neg1 b)]
    rcases in01 k' 0 1 with ⟨q, _⟩ | ⟨q, _⟩
    · rw [if_pos q, if_pos q]
    · rw [if_neg (neg1 q), if_neg (neg1 q), ex_X9_from_42, ex_X10_from_29]
      refine itr_cg _ (fun k s hk => ?_)
      have i := nI_0c (k := k) (by omega)
      rw [bd_X9_from_42, bd_X10_from_29, iw_eq T _ g (by omega), rch_eq hst2, c18, <- hm.1.2.2.2.1, j_X9_from_77, j_X9_from_77, j_X10_from_69, j_X10_from_69, or0]
theorem never_eq (T : TR fr sd x h w r ft fk mx mh mw mr mf mk) (hst2 : ∀ k : Nat, k < 5 -> st k = told k) (hm : MR fr sd ap ba gr br la he td now) {fr9 sd9 th rs rm : Int32} {rn row : Nat -> Int32} (e1 : fr9 = fr) (e2 : sd9 = sd) : (F_X9_never fr9 sd9 x h w ft fk st ap ba gr br rs rn).1 = (F_X10_never fr sd rm th now mx mh mw mf mk told row).1 := by
  subst e1 e2
  have bf := T.2.2.1
  have bd := T.2.2.2.1
  rw [F_X9_never, F_X10_never, ex_X9_never_10, ex_X10_never_17, mo_hg hm.1.1 bf]
  refine itr_cg _ (fun k s hk => ?_)
  have i := nI_0c (k := k) (by omega)
  rw [bd_X9_never_10, bd_X10_never_17, wi_eq T hst2 1 1 (by omega)]
theorem and3 (a b c : Int32) : (a &&& b) &&& (a &&& c) = (a &&& b) &&& c := bt_ext (fun k _ => by
  rw [bt_and, bt_and, bt_and, bt_and, bt_and]
  cases bt a k <;> cases bt b k <;> cases bt c k <;> rfl)
theorem both_eq (T : TR fr sd x h w r ft fk mx mh mw mr mf mk) (hst2 : ∀ k : Nat, k < 5 -> st k = told k) (hm : MR fr sd ap ba gr br la he td now) {p k p' k' fr9 sd9 th rs rm pw mwd : Int32} {rn row pn hand : Nat -> Int32} (hp : p' = p) (hk : k' = k) (e1 : fr9 = fr) (e2 : sd9 = sd) : (F_X9_both p k pw pn fr9 sd9 x h r ft fk st ap ba gr he td rs rn).1 = (F_X10_both p' k' fr sd rm th mwd now mx mh mr mf mk told row hand).1 := by
  subst hp hk e1 e2
  have bd := T.2.2.2.1
  rw [F_X9_both, F_X10_both]
  rcases hst (p := p') (sd := sd9) (by omega) with ⟨a, b, _⟩ | ⟨a, b, g⟩
  · rw [if_pos a, if_pos b]
  · rw [if_neg (neg1 a), if_neg (neg1 b)]
    rcases hst (p := k') (sd := sd9) (by omega) with ⟨a2, b2, _⟩ | ⟨a2, b2, g2⟩
    · rw [if_pos a2, if_pos b2]
    · rw [if_neg (neg1 a2), if_neg (neg1 b2)]
      by_cases c : p' = k'
      · rw [if_pos c, if_pos c]
      · rw [if_neg c, if_neg c]
        obtain ⟨q1, q2⟩ := look_e T hst2 hm (pw := pw) (pn := pn) (mwd := mwd) (hand := hand)
        have c1 := cl_n p'
        have c2 := cl_n k'
        show F_X5_wantedFrom p' (F_X5_look pw pn fr9 sd9 x h r ft fk st ap ba gr he td).1 (F_X5_look pw pn fr9 sd9 x h r ft fk st ap ba gr he td).2 &&& F_X5_wantedFrom k' (F_X5_look pw pn fr9 sd9 x h r ft fk st ap ba gr he td).1 (F_X5_look pw pn fr9 sd9 x h r ft fk st ap ba gr he td).2 = (bBY fr9 sd9 mwd now mx mh mr mf mk told hand).1 &&& (bBY fr9 sd9 mwd now mx mh mr mf mk told hand).2 p'.toNatClampNeg &&& (bBY fr9 sd9 mwd now mx mh mr mf mk told hand).2 k'.toNatClampNeg
        rw [F_X5_wantedFrom, F_X5_wantedFrom, q1, q2 p'.toNatClampNeg (by omega), q2 k'.toNatClampNeg (by omega)]
        exact and3 _ _ _
end QB
/-! sets of standings; next -/
theorem as_b : ∀ n, n < 9 -> ∀ j, j < 32 -> bt (((1 : Int32) <<< (nI n &&& 31)) - 1) j = decide (j < n) := by decide +kernel
theorem as_t : ∀ n, n < 9 -> Int32.toInt (((1 : Int32) <<< (nI n &&& 31)) - 1) = ((2 ^ n : Nat) : Int) - 1 := by decide +kernel
theorem as_bt {sd : Int32} (bd : 0 <= sd.toInt /\ sd.toInt <= 8) (j : Nat) : bt (F_X10_allStandings sd) j = decide (j < sd.toInt.toNat) := by
  by_cases hj : j < 32
  · have e := tp_nI bd.1
    rw [F_X10_allStandings]
    have q := as_b sd.toInt.toNat (by omega) j hj
    rw [<- e] at q
    exact q
  · rw [bt_ge _ _ (by omega), decide_eq_false (by omega)]
theorem as_ti {sd : Int32} (bd : 0 <= sd.toInt /\ sd.toInt <= 8) : Int32.toInt (F_X10_allStandings sd) = ((2 ^ sd.toInt.toNat : Nat) : Int) - 1 := by
  have e := tp_nI bd.1
  rw [F_X10_allStandings]
  have q := as_t sd.toInt.toNat (by omega)
  rw [<- e] at q
  exact q
theorem as_lt {sd : Int32} (bd : 0 <= sd.toInt /\ sd.toInt <= 8) : Int32.toInt (F_X10_allStandings sd) < 2147483647 := by
  have t := as_ti bd
  have p : (2 ^ sd.toInt.toNat : Nat) <= 2 ^ 8 := Nat.pow_le_pow_right (by omega) (by omega)
  omega
theorem sub_bt {p a : Int32} : p &&& (a ^^^ (-1)) = 0 ↔ ∀ j : Nat, j < 32 -> bt p j = true -> bt a j = true := by
  refine ⟨fun e j hj hp => ?_, fun h => bt_ext (fun j hj => ?_)⟩
  · have q := congrArg (fun y => bt y j) e
    have q : bt (p &&& (a ^^^ (-1))) j = bt 0 j := q
    rw [bt_and, bt_not _ _ hj, bt_zero, hp, Bool.true_and] at q
    cases hx : bt a j
    · rw [hx] at q; exact absurd q (by decide)
    · rfl
  · rw [bt_and, bt_not _ _ hj, bt_zero]
    cases hp : bt p j
    · rfl
    · rw [h j hj hp]; rfl
theorem as_in {p sd : Int32} (bd : 0 <= sd.toInt /\ sd.toInt <= 8) : (F_X3_areStandings p sd = 0 /\ aUe p 0 (F_X10_allStandings sd) = 0) \/ (F_X3_areStandings p sd = 1 /\ aUe p 0 (F_X10_allStandings sd) = 1 /\ (0 <= p.toInt /\ p.toInt < ((2 ^ sd.toInt.toNat : Nat) : Int)) /\ ∀ j : Nat, sd.toInt.toNat <= j -> bt p j = false) := by
  have l0 : Int32.toInt (0 : Int32) = 0 := by decide
  have e9 : F_X3_allStandings sd = F_X10_allStandings sd := rfl
  have t := as_ti bd
  rw [F_X3_areStandings, e9]
  by_cases c : p &&& (F_X10_allStandings sd ^^^ (-1)) = 0
  · have hb : ∀ j : Nat, sd.toInt.toNat <= j -> bt p j = false := by
      intro j hj
      by_cases h32 : j < 32
      · cases hp : bt p j
        · rfl
        · have q := sub_bt.mp c j h32 hp
          rw [as_bt bd, decide_eq_false (by omega)] at q
          exact absurd q (by decide)
      · exact bt_ge _ _ (by omega)
    have r := bt_bound p sd.toInt.toNat (by omega) hb
    rw [if_pos c]
    refine Or.inr ⟨rfl, ?_, r, hb⟩
    rcases in01 p 0 (F_X10_allStandings sd) with ⟨_, q⟩ | ⟨q, _⟩
    · exfalso; omega
    · exact q
  · rw [if_neg c]
    refine Or.inl ⟨rfl, ?_⟩
    rcases in01 p 0 (F_X10_allStandings sd) with ⟨q, _⟩ | ⟨_, q1, q2⟩
    · exact q
    · exfalso
      have hb := bt_lt p sd.toInt.toNat (by omega)
      refine c (sub_bt.mpr (fun j _ hp => ?_))
      rw [as_bt bd]
      refine decide_eq_true ?_
      rcases Nat.lt_or_ge j sd.toInt.toNat with h | h
      · exact h
      · rw [hb j h] at hp; exact absurd hp (by decide)
section QC
variable {fr sd ap ba gr br la he td cl : Int32} {x h w r ft fk mx mh mw mr mf mk st told now : Nat -> Int32}
theorem wl_eq (T : TR fr sd x h w r ft fk mx mh mw mr mf mk) (hm : MR fr sd ap ba gr br la he td now) {wd mwd : Int32} {near hand : Nat -> Int32} (hwd : wd = mwd) (hn : ∀ k : Nat, (k : Int) < sd.toInt -> near k = hand k) (S : Int32) : F_X5_worthLeft S wd near fr sd w br = F_X10_leftBy S fr sd mwd now mw hand := by
  rw [F_X5_worthLeft, F_X10_leftBy, F_X0_worthOf, rb_eq T.2.2.2.1 hn, hwd, c16, <- hm.1.2.1, wo_eq T.2.2.1 (fun k hk => (T.1 k hk).2.2.1)]
theorem next_eq (T : TR fr sd x h w r ft fk mx mh mw mr mf mk) (hst2 : ∀ k : Nat, k < 5 -> st k = told k) (hm : MR fr sd ap ba gr br la he td now) {p p' fr9 sd9 th rs rm pw mwd : Int32} {rn row pn hand : Nat -> Int32} (hp : p' = p) (e1 : fr9 = fr) (e2 : sd9 = sd) : (F_X9_next p pw pn fr9 sd9 x h w r ft fk st ap ba gr br he td rs rn).1 = (F_X10_next p' fr sd rm th mwd now mx mh mw mr mf mk told row hand).1 := by
  subst hp e1 e2
  have bd := T.2.2.2.1
  have l0 : Int32.toInt (0 : Int32) = 0 := by decide
  have lm : Int32.toInt (-2 : Int32) = -2 := by decide
  rw [F_X9_next, F_X10_next]
  rcases as_in (p := p') bd with ⟨a, b⟩ | ⟨a, b, g, gb⟩
  · rw [if_pos a, if_pos b]
  · rw [if_neg (neg1 a), if_neg (neg1 b)]
    obtain ⟨q1, q2⟩ := look_e T hst2 hm (pw := pw) (pn := pn) (mwd := mwd) (hand := hand)
    obtain ⟨A, hA⟩ : ∃ l, l = F_X5_look pw pn fr9 sd9 x h r ft fk st ap ba gr he td := ⟨_, rfl⟩
    obtain ⟨B, hB⟩ : ∃ l, l = bBY fr9 sd9 mwd now mx mh mr mf mk told hand := ⟨_, rfl⟩
    rw [<- hA, <- hB] at q1 q2
    rw [<- hA, <- hB]
    have wl := wl_eq T hm q1 q2
    have key := itr_rel (i := 0) (f := bd_X9_next_28 fr9 sd9 x h w r ft fk st ap ba gr br he td p' A.1 A.2 rs rn) (g := bd_X10_next_28 fr9 sd9 now mx mh mw mr mf mk told p' rm 0 B.1 row B.2) (a := ((-2 : Int32), (0 : Int32))) (b := (-2 : Int32)) (fun (k : Nat) (s : Int32 × Int32) (t : Int32) => s.1 = t /\ (t = -2 \/ ((0 <= t.toInt /\ t.toInt < (k : Int)) /\ s.2 = F_X10_leftBy (p' ||| (1 <<< (t &&& 31))) fr9 sd9 B.1 now mw B.2))) ⟨rfl, Or.inl rfl⟩ (Int32.toInt sd9 - ((0 : Nat) : Int)).toNat (fun k s t hk hR => by
      have i := nI_0c (k := k) (by omega)
      have hh := has0 p' (f := nI (0 + k)) (by omega)
      obtain ⟨r1, r2⟩ := hR
      rw [bd_X9_next_28, bd_X10_next_28, r1, wl]
      have new : (j_X9_next_74 (fun q0 q1 q2 q3 q4 q5 q6 q7 => (q1, q2)) fr9 sd9 x h w r ft fk st ap ba gr br he td p' (nI (0 + k)) (F_X10_leftBy (p' ||| (1 <<< (nI (0 + k) &&& 31))) fr9 sd9 B.1 now mw B.2) A.1 A.2 rs rn).1 = j_X10_next_69 (fun q0 q1 q2 q3 q4 q5 q6 q7 => q1) fr9 sd9 now mx mh mw mr mf mk told p' (nI (0 + k)) rm 0 B.1 row B.2 /\ (j_X10_next_69 (fun q0 q1 q2 q3 q4 q5 q6 q7 => q1) fr9 sd9 now mx mh mw mr mf mk told p' (nI (0 + k)) rm 0 B.1 row B.2 = -2 \/ ((0 <= Int32.toInt (j_X10_next_69 (fun q0 q1 q2 q3 q4 q5 q6 q7 => q1) fr9 sd9 now mx mh mw mr mf mk told p' (nI (0 + k)) rm 0 B.1 row B.2) /\ Int32.toInt (j_X10_next_69 (fun q0 q1 q2 q3 q4 q5 q6 q7 => q1) fr9 sd9 now mx mh mw mr mf mk told p' (nI (0 + k)) rm 0 B.1 row B.2) < ((k + 1 : Nat) : Int)) /\ (j_X9_next_74 (fun q0 q1 q2 q3 q4 q5 q6 q7 => (q1, q2)) fr9 sd9 x h w r ft fk st ap ba gr br he td p' (nI (0 + k)) (F_X10_leftBy (p' ||| (1 <<< (nI (0 + k) &&& 31))) fr9 sd9 B.1 now mw B.2) A.1 A.2 rs rn).2 = F_X10_leftBy (p' ||| (1 <<< (j_X10_next_69 (fun q0 q1 q2 q3 q4 q5 q6 q7 => q1) fr9 sd9 now mx mh mw mr mf mk told p' (nI (0 + k)) rm 0 B.1 row B.2 &&& 31))) fr9 sd9 B.1 now mw B.2)) := by
        rw [j_X9_next_74, j_X9_next_80, j_X10_next_69, j_X10_next_71]
        exact ⟨rfl, Or.inr ⟨⟨by omega, by omega⟩, rfl⟩⟩
      have old : t = -2 \/ ((0 <= t.toInt /\ t.toInt < ((k + 1 : Nat) : Int)) /\ s.2 = F_X10_leftBy (p' ||| (1 <<< (t &&& 31))) fr9 sd9 B.1 now mw B.2) := by
        rcases r2 with r2 | ⟨r2, r3⟩
        · exact Or.inl r2
        · exact Or.inr ⟨by omega, r3⟩
      by_cases c : ((p' >>> (nI (0 + k) &&& 31)) &&& 1) = 0
      · rw [if_pos c, if_pos (hh.mpr c)]
        rcases r2 with r2 | ⟨r2, r3⟩
        · have k5 : t < 0 := by rw [r2]; decide
          rw [if_pos k5, if_pos k5]
          exact new
        · have k5 : ¬ t < 0 := fun c => by have := (aAd _ _).mp c; omega
          rw [if_neg k5, if_neg k5, r3]
          by_cases c2 : F_X10_leftBy (p' ||| (1 <<< (t &&& 31))) fr9 sd9 B.1 now mw B.2 <= F_X10_leftBy (p' ||| (1 <<< (nI (0 + k) &&& 31))) fr9 sd9 B.1 now mw B.2
          · rw [if_pos c2, if_pos c2, j_X9_next_80, j_X10_next_71]
            rw [r3] at old
            exact ⟨rfl, old⟩
          · rw [if_neg c2, if_neg c2]
            exact new
      · rw [if_neg c, if_neg (fun e => c (hh.mp e)), j_X9_next_80, j_X10_next_71]
        exact ⟨rfl, old⟩)
    rw [ex_X9_next_28, ex_X10_next_28]
    obtain ⟨r1, r2⟩ := key
    rcases r2 with r2 | ⟨r2, r3⟩
    · rw [r1, r2, if_pos (by decide), if_neg (by decide)]
    · rw [r1, if_neg (fun c => by have := (aAd _ _).mp c; omega), if_pos ((aAO _ _).mpr (by omega))]
end QC
/-! the fewest standings: fewest, helps -/
noncomputable def bcI (x : Int32) : Int := Int32.toInt (aLS x)
theorem earl (c s : Int32) : (F_X5_isEarlier c s = 0 -> bcI s <= bcI c) /\ (¬ F_X5_isEarlier c s = 0 -> bcI c <= bcI s) := by
  have l0 : Int32.toInt (0 : Int32) = 0 := by decide
  have b1 := bc_r c
  have b2 := bc_r s
  have d := aCA (aLS c) (aLS s) (by omega)
  unfold bcI
  rw [F_X5_isEarlier, j_X5_isEarlier_31]
  by_cases c1 : aLS c - aLS s < 0
  · have e1 := (aAd _ _).mp c1
    rw [if_pos c1]
    exact ⟨fun e => absurd e n10, fun _ => by omega⟩
  · have e1 := mt (aAd _ _).mpr c1
    rw [if_neg c1]
    by_cases c2 : aLS c - aLS s = 0
    · have e2 := (zJ _ _).mp c2
      exact ⟨fun _ => by omega, fun _ => by omega⟩
    · have e2 := mt (zJ _ _).mpr c2
      rw [if_neg c2]
      exact ⟨fun _ => by omega, fun e => absurd rfl e⟩
theorem cls_min {G Al sd : Int32} {near : Nat -> Int32} (hA : 0 <= Al.toInt /\ Al.toInt <= 255) (hc : G &&& (F_X5_reachedBy Al near sd ^^^ (-1)) = 0) : (G &&& (F_X5_reachedBy (F_X5_smallestCover G Al near sd) near sd ^^^ (-1)) = 0 /\ (0 <= Int32.toInt (F_X5_smallestCover G Al near sd) /\ Int32.toInt (F_X5_smallestCover G Al near sd) <= Al.toInt) /\ F_X5_smallestCover G Al near sd &&& (Al ^^^ (-1)) = 0) /\ ∀ S : Int32, 0 <= S.toInt -> S &&& (Al ^^^ (-1)) = 0 -> G &&& (F_X5_reachedBy S near sd ^^^ (-1)) = 0 -> bcI (F_X5_smallestCover G Al near sd) <= bcI S := by
  have aa : Al &&& (Al ^^^ (-1)) = 0 := sub_bt.mpr (fun _ _ h => h)
  have key := itr_inv (i := 0) (f := bd_X5_smallestCover_5 near sd G Al) (a := Al) (fun (k : Nat) (s : Int32) => G &&& (F_X5_reachedBy s near sd ^^^ (-1)) = 0 /\ (0 <= s.toInt /\ s.toInt <= Al.toInt) /\ s &&& (Al ^^^ (-1)) = 0 /\ bcI s <= bcI Al /\ ∀ S : Int32, 0 <= S.toInt -> S.toInt < (k : Int) -> S &&& (Al ^^^ (-1)) = 0 -> G &&& (F_X5_reachedBy S near sd ^^^ (-1)) = 0 -> bcI s <= bcI S) ⟨hc, by omega, aa, Int.le_refl _, fun S h0 h1 => by exfalso; omega⟩ (Int32.toInt Al - ((0 : Nat) : Int)).toNat (fun k s hk hR => by
    have hR : G &&& (F_X5_reachedBy s near sd ^^^ (-1)) = 0 /\ (0 <= s.toInt /\ s.toInt <= Al.toInt) /\ s &&& (Al ^^^ (-1)) = 0 /\ bcI s <= bcI Al /\ ∀ S : Int32, 0 <= S.toInt -> S.toInt < (k : Int) -> S &&& (Al ^^^ (-1)) = 0 -> G &&& (F_X5_reachedBy S near sd ^^^ (-1)) = 0 -> bcI s <= bcI S := hR
    obtain ⟨r1, r2, r3, r4, r5⟩ := hR
    have i := (nI_0c (k := k) (by omega)).2
    have eS : ∀ S : Int32, 0 <= S.toInt -> S.toInt < ((k + 1 : Nat) : Int) -> S.toInt < (k : Int) \/ S = nI (0 + k) := fun S h0 h1 => by
      by_cases c : S.toInt < (k : Int)
      · exact Or.inl c
      · exact Or.inr (i32 (by omega))
    have old : (S : Int32) -> 0 <= S.toInt -> S.toInt < (k : Int) -> S &&& (Al ^^^ (-1)) = 0 -> G &&& (F_X5_reachedBy S near sd ^^^ (-1)) = 0 -> bcI s <= bcI S := r5
    show G &&& (F_X5_reachedBy (bd_X5_smallestCover_5 near sd G Al (nI (0 + k)) s) near sd ^^^ (-1)) = 0 /\ (0 <= Int32.toInt (bd_X5_smallestCover_5 near sd G Al (nI (0 + k)) s) /\ Int32.toInt (bd_X5_smallestCover_5 near sd G Al (nI (0 + k)) s) <= Al.toInt) /\ bd_X5_smallestCover_5 near sd G Al (nI (0 + k)) s &&& (Al ^^^ (-1)) = 0 /\ bcI (bd_X5_smallestCover_5 near sd G Al (nI (0 + k)) s) <= bcI Al /\ ∀ S : Int32, 0 <= S.toInt -> S.toInt < ((k + 1 : Nat) : Int) -> S &&& (Al ^^^ (-1)) = 0 -> G &&& (F_X5_reachedBy S near sd ^^^ (-1)) = 0 -> bcI (bd_X5_smallestCover_5 near sd G Al (nI (0 + k)) s) <= bcI S
    rw [bd_X5_smallestCover_5, j_X5_smallestCover_45, j_X5_smallestCover_45]
    by_cases c1 : nI (0 + k) &&& (Al ^^^ (-1)) = 0
    · rw [if_pos c1]
      by_cases c2 : G &&& (F_X5_reachedBy (nI (0 + k)) near sd ^^^ (-1)) = 0
      · rw [if_pos c2]
        have q := earl (nI (0 + k)) s
        by_cases c3 : F_X5_isEarlier (nI (0 + k)) s = 0
        · rw [if_pos c3]
          have q := q.1 c3
          refine ⟨r1, r2, r3, r4, fun S h0 h1 h2 h3 => ?_⟩
          rcases eS S h0 h1 with g | g
          · exact r5 S h0 g h2 h3
          · rw [g]; exact q
        · rw [if_neg c3]
          have q := q.2 c3
          refine ⟨c2, by omega, c1, by omega, fun S h0 h1 h2 h3 => ?_⟩
          rcases eS S h0 h1 with g | g
          · have := r5 S h0 g h2 h3; omega
          · rw [g]; exact Int.le_refl _
      · rw [if_neg c2]
        refine ⟨r1, r2, r3, r4, fun S h0 h1 h2 h3 => ?_⟩
        rcases eS S h0 h1 with g | g
        · exact r5 S h0 g h2 h3
        · rw [g] at h3; exact absurd h3 c2
    · rw [if_neg c1]
      refine ⟨r1, r2, r3, r4, fun S h0 h1 h2 h3 => ?_⟩
      rcases eS S h0 h1 with g | g
      · exact r5 S h0 g h2 h3
      · rw [g] at h2; exact absurd h2 c1)
  have e : F_X5_smallestCover G Al near sd = itr (bd_X5_smallestCover_5 near sd G Al) Al 0 (Int32.toInt Al - ((0 : Nat) : Int)).toNat := by rw [F_X5_smallestCover, ex_X5_smallestCover_5]
  rw [e]
  obtain ⟨r1, r2, r3, r4, r5⟩ := key
  refine ⟨⟨r1, r2, r3⟩, fun S h0 h2 h3 => ?_⟩
  have q := ti_subset S Al h2 hA.1
  by_cases c : S.toInt < Al.toInt
  · exact r5 S h0 (by omega) h2 h3
  · have g : S = Al := i32 (by omega)
    rw [g]; exact r4
theorem ref_min {G sd : Int32} {hand : Nat -> Int32} (bd : 0 <= sd.toInt /\ sd.toInt <= 8) {W : Int32} (hW : 0 <= W.toInt /\ W.toInt <= Int32.toInt (F_X10_allStandings sd)) (hc : G &&& (F_X10_handOf W sd hand ^^^ (-1)) = 0) : (G &&& (F_X10_handOf (F_X10_cover G sd hand) sd hand ^^^ (-1)) = 0 /\ 0 <= Int32.toInt (F_X10_cover G sd hand) /\ Int32.toInt (F_X10_cover G sd hand) <= Int32.toInt (F_X10_allStandings sd)) /\ ∀ S : Int32, 0 <= S.toInt -> S.toInt <= Int32.toInt (F_X10_allStandings sd) -> G &&& (F_X10_handOf S sd hand ^^^ (-1)) = 0 -> bcI (F_X10_cover G sd hand) <= bcI S := by
  have l0 : Int32.toInt (0 : Int32) = 0 := by decide
  have lm : Int32.toInt (-1 : Int32) = -1 := by decide
  have hL : Int32.toInt (F_X10_allStandings sd) <= 255 := by
    have t := as_ti bd
    have p : (2 ^ sd.toInt.toNat : Nat) <= 2 ^ 8 := Nat.pow_le_pow_right (by omega) (by omega)
    omega
  have key := itr_inv (i := 0) (f := bd_X10_cover_4 sd hand G) (a := (-1 : Int32)) (fun (k : Nat) (t : Int32) => (t = -1 /\ ∀ S : Int32, 0 <= S.toInt -> S.toInt < (k : Int) -> ¬ G &&& (F_X10_handOf S sd hand ^^^ (-1)) = 0) \/ ((0 <= t.toInt /\ t.toInt < (k : Int)) /\ G &&& (F_X10_handOf t sd hand ^^^ (-1)) = 0 /\ ∀ S : Int32, 0 <= S.toInt -> S.toInt < (k : Int) -> G &&& (F_X10_handOf S sd hand ^^^ (-1)) = 0 -> bcI t <= bcI S)) (Or.inl ⟨rfl, fun S h0 h1 => by exfalso; omega⟩) (Int32.toInt (F_X10_allStandings sd) + 1 - ((0 : Nat) : Int)).toNat (fun k t hk hR => by
    have hR : (t = -1 /\ ∀ S : Int32, 0 <= S.toInt -> S.toInt < (k : Int) -> ¬ G &&& (F_X10_handOf S sd hand ^^^ (-1)) = 0) \/ ((0 <= t.toInt /\ t.toInt < (k : Int)) /\ G &&& (F_X10_handOf t sd hand ^^^ (-1)) = 0 /\ ∀ S : Int32, 0 <= S.toInt -> S.toInt < (k : Int) -> G &&& (F_X10_handOf S sd hand ^^^ (-1)) = 0 -> bcI t <= bcI S) := hR
    have i := (nI_0c (k := k) (by omega)).2
    have eS : ∀ S : Int32, 0 <= S.toInt -> S.toInt < ((k + 1 : Nat) : Int) -> S.toInt < (k : Int) \/ S = nI (0 + k) := fun S h0 h1 => by
      by_cases c : S.toInt < (k : Int)
      · exact Or.inl c
      · exact Or.inr (i32 (by omega))
    have fin : ∀ u : Int32, u = bd_X10_cover_4 sd hand G (nI (0 + k)) t -> (u = -1 /\ ∀ S : Int32, 0 <= S.toInt -> S.toInt < ((k + 1 : Nat) : Int) -> ¬ G &&& (F_X10_handOf S sd hand ^^^ (-1)) = 0) \/ ((0 <= u.toInt /\ u.toInt < ((k + 1 : Nat) : Int)) /\ G &&& (F_X10_handOf u sd hand ^^^ (-1)) = 0 /\ ∀ S : Int32, 0 <= S.toInt -> S.toInt < ((k + 1 : Nat) : Int) -> G &&& (F_X10_handOf S sd hand ^^^ (-1)) = 0 -> bcI u <= bcI S) := by
      intro u hu
      rw [bd_X10_cover_4] at hu
      by_cases c : G &&& (F_X10_handOf (nI (0 + k)) sd hand ^^^ (-1)) = 0
      · rw [if_pos c] at hu
        rcases hR with ⟨r1, r2⟩ | ⟨r1, r2, r3⟩
        · rw [if_pos r1, j_X10_cover_45, if_pos (by decide : (-1 : Int32) < 0), j_X10_cover_65, j_X10_cover_67] at hu
          rw [hu]
          refine Or.inr ⟨⟨by omega, by omega⟩, c, fun S h0 h1 h2 => ?_⟩
          rcases eS S h0 h1 with g | g
          · exact absurd h2 (r2 S h0 g)
          · rw [g]; exact Int.le_refl _
        · have k1 : ¬ t = -1 := fun e => by have := congrArg Int32.toInt e; omega
          rw [if_neg k1, j_X10_cover_45, j_X10_cover_65, j_X10_cover_67, j_X10_cover_67] at hu
          have b1 := bc_r (nI (0 + k))
          have b2 := bc_r t
          have d := aCA (aLS (nI (0 + k))) (aLS t) (by omega)
          have new : bcI (nI (0 + k)) <= bcI t -> u = nI (0 + k) -> (u = -1 /\ ∀ S : Int32, 0 <= S.toInt -> S.toInt < ((k + 1 : Nat) : Int) -> ¬ G &&& (F_X10_handOf S sd hand ^^^ (-1)) = 0) \/ ((0 <= u.toInt /\ u.toInt < ((k + 1 : Nat) : Int)) /\ G &&& (F_X10_handOf u sd hand ^^^ (-1)) = 0 /\ ∀ S : Int32, 0 <= S.toInt -> S.toInt < ((k + 1 : Nat) : Int) -> G &&& (F_X10_handOf S sd hand ^^^ (-1)) = 0 -> bcI u <= bcI S) := by
            intro hb e
            rw [e]
            refine Or.inr ⟨⟨by omega, by omega⟩, c, fun S h0 h1 h2 => ?_⟩
            rcases eS S h0 h1 with g | g
            · have := r3 S h0 g h2; omega
            · rw [g]; exact Int.le_refl _
          have old : bcI t <= bcI (nI (0 + k)) -> u = t -> (u = -1 /\ ∀ S : Int32, 0 <= S.toInt -> S.toInt < ((k + 1 : Nat) : Int) -> ¬ G &&& (F_X10_handOf S sd hand ^^^ (-1)) = 0) \/ ((0 <= u.toInt /\ u.toInt < ((k + 1 : Nat) : Int)) /\ G &&& (F_X10_handOf u sd hand ^^^ (-1)) = 0 /\ ∀ S : Int32, 0 <= S.toInt -> S.toInt < ((k + 1 : Nat) : Int) -> G &&& (F_X10_handOf S sd hand ^^^ (-1)) = 0 -> bcI u <= bcI S) := by
            intro hb e
            rw [e]
            refine Or.inr ⟨⟨by omega, by omega⟩, r2, fun S h0 h1 h2 => ?_⟩
            rcases eS S h0 h1 with g | g
            · exact r3 S h0 g h2
            · rw [g]; exact hb
          unfold bcI at new old
          by_cases c1 : aLS (nI (0 + k)) - aLS t < 0
          · have e1 := (aAd _ _).mp c1
            rw [if_pos c1] at hu
            exact new (by omega) hu
          · have e1 := mt (aAd _ _).mpr c1
            rw [if_neg c1] at hu
            by_cases c2 : aLS (nI (0 + k)) - aLS t = 0
            · have e2 := (zJ _ _).mp c2
              rw [if_pos c2] at hu
              by_cases c3 : F_X10_isRowAhead (nI (0 + k)) t = 0
              · rw [if_pos c3] at hu
                exact old (by omega) hu
              · rw [if_neg c3] at hu
                exact new (by omega) hu
            · have e2 := mt (zJ _ _).mpr c2
              rw [if_neg c2] at hu
              exact old (by omega) hu
      · rw [if_neg c, j_X10_cover_67] at hu
        rw [hu]
        rcases hR with ⟨r1, r2⟩ | ⟨r1, r2, r3⟩
        · refine Or.inl ⟨r1, fun S h0 h1 h2 => ?_⟩
          rcases eS S h0 h1 with g | g
          · exact r2 S h0 g h2
          · rw [g] at h2; exact c h2
        · refine Or.inr ⟨by omega, r2, fun S h0 h1 h2 => ?_⟩
          rcases eS S h0 h1 with g | g
          · exact r3 S h0 g h2
          · rw [g] at h2; exact absurd h2 c
    exact fin _ rfl)
  have e : F_X10_cover G sd hand = itr (bd_X10_cover_4 sd hand G) (-1) 0 (Int32.toInt (F_X10_allStandings sd) + 1 - ((0 : Nat) : Int)).toNat := by rw [F_X10_cover, ex_X10_cover_4]
  rw [e]
  rcases key with ⟨_, r2⟩ | ⟨r1, r2, r3⟩
  · exact absurd hc (r2 W hW.1 (by omega))
  · exact ⟨⟨r2, r1.1, by omega⟩, fun S h0 h1 h2 => r3 S h0 (by omega) h2⟩
theorem all_sub {S sd : Int32} (bd : 0 <= sd.toInt /\ sd.toInt <= 8) (h : 0 <= S.toInt /\ S.toInt <= Int32.toInt (F_X10_allStandings sd)) : S &&& (F_X10_allStandings sd ^^^ (-1)) = 0 := by
  have t := as_ti bd
  have hb := bt_lt S sd.toInt.toNat (by omega)
  refine sub_bt.mpr (fun j _ hp => ?_)
  rw [as_bt bd]
  refine decide_eq_true ?_
  rcases Nat.lt_or_ge j sd.toInt.toNat with g | g
  · exact g
  · rw [hb j g] at hp; exact absurd hp (by decide)
theorem as_255 {sd : Int32} (bd : 0 <= sd.toInt /\ sd.toInt <= 8) : 0 <= Int32.toInt (F_X10_allStandings sd) /\ Int32.toInt (F_X10_allStandings sd) <= 255 := by
  have t := as_ti bd
  have p : (2 ^ sd.toInt.toNat : Nat) <= 2 ^ 8 := Nat.pow_le_pow_right (by omega) (by omega)
  have p2 : 0 < (2 ^ sd.toInt.toNat : Nat) := Nat.pow_pos (by omega)
  omega
/-- both find as few -/
theorem cov_eq {G sd : Int32} {near hand : Nat -> Int32} (bd : 0 <= sd.toInt /\ sd.toInt <= 8) (hn : ∀ k : Nat, (k : Int) < sd.toInt -> near k = hand k) (hG : G &&& (F_X10_handOf (F_X10_allStandings sd) sd hand ^^^ (-1)) = 0) : (0 <= Int32.toInt (F_X5_smallestCover G (F_X10_allStandings sd) near sd) /\ Int32.toInt (F_X5_smallestCover G (F_X10_allStandings sd) near sd) <= 255) /\ (0 <= Int32.toInt (F_X10_cover G sd hand) /\ Int32.toInt (F_X10_cover G sd hand) <= 255) /\ aLS (F_X5_smallestCover G (F_X10_allStandings sd) near sd) = aLS (F_X10_cover G sd hand) := by
  have a := as_255 bd
  have c1 : G &&& (F_X5_reachedBy (F_X10_allStandings sd) near sd ^^^ (-1)) = 0 := by rw [rb_eq bd hn]; exact hG
  obtain ⟨⟨p1, p2, p3⟩, p4⟩ := cls_min (G := G) (near := near) (sd := sd) a c1
  obtain ⟨⟨q1, q2, q3⟩, q4⟩ := ref_min (G := G) (hand := hand) bd (W := F_X10_allStandings sd) ⟨a.1, Int.le_refl _⟩ hG
  refine ⟨by omega, by omega, i32 ?_⟩
  have h1 := p4 (F_X10_cover G sd hand) q2 (all_sub bd ⟨q2, q3⟩) (by rw [rb_eq bd hn]; exact q1)
  have h2 := q4 (F_X5_smallestCover G (F_X10_allStandings sd) near sd) p2.1 p2.2 (by rw [<- rb_eq bd hn]; exact p1)
  unfold bcI at h1 h2
  omega
theorem and_sub {a b : Int32} : (a &&& b) &&& (b ^^^ (-1)) = 0 := sub_bt.mpr (fun j _ h => by
  rw [bt_and] at h
  cases hb : bt b j
  · rw [hb, Bool.and_false] at h; exact h
  · rfl)
theorem tm_c {s rs : Int32} {rn : Nat -> Int32} : Int32.toInt (F_X9_tellMembers s rs rn).1 = (pcn 8 s : Int) := by
  have l1 : Int32.toInt (1 : Int32) = 1 := by decide
  have l16 : Int32.toInt (16 : Int32) = 16 := by decide
  have z : (Int32.toInt (8 : Int32) - ((0 : Nat) : Int)).toNat = 8 := by decide
  have key := itr_inv (i := 0) (f := bd_X9_tellMembers_9 s) (a := (F_X6_clear rs, rn)) (fun (k : Nat) (t : Int32 × (Nat -> Int32)) => Int32.toInt t.1 = (pcn k s : Int)) (by decide : Int32.toInt (0 : Int32) = ((0 : Nat) : Int)) 8 (fun k t hk hR => by
    have hR : Int32.toInt t.1 = (pcn k s : Int) := hR
    have p := pcn_le k s
    have i := nI_0c (k := k) (by omega)
    have e : pcn (k + 1) s = pcn k s + (if bt s k = true then 1 else 0) := rfl
    have hh := hs_0 s (k := k) (by omega)
    show Int32.toInt (bd_X9_tellMembers_9 s (nI (0 + k)) t).1 = (pcn (k + 1) s : Int)
    rw [bd_X9_tellMembers_9, e]
    have nn : nI (0 + k) = nI k := by rw [Nat.zero_add]
    rw [nn]
    by_cases c : ((s >>> (nI k &&& 31)) &&& 1) = 0
    · rw [if_pos c, j_X9_tellMembers_31, hh.mp c]
      exact hR
    · have hb : bt s k = true := by
        cases hx : bt s k
        · exact absurd (hh.mpr hx) c
        · rfl
      have k1 : ¬ (16 : Int32) <= t.1 := fun e => by have := (aAO _ _).mp e; omega
      have a := aAD t.1 1 (by omega)
      rw [if_neg c, j_X9_tellMembers_31, hb, F_X6_add, if_neg k1]
      show Int32.toInt (t.1 + 1) = ((pcn k s + 1 : Nat) : Int)
      omega)
  have key : Int32.toInt (itr (bd_X9_tellMembers_9 s) (F_X6_clear rs, rn) 0 8).1 = (pcn 8 s : Int) := key
  rw [F_X9_tellMembers, ex_X9_tellMembers_9, z]
  exact key
theorem tm_b {s rs : Int32} {rn : Nat -> Int32} (h : 0 <= s.toInt /\ s.toInt <= 255) : (F_X9_tellMembers s rs rn).1 = aLS s := by
  refine i32 ?_
  have q := bt_lt s 8 (by show 0 <= s.toInt /\ s.toInt < 256; omega)
  have e := pcn_ext (n := 8) (fun k hk => q k hk) 8
  rw [tm_c, bc_v (by omega)]
  have e : pcn 16 s = pcn 8 s := e
  rw [e]
section QE
variable {fr sd ap ba gr br la he td cl : Int32} {x h w r ft fk mx mh mw mr mf mk st told now : Nat -> Int32}
theorem lh_sub {a mwd : Int32} {hand : Nat -> Int32} : (F_X10_layHands_ a fr sd mwd now mx mh mr mf mk told hand).1 &&& (F_X10_handOf (F_X10_allStandings sd) sd (F_X10_layHands_ a fr sd mwd now mx mh mr mf mk told hand).2 ^^^ (-1)) = 0 := by
  rw [F_X10_layHands_, ex_X10_layHands__2]
  exact and_sub
theorem fewest_eq (T : TR fr sd x h w r ft fk mx mh mw mr mf mk) (hst2 : ∀ k : Nat, k < 5 -> st k = told k) (hm : MR fr sd ap ba gr br la he td now) {fr9 sd9 th rs rm pw mwd : Int32} {rn row pn hand : Nat -> Int32} (e1 : fr9 = fr) (e2 : sd9 = sd) : (F_X9_fewest pw pn fr9 sd9 x h r ft fk st ap ba gr he td rs rn).1 = (F_X10_fewest fr sd rm th mwd now mx mh mr mf mk told row hand).1 := by
  subst e1 e2
  have bd := T.2.2.2.1
  rw [F_X9_fewest, F_X10_fewest]
  obtain ⟨q1, q2⟩ := look_e T hst2 hm (pw := pw) (pn := pn) (mwd := mwd) (hand := hand)
  show (F_X9_tellMembers (F_X5_smallestCover (F_X5_look pw pn fr9 sd9 x h r ft fk st ap ba gr he td).1 (F_X10_allStandings sd9) (F_X5_look pw pn fr9 sd9 x h r ft fk st ap ba gr he td).2 sd9) rs rn).1 = (F_X10_tellCover (bBY fr9 sd9 mwd now mx mh mr mf mk told hand).1 sd9 rm row (bBY fr9 sd9 mwd now mx mh mr mf mk told hand).2).1
  obtain ⟨c1, c2, c3⟩ := cov_eq (G := (bBY fr9 sd9 mwd now mx mh mr mf mk told hand).1) bd q2 (lh_sub (a := now (18 : Int32).toNatClampNeg))
  rw [q1, tm_b c1, c3, F_X10_tellCover, ex_X10_tellCover_13]
theorem helps_eq (T : TR fr sd x h w r ft fk mx mh mw mr mf mk) (hst2 : ∀ k : Nat, k < 5 -> st k = told k) (hm : MR fr sd ap ba gr br la he td now) {fr9 sd9 th rs rm pw mwd : Int32} {rn row pn hand : Nat -> Int32} (e1 : fr9 = fr) (e2 : sd9 = sd) : (F_X9_helps pw pn fr9 sd9 x h r ft fk st ap ba gr td rs rn).1 = (F_X10_helps fr sd rm th mwd now mx mh mr mf mk told row hand).1 := by
  subst e1 e2
  have bd := T.2.2.2.1
  rw [F_X9_helps, F_X10_helps]
  have A := look_eq T hst2 hm 0 (pw := pw) (pn := pn) (mwd := mwd) (hand := hand)
  have B := look_eq T hst2 hm 1 (pw := (F_X5_lookAs 0 td pw pn fr9 sd9 x h r ft fk st ap ba gr).1) (pn := (F_X5_lookAs 0 td pw pn fr9 sd9 x h r ft fk st ap ba gr).2) (mwd := (F_X10_layHands_ 0 fr9 sd9 mwd now mx mh mr mf mk told hand).1) (hand := (F_X10_layHands_ 0 fr9 sd9 mwd now mx mh mr mf mk told hand).2)
  have c1 := (cov_eq bd A.2 (lh_sub (a := 0) (fr := fr9) (mwd := mwd) (now := now) (mx := mx) (mh := mh) (mr := mr) (mf := mf) (mk := mk) (told := told))).2.2
  have c2 := (cov_eq bd B.2 (lh_sub (a := 1) (fr := fr9) (now := now) (mx := mx) (mh := mh) (mr := mr) (mf := mf) (mk := mk) (told := told))).2.2
  show aLS (F_X5_smallestCover _ (F_X10_allStandings sd9) _ sd9) - aLS (F_X5_smallestCover _ (F_X10_allStandings sd9) _ sd9) = _ - _
  rw [B.1, c2, A.1, c1]
end QE
/-! fits -/
theorem aF_b : ∀ n, n < 17 -> ∀ j, j < 32 -> bt (((1 : Int32) <<< (nI n &&& 31)) - 1) j = decide (j < n) := by decide +kernel
theorem aF_t : ∀ n, n < 17 -> Int32.toInt (((1 : Int32) <<< (nI n &&& 31)) - 1) = ((2 ^ n : Nat) : Int) - 1 := by decide +kernel
theorem aF_in {p fr : Int32} (bf : 0 <= fr.toInt /\ fr.toInt <= 16) : (p &&& (F_X10_allFruits fr ^^^ (-1)) = 0 /\ aUe p 0 (F_X10_allFruits fr) = 1) \/ (¬ p &&& (F_X10_allFruits fr ^^^ (-1)) = 0 /\ aUe p 0 (F_X10_allFruits fr) = 0) := by
  have l0 : Int32.toInt (0 : Int32) = 0 := by decide
  have e := tp_nI bf.1
  have t : Int32.toInt (F_X10_allFruits fr) = ((2 ^ fr.toInt.toNat : Nat) : Int) - 1 := by
    have q := aF_t fr.toInt.toNat (by omega)
    rw [<- e] at q
    exact q
  have b : ∀ j, j < 32 -> bt (F_X10_allFruits fr) j = decide (j < fr.toInt.toNat) := by
    intro j hj
    have q := aF_b fr.toInt.toNat (by omega) j hj
    rw [<- e] at q
    exact q
  by_cases c : p &&& (F_X10_allFruits fr ^^^ (-1)) = 0
  · have hb : ∀ j : Nat, fr.toInt.toNat <= j -> bt p j = false := by
      intro j hj
      by_cases h32 : j < 32
      · cases hp : bt p j
        · rfl
        · have q := sub_bt.mp c j h32 hp
          rw [b j h32, decide_eq_false (by omega)] at q
          exact absurd q (by decide)
      · exact bt_ge _ _ (by omega)
    have r := bt_bound p fr.toInt.toNat (by omega) hb
    refine Or.inl ⟨c, ?_⟩
    rcases in01 p 0 (F_X10_allFruits fr) with ⟨_, q⟩ | ⟨q, _⟩
    · exfalso; omega
    · exact q
  · refine Or.inr ⟨c, ?_⟩
    rcases in01 p 0 (F_X10_allFruits fr) with ⟨q, _⟩ | ⟨_, q1, q2⟩
    · exact q
    · exfalso
      have hb := bt_lt p fr.toInt.toNat (by omega)
      refine c (sub_bt.mpr (fun j hj hp => ?_))
      rw [b j hj]
      refine decide_eq_true ?_
      rcases Nat.lt_or_ge j fr.toInt.toNat with h | h
      · exact h
      · rw [hb j h] at hp; exact absurd hp (by decide)
theorem fit_v {c X sd : Int32} {near : Nat -> Int32} (bd : 0 <= sd.toInt /\ sd.toInt <= 8) : (F_X5_isFitting c X near sd = 0 ↔ ¬ ((∀ k : Nat, k < sd.toInt.toNat -> bt c k = true -> ¬ near k &&& X = 0) /\ X &&& (F_X5_reachedBy c near sd ^^^ (-1)) = 0)) := by
  have l1 : Int32.toInt (1 : Int32) = 1 := by decide
  have key : ∀ (m f : Nat) (x3 : Int32), x3.toInt + (m : Int) = sd.toInt -> 0 <= x3.toInt -> m < f -> (flp (fs_X5_isFitting_2 (fun o0 => o0) near sd) (fun _ _ _ => 0) f c X x3 = 0 ↔ ¬ ((∀ k : Nat, x3.toInt.toNat <= k -> k < sd.toInt.toNat -> bt c k = true -> ¬ near k &&& X = 0) /\ X &&& (F_X5_reachedBy c near sd ^^^ (-1)) = 0)) := by
    intro m
    induction m with
    | zero =>
      intro f x3 hx h0 hf
      obtain ⟨g, rfl⟩ : ∃ g, f = g + 1 := ⟨f - 1, by omega⟩
      have k1 : sd <= x3 := (aAO _ _).mpr (by omega)
      rw [flp_s, fs_X5_isFitting_2, if_pos k1]
      by_cases q : X &&& (F_X5_reachedBy c near sd ^^^ (-1)) = 0
      · rw [if_pos q]
        exact ⟨fun e => absurd e n10, fun e => absurd ⟨fun k a b => by exfalso; omega, q⟩ e⟩
      · rw [if_neg q]
        exact ⟨fun _ e => q e.2, fun _ => rfl⟩
    | succ m ih =>
      intro f x3 hx h0 hf
      obtain ⟨g, rfl⟩ : ∃ g, f = g + 1 := ⟨f - 1, by omega⟩
      have k1 : ¬ sd <= x3 := fun e => by have := (aAO _ _).mp e; omega
      have ax := aAD x3 1 (by omega)
      have hh := hs_i c (f := x3) (by omega)
      have ec := cl_n x3
      have q := ih g (x3 + 1) (by omega) (by omega) (by omega)
      have ex : (x3 + 1).toInt.toNat = x3.toInt.toNat + 1 := by omega
      rw [ex] at q
      rw [flp_s, fs_X5_isFitting_2, if_neg k1]
      by_cases c1 : ((c >>> (x3 &&& 31)) &&& 1) = 0
      · rw [if_pos c1, j_X5_isFitting_34, q]
        have b := hh.mp c1
        refine not_congr (and_congr_left (fun _ => ⟨fun e k a a2 a3 => ?_, fun e k a a2 a3 => e k (by omega) a2 a3⟩))
        by_cases ek : k = x3.toInt.toNat
        · rw [ek, b] at a3; exact absurd a3 (by decide)
        · exact e k (by omega) a2 a3
      · have b : bt c x3.toInt.toNat = true := by
          cases hx : bt c x3.toInt.toNat
          · exact absurd (hh.mpr hx) c1
          · rfl
        rw [if_neg c1, ec]
        by_cases c2 : near x3.toInt.toNat &&& X = 0
        · rw [if_pos c2]
          exact ⟨fun _ e => e.1 x3.toInt.toNat (Nat.le_refl _) (by omega) b c2, fun _ => rfl⟩
        · rw [if_neg c2, j_X5_isFitting_34, q]
          refine not_congr (and_congr_left (fun _ => ⟨fun e k a a2 a3 => ?_, fun e k a a2 a3 => e k (by omega) a2 a3⟩))
          by_cases ek : k = x3.toInt.toNat
          · rw [ek]; exact c2
          · exact e k (by omega) a2 a3
  have z : Int32.toInt (0 : Int32) = 0 := by decide
  have q := key sd.toInt.toNat 9 0 (by omega) (by omega) (by omega)
  rw [F_X5_isFitting, q]
  refine not_congr (and_congr_left (fun _ => ⟨fun e k a b => e k (by omega) a b, fun e k _ a b => e k a b⟩))
section QK
variable {fr sd ap ba gr br la he td cl : Int32} {x h w r ft fk mx mh mw mr mf mk st told now : Nat -> Int32}
theorem fits_eq (T : TR fr sd x h w r ft fk mx mh mw mr mf mk) (hst2 : ∀ k : Nat, k < 5 -> st k = told k) (hm : MR fr sd ap ba gr br la he td now) {p p' fr9 sd9 th rs rm pw mwd : Int32} {rn row pn hand : Nat -> Int32} (hp : p' = p) (e1 : fr9 = fr) (e2 : sd9 = sd) : (F_X9_fits p pw pn fr9 sd9 x h r ft fk st ap ba gr he td rs rn).1 = (F_X10_fits p' fr sd rm th mwd now mx mh mr mf mk told row hand).1 := by
  subst hp e1 e2
  have bd := T.2.2.2.1
  have bf := T.2.2.1
  have e9 : F_X3_allFruits fr9 = F_X10_allFruits fr9 := rfl
  rw [F_X9_fits, F_X10_fits, e9]
  rcases aF_in (p := p') bf with ⟨a, b⟩ | ⟨a, b⟩
  · rw [if_pos a, if_neg (neg1 b)]
    obtain ⟨q1, q2⟩ := look_e T hst2 hm (pw := pw) (pn := pn) (mwd := mwd) (hand := hand)
    obtain ⟨A, hA⟩ : ∃ l, l = F_X5_look pw pn fr9 sd9 x h r ft fk st ap ba gr he td := ⟨_, rfl⟩
    obtain ⟨B, hB⟩ : ∃ l, l = bBY fr9 sd9 mwd now mx mh mr mf mk told hand := ⟨_, rfl⟩
    rw [<- hA, <- hB] at q1 q2
    rw [<- hA, <- hB, ex_X9_fits_33, ex_X10_fits_27, ex_X10_fits_73]
    have z1 : (Int32.toInt sd9 - ((0 : Nat) : Int)).toNat = sd9.toInt.toNat := by omega
    have ub := itr_bt (f := bd_X10_fits_27 fr9 sd9 now mx mh mr mf mk told p' rm 0 B.1 row B.2) (c := fun k => decide (¬ B.2 k &&& p' = 0)) sd9.toInt.toNat (by omega) (fun k s hk => by
      have i := nI_0c (k := k) (by omega)
      rw [bd_X10_fits_27, i.1, j_X10_fits_54, j_X10_fits_54]
      by_cases c : B.2 k &&& p' = 0
      · rw [if_pos c, or0, if_neg (by rw [decide_eq_true_eq]; exact fun e => e c)]
      · rw [if_neg c, if_pos (decide_eq_true c)])
    rw [z1]
    obtain ⟨U, hU⟩ : ∃ u, u = itr (bd_X10_fits_27 fr9 sd9 now mx mh mr mf mk told p' rm 0 B.1 row B.2) 0 0 sd9.toInt.toNat := ⟨_, rfl⟩
    rw [<- hU] at ub ⊢
    have key := itr_rel (i := 0) (f := bd_X9_fits_33 fr9 sd9 x h r ft fk st ap ba gr he td p' A.1 A.2 rs rn) (g := bd_X10_fits_73 fr9 sd9 now mx mh mr mf mk told p' U rm 0 B.1 row B.2) (a := ((0 : Int32), (-1 : Int32), (-1 : Int32))) (b := ((0 : Int32), (-1 : Int32), (-1 : Int32))) (fun (_ : Nat) (s t : Int32 × Int32 × Int32) => s.1 = t.1) rfl (Int32.toInt (F_X10_allStandings sd9) + 1 - ((0 : Nat) : Int)).toNat (fun k s t hk hR => by
      have hR : s.1 = t.1 := hR
      have ga := as_255 bd
      have i := nI_0c (k := k) (by omega)
      have sub := all_sub bd (S := nI (0 + k)) (by omega)
      have f9 : (bd_X9_fits_33 fr9 sd9 x h r ft fk st ap ba gr he td p' A.1 A.2 rs rn (nI (0 + k)) s).1 = if F_X5_isFitting (nI (0 + k)) p' A.2 sd9 = 0 then s.1 else s.1 + 1 := by
        rw [bd_X9_fits_33]
        by_cases c : F_X5_isFitting (nI (0 + k)) p' A.2 sd9 = 0
        · rw [if_pos c, if_pos c, j_X9_fits_104]
        · have e81 : ∀ a b : Int32, (j_X9_fits_81 (fun q0 q1 q2 q3 q4 q5 q6 q7 q8 => (q1, q2, q3)) fr9 sd9 x h r ft fk st ap ba gr he td p' (s.1 + 1) a b (nI (0 + k)) A.1 A.2 rs rn).1 = s.1 + 1 := by
            intro a b
            rw [j_X9_fits_81, j_X9_fits_100, j_X9_fits_104, j_X9_fits_104]
            by_cases g : b = -1
            · rw [if_pos g]
            · rw [if_neg g]
              by_cases g2 : aLS (nI (0 + k)) <= aLS b
              · rw [if_pos g2]
              · rw [if_neg g2]
          rw [if_neg c, if_neg c, j_X9_fits_78]
          by_cases g : s.2.1 = -1
          · rw [if_pos g]; exact e81 _ _
          · rw [if_neg g]
            by_cases g2 : aLS s.2.1 <= aLS (nI (0 + k))
            · rw [if_pos g2]; exact e81 _ _
            · rw [if_neg g2]; exact e81 _ _
      have f10 : (bd_X10_fits_73 fr9 sd9 now mx mh mr mf mk told p' U rm 0 B.1 row B.2 (nI (0 + k)) t).1 = if nI (0 + k) &&& (U ^^^ (-1)) = 0 /\ p' &&& (F_X10_handOf (nI (0 + k)) sd9 B.2 ^^^ (-1)) = 0 then t.1 + 1 else t.1 := by
        rw [bd_X10_fits_73]
        by_cases c : nI (0 + k) &&& (U ^^^ (-1)) = 0
        · rw [if_pos c]
          by_cases c2 : p' &&& (F_X10_handOf (nI (0 + k)) sd9 B.2 ^^^ (-1)) = 0
          · have e133 : ∀ a b : Int32, (j_X10_fits_133 (fun q0 q1 q2 q3 q4 q5 q6 q7 q8 q9 q10 => (q2, q3, q4)) fr9 sd9 now mx mh mr mf mk told p' U (t.1 + 1) a b (nI (0 + k)) rm 0 B.1 row B.2).1 = t.1 + 1 := by
              intro a b
              rw [j_X10_fits_133, j_X10_fits_152, j_X10_fits_156, j_X10_fits_156]
              by_cases g : b = -1
              · rw [if_pos g]
              · rw [if_neg g]
                by_cases g2 : aLS (nI (0 + k)) <= aLS b
                · rw [if_pos g2]
                · rw [if_neg g2]
            have cc : nI (0 + k) &&& (U ^^^ (-1)) = 0 /\ p' &&& (F_X10_handOf (nI (0 + k)) sd9 B.2 ^^^ (-1)) = 0 := ⟨c, c2⟩
            rw [if_pos c2, if_pos cc, j_X10_fits_129]
            by_cases g : t.2.1 = -1
            · rw [if_pos g]; exact e133 _ _
            · rw [if_neg g]
              by_cases g2 : aLS t.2.1 <= aLS (nI (0 + k))
              · rw [if_pos g2]; exact e133 _ _
              · rw [if_neg g2]; exact e133 _ _
          · rw [if_neg c2, if_neg (fun e => c2 e.2), j_X10_fits_156]
        · rw [if_neg c, if_neg (fun e => c e.1), j_X10_fits_156]
      have iff9 := fit_v (c := nI (0 + k)) (X := p') (near := A.2) bd
      have same : (∀ j : Nat, j < sd9.toInt.toNat -> bt (nI (0 + k)) j = true -> ¬ A.2 j &&& p' = 0) ↔ nI (0 + k) &&& (U ^^^ (-1)) = 0 := by
        rw [sub_bt]
        refine ⟨fun e j hj hb => ?_, fun e j hj hb c => ?_⟩
        · have g := sub_bt.mp sub j hj hb
          rw [as_bt bd, decide_eq_true_eq] at g
          rw [ub j, decide_eq_true g, Bool.true_and]
          refine decide_eq_true ?_
          rw [<- q2 j (by omega)]
          exact e j g hb
        · have g := e j (by omega) hb
          rw [ub j, decide_eq_true hj, Bool.true_and, decide_eq_true_eq] at g
          rw [q2 j (by omega)] at c
          exact g c
      show (bd_X9_fits_33 fr9 sd9 x h r ft fk st ap ba gr he td p' A.1 A.2 rs rn (nI (0 + k)) s).1 = (bd_X10_fits_73 fr9 sd9 now mx mh mr mf mk told p' U rm 0 B.1 row B.2 (nI (0 + k)) t).1
      rw [f9, f10, hR]
      by_cases c : F_X5_isFitting (nI (0 + k)) p' A.2 sd9 = 0
      · rw [if_pos c, if_neg (fun e => iff9.mp c ⟨same.mpr e.1, by rw [rb_eq bd q2]; exact e.2⟩)]
      · have g : (∀ j : Nat, j < sd9.toInt.toNat -> bt (nI (0 + k)) j = true -> ¬ A.2 j &&& p' = 0) /\ p' &&& (F_X5_reachedBy (nI (0 + k)) A.2 sd9 ^^^ (-1)) = 0 := Classical.byContradiction (fun e => c (iff9.mpr e))
        rw [if_neg c, if_pos ⟨same.mp g.1, by rw [<- rb_eq bd q2]; exact g.2⟩])
    exact key
  · rw [if_neg a, if_pos b]
end QK
