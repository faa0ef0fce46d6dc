theorem du_X9_orchard {P Q : Int32 → Int32 → Int32 → Int32 → Int32 → Int32 → Int32 → Int32 → (Nat → Int32) → (Nat → Int32) → (Nat → Int32) → (Nat → Int32) → (Nat → Int32) → (Nat → Int32) → Int32 → (Nat → Int32) → Prop} {tx_length : Int32} {tx_place : Int32} {tx_stop : Int32} {tx_signs : Nat → Int32} {tr_fruits : Int32} {tr_standings : Int32} {tr_comingFruits : Int32} {tr_comingStandings : Int32} {tr_x : Nat → Int32} {tr_height : Nat → Int32} {tr_worth : Nat → Int32} {tr_ripe : Nat → Int32} {tr_foot : Nat → Int32} {tr_fork : Nat → Int32} {pa_undoable : Int32} {pa_isKept : Nat → Int32} (h : wp_X9_orchard P tx_length tx_place tx_stop tx_signs tr_fruits tr_standings tr_comingFruits tr_comingStandings tr_x tr_height tr_worth tr_ripe tr_foot tr_fork pa_undoable pa_isKept) (hq : P (F_X9_orchard tx_length tx_place tx_stop tx_signs tr_fruits tr_standings tr_comingFruits tr_comingStandings tr_x tr_height tr_worth tr_ripe tr_foot tr_fork pa_undoable pa_isKept).1 (F_X9_orchard tx_length tx_place tx_stop tx_signs tr_fruits tr_standings tr_comingFruits tr_comingStandings tr_x tr_height tr_worth tr_ripe tr_foot tr_fork pa_undoable pa_isKept).2.1 (F_X9_orchard tx_length tx_place tx_stop tx_signs tr_fruits tr_standings tr_comingFruits tr_comingStandings tr_x tr_height tr_worth tr_ripe tr_foot tr_fork pa_undoable pa_isKept).2.2.1 (F_X9_orchard tx_length tx_place tx_stop tx_signs tr_fruits tr_standings tr_comingFruits tr_comingStandings tr_x tr_height tr_worth tr_ripe tr_foot tr_fork pa_undoable pa_isKept).2.2.2.1 (F_X9_orchard tx_length tx_place tx_stop tx_signs tr_fruits tr_standings tr_comingFruits tr_comingStandings tr_x tr_height tr_worth tr_ripe tr_foot tr_fork pa_undoable pa_isKept).2.2.2.2.1 (F_X9_orchard tx_length tx_place tx_stop tx_signs tr_fruits tr_standings tr_comingFruits tr_comingStandings tr_x tr_height tr_worth tr_ripe tr_foot tr_fork pa_undoable pa_isKept).2.2.2.2.2.1 (F_X9_orchard tx_length tx_place tx_stop tx_signs tr_fruits tr_standings tr_comingFruits tr_comingStandings tr_x tr_height tr_worth tr_ripe tr_foot tr_fork pa_undoable pa_isKept).2.2.2.2.2.2.1 (F_X9_orchard tx_length tx_place tx_stop tx_signs tr_fruits tr_standings tr_comingFruits tr_comingStandings tr_x tr_height tr_worth tr_ripe tr_foot tr_fork pa_undoable pa_isKept).2.2.2.2.2.2.2.1 (F_X9_orchard tx_length tx_place tx_stop tx_signs tr_fruits tr_standings tr_comingFruits tr_comingStandings tr_x tr_height tr_worth tr_ripe tr_foot tr_fork pa_undoable pa_isKept).2.2.2.2.2.2.2.2.1 (F_X9_orchard tx_length tx_place tx_stop tx_signs tr_fruits tr_standings tr_comingFruits tr_comingStandings tr_x tr_height tr_worth tr_ripe tr_foot tr_fork pa_undoable pa_isKept).2.2.2.2.2.2.2.2.2.1 (F_X9_orchard tx_length tx_place tx_stop tx_signs tr_fruits tr_standings tr_comingFruits tr_comingStandings tr_x tr_height tr_worth tr_ripe tr_foot tr_fork pa_undoable pa_isKept).2.2.2.2.2.2.2.2.2.2.1 (F_X9_orchard tx_length tx_place tx_stop tx_signs tr_fruits tr_standings tr_comingFruits tr_comingStandings tr_x tr_height tr_worth tr_ripe tr_foot tr_fork pa_undoable pa_isKept).2.2.2.2.2.2.2.2.2.2.2.1 (F_X9_orchard tx_length tx_place tx_stop tx_signs tr_fruits tr_standings tr_comingFruits tr_comingStandings tr_x tr_height tr_worth tr_ripe tr_foot tr_fork pa_undoable pa_isKept).2.2.2.2.2.2.2.2.2.2.2.2.1 (F_X9_orchard tx_length tx_place tx_stop tx_signs tr_fruits tr_standings tr_comingFruits tr_comingStandings tr_x tr_height tr_worth tr_ripe tr_foot tr_fork pa_undoable pa_isKept).2.2.2.2.2.2.2.2.2.2.2.2.2.1 (F_X9_orchard tx_length tx_place tx_stop tx_signs tr_fruits tr_standings tr_comingFruits tr_comingStandings tr_x tr_height tr_worth tr_ripe tr_foot tr_fork pa_undoable pa_isKept).2.2.2.2.2.2.2.2.2.2.2.2.2.2.1 (F_X9_orchard tx_length tx_place tx_stop tx_signs tr_fruits tr_standings tr_comingFruits tr_comingStandings tr_x tr_height tr_worth tr_ripe tr_foot tr_fork pa_undoable pa_isKept).2.2.2.2.2.2.2.2.2.2.2.2.2.2.2 → Q (F_X9_orchard tx_length tx_place tx_stop tx_signs tr_fruits tr_standings tr_comingFruits tr_comingStandings tr_x tr_height tr_worth tr_ripe tr_foot tr_fork pa_undoable pa_isKept).1 (F_X9_orchard tx_length tx_place tx_stop tx_signs tr_fruits tr_standings tr_comingFruits tr_comingStandings tr_x tr_height tr_worth tr_ripe tr_foot tr_fork pa_undoable pa_isKept).2.1 (F_X9_orchard tx_length tx_place tx_stop tx_signs tr_fruits tr_standings tr_comingFruits tr_comingStandings tr_x tr_height tr_worth tr_ripe tr_foot tr_fork pa_undoable pa_isKept).2.2.1 (F_X9_orchard tx_length tx_place tx_stop tx_signs tr_fruits tr_standings tr_comingFruits tr_comingStandings tr_x tr_height tr_worth tr_ripe tr_foot tr_fork pa_undoable pa_isKept).2.2.2.1 (F_X9_orchard tx_length tx_place tx_stop tx_signs tr_fruits tr_standings tr_comingFruits tr_comingStandings tr_x tr_height tr_worth tr_ripe tr_foot tr_fork pa_undoable pa_isKept).2.2.2.2.1 (F_X9_orchard tx_length tx_place tx_stop tx_signs tr_fruits tr_standings tr_comingFruits tr_comingStandings tr_x tr_height tr_worth tr_ripe tr_foot tr_fork pa_undoable pa_isKept).2.2.2.2.2.1 (F_X9_orchard tx_length tx_place tx_stop tx_signs tr_fruits tr_standings tr_comingFruits tr_comingStandings tr_x tr_height tr_worth tr_ripe tr_foot tr_fork pa_undoable pa_isKept).2.2.2.2.2.2.1 (F_X9_orchard tx_length tx_place tx_stop tx_signs tr_fruits tr_standings tr_comingFruits tr_comingStandings tr_x tr_height tr_worth tr_ripe tr_foot tr_fork pa_undoable pa_isKept).2.2.2.2.2.2.2.1 (F_X9_orchard tx_length tx_place tx_stop tx_signs tr_fruits tr_standings tr_comingFruits tr_comingStandings tr_x tr_height tr_worth tr_ripe tr_foot tr_fork pa_undoable pa_isKept).2.2.2.2.2.2.2.2.1 (F_X9_orchard tx_length tx_place tx_stop tx_signs tr_fruits tr_standings tr_comingFruits tr_comingStandings tr_x tr_height tr_worth tr_ripe tr_foot tr_fork pa_undoable pa_isKept).2.2.2.2.2.2.2.2.2.1 (F_X9_orchard tx_length tx_place tx_stop tx_signs tr_fruits tr_standings tr_comingFruits tr_comingStandings tr_x tr_height tr_worth tr_ripe tr_foot tr_fork pa_undoable pa_isKept).2.2.2.2.2.2.2.2.2.2.1 (F_X9_orchard tx_length tx_place tx_stop tx_signs tr_fruits tr_standings tr_comingFruits tr_comingStandings tr_x tr_height tr_worth tr_ripe tr_foot tr_fork pa_undoable pa_isKept).2.2.2.2.2.2.2.2.2.2.2.1 (F_X9_orchard tx_length tx_place tx_stop tx_signs tr_fruits tr_standings tr_comingFruits tr_comingStandings tr_x tr_height tr_worth tr_ripe tr_foot tr_fork pa_undoable pa_isKept).2.2.2.2.2.2.2.2.2.2.2.2.1 (F_X9_orchard tx_length tx_place tx_stop tx_signs tr_fruits tr_standings tr_comingFruits tr_comingStandings tr_x tr_height tr_worth tr_ripe tr_foot tr_fork pa_undoable pa_isKept).2.2.2.2.2.2.2.2.2.2.2.2.2.1 (F_X9_orchard tx_length tx_place tx_stop tx_signs tr_fruits tr_standings tr_comingFruits tr_comingStandings tr_x tr_height tr_worth tr_ripe tr_foot tr_fork pa_undoable pa_isKept).2.2.2.2.2.2.2.2.2.2.2.2.2.2.1 (F_X9_orchard tx_length tx_place tx_stop tx_signs tr_fruits tr_standings tr_comingFruits tr_comingStandings tr_x tr_height tr_worth tr_ripe tr_foot tr_fork pa_undoable pa_isKept).2.2.2.2.2.2.2.2.2.2.2.2.2.2.2) : wp_X9_orchard Q tx_length tx_place tx_stop tx_signs tr_fruits tr_standings tr_comingFruits tr_comingStandings tr_x tr_height tr_worth tr_ripe tr_foot tr_fork pa_undoable pa_isKept := dt_X9_orchard h (fun o eo => by rw [eo]; exact hq)
theorem dw_X9_orchard {Q : Int32 → Int32 → Int32 → Int32 → Int32 → Int32 → Int32 → Int32 → (Nat → Int32) → (Nat → Int32) → (Nat → Int32) → (Nat → Int32) → (Nat → Int32) → (Nat → Int32) → Int32 → (Nat → Int32) → Prop} {tx_length : Int32} {tx_place : Int32} {tx_stop : Int32} {tx_signs : Nat → Int32} {tr_fruits : Int32} {tr_standings : Int32} {tr_comingFruits : Int32} {tr_comingStandings : Int32} {tr_x : Nat → Int32} {tr_height : Nat → Int32} {tr_worth : Nat → Int32} {tr_ripe : Nat → Int32} {tr_foot : Nat → Int32} {tr_fork : Nat → Int32} {pa_undoable : Int32} {pa_isKept : Nat → Int32} (h : wp_X9_orchard (fun o0 o1 o2 o3 o4 o5 o6 o7 o8 o9 o10 o11 o12 o13 o14 o15 => (o0, o1, o2, o3, o4, o5, o6, o7, o8, o9, o10, o11, o12, o13, o14, o15) = F_X9_orchard tx_length tx_place tx_stop tx_signs tr_fruits tr_standings tr_comingFruits tr_comingStandings tr_x tr_height tr_worth tr_ripe tr_foot tr_fork pa_undoable pa_isKept → Q o0 o1 o2 o3 o4 o5 o6 o7 o8 o9 o10 o11 o12 o13 o14 o15) tx_length tx_place tx_stop tx_signs tr_fruits tr_standings tr_comingFruits tr_comingStandings tr_x tr_height tr_worth tr_ripe tr_foot tr_fork pa_undoable pa_isKept) : wp_X9_orchard Q tx_length tx_place tx_stop tx_signs tr_fruits tr_standings tr_comingFruits tr_comingStandings tr_x tr_height tr_worth tr_ripe tr_foot tr_fork pa_undoable pa_isKept := dt_X9_orchard h (fun o eo hp => hp eo)
noncomputable def F_X10_here (m_read : Nat) (m_length : Int32) (m_top : Int32) (m_at : Int32) (m_text : Nat → Int32) (m_rule : Nat → Int32) : Int32 := if m_length ≤ m_at then (-1) else (if m_top ≤ m_at then (-1) else (if m_read = 1 then ((m_text m_at.toNatClampNeg) &&& 255) else ((m_rule m_at.toNatClampNeg) &&& 255)))
set_option maxHeartbeats 200000 in
set_option maxRecDepth 10000 in
theorem dt_X10_here {P Q : Int32 → Prop} {m_read : Nat} {m_length : Int32} {m_top : Int32} {m_at : Int32} {m_text : Nat → Int32} {m_rule : Nat → Int32} (h : wp_X10_here P m_read m_length m_top m_at m_text m_rule) (hq : ∀ o : Int32, o = F_X10_here m_read m_length m_top m_at m_text m_rule → P o → Q o) : wp_X10_here Q m_read m_length m_top m_at m_text m_rule := by
  rw [F_X10_here] at hq
  refine And.intro (fun c1 => ?_) (fun c1 => ?_)
  · have h := And.left h c1
    rw [if_pos c1] at hq
    have q9 := hq _ rfl
    exact q9 h
  · have h := And.right h c1
    rw [if_neg c1] at hq
    refine And.intro (fun c2 => ?_) (fun c2 => ?_)
    · have h := And.left h c2
      rw [if_pos c2] at hq
      have q9 := hq _ rfl
      exact q9 h
    · have h := And.right h c2
      rw [if_neg c2] at hq
      rcases h with ⟨hr9, hv9, h⟩ | ⟨hr9, hv9, h⟩
      · refine Or.inl ⟨hr9, hv9, ?_⟩
        rw [if_pos hr9] at hq
        refine ae ?_
        have h := h _ rfl
        refine ae ?_
        have h := h _ rfl
        have q9 := hq _ rfl
        exact q9 h
      · refine Or.inr ⟨hr9, hv9, ?_⟩
        rw [if_neg (by rw [hr9]; decide)] at hq
        refine ae ?_
        have h := h _ rfl
        refine ae ?_
        have h := h _ rfl
        have q9 := hq _ rfl
        exact q9 h
theorem du_X10_here {P Q : Int32 → Prop} {m_read : Nat} {m_length : Int32} {m_top : Int32} {m_at : Int32} {m_text : Nat → Int32} {m_rule : Nat → Int32} (h : wp_X10_here P m_read m_length m_top m_at m_text m_rule) (hq : P (F_X10_here m_read m_length m_top m_at m_text m_rule) → Q (F_X10_here m_read m_length m_top m_at m_text m_rule)) : wp_X10_here Q m_read m_length m_top m_at m_text m_rule := dt_X10_here h (fun o eo => by rw [eo]; exact hq)
theorem dw_X10_here {Q : Int32 → Prop} {m_read : Nat} {m_length : Int32} {m_top : Int32} {m_at : Int32} {m_text : Nat → Int32} {m_rule : Nat → Int32} (h : wp_X10_here (fun o0 => o0 = F_X10_here m_read m_length m_top m_at m_text m_rule → Q o0) m_read m_length m_top m_at m_text m_rule) : wp_X10_here Q m_read m_length m_top m_at m_text m_rule := dt_X10_here h (fun o eo hp => hp eo)
noncomputable def F_X10_fine (m_wrong : Int32) : Int32 := if m_wrong = (-1) then 1 else 0
set_option maxHeartbeats 200000 in
set_option maxRecDepth 10000 in
theorem dt_X10_fine {P Q : Int32 → Prop} {m_wrong : Int32} (h : wp_X10_fine P m_wrong) (hq : ∀ o : Int32, o = F_X10_fine m_wrong → P o → Q o) : wp_X10_fine Q m_wrong := by
  rw [F_X10_fine] at hq
  refine And.intro (fun c1 => ?_) (fun c1 => ?_)
  · have h := And.left h c1
    rw [if_neg c1] at hq
    have q9 := hq _ rfl
    exact q9 h
  · have h := And.right h c1
    rw [if_pos c1] at hq
    have q9 := hq _ rfl
    exact q9 h
theorem du_X10_fine {P Q : Int32 → Prop} {m_wrong : Int32} (h : wp_X10_fine P m_wrong) (hq : P (F_X10_fine m_wrong) → Q (F_X10_fine m_wrong)) : wp_X10_fine Q m_wrong := dt_X10_fine h (fun o eo => by rw [eo]; exact hq)
theorem dw_X10_fine {Q : Int32 → Prop} {m_wrong : Int32} (h : wp_X10_fine (fun o0 => o0 = F_X10_fine m_wrong → Q o0) m_wrong) : wp_X10_fine Q m_wrong := dt_X10_fine h (fun o eo hp => hp eo)
noncomputable def F_X10_fault (p0 : Int32) (m_wrong : Int32) : Int32 := if (F_X10_fine m_wrong) = 0 then m_wrong else p0
set_option maxHeartbeats 200000 in
set_option maxRecDepth 10000 in
theorem dt_X10_fault {P Q : Int32 → Prop} {p0 : Int32} {m_wrong : Int32} (h : wp_X10_fault P p0 m_wrong) (hq : ∀ o : Int32, o = F_X10_fault p0 m_wrong → P o → Q o) : wp_X10_fault Q p0 m_wrong := by
  rw [F_X10_fault] at hq
  refine du_X10_fine h ?_
  intro h
  refine And.intro (fun c1 => ?_) (fun c1 => ?_)
  · have h := And.left h c1
    rw [if_pos c1] at hq
    have q9 := hq _ rfl
    exact q9 h
  · have h := And.right h c1
    rw [if_neg c1] at hq
    have q9 := hq _ rfl
    exact q9 h
theorem du_X10_fault {P Q : Int32 → Prop} {p0 : Int32} {m_wrong : Int32} (h : wp_X10_fault P p0 m_wrong) (hq : P (F_X10_fault p0 m_wrong) → Q (F_X10_fault p0 m_wrong)) : wp_X10_fault Q p0 m_wrong := dt_X10_fault h (fun o eo => by rw [eo]; exact hq)
theorem dw_X10_fault {Q : Int32 → Prop} {p0 : Int32} {m_wrong : Int32} (h : wp_X10_fault (fun o0 => o0 = F_X10_fault p0 m_wrong → Q o0) p0 m_wrong) : wp_X10_fault Q p0 m_wrong := dt_X10_fault h (fun o eo hp => hp eo)
noncomputable def F_X10_in (p0 : Int32) (p1 : Int32) (p2 : Int32) : Int32 := if p0 < p1 then 0 else (if p2 < p0 then 0 else 1)
set_option maxHeartbeats 200000 in
set_option maxRecDepth 10000 in
theorem dt_X10_in {P Q : Int32 → Prop} {p0 : Int32} {p1 : Int32} {p2 : Int32} (h : wp_X10_in P p0 p1 p2) (hq : ∀ o : Int32, o = F_X10_in p0 p1 p2 → P o → Q o) : wp_X10_in Q p0 p1 p2 := by
  rw [F_X10_in] at hq
  refine And.intro (fun c1 => ?_) (fun c1 => ?_)
  · have h := And.left h c1
    rw [if_pos c1] at hq
    have q9 := hq _ rfl
    exact q9 h
  · have h := And.right h c1
    rw [if_neg c1] at hq
    refine And.intro (fun c2 => ?_) (fun c2 => ?_)
    · have h := And.left h c2
      rw [if_pos c2] at hq
      have q9 := hq _ rfl
      exact q9 h
    · have h := And.right h c2
      rw [if_neg c2] at hq
      have q9 := hq _ rfl
      exact q9 h
theorem du_X10_in {P Q : Int32 → Prop} {p0 : Int32} {p1 : Int32} {p2 : Int32} (h : wp_X10_in P p0 p1 p2) (hq : P (F_X10_in p0 p1 p2) → Q (F_X10_in p0 p1 p2)) : wp_X10_in Q p0 p1 p2 := dt_X10_in h (fun o eo => by rw [eo]; exact hq)
theorem dw_X10_in {Q : Int32 → Prop} {p0 : Int32} {p1 : Int32} {p2 : Int32} (h : wp_X10_in (fun o0 => o0 = F_X10_in p0 p1 p2 → Q o0) p0 p1 p2) : wp_X10_in Q p0 p1 p2 := dt_X10_in h (fun o eo hp => hp eo)
noncomputable def j_X10_number_66 {R : Type} (po : Int32 → Int32 → Int32 → R) (m_read : Nat) (m_length : Int32) (m_top : Int32) (m_text : Nat → Int32) (m_rule : Nat → Int32) (x2 : Int32) (x3 : Int32) (m_at : Int32) (m_wrong : Int32) : R := if m_at = x2 then (po x3 m_at (F_X10_fault m_at m_wrong)) else (po x3 m_at m_wrong)
noncomputable def fs_X10_number_16 {R : Type} (po : Int32 → Int32 → Int32 → R) (m_read : Nat) (m_length : Int32) (m_top : Int32) (m_text : Nat → Int32) (m_rule : Nat → Int32) (nx : Int32 → Int32 → Int32 → Int32 → Int32 → R) (x1 : Int32) (x2 : Int32) (x3 : Int32) (m_at : Int32) (m_wrong : Int32) : R := if (x2 + x1) ≤ m_at then (j_X10_number_66 po m_read m_length m_top m_text m_rule x2 x3 m_at m_wrong) else (if (F_X10_in (F_X10_here m_read m_length m_top m_at m_text m_rule) 48 57) = 0 then (j_X10_number_66 po m_read m_length m_top m_text m_rule x2 x3 m_at m_wrong) else (nx x1 x2 (((10 * x3) + (F_X10_here m_read m_length m_top m_at m_text m_rule)) - 48) (m_at + 1) m_wrong))
set_option maxHeartbeats 200000 in
set_option maxRecDepth 10000 in
theorem dl_X10_number_16 {P Q : Int32 → Int32 → Int32 → Prop} {m_read : Nat} {m_length : Int32} {m_top : Int32} {m_text : Nat → Int32} {m_rule : Nat → Int32} {R : Type} {po : Int32 → Int32 → Int32 → R} {d : Int32 → Int32 → Int32 → Int32 → Int32 → R} : ∀ (n m : Nat) (x1 : Int32) (x2 : Int32) (x3 : Int32) (m_at : Int32) (m_wrong : Int32), True → (((Int32.toInt (x2 + x1) - Int32.toInt m_at).toNat : Nat) : Int) < (m : Int) → wb_X10_number_16 P m_read m_length m_top m_text m_rule n x1 x2 x3 m_at m_wrong → (∀ (b0 : Int32) (b1 : Int32) (b2 : Int32), po b0 b1 b2 = flp (fs_X10_number_16 po m_read m_length m_top m_text m_rule) d m x1 x2 x3 m_at m_wrong → P b0 b1 b2 → Q b0 b1 b2) → wb_X10_number_16 Q m_read m_length m_top m_text m_rule n x1 x2 x3 m_at m_wrong := by
  have l1 : Int32.toInt (1 : Int32) = 1 := by decide
  intro n
  induction n with
  | zero => intro m x1 x2 x3 m_at m_wrong hv hm h hq; exact False.elim h
  | succ n ih =>
    intro m x1 x2 x3 m_at m_wrong hv hm h hq
    cases m with
    | zero => exfalso; omega
    | succ m =>
      rw [flp_s, fs_X10_number_16] at hq
      have h : ws_X10_number_16 P (wb_X10_number_16 P m_read m_length m_top m_text m_rule n) m_read m_length m_top m_text m_rule x1 x2 x3 m_at m_wrong := h
      show ws_X10_number_16 Q (wb_X10_number_16 Q m_read m_length m_top m_text m_rule n) m_read m_length m_top m_text m_rule x1 x2 x3 m_at m_wrong
      unfold ws_X10_number_16 at h ⊢
      refine And.intro (fun c1 => ?_) (fun c1 => ?_)
      · have h := And.left h c1
        rw [if_pos c1] at hq
        have dc1 := (fa_le _ _).mp c1
        rw [j_X10_number_66] at hq
        unfold ws_X10_number_66 at h ⊢
        refine And.intro (fun c2 => ?_) (fun c2 => ?_)
        · have h := And.left h c2
          rw [if_neg c2] at hq
          have dc2 := mt (fa_eq _ _).mpr c2
          exact hq _ _ _ rfl h
        · have h := And.right h c2
          rw [if_pos c2] at hq
          have dc2 := (fa_eq _ _).mp c2
          refine du_X10_fault h ?_
          intro h
          exact hq _ _ _ rfl h
      · have h := And.right h c1
        rw [if_neg c1] at hq
        have dc1 := mt (fa_le _ _).mpr c1
        refine du_X10_here h ?_
        intro h
        refine du_X10_in h ?_
        intro h
        refine And.intro (fun c3 => ?_) (fun c3 => ?_)
        · have h := And.left h c3
          rw [if_pos c3] at hq
          have dc3 := (fa_eq _ _).mp c3
          rw [j_X10_number_66] at hq
          unfold ws_X10_number_66 at h ⊢
          refine And.intro (fun c4 => ?_) (fun c4 => ?_)
          · have h := And.left h c4
            rw [if_neg c4] at hq
            have dc4 := mt (fa_eq _ _).mpr c4
            exact hq _ _ _ rfl h
          · have h := And.right h c4
            rw [if_pos c4] at hq
            have dc4 := (fa_eq _ _).mp c4
            refine du_X10_fault h ?_
            intro h
            exact hq _ _ _ rfl h
        · have h := And.right h c3
          rw [if_neg c3] at hq
          have dc3 := mt (fa_eq _ _).mpr c3
          refine ae ?_
          have h := h _ rfl
          refine du_X10_here h ?_
          intro h
          refine ae ?_
          have h := h _ rfl
          refine ae ?_
          have h := h _ rfl
          refine ae ?_
          have h := h _ rfl
          have r9 := tp_r (x2 + x1)
          have r8 := tp_r m_at
          have f9 := ta_add m_at 1 (by omega)
          exact ih m _ _ _ _ _ trivial (by omega) h hq
noncomputable def F_X10_number (p0 : Int32) (m_read : Nat) (m_length : Int32) (m_top : Int32) (m_at : Int32) (m_wrong : Int32) (m_text : Nat → Int32) (m_rule : Nat → Int32) : Int32 × Int32 × Int32 := if (F_X10_fine m_wrong) = 0 then (0, m_at, m_wrong) else (flp (fs_X10_number_16 (fun o0 o1 o2 => (o0, o1, o2)) m_read m_length m_top m_text m_rule) (fun _ _ _ _ _ => (0, 0, 0)) 4 p0 m_at 0 m_at m_wrong)
set_option maxHeartbeats 200000 in
set_option maxRecDepth 10000 in
theorem dt_X10_number {P Q : Int32 → Int32 → Int32 → Prop} {p0 : Int32} {m_read : Nat} {m_length : Int32} {m_top : Int32} {m_at : Int32} {m_wrong : Int32} {m_text : Nat → Int32} {m_rule : Nat → Int32} (hy0 : 0 ≤ Int32.toInt p0 ∧ Int32.toInt p0 ≤ 3) (h : wp_X10_number P p0 m_read m_length m_top m_at m_wrong m_text m_rule) (hq : ∀ o : Int32 × Int32 × Int32, o = F_X10_number p0 m_read m_length m_top m_at m_wrong m_text m_rule → P o.1 o.2.1 o.2.2 → Q o.1 o.2.1 o.2.2) : wp_X10_number Q p0 m_read m_length m_top m_at m_wrong m_text m_rule := by
  rw [F_X10_number] at hq
  refine du_X10_fine h ?_
  intro h
  refine And.intro (fun c1 => ?_) (fun c1 => ?_)
  · have h := And.left h c1
    rw [if_neg c1] at hq
    obtain ⟨n2, h⟩ := h
    exact ⟨n2, dl_X10_number_16 n2 4 _ _ _ _ _ trivial (ad_lt hy0) h (fun b0 b1 b2 e9 h9 => hq (b0, b1, b2) e9 h9)⟩
  · have h := And.right h c1
    rw [if_pos c1] at hq
    have q9 := hq _ rfl
    dsimp only at q9
    exact q9 h
theorem du_X10_number {P Q : Int32 → Int32 → Int32 → Prop} {p0 : Int32} {m_read : Nat} {m_length : Int32} {m_top : Int32} {m_at : Int32} {m_wrong : Int32} {m_text : Nat → Int32} {m_rule : Nat → Int32} (hy0 : 0 ≤ Int32.toInt p0 ∧ Int32.toInt p0 ≤ 3) (h : wp_X10_number P p0 m_read m_length m_top m_at m_wrong m_text m_rule) (hq : P (F_X10_number p0 m_read m_length m_top m_at m_wrong m_text m_rule).1 (F_X10_number p0 m_read m_length m_top m_at m_wrong m_text m_rule).2.1 (F_X10_number p0 m_read m_length m_top m_at m_wrong m_text m_rule).2.2 → Q (F_X10_number p0 m_read m_length m_top m_at m_wrong m_text m_rule).1 (F_X10_number p0 m_read m_length m_top m_at m_wrong m_text m_rule).2.1 (F_X10_number p0 m_read m_length m_top m_at m_wrong m_text m_rule).2.2) : wp_X10_number Q p0 m_read m_length m_top m_at m_wrong m_text m_rule := dt_X10_number hy0 h (fun o eo => by rw [eo]; exact hq)
theorem dw_X10_number {Q : Int32 → Int32 → Int32 → Prop} {p0 : Int32} {m_read : Nat} {m_length : Int32} {m_top : Int32} {m_at : Int32} {m_wrong : Int32} {m_text : Nat → Int32} {m_rule : Nat → Int32} (hy0 : 0 ≤ Int32.toInt p0 ∧ Int32.toInt p0 ≤ 3) (h : wp_X10_number (fun o0 o1 o2 => (o0, o1, o2) = F_X10_number p0 m_read m_length m_top m_at m_wrong m_text m_rule → Q o0 o1 o2) p0 m_read m_length m_top m_at m_wrong m_text m_rule) : wp_X10_number Q p0 m_read m_length m_top m_at m_wrong m_text m_rule := dt_X10_number hy0 h (fun o eo hp => hp eo)
noncomputable def F_X10_passes (p0 : Int32) (m_read : Nat) (m_length : Int32) (m_top : Int32) (m_at : Int32) (m_wrong : Int32) (m_text : Nat → Int32) (m_rule : Nat → Int32) : Int32 × Int32 := if (F_X10_fine m_wrong) = 0 then (0, m_at) else (if (F_X10_here m_read m_length m_top m_at m_text m_rule) = p0 then (1, (m_at + 1)) else (0, m_at))
set_option maxHeartbeats 200000 in
set_option maxRecDepth 10000 in
theorem dt_X10_passes {P Q : Int32 → Int32 → Prop} {p0 : Int32} {m_read : Nat} {m_length : Int32} {m_top : Int32} {m_at : Int32} {m_wrong : Int32} {m_text : Nat → Int32} {m_rule : Nat → Int32} (h : wp_X10_passes P p0 m_read m_length m_top m_at m_wrong m_text m_rule) (hq : ∀ o : Int32 × Int32, o = F_X10_passes p0 m_read m_length m_top m_at m_wrong m_text m_rule → P o.1 o.2 → Q o.1 o.2) : wp_X10_passes Q p0 m_read m_length m_top m_at m_wrong m_text m_rule := by
  rw [F_X10_passes] at hq
  refine du_X10_fine h ?_
  intro h
  refine And.intro (fun c1 => ?_) (fun c1 => ?_)
  · have h := And.left h c1
    rw [if_pos c1] at hq
    have q9 := hq _ rfl
    dsimp only at q9
    exact q9 h
  · have h := And.right h c1
    rw [if_neg c1] at hq
    refine du_X10_here h ?_
    intro h
    refine And.intro (fun c2 => ?_) (fun c2 => ?_)
    · have h := And.left h c2
      rw [if_pos c2] at hq
      refine ae ?_
      have h := h _ rfl
      have q9 := hq _ rfl
      dsimp only at q9
      exact q9 h
    · have h := And.right h c2
      rw [if_neg c2] at hq
      have q9 := hq _ rfl
      dsimp only at q9
      exact q9 h
theorem du_X10_passes {P Q : Int32 → Int32 → Prop} {p0 : Int32} {m_read : Nat} {m_length : Int32} {m_top : Int32} {m_at : Int32} {m_wrong : Int32} {m_text : Nat → Int32} {m_rule : Nat → Int32} (h : wp_X10_passes P p0 m_read m_length m_top m_at m_wrong m_text m_rule) (hq : P (F_X10_passes p0 m_read m_length m_top m_at m_wrong m_text m_rule).1 (F_X10_passes p0 m_read m_length m_top m_at m_wrong m_text m_rule).2 → Q (F_X10_passes p0 m_read m_length m_top m_at m_wrong m_text m_rule).1 (F_X10_passes p0 m_read m_length m_top m_at m_wrong m_text m_rule).2) : wp_X10_passes Q p0 m_read m_length m_top m_at m_wrong m_text m_rule := dt_X10_passes h (fun o eo => by rw [eo]; exact hq)
theorem dw_X10_passes {Q : Int32 → Int32 → Prop} {p0 : Int32} {m_read : Nat} {m_length : Int32} {m_top : Int32} {m_at : Int32} {m_wrong : Int32} {m_text : Nat → Int32} {m_rule : Nat → Int32} (h : wp_X10_passes (fun o0 o1 => (o0, o1) = F_X10_passes p0 m_read m_length m_top m_at m_wrong m_text m_rule → Q o0 o1) p0 m_read m_length m_top m_at m_wrong m_text m_rule) : wp_X10_passes Q p0 m_read m_length m_top m_at m_wrong m_text m_rule := dt_X10_passes h (fun o eo hp => hp eo)
noncomputable def F_X10_need (p0 : Int32) (m_read : Nat) (m_length : Int32) (m_top : Int32) (m_at : Int32) (m_wrong : Int32) (m_text : Nat → Int32) (m_rule : Nat → Int32) : Int32 × Int32 := if (F_X10_passes p0 m_read m_length m_top m_at m_wrong m_text m_rule).1 = 0 then ((F_X10_passes p0 m_read m_length m_top m_at m_wrong m_text m_rule).2, (F_X10_fault (F_X10_passes p0 m_read m_length m_top m_at m_wrong m_text m_rule).2 m_wrong)) else ((F_X10_passes p0 m_read m_length m_top m_at m_wrong m_text m_rule).2, m_wrong)
set_option maxHeartbeats 200000 in
set_option maxRecDepth 10000 in
theorem dt_X10_need {P Q : Int32 → Int32 → Prop} {p0 : Int32} {m_read : Nat} {m_length : Int32} {m_top : Int32} {m_at : Int32} {m_wrong : Int32} {m_text : Nat → Int32} {m_rule : Nat → Int32} (h : wp_X10_need P p0 m_read m_length m_top m_at m_wrong m_text m_rule) (hq : ∀ o : Int32 × Int32, o = F_X10_need p0 m_read m_length m_top m_at m_wrong m_text m_rule → P o.1 o.2 → Q o.1 o.2) : wp_X10_need Q p0 m_read m_length m_top m_at m_wrong m_text m_rule := by
  rw [F_X10_need] at hq
  refine du_X10_passes h ?_
  intro h
  refine And.intro (fun c1 => ?_) (fun c1 => ?_)
  · have h := And.left h c1
    rw [if_neg c1] at hq
    have q9 := hq _ rfl
    dsimp only at q9
    exact q9 h
  · have h := And.right h c1
    rw [if_pos c1] at hq
    refine du_X10_fault h ?_
    intro h
    have q9 := hq _ rfl
    dsimp only at q9
    exact q9 h
theorem du_X10_need {P Q : Int32 → Int32 → Prop} {p0 : Int32} {m_read : Nat} {m_length : Int32} {m_top : Int32} {m_at : Int32} {m_wrong : Int32} {m_text : Nat → Int32} {m_rule : Nat → Int32} (h : wp_X10_need P p0 m_read m_length m_top m_at m_wrong m_text m_rule) (hq : P (F_X10_need p0 m_read m_length m_top m_at m_wrong m_text m_rule).1 (F_X10_need p0 m_read m_length m_top m_at m_wrong m_text m_rule).2 → Q (F_X10_need p0 m_read m_length m_top m_at m_wrong m_text m_rule).1 (F_X10_need p0 m_read m_length m_top m_at m_wrong m_text m_rule).2) : wp_X10_need Q p0 m_read m_length m_top m_at m_wrong m_text m_rule := dt_X10_need h (fun o eo => by rw [eo]; exact hq)
theorem dw_X10_need {Q : Int32 → Int32 → Prop} {p0 : Int32} {m_read : Nat} {m_length : Int32} {m_top : Int32} {m_at : Int32} {m_wrong : Int32} {m_text : Nat → Int32} {m_rule : Nat → Int32} (h : wp_X10_need (fun o0 o1 => (o0, o1) = F_X10_need p0 m_read m_length m_top m_at m_wrong m_text m_rule → Q o0 o1) p0 m_read m_length m_top m_at m_wrong m_text m_rule) : wp_X10_need Q p0 m_read m_length m_top m_at m_wrong m_text m_rule := dt_X10_need h (fun o eo hp => hp eo)
noncomputable def j_X10_readLine_218 {R : Type} (po : Int32 → Int32 → Int32 → Int32 → (Nat → Int32) → (Nat → Int32) → R) (m_fruits : Int32) (m_standings : Int32) (m_read : Nat) (m_length : Int32) (m_top : Int32) (m_text : Nat → Int32) (m_rule : Nat → Int32) (m_at : Int32) (m_wrong : Int32) (m_newFruitMany : Int32) (m_newStandingMany : Int32) (m_newFruits : Nat → Int32) (m_newStandings : Nat → Int32) : R := po m_at (F_X10_fault m_at m_wrong) m_newFruitMany m_newStandingMany m_newFruits m_newStandings
noncomputable def j_X10_readLine_135 {R : Type} (po : Int32 → Int32 → Int32 → Int32 → (Nat → Int32) → (Nat → Int32) → R) (m_fruits : Int32) (m_standings : Int32) (m_read : Nat) (m_length : Int32) (m_top : Int32) (m_text : Nat → Int32) (m_rule : Nat → Int32) (m_at : Int32) (m_wrong : Int32) (m_newFruitMany : Int32) (m_newStandingMany : Int32) (m_newFruits : Nat → Int32) (m_newStandings : Nat → Int32) : R := if (F_X10_here m_read m_length m_top m_at m_text m_rule) = 115 then (if 8 ≤ (m_standings + m_newStandingMany) then (j_X10_readLine_218 po m_fruits m_standings m_read m_length m_top m_text m_rule m_at m_wrong m_newFruitMany m_newStandingMany m_newFruits m_newStandings) else (po ((F_X10_number 2 m_read m_length m_top (F_X10_need 44 m_read m_length m_top (F_X10_number 2 m_read m_length m_top (m_at + 1) m_wrong m_text m_rule).2.1 (F_X10_number 2 m_read m_length m_top (m_at + 1) m_wrong m_text m_rule).2.2 m_text m_rule).1 (F_X10_need 44 m_read m_length m_top (F_X10_number 2 m_read m_length m_top (m_at + 1) m_wrong m_text m_rule).2.1 (F_X10_number 2 m_read m_length m_top (m_at + 1) m_wrong m_text m_rule).2.2 m_text m_rule).2 m_text m_rule).2.1) ((F_X10_number 2 m_read m_length m_top (F_X10_need 44 m_read m_length m_top (F_X10_number 2 m_read m_length m_top (m_at + 1) m_wrong m_text m_rule).2.1 (F_X10_number 2 m_read m_length m_top (m_at + 1) m_wrong m_text m_rule).2.2 m_text m_rule).1 (F_X10_need 44 m_read m_length m_top (F_X10_number 2 m_read m_length m_top (m_at + 1) m_wrong m_text m_rule).2.1 (F_X10_number 2 m_read m_length m_top (m_at + 1) m_wrong m_text m_rule).2.2 m_text m_rule).2 m_text m_rule).2.2) m_newFruitMany (m_newStandingMany + 1) m_newFruits (upd (upd m_newStandings (2 * m_newStandingMany).toNatClampNeg (F_X10_number 2 m_read m_length m_top (m_at + 1) m_wrong m_text m_rule).1) ((2 * m_newStandingMany) + 1).toNatClampNeg (F_X10_number 2 m_read m_length m_top (F_X10_need 44 m_read m_length m_top (F_X10_number 2 m_read m_length m_top (m_at + 1) m_wrong m_text m_rule).2.1 (F_X10_number 2 m_read m_length m_top (m_at + 1) m_wrong m_text m_rule).2.2 m_text m_rule).1 (F_X10_need 44 m_read m_length m_top (F_X10_number 2 m_read m_length m_top (m_at + 1) m_wrong m_text m_rule).2.1 (F_X10_number 2 m_read m_length m_top (m_at + 1) m_wrong m_text m_rule).2.2 m_text m_rule).2 m_text m_rule).1))) else (j_X10_readLine_218 po m_fruits m_standings m_read m_length m_top m_text m_rule m_at m_wrong m_newFruitMany m_newStandingMany m_newFruits m_newStandings)
noncomputable def j_X10_readLine_121 {R : Type} (po : Int32 → Int32 → Int32 → Int32 → (Nat → Int32) → (Nat → Int32) → R) (m_fruits : Int32) (m_standings : Int32) (m_read : Nat) (m_length : Int32) (m_top : Int32) (m_text : Nat → Int32) (m_rule : Nat → Int32) (k1 : Int32) (k2 : Int32) (m_at : Int32) (m_wrong : Int32) (m_newFruitMany : Int32) (m_newStandingMany : Int32) (m_newFruits : Nat → Int32) (m_newStandings : Nat → Int32) : R := po m_at m_wrong (m_newFruitMany + 1) m_newStandingMany (upd m_newFruits k1.toNatClampNeg k2) m_newStandings
noncomputable def j_X10_readLine_95 {R : Type} (po : Int32 → Int32 → Int32 → Int32 → (Nat → Int32) → (Nat → Int32) → R) (m_fruits : Int32) (m_standings : Int32) (m_read : Nat) (m_length : Int32) (m_top : Int32) (m_text : Nat → Int32) (m_rule : Nat → Int32) (x1 : Int32) (k1 : Int32) (k2 : Int32) (m_at : Int32) (m_wrong : Int32) (m_newFruitMany : Int32) (m_newStandingMany : Int32) (m_newFruits : Nat → Int32) (m_newStandings : Nat → Int32) : R := if (F_X10_passes 64 m_read m_length m_top m_at m_wrong m_text m_rule).1 = 0 then (j_X10_readLine_121 po m_fruits m_standings m_read m_length m_top m_text m_rule (x1 + 3) 0 ((F_X10_passes 64 m_read m_length m_top m_at m_wrong m_text m_rule).2) m_wrong m_newFruitMany m_newStandingMany (upd m_newFruits k1.toNatClampNeg k2) m_newStandings) else (j_X10_readLine_121 po m_fruits m_standings m_read m_length m_top m_text m_rule (x1 + 3) ((F_X10_number 1 m_read m_length m_top (F_X10_passes 64 m_read m_length m_top m_at m_wrong m_text m_rule).2 m_wrong m_text m_rule).1) ((F_X10_number 1 m_read m_length m_top (F_X10_passes 64 m_read m_length m_top m_at m_wrong m_text m_rule).2 m_wrong m_text m_rule).2.1) ((F_X10_number 1 m_read m_length m_top (F_X10_passes 64 m_read m_length m_top m_at m_wrong m_text m_rule).2 m_wrong m_text m_rule).2.2) m_newFruitMany m_newStandingMany (upd m_newFruits k1.toNatClampNeg k2) m_newStandings)
noncomputable def F_X10_readLine (m_fruits : Int32) (m_standings : Int32) (m_read : Nat) (m_length : Int32) (m_top : Int32) (m_at : Int32) (m_wrong : Int32) (m_newFruitMany : Int32) (m_newStandingMany : Int32) (m_text : Nat → Int32) (m_newFruits : Nat → Int32) (m_newStandings : Nat → Int32) (m_rule : Nat → Int32) : Int32 × Int32 × Int32 × Int32 × (Nat → Int32) × (Nat → Int32) := if (F_X10_here m_read m_length m_top m_at m_text m_rule) = 102 then (if 16 ≤ (m_fruits + m_newFruitMany) then (j_X10_readLine_135 (fun o0 o1 o2 o3 o4 o5 => (o0, o1, o2, o3, o4, o5)) m_fruits m_standings m_read m_length m_top m_text m_rule m_at m_wrong m_newFruitMany m_newStandingMany m_newFruits m_newStandings) else (if (F_X10_passes 42 m_read m_length m_top (F_X10_number 2 m_read m_length m_top (F_X10_need 44 m_read m_length m_top (F_X10_number 2 m_read m_length m_top (m_at + 1) m_wrong m_text m_rule).2.1 (F_X10_number 2 m_read m_length m_top (m_at + 1) m_wrong m_text m_rule).2.2 m_text m_rule).1 (F_X10_need 44 m_read m_length m_top (F_X10_number 2 m_read m_length m_top (m_at + 1) m_wrong m_text m_rule).2.1 (F_X10_number 2 m_read m_length m_top (m_at + 1) m_wrong m_text m_rule).2.2 m_text m_rule).2 m_text m_rule).2.1 (F_X10_number 2 m_read m_length m_top (F_X10_need 44 m_read m_length m_top (F_X10_number 2 m_read m_length m_top (m_at + 1) m_wrong m_text m_rule).2.1 (F_X10_number 2 m_read m_length m_top (m_at + 1) m_wrong m_text m_rule).2.2 m_text m_rule).1 (F_X10_need 44 m_read m_length m_top (F_X10_number 2 m_read m_length m_top (m_at + 1) m_wrong m_text m_rule).2.1 (F_X10_number 2 m_read m_length m_top (m_at + 1) m_wrong m_text m_rule).2.2 m_text m_rule).2 m_text m_rule).2.2 m_text m_rule).1 = 0 then (j_X10_readLine_95 (fun o0 o1 o2 o3 o4 o5 => (o0, o1, o2, o3, o4, o5)) m_fruits m_standings m_read m_length m_top m_text m_rule (4 * m_newFruitMany) ((4 * m_newFruitMany) + 2) 1 ((F_X10_passes 42 m_read m_length m_top (F_X10_number 2 m_read m_length m_top (F_X10_need 44 m_read m_length m_top (F_X10_number 2 m_read m_length m_top (m_at + 1) m_wrong m_text m_rule).2.1 (F_X10_number 2 m_read m_length m_top (m_at + 1) m_wrong m_text m_rule).2.2 m_text m_rule).1 (F_X10_need 44 m_read m_length m_top (F_X10_number 2 m_read m_length m_top (m_at + 1) m_wrong m_text m_rule).2.1 (F_X10_number 2 m_read m_length m_top (m_at + 1) m_wrong m_text m_rule).2.2 m_text m_rule).2 m_text m_rule).2.1 (F_X10_number 2 m_read m_length m_top (F_X10_need 44 m_read m_length m_top (F_X10_number 2 m_read m_length m_top (m_at + 1) m_wrong m_text m_rule).2.1 (F_X10_number 2 m_read m_length m_top (m_at + 1) m_wrong m_text m_rule).2.2 m_text m_rule).1 (F_X10_need 44 m_read m_length m_top (F_X10_number 2 m_read m_length m_top (m_at + 1) m_wrong m_text m_rule).2.1 (F_X10_number 2 m_read m_length m_top (m_at + 1) m_wrong m_text m_rule).2.2 m_text m_rule).2 m_text m_rule).2.2 m_text m_rule).2) ((F_X10_number 2 m_read m_length m_top (F_X10_need 44 m_read m_length m_top (F_X10_number 2 m_read m_length m_top (m_at + 1) m_wrong m_text m_rule).2.1 (F_X10_number 2 m_read m_length m_top (m_at + 1) m_wrong m_text m_rule).2.2 m_text m_rule).1 (F_X10_need 44 m_read m_length m_top (F_X10_number 2 m_read m_length m_top (m_at + 1) m_wrong m_text m_rule).2.1 (F_X10_number 2 m_read m_length m_top (m_at + 1) m_wrong m_text m_rule).2.2 m_text m_rule).2 m_text m_rule).2.2) m_newFruitMany m_newStandingMany (upd (upd m_newFruits (4 * m_newFruitMany).toNatClampNeg (F_X10_number 2 m_read m_length m_top (m_at + 1) m_wrong m_text m_rule).1) ((4 * m_newFruitMany) + 1).toNatClampNeg (F_X10_number 2 m_read m_length m_top (F_X10_need 44 m_read m_length m_top (F_X10_number 2 m_read m_length m_top (m_at + 1) m_wrong m_text m_rule).2.1 (F_X10_number 2 m_read m_length m_top (m_at + 1) m_wrong m_text m_rule).2.2 m_text m_rule).1 (F_X10_need 44 m_read m_length m_top (F_X10_number 2 m_read m_length m_top (m_at + 1) m_wrong m_text m_rule).2.1 (F_X10_number 2 m_read m_length m_top (m_at + 1) m_wrong m_text m_rule).2.2 m_text m_rule).2 m_text m_rule).1) m_newStandings) else (j_X10_readLine_95 (fun o0 o1 o2 o3 o4 o5 => (o0, o1, o2, o3, o4, o5)) m_fruits m_standings m_read m_length m_top m_text m_rule (4 * m_newFruitMany) ((4 * m_newFruitMany) + 2) ((F_X10_number 1 m_read m_length m_top (F_X10_passes 42 m_read m_length m_top (F_X10_number 2 m_read m_length m_top (F_X10_need 44 m_read m_length m_top (F_X10_number 2 m_read m_length m_top (m_at + 1) m_wrong m_text m_rule).2.1 (F_X10_number 2 m_read m_length m_top (m_at + 1) m_wrong m_text m_rule).2.2 m_text m_rule).1 (F_X10_need 44 m_read m_length m_top (F_X10_number 2 m_read m_length m_top (m_at + 1) m_wrong m_text m_rule).2.1 (F_X10_number 2 m_read m_length m_top (m_at + 1) m_wrong m_text m_rule).2.2 m_text m_rule).2 m_text m_rule).2.1 (F_X10_number 2 m_read m_length m_top (F_X10_need 44 m_read m_length m_top (F_X10_number 2 m_read m_length m_top (m_at + 1) m_wrong m_text m_rule).2.1 (F_X10_number 2 m_read m_length m_top (m_at + 1) m_wrong m_text m_rule).2.2 m_text m_rule).1 (F_X10_need 44 m_read m_length m_top (F_X10_number 2 m_read m_length m_top (m_at + 1) m_wrong m_text m_rule).2.1 (F_X10_number 2 m_read m_length m_top (m_at + 1) m_wrong m_text m_rule).2.2 m_text m_rule).2 m_text m_rule).2.2 m_text m_rule).2 (F_X10_number 2 m_read m_length m_top (F_X10_need 44 m_read m_length m_top (F_X10_number 2 m_read m_length m_top (m_at + 1) m_wrong m_text m_rule).2.1 (F_X10_number 2 m_read m_length m_top (m_at + 1) m_wrong m_text m_rule).2.2 m_text m_rule).1 (F_X10_need 44 m_read m_length m_top (F_X10_number 2 m_read m_length m_top (m_at + 1) m_wrong m_text m_rule).2.1 (F_X10_number 2 m_read m_length m_top (m_at + 1) m_wrong m_text m_rule).2.2 m_text m_rule).2 m_text m_rule).2.2 m_text m_rule).1) ((F_X10_number 1 m_read m_length m_top (F_X10_passes 42 m_read m_length m_top (F_X10_number 2 m_read m_length m_top (F_X10_need 44 m_read m_length m_top (F_X10_number 2 m_read m_length m_top (m_at + 1) m_wrong m_text m_rule).2.1 (F_X10_number 2 m_read m_length m_top (m_at + 1) m_wrong m_text m_rule).2.2 m_text m_rule).1 (F_X10_need 44 m_read m_length m_top (F_X10_number 2 m_read m_length m_top (m_at + 1) m_wrong m_text m_rule).2.1 (F_X10_number 2 m_read m_length m_top (m_at + 1) m_wrong m_text m_rule).2.2 m_text m_rule).2 m_text m_rule).2.1 (F_X10_number 2 m_read m_length m_top (F_X10_need 44 m_read m_length m_top (F_X10_number 2 m_read m_length m_top (m_at + 1) m_wrong m_text m_rule).2.1 (F_X10_number 2 m_read m_length m_top (m_at + 1) m_wrong m_text m_rule).2.2 m_text m_rule).1 (F_X10_need 44 m_read m_length m_top (F_X10_number 2 m_read m_length m_top (m_at + 1) m_wrong m_text m_rule).2.1 (F_X10_number 2 m_read m_length m_top (m_at + 1) m_wrong m_text m_rule).2.2 m_text m_rule).2 m_text m_rule).2.2 m_text m_rule).2 (F_X10_number 2 m_read m_length m_top (F_X10_need 44 m_read m_length m_top (F_X10_number 2 m_read m_length m_top (m_at + 1) m_wrong m_text m_rule).2.1 (F_X10_number 2 m_read m_length m_top (m_at + 1) m_wrong m_text m_rule).2.2 m_text m_rule).1 (F_X10_need 44 m_read m_length m_top (F_X10_number 2 m_read m_length m_top (m_at + 1) m_wrong m_text m_rule).2.1 (F_X10_number 2 m_read m_length m_top (m_at + 1) m_wrong m_text m_rule).2.2 m_text m_rule).2 m_text m_rule).2.2 m_text m_rule).2.1) ((F_X10_number 1 m_read m_length m_top (F_X10_passes 42 m_read m_length m_top (F_X10_number 2 m_read m_length m_top (F_X10_need 44 m_read m_length m_top (F_X10_number 2 m_read m_length m_top (m_at + 1) m_wrong m_text m_rule).2.1 (F_X10_number 2 m_read m_length m_top (m_at + 1) m_wrong m_text m_rule).2.2 m_text m_rule).1 (F_X10_need 44 m_read m_length m_top (F_X10_number 2 m_read m_length m_top (m_at + 1) m_wrong m_text m_rule).2.1 (F_X10_number 2 m_read m_length m_top (m_at + 1) m_wrong m_text m_rule).2.2 m_text m_rule).2 m_text m_rule).2.1 (F_X10_number 2 m_read m_length m_top (F_X10_need 44 m_read m_length m_top (F_X10_number 2 m_read m_length m_top (m_at + 1) m_wrong m_text m_rule).2.1 (F_X10_number 2 m_read m_length m_top (m_at + 1) m_wrong m_text m_rule).2.2 m_text m_rule).1 (F_X10_need 44 m_read m_length m_top (F_X10_number 2 m_read m_length m_top (m_at + 1) m_wrong m_text m_rule).2.1 (F_X10_number 2 m_read m_length m_top (m_at + 1) m_wrong m_text m_rule).2.2 m_text m_rule).2 m_text m_rule).2.2 m_text m_rule).2 (F_X10_number 2 m_read m_length m_top (F_X10_need 44 m_read m_length m_top (F_X10_number 2 m_read m_length m_top (m_at + 1) m_wrong m_text m_rule).2.1 (F_X10_number 2 m_read m_length m_top (m_at + 1) m_wrong m_text m_rule).2.2 m_text m_rule).1 (F_X10_need 44 m_read m_length m_top (F_X10_number 2 m_read m_length m_top (m_at + 1) m_wrong m_text m_rule).2.1 (F_X10_number 2 m_read m_length m_top (m_at + 1) m_wrong m_text m_rule).2.2 m_text m_rule).2 m_text m_rule).2.2 m_text m_rule).2.2) m_newFruitMany m_newStandingMany (upd (upd m_newFruits (4 * m_newFruitMany).toNatClampNeg (F_X10_number 2 m_read m_length m_top (m_at + 1) m_wrong m_text m_rule).1) ((4 * m_newFruitMany) + 1).toNatClampNeg (F_X10_number 2 m_read m_length m_top (F_X10_need 44 m_read m_length m_top (F_X10_number 2 m_read m_length m_top (m_at + 1) m_wrong m_text m_rule).2.1 (F_X10_number 2 m_read m_length m_top (m_at + 1) m_wrong m_text m_rule).2.2 m_text m_rule).1 (F_X10_need 44 m_read m_length m_top (F_X10_number 2 m_read m_length m_top (m_at + 1) m_wrong m_text m_rule).2.1 (F_X10_number 2 m_read m_length m_top (m_at + 1) m_wrong m_text m_rule).2.2 m_text m_rule).2 m_text m_rule).1) m_newStandings))) else (j_X10_readLine_135 (fun o0 o1 o2 o3 o4 o5 => (o0, o1, o2, o3, o4, o5)) m_fruits m_standings m_read m_length m_top m_text m_rule m_at m_wrong m_newFruitMany m_newStandingMany m_newFruits m_newStandings)
set_option maxHeartbeats 200000 in
set_option maxRecDepth 10000 in
theorem dt_X10_readLine {P Q : Int32 → Int32 → Int32 → Int32 → (Nat → Int32) → (Nat → Int32) → Prop} {m_fruits : Int32} {m_standings : Int32} {m_read : Nat} {m_length : Int32} {m_top : Int32} {m_at : Int32} {m_wrong : Int32} {m_newFruitMany : Int32} {m_newStandingMany : Int32} {m_text : Nat → Int32} {m_newFruits : Nat → Int32} {m_newStandings : Nat → Int32} {m_rule : Nat → Int32} (h : wp_X10_readLine P m_fruits m_standings m_read m_length m_top m_at m_wrong m_newFruitMany m_newStandingMany m_text m_newFruits m_newStandings m_rule) (hq : ∀ o : Int32 × Int32 × Int32 × Int32 × (Nat → Int32) × (Nat → Int32), o = F_X10_readLine m_fruits m_standings m_read m_length m_top m_at m_wrong m_newFruitMany m_newStandingMany m_text m_newFruits m_newStandings m_rule → P o.1 o.2.1 o.2.2.1 o.2.2.2.1 o.2.2.2.2.1 o.2.2.2.2.2 → Q o.1 o.2.1 o.2.2.1 o.2.2.2.1 o.2.2.2.2.1 o.2.2.2.2.2) : wp_X10_readLine Q m_fruits m_standings m_read m_length m_top m_at m_wrong m_newFruitMany m_newStandingMany m_text m_newFruits m_newStandings m_rule := by
  rw [F_X10_readLine] at hq
  refine du_X10_here h ?_
  intro h
  refine And.intro (fun c1 => ?_) (fun c1 => ?_)
  · have h := And.left h c1
    rw [if_neg c1] at hq
    rw [j_X10_readLine_135] at hq
    unfold ws_X10_readLine_135 at h ⊢
    refine du_X10_here h ?_
    intro h
    refine And.intro (fun c2 => ?_) (fun c2 => ?_)
    · have h := And.left h c2
      rw [if_neg c2] at hq
      rw [j_X10_readLine_218] at hq
      unfold ws_X10_readLine_218 at h ⊢
      refine du_X10_fault h ?_
      intro h
      have q9 := hq _ rfl
      dsimp only at q9
      exact q9 h
    · have h := And.right h c2
      rw [if_pos c2] at hq
      refine ae ?_
      have h := h _ rfl
      refine And.intro (fun c3 => ?_) (fun c3 => ?_)
      · have h := And.left h c3
        rw [if_pos c3] at hq
        rw [j_X10_readLine_218] at hq
        unfold ws_X10_readLine_218 at h ⊢
        refine du_X10_fault h ?_
        intro h
        have q9 := hq _ rfl
        dsimp only at q9
        exact q9 h
      · have h := And.right h c3
        rw [if_neg c3] at hq
        refine ae ?_
        have h := h _ rfl
        refine ae ?_
        have h := h _ rfl
        refine du_X10_number (by decide) h ?_
        intro h
        refine And.intro (And.left h) ?_
        have h := And.right h
        refine du_X10_need h ?_
        intro h
        refine ae ?_
        have h := h _ rfl
        refine du_X10_number (by decide) h ?_
        intro h
        refine And.intro (And.left h) ?_
        have h := And.right h
        refine ae ?_
        have h := h _ rfl
        have q9 := hq _ rfl
        dsimp only at q9
        exact q9 h
  · have h := And.right h c1
    rw [if_pos c1] at hq
    refine ae ?_
    have h := h _ rfl
    refine And.intro (fun c4 => ?_) (fun c4 => ?_)
    · have h := And.left h c4
      rw [if_pos c4] at hq
      rw [j_X10_readLine_135] at hq
      unfold ws_X10_readLine_135 at h ⊢
      refine du_X10_here h ?_
      intro h
      refine And.intro (fun c5 => ?_) (fun c5 => ?_)
      · have h := And.left h c5
        rw [if_neg c5] at hq
        rw [j_X10_readLine_218] at hq
        unfold ws_X10_readLine_218 at h ⊢
        refine du_X10_fault h ?_
        intro h
        have q9 := hq _ rfl
        dsimp only at q9
        exact q9 h
      · have h := And.right h c5
        rw [if_pos c5] at hq
        refine ae ?_
        have h := h _ rfl
        refine And.intro (fun c6 => ?_) (fun c6 => ?_)
        · have h := And.left h c6
          rw [if_pos c6] at hq
          rw [j_X10_readLine_218] at hq
          unfold ws_X10_readLine_218 at h ⊢
          refine du_X10_fault h ?_
          intro h
          have q9 := hq _ rfl
          dsimp only at q9
          exact q9 h
        · have h := And.right h c6
          rw [if_neg c6] at hq
          refine ae ?_
          have h := h _ rfl
          refine ae ?_
          have h := h _ rfl
          refine du_X10_number (by decide) h ?_
          intro h
          refine And.intro (And.left h) ?_
          have h := And.right h
          refine du_X10_need h ?_
          intro h
          refine ae ?_
          have h := h _ rfl
          refine du_X10_number (by decide) h ?_
          intro h
          refine And.intro (And.left h) ?_
          have h := And.right h
          refine ae ?_
          have h := h _ rfl
          have q9 := hq _ rfl
          dsimp only at q9
          exact q9 h
    · have h := And.right h c4
      rw [if_neg c4] at hq
      refine ae ?_
      have h := h _ rfl
      refine ae ?_
      have h := h _ rfl
      refine du_X10_number (by decide) h ?_
      intro h
      refine And.intro (And.left h) ?_
      have h := And.right h
      refine du_X10_need h ?_
      intro h
      refine ae ?_
      have h := h _ rfl
      refine du_X10_number (by decide) h ?_
      intro h
      refine And.intro (And.left h) ?_
      have h := And.right h
      refine ae ?_
      have h := h _ rfl
      refine du_X10_passes h ?_
      intro h
      refine And.intro (fun c7 => ?_) (fun c7 => ?_)
      · have h := And.left h c7
        rw [if_pos c7] at hq
        rw [j_X10_readLine_95] at hq
        unfold ws_X10_readLine_95 at h ⊢
        refine And.intro (And.left h) ?_
        have h := And.right h
        refine ae ?_
        have h := h _ rfl
        refine du_X10_passes h ?_
        intro h
        refine And.intro (fun c8 => ?_) (fun c8 => ?_)
        · have h := And.left h c8
          rw [if_pos c8] at hq
          rw [j_X10_readLine_121] at hq
          unfold ws_X10_readLine_121 at h ⊢
          refine And.intro (And.left h) ?_
          have h := And.right h
          refine ae ?_
          have h := h _ rfl
          have q9 := hq _ rfl
          dsimp only at q9
          exact q9 h
        · have h := And.right h c8
          rw [if_neg c8] at hq
          refine du_X10_number (by decide) h ?_
          intro h
          rw [j_X10_readLine_121] at hq
          unfold ws_X10_readLine_121 at h ⊢
          refine And.intro (And.left h) ?_
          have h := And.right h
          refine ae ?_
          have h := h _ rfl
          have q9 := hq _ rfl
          dsimp only at q9
          exact q9 h
      · have h := And.right h c7
        rw [if_neg c7] at hq
        refine du_X10_number (by decide) h ?_
        intro h
        rw [j_X10_readLine_95] at hq
        unfold ws_X10_readLine_95 at h ⊢
        refine And.intro (And.left h) ?_
        have h := And.right h
        refine ae ?_
        have h := h _ rfl
        refine du_X10_passes h ?_
        intro h
        refine And.intro (fun c9 => ?_) (fun c9 => ?_)
        · have h := And.left h c9
          rw [if_pos c9] at hq
          rw [j_X10_readLine_121] at hq
          unfold ws_X10_readLine_121 at h ⊢
          refine And.intro (And.left h) ?_
          have h := And.right h
          refine ae ?_
          have h := h _ rfl
          have q9 := hq _ rfl
          dsimp only at q9
          exact q9 h
        · have h := And.right h c9
          rw [if_neg c9] at hq
          refine du_X10_number (by decide) h ?_
          intro h
          rw [j_X10_readLine_121] at hq
          unfold ws_X10_readLine_121 at h ⊢
          refine And.intro (And.left h) ?_
          have h := And.right h
          refine ae ?_
          have h := h _ rfl
          have q9 := hq _ rfl
          dsimp only at q9
          exact q9 h
theorem du_X10_readLine {P Q : Int32 → Int32 → Int32 → Int32 → (Nat → Int32) → (Nat → Int32) → Prop} {m_fruits : Int32} {m_standings : Int32} {m_read : Nat} {m_length : Int32} {m_top : Int32} {m_at : Int32} {m_wrong : Int32} {m_newFruitMany : Int32} {m_newStandingMany : Int32} {m_text : Nat → Int32} {m_newFruits : Nat → Int32} {m_newStandings : Nat → Int32} {m_rule : Nat → Int32} (h : wp_X10_readLine P m_fruits m_standings m_read m_length m_top m_at m_wrong m_newFruitMany m_newStandingMany m_text m_newFruits m_newStandings m_rule) (hq : P (F_X10_readLine m_fruits m_standings m_read m_length m_top m_at m_wrong m_newFruitMany m_newStandingMany m_text m_newFruits m_newStandings m_rule).1 (F_X10_readLine m_fruits m_standings m_read m_length m_top m_at m_wrong m_newFruitMany m_newStandingMany m_text m_newFruits m_newStandings m_rule).2.1 (F_X10_readLine m_fruits m_standings m_read m_length m_top m_at m_wrong m_newFruitMany m_newStandingMany m_text m_newFruits m_newStandings m_rule).2.2.1 (F_X10_readLine m_fruits m_standings m_read m_length m_top m_at m_wrong m_newFruitMany m_newStandingMany m_text m_newFruits m_newStandings m_rule).2.2.2.1 (F_X10_readLine m_fruits m_standings m_read m_length m_top m_at m_wrong m_newFruitMany m_newStandingMany m_text m_newFruits m_newStandings m_rule).2.2.2.2.1 (F_X10_readLine m_fruits m_standings m_read m_length m_top m_at m_wrong m_newFruitMany m_newStandingMany m_text m_newFruits m_newStandings m_rule).2.2.2.2.2 → Q (F_X10_readLine m_fruits m_standings m_read m_length m_top m_at m_wrong m_newFruitMany m_newStandingMany m_text m_newFruits m_newStandings m_rule).1 (F_X10_readLine m_fruits m_standings m_read m_length m_top m_at m_wrong m_newFruitMany m_newStandingMany m_text m_newFruits m_newStandings m_rule).2.1 (F_X10_readLine m_fruits m_standings m_read m_length m_top m_at m_wrong m_newFruitMany m_newStandingMany m_text m_newFruits m_newStandings m_rule).2.2.1 (F_X10_readLine m_fruits m_standings m_read m_length m_top m_at m_wrong m_newFruitMany m_newStandingMany m_text m_newFruits m_newStandings m_rule).2.2.2.1 (F_X10_readLine m_fruits m_standings m_read m_length m_top m_at m_wrong m_newFruitMany m_newStandingMany m_text m_newFruits m_newStandings m_rule).2.2.2.2.1 (F_X10_readLine m_fruits m_standings m_read m_length m_top m_at m_wrong m_newFruitMany m_newStandingMany m_text m_newFruits m_newStandings m_rule).2.2.2.2.2) : wp_X10_readLine Q m_fruits m_standings m_read m_length m_top m_at m_wrong m_newFruitMany m_newStandingMany m_text m_newFruits m_newStandings m_rule := dt_X10_readLine h (fun o eo => by rw [eo]; exact hq)
theorem dw_X10_readLine {Q : Int32 → Int32 → Int32 → Int32 → (Nat → Int32) → (Nat → Int32) → Prop} {m_fruits : Int32} {m_standings : Int32} {m_read : Nat} {m_length : Int32} {m_top : Int32} {m_at : Int32} {m_wrong : Int32} {m_newFruitMany : Int32} {m_newStandingMany : Int32} {m_text : Nat → Int32} {m_newFruits : Nat → Int32} {m_newStandings : Nat → Int32} {m_rule : Nat → Int32} (h : wp_X10_readLine (fun o0 o1 o2 o3 o4 o5 => (o0, o1, o2, o3, o4, o5) = F_X10_readLine m_fruits m_standings m_read m_length m_top m_at m_wrong m_newFruitMany m_newStandingMany m_text m_newFruits m_newStandings m_rule → Q o0 o1 o2 o3 o4 o5) m_fruits m_standings m_read m_length m_top m_at m_wrong m_newFruitMany m_newStandingMany m_text m_newFruits m_newStandings m_rule) : wp_X10_readLine Q m_fruits m_standings m_read m_length m_top m_at m_wrong m_newFruitMany m_newStandingMany m_text m_newFruits m_newStandings m_rule := dt_X10_readLine h (fun o eo hp => hp eo)
noncomputable def F_X10_begin (p1 : Int32) (p2 : Int32) (m_read : Nat) (m_length : Int32) (m_top : Int32) (m_at : Int32) (m_wrong : Int32) : Nat × Int32 × Int32 × Int32 × Int32 := (1, p1, p2, 0, (-1))
set_option maxHeartbeats 200000 in
set_option maxRecDepth 10000 in
theorem dt_X10_begin {P Q : Nat → Int32 → Int32 → Int32 → Int32 → Prop} {p1 : Int32} {p2 : Int32} {m_read : Nat} {m_length : Int32} {m_top : Int32} {m_at : Int32} {m_wrong : Int32} (h : wp_X10_begin P p1 p2 m_read m_length m_top m_at m_wrong) (hq : ∀ o : Nat × Int32 × Int32 × Int32 × Int32, o = F_X10_begin p1 p2 m_read m_length m_top m_at m_wrong → P o.1 o.2.1 o.2.2.1 o.2.2.2.1 o.2.2.2.2 → Q o.1 o.2.1 o.2.2.1 o.2.2.2.1 o.2.2.2.2) : wp_X10_begin Q p1 p2 m_read m_length m_top m_at m_wrong := by
  rw [F_X10_begin] at hq
  have q9 := hq _ rfl
  dsimp only at q9
  exact q9 h
theorem du_X10_begin {P Q : Nat → Int32 → Int32 → Int32 → Int32 → Prop} {p1 : Int32} {p2 : Int32} {m_read : Nat} {m_length : Int32} {m_top : Int32} {m_at : Int32} {m_wrong : Int32} (h : wp_X10_begin P p1 p2 m_read m_length m_top m_at m_wrong) (hq : P (F_X10_begin p1 p2 m_read m_length m_top m_at m_wrong).1 (F_X10_begin p1 p2 m_read m_length m_top m_at m_wrong).2.1 (F_X10_begin p1 p2 m_read m_length m_top m_at m_wrong).2.2.1 (F_X10_begin p1 p2 m_read m_length m_top m_at m_wrong).2.2.2.1 (F_X10_begin p1 p2 m_read m_length m_top m_at m_wrong).2.2.2.2 → Q (F_X10_begin p1 p2 m_read m_length m_top m_at m_wrong).1 (F_X10_begin p1 p2 m_read m_length m_top m_at m_wrong).2.1 (F_X10_begin p1 p2 m_read m_length m_top m_at m_wrong).2.2.1 (F_X10_begin p1 p2 m_read m_length m_top m_at m_wrong).2.2.2.1 (F_X10_begin p1 p2 m_read m_length m_top m_at m_wrong).2.2.2.2) : wp_X10_begin Q p1 p2 m_read m_length m_top m_at m_wrong := dt_X10_begin h (fun o eo => by rw [eo]; exact hq)
theorem dw_X10_begin {Q : Nat → Int32 → Int32 → Int32 → Int32 → Prop} {p1 : Int32} {p2 : Int32} {m_read : Nat} {m_length : Int32} {m_top : Int32} {m_at : Int32} {m_wrong : Int32} (h : wp_X10_begin (fun o0 o1 o2 o3 o4 => (o0, o1, o2, o3, o4) = F_X10_begin p1 p2 m_read m_length m_top m_at m_wrong → Q o0 o1 o2 o3 o4) p1 p2 m_read m_length m_top m_at m_wrong) : wp_X10_begin Q p1 p2 m_read m_length m_top m_at m_wrong := dt_X10_begin h (fun o eo hp => hp eo)
noncomputable def fs_X8_add_14 {R : Type} (po : Int32 → Int32 → (Nat → Int32) → R) (nx : Int32 → Int32 → Int32 → (Nat → Int32) → R) (x1 : Int32) (x2 : Int32) (tx_length : Int32) (tx_signs : Nat → Int32) : R := if x2 < 0 then (po tx_length tx_length tx_signs) else (nx x1 (x2 + (-8)) (tx_length + 1) (upd tx_signs tx_length.toNatClampNeg (vp_nar .char (((((x1.toUInt32 >>> (x2.toUInt32 &&& Int32.toUInt32 31)).toInt32) &&& 255).toUInt32 % 65536).toInt32))))
set_option maxHeartbeats 200000 in
set_option maxRecDepth 10000 in
theorem dl_X8_add_14 {P Q : Int32 → Int32 → (Nat → Int32) → Prop} {R : Type} {po : Int32 → Int32 → (Nat → Int32) → R} {d : Int32 → Int32 → Int32 → (Nat → Int32) → R} : ∀ (n m : Nat) (x1 : Int32) (x2 : Int32) (tx_length : Int32) (tx_signs : Nat → Int32), -8 ≤ Int32.toInt x2 ∧ Int32.toInt x2 ≤ 24 → Int32.toInt x2 + 8 < (m : Int) → wb_X8_add_14 P n x1 x2 tx_length tx_signs → (∀ (b0 : Int32) (b1 : Int32) (b2 : Nat → Int32), po b0 b1 b2 = flp (fs_X8_add_14 po) d m x1 x2 tx_length tx_signs → P b0 b1 b2 → Q b0 b1 b2) → wb_X8_add_14 Q n x1 x2 tx_length tx_signs := by
  have l0 : Int32.toInt (0 : Int32) = 0 := by decide
  intro n
  induction n with
  | zero => intro m x1 x2 tx_length tx_signs hv hm h hq; exact False.elim h
  | succ n ih =>
    intro m x1 x2 tx_length tx_signs hv hm h hq
    cases m with
    | zero => exfalso; omega
    | succ m =>
      rw [flp_s, fs_X8_add_14] at hq
      have h : ws_X8_add_14 P (wb_X8_add_14 P n) x1 x2 tx_length tx_signs := h
      show ws_X8_add_14 Q (wb_X8_add_14 Q n) x1 x2 tx_length tx_signs
      unfold ws_X8_add_14 at h ⊢
      refine And.intro (fun c1 => ?_) (fun c1 => ?_)
      · have h := And.left h c1
        rw [if_pos c1] at hq
        have dc1 := (fa_lt _ _).mp c1
        exact hq _ _ _ rfl h
      · have h := And.right h c1
        rw [if_neg c1] at hq
        have dc1 := mt (fa_lt _ _).mpr c1
        refine ae ?_
        have h := h _ rfl
        refine ae ?_
        have h := h _ rfl
        refine And.intro (And.left h) ?_
        have h := And.right h
        refine ae ?_
        have h := h _ rfl
        refine ae ?_
        have h := h _ rfl
        have l8 : Int32.toInt (-8 : Int32) = -8 := by decide
        have f9 := ta_add x2 (-8) (by omega)
        exact ih m _ _ _ _ (by omega) (by omega) h hq
noncomputable def F_X8_add (p0 : Int32) (tx_length : Int32) (tx_signs : Nat → Int32) : Int32 × Int32 × (Nat → Int32) := if tx_length ≤ 76 then (flp (fs_X8_add_14 (fun o0 o1 o2 => (o0, o1, o2))) (fun _ _ _ _ => (0, 0, (fun _ => 0))) 33 p0 24 tx_length tx_signs) else ((-1), tx_length, tx_signs)
set_option maxHeartbeats 200000 in
set_option maxRecDepth 10000 in
theorem dt_X8_add {P Q : Int32 → Int32 → (Nat → Int32) → Prop} {p0 : Int32} {tx_length : Int32} {tx_signs : Nat → Int32} (h : wp_X8_add P p0 tx_length tx_signs) (hq : ∀ o : Int32 × Int32 × (Nat → Int32), o = F_X8_add p0 tx_length tx_signs → P o.1 o.2.1 o.2.2 → Q o.1 o.2.1 o.2.2) : wp_X8_add Q p0 tx_length tx_signs := by
  rw [F_X8_add] at hq
  refine And.intro (fun c1 => ?_) (fun c1 => ?_)
  · have h := And.left h c1
    rw [if_pos c1] at hq
    obtain ⟨n2, h⟩ := h
    exact ⟨n2, dl_X8_add_14 n2 33 _ _ _ _ (by decide) (by decide) h (fun b0 b1 b2 e9 h9 => hq (b0, b1, b2) e9 h9)⟩
  · have h := And.right h c1
    rw [if_neg c1] at hq
    have q9 := hq _ rfl
    dsimp only at q9
    exact q9 h
theorem du_X8_add {P Q : Int32 → Int32 → (Nat → Int32) → Prop} {p0 : Int32} {tx_length : Int32} {tx_signs : Nat → Int32} (h : wp_X8_add P p0 tx_length tx_signs) (hq : P (F_X8_add p0 tx_length tx_signs).1 (F_X8_add p0 tx_length tx_signs).2.1 (F_X8_add p0 tx_length tx_signs).2.2 → Q (F_X8_add p0 tx_length tx_signs).1 (F_X8_add p0 tx_length tx_signs).2.1 (F_X8_add p0 tx_length tx_signs).2.2) : wp_X8_add Q p0 tx_length tx_signs := dt_X8_add h (fun o eo => by rw [eo]; exact hq)
noncomputable def F_X9_sign (p0 : Int32) (tx_length : Int32) (tx_signs : Nat → Int32) : Int32 × Int32 × (Nat → Int32) := ((F_X8_add p0 tx_length tx_signs).1, (F_X8_add p0 tx_length tx_signs).2.1, (F_X8_add p0 tx_length tx_signs).2.2)
set_option maxHeartbeats 200000 in
set_option maxRecDepth 10000 in
theorem dt_X9_sign {P Q : Int32 → Int32 → (Nat → Int32) → Prop} {p0 : Int32} {tx_length : Int32} {tx_signs : Nat → Int32} (h : wp_X9_sign P p0 tx_length tx_signs) (hq : ∀ o : Int32 × Int32 × (Nat → Int32), o = F_X9_sign p0 tx_length tx_signs → P o.1 o.2.1 o.2.2 → Q o.1 o.2.1 o.2.2) : wp_X9_sign Q p0 tx_length tx_signs := by
  rw [F_X9_sign] at hq
  refine du_X8_add h ?_
  intro h
  have q9 := hq _ rfl
  dsimp only at q9
  exact q9 h
theorem du_X9_sign {P Q : Int32 → Int32 → (Nat → Int32) → Prop} {p0 : Int32} {tx_length : Int32} {tx_signs : Nat → Int32} (h : wp_X9_sign P p0 tx_length tx_signs) (hq : P (F_X9_sign p0 tx_length tx_signs).1 (F_X9_sign p0 tx_length tx_signs).2.1 (F_X9_sign p0 tx_length tx_signs).2.2 → Q (F_X9_sign p0 tx_length tx_signs).1 (F_X9_sign p0 tx_length tx_signs).2.1 (F_X9_sign p0 tx_length tx_signs).2.2) : wp_X9_sign Q p0 tx_length tx_signs := dt_X9_sign h (fun o eo => by rw [eo]; exact hq)
theorem dw_X9_sign {Q : Int32 → Int32 → (Nat → Int32) → Prop} {p0 : Int32} {tx_length : Int32} {tx_signs : Nat → Int32} (h : wp_X9_sign (fun o0 o1 o2 => (o0, o1, o2) = F_X9_sign p0 tx_length tx_signs → Q o0 o1 o2) p0 tx_length tx_signs) : wp_X9_sign Q p0 tx_length tx_signs := dt_X9_sign h (fun o eo hp => hp eo)
noncomputable def fs_X10_sign_20 {R : Type} (po : Int32 → Int32 → Int32 → (Nat → Int32) → R) (nx : Int32 → Int32 → Int32 → Int32 → (Nat → Int32) → R) (x1 : Int32) (x2 : Int32) (m_typed : Int32) (m_thrown : Int32) (m_text : Nat → Int32) : R := if x2 < 0 then (po m_typed m_typed m_thrown m_text) else (nx x1 (x2 + (-1)) (m_typed + 1) m_thrown (upd m_text m_typed.toNatClampNeg (vp_nar .byte ((x1 >>> ((8 * x2) &&& 31)).toInt8.toInt32))))
set_option maxHeartbeats 200000 in
set_option maxRecDepth 10000 in
theorem dl_X10_sign_20 {P Q : Int32 → Int32 → Int32 → (Nat → Int32) → Prop} {R : Type} {po : Int32 → Int32 → Int32 → (Nat → Int32) → R} {d : Int32 → Int32 → Int32 → Int32 → (Nat → Int32) → R} : ∀ (n m : Nat) (x1 : Int32) (x2 : Int32) (m_typed : Int32) (m_thrown : Int32) (m_text : Nat → Int32), -1 ≤ Int32.toInt x2 ∧ Int32.toInt x2 ≤ 3 → Int32.toInt x2 + 1 < (m : Int) → wb_X10_sign_20 P n x1 x2 m_typed m_thrown m_text → (∀ (b0 : Int32) (b1 : Int32) (b2 : Int32) (b3 : Nat → Int32), po b0 b1 b2 b3 = flp (fs_X10_sign_20 po) d m x1 x2 m_typed m_thrown m_text → P b0 b1 b2 b3 → Q b0 b1 b2 b3) → wb_X10_sign_20 Q n x1 x2 m_typed m_thrown m_text := by
  have l0 : Int32.toInt (0 : Int32) = 0 := by decide
  intro n
  induction n with
  | zero => intro m x1 x2 m_typed m_thrown m_text hv hm h hq; exact False.elim h
  | succ n ih =>
    intro m x1 x2 m_typed m_thrown m_text hv hm h hq
    cases m with
    | zero => exfalso; omega
    | succ m =>
      rw [flp_s, fs_X10_sign_20] at hq
      have h : ws_X10_sign_20 P (wb_X10_sign_20 P n) x1 x2 m_typed m_thrown m_text := h
      show ws_X10_sign_20 Q (wb_X10_sign_20 Q n) x1 x2 m_typed m_thrown m_text
      unfold ws_X10_sign_20 at h ⊢
      refine And.intro (fun c1 => ?_) (fun c1 => ?_)
      · have h := And.left h c1
        rw [if_pos c1] at hq
        have dc1 := (fa_lt _ _).mp c1
        exact hq _ _ _ _ rfl h
      · have h := And.right h c1
        rw [if_neg c1] at hq
        have dc1 := mt (fa_lt _ _).mpr c1
        refine ae ?_
        have h := h _ rfl
        refine ae ?_
        have h := h _ rfl
        refine And.intro (And.left h) ?_
        have h := And.right h
        refine ae ?_
        have h := h _ rfl
        have l8 : Int32.toInt (-1 : Int32) = -1 := by decide
        have f9 := ta_add x2 (-1) (by omega)
        exact ih m _ _ _ _ _ (by omega) (by omega) h hq
noncomputable def F_X10_sign (p0 : Int32) (m_typed : Int32) (m_thrown : Int32) (m_text : Nat → Int32) : Int32 × Int32 × Int32 × (Nat → Int32) := if (m_typed + 4) ≤ 80 then (flp (fs_X10_sign_20 (fun o0 o1 o2 o3 => (o0, o1, o2, o3))) (fun _ _ _ _ _ => (0, 0, 0, (fun _ => 0))) 5 p0 3 m_typed 0 m_text) else ((-1), m_typed, 0, m_text)
set_option maxHeartbeats 200000 in
set_option maxRecDepth 10000 in
theorem dt_X10_sign {P Q : Int32 → Int32 → Int32 → (Nat → Int32) → Prop} {p0 : Int32} {m_typed : Int32} {m_thrown : Int32} {m_text : Nat → Int32} (h : wp_X10_sign P p0 m_typed m_thrown m_text) (hq : ∀ o : Int32 × Int32 × Int32 × (Nat → Int32), o = F_X10_sign p0 m_typed m_thrown m_text → P o.1 o.2.1 o.2.2.1 o.2.2.2 → Q o.1 o.2.1 o.2.2.1 o.2.2.2) : wp_X10_sign Q p0 m_typed m_thrown m_text := by
  rw [F_X10_sign] at hq
  refine ae ?_
  have h := h _ rfl
  refine And.intro (fun c1 => ?_) (fun c1 => ?_)
  · have h := And.left h c1
    rw [if_pos c1] at hq
    obtain ⟨n2, h⟩ := h
    exact ⟨n2, dl_X10_sign_20 n2 5 _ _ _ _ _ (by decide) (by decide) h (fun b0 b1 b2 b3 e9 h9 => hq (b0, b1, b2, b3) e9 h9)⟩
  · have h := And.right h c1
    rw [if_neg c1] at hq
    have q9 := hq _ rfl
    dsimp only at q9
    exact q9 h
theorem du_X10_sign {P Q : Int32 → Int32 → Int32 → (Nat → Int32) → Prop} {p0 : Int32} {m_typed : Int32} {m_thrown : Int32} {m_text : Nat → Int32} (h : wp_X10_sign P p0 m_typed m_thrown m_text) (hq : P (F_X10_sign p0 m_typed m_thrown m_text).1 (F_X10_sign p0 m_typed m_thrown m_text).2.1 (F_X10_sign p0 m_typed m_thrown m_text).2.2.1 (F_X10_sign p0 m_typed m_thrown m_text).2.2.2 → Q (F_X10_sign p0 m_typed m_thrown m_text).1 (F_X10_sign p0 m_typed m_thrown m_text).2.1 (F_X10_sign p0 m_typed m_thrown m_text).2.2.1 (F_X10_sign p0 m_typed m_thrown m_text).2.2.2) : wp_X10_sign Q p0 m_typed m_thrown m_text := dt_X10_sign h (fun o eo => by rw [eo]; exact hq)
theorem dw_X10_sign {Q : Int32 → Int32 → Int32 → (Nat → Int32) → Prop} {p0 : Int32} {m_typed : Int32} {m_thrown : Int32} {m_text : Nat → Int32} (h : wp_X10_sign (fun o0 o1 o2 o3 => (o0, o1, o2, o3) = F_X10_sign p0 m_typed m_thrown m_text → Q o0 o1 o2 o3) p0 m_typed m_thrown m_text) : wp_X10_sign Q p0 m_typed m_thrown m_text := dt_X10_sign h (fun o eo hp => hp eo)
noncomputable def F_X9_set (p0 : Int32) (p1 : Int32) (tr_settings : Nat → Int32) : Int32 × (Nat → Int32) := if p0 < 0 then ((-1), tr_settings) else (if 4 < p0 then ((-1), tr_settings) else (if p1 < (stL p0.toNatClampNeg) then ((-1), tr_settings) else (if p1 ≤ (stM p0.toNatClampNeg) then ((tr_settings p0.toNatClampNeg), (upd tr_settings p0.toNatClampNeg p1)) else ((-1), tr_settings))))
set_option maxHeartbeats 200000 in
set_option maxRecDepth 10000 in
theorem dt_X9_set {P Q : Int32 → (Nat → Int32) → Prop} {p0 : Int32} {p1 : Int32} {tr_settings : Nat → Int32} (h : wp_X9_set P p0 p1 tr_settings) (hq : ∀ o : Int32 × (Nat → Int32), o = F_X9_set p0 p1 tr_settings → P o.1 o.2 → Q o.1 o.2) : wp_X9_set Q p0 p1 tr_settings := by
  rw [F_X9_set] at hq
  refine And.intro (fun c1 => ?_) (fun c1 => ?_)
  · have h := And.left h c1
    rw [if_pos c1] at hq
    have q9 := hq _ rfl
    dsimp only at q9
    exact q9 h
  · have h := And.right h c1
    rw [if_neg c1] at hq
    refine And.intro (fun c2 => ?_) (fun c2 => ?_)
    · have h := And.left h c2
      rw [if_pos c2] at hq
      have q9 := hq _ rfl
      dsimp only at q9
      exact q9 h
    · have h := And.right h c2
      rw [if_neg c2] at hq
      refine And.intro (And.left h) ?_
      have h := And.right h
      refine And.intro (fun c3 => ?_) (fun c3 => ?_)
      · have h := And.left h c3
        rw [if_pos c3] at hq
        have q9 := hq _ rfl
        dsimp only at q9
        exact q9 h
      · have h := And.right h c3
        rw [if_neg c3] at hq
        refine And.intro (And.left h) ?_
        have h := And.right h
        refine And.intro (fun c4 => ?_) (fun c4 => ?_)
        · have h := And.left h c4
          rw [if_pos c4] at hq
          refine And.intro (And.left h) ?_
          have h := And.right h
          refine ae ?_
          have h := h _ rfl
          refine And.intro (And.left h) ?_
          have h := And.right h
          have q9 := hq _ rfl
          dsimp only at q9
          exact q9 h
        · have h := And.right h c4
          rw [if_neg c4] at hq
          have q9 := hq _ rfl
          dsimp only at q9
          exact q9 h
theorem du_X9_set {P Q : Int32 → (Nat → Int32) → Prop} {p0 : Int32} {p1 : Int32} {tr_settings : Nat → Int32} (h : wp_X9_set P p0 p1 tr_settings) (hq : P (F_X9_set p0 p1 tr_settings).1 (F_X9_set p0 p1 tr_settings).2 → Q (F_X9_set p0 p1 tr_settings).1 (F_X9_set p0 p1 tr_settings).2) : wp_X9_set Q p0 p1 tr_settings := dt_X9_set h (fun o eo => by rw [eo]; exact hq)
theorem dw_X9_set {Q : Int32 → (Nat → Int32) → Prop} {p0 : Int32} {p1 : Int32} {tr_settings : Nat → Int32} (h : wp_X9_set (fun o0 o1 => (o0, o1) = F_X9_set p0 p1 tr_settings → Q o0 o1) p0 p1 tr_settings) : wp_X9_set Q p0 p1 tr_settings := dt_X9_set h (fun o eo hp => hp eo)
noncomputable def j_X10_set_47 {R : Type} (po : Int32 → Int32 → (Nat → Int32) → R) (x1 : Int32) (x2 : Int32) (k0 : Int32) (k1 : Int32) (k2 : Int32) (m_thrown : Int32) (m_told : Nat → Int32) : R := if (F_X10_in k0 k1 k2) = 0 then (po (-1) m_thrown m_told) else (po (m_told x1.toNatClampNeg) m_thrown (upd m_told x1.toNatClampNeg x2))
noncomputable def j_X10_set_25 {R : Type} (po : Int32 → Int32 → (Nat → Int32) → R) (x1 : Int32) (x2 : Int32) (k0 : Int32) (k1 : Int32) (m_thrown : Int32) (m_told : Nat → Int32) : R := if x1 = 4 then (j_X10_set_47 po x1 x2 k0 k1 16 m_thrown m_told) else (if x1 = 3 then (j_X10_set_47 po x1 x2 k0 k1 9 m_thrown m_told) else (j_X10_set_47 po x1 x2 k0 k1 30 m_thrown m_told))
noncomputable def F_X10_set (p0 : Int32) (p1 : Int32) (m_thrown : Int32) (m_told : Nat → Int32) : Int32 × Int32 × (Nat → Int32) := if (F_X10_in p0 0 4) = 0 then ((-1), 0, m_told) else (if p0 = 4 then (j_X10_set_25 (fun o0 o1 o2 => (o0, o1, o2)) p0 p1 p1 1 0 m_told) else (j_X10_set_25 (fun o0 o1 o2 => (o0, o1, o2)) p0 p1 p1 0 0 m_told))
set_option maxHeartbeats 200000 in
set_option maxRecDepth 10000 in
theorem dt_X10_set {P Q : Int32 → Int32 → (Nat → Int32) → Prop} {p0 : Int32} {p1 : Int32} {m_thrown : Int32} {m_told : Nat → Int32} (h : wp_X10_set P p0 p1 m_thrown m_told) (hq : ∀ o : Int32 × Int32 × (Nat → Int32), o = F_X10_set p0 p1 m_thrown m_told → P o.1 o.2.1 o.2.2 → Q o.1 o.2.1 o.2.2) : wp_X10_set Q p0 p1 m_thrown m_told := by
  rw [F_X10_set] at hq
  refine du_X10_in h ?_
  intro h
  refine And.intro (fun c1 => ?_) (fun c1 => ?_)
  · have h := And.left h c1
    rw [if_pos c1] at hq
    have q9 := hq _ rfl
    dsimp only at q9
    exact q9 h
  · have h := And.right h c1
    rw [if_neg c1] at hq
    refine And.intro (fun c2 => ?_) (fun c2 => ?_)
    · have h := And.left h c2
      rw [if_neg c2] at hq
      rw [j_X10_set_25] at hq
      unfold ws_X10_set_25 at h ⊢
      refine And.intro (fun c3 => ?_) (fun c3 => ?_)
      · have h := And.left h c3
        rw [if_neg c3] at hq
        refine And.intro (fun c4 => ?_) (fun c4 => ?_)
        · have h := And.left h c4
          rw [if_neg c4] at hq
          rw [j_X10_set_47] at hq
          unfold ws_X10_set_47 at h ⊢
          refine du_X10_in h ?_
          intro h
          refine And.intro (fun c5 => ?_) (fun c5 => ?_)
          · have h := And.left h c5
            rw [if_neg c5] at hq
            refine And.intro (And.left h) ?_
            have h := And.right h
            refine ae ?_
            have h := h _ rfl
            refine And.intro (And.left h) ?_
            have h := And.right h
            have q9 := hq _ rfl
            dsimp only at q9
            exact q9 h
          · have h := And.right h c5
            rw [if_pos c5] at hq
            have q9 := hq _ rfl
            dsimp only at q9
            exact q9 h
        · have h := And.right h c4
          rw [if_pos c4] at hq
          rw [j_X10_set_47] at hq
          unfold ws_X10_set_47 at h ⊢
          refine du_X10_in h ?_
          intro h
          refine And.intro (fun c6 => ?_) (fun c6 => ?_)
          · have h := And.left h c6
            rw [if_neg c6] at hq
            refine And.intro (And.left h) ?_
            have h := And.right h
            refine ae ?_
            have h := h _ rfl
            refine And.intro (And.left h) ?_
            have h := And.right h
            have q9 := hq _ rfl
            dsimp only at q9
            exact q9 h
          · have h := And.right h c6
            rw [if_pos c6] at hq
            have q9 := hq _ rfl
            dsimp only at q9
            exact q9 h
      · have h := And.right h c3
        rw [if_pos c3] at hq
        rw [j_X10_set_47] at hq
        unfold ws_X10_set_47 at h ⊢
        refine du_X10_in h ?_
        intro h
        refine And.intro (fun c7 => ?_) (fun c7 => ?_)
        · have h := And.left h c7
          rw [if_neg c7] at hq
          refine And.intro (And.left h) ?_
          have h := And.right h
          refine ae ?_
          have h := h _ rfl
          refine And.intro (And.left h) ?_
          have h := And.right h
          have q9 := hq _ rfl
          dsimp only at q9
          exact q9 h
        · have h := And.right h c7
          rw [if_pos c7] at hq
          have q9 := hq _ rfl
          dsimp only at q9
          exact q9 h
    · have h := And.right h c2
      rw [if_pos c2] at hq
      rw [j_X10_set_25] at hq
      unfold ws_X10_set_25 at h ⊢
      refine And.intro (fun c8 => ?_) (fun c8 => ?_)
      · have h := And.left h c8
        rw [if_neg c8] at hq
        refine And.intro (fun c9 => ?_) (fun c9 => ?_)
        · have h := And.left h c9
          rw [if_neg c9] at hq
          rw [j_X10_set_47] at hq
          unfold ws_X10_set_47 at h ⊢
          refine du_X10_in h ?_
          intro h
          refine And.intro (fun c10 => ?_) (fun c10 => ?_)
          · have h := And.left h c10
            rw [if_neg c10] at hq
            refine And.intro (And.left h) ?_
            have h := And.right h
            refine ae ?_
            have h := h _ rfl
            refine And.intro (And.left h) ?_
            have h := And.right h
            have q9 := hq _ rfl
            dsimp only at q9
            exact q9 h
          · have h := And.right h c10
            rw [if_pos c10] at hq
            have q9 := hq _ rfl
            dsimp only at q9
            exact q9 h
        · have h := And.right h c9
          rw [if_pos c9] at hq
          rw [j_X10_set_47] at hq
          unfold ws_X10_set_47 at h ⊢
          refine du_X10_in h ?_
          intro h
          refine And.intro (fun c11 => ?_) (fun c11 => ?_)
          · have h := And.left h c11
            rw [if_neg c11] at hq
            refine And.intro (And.left h) ?_
            have h := And.right h
            refine ae ?_
            have h := h _ rfl
            refine And.intro (And.left h) ?_
            have h := And.right h
            have q9 := hq _ rfl
            dsimp only at q9
            exact q9 h
          · have h := And.right h c11
            rw [if_pos c11] at hq
            have q9 := hq _ rfl
            dsimp only at q9
            exact q9 h
      · have h := And.right h c8
        rw [if_pos c8] at hq
        rw [j_X10_set_47] at hq
        unfold ws_X10_set_47 at h ⊢
        refine du_X10_in h ?_
        intro h
        refine And.intro (fun c12 => ?_) (fun c12 => ?_)
        · have h := And.left h c12
          rw [if_neg c12] at hq
          refine And.intro (And.left h) ?_
          have h := And.right h
          refine ae ?_
          have h := h _ rfl
          refine And.intro (And.left h) ?_
          have h := And.right h
          have q9 := hq _ rfl
          dsimp only at q9
          exact q9 h
        · have h := And.right h c12
          rw [if_pos c12] at hq
          have q9 := hq _ rfl
          dsimp only at q9
          exact q9 h
theorem du_X10_set {P Q : Int32 → Int32 → (Nat → Int32) → Prop} {p0 : Int32} {p1 : Int32} {m_thrown : Int32} {m_told : Nat → Int32} (h : wp_X10_set P p0 p1 m_thrown m_told) (hq : P (F_X10_set p0 p1 m_thrown m_told).1 (F_X10_set p0 p1 m_thrown m_told).2.1 (F_X10_set p0 p1 m_thrown m_told).2.2 → Q (F_X10_set p0 p1 m_thrown m_told).1 (F_X10_set p0 p1 m_thrown m_told).2.1 (F_X10_set p0 p1 m_thrown m_told).2.2) : wp_X10_set Q p0 p1 m_thrown m_told := dt_X10_set h (fun o eo => by rw [eo]; exact hq)
theorem dw_X10_set {Q : Int32 → Int32 → (Nat → Int32) → Prop} {p0 : Int32} {p1 : Int32} {m_thrown : Int32} {m_told : Nat → Int32} (h : wp_X10_set (fun o0 o1 o2 => (o0, o1, o2) = F_X10_set p0 p1 m_thrown m_told → Q o0 o1 o2) p0 p1 m_thrown m_told) : wp_X10_set Q p0 p1 m_thrown m_told := dt_X10_set h (fun o eo hp => hp eo)
noncomputable def j_X3_fillWorths_70 {R : Type} (k9 : Int32 → Int32 → Int32 → Int32 → Int32 → Int32 → (Nat → Int32) → R) (tr_fruits : Int32) (x1 : Int32) (x2 : Int32) (x4 : Int32) (x5 : Int32) (x6 : Int32) (x7 : Int32) (k1 : Int32) (k2 : Int32) (tr_worth : Nat → Int32) : R := k9 x1 x2 x4 (x5 + ((upd tr_worth k1.toNatClampNeg k2) x7.toNatClampNeg)) (x6 + x4) (x7 + 1) (upd tr_worth k1.toNatClampNeg k2)
noncomputable def j_X3_fillWorths_41 {R : Type} (k9 : Int32 → Int32 → Int32 → Int32 → Int32 → Int32 → (Nat → Int32) → R) (tr_fruits : Int32) (x1 : Int32) (x2 : Int32) (x4 : Int32) (x5 : Int32) (x6 : Int32) (x7 : Int32) (k0 : Int32) (tr_worth : Nat → Int32) : R := if x2 ≤ x7 then (j_X3_fillWorths_70 k9 tr_fruits x1 x2 x4 x5 x6 x7 x7 0 tr_worth) else (j_X3_fillWorths_70 k9 tr_fruits x1 x2 x4 x5 x6 x7 x7 (if 0 < (if k0 < 9 then k0 else 9) then (if k0 < 9 then k0 else 9) else 0) tr_worth)
noncomputable def bd_X3_fillWorths_9 (tr_fruits : Int32) (x1 : Int32) (x2 : Int32) (x4 : Int32) (c : Int32) (s : Int32 × Int32 × (Nat → Int32)) : Int32 × Int32 × (Nat → Int32) := if x1 = 0 then (j_X3_fillWorths_41 (fun q0 q1 q2 q3 q4 q5 q6 => (q3, q4, q6)) tr_fruits x1 x2 x4 s.1 s.2.1 c s.2.1.toInt8.toInt32 s.2.2) else (if x1 = 1 then (j_X3_fillWorths_41 (fun q0 q1 q2 q3 q4 q5 q6 => (q3, q4, q6)) tr_fruits x1 x2 x4 s.1 s.2.1 c s.2.1.toInt16.toInt32 s.2.2) else (j_X3_fillWorths_41 (fun q0 q1 q2 q3 q4 q5 q6 => (q3, q4, q6)) tr_fruits x1 x2 x4 s.1 s.2.1 c s.2.1 s.2.2))
noncomputable def ex_X3_fillWorths_9 {R : Type} (po : Int32 → (Nat → Int32) → R) (tr_fruits : Int32) (x1 : Int32) (x2 : Int32) (x4 : Int32) (c : Int32) (s : Int32 × Int32 × (Nat → Int32)) : R := po s.1 s.2.2
set_option maxHeartbeats 200000 in
set_option maxRecDepth 10000 in
theorem dl_X3_fillWorths_9 {P Q : Int32 → (Nat → Int32) → Prop} {tr_fruits : Int32} {x1 : Int32} {x2 : Int32} {x4 : Int32} {a : Int32 × Int32 × (Nat → Int32)} {i : Nat} (hi0 : i < 2147483648) (hE : ∀ (c : Int32) (s : Int32 × Int32 × (Nat → Int32)), c = nI (i + (Int32.toInt tr_fruits - ((i : Nat) : Int)).toNat) → s = itr (bd_X3_fillWorths_9 tr_fruits x1 x2 x4) a i (Int32.toInt tr_fruits - ((i : Nat) : Int)).toNat → (P s.1 s.2.2) → (Q s.1 s.2.2)) : ∀ (n k : Nat) (c : Int32), c = nI (i + k) → k ≤ (Int32.toInt tr_fruits - ((i : Nat) : Int)).toNat → wb_X3_fillWorths_9 P tr_fruits n x1 x2 x4 (itr (bd_X3_fillWorths_9 tr_fruits x1 x2 x4) a i k).1 (itr (bd_X3_fillWorths_9 tr_fruits x1 x2 x4) a i k).2.1 c (itr (bd_X3_fillWorths_9 tr_fruits x1 x2 x4) a i k).2.2 → wb_X3_fillWorths_9 Q tr_fruits n x1 x2 x4 (itr (bd_X3_fillWorths_9 tr_fruits x1 x2 x4) a i k).1 (itr (bd_X3_fillWorths_9 tr_fruits x1 x2 x4) a i k).2.1 c (itr (bd_X3_fillWorths_9 tr_fruits x1 x2 x4) a i k).2.2 := by
  intro n
  induction n with
  | zero => intro k c hc hk h; exact False.elim h
  | succ n ih =>
    intro k c hc hk h
    have hr := tp_r tr_fruits
    have hi : Int32.toInt c = ((i + k : Nat) : Int) := by rw [hc]; exact nI_toInt (by omega)
    refine And.intro (fun t0 => ?_) (fun t0 => ?_)
    · have h := And.left h t0
      have t1 := (fa_le _ _).mp t0
      have hk2 : k = (Int32.toInt tr_fruits - ((i : Nat) : Int)).toNat := by omega
      subst hk2
      exact hE _ _ hc rfl h
    · have h := And.right h t0
      have t1 := mt (fa_le _ _).mpr t0
      have hs : ∀ o : Int32 × Int32 × (Nat → Int32), o = itr (bd_X3_fillWorths_9 tr_fruits x1 x2 x4) a i (k + 1) → wb_X3_fillWorths_9 P tr_fruits n x1 x2 x4 o.1 o.2.1 (c + 1) o.2.2 → wb_X3_fillWorths_9 Q tr_fruits n x1 x2 x4 o.1 o.2.1 (c + 1) o.2.2 := by
        intro o eo h9
        have q := ih (k + 1) (c + 1) (by rw [hc]; exact nI_1 _) (by omega)
        rw [← eo] at q
        exact q h9
      rw [itr_s, ← hc, bd_X3_fillWorths_9] at hs
      refine And.intro (fun c1 => ?_) (fun c1 => ?_)
      · have h := And.left h c1
        rw [if_neg c1] at hs
        refine And.intro (fun c2 => ?_) (fun c2 => ?_)
        · have h := And.left h c2
          rw [if_neg c2] at hs
          rw [j_X3_fillWorths_41] at hs
          unfold ws_X3_fillWorths_41 at h ⊢
          refine And.intro (fun c3 => ?_) (fun c3 => ?_)
          · have h := And.left h c3
            rw [if_pos c3] at hs
            rw [j_X3_fillWorths_70] at hs
            unfold ws_X3_fillWorths_70 at h ⊢
            refine And.intro (And.left h) ?_
            have h := And.right h
            refine And.intro (And.left h) ?_
            have h := And.right h
            refine ae ?_
            have h := h _ rfl
            refine ae ?_
            have h := h _ rfl
            refine ae ?_
            have h := h _ rfl
            have q9 := hs _ rfl
            dsimp only at q9
            exact q9 h
          · have h := And.right h c3
            rw [if_neg c3] at hs
            refine ae ?_
            have h := h _ rfl
            refine ae ?_
            have h := h _ rfl
            rw [j_X3_fillWorths_70] at hs
            unfold ws_X3_fillWorths_70 at h ⊢
            refine And.intro (And.left h) ?_
            have h := And.right h
            refine And.intro (And.left h) ?_
            have h := And.right h
            refine ae ?_
            have h := h _ rfl
            refine ae ?_
            have h := h _ rfl
            refine ae ?_
            have h := h _ rfl
            have q9 := hs _ rfl
            dsimp only at q9
            exact q9 h
        · have h := And.right h c2
          rw [if_pos c2] at hs
          refine ae ?_
          have h := h _ rfl
          rw [j_X3_fillWorths_41] at hs
          unfold ws_X3_fillWorths_41 at h ⊢
          refine And.intro (fun c4 => ?_) (fun c4 => ?_)
          · have h := And.left h c4
            rw [if_pos c4] at hs
            rw [j_X3_fillWorths_70] at hs
            unfold ws_X3_fillWorths_70 at h ⊢
            refine And.intro (And.left h) ?_
            have h := And.right h
            refine And.intro (And.left h) ?_
            have h := And.right h
            refine ae ?_
            have h := h _ rfl
            refine ae ?_
            have h := h _ rfl
            refine ae ?_
            have h := h _ rfl
            have q9 := hs _ rfl
            dsimp only at q9
            exact q9 h
          · have h := And.right h c4
            rw [if_neg c4] at hs
            refine ae ?_
            have h := h _ rfl
            refine ae ?_
            have h := h _ rfl
            rw [j_X3_fillWorths_70] at hs
            unfold ws_X3_fillWorths_70 at h ⊢
            refine And.intro (And.left h) ?_
            have h := And.right h
            refine And.intro (And.left h) ?_
            have h := And.right h
            refine ae ?_
            have h := h _ rfl
            refine ae ?_
            have h := h _ rfl
            refine ae ?_
            have h := h _ rfl
            have q9 := hs _ rfl
            dsimp only at q9
            exact q9 h
      · have h := And.right h c1
        rw [if_pos c1] at hs
        refine ae ?_
        have h := h _ rfl
        rw [j_X3_fillWorths_41] at hs
        unfold ws_X3_fillWorths_41 at h ⊢
        refine And.intro (fun c5 => ?_) (fun c5 => ?_)
        · have h := And.left h c5
          rw [if_pos c5] at hs
          rw [j_X3_fillWorths_70] at hs
          unfold ws_X3_fillWorths_70 at h ⊢
          refine And.intro (And.left h) ?_
          have h := And.right h
          refine And.intro (And.left h) ?_
          have h := And.right h
          refine ae ?_
          have h := h _ rfl
          refine ae ?_
          have h := h _ rfl
          refine ae ?_
          have h := h _ rfl
          have q9 := hs _ rfl
          dsimp only at q9
          exact q9 h
        · have h := And.right h c5
          rw [if_neg c5] at hs
          refine ae ?_
          have h := h _ rfl
          refine ae ?_
          have h := h _ rfl
          rw [j_X3_fillWorths_70] at hs
          unfold ws_X3_fillWorths_70 at h ⊢
          refine And.intro (And.left h) ?_
          have h := And.right h
          refine And.intro (And.left h) ?_
          have h := And.right h
          refine ae ?_
          have h := h _ rfl
          refine ae ?_
          have h := h _ rfl
          refine ae ?_
          have h := h _ rfl
          have q9 := hs _ rfl
          dsimp only at q9
          exact q9 h
noncomputable def F_X3_fillWorths (p0 : Int32) (p1 : Int32) (p2 : Int32) (p3 : Int32) (tr_fruits : Int32) (tr_worth : Nat → Int32) : Int32 × (Nat → Int32) := ex_X3_fillWorths_9 (fun o0 o1 => (o0, o1)) tr_fruits p0 p1 p3 (nI (0 + (Int32.toInt tr_fruits - ((0 : Nat) : Int)).toNat)) (itr (bd_X3_fillWorths_9 tr_fruits p0 p1 p3) (0, p2, tr_worth) 0 (Int32.toInt tr_fruits - ((0 : Nat) : Int)).toNat)
set_option maxHeartbeats 200000 in
set_option maxRecDepth 10000 in
theorem dt_X3_fillWorths {P Q : Int32 → (Nat → Int32) → Prop} {p0 : Int32} {p1 : Int32} {p2 : Int32} {p3 : Int32} {tr_fruits : Int32} {tr_worth : Nat → Int32} (h : wp_X3_fillWorths P p0 p1 p2 p3 tr_fruits tr_worth) (hq : ∀ o : Int32 × (Nat → Int32), o = F_X3_fillWorths p0 p1 p2 p3 tr_fruits tr_worth → P o.1 o.2 → Q o.1 o.2) : wp_X3_fillWorths Q p0 p1 p2 p3 tr_fruits tr_worth := by
  rw [F_X3_fillWorths] at hq
  obtain ⟨n1, h⟩ := h
  refine ⟨n1, dl_X3_fillWorths_9 (a := (0, p2, tr_worth)) (i := 0) (by decide) ?_ n1 0 0 (by decide) (Nat.zero_le _) h⟩
  intro cc2 s3 ec4 es5 h
  rw [← ec4, ← es5, ex_X3_fillWorths_9] at hq
  have q9 := hq _ rfl
  dsimp only at q9
  exact q9 h
theorem du_X3_fillWorths {P Q : Int32 → (Nat → Int32) → Prop} {p0 : Int32} {p1 : Int32} {p2 : Int32} {p3 : Int32} {tr_fruits : Int32} {tr_worth : Nat → Int32} (h : wp_X3_fillWorths P p0 p1 p2 p3 tr_fruits tr_worth) (hq : P (F_X3_fillWorths p0 p1 p2 p3 tr_fruits tr_worth).1 (F_X3_fillWorths p0 p1 p2 p3 tr_fruits tr_worth).2 → Q (F_X3_fillWorths p0 p1 p2 p3 tr_fruits tr_worth).1 (F_X3_fillWorths p0 p1 p2 p3 tr_fruits tr_worth).2) : wp_X3_fillWorths Q p0 p1 p2 p3 tr_fruits tr_worth := dt_X3_fillWorths h (fun o eo => by rw [eo]; exact hq)
noncomputable def F_X9_sheet (p0 : Int32) (p1 : Int32) (p2 : Int32) (p3 : Int32) (tr_fruits : Int32) (tr_worth : Nat → Int32) : Int32 × (Nat → Int32) := if p0 < 0 then ((-1), tr_worth) else (if 3 < p0 then ((-1), tr_worth) else (if p1 ≤ 16 then (if p0 = 3 then ((-3), (F_X3_fillWorths 2 0 0 0 tr_fruits tr_worth).2) else (if 0 ≤ p1 then ((F_X3_fillWorths p0 p1 p2 p3 tr_fruits tr_worth).1, (F_X3_fillWorths p0 p1 p2 p3 tr_fruits tr_worth).2) else ((-2), tr_worth))) else ((-1), tr_worth)))
set_option maxHeartbeats 200000 in
set_option maxRecDepth 10000 in
theorem dt_X9_sheet {P Q : Int32 → (Nat → Int32) → Prop} {p0 : Int32} {p1 : Int32} {p2 : Int32} {p3 : Int32} {tr_fruits : Int32} {tr_worth : Nat → Int32} (h : wp_X9_sheet P p0 p1 p2 p3 tr_fruits tr_worth) (hq : ∀ o : Int32 × (Nat → Int32), o = F_X9_sheet p0 p1 p2 p3 tr_fruits tr_worth → P o.1 o.2 → Q o.1 o.2) : wp_X9_sheet Q p0 p1 p2 p3 tr_fruits tr_worth := by
  rw [F_X9_sheet] at hq
  refine And.intro (fun c1 => ?_) (fun c1 => ?_)
  · have h := And.left h c1
    rw [if_pos c1] at hq
    have q9 := hq _ rfl
    dsimp only at q9
    exact q9 h
  · have h := And.right h c1
    rw [if_neg c1] at hq
    refine And.intro (fun c2 => ?_) (fun c2 => ?_)
    · have h := And.left h c2
      rw [if_pos c2] at hq
      have q9 := hq _ rfl
      dsimp only at q9
      exact q9 h
    · have h := And.right h c2
      rw [if_neg c2] at hq
      refine And.intro (fun c3 => ?_) (fun c3 => ?_)
      · have h := And.left h c3
        rw [if_pos c3] at hq
        refine And.intro (fun c4 => ?_) (fun c4 => ?_)
        · have h := And.left h c4
          rw [if_neg c4] at hq
          refine And.intro (fun c5 => ?_) (fun c5 => ?_)
          · have h := And.left h c5
            rw [if_pos c5] at hq
            refine du_X3_fillWorths h ?_
            intro h
            have q9 := hq _ rfl
            dsimp only at q9
            exact q9 h
          · have h := And.right h c5
            rw [if_neg c5] at hq
            have q9 := hq _ rfl
            dsimp only at q9
            exact q9 h
        · have h := And.right h c4
          rw [if_pos c4] at hq
          refine du_X3_fillWorths h ?_
          intro h
          have q9 := hq _ rfl
          dsimp only at q9
          exact q9 h
      · have h := And.right h c3
        rw [if_neg c3] at hq
        have q9 := hq _ rfl
        dsimp only at q9
        exact q9 h
theorem du_X9_sheet {P Q : Int32 → (Nat → Int32) → Prop} {p0 : Int32} {p1 : Int32} {p2 : Int32} {p3 : Int32} {tr_fruits : Int32} {tr_worth : Nat → Int32} (h : wp_X9_sheet P p0 p1 p2 p3 tr_fruits tr_worth) (hq : P (F_X9_sheet p0 p1 p2 p3 tr_fruits tr_worth).1 (F_X9_sheet p0 p1 p2 p3 tr_fruits tr_worth).2 → Q (F_X9_sheet p0 p1 p2 p3 tr_fruits tr_worth).1 (F_X9_sheet p0 p1 p2 p3 tr_fruits tr_worth).2) : wp_X9_sheet Q p0 p1 p2 p3 tr_fruits tr_worth := dt_X9_sheet h (fun o eo => by rw [eo]; exact hq)
theorem dw_X9_sheet {Q : Int32 → (Nat → Int32) → Prop} {p0 : Int32} {p1 : Int32} {p2 : Int32} {p3 : Int32} {tr_fruits : Int32} {tr_worth : Nat → Int32} (h : wp_X9_sheet (fun o0 o1 => (o0, o1) = F_X9_sheet p0 p1 p2 p3 tr_fruits tr_worth → Q o0 o1) p0 p1 p2 p3 tr_fruits tr_worth) : wp_X9_sheet Q p0 p1 p2 p3 tr_fruits tr_worth := dt_X9_sheet h (fun o eo hp => hp eo)
noncomputable def j_X10_sheet_109 {R : Type} (k43 : Int32 → Int32 → Int32 → Int32 → Int32 → Int32 → Int32 → (Nat → Int32) → R) (m_fruits : Int32) (x1 : Int32) (x2 : Int32) (x4 : Int32) (x5 : Int32) (x6 : Int32) (x7 : Int32) (k1 : Int32) (k2 : Int32) (m_thrown : Int32) (m_worth : Nat → Int32) : R := k43 x1 x2 x4 (x5 + ((upd m_worth k1.toNatClampNeg k2) x7.toNatClampNeg)) (x6 + x4) (x7 + 1) m_thrown (upd m_worth k1.toNatClampNeg k2)
noncomputable def j_X10_sheet_94 {R : Type} (k43 : Int32 → Int32 → Int32 → Int32 → Int32 → Int32 → Int32 → (Nat → Int32) → R) (m_fruits : Int32) (x1 : Int32) (x2 : Int32) (x4 : Int32) (x5 : Int32) (x6 : Int32) (x7 : Int32) (k1 : Int32) (m_thrown : Int32) (m_worth : Nat → Int32) : R := j_X10_sheet_109 k43 m_fruits x1 x2 x4 x5 x6 x7 k1 0 m_thrown m_worth
noncomputable def j_X10_sheet_75 {R : Type} (k43 : Int32 → Int32 → Int32 → Int32 → Int32 → Int32 → Int32 → (Nat → Int32) → R) (m_fruits : Int32) (x1 : Int32) (x2 : Int32) (x4 : Int32) (x5 : Int32) (x6 : Int32) (x7 : Int32) (k0 : Int32) (m_thrown : Int32) (m_worth : Nat → Int32) : R := if x1 = 3 then (j_X10_sheet_94 k43 m_fruits x1 x2 x4 x5 x6 x7 x7 m_thrown m_worth) else (if x7 < x2 then (j_X10_sheet_109 k43 m_fruits x1 x2 x4 x5 x6 x7 x7 (if 0 < (if k0 < 9 then k0 else 9) then (if k0 < 9 then k0 else 9) else 0) m_thrown m_worth) else (j_X10_sheet_94 k43 m_fruits x1 x2 x4 x5 x6 x7 x7 m_thrown m_worth))
noncomputable def bd_X10_sheet_43 (m_fruits : Int32) (x1 : Int32) (x2 : Int32) (x4 : Int32) (m_thrown : Int32) (c : Int32) (s : Int32 × Int32 × (Nat → Int32)) : Int32 × Int32 × (Nat → Int32) := if x1 = 0 then (j_X10_sheet_75 (fun q0 q1 q2 q3 q4 q5 q6 q7 => (q3, q4, q7)) m_fruits x1 x2 x4 s.1 s.2.1 c s.2.1.toInt8.toInt32 m_thrown s.2.2) else (if x1 = 1 then (j_X10_sheet_75 (fun q0 q1 q2 q3 q4 q5 q6 q7 => (q3, q4, q7)) m_fruits x1 x2 x4 s.1 s.2.1 c s.2.1.toInt16.toInt32 m_thrown s.2.2) else (j_X10_sheet_75 (fun q0 q1 q2 q3 q4 q5 q6 q7 => (q3, q4, q7)) m_fruits x1 x2 x4 s.1 s.2.1 c s.2.1 m_thrown s.2.2))
noncomputable def ex_X10_sheet_43 {R : Type} (po : Int32 → Int32 → (Nat → Int32) → R) (m_fruits : Int32) (x1 : Int32) (x2 : Int32) (x4 : Int32) (m_thrown : Int32) (c : Int32) (s : Int32 × Int32 × (Nat → Int32)) : R := if x1 = 3 then (po (-3) m_thrown s.2.2) else (po s.1 m_thrown s.2.2)
set_option maxHeartbeats 200000 in
set_option maxRecDepth 10000 in
theorem dl_X10_sheet_43 {P Q : Int32 → Int32 → (Nat → Int32) → Prop} {m_fruits : Int32} {x1 : Int32} {x2 : Int32} {x4 : Int32} {m_thrown : Int32} {a : Int32 × Int32 × (Nat → Int32)} {i : Nat} (hi0 : i < 2147483648) (hE : ∀ (c : Int32) (s : Int32 × Int32 × (Nat → Int32)), c = nI (i + (Int32.toInt m_fruits - ((i : Nat) : Int)).toNat) → s = itr (bd_X10_sheet_43 m_fruits x1 x2 x4 m_thrown) a i (Int32.toInt m_fruits - ((i : Nat) : Int)).toNat → ((¬ x1 = 3 → P s.1 m_thrown s.2.2) ∧ (x1 = 3 → P (-3) m_thrown s.2.2)) → ((¬ x1 = 3 → Q s.1 m_thrown s.2.2) ∧ (x1 = 3 → Q (-3) m_thrown s.2.2))) : ∀ (n k : Nat) (c : Int32), c = nI (i + k) → k ≤ (Int32.toInt m_fruits - ((i : Nat) : Int)).toNat → wb_X10_sheet_43 P m_fruits n x1 x2 x4 (itr (bd_X10_sheet_43 m_fruits x1 x2 x4 m_thrown) a i k).1 (itr (bd_X10_sheet_43 m_fruits x1 x2 x4 m_thrown) a i k).2.1 c m_thrown (itr (bd_X10_sheet_43 m_fruits x1 x2 x4 m_thrown) a i k).2.2 → wb_X10_sheet_43 Q m_fruits n x1 x2 x4 (itr (bd_X10_sheet_43 m_fruits x1 x2 x4 m_thrown) a i k).1 (itr (bd_X10_sheet_43 m_fruits x1 x2 x4 m_thrown) a i k).2.1 c m_thrown (itr (bd_X10_sheet_43 m_fruits x1 x2 x4 m_thrown) a i k).2.2 := by
  intro n
  induction n with
  | zero => intro k c hc hk h; exact False.elim h
  | succ n ih =>
    intro k c hc hk h
    have hr := tp_r m_fruits
    have hi : Int32.toInt c = ((i + k : Nat) : Int) := by rw [hc]; exact nI_toInt (by omega)
    refine And.intro (fun t0 => ?_) (fun t0 => ?_)
    · have h := And.left h t0
      have t1 := (fa_le _ _).mp t0
      have hk2 : k = (Int32.toInt m_fruits - ((i : Nat) : Int)).toNat := by omega
      subst hk2
      exact hE _ _ hc rfl h
    · have h := And.right h t0
      have t1 := mt (fa_le _ _).mpr t0
      have hs : ∀ o : Int32 × Int32 × (Nat → Int32), o = itr (bd_X10_sheet_43 m_fruits x1 x2 x4 m_thrown) a i (k + 1) → wb_X10_sheet_43 P m_fruits n x1 x2 x4 o.1 o.2.1 (c + 1) m_thrown o.2.2 → wb_X10_sheet_43 Q m_fruits n x1 x2 x4 o.1 o.2.1 (c + 1) m_thrown o.2.2 := by
        intro o eo h9
        have q := ih (k + 1) (c + 1) (by rw [hc]; exact nI_1 _) (by omega)
        rw [← eo] at q
        exact q h9
      rw [itr_s, ← hc, bd_X10_sheet_43] at hs
      refine And.intro (fun c1 => ?_) (fun c1 => ?_)
      · have h := And.left h c1
        rw [if_neg c1] at hs
        refine And.intro (fun c2 => ?_) (fun c2 => ?_)
        · have h := And.left h c2
          rw [if_neg c2] at hs
          rw [j_X10_sheet_75] at hs
          unfold ws_X10_sheet_75 at h ⊢
          refine And.intro (fun c3 => ?_) (fun c3 => ?_)
          · have h := And.left h c3
            rw [if_pos c3] at hs
            rw [j_X10_sheet_94] at hs
            unfold ws_X10_sheet_94 at h ⊢
            rw [j_X10_sheet_109] at hs
            unfold ws_X10_sheet_109 at h ⊢
            refine And.intro (And.left h) ?_
            have h := And.right h
            refine And.intro (And.left h) ?_
            have h := And.right h
            refine ae ?_
            have h := h _ rfl
            refine ae ?_
            have h := h _ rfl
            refine ae ?_
            have h := h _ rfl
            have q9 := hs _ rfl
            dsimp only at q9
            exact q9 h
          · have h := And.right h c3
            rw [if_neg c3] at hs
            refine And.intro (fun c4 => ?_) (fun c4 => ?_)
            · have h := And.left h c4
              rw [if_pos c4] at hs
              refine ae ?_
              have h := h _ rfl
              refine ae ?_
              have h := h _ rfl
              rw [j_X10_sheet_109] at hs
              unfold ws_X10_sheet_109 at h ⊢
              refine And.intro (And.left h) ?_
              have h := And.right h
              refine And.intro (And.left h) ?_
              have h := And.right h
              refine ae ?_
              have h := h _ rfl
              refine ae ?_
              have h := h _ rfl
              refine ae ?_
              have h := h _ rfl
              have q9 := hs _ rfl
              dsimp only at q9
              exact q9 h
            · have h := And.right h c4
              rw [if_neg c4] at hs
              rw [j_X10_sheet_94] at hs
              unfold ws_X10_sheet_94 at h ⊢
              rw [j_X10_sheet_109] at hs
              unfold ws_X10_sheet_109 at h ⊢
              refine And.intro (And.left h) ?_
              have h := And.right h
              refine And.intro (And.left h) ?_
              have h := And.right h
              refine ae ?_
              have h := h _ rfl
              refine ae ?_
              have h := h _ rfl
              refine ae ?_
              have h := h _ rfl
              have q9 := hs _ rfl
              dsimp only at q9
              exact q9 h
        · have h := And.right h c2
          rw [if_pos c2] at hs
          refine ae ?_
          have h := h _ rfl
          rw [j_X10_sheet_75] at hs
          unfold ws_X10_sheet_75 at h ⊢
          refine And.intro (fun c5 => ?_) (fun c5 => ?_)
          · have h := And.left h c5
            rw [if_pos c5] at hs
            rw [j_X10_sheet_94] at hs
            unfold ws_X10_sheet_94 at h ⊢
            rw [j_X10_sheet_109] at hs
            unfold ws_X10_sheet_109 at h ⊢
            refine And.intro (And.left h) ?_
            have h := And.right h
            refine And.intro (And.left h) ?_
            have h := And.right h
            refine ae ?_
            have h := h _ rfl
            refine ae ?_
            have h := h _ rfl
            refine ae ?_
            have h := h _ rfl
            have q9 := hs _ rfl
            dsimp only at q9
            exact q9 h
          · have h := And.right h c5
            rw [if_neg c5] at hs
            refine And.intro (fun c6 => ?_) (fun c6 => ?_)
            · have h := And.left h c6
              rw [if_pos c6] at hs
              refine ae ?_
              have h := h _ rfl
              refine ae ?_
              have h := h _ rfl
              rw [j_X10_sheet_109] at hs
              unfold ws_X10_sheet_109 at h ⊢
              refine And.intro (And.left h) ?_
              have h := And.right h
              refine And.intro (And.left h) ?_
              have h := And.right h
              refine ae ?_
              have h := h _ rfl
              refine ae ?_
              have h := h _ rfl
              refine ae ?_
              have h := h _ rfl
              have q9 := hs _ rfl
              dsimp only at q9
              exact q9 h
            · have h := And.right h c6
              rw [if_neg c6] at hs
              rw [j_X10_sheet_94] at hs
              unfold ws_X10_sheet_94 at h ⊢
              rw [j_X10_sheet_109] at hs
              unfold ws_X10_sheet_109 at h ⊢
              refine And.intro (And.left h) ?_
              have h := And.right h
              refine And.intro (And.left h) ?_
              have h := And.right h
              refine ae ?_
              have h := h _ rfl
              refine ae ?_
              have h := h _ rfl
              refine ae ?_
              have h := h _ rfl
              have q9 := hs _ rfl
              dsimp only at q9
              exact q9 h
      · have h := And.right h c1
        rw [if_pos c1] at hs
        refine ae ?_
        have h := h _ rfl
        rw [j_X10_sheet_75] at hs
        unfold ws_X10_sheet_75 at h ⊢
        refine And.intro (fun c7 => ?_) (fun c7 => ?_)
        · have h := And.left h c7
          rw [if_pos c7] at hs
          rw [j_X10_sheet_94] at hs
          unfold ws_X10_sheet_94 at h ⊢
          rw [j_X10_sheet_109] at hs
          unfold ws_X10_sheet_109 at h ⊢
          refine And.intro (And.left h) ?_
          have h := And.right h
          refine And.intro (And.left h) ?_
          have h := And.right h
          refine ae ?_
          have h := h _ rfl
          refine ae ?_
          have h := h _ rfl
          refine ae ?_
          have h := h _ rfl
          have q9 := hs _ rfl
          dsimp only at q9
          exact q9 h
        · have h := And.right h c7
          rw [if_neg c7] at hs
          refine And.intro (fun c8 => ?_) (fun c8 => ?_)
          · have h := And.left h c8
            rw [if_pos c8] at hs
            refine ae ?_
            have h := h _ rfl
            refine ae ?_
            have h := h _ rfl
            rw [j_X10_sheet_109] at hs
            unfold ws_X10_sheet_109 at h ⊢
            refine And.intro (And.left h) ?_
            have h := And.right h
            refine And.intro (And.left h) ?_
            have h := And.right h
            refine ae ?_
            have h := h _ rfl
            refine ae ?_
            have h := h _ rfl
            refine ae ?_
            have h := h _ rfl
            have q9 := hs _ rfl
            dsimp only at q9
            exact q9 h
          · have h := And.right h c8
            rw [if_neg c8] at hs
            rw [j_X10_sheet_94] at hs
            unfold ws_X10_sheet_94 at h ⊢
            rw [j_X10_sheet_109] at hs
            unfold ws_X10_sheet_109 at h ⊢
            refine And.intro (And.left h) ?_
            have h := And.right h
            refine And.intro (And.left h) ?_
            have h := And.right h
            refine ae ?_
            have h := h _ rfl
            refine ae ?_
            have h := h _ rfl
            refine ae ?_
            have h := h _ rfl
            have q9 := hs _ rfl
            dsimp only at q9
            exact q9 h
