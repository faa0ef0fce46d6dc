set_option maxHeartbeats 8000000 in
set_option maxRecDepth 200000 in
theorem ts_X10_pays_68 {post : Int32 → Int32 → Int32 → Nat → Int32 → Int32 → Int32 → Int32 → Int32 → Int32 → Int32 → Int32 → Int32 → Int32 → (Nat → Int32) → (Nat → Int32) → Prop} {K36 : Int32 → Int32 → Int32 → Int32 → Int32 → Int32 → Nat → Int32 → Int32 → Int32 → Int32 → Int32 → Int32 → Int32 → Int32 → Int32 → Int32 → (Nat → Int32) → (Nat → Int32) → Prop} {n36 : Int} (m_fruits : Int32) (m_standings : Int32) (m_ruleSize : Int32) (m_now : Nat → Int32) (m_x : Nat → Int32) (m_height : Nat → Int32) (m_worth : Nat → Int32) (m_ripe : Nat → Int32) (m_foot : Nat → Int32) (m_fork : Nat → Int32) (m_told : Nat → Int32) (m_text : Nat → Int32) (m_rule : Nat → Int32) (h_m_fruits : 0 ≤ Int32.toInt m_fruits ∧ Int32.toInt m_fruits ≤ 16) (h_m_standings : 0 ≤ Int32.toInt m_standings ∧ Int32.toInt m_standings ≤ 8) (h_m_ruleSize : 0 ≤ Int32.toInt m_ruleSize ∧ Int32.toInt m_ruleSize ≤ 40) (e0_m_now : ∀ k : Nat, k = 17 → -1 ≤ Int32.toInt (m_now k) ∧ Int32.toInt (m_now k) ≤ 7) (e1_m_now : ∀ k : Nat, k = 19 → 0 ≤ Int32.toInt (m_now k) ∧ Int32.toInt (m_now k) ≤ 9) (h_m_x : ∀ k : Nat, 0 ≤ Int32.toInt (m_x k) ∧ Int32.toInt (m_x k) ≤ 99) (h_m_height : ∀ k : Nat, 0 ≤ Int32.toInt (m_height k) ∧ Int32.toInt (m_height k) ≤ 99) (h_m_worth : ∀ k : Nat, 0 ≤ Int32.toInt (m_worth k) ∧ Int32.toInt (m_worth k) ≤ 9) (h_m_ripe : ∀ k : Nat, 0 ≤ Int32.toInt (m_ripe k) ∧ Int32.toInt (m_ripe k) ≤ 9) (h_m_foot : ∀ k : Nat, 0 ≤ Int32.toInt (m_foot k) ∧ Int32.toInt (m_foot k) ≤ 99) (h_m_fork : ∀ k : Nat, 0 ≤ Int32.toInt (m_fork k) ∧ Int32.toInt (m_fork k) ≤ 99) (e0_m_told : ∀ k : Nat, k = 4 → 1 ≤ Int32.toInt (m_told k) ∧ Int32.toInt (m_told k) ≤ 30) (e1_m_told : ∀ k : Nat, k = 3 → 0 ≤ Int32.toInt (m_told k) ∧ Int32.toInt (m_told k) ≤ 9) (h_m_text : ∀ k : Nat, -128 ≤ Int32.toInt (m_text k) ∧ Int32.toInt (m_text k) ≤ 127) (h_m_rule : ∀ k : Nat, -128 ≤ Int32.toInt (m_rule k) ∧ Int32.toInt (m_rule k) ≤ 127) (hpost : ∀ (r : Int32) (m_rowMany' : Int32) (m_thrown' : Int32) (m_read' : Nat) (m_length' : Int32) (m_top' : Int32) (m_at' : Int32) (m_wrong' : Int32) (m_isAsked' : Int32) (m_askedFruit' : Int32) (m_askedStanding' : Int32) (m_askedHook' : Int32) (m_askedApron' : Int32) (m_wanted' : Int32) (m_row' : Nat → Int32) (m_hand' : Nat → Int32), (0 ≤ Int32.toInt m_rowMany' ∧ Int32.toInt m_rowMany' ≤ 16) → (0 ≤ Int32.toInt m_thrown' ∧ Int32.toInt m_thrown' ≤ 0) → (m_read' = 0 ∨ m_read' = 1 ∨ m_read' = 2) → (0 ≤ Int32.toInt m_length' ∧ Int32.toInt m_length' ≤ 80) → (0 ≤ Int32.toInt m_top' ∧ Int32.toInt m_top' ≤ 80) → (0 ≤ Int32.toInt m_at' ∧ Int32.toInt m_at' ≤ 80) → (-1 ≤ Int32.toInt m_wrong' ∧ Int32.toInt m_wrong' ≤ 80) → (0 ≤ Int32.toInt m_isAsked' ∧ Int32.toInt m_isAsked' ≤ 0) → (0 ≤ Int32.toInt m_askedFruit' ∧ Int32.toInt m_askedFruit' ≤ 15) → (0 ≤ Int32.toInt m_askedStanding' ∧ Int32.toInt m_askedStanding' ≤ 7) → (0 ≤ Int32.toInt m_askedHook' ∧ Int32.toInt m_askedHook' ≤ 1) → (0 ≤ Int32.toInt m_askedApron' ∧ Int32.toInt m_askedApron' ≤ 63) → (0 ≤ Int32.toInt m_wanted' ∧ Int32.toInt m_wanted' ≤ 65535) → (∀ k : Nat, 0 ≤ Int32.toInt (m_hand' k) ∧ Int32.toInt (m_hand' k) ≤ 65535) → post r m_rowMany' m_thrown' m_read' m_length' m_top' m_at' m_wrong' m_isAsked' m_askedFruit' m_askedStanding' m_askedHook' m_askedApron' m_wanted' m_row' m_hand') (hK36 : ∀ (x1 : Int32) (x2 : Int32) (x3 : Int32) (x4 : Int32) (m_rowMany : Int32) (m_thrown : Int32) (m_read : Nat) (m_length : Int32) (m_top : Int32) (m_at : Int32) (m_wrong : Int32) (m_isAsked : Int32) (m_askedFruit : Int32) (m_askedStanding : Int32) (m_askedHook : Int32) (m_askedApron : Int32) (m_wanted : Int32) (m_row : Nat → Int32) (m_hand : Nat → Int32), (0 ≤ Int32.toInt x1 ∧ Int32.toInt x1 ≤ 7) → (0 ≤ Int32.toInt x2 ∧ Int32.toInt x2 ≤ 65535) → (0 ≤ Int32.toInt x4 ∧ Int32.toInt x4 ≤ 16) → (0 ≤ Int32.toInt m_rowMany ∧ Int32.toInt m_rowMany ≤ 16) → (0 ≤ Int32.toInt m_thrown ∧ Int32.toInt m_thrown ≤ 0) → (m_read = 0 ∨ m_read = 1 ∨ m_read = 2) → (0 ≤ Int32.toInt m_length ∧ Int32.toInt m_length ≤ 80) → (0 ≤ Int32.toInt m_top ∧ Int32.toInt m_top ≤ 80) → (0 ≤ Int32.toInt m_at ∧ Int32.toInt m_at ≤ 80) → (-1 ≤ Int32.toInt m_wrong ∧ Int32.toInt m_wrong ≤ 80) → (0 ≤ Int32.toInt m_isAsked ∧ Int32.toInt m_isAsked ≤ 0) → (0 ≤ Int32.toInt m_askedFruit ∧ Int32.toInt m_askedFruit ≤ 15) → (0 ≤ Int32.toInt m_askedStanding ∧ Int32.toInt m_askedStanding ≤ 7) → (0 ≤ Int32.toInt m_askedHook ∧ Int32.toInt m_askedHook ≤ 1) → (0 ≤ Int32.toInt m_askedApron ∧ Int32.toInt m_askedApron ≤ 63) → (0 ≤ Int32.toInt m_wanted ∧ Int32.toInt m_wanted ≤ 65535) → (∀ k : Nat, 0 ≤ Int32.toInt (m_hand k) ∧ Int32.toInt (m_hand k) ≤ 65535) → (16 - Int32.toInt x4 < n36) → K36 x1 x2 x3 x4 m_rowMany m_thrown m_read m_length m_top m_at m_wrong m_isAsked m_askedFruit m_askedStanding m_askedHook m_askedApron m_wanted m_row m_hand) (x1 : Int32) (x2 : Int32) (x4 : Int32) (k0 : Int32) (k1 : Int32) (m_rowMany : Int32) (m_thrown : Int32) (m_read : Nat) (m_length : Int32) (m_top : Int32) (m_at : Int32) (m_wrong : Int32) (m_isAsked : Int32) (m_askedFruit : Int32) (m_askedStanding : Int32) (m_askedHook : Int32) (m_askedApron : Int32) (m_wanted : Int32) (m_row : Nat → Int32) (m_hand : Nat → Int32) (h_x1 : 0 ≤ Int32.toInt x1 ∧ Int32.toInt x1 ≤ 7) (h_x2 : 0 ≤ Int32.toInt x2 ∧ Int32.toInt x2 ≤ 65535) (h_x4 : 0 ≤ Int32.toInt x4 ∧ Int32.toInt x4 ≤ 15) (h_k1 : 0 ≤ Int32.toInt k1 ∧ Int32.toInt k1 ≤ 99) (h_m_rowMany : 0 ≤ Int32.toInt m_rowMany ∧ Int32.toInt m_rowMany ≤ 16) (h_m_thrown : 0 ≤ Int32.toInt m_thrown ∧ Int32.toInt m_thrown ≤ 0) (h_m_read : m_read = 0 ∨ m_read = 1 ∨ m_read = 2) (h_m_length : 0 ≤ Int32.toInt m_length ∧ Int32.toInt m_length ≤ 80) (h_m_top : 0 ≤ Int32.toInt m_top ∧ Int32.toInt m_top ≤ 80) (h_m_at : 0 ≤ Int32.toInt m_at ∧ Int32.toInt m_at ≤ 80) (h_m_wrong : -1 ≤ Int32.toInt m_wrong ∧ Int32.toInt m_wrong ≤ 80) (h_m_isAsked : 0 ≤ Int32.toInt m_isAsked ∧ Int32.toInt m_isAsked ≤ 0) (h_m_askedFruit : 0 ≤ Int32.toInt m_askedFruit ∧ Int32.toInt m_askedFruit ≤ 15) (h_m_askedStanding : 0 ≤ Int32.toInt m_askedStanding ∧ Int32.toInt m_askedStanding ≤ 7) (h_m_askedHook : 0 ≤ Int32.toInt m_askedHook ∧ Int32.toInt m_askedHook ≤ 1) (h_m_askedApron : 0 ≤ Int32.toInt m_askedApron ∧ Int32.toInt m_askedApron ≤ 63) (h_m_wanted : 0 ≤ Int32.toInt m_wanted ∧ Int32.toInt m_wanted ≤ 65535) (h_m_hand : ∀ k : Nat, 0 ≤ Int32.toInt (m_hand k) ∧ Int32.toInt (m_hand k) ≤ 65535) (hn36 : 16 - Int32.toInt x4 ≤ n36) : ws_X10_pays_68 post K36 m_fruits m_standings m_ruleSize m_now m_x m_height m_worth m_ripe m_foot m_fork m_told m_text m_rule x1 x2 x4 k0 k1 m_rowMany m_thrown m_read m_length m_top m_at m_wrong m_isAsked m_askedFruit m_askedStanding m_askedHook m_askedApron m_wanted m_row m_hand := by
  have l0 : Int32.toInt (1 : Int32) = 1 := (by decide)
  intro v1 ev1
  have hv1 := congrArg Int32.toInt ev1
  intro v3 ev3
  have f4 : Int32.toInt (x4 + 1) = Int32.toInt x4 + Int32.toInt (1 : Int32) := ta_add _ _ (by omega)
  rw [← ev3] at f4
  have f5 := tp_r v1
  exact hK36 x1 x2 v1 v3 m_rowMany m_thrown m_read m_length m_top m_at m_wrong m_isAsked m_askedFruit m_askedStanding m_askedHook m_askedApron m_wanted m_row m_hand (by omega) (by omega) (by omega) (by omega) (by omega) (by first | exact h_m_read | exact Or.inl rfl | exact Or.inr rfl | omega) (by omega) (by omega) (by omega) (by omega) (by omega) (by omega) (by omega) (by omega) (by omega) (by omega) (fun k => by have q9 := h_m_hand k; omega) (by omega)
set_option maxHeartbeats 8000000 in
set_option maxRecDepth 200000 in
theorem ts_X10_pays_109 {post : Int32 → Int32 → Int32 → Nat → Int32 → Int32 → Int32 → Int32 → Int32 → Int32 → Int32 → Int32 → Int32 → Int32 → (Nat → Int32) → (Nat → Int32) → Prop} (m_fruits : Int32) (m_standings : Int32) (m_ruleSize : Int32) (m_now : Nat → Int32) (m_x : Nat → Int32) (m_height : Nat → Int32) (m_worth : Nat → Int32) (m_ripe : Nat → Int32) (m_foot : Nat → Int32) (m_fork : Nat → Int32) (m_told : Nat → Int32) (m_text : Nat → Int32) (m_rule : Nat → Int32) (h_m_fruits : 0 ≤ Int32.toInt m_fruits ∧ Int32.toInt m_fruits ≤ 16) (h_m_standings : 0 ≤ Int32.toInt m_standings ∧ Int32.toInt m_standings ≤ 8) (h_m_ruleSize : 0 ≤ Int32.toInt m_ruleSize ∧ Int32.toInt m_ruleSize ≤ 40) (e0_m_now : ∀ k : Nat, k = 17 → -1 ≤ Int32.toInt (m_now k) ∧ Int32.toInt (m_now k) ≤ 7) (e1_m_now : ∀ k : Nat, k = 19 → 0 ≤ Int32.toInt (m_now k) ∧ Int32.toInt (m_now k) ≤ 9) (h_m_x : ∀ k : Nat, 0 ≤ Int32.toInt (m_x k) ∧ Int32.toInt (m_x k) ≤ 99) (h_m_height : ∀ k : Nat, 0 ≤ Int32.toInt (m_height k) ∧ Int32.toInt (m_height k) ≤ 99) (h_m_worth : ∀ k : Nat, 0 ≤ Int32.toInt (m_worth k) ∧ Int32.toInt (m_worth k) ≤ 9) (h_m_ripe : ∀ k : Nat, 0 ≤ Int32.toInt (m_ripe k) ∧ Int32.toInt (m_ripe k) ≤ 9) (h_m_foot : ∀ k : Nat, 0 ≤ Int32.toInt (m_foot k) ∧ Int32.toInt (m_foot k) ≤ 99) (h_m_fork : ∀ k : Nat, 0 ≤ Int32.toInt (m_fork k) ∧ Int32.toInt (m_fork k) ≤ 99) (e0_m_told : ∀ k : Nat, k = 4 → 1 ≤ Int32.toInt (m_told k) ∧ Int32.toInt (m_told k) ≤ 30) (e1_m_told : ∀ k : Nat, k = 3 → 0 ≤ Int32.toInt (m_told k) ∧ Int32.toInt (m_told k) ≤ 9) (h_m_text : ∀ k : Nat, -128 ≤ Int32.toInt (m_text k) ∧ Int32.toInt (m_text k) ≤ 127) (h_m_rule : ∀ k : Nat, -128 ≤ Int32.toInt (m_rule k) ∧ Int32.toInt (m_rule k) ≤ 127) (hpost : ∀ (r : Int32) (m_rowMany' : Int32) (m_thrown' : Int32) (m_read' : Nat) (m_length' : Int32) (m_top' : Int32) (m_at' : Int32) (m_wrong' : Int32) (m_isAsked' : Int32) (m_askedFruit' : Int32) (m_askedStanding' : Int32) (m_askedHook' : Int32) (m_askedApron' : Int32) (m_wanted' : Int32) (m_row' : Nat → Int32) (m_hand' : Nat → Int32), (0 ≤ Int32.toInt m_rowMany' ∧ Int32.toInt m_rowMany' ≤ 16) → (0 ≤ Int32.toInt m_thrown' ∧ Int32.toInt m_thrown' ≤ 0) → (m_read' = 0 ∨ m_read' = 1 ∨ m_read' = 2) → (0 ≤ Int32.toInt m_length' ∧ Int32.toInt m_length' ≤ 80) → (0 ≤ Int32.toInt m_top' ∧ Int32.toInt m_top' ≤ 80) → (0 ≤ Int32.toInt m_at' ∧ Int32.toInt m_at' ≤ 80) → (-1 ≤ Int32.toInt m_wrong' ∧ Int32.toInt m_wrong' ≤ 80) → (0 ≤ Int32.toInt m_isAsked' ∧ Int32.toInt m_isAsked' ≤ 0) → (0 ≤ Int32.toInt m_askedFruit' ∧ Int32.toInt m_askedFruit' ≤ 15) → (0 ≤ Int32.toInt m_askedStanding' ∧ Int32.toInt m_askedStanding' ≤ 7) → (0 ≤ Int32.toInt m_askedHook' ∧ Int32.toInt m_askedHook' ≤ 1) → (0 ≤ Int32.toInt m_askedApron' ∧ Int32.toInt m_askedApron' ≤ 63) → (0 ≤ Int32.toInt m_wanted' ∧ Int32.toInt m_wanted' ≤ 65535) → (∀ k : Nat, 0 ≤ Int32.toInt (m_hand' k) ∧ Int32.toInt (m_hand' k) ≤ 65535) → post r m_rowMany' m_thrown' m_read' m_length' m_top' m_at' m_wrong' m_isAsked' m_askedFruit' m_askedStanding' m_askedHook' m_askedApron' m_wanted' m_row' m_hand') (x1 : Int32) (x2 : Int32) (x3 : Int32) (k1 : Int32) (m_rowMany : Int32) (m_thrown : Int32) (m_read : Nat) (m_length : Int32) (m_top : Int32) (m_at : Int32) (m_wrong : Int32) (m_isAsked : Int32) (m_askedFruit : Int32) (m_askedStanding : Int32) (m_askedHook : Int32) (m_askedApron : Int32) (m_wanted : Int32) (m_row : Nat → Int32) (m_hand : Nat → Int32) (h_x1 : 0 ≤ Int32.toInt x1 ∧ Int32.toInt x1 ≤ 7) (h_x2 : 0 ≤ Int32.toInt x2 ∧ Int32.toInt x2 ≤ 65535) (h_m_rowMany : 0 ≤ Int32.toInt m_rowMany ∧ Int32.toInt m_rowMany ≤ 0) (h_m_thrown : 0 ≤ Int32.toInt m_thrown ∧ Int32.toInt m_thrown ≤ 0) (h_m_read : m_read = 0 ∨ m_read = 1 ∨ m_read = 2) (h_m_length : 0 ≤ Int32.toInt m_length ∧ Int32.toInt m_length ≤ 80) (h_m_top : 0 ≤ Int32.toInt m_top ∧ Int32.toInt m_top ≤ 80) (h_m_at : 0 ≤ Int32.toInt m_at ∧ Int32.toInt m_at ≤ 80) (h_m_wrong : -1 ≤ Int32.toInt m_wrong ∧ Int32.toInt m_wrong ≤ 80) (h_m_isAsked : 0 ≤ Int32.toInt m_isAsked ∧ Int32.toInt m_isAsked ≤ 0) (h_m_askedFruit : 0 ≤ Int32.toInt m_askedFruit ∧ Int32.toInt m_askedFruit ≤ 15) (h_m_askedStanding : 0 ≤ Int32.toInt m_askedStanding ∧ Int32.toInt m_askedStanding ≤ 7) (h_m_askedHook : 0 ≤ Int32.toInt m_askedHook ∧ Int32.toInt m_askedHook ≤ 1) (h_m_askedApron : 0 ≤ Int32.toInt m_askedApron ∧ Int32.toInt m_askedApron ≤ 63) (h_m_wanted : 0 ≤ Int32.toInt m_wanted ∧ Int32.toInt m_wanted ≤ 65535) (h_m_hand : ∀ k : Nat, 0 ≤ Int32.toInt (m_hand k) ∧ Int32.toInt (m_hand k) ≤ 65535) : ws_X10_pays_109 post m_fruits m_standings m_ruleSize m_now m_x m_height m_worth m_ripe m_foot m_fork m_told m_text m_rule x1 x2 x3 k1 m_rowMany m_thrown m_read m_length m_top m_at m_wrong m_isAsked m_askedFruit m_askedStanding m_askedHook m_askedApron m_wanted m_row m_hand := by
  have l0 : Int32.toInt (0 : Int32) = 0 := (by decide)
  have l1 : Int32.toInt (1 : Int32) = 1 := (by decide)
  have l2 : Int32.toInt (1431655765 : Int32) = 1431655765 := (by decide)
  have l3 : Int32.toInt (16 : Int32) = 16 := (by decide)
  have l4 : Int32.toInt (252645135 : Int32) = 252645135 := (by decide)
  have l5 : Int32.toInt (4 : Int32) = 4 := (by decide)
  have l6 : Int32.toInt (63 : Int32) = 63 := (by decide)
  have l7 : Int32.toInt (858993459 : Int32) = 858993459 := (by decide)
  have l8 : Int32.toInt (9 : Int32) = 9 := (by decide)
  refine And.intro (t_in (by omega)) ?_
  intro v6 ev6
  have f7 : Int32.toInt (m_rowMany + 1) = Int32.toInt m_rowMany + Int32.toInt (1 : Int32) := ta_add _ _ (by omega)
  rw [← ev6] at f7
  refine And.intro (t_in (by omega)) ?_
  intro v8 ev8
  have f9 : Int32.toInt (v6 + 1) = Int32.toInt v6 + Int32.toInt (1 : Int32) := ta_add _ _ (by omega)
  rw [← ev8] at f9
  intro v10 ev10
  intro v11 ev11
  have f13 := ti_andr v10 1431655765 (by omega)
  have f12 : Int32.toInt (x2 - (v10 &&& 1431655765)) = Int32.toInt x2 - Int32.toInt (v10 &&& 1431655765) := ta_sub _ _ (by omega)
  rw [← ev11] at f12
  intro v14 ev14
  have f15 := ti_andr v11 858993459 (by omega)
  have hv14 := congrArg Int32.toInt ev14
  intro v16 ev16
  intro v17 ev17
  have f19 := ti_andr v16 858993459 (by omega)
  have f18 : Int32.toInt (v14 + (v16 &&& 858993459)) = Int32.toInt v14 + Int32.toInt (v16 &&& 858993459) := ta_add _ _ (by omega)
  rw [← ev17] at f18
  intro v20 ev20
  have hv20 := congrArg Int32.toInt ev20
  intro v22 ev22
  have f23 := ti_andr v20 252645135 (by omega)
  have hv22 := congrArg Int32.toInt ev22
  intro v24 ev24
  have hv24 := congrArg Int32.toInt ev24
  intro v26 ev26
  have hv26 := congrArg Int32.toInt ev26
  have q28 := e0_m_told (4 : Int32).toNatClampNeg (by have e9 : (4 : Int32).toNatClampNeg = (Int32.toInt (4 : Int32)).toNat := rfl; omega)
  intro v29 ev29
  have f31 := ti_andr v26 63 (by omega)
  have f30 : Int32.toInt ((v26 &&& 63) + (m_told (4 : Int32).toNatClampNeg)) = Int32.toInt (v26 &&& 63) + Int32.toInt (m_told (4 : Int32).toNatClampNeg) := ta_add _ _ (by omega)
  rw [← ev29] at f30
  intro v33 ev33
  have f34 : Int32.toInt (v29 - 1) = Int32.toInt v29 - Int32.toInt (1 : Int32) := ta_sub _ _ (by omega)
  rw [← ev33] at f34
  have q35 := e0_m_told (4 : Int32).toNatClampNeg (by have e9 : (4 : Int32).toNatClampNeg = (Int32.toInt (4 : Int32)).toNat := rfl; omega)
  refine And.intro (mt (fa_eq _ _).mp (by omega)) ?_
  intro v36 ev36
  refine And.intro (t_in (by omega)) ?_
  intro v37 ev37
  have f38 := h_m_fork x1.toNatClampNeg
  have hv37 := congrArg Int32.toInt ev37
  intro v39 ev39
  have f40 : Int32.toInt (v37 + 9) = Int32.toInt v37 + Int32.toInt (9 : Int32) := ta_add _ _ (by omega)
  rw [← ev39] at f40
  intro v41 ev41
  have hv41 := congrArg Int32.toInt ev41
  refine And.intro (t_in (by omega)) ?_
  intro v43 ev43
  have f44 : Int32.toInt (v8 + 1) = Int32.toInt v8 + Int32.toInt (1 : Int32) := ta_add _ _ (by omega)
  rw [← ev43] at f44
  intro v45 ev45
  have hv45 := congrArg Int32.toInt ev45
  refine t_X10_worthOfAll (by omega) (by omega) (fun k => by have q9 := h_m_worth k; omega) (fun r47 => ?_)
  exact hpost _ _ _ _ _ _ _ _ _ _ _ _ _ _ _ _ (by omega) (by omega) (by first | exact h_m_read | exact Or.inl rfl | exact Or.inr rfl | omega) (by omega) (by omega) (by omega) (by omega) (by omega) (by omega) (by omega) (by omega) (by omega) (by omega) (fun k => by have q9 := h_m_hand k; omega)
set_option maxHeartbeats 8000000 in
set_option maxRecDepth 200000 in
theorem ts_X10_pays_36 {post : Int32 → Int32 → Int32 → Nat → Int32 → Int32 → Int32 → Int32 → Int32 → Int32 → Int32 → Int32 → Int32 → Int32 → (Nat → Int32) → (Nat → Int32) → Prop} {next : Int32 → Int32 → Int32 → Int32 → Int32 → Int32 → Nat → Int32 → Int32 → Int32 → Int32 → Int32 → Int32 → Int32 → Int32 → Int32 → Int32 → (Nat → Int32) → (Nat → Int32) → Prop} {n36 : Int} (m_fruits : Int32) (m_standings : Int32) (m_ruleSize : Int32) (m_now : Nat → Int32) (m_x : Nat → Int32) (m_height : Nat → Int32) (m_worth : Nat → Int32) (m_ripe : Nat → Int32) (m_foot : Nat → Int32) (m_fork : Nat → Int32) (m_told : Nat → Int32) (m_text : Nat → Int32) (m_rule : Nat → Int32) (h_m_fruits : 0 ≤ Int32.toInt m_fruits ∧ Int32.toInt m_fruits ≤ 16) (h_m_standings : 0 ≤ Int32.toInt m_standings ∧ Int32.toInt m_standings ≤ 8) (h_m_ruleSize : 0 ≤ Int32.toInt m_ruleSize ∧ Int32.toInt m_ruleSize ≤ 40) (e0_m_now : ∀ k : Nat, k = 17 → -1 ≤ Int32.toInt (m_now k) ∧ Int32.toInt (m_now k) ≤ 7) (e1_m_now : ∀ k : Nat, k = 19 → 0 ≤ Int32.toInt (m_now k) ∧ Int32.toInt (m_now k) ≤ 9) (h_m_x : ∀ k : Nat, 0 ≤ Int32.toInt (m_x k) ∧ Int32.toInt (m_x k) ≤ 99) (h_m_height : ∀ k : Nat, 0 ≤ Int32.toInt (m_height k) ∧ Int32.toInt (m_height k) ≤ 99) (h_m_worth : ∀ k : Nat, 0 ≤ Int32.toInt (m_worth k) ∧ Int32.toInt (m_worth k) ≤ 9) (h_m_ripe : ∀ k : Nat, 0 ≤ Int32.toInt (m_ripe k) ∧ Int32.toInt (m_ripe k) ≤ 9) (h_m_foot : ∀ k : Nat, 0 ≤ Int32.toInt (m_foot k) ∧ Int32.toInt (m_foot k) ≤ 99) (h_m_fork : ∀ k : Nat, 0 ≤ Int32.toInt (m_fork k) ∧ Int32.toInt (m_fork k) ≤ 99) (e0_m_told : ∀ k : Nat, k = 4 → 1 ≤ Int32.toInt (m_told k) ∧ Int32.toInt (m_told k) ≤ 30) (e1_m_told : ∀ k : Nat, k = 3 → 0 ≤ Int32.toInt (m_told k) ∧ Int32.toInt (m_told k) ≤ 9) (h_m_text : ∀ k : Nat, -128 ≤ Int32.toInt (m_text k) ∧ Int32.toInt (m_text k) ≤ 127) (h_m_rule : ∀ k : Nat, -128 ≤ Int32.toInt (m_rule k) ∧ Int32.toInt (m_rule k) ≤ 127) (hpost : ∀ (r : Int32) (m_rowMany' : Int32) (m_thrown' : Int32) (m_read' : Nat) (m_length' : Int32) (m_top' : Int32) (m_at' : Int32) (m_wrong' : Int32) (m_isAsked' : Int32) (m_askedFruit' : Int32) (m_askedStanding' : Int32) (m_askedHook' : Int32) (m_askedApron' : Int32) (m_wanted' : Int32) (m_row' : Nat → Int32) (m_hand' : Nat → Int32), (0 ≤ Int32.toInt m_rowMany' ∧ Int32.toInt m_rowMany' ≤ 16) → (0 ≤ Int32.toInt m_thrown' ∧ Int32.toInt m_thrown' ≤ 0) → (m_read' = 0 ∨ m_read' = 1 ∨ m_read' = 2) → (0 ≤ Int32.toInt m_length' ∧ Int32.toInt m_length' ≤ 80) → (0 ≤ Int32.toInt m_top' ∧ Int32.toInt m_top' ≤ 80) → (0 ≤ Int32.toInt m_at' ∧ Int32.toInt m_at' ≤ 80) → (-1 ≤ Int32.toInt m_wrong' ∧ Int32.toInt m_wrong' ≤ 80) → (0 ≤ Int32.toInt m_isAsked' ∧ Int32.toInt m_isAsked' ≤ 0) → (0 ≤ Int32.toInt m_askedFruit' ∧ Int32.toInt m_askedFruit' ≤ 15) → (0 ≤ Int32.toInt m_askedStanding' ∧ Int32.toInt m_askedStanding' ≤ 7) → (0 ≤ Int32.toInt m_askedHook' ∧ Int32.toInt m_askedHook' ≤ 1) → (0 ≤ Int32.toInt m_askedApron' ∧ Int32.toInt m_askedApron' ≤ 63) → (0 ≤ Int32.toInt m_wanted' ∧ Int32.toInt m_wanted' ≤ 65535) → (∀ k : Nat, 0 ≤ Int32.toInt (m_hand' k) ∧ Int32.toInt (m_hand' k) ≤ 65535) → post r m_rowMany' m_thrown' m_read' m_length' m_top' m_at' m_wrong' m_isAsked' m_askedFruit' m_askedStanding' m_askedHook' m_askedApron' m_wanted' m_row' m_hand') (hKn : ∀ (x1 : Int32) (x2 : Int32) (x3 : Int32) (x4 : Int32) (m_rowMany : Int32) (m_thrown : Int32) (m_read : Nat) (m_length : Int32) (m_top : Int32) (m_at : Int32) (m_wrong : Int32) (m_isAsked : Int32) (m_askedFruit : Int32) (m_askedStanding : Int32) (m_askedHook : Int32) (m_askedApron : Int32) (m_wanted : Int32) (m_row : Nat → Int32) (m_hand : Nat → Int32), (0 ≤ Int32.toInt x1 ∧ Int32.toInt x1 ≤ 7) → (0 ≤ Int32.toInt x2 ∧ Int32.toInt x2 ≤ 65535) → (0 ≤ Int32.toInt x4 ∧ Int32.toInt x4 ≤ 16) → (0 ≤ Int32.toInt m_rowMany ∧ Int32.toInt m_rowMany ≤ 16) → (0 ≤ Int32.toInt m_thrown ∧ Int32.toInt m_thrown ≤ 0) → (m_read = 0 ∨ m_read = 1 ∨ m_read = 2) → (0 ≤ Int32.toInt m_length ∧ Int32.toInt m_length ≤ 80) → (0 ≤ Int32.toInt m_top ∧ Int32.toInt m_top ≤ 80) → (0 ≤ Int32.toInt m_at ∧ Int32.toInt m_at ≤ 80) → (-1 ≤ Int32.toInt m_wrong ∧ Int32.toInt m_wrong ≤ 80) → (0 ≤ Int32.toInt m_isAsked ∧ Int32.toInt m_isAsked ≤ 0) → (0 ≤ Int32.toInt m_askedFruit ∧ Int32.toInt m_askedFruit ≤ 15) → (0 ≤ Int32.toInt m_askedStanding ∧ Int32.toInt m_askedStanding ≤ 7) → (0 ≤ Int32.toInt m_askedHook ∧ Int32.toInt m_askedHook ≤ 1) → (0 ≤ Int32.toInt m_askedApron ∧ Int32.toInt m_askedApron ≤ 63) → (0 ≤ Int32.toInt m_wanted ∧ Int32.toInt m_wanted ≤ 65535) → (∀ k : Nat, 0 ≤ Int32.toInt (m_hand k) ∧ Int32.toInt (m_hand k) ≤ 65535) → (16 - Int32.toInt x4 < n36) → next x1 x2 x3 x4 m_rowMany m_thrown m_read m_length m_top m_at m_wrong m_isAsked m_askedFruit m_askedStanding m_askedHook m_askedApron m_wanted m_row m_hand) (x1 : Int32) (x2 : Int32) (x3 : Int32) (x4 : Int32) (m_rowMany : Int32) (m_thrown : Int32) (m_read : Nat) (m_length : Int32) (m_top : Int32) (m_at : Int32) (m_wrong : Int32) (m_isAsked : Int32) (m_askedFruit : Int32) (m_askedStanding : Int32) (m_askedHook : Int32) (m_askedApron : Int32) (m_wanted : Int32) (m_row : Nat → Int32) (m_hand : Nat → Int32) (h_x1 : 0 ≤ Int32.toInt x1 ∧ Int32.toInt x1 ≤ 7) (h_x2 : 0 ≤ Int32.toInt x2 ∧ Int32.toInt x2 ≤ 65535) (h_x4 : 0 ≤ Int32.toInt x4 ∧ Int32.toInt x4 ≤ 16) (h_m_rowMany : 0 ≤ Int32.toInt m_rowMany ∧ Int32.toInt m_rowMany ≤ 16) (h_m_thrown : 0 ≤ Int32.toInt m_thrown ∧ Int32.toInt m_thrown ≤ 0) (h_m_read : m_read = 0 ∨ m_read = 1 ∨ m_read = 2) (h_m_length : 0 ≤ Int32.toInt m_length ∧ Int32.toInt m_length ≤ 80) (h_m_top : 0 ≤ Int32.toInt m_top ∧ Int32.toInt m_top ≤ 80) (h_m_at : 0 ≤ Int32.toInt m_at ∧ Int32.toInt m_at ≤ 80) (h_m_wrong : -1 ≤ Int32.toInt m_wrong ∧ Int32.toInt m_wrong ≤ 80) (h_m_isAsked : 0 ≤ Int32.toInt m_isAsked ∧ Int32.toInt m_isAsked ≤ 0) (h_m_askedFruit : 0 ≤ Int32.toInt m_askedFruit ∧ Int32.toInt m_askedFruit ≤ 15) (h_m_askedStanding : 0 ≤ Int32.toInt m_askedStanding ∧ Int32.toInt m_askedStanding ≤ 7) (h_m_askedHook : 0 ≤ Int32.toInt m_askedHook ∧ Int32.toInt m_askedHook ≤ 1) (h_m_askedApron : 0 ≤ Int32.toInt m_askedApron ∧ Int32.toInt m_askedApron ≤ 63) (h_m_wanted : 0 ≤ Int32.toInt m_wanted ∧ Int32.toInt m_wanted ≤ 65535) (h_m_hand : ∀ k : Nat, 0 ≤ Int32.toInt (m_hand k) ∧ Int32.toInt (m_hand k) ≤ 65535) (hn36 : 16 - Int32.toInt x4 ≤ n36) : ws_X10_pays_36 post next m_fruits m_standings m_ruleSize m_now m_x m_height m_worth m_ripe m_foot m_fork m_told m_text m_rule x1 x2 x3 x4 m_rowMany m_thrown m_read m_length m_top m_at m_wrong m_isAsked m_askedFruit m_askedStanding m_askedHook m_askedApron m_wanted m_row m_hand := by
  have l0 : Int32.toInt ((-1) : Int32) = -1 := (by decide)
  have l1 : Int32.toInt (0 : Int32) = 0 := (by decide)
  have l2 : Int32.toInt (1 : Int32) = 1 := (by decide)
  have l3 : Int32.toInt (17 : Int32) = 17 := (by decide)
  have l4 : Int32.toInt (3 : Int32) = 3 := (by decide)
  have l5 : Int32.toInt (9 : Int32) = 9 := (by decide)
  refine And.intro (fun c48 => ?_) (fun c48 => ?_)
  · skip
    have c48 := (fa_le _ _).mp c48
    have q49 := e0_m_now (17 : Int32).toNatClampNeg (by have e9 : (17 : Int32).toNatClampNeg = (Int32.toInt (17 : Int32)).toNat := rfl; omega)
    intro v50 ev50
    have hv50 := congrArg Int32.toInt ev50
    refine And.intro (fun c52 => ?_) (fun c52 => ?_)
    · skip
      have c52 := mt (fa_eq _ _).mpr c52
      have q53 := e0_m_now (17 : Int32).toNatClampNeg (by have e9 : (17 : Int32).toNatClampNeg = (Int32.toInt (17 : Int32)).toNat := rfl; omega)
      intro v54 ev54
      have hv54 := congrArg Int32.toInt ev54
      refine And.intro (fun c55 => ?_) (fun c55 => ?_)
      · skip
        have c55 := mt (fa_eq _ _).mpr c55
        have q56 := e1_m_told (3 : Int32).toNatClampNeg (by have e9 : (3 : Int32).toNatClampNeg = (Int32.toInt (3 : Int32)).toNat := rfl; omega)
        intro v57 ev57
        have hv57 := congrArg Int32.toInt ev57
        refine And.intro (t_in (by omega)) ?_
        intro v59 ev59
        have f60 := h_m_foot v54.toNatClampNeg
        have hv59 := congrArg Int32.toInt ev59
        refine And.intro (t_in (by omega)) ?_
        intro v61 ev61
        have f63 := h_m_foot x1.toNatClampNeg
        have f62 : Int32.toInt (v59 - (m_foot x1.toNatClampNeg)) = Int32.toInt v59 - Int32.toInt (m_foot x1.toNatClampNeg) := ta_sub _ _ (by omega)
        rw [← ev61] at f62
        intro v64 ev64
        have f65 := ti_abs v61 (by omega)
        have hv64 := congrArg Int32.toInt ev64
        have f66 := tp_r x3
        exact ts_X10_pays_109 m_fruits m_standings m_ruleSize m_now m_x m_height m_worth m_ripe m_foot m_fork m_told m_text m_rule h_m_fruits h_m_standings h_m_ruleSize e0_m_now e1_m_now h_m_x h_m_height h_m_worth h_m_ripe h_m_foot h_m_fork e0_m_told e1_m_told h_m_text h_m_rule hpost x1 x2 x3 (9 + (v57 * v64)) 0 m_thrown m_read m_length m_top m_at m_wrong m_isAsked m_askedFruit m_askedStanding m_askedHook m_askedApron m_wanted m_row m_hand (by omega) (by omega) (by omega) (by omega) (by first | exact h_m_read | exact Or.inl rfl | exact Or.inr rfl | omega) (by omega) (by omega) (by omega) (by omega) (by omega) (by omega) (by omega) (by omega) (by omega) (by omega) (fun k => by have q9 := h_m_hand k; omega)
      · skip
        have c55 := (fa_eq _ _).mp c55
        have f68 := tp_r x3
        exact ts_X10_pays_109 m_fruits m_standings m_ruleSize m_now m_x m_height m_worth m_ripe m_foot m_fork m_told m_text m_rule h_m_fruits h_m_standings h_m_ruleSize e0_m_now e1_m_now h_m_x h_m_height h_m_worth h_m_ripe h_m_foot h_m_fork e0_m_told e1_m_told h_m_text h_m_rule hpost x1 x2 x3 9 0 m_thrown m_read m_length m_top m_at m_wrong m_isAsked m_askedFruit m_askedStanding m_askedHook m_askedApron m_wanted m_row m_hand (by omega) (by omega) (by omega) (by omega) (by first | exact h_m_read | exact Or.inl rfl | exact Or.inr rfl | omega) (by omega) (by omega) (by omega) (by omega) (by omega) (by omega) (by omega) (by omega) (by omega) (by omega) (fun k => by have q9 := h_m_hand k; omega)
    · skip
      have c52 := (fa_eq _ _).mp c52
      have f69 := tp_r x3
      exact ts_X10_pays_109 m_fruits m_standings m_ruleSize m_now m_x m_height m_worth m_ripe m_foot m_fork m_told m_text m_rule h_m_fruits h_m_standings h_m_ruleSize e0_m_now e1_m_now h_m_x h_m_height h_m_worth h_m_ripe h_m_foot h_m_fork e0_m_told e1_m_told h_m_text h_m_rule hpost x1 x2 x3 0 0 m_thrown m_read m_length m_top m_at m_wrong m_isAsked m_askedFruit m_askedStanding m_askedHook m_askedApron m_wanted m_row m_hand (by omega) (by omega) (by omega) (by omega) (by first | exact h_m_read | exact Or.inl rfl | exact Or.inr rfl | omega) (by omega) (by omega) (by omega) (by omega) (by omega) (by omega) (by omega) (by omega) (by omega) (by omega) (fun k => by have q9 := h_m_hand k; omega)
  · skip
    have c48 := mt (fa_le _ _).mpr c48
    intro v70 ev70
    have f71 := ti_shr x2 x4 (by omega)
    have hv70 := congrArg Int32.toInt ev70
    intro v72 ev72
    have f73 := ti_andr v70 1 (by omega)
    have f74 := ti_andl v70 1 (by omega)
    have hv72 := congrArg Int32.toInt ev72
    refine And.intro (fun c75 => ?_) (fun c75 => ?_)
    · skip
      have c75 := mt (fa_eq _ _).mpr c75
      refine And.intro (fun _ => ?_) (fun h9 => absurd h9 (by decide))
      have f76 := tp_r x3
      exact ts_X10_pays_68 m_fruits m_standings m_ruleSize m_now m_x m_height m_worth m_ripe m_foot m_fork m_told m_text m_rule h_m_fruits h_m_standings h_m_ruleSize e0_m_now e1_m_now h_m_x h_m_height h_m_worth h_m_ripe h_m_foot h_m_fork e0_m_told e1_m_told h_m_text h_m_rule hpost hKn x1 x2 x4 x3 0 m_rowMany m_thrown m_read m_length m_top m_at m_wrong m_isAsked m_askedFruit m_askedStanding m_askedHook m_askedApron m_wanted m_row m_hand (by omega) (by omega) (by omega) (by omega) (by omega) (by omega) (by first | exact h_m_read | exact Or.inl rfl | exact Or.inr rfl | omega) (by omega) (by omega) (by omega) (by omega) (by omega) (by omega) (by omega) (by omega) (by omega) (by omega) (fun k => by have q9 := h_m_hand k; omega) (by omega)
    · skip
      have c75 := (fa_eq _ _).mp c75
      refine And.intro (fun h9 => absurd h9 (by decide)) (fun _ => ?_)
      refine t_X10_secondsOf (by omega) (by omega) (by omega) (by omega) (by first | exact h_m_read | exact Or.inl rfl | exact Or.inr rfl | omega) (by omega) (by omega) (by omega) (by omega) (by omega) (by omega) (by omega) (by omega) (by omega) (by omega) (fun k => by have q9 := h_m_x k; omega) (fun k => by have q9 := h_m_height k; omega) (fun k => by have q9 := h_m_worth k; omega) (fun k => by have q9 := h_m_foot k; omega) (fun k => by have q9 := h_m_fork k; omega) (fun k => by have q9 := h_m_text k; omega) (fun k => by have q9 := h_m_rule k; omega) (fun r87 m_read_77 m_length_78 m_top_79 m_at_80 m_wrong_81 m_isAsked_82 m_askedFruit_83 m_askedStanding_84 m_askedHook_85 m_askedApron_86 h_r87 h_m_read_77 h_m_length_78 h_m_top_79 h_m_at_80 h_m_wrong_81 h_m_isAsked_82 h_m_askedFruit_83 h_m_askedStanding_84 h_m_askedHook_85 h_m_askedApron_86 => ?_)
      have f88 := tp_r x3
      exact ts_X10_pays_68 m_fruits m_standings m_ruleSize m_now m_x m_height m_worth m_ripe m_foot m_fork m_told m_text m_rule h_m_fruits h_m_standings h_m_ruleSize e0_m_now e1_m_now h_m_x h_m_height h_m_worth h_m_ripe h_m_foot h_m_fork e0_m_told e1_m_told h_m_text h_m_rule hpost hKn x1 x2 x4 x3 r87 m_rowMany m_thrown m_read_77 m_length_78 m_top_79 m_at_80 m_wrong_81 m_isAsked_82 m_askedFruit_83 m_askedStanding_84 m_askedHook_85 m_askedApron_86 m_wanted m_row m_hand (by omega) (by omega) (by omega) (by omega) (by omega) (by omega) (by first | exact h_m_read | exact Or.inl rfl | exact Or.inr rfl | omega) (by omega) (by omega) (by omega) (by omega) (by omega) (by omega) (by omega) (by omega) (by omega) (by omega) (fun k => by have q9 := h_m_hand k; omega) (by omega)
set_option maxHeartbeats 8000000 in
set_option maxRecDepth 200000 in
theorem tb_X10_pays_36 {post : Int32 → Int32 → Int32 → Nat → Int32 → Int32 → Int32 → Int32 → Int32 → Int32 → Int32 → Int32 → Int32 → Int32 → (Nat → Int32) → (Nat → Int32) → Prop} (m_fruits : Int32) (m_standings : Int32) (m_ruleSize : Int32) (m_now : Nat → Int32) (m_x : Nat → Int32) (m_height : Nat → Int32) (m_worth : Nat → Int32) (m_ripe : Nat → Int32) (m_foot : Nat → Int32) (m_fork : Nat → Int32) (m_told : Nat → Int32) (m_text : Nat → Int32) (m_rule : Nat → Int32) (h_m_fruits : 0 ≤ Int32.toInt m_fruits ∧ Int32.toInt m_fruits ≤ 16) (h_m_standings : 0 ≤ Int32.toInt m_standings ∧ Int32.toInt m_standings ≤ 8) (h_m_ruleSize : 0 ≤ Int32.toInt m_ruleSize ∧ Int32.toInt m_ruleSize ≤ 40) (e0_m_now : ∀ k : Nat, k = 17 → -1 ≤ Int32.toInt (m_now k) ∧ Int32.toInt (m_now k) ≤ 7) (e1_m_now : ∀ k : Nat, k = 19 → 0 ≤ Int32.toInt (m_now k) ∧ Int32.toInt (m_now k) ≤ 9) (h_m_x : ∀ k : Nat, 0 ≤ Int32.toInt (m_x k) ∧ Int32.toInt (m_x k) ≤ 99) (h_m_height : ∀ k : Nat, 0 ≤ Int32.toInt (m_height k) ∧ Int32.toInt (m_height k) ≤ 99) (h_m_worth : ∀ k : Nat, 0 ≤ Int32.toInt (m_worth k) ∧ Int32.toInt (m_worth k) ≤ 9) (h_m_ripe : ∀ k : Nat, 0 ≤ Int32.toInt (m_ripe k) ∧ Int32.toInt (m_ripe k) ≤ 9) (h_m_foot : ∀ k : Nat, 0 ≤ Int32.toInt (m_foot k) ∧ Int32.toInt (m_foot k) ≤ 99) (h_m_fork : ∀ k : Nat, 0 ≤ Int32.toInt (m_fork k) ∧ Int32.toInt (m_fork k) ≤ 99) (e0_m_told : ∀ k : Nat, k = 4 → 1 ≤ Int32.toInt (m_told k) ∧ Int32.toInt (m_told k) ≤ 30) (e1_m_told : ∀ k : Nat, k = 3 → 0 ≤ Int32.toInt (m_told k) ∧ Int32.toInt (m_told k) ≤ 9) (h_m_text : ∀ k : Nat, -128 ≤ Int32.toInt (m_text k) ∧ Int32.toInt (m_text k) ≤ 127) (h_m_rule : ∀ k : Nat, -128 ≤ Int32.toInt (m_rule k) ∧ Int32.toInt (m_rule k) ≤ 127) (hpost : ∀ (r : Int32) (m_rowMany' : Int32) (m_thrown' : Int32) (m_read' : Nat) (m_length' : Int32) (m_top' : Int32) (m_at' : Int32) (m_wrong' : Int32) (m_isAsked' : Int32) (m_askedFruit' : Int32) (m_askedStanding' : Int32) (m_askedHook' : Int32) (m_askedApron' : Int32) (m_wanted' : Int32) (m_row' : Nat → Int32) (m_hand' : Nat → Int32), (0 ≤ Int32.toInt m_rowMany' ∧ Int32.toInt m_rowMany' ≤ 16) → (0 ≤ Int32.toInt m_thrown' ∧ Int32.toInt m_thrown' ≤ 0) → (m_read' = 0 ∨ m_read' = 1 ∨ m_read' = 2) → (0 ≤ Int32.toInt m_length' ∧ Int32.toInt m_length' ≤ 80) → (0 ≤ Int32.toInt m_top' ∧ Int32.toInt m_top' ≤ 80) → (0 ≤ Int32.toInt m_at' ∧ Int32.toInt m_at' ≤ 80) → (-1 ≤ Int32.toInt m_wrong' ∧ Int32.toInt m_wrong' ≤ 80) → (0 ≤ Int32.toInt m_isAsked' ∧ Int32.toInt m_isAsked' ≤ 0) → (0 ≤ Int32.toInt m_askedFruit' ∧ Int32.toInt m_askedFruit' ≤ 15) → (0 ≤ Int32.toInt m_askedStanding' ∧ Int32.toInt m_askedStanding' ≤ 7) → (0 ≤ Int32.toInt m_askedHook' ∧ Int32.toInt m_askedHook' ≤ 1) → (0 ≤ Int32.toInt m_askedApron' ∧ Int32.toInt m_askedApron' ≤ 63) → (0 ≤ Int32.toInt m_wanted' ∧ Int32.toInt m_wanted' ≤ 65535) → (∀ k : Nat, 0 ≤ Int32.toInt (m_hand' k) ∧ Int32.toInt (m_hand' k) ≤ 65535) → post r m_rowMany' m_thrown' m_read' m_length' m_top' m_at' m_wrong' m_isAsked' m_askedFruit' m_askedStanding' m_askedHook' m_askedApron' m_wanted' m_row' m_hand') : ∀ (n : Nat) (x1 : Int32) (x2 : Int32) (x3 : Int32) (x4 : Int32) (m_rowMany : Int32) (m_thrown : Int32) (m_read : Nat) (m_length : Int32) (m_top : Int32) (m_at : Int32) (m_wrong : Int32) (m_isAsked : Int32) (m_askedFruit : Int32) (m_askedStanding : Int32) (m_askedHook : Int32) (m_askedApron : Int32) (m_wanted : Int32) (m_row : Nat → Int32) (m_hand : Nat → Int32), (0 ≤ Int32.toInt x1 ∧ Int32.toInt x1 ≤ 7) → (0 ≤ Int32.toInt x2 ∧ Int32.toInt x2 ≤ 65535) → (0 ≤ Int32.toInt x4 ∧ Int32.toInt x4 ≤ 16) → (0 ≤ Int32.toInt m_rowMany ∧ Int32.toInt m_rowMany ≤ 16) → (0 ≤ Int32.toInt m_thrown ∧ Int32.toInt m_thrown ≤ 0) → (m_read = 0 ∨ m_read = 1 ∨ m_read = 2) → (0 ≤ Int32.toInt m_length ∧ Int32.toInt m_length ≤ 80) → (0 ≤ Int32.toInt m_top ∧ Int32.toInt m_top ≤ 80) → (0 ≤ Int32.toInt m_at ∧ Int32.toInt m_at ≤ 80) → (-1 ≤ Int32.toInt m_wrong ∧ Int32.toInt m_wrong ≤ 80) → (0 ≤ Int32.toInt m_isAsked ∧ Int32.toInt m_isAsked ≤ 0) → (0 ≤ Int32.toInt m_askedFruit ∧ Int32.toInt m_askedFruit ≤ 15) → (0 ≤ Int32.toInt m_askedStanding ∧ Int32.toInt m_askedStanding ≤ 7) → (0 ≤ Int32.toInt m_askedHook ∧ Int32.toInt m_askedHook ≤ 1) → (0 ≤ Int32.toInt m_askedApron ∧ Int32.toInt m_askedApron ≤ 63) → (0 ≤ Int32.toInt m_wanted ∧ Int32.toInt m_wanted ≤ 65535) → (∀ k : Nat, 0 ≤ Int32.toInt (m_hand k) ∧ Int32.toInt (m_hand k) ≤ 65535) → (16 - Int32.toInt x4 < (n : Int)) → wb_X10_pays_36 post m_fruits m_standings m_ruleSize m_now m_x m_height m_worth m_ripe m_foot m_fork m_told m_text m_rule n x1 x2 x3 x4 m_rowMany m_thrown m_read m_length m_top m_at m_wrong m_isAsked m_askedFruit m_askedStanding m_askedHook m_askedApron m_wanted m_row m_hand := by
  intro n
  induction n with
  | zero =>
    intro x1 x2 x3 x4 m_rowMany m_thrown m_read m_length m_top m_at m_wrong m_isAsked m_askedFruit m_askedStanding m_askedHook m_askedApron m_wanted m_row m_hand h_x1 h_x2 h_x4 h_m_rowMany h_m_thrown h_m_read h_m_length h_m_top h_m_at h_m_wrong h_m_isAsked h_m_askedFruit h_m_askedStanding h_m_askedHook h_m_askedApron h_m_wanted h_m_hand hm
    exfalso; omega
  | succ n ih =>
    intro x1 x2 x3 x4 m_rowMany m_thrown m_read m_length m_top m_at m_wrong m_isAsked m_askedFruit m_askedStanding m_askedHook m_askedApron m_wanted m_row m_hand h_x1 h_x2 h_x4 h_m_rowMany h_m_thrown h_m_read h_m_length h_m_top h_m_at h_m_wrong h_m_isAsked h_m_askedFruit h_m_askedStanding h_m_askedHook h_m_askedApron h_m_wanted h_m_hand hm
    exact ts_X10_pays_36 m_fruits m_standings m_ruleSize m_now m_x m_height m_worth m_ripe m_foot m_fork m_told m_text m_rule h_m_fruits h_m_standings h_m_ruleSize e0_m_now e1_m_now h_m_x h_m_height h_m_worth h_m_ripe h_m_foot h_m_fork e0_m_told e1_m_told h_m_text h_m_rule hpost ih x1 x2 x3 x4 m_rowMany m_thrown m_read m_length m_top m_at m_wrong m_isAsked m_askedFruit m_askedStanding m_askedHook m_askedApron m_wanted m_row m_hand h_x1 h_x2 h_x4 h_m_rowMany h_m_thrown h_m_read h_m_length h_m_top h_m_at h_m_wrong h_m_isAsked h_m_askedFruit h_m_askedStanding h_m_askedHook h_m_askedApron h_m_wanted h_m_hand (by omega)
set_option maxHeartbeats 8000000 in
set_option maxRecDepth 200000 in
theorem t_X10_pays {post : Int32 → Int32 → Int32 → Nat → Int32 → Int32 → Int32 → Int32 → Int32 → Int32 → Int32 → Int32 → Int32 → Int32 → (Nat → Int32) → (Nat → Int32) → Prop} {p0 : Int32} {m_fruits : Int32} {m_standings : Int32} {m_rowMany : Int32} {m_thrown : Int32} {m_read : Nat} {m_length : Int32} {m_top : Int32} {m_at : Int32} {m_wrong : Int32} {m_ruleSize : Int32} {m_isAsked : Int32} {m_askedFruit : Int32} {m_askedStanding : Int32} {m_askedHook : Int32} {m_askedApron : Int32} {m_wanted : Int32} {m_now : Nat → Int32} {m_x : Nat → Int32} {m_height : Nat → Int32} {m_worth : Nat → Int32} {m_ripe : Nat → Int32} {m_foot : Nat → Int32} {m_fork : Nat → Int32} {m_told : Nat → Int32} {m_text : Nat → Int32} {m_row : Nat → Int32} {m_rule : Nat → Int32} {m_hand : Nat → Int32} (h_m_fruits : 0 ≤ Int32.toInt m_fruits ∧ Int32.toInt m_fruits ≤ 16) (h_m_standings : 0 ≤ Int32.toInt m_standings ∧ Int32.toInt m_standings ≤ 8) (h_m_rowMany : 0 ≤ Int32.toInt m_rowMany ∧ Int32.toInt m_rowMany ≤ 16) (h_m_thrown : 0 ≤ Int32.toInt m_thrown ∧ Int32.toInt m_thrown ≤ 1) (h_m_read : m_read = 0 ∨ m_read = 1 ∨ m_read = 2) (h_m_length : 0 ≤ Int32.toInt m_length ∧ Int32.toInt m_length ≤ 80) (h_m_top : 0 ≤ Int32.toInt m_top ∧ Int32.toInt m_top ≤ 80) (h_m_at : 0 ≤ Int32.toInt m_at ∧ Int32.toInt m_at ≤ 80) (h_m_wrong : -1 ≤ Int32.toInt m_wrong ∧ Int32.toInt m_wrong ≤ 80) (h_m_ruleSize : 0 ≤ Int32.toInt m_ruleSize ∧ Int32.toInt m_ruleSize ≤ 40) (h_m_isAsked : 0 ≤ Int32.toInt m_isAsked ∧ Int32.toInt m_isAsked ≤ 0) (h_m_askedFruit : 0 ≤ Int32.toInt m_askedFruit ∧ Int32.toInt m_askedFruit ≤ 15) (h_m_askedStanding : 0 ≤ Int32.toInt m_askedStanding ∧ Int32.toInt m_askedStanding ≤ 7) (h_m_askedHook : 0 ≤ Int32.toInt m_askedHook ∧ Int32.toInt m_askedHook ≤ 1) (h_m_askedApron : 0 ≤ Int32.toInt m_askedApron ∧ Int32.toInt m_askedApron ≤ 63) (h_m_wanted : 0 ≤ Int32.toInt m_wanted ∧ Int32.toInt m_wanted ≤ 65535) (e0_m_now : ∀ k : Nat, k = 17 → -1 ≤ Int32.toInt (m_now k) ∧ Int32.toInt (m_now k) ≤ 7) (e1_m_now : ∀ k : Nat, k = 19 → 0 ≤ Int32.toInt (m_now k) ∧ Int32.toInt (m_now k) ≤ 9) (h_m_x : ∀ k : Nat, 0 ≤ Int32.toInt (m_x k) ∧ Int32.toInt (m_x k) ≤ 99) (h_m_height : ∀ k : Nat, 0 ≤ Int32.toInt (m_height k) ∧ Int32.toInt (m_height k) ≤ 99) (h_m_worth : ∀ k : Nat, 0 ≤ Int32.toInt (m_worth k) ∧ Int32.toInt (m_worth k) ≤ 9) (h_m_ripe : ∀ k : Nat, 0 ≤ Int32.toInt (m_ripe k) ∧ Int32.toInt (m_ripe k) ≤ 9) (h_m_foot : ∀ k : Nat, 0 ≤ Int32.toInt (m_foot k) ∧ Int32.toInt (m_foot k) ≤ 99) (h_m_fork : ∀ k : Nat, 0 ≤ Int32.toInt (m_fork k) ∧ Int32.toInt (m_fork k) ≤ 99) (e0_m_told : ∀ k : Nat, k = 4 → 1 ≤ Int32.toInt (m_told k) ∧ Int32.toInt (m_told k) ≤ 30) (e1_m_told : ∀ k : Nat, k = 3 → 0 ≤ Int32.toInt (m_told k) ∧ Int32.toInt (m_told k) ≤ 9) (h_m_text : ∀ k : Nat, -128 ≤ Int32.toInt (m_text k) ∧ Int32.toInt (m_text k) ≤ 127) (h_m_rule : ∀ k : Nat, -128 ≤ Int32.toInt (m_rule k) ∧ Int32.toInt (m_rule k) ≤ 127) (h_m_hand : ∀ k : Nat, 0 ≤ Int32.toInt (m_hand k) ∧ Int32.toInt (m_hand k) ≤ 65535) (hpost : ∀ (r : Int32) (m_rowMany' : Int32) (m_thrown' : Int32) (m_read' : Nat) (m_length' : Int32) (m_top' : Int32) (m_at' : Int32) (m_wrong' : Int32) (m_isAsked' : Int32) (m_askedFruit' : Int32) (m_askedStanding' : Int32) (m_askedHook' : Int32) (m_askedApron' : Int32) (m_wanted' : Int32) (m_row' : Nat → Int32) (m_hand' : Nat → Int32), (0 ≤ Int32.toInt m_rowMany' ∧ Int32.toInt m_rowMany' ≤ 16) → (0 ≤ Int32.toInt m_thrown' ∧ Int32.toInt m_thrown' ≤ 0) → (m_read' = 0 ∨ m_read' = 1 ∨ m_read' = 2) → (0 ≤ Int32.toInt m_length' ∧ Int32.toInt m_length' ≤ 80) → (0 ≤ Int32.toInt m_top' ∧ Int32.toInt m_top' ≤ 80) → (0 ≤ Int32.toInt m_at' ∧ Int32.toInt m_at' ≤ 80) → (-1 ≤ Int32.toInt m_wrong' ∧ Int32.toInt m_wrong' ≤ 80) → (0 ≤ Int32.toInt m_isAsked' ∧ Int32.toInt m_isAsked' ≤ 0) → (0 ≤ Int32.toInt m_askedFruit' ∧ Int32.toInt m_askedFruit' ≤ 15) → (0 ≤ Int32.toInt m_askedStanding' ∧ Int32.toInt m_askedStanding' ≤ 7) → (0 ≤ Int32.toInt m_askedHook' ∧ Int32.toInt m_askedHook' ≤ 1) → (0 ≤ Int32.toInt m_askedApron' ∧ Int32.toInt m_askedApron' ≤ 63) → (0 ≤ Int32.toInt m_wanted' ∧ Int32.toInt m_wanted' ≤ 65535) → (∀ k : Nat, 0 ≤ Int32.toInt (m_hand' k) ∧ Int32.toInt (m_hand' k) ≤ 65535) → post r m_rowMany' m_thrown' m_read' m_length' m_top' m_at' m_wrong' m_isAsked' m_askedFruit' m_askedStanding' m_askedHook' m_askedApron' m_wanted' m_row' m_hand') : wp_X10_pays post p0 m_fruits m_standings m_rowMany m_thrown m_read m_length m_top m_at m_wrong m_ruleSize m_isAsked m_askedFruit m_askedStanding m_askedHook m_askedApron m_wanted m_now m_x m_height m_worth m_ripe m_foot m_fork m_told m_text m_row m_rule m_hand := by
  have l0 : Int32.toInt (0 : Int32) = 0 := (by decide)
  have l1 : Int32.toInt (1 : Int32) = 1 := (by decide)
  have l2 : Int32.toInt (18 : Int32) = 18 := (by decide)
  intro v89 ev89
  have f90 : Int32.toInt (m_standings - 1) = Int32.toInt m_standings - Int32.toInt (1 : Int32) := ta_sub _ _ (by omega)
  rw [← ev89] at f90
  have f92 := tp_r p0
  refine And.intro (fun c91 => ?_) (fun c91 => ?_)
  · skip
    have c91 := (fa_lt _ _).mp c91
    refine And.intro (t_bool (by omega)) ?_
    refine And.intro (fun h9 => absurd h9 (by decide)) (fun _ => ?_)
    exact hpost _ _ _ _ _ _ _ _ _ _ _ _ _ _ _ _ (by omega) (by omega) (by first | exact h_m_read | exact Or.inl rfl | exact Or.inr rfl | omega) (by omega) (by omega) (by omega) (by omega) (by omega) (by omega) (by omega) (by omega) (by omega) (by omega) (fun k => by have q9 := h_m_hand k; omega)
  · skip
    have c91 := mt (fa_lt _ _).mpr c91
    refine And.intro (fun c93 => ?_) (fun c93 => ?_)
    · skip
      have c93 := (fa_lt _ _).mp c93
      refine And.intro (t_bool (by omega)) ?_
      refine And.intro (fun h9 => absurd h9 (by decide)) (fun _ => ?_)
      exact hpost _ _ _ _ _ _ _ _ _ _ _ _ _ _ _ _ (by omega) (by omega) (by first | exact h_m_read | exact Or.inl rfl | exact Or.inr rfl | omega) (by omega) (by omega) (by omega) (by omega) (by omega) (by omega) (by omega) (by omega) (by omega) (by omega) (fun k => by have q9 := h_m_hand k; omega)
    · skip
      have c93 := mt (fa_lt _ _).mpr c93
      refine And.intro (t_bool (by omega)) ?_
      refine And.intro (fun _ => ?_) (fun h9 => absurd h9 (by decide))
      intro v94 ev94
      have hv94 := congrArg Int32.toInt ev94
      refine t_X10_layHands_ (by omega) (by omega) (by omega) e0_m_now e1_m_now (fun k => by have q9 := h_m_x k; omega) (fun k => by have q9 := h_m_height k; omega) (fun k => by have q9 := h_m_ripe k; omega) (fun k => by have q9 := h_m_foot k; omega) (fun k => by have q9 := h_m_fork k; omega) e0_m_told e1_m_told (fun k => by have q9 := h_m_hand k; omega) (fun m_wanted_96 m_hand_97 h_m_wanted_96 h_m_hand_97 => ?_)
      refine And.intro (t_in (by omega)) ?_
      intro v98 ev98
      have f100 := h_m_hand_97 p0.toNatClampNeg
      have f99 := ti_andr m_wanted_96 (m_hand_97 p0.toNatClampNeg) (by omega)
      have f101 := ti_andl m_wanted_96 (m_hand_97 p0.toNatClampNeg) (by omega)
      have hv98 := congrArg Int32.toInt ev98
      exact ⟨18, tb_X10_pays_36 m_fruits m_standings m_ruleSize m_now m_x m_height m_worth m_ripe m_foot m_fork m_told m_text m_rule h_m_fruits h_m_standings h_m_ruleSize e0_m_now e1_m_now h_m_x h_m_height h_m_worth h_m_ripe h_m_foot h_m_fork e0_m_told e1_m_told h_m_text h_m_rule hpost _ p0 v98 0 0 m_rowMany 0 m_read m_length m_top m_at m_wrong m_isAsked m_askedFruit m_askedStanding m_askedHook m_askedApron m_wanted_96 m_row m_hand_97 (by omega) (by omega) (by omega) (by omega) (by omega) (by first | exact h_m_read | exact Or.inl rfl | exact Or.inr rfl | omega) (by omega) (by omega) (by omega) (by omega) (by omega) (by omega) (by omega) (by omega) (by omega) (by omega) (fun k => by have q9 := h_m_hand_97 k; omega) (by omega)⟩
set_option maxHeartbeats 8000000 in
set_option maxRecDepth 200000 in
theorem ts_X10_trips_85 {post : Int32 → Int32 → Int32 → Int32 → (Nat → Int32) → (Nat → Int32) → Prop} {K65 : Int32 → Int32 → Int32 → Int32 → Int32 → Int32 → (Nat → Int32) → (Nat → Int32) → Prop} {n65 : Int} (m_fruits : Int32) (m_standings : Int32) (m_now : Nat → Int32) (m_x : Nat → Int32) (m_height : Nat → Int32) (m_ripe : Nat → Int32) (m_foot : Nat → Int32) (m_fork : Nat → Int32) (m_told : Nat → Int32) (h_m_fruits : 0 ≤ Int32.toInt m_fruits ∧ Int32.toInt m_fruits ≤ 16) (h_m_standings : 0 ≤ Int32.toInt m_standings ∧ Int32.toInt m_standings ≤ 8) (e0_m_now : ∀ k : Nat, k = 17 → -1 ≤ Int32.toInt (m_now k) ∧ Int32.toInt (m_now k) ≤ 7) (e1_m_now : ∀ k : Nat, k = 19 → 0 ≤ Int32.toInt (m_now k) ∧ Int32.toInt (m_now k) ≤ 9) (h_m_x : ∀ k : Nat, 0 ≤ Int32.toInt (m_x k) ∧ Int32.toInt (m_x k) ≤ 99) (h_m_height : ∀ k : Nat, 0 ≤ Int32.toInt (m_height k) ∧ Int32.toInt (m_height k) ≤ 99) (h_m_ripe : ∀ k : Nat, 0 ≤ Int32.toInt (m_ripe k) ∧ Int32.toInt (m_ripe k) ≤ 9) (h_m_foot : ∀ k : Nat, 0 ≤ Int32.toInt (m_foot k) ∧ Int32.toInt (m_foot k) ≤ 99) (h_m_fork : ∀ k : Nat, 0 ≤ Int32.toInt (m_fork k) ∧ Int32.toInt (m_fork k) ≤ 99) (e0_m_told : ∀ k : Nat, k = 4 → 1 ≤ Int32.toInt (m_told k) ∧ Int32.toInt (m_told k) ≤ 30) (e1_m_told : ∀ k : Nat, k = 3 → 0 ≤ Int32.toInt (m_told k) ∧ Int32.toInt (m_told k) ≤ 9) (hpost : ∀ (r : Int32) (m_rowMany' : Int32) (m_thrown' : Int32) (m_wanted' : Int32) (m_row' : Nat → Int32) (m_hand' : Nat → Int32), (0 ≤ Int32.toInt m_rowMany' ∧ Int32.toInt m_rowMany' ≤ 16) → (0 ≤ Int32.toInt m_thrown' ∧ Int32.toInt m_thrown' ≤ 0) → (0 ≤ Int32.toInt m_wanted' ∧ Int32.toInt m_wanted' ≤ 65535) → (∀ k : Nat, 0 ≤ Int32.toInt (m_hand' k) ∧ Int32.toInt (m_hand' k) ≤ 65535) → post r m_rowMany' m_thrown' m_wanted' m_row' m_hand') (hK65 : ∀ (x2 : Int32) (x3 : Int32) (x4 : Int32) (m_rowMany : Int32) (m_thrown : Int32) (m_wanted : Int32) (m_row : Nat → Int32) (m_hand : Nat → Int32), (0 ≤ Int32.toInt x2 ∧ Int32.toInt x2 ≤ 63) → (0 ≤ Int32.toInt x4 ∧ Int32.toInt x4 ≤ 63) → (0 ≤ Int32.toInt m_rowMany ∧ Int32.toInt m_rowMany ≤ 16) → (0 ≤ Int32.toInt m_thrown ∧ Int32.toInt m_thrown ≤ 0) → (0 ≤ Int32.toInt m_wanted ∧ Int32.toInt m_wanted ≤ 65535) → (∀ k : Nat, 0 ≤ Int32.toInt (m_hand k) ∧ Int32.toInt (m_hand k) ≤ 65535) → (Int32.toInt x4 - 0 < n65) → K65 x2 x3 x4 m_rowMany m_thrown m_wanted m_row m_hand) (x2 : Int32) (x3 : Int32) (x4 : Int32) (m_rowMany : Int32) (m_thrown : Int32) (m_wanted : Int32) (m_row : Nat → Int32) (m_hand : Nat → Int32) (h_x2 : 0 ≤ Int32.toInt x2 ∧ Int32.toInt x2 ≤ 29) (h_x4 : 1 ≤ Int32.toInt x4 ∧ Int32.toInt x4 ≤ 63) (h_m_rowMany : 0 ≤ Int32.toInt m_rowMany ∧ Int32.toInt m_rowMany ≤ 16) (h_m_thrown : 0 ≤ Int32.toInt m_thrown ∧ Int32.toInt m_thrown ≤ 0) (h_m_wanted : 0 ≤ Int32.toInt m_wanted ∧ Int32.toInt m_wanted ≤ 65535) (h_m_hand : ∀ k : Nat, 0 ≤ Int32.toInt (m_hand k) ∧ Int32.toInt (m_hand k) ≤ 65535) (hn65 : Int32.toInt x4 - 0 ≤ n65) : ws_X10_trips_85 post K65 m_fruits m_standings m_now m_x m_height m_ripe m_foot m_fork m_told x2 x3 x4 m_rowMany m_thrown m_wanted m_row m_hand := by
  have l0 : Int32.toInt ((-1) : Int32) = -1 := (by decide)
  have l1 : Int32.toInt (1 : Int32) = 1 := (by decide)
  intro v1 ev1
  have f2 : Int32.toInt (x2 + 1) = Int32.toInt x2 + Int32.toInt (1 : Int32) := ta_add _ _ (by omega)
  rw [← ev1] at f2
  intro v3 ev3
  have f4 : Int32.toInt (x4 + (-1)) = Int32.toInt x4 + Int32.toInt ((-1) : Int32) := ta_add _ _ (by omega)
  rw [← ev3] at f4
  have f5 := tp_r x3
  exact hK65 v1 x3 v3 m_rowMany m_thrown m_wanted m_row m_hand (by omega) (by omega) (by omega) (by omega) (by omega) (fun k => by have q9 := h_m_hand k; omega) (by omega)
set_option maxHeartbeats 8000000 in
set_option maxRecDepth 200000 in
theorem ts_X10_trips_65 {post : Int32 → Int32 → Int32 → Int32 → (Nat → Int32) → (Nat → Int32) → Prop} {next : Int32 → Int32 → Int32 → Int32 → Int32 → Int32 → (Nat → Int32) → (Nat → Int32) → Prop} {n65 : Int} (m_fruits : Int32) (m_standings : Int32) (m_now : Nat → Int32) (m_x : Nat → Int32) (m_height : Nat → Int32) (m_ripe : Nat → Int32) (m_foot : Nat → Int32) (m_fork : Nat → Int32) (m_told : Nat → Int32) (h_m_fruits : 0 ≤ Int32.toInt m_fruits ∧ Int32.toInt m_fruits ≤ 16) (h_m_standings : 0 ≤ Int32.toInt m_standings ∧ Int32.toInt m_standings ≤ 8) (e0_m_now : ∀ k : Nat, k = 17 → -1 ≤ Int32.toInt (m_now k) ∧ Int32.toInt (m_now k) ≤ 7) (e1_m_now : ∀ k : Nat, k = 19 → 0 ≤ Int32.toInt (m_now k) ∧ Int32.toInt (m_now k) ≤ 9) (h_m_x : ∀ k : Nat, 0 ≤ Int32.toInt (m_x k) ∧ Int32.toInt (m_x k) ≤ 99) (h_m_height : ∀ k : Nat, 0 ≤ Int32.toInt (m_height k) ∧ Int32.toInt (m_height k) ≤ 99) (h_m_ripe : ∀ k : Nat, 0 ≤ Int32.toInt (m_ripe k) ∧ Int32.toInt (m_ripe k) ≤ 9) (h_m_foot : ∀ k : Nat, 0 ≤ Int32.toInt (m_foot k) ∧ Int32.toInt (m_foot k) ≤ 99) (h_m_fork : ∀ k : Nat, 0 ≤ Int32.toInt (m_fork k) ∧ Int32.toInt (m_fork k) ≤ 99) (e0_m_told : ∀ k : Nat, k = 4 → 1 ≤ Int32.toInt (m_told k) ∧ Int32.toInt (m_told k) ≤ 30) (e1_m_told : ∀ k : Nat, k = 3 → 0 ≤ Int32.toInt (m_told k) ∧ Int32.toInt (m_told k) ≤ 9) (hpost : ∀ (r : Int32) (m_rowMany' : Int32) (m_thrown' : Int32) (m_wanted' : Int32) (m_row' : Nat → Int32) (m_hand' : Nat → Int32), (0 ≤ Int32.toInt m_rowMany' ∧ Int32.toInt m_rowMany' ≤ 16) → (0 ≤ Int32.toInt m_thrown' ∧ Int32.toInt m_thrown' ≤ 0) → (0 ≤ Int32.toInt m_wanted' ∧ Int32.toInt m_wanted' ≤ 65535) → (∀ k : Nat, 0 ≤ Int32.toInt (m_hand' k) ∧ Int32.toInt (m_hand' k) ≤ 65535) → post r m_rowMany' m_thrown' m_wanted' m_row' m_hand') (hKn : ∀ (x2 : Int32) (x3 : Int32) (x4 : Int32) (m_rowMany : Int32) (m_thrown : Int32) (m_wanted : Int32) (m_row : Nat → Int32) (m_hand : Nat → Int32), (0 ≤ Int32.toInt x2 ∧ Int32.toInt x2 ≤ 63) → (0 ≤ Int32.toInt x4 ∧ Int32.toInt x4 ≤ 63) → (0 ≤ Int32.toInt m_rowMany ∧ Int32.toInt m_rowMany ≤ 16) → (0 ≤ Int32.toInt m_thrown ∧ Int32.toInt m_thrown ≤ 0) → (0 ≤ Int32.toInt m_wanted ∧ Int32.toInt m_wanted ≤ 65535) → (∀ k : Nat, 0 ≤ Int32.toInt (m_hand k) ∧ Int32.toInt (m_hand k) ≤ 65535) → (Int32.toInt x4 - 0 < n65) → next x2 x3 x4 m_rowMany m_thrown m_wanted m_row m_hand) (x2 : Int32) (x3 : Int32) (x4 : Int32) (m_rowMany : Int32) (m_thrown : Int32) (m_wanted : Int32) (m_row : Nat → Int32) (m_hand : Nat → Int32) (h_x2 : 0 ≤ Int32.toInt x2 ∧ Int32.toInt x2 ≤ 63) (h_x4 : 0 ≤ Int32.toInt x4 ∧ Int32.toInt x4 ≤ 63) (h_m_rowMany : 0 ≤ Int32.toInt m_rowMany ∧ Int32.toInt m_rowMany ≤ 16) (h_m_thrown : 0 ≤ Int32.toInt m_thrown ∧ Int32.toInt m_thrown ≤ 0) (h_m_wanted : 0 ≤ Int32.toInt m_wanted ∧ Int32.toInt m_wanted ≤ 65535) (h_m_hand : ∀ k : Nat, 0 ≤ Int32.toInt (m_hand k) ∧ Int32.toInt (m_hand k) ≤ 65535) (hn65 : Int32.toInt x4 - 0 ≤ n65) : ws_X10_trips_65 post next m_fruits m_standings m_now m_x m_height m_ripe m_foot m_fork m_told x2 x3 x4 m_rowMany m_thrown m_wanted m_row m_hand := by
  have l0 : Int32.toInt (0 : Int32) = 0 := (by decide)
  have l1 : Int32.toInt (1 : Int32) = 1 := (by decide)
  have l2 : Int32.toInt (4 : Int32) = 4 := (by decide)
  refine And.intro (fun c6 => ?_) (fun c6 => ?_)
  · skip
    have c6 := (fa_le _ _).mp c6
    refine And.intro (t_in (by omega)) ?_
    intro v7 ev7
    have f8 : Int32.toInt (0 + 1) = Int32.toInt (0 : Int32) + Int32.toInt (1 : Int32) := ta_add _ _ (by omega)
    rw [← ev7] at f8
    exact hpost _ _ _ _ _ _ (by omega) (by omega) (by omega) (fun k => by have q9 := h_m_hand k; omega)
  · skip
    have c6 := mt (fa_le _ _).mpr c6
    have q9 := e0_m_told (4 : Int32).toNatClampNeg (by have e9 : (4 : Int32).toNatClampNeg = (Int32.toInt (4 : Int32)).toNat := rfl; omega)
    refine And.intro (fun c10 => ?_) (fun c10 => ?_)
    · skip
      have c10 := (fa_lt _ _).mp c10
      have f12 := tp_r x3
      exact ts_X10_trips_85 m_fruits m_standings m_now m_x m_height m_ripe m_foot m_fork m_told h_m_fruits h_m_standings e0_m_now e1_m_now h_m_x h_m_height h_m_ripe h_m_foot h_m_fork e0_m_told e1_m_told hpost hKn x2 x3 x4 m_rowMany m_thrown m_wanted m_row m_hand (by omega) (by omega) (by omega) (by omega) (by omega) (fun k => by have q9 := h_m_hand k; omega) (by omega)
    · skip
      have c10 := mt (fa_lt _ _).mpr c10
      intro v13 ev13
      have hv13 := congrArg Int32.toInt ev13
      have f15 := tp_r v13
      exact ts_X10_trips_85 m_fruits m_standings m_now m_x m_height m_ripe m_foot m_fork m_told h_m_fruits h_m_standings e0_m_now e1_m_now h_m_x h_m_height h_m_ripe h_m_foot h_m_fork e0_m_told e1_m_told hpost hKn 0 v13 x4 m_rowMany m_thrown m_wanted m_row m_hand (by omega) (by omega) (by omega) (by omega) (by omega) (fun k => by have q9 := h_m_hand k; omega) (by omega)
set_option maxHeartbeats 8000000 in
set_option maxRecDepth 200000 in
theorem tb_X10_trips_65 {post : Int32 → Int32 → Int32 → Int32 → (Nat → Int32) → (Nat → Int32) → Prop} (m_fruits : Int32) (m_standings : Int32) (m_now : Nat → Int32) (m_x : Nat → Int32) (m_height : Nat → Int32) (m_ripe : Nat → Int32) (m_foot : Nat → Int32) (m_fork : Nat → Int32) (m_told : Nat → Int32) (h_m_fruits : 0 ≤ Int32.toInt m_fruits ∧ Int32.toInt m_fruits ≤ 16) (h_m_standings : 0 ≤ Int32.toInt m_standings ∧ Int32.toInt m_standings ≤ 8) (e0_m_now : ∀ k : Nat, k = 17 → -1 ≤ Int32.toInt (m_now k) ∧ Int32.toInt (m_now k) ≤ 7) (e1_m_now : ∀ k : Nat, k = 19 → 0 ≤ Int32.toInt (m_now k) ∧ Int32.toInt (m_now k) ≤ 9) (h_m_x : ∀ k : Nat, 0 ≤ Int32.toInt (m_x k) ∧ Int32.toInt (m_x k) ≤ 99) (h_m_height : ∀ k : Nat, 0 ≤ Int32.toInt (m_height k) ∧ Int32.toInt (m_height k) ≤ 99) (h_m_ripe : ∀ k : Nat, 0 ≤ Int32.toInt (m_ripe k) ∧ Int32.toInt (m_ripe k) ≤ 9) (h_m_foot : ∀ k : Nat, 0 ≤ Int32.toInt (m_foot k) ∧ Int32.toInt (m_foot k) ≤ 99) (h_m_fork : ∀ k : Nat, 0 ≤ Int32.toInt (m_fork k) ∧ Int32.toInt (m_fork k) ≤ 99) (e0_m_told : ∀ k : Nat, k = 4 → 1 ≤ Int32.toInt (m_told k) ∧ Int32.toInt (m_told k) ≤ 30) (e1_m_told : ∀ k : Nat, k = 3 → 0 ≤ Int32.toInt (m_told k) ∧ Int32.toInt (m_told k) ≤ 9) (hpost : ∀ (r : Int32) (m_rowMany' : Int32) (m_thrown' : Int32) (m_wanted' : Int32) (m_row' : Nat → Int32) (m_hand' : Nat → Int32), (0 ≤ Int32.toInt m_rowMany' ∧ Int32.toInt m_rowMany' ≤ 16) → (0 ≤ Int32.toInt m_thrown' ∧ Int32.toInt m_thrown' ≤ 0) → (0 ≤ Int32.toInt m_wanted' ∧ Int32.toInt m_wanted' ≤ 65535) → (∀ k : Nat, 0 ≤ Int32.toInt (m_hand' k) ∧ Int32.toInt (m_hand' k) ≤ 65535) → post r m_rowMany' m_thrown' m_wanted' m_row' m_hand') : ∀ (n : Nat) (x2 : Int32) (x3 : Int32) (x4 : Int32) (m_rowMany : Int32) (m_thrown : Int32) (m_wanted : Int32) (m_row : Nat → Int32) (m_hand : Nat → Int32), (0 ≤ Int32.toInt x2 ∧ Int32.toInt x2 ≤ 63) → (0 ≤ Int32.toInt x4 ∧ Int32.toInt x4 ≤ 63) → (0 ≤ Int32.toInt m_rowMany ∧ Int32.toInt m_rowMany ≤ 16) → (0 ≤ Int32.toInt m_thrown ∧ Int32.toInt m_thrown ≤ 0) → (0 ≤ Int32.toInt m_wanted ∧ Int32.toInt m_wanted ≤ 65535) → (∀ k : Nat, 0 ≤ Int32.toInt (m_hand k) ∧ Int32.toInt (m_hand k) ≤ 65535) → (Int32.toInt x4 - 0 < (n : Int)) → wb_X10_trips_65 post m_fruits m_standings m_now m_x m_height m_ripe m_foot m_fork m_told n x2 x3 x4 m_rowMany m_thrown m_wanted m_row m_hand := by
  intro n
  induction n with
  | zero =>
    intro x2 x3 x4 m_rowMany m_thrown m_wanted m_row m_hand h_x2 h_x4 h_m_rowMany h_m_thrown h_m_wanted h_m_hand hm
    exfalso; omega
  | succ n ih =>
    intro x2 x3 x4 m_rowMany m_thrown m_wanted m_row m_hand h_x2 h_x4 h_m_rowMany h_m_thrown h_m_wanted h_m_hand hm
    exact ts_X10_trips_65 m_fruits m_standings m_now m_x m_height m_ripe m_foot m_fork m_told h_m_fruits h_m_standings e0_m_now e1_m_now h_m_x h_m_height h_m_ripe h_m_foot h_m_fork e0_m_told e1_m_told hpost ih x2 x3 x4 m_rowMany m_thrown m_wanted m_row m_hand h_x2 h_x4 h_m_rowMany h_m_thrown h_m_wanted h_m_hand (by omega)
set_option maxHeartbeats 8000000 in
set_option maxRecDepth 200000 in
theorem ts_X10_trips_46 {post : Int32 → Int32 → Int32 → Int32 → (Nat → Int32) → (Nat → Int32) → Prop} (m_fruits : Int32) (m_standings : Int32) (m_now : Nat → Int32) (m_x : Nat → Int32) (m_height : Nat → Int32) (m_ripe : Nat → Int32) (m_foot : Nat → Int32) (m_fork : Nat → Int32) (m_told : Nat → Int32) (h_m_fruits : 0 ≤ Int32.toInt m_fruits ∧ Int32.toInt m_fruits ≤ 16) (h_m_standings : 0 ≤ Int32.toInt m_standings ∧ Int32.toInt m_standings ≤ 8) (e0_m_now : ∀ k : Nat, k = 17 → -1 ≤ Int32.toInt (m_now k) ∧ Int32.toInt (m_now k) ≤ 7) (e1_m_now : ∀ k : Nat, k = 19 → 0 ≤ Int32.toInt (m_now k) ∧ Int32.toInt (m_now k) ≤ 9) (h_m_x : ∀ k : Nat, 0 ≤ Int32.toInt (m_x k) ∧ Int32.toInt (m_x k) ≤ 99) (h_m_height : ∀ k : Nat, 0 ≤ Int32.toInt (m_height k) ∧ Int32.toInt (m_height k) ≤ 99) (h_m_ripe : ∀ k : Nat, 0 ≤ Int32.toInt (m_ripe k) ∧ Int32.toInt (m_ripe k) ≤ 9) (h_m_foot : ∀ k : Nat, 0 ≤ Int32.toInt (m_foot k) ∧ Int32.toInt (m_foot k) ≤ 99) (h_m_fork : ∀ k : Nat, 0 ≤ Int32.toInt (m_fork k) ∧ Int32.toInt (m_fork k) ≤ 99) (e0_m_told : ∀ k : Nat, k = 4 → 1 ≤ Int32.toInt (m_told k) ∧ Int32.toInt (m_told k) ≤ 30) (e1_m_told : ∀ k : Nat, k = 3 → 0 ≤ Int32.toInt (m_told k) ∧ Int32.toInt (m_told k) ≤ 9) (hpost : ∀ (r : Int32) (m_rowMany' : Int32) (m_thrown' : Int32) (m_wanted' : Int32) (m_row' : Nat → Int32) (m_hand' : Nat → Int32), (0 ≤ Int32.toInt m_rowMany' ∧ Int32.toInt m_rowMany' ≤ 16) → (0 ≤ Int32.toInt m_thrown' ∧ Int32.toInt m_thrown' ≤ 0) → (0 ≤ Int32.toInt m_wanted' ∧ Int32.toInt m_wanted' ≤ 65535) → (∀ k : Nat, 0 ≤ Int32.toInt (m_hand' k) ∧ Int32.toInt (m_hand' k) ≤ 65535) → post r m_rowMany' m_thrown' m_wanted' m_row' m_hand') (x1 : Int32) (k0 : Int32) (m_rowMany : Int32) (m_thrown : Int32) (m_wanted : Int32) (m_row : Nat → Int32) (m_hand : Nat → Int32) (h_x1 : 0 ≤ Int32.toInt x1 ∧ Int32.toInt x1 ≤ 7) (h_k0 : 0 ≤ Int32.toInt k0 ∧ Int32.toInt k0 ≤ 63) (h_m_rowMany : 0 ≤ Int32.toInt m_rowMany ∧ Int32.toInt m_rowMany ≤ 16) (h_m_thrown : 0 ≤ Int32.toInt m_thrown ∧ Int32.toInt m_thrown ≤ 0) (h_m_wanted : 0 ≤ Int32.toInt m_wanted ∧ Int32.toInt m_wanted ≤ 65535) (h_m_hand : ∀ k : Nat, 0 ≤ Int32.toInt (m_hand k) ∧ Int32.toInt (m_hand k) ≤ 65535) : ws_X10_trips_46 post m_fruits m_standings m_now m_x m_height m_ripe m_foot m_fork m_told x1 k0 m_rowMany m_thrown m_wanted m_row m_hand := by
  have l0 : Int32.toInt (0 : Int32) = 0 := (by decide)
  have l1 : Int32.toInt (1431655765 : Int32) = 1431655765 := (by decide)
  have l2 : Int32.toInt (252645135 : Int32) = 252645135 := (by decide)
  have l3 : Int32.toInt (63 : Int32) = 63 := (by decide)
  have l4 : Int32.toInt (858993459 : Int32) = 858993459 := (by decide)
  refine And.intro (t_in (by omega)) ?_
  intro v16 ev16
  have f18 := h_m_hand x1.toNatClampNeg
  have f17 := ti_andr m_wanted (m_hand x1.toNatClampNeg) (by omega)
  have f19 := ti_andl m_wanted (m_hand x1.toNatClampNeg) (by omega)
  have hv16 := congrArg Int32.toInt ev16
  intro v20 ev20
  intro v21 ev21
  have f23 := ti_andr v20 1431655765 (by omega)
  have f22 : Int32.toInt (v16 - (v20 &&& 1431655765)) = Int32.toInt v16 - Int32.toInt (v20 &&& 1431655765) := ta_sub _ _ (by omega)
  rw [← ev21] at f22
  intro v24 ev24
  have f25 := ti_andr v21 858993459 (by omega)
  have hv24 := congrArg Int32.toInt ev24
  intro v26 ev26
  intro v27 ev27
  have f29 := ti_andr v26 858993459 (by omega)
  have f28 : Int32.toInt (v24 + (v26 &&& 858993459)) = Int32.toInt v24 + Int32.toInt (v26 &&& 858993459) := ta_add _ _ (by omega)
  rw [← ev27] at f28
  intro v30 ev30
  have hv30 := congrArg Int32.toInt ev30
  intro v32 ev32
  have f33 := ti_andr v30 252645135 (by omega)
  have hv32 := congrArg Int32.toInt ev32
  intro v34 ev34
  have hv34 := congrArg Int32.toInt ev34
  intro v36 ev36
  have hv36 := congrArg Int32.toInt ev36
  have f38 := ti_andr v36 63 (by omega)
  exact ⟨65, tb_X10_trips_65 m_fruits m_standings m_now m_x m_height m_ripe m_foot m_fork m_told h_m_fruits h_m_standings e0_m_now e1_m_now h_m_x h_m_height h_m_ripe h_m_foot h_m_fork e0_m_told e1_m_told hpost _ k0 0 (v36 &&& 63) m_rowMany m_thrown m_wanted m_row m_hand (by omega) (by omega) (by omega) (by omega) (by omega) (fun k => by have q9 := h_m_hand k; omega) (by omega)⟩
set_option maxHeartbeats 8000000 in
set_option maxRecDepth 200000 in
theorem t_X10_trips {post : Int32 → Int32 → Int32 → Int32 → (Nat → Int32) → (Nat → Int32) → Prop} {p0 : Int32} {m_fruits : Int32} {m_standings : Int32} {m_rowMany : Int32} {m_thrown : Int32} {m_wanted : Int32} {m_now : Nat → Int32} {m_x : Nat → Int32} {m_height : Nat → Int32} {m_ripe : Nat → Int32} {m_foot : Nat → Int32} {m_fork : Nat → Int32} {m_told : Nat → Int32} {m_row : Nat → Int32} {m_hand : Nat → Int32} (h_m_fruits : 0 ≤ Int32.toInt m_fruits ∧ Int32.toInt m_fruits ≤ 16) (h_m_standings : 0 ≤ Int32.toInt m_standings ∧ Int32.toInt m_standings ≤ 8) (h_m_rowMany : 0 ≤ Int32.toInt m_rowMany ∧ Int32.toInt m_rowMany ≤ 16) (h_m_thrown : 0 ≤ Int32.toInt m_thrown ∧ Int32.toInt m_thrown ≤ 1) (h_m_wanted : 0 ≤ Int32.toInt m_wanted ∧ Int32.toInt m_wanted ≤ 65535) (e0_m_now : ∀ k : Nat, k = 17 → -1 ≤ Int32.toInt (m_now k) ∧ Int32.toInt (m_now k) ≤ 7) (e1_m_now : ∀ k : Nat, k = 19 → 0 ≤ Int32.toInt (m_now k) ∧ Int32.toInt (m_now k) ≤ 9) (h_m_x : ∀ k : Nat, 0 ≤ Int32.toInt (m_x k) ∧ Int32.toInt (m_x k) ≤ 99) (h_m_height : ∀ k : Nat, 0 ≤ Int32.toInt (m_height k) ∧ Int32.toInt (m_height k) ≤ 99) (h_m_ripe : ∀ k : Nat, 0 ≤ Int32.toInt (m_ripe k) ∧ Int32.toInt (m_ripe k) ≤ 9) (h_m_foot : ∀ k : Nat, 0 ≤ Int32.toInt (m_foot k) ∧ Int32.toInt (m_foot k) ≤ 99) (h_m_fork : ∀ k : Nat, 0 ≤ Int32.toInt (m_fork k) ∧ Int32.toInt (m_fork k) ≤ 99) (e0_m_told : ∀ k : Nat, k = 4 → 1 ≤ Int32.toInt (m_told k) ∧ Int32.toInt (m_told k) ≤ 30) (e1_m_told : ∀ k : Nat, k = 3 → 0 ≤ Int32.toInt (m_told k) ∧ Int32.toInt (m_told k) ≤ 9) (h_m_hand : ∀ k : Nat, 0 ≤ Int32.toInt (m_hand k) ∧ Int32.toInt (m_hand k) ≤ 65535) (hpost : ∀ (r : Int32) (m_rowMany' : Int32) (m_thrown' : Int32) (m_wanted' : Int32) (m_row' : Nat → Int32) (m_hand' : Nat → Int32), (0 ≤ Int32.toInt m_rowMany' ∧ Int32.toInt m_rowMany' ≤ 16) → (0 ≤ Int32.toInt m_thrown' ∧ Int32.toInt m_thrown' ≤ 0) → (0 ≤ Int32.toInt m_wanted' ∧ Int32.toInt m_wanted' ≤ 65535) → (∀ k : Nat, 0 ≤ Int32.toInt (m_hand' k) ∧ Int32.toInt (m_hand' k) ≤ 65535) → post r m_rowMany' m_thrown' m_wanted' m_row' m_hand') : wp_X10_trips post p0 m_fruits m_standings m_rowMany m_thrown m_wanted m_now m_x m_height m_ripe m_foot m_fork m_told m_row m_hand := by
  have l0 : Int32.toInt (0 : Int32) = 0 := (by decide)
  have l1 : Int32.toInt (1 : Int32) = 1 := (by decide)
  have l2 : Int32.toInt (1431655765 : Int32) = 1431655765 := (by decide)
  have l3 : Int32.toInt (17 : Int32) = 17 := (by decide)
  have l4 : Int32.toInt (18 : Int32) = 18 := (by decide)
  have l5 : Int32.toInt (252645135 : Int32) = 252645135 := (by decide)
  have l6 : Int32.toInt (63 : Int32) = 63 := (by decide)
  have l7 : Int32.toInt (858993459 : Int32) = 858993459 := (by decide)
  intro v39 ev39
  have f40 : Int32.toInt (m_standings - 1) = Int32.toInt m_standings - Int32.toInt (1 : Int32) := ta_sub _ _ (by omega)
  rw [← ev39] at f40
  have f42 := tp_r p0
  refine And.intro (fun c41 => ?_) (fun c41 => ?_)
  · skip
    have c41 := (fa_lt _ _).mp c41
    refine And.intro (t_bool (by omega)) ?_
    refine And.intro (fun h9 => absurd h9 (by decide)) (fun _ => ?_)
    exact hpost _ _ _ _ _ _ (by omega) (by omega) (by omega) (fun k => by have q9 := h_m_hand k; omega)
  · skip
    have c41 := mt (fa_lt _ _).mpr c41
    refine And.intro (fun c43 => ?_) (fun c43 => ?_)
    · skip
      have c43 := (fa_lt _ _).mp c43
      refine And.intro (t_bool (by omega)) ?_
      refine And.intro (fun h9 => absurd h9 (by decide)) (fun _ => ?_)
      exact hpost _ _ _ _ _ _ (by omega) (by omega) (by omega) (fun k => by have q9 := h_m_hand k; omega)
    · skip
      have c43 := mt (fa_lt _ _).mpr c43
      refine And.intro (t_bool (by omega)) ?_
      refine And.intro (fun _ => ?_) (fun h9 => absurd h9 (by decide))
      intro v44 ev44
      have hv44 := congrArg Int32.toInt ev44
      refine t_X10_layHands_ (by omega) (by omega) (by omega) e0_m_now e1_m_now (fun k => by have q9 := h_m_x k; omega) (fun k => by have q9 := h_m_height k; omega) (fun k => by have q9 := h_m_ripe k; omega) (fun k => by have q9 := h_m_foot k; omega) (fun k => by have q9 := h_m_fork k; omega) e0_m_told e1_m_told (fun k => by have q9 := h_m_hand k; omega) (fun m_wanted_46 m_hand_47 h_m_wanted_46 h_m_hand_47 => ?_)
      have q48 := e0_m_now (17 : Int32).toNatClampNeg (by have e9 : (17 : Int32).toNatClampNeg = (Int32.toInt (17 : Int32)).toNat := rfl; omega)
      intro v49 ev49
      have hv49 := congrArg Int32.toInt ev49
      refine And.intro (fun c51 => ?_) (fun c51 => ?_)
      · skip
        have c51 := mt (fa_eq _ _).mpr c51
        exact ts_X10_trips_46 m_fruits m_standings m_now m_x m_height m_ripe m_foot m_fork m_told h_m_fruits h_m_standings e0_m_now e1_m_now h_m_x h_m_height h_m_ripe h_m_foot h_m_fork e0_m_told e1_m_told hpost p0 0 m_rowMany 0 m_wanted_46 m_row m_hand_47 (by omega) (by omega) (by omega) (by omega) (by omega) (fun k => by have q9 := h_m_hand_47 k; omega)
      · skip
        have c51 := (fa_eq _ _).mp c51
        refine t_X10_which (by omega) (by omega) e0_m_now e1_m_now (fun r52 h_r52 ox53 => ?_)
        intro v54 ev54
        intro v55 ev55
        have f57 := ti_andr v54 1431655765 (by omega)
        have f56 : Int32.toInt (r52 - (v54 &&& 1431655765)) = Int32.toInt r52 - Int32.toInt (v54 &&& 1431655765) := ta_sub _ _ (by omega)
        rw [← ev55] at f56
        intro v58 ev58
        have f59 := ti_andr v55 858993459 (by omega)
        have hv58 := congrArg Int32.toInt ev58
        intro v60 ev60
        intro v61 ev61
        have f63 := ti_andr v60 858993459 (by omega)
        have f62 : Int32.toInt (v58 + (v60 &&& 858993459)) = Int32.toInt v58 + Int32.toInt (v60 &&& 858993459) := ta_add _ _ (by omega)
        rw [← ev61] at f62
        intro v64 ev64
        have hv64 := congrArg Int32.toInt ev64
        intro v66 ev66
        have f67 := ti_andr v64 252645135 (by omega)
        have hv66 := congrArg Int32.toInt ev66
        intro v68 ev68
        have hv68 := congrArg Int32.toInt ev68
        intro v70 ev70
        have hv70 := congrArg Int32.toInt ev70
        have f72 := ti_andr v70 63 (by omega)
        exact ts_X10_trips_46 m_fruits m_standings m_now m_x m_height m_ripe m_foot m_fork m_told h_m_fruits h_m_standings e0_m_now e1_m_now h_m_x h_m_height h_m_ripe h_m_foot h_m_fork e0_m_told e1_m_told hpost p0 (v70 &&& 63) m_rowMany 0 m_wanted_46 m_row m_hand_47 (by omega) (by omega) (by omega) (by omega) (by omega) (fun k => by have q9 := h_m_hand_47 k; omega)
set_option maxHeartbeats 8000000 in
set_option maxRecDepth 200000 in
theorem t_X10_helps {post : Int32 → Int32 → Int32 → Int32 → (Nat → Int32) → (Nat → Int32) → Prop} {m_fruits : Int32} {m_standings : Int32} {m_rowMany : Int32} {m_thrown : Int32} {m_wanted : Int32} {m_now : Nat → Int32} {m_x : Nat → Int32} {m_height : Nat → Int32} {m_ripe : Nat → Int32} {m_foot : Nat → Int32} {m_fork : Nat → Int32} {m_told : Nat → Int32} {m_row : Nat → Int32} {m_hand : Nat → Int32} (h_m_fruits : 0 ≤ Int32.toInt m_fruits ∧ Int32.toInt m_fruits ≤ 16) (h_m_standings : 0 ≤ Int32.toInt m_standings ∧ Int32.toInt m_standings ≤ 8) (h_m_rowMany : 0 ≤ Int32.toInt m_rowMany ∧ Int32.toInt m_rowMany ≤ 16) (h_m_thrown : 0 ≤ Int32.toInt m_thrown ∧ Int32.toInt m_thrown ≤ 1) (h_m_wanted : 0 ≤ Int32.toInt m_wanted ∧ Int32.toInt m_wanted ≤ 65535) (e0_m_now : ∀ k : Nat, k = 17 → -1 ≤ Int32.toInt (m_now k) ∧ Int32.toInt (m_now k) ≤ 7) (e1_m_now : ∀ k : Nat, k = 19 → 0 ≤ Int32.toInt (m_now k) ∧ Int32.toInt (m_now k) ≤ 9) (h_m_x : ∀ k : Nat, 0 ≤ Int32.toInt (m_x k) ∧ Int32.toInt (m_x k) ≤ 99) (h_m_height : ∀ k : Nat, 0 ≤ Int32.toInt (m_height k) ∧ Int32.toInt (m_height k) ≤ 99) (h_m_ripe : ∀ k : Nat, 0 ≤ Int32.toInt (m_ripe k) ∧ Int32.toInt (m_ripe k) ≤ 9) (h_m_foot : ∀ k : Nat, 0 ≤ Int32.toInt (m_foot k) ∧ Int32.toInt (m_foot k) ≤ 99) (h_m_fork : ∀ k : Nat, 0 ≤ Int32.toInt (m_fork k) ∧ Int32.toInt (m_fork k) ≤ 99) (e0_m_told : ∀ k : Nat, k = 4 → 1 ≤ Int32.toInt (m_told k) ∧ Int32.toInt (m_told k) ≤ 30) (e1_m_told : ∀ k : Nat, k = 3 → 0 ≤ Int32.toInt (m_told k) ∧ Int32.toInt (m_told k) ≤ 9) (h_m_hand : ∀ k : Nat, 0 ≤ Int32.toInt (m_hand k) ∧ Int32.toInt (m_hand k) ≤ 65535) (hpost : ∀ (r : Int32) (m_rowMany' : Int32) (m_thrown' : Int32) (m_wanted' : Int32) (m_row' : Nat → Int32) (m_hand' : Nat → Int32), (-63 ≤ Int32.toInt r ∧ Int32.toInt r ≤ 63) → (2 ≤ Int32.toInt m_rowMany' ∧ Int32.toInt m_rowMany' ≤ 2) → (0 ≤ Int32.toInt m_thrown' ∧ Int32.toInt m_thrown' ≤ 0) → (0 ≤ Int32.toInt m_wanted' ∧ Int32.toInt m_wanted' ≤ 65535) → (∀ k : Nat, 0 ≤ Int32.toInt (m_hand' k) ∧ Int32.toInt (m_hand' k) ≤ 65535) → post r m_rowMany' m_thrown' m_wanted' m_row' m_hand') : wp_X10_helps post m_fruits m_standings m_rowMany m_thrown m_wanted m_now m_x m_height m_ripe m_foot m_fork m_told m_row m_hand := by
  have l0 : Int32.toInt (0 : Int32) = 0 := (by decide)
  have l1 : Int32.toInt (1 : Int32) = 1 := (by decide)
  have l2 : Int32.toInt (1431655765 : Int32) = 1431655765 := (by decide)
  have l3 : Int32.toInt (252645135 : Int32) = 252645135 := (by decide)
  have l4 : Int32.toInt (63 : Int32) = 63 := (by decide)
  have l5 : Int32.toInt (858993459 : Int32) = 858993459 := (by decide)
  refine t_X10_layHands_ (by omega) (by omega) (by omega) e0_m_now e1_m_now (fun k => by have q9 := h_m_x k; omega) (fun k => by have q9 := h_m_height k; omega) (fun k => by have q9 := h_m_ripe k; omega) (fun k => by have q9 := h_m_foot k; omega) (fun k => by have q9 := h_m_fork k; omega) e0_m_told e1_m_told (fun k => by have q9 := h_m_hand k; omega) (fun m_wanted_1 m_hand_2 h_m_wanted_1 h_m_hand_2 => ?_)
  refine t_X10_cover (by omega) (by omega) (fun k => by have q9 := h_m_hand_2 k; omega) (fun r3 h_r3 => ?_)
  intro v4 ev4
  intro v5 ev5
  have f7 := ti_andr v4 1431655765 (by omega)
  have f6 : Int32.toInt (r3 - (v4 &&& 1431655765)) = Int32.toInt r3 - Int32.toInt (v4 &&& 1431655765) := ta_sub _ _ (by omega)
  rw [← ev5] at f6
  intro v8 ev8
  have f9 := ti_andr v5 858993459 (by omega)
  have hv8 := congrArg Int32.toInt ev8
  intro v10 ev10
  intro v11 ev11
  have f13 := ti_andr v10 858993459 (by omega)
  have f12 : Int32.toInt (v8 + (v10 &&& 858993459)) = Int32.toInt v8 + Int32.toInt (v10 &&& 858993459) := ta_add _ _ (by omega)
  rw [← ev11] at f12
  intro v14 ev14
  have hv14 := congrArg Int32.toInt ev14
  intro v16 ev16
  have f17 := ti_andr v14 252645135 (by omega)
  have hv16 := congrArg Int32.toInt ev16
  intro v18 ev18
  have hv18 := congrArg Int32.toInt ev18
  intro v20 ev20
  have hv20 := congrArg Int32.toInt ev20
  intro v22 ev22
  intro v23 ev23
  have f25 := ti_andr v22 1431655765 (by omega)
  have f24 : Int32.toInt (m_wanted_1 - (v22 &&& 1431655765)) = Int32.toInt m_wanted_1 - Int32.toInt (v22 &&& 1431655765) := ta_sub _ _ (by omega)
  rw [← ev23] at f24
  intro v26 ev26
  have f27 := ti_andr v23 858993459 (by omega)
  have hv26 := congrArg Int32.toInt ev26
  intro v28 ev28
  intro v29 ev29
  have f31 := ti_andr v28 858993459 (by omega)
  have f30 : Int32.toInt (v26 + (v28 &&& 858993459)) = Int32.toInt v26 + Int32.toInt (v28 &&& 858993459) := ta_add _ _ (by omega)
  rw [← ev29] at f30
  intro v32 ev32
  have hv32 := congrArg Int32.toInt ev32
  intro v34 ev34
  have f35 := ti_andr v32 252645135 (by omega)
  have hv34 := congrArg Int32.toInt ev34
  intro v36 ev36
  have hv36 := congrArg Int32.toInt ev36
  intro v38 ev38
  have hv38 := congrArg Int32.toInt ev38
  refine t_X10_layHands_ (by omega) (by omega) (by omega) e0_m_now e1_m_now (fun k => by have q9 := h_m_x k; omega) (fun k => by have q9 := h_m_height k; omega) (fun k => by have q9 := h_m_ripe k; omega) (fun k => by have q9 := h_m_foot k; omega) (fun k => by have q9 := h_m_fork k; omega) e0_m_told e1_m_told (fun k => by have q9 := h_m_hand_2 k; omega) (fun m_wanted_40 m_hand_41 h_m_wanted_40 h_m_hand_41 => ?_)
  refine t_X10_cover (by omega) (by omega) (fun k => by have q9 := h_m_hand_41 k; omega) (fun r42 h_r42 => ?_)
  intro v43 ev43
  intro v44 ev44
  have f46 := ti_andr v43 1431655765 (by omega)
  have f45 : Int32.toInt (r42 - (v43 &&& 1431655765)) = Int32.toInt r42 - Int32.toInt (v43 &&& 1431655765) := ta_sub _ _ (by omega)
  rw [← ev44] at f45
  intro v47 ev47
  have f48 := ti_andr v44 858993459 (by omega)
  have hv47 := congrArg Int32.toInt ev47
  intro v49 ev49
  intro v50 ev50
  have f52 := ti_andr v49 858993459 (by omega)
  have f51 : Int32.toInt (v47 + (v49 &&& 858993459)) = Int32.toInt v47 + Int32.toInt (v49 &&& 858993459) := ta_add _ _ (by omega)
  rw [← ev50] at f51
  intro v53 ev53
  have hv53 := congrArg Int32.toInt ev53
  intro v55 ev55
  have f56 := ti_andr v53 252645135 (by omega)
  have hv55 := congrArg Int32.toInt ev55
  intro v57 ev57
  have hv57 := congrArg Int32.toInt ev57
  intro v59 ev59
  have hv59 := congrArg Int32.toInt ev59
  refine And.intro (t_in (by omega)) ?_
  intro v61 ev61
  have f62 : Int32.toInt (0 + 1) = Int32.toInt (0 : Int32) + Int32.toInt (1 : Int32) := ta_add _ _ (by omega)
  rw [← ev61] at f62
  intro v63 ev63
  intro v64 ev64
  have f66 := ti_andr v63 1431655765 (by omega)
  have f65 : Int32.toInt (m_wanted_40 - (v63 &&& 1431655765)) = Int32.toInt m_wanted_40 - Int32.toInt (v63 &&& 1431655765) := ta_sub _ _ (by omega)
  rw [← ev64] at f65
  intro v67 ev67
  have f68 := ti_andr v64 858993459 (by omega)
  have hv67 := congrArg Int32.toInt ev67
  intro v69 ev69
  intro v70 ev70
  have f72 := ti_andr v69 858993459 (by omega)
  have f71 : Int32.toInt (v67 + (v69 &&& 858993459)) = Int32.toInt v67 + Int32.toInt (v69 &&& 858993459) := ta_add _ _ (by omega)
  rw [← ev70] at f71
  intro v73 ev73
  have hv73 := congrArg Int32.toInt ev73
  intro v75 ev75
  have f76 := ti_andr v73 252645135 (by omega)
  have hv75 := congrArg Int32.toInt ev75
  intro v77 ev77
  have hv77 := congrArg Int32.toInt ev77
  intro v79 ev79
  have hv79 := congrArg Int32.toInt ev79
  refine And.intro (t_in (by omega)) ?_
  intro v81 ev81
  have f82 : Int32.toInt (v61 + 1) = Int32.toInt v61 + Int32.toInt (1 : Int32) := ta_add _ _ (by omega)
  rw [← ev81] at f82
  have f84 := ti_andr v20 63 (by omega)
  have f85 := ti_andr v59 63 (by omega)
  have f83 : Int32.toInt ((v20 &&& 63) - (v59 &&& 63)) = Int32.toInt (v20 &&& 63) - Int32.toInt (v59 &&& 63) := ta_sub _ _ (by omega)
  exact hpost _ _ _ _ _ _ (by omega) (by omega) (by omega) (by omega) (fun k => by have q9 := h_m_hand_41 k; omega)
set_option maxHeartbeats 8000000 in
set_option maxRecDepth 200000 in
theorem ts_X10_hooked_107 {post : Int32 → Int32 → Int32 → Int32 → (Nat → Int32) → (Nat → Int32) → Prop} {K52 : Int32 → Int32 → Int32 → Int32 → Int32 → Int32 → Int32 → Int32 → (Nat → Int32) → (Nat → Int32) → Prop} {n52 : Int} (m_fruits : Int32) (m_standings : Int32) (m_now : Nat → Int32) (m_x : Nat → Int32) (m_height : Nat → Int32) (m_ripe : Nat → Int32) (m_foot : Nat → Int32) (m_fork : Nat → Int32) (m_told : Nat → Int32) (h_m_fruits : 0 ≤ Int32.toInt m_fruits ∧ Int32.toInt m_fruits ≤ 16) (h_m_standings : 0 ≤ Int32.toInt m_standings ∧ Int32.toInt m_standings ≤ 8) (e0_m_now : ∀ k : Nat, k = 17 → -1 ≤ Int32.toInt (m_now k) ∧ Int32.toInt (m_now k) ≤ 7) (e1_m_now : ∀ k : Nat, k = 19 → 0 ≤ Int32.toInt (m_now k) ∧ Int32.toInt (m_now k) ≤ 9) (h_m_x : ∀ k : Nat, 0 ≤ Int32.toInt (m_x k) ∧ Int32.toInt (m_x k) ≤ 99) (h_m_height : ∀ k : Nat, 0 ≤ Int32.toInt (m_height k) ∧ Int32.toInt (m_height k) ≤ 99) (h_m_ripe : ∀ k : Nat, 0 ≤ Int32.toInt (m_ripe k) ∧ Int32.toInt (m_ripe k) ≤ 9) (h_m_foot : ∀ k : Nat, 0 ≤ Int32.toInt (m_foot k) ∧ Int32.toInt (m_foot k) ≤ 99) (h_m_fork : ∀ k : Nat, 0 ≤ Int32.toInt (m_fork k) ∧ Int32.toInt (m_fork k) ≤ 99) (e0_m_told : ∀ k : Nat, k = 4 → 1 ≤ Int32.toInt (m_told k) ∧ Int32.toInt (m_told k) ≤ 30) (e1_m_told : ∀ k : Nat, k = 3 → 0 ≤ Int32.toInt (m_told k) ∧ Int32.toInt (m_told k) ≤ 9) (hpost : ∀ (r : Int32) (m_rowMany' : Int32) (m_thrown' : Int32) (m_wanted' : Int32) (m_row' : Nat → Int32) (m_hand' : Nat → Int32), (0 ≤ Int32.toInt r ∧ Int32.toInt r ≤ 65535) → (2 ≤ Int32.toInt m_rowMany' ∧ Int32.toInt m_rowMany' ≤ 2) → (0 ≤ Int32.toInt m_thrown' ∧ Int32.toInt m_thrown' ≤ 0) → (0 ≤ Int32.toInt m_wanted' ∧ Int32.toInt m_wanted' ≤ 65535) → (∀ k : Nat, 0 ≤ Int32.toInt (m_hand' k) ∧ Int32.toInt (m_hand' k) ≤ 65535) → post r m_rowMany' m_thrown' m_wanted' m_row' m_hand') (hK52 : ∀ (x1 : Int32) (x2 : Int32) (x3 : Int32) (x4 : Int32) (x5 : Int32) (m_rowMany : Int32) (m_thrown : Int32) (m_wanted : Int32) (m_row : Nat → Int32) (m_hand : Nat → Int32), (0 ≤ Int32.toInt x1 ∧ Int32.toInt x1 ≤ 65535) → (0 ≤ Int32.toInt x2 ∧ Int32.toInt x2 ≤ 65535) → (-1 ≤ Int32.toInt x3 ∧ Int32.toInt x3 ≤ 7) → (0 ≤ Int32.toInt x4 ∧ Int32.toInt x4 ≤ 63) → (0 ≤ Int32.toInt x5 ∧ Int32.toInt x5 ≤ 8) → (0 ≤ Int32.toInt m_rowMany ∧ Int32.toInt m_rowMany ≤ 16) → (0 ≤ Int32.toInt m_thrown ∧ Int32.toInt m_thrown ≤ 0) → (0 ≤ Int32.toInt m_wanted ∧ Int32.toInt m_wanted ≤ 65535) → (∀ k : Nat, 0 ≤ Int32.toInt (m_hand k) ∧ Int32.toInt (m_hand k) ≤ 65535) → (8 - Int32.toInt x5 < n52) → K52 x1 x2 x3 x4 x5 m_rowMany m_thrown m_wanted m_row m_hand) (x1 : Int32) (x2 : Int32) (x3 : Int32) (x4 : Int32) (x5 : Int32) (m_rowMany : Int32) (m_thrown : Int32) (m_wanted : Int32) (m_row : Nat → Int32) (m_hand : Nat → Int32) (h_x1 : 0 ≤ Int32.toInt x1 ∧ Int32.toInt x1 ≤ 65535) (h_x2 : 0 ≤ Int32.toInt x2 ∧ Int32.toInt x2 ≤ 65535) (h_x3 : -1 ≤ Int32.toInt x3 ∧ Int32.toInt x3 ≤ 7) (h_x4 : 0 ≤ Int32.toInt x4 ∧ Int32.toInt x4 ≤ 63) (h_x5 : 0 ≤ Int32.toInt x5 ∧ Int32.toInt x5 ≤ 7) (h_m_rowMany : 0 ≤ Int32.toInt m_rowMany ∧ Int32.toInt m_rowMany ≤ 16) (h_m_thrown : 0 ≤ Int32.toInt m_thrown ∧ Int32.toInt m_thrown ≤ 0) (h_m_wanted : 0 ≤ Int32.toInt m_wanted ∧ Int32.toInt m_wanted ≤ 65535) (h_m_hand : ∀ k : Nat, 0 ≤ Int32.toInt (m_hand k) ∧ Int32.toInt (m_hand k) ≤ 65535) (hn52 : 8 - Int32.toInt x5 ≤ n52) : ws_X10_hooked_107 post K52 m_fruits m_standings m_now m_x m_height m_ripe m_foot m_fork m_told x1 x2 x3 x4 x5 m_rowMany m_thrown m_wanted m_row m_hand := by
  have l0 : Int32.toInt (1 : Int32) = 1 := (by decide)
  intro v1 ev1
  have f2 : Int32.toInt (x5 + 1) = Int32.toInt x5 + Int32.toInt (1 : Int32) := ta_add _ _ (by omega)
  rw [← ev1] at f2
  exact hK52 x1 x2 x3 x4 v1 m_rowMany m_thrown m_wanted m_row m_hand (by omega) (by omega) (by omega) (by omega) (by omega) (by omega) (by omega) (by omega) (fun k => by have q9 := h_m_hand k; omega) (by omega)
set_option maxHeartbeats 8000000 in
set_option maxRecDepth 200000 in
theorem ts_X10_hooked_52 {post : Int32 → Int32 → Int32 → Int32 → (Nat → Int32) → (Nat → Int32) → Prop} {next : Int32 → Int32 → Int32 → Int32 → Int32 → Int32 → Int32 → Int32 → (Nat → Int32) → (Nat → Int32) → Prop} {n52 : Int} (m_fruits : Int32) (m_standings : Int32) (m_now : Nat → Int32) (m_x : Nat → Int32) (m_height : Nat → Int32) (m_ripe : Nat → Int32) (m_foot : Nat → Int32) (m_fork : Nat → Int32) (m_told : Nat → Int32) (h_m_fruits : 0 ≤ Int32.toInt m_fruits ∧ Int32.toInt m_fruits ≤ 16) (h_m_standings : 0 ≤ Int32.toInt m_standings ∧ Int32.toInt m_standings ≤ 8) (e0_m_now : ∀ k : Nat, k = 17 → -1 ≤ Int32.toInt (m_now k) ∧ Int32.toInt (m_now k) ≤ 7) (e1_m_now : ∀ k : Nat, k = 19 → 0 ≤ Int32.toInt (m_now k) ∧ Int32.toInt (m_now k) ≤ 9) (h_m_x : ∀ k : Nat, 0 ≤ Int32.toInt (m_x k) ∧ Int32.toInt (m_x k) ≤ 99) (h_m_height : ∀ k : Nat, 0 ≤ Int32.toInt (m_height k) ∧ Int32.toInt (m_height k) ≤ 99) (h_m_ripe : ∀ k : Nat, 0 ≤ Int32.toInt (m_ripe k) ∧ Int32.toInt (m_ripe k) ≤ 9) (h_m_foot : ∀ k : Nat, 0 ≤ Int32.toInt (m_foot k) ∧ Int32.toInt (m_foot k) ≤ 99) (h_m_fork : ∀ k : Nat, 0 ≤ Int32.toInt (m_fork k) ∧ Int32.toInt (m_fork k) ≤ 99) (e0_m_told : ∀ k : Nat, k = 4 → 1 ≤ Int32.toInt (m_told k) ∧ Int32.toInt (m_told k) ≤ 30) (e1_m_told : ∀ k : Nat, k = 3 → 0 ≤ Int32.toInt (m_told k) ∧ Int32.toInt (m_told k) ≤ 9) (hpost : ∀ (r : Int32) (m_rowMany' : Int32) (m_thrown' : Int32) (m_wanted' : Int32) (m_row' : Nat → Int32) (m_hand' : Nat → Int32), (0 ≤ Int32.toInt r ∧ Int32.toInt r ≤ 65535) → (2 ≤ Int32.toInt m_rowMany' ∧ Int32.toInt m_rowMany' ≤ 2) → (0 ≤ Int32.toInt m_thrown' ∧ Int32.toInt m_thrown' ≤ 0) → (0 ≤ Int32.toInt m_wanted' ∧ Int32.toInt m_wanted' ≤ 65535) → (∀ k : Nat, 0 ≤ Int32.toInt (m_hand' k) ∧ Int32.toInt (m_hand' k) ≤ 65535) → post r m_rowMany' m_thrown' m_wanted' m_row' m_hand') (hKn : ∀ (x1 : Int32) (x2 : Int32) (x3 : Int32) (x4 : Int32) (x5 : Int32) (m_rowMany : Int32) (m_thrown : Int32) (m_wanted : Int32) (m_row : Nat → Int32) (m_hand : Nat → Int32), (0 ≤ Int32.toInt x1 ∧ Int32.toInt x1 ≤ 65535) → (0 ≤ Int32.toInt x2 ∧ Int32.toInt x2 ≤ 65535) → (-1 ≤ Int32.toInt x3 ∧ Int32.toInt x3 ≤ 7) → (0 ≤ Int32.toInt x4 ∧ Int32.toInt x4 ≤ 63) → (0 ≤ Int32.toInt x5 ∧ Int32.toInt x5 ≤ 8) → (0 ≤ Int32.toInt m_rowMany ∧ Int32.toInt m_rowMany ≤ 16) → (0 ≤ Int32.toInt m_thrown ∧ Int32.toInt m_thrown ≤ 0) → (0 ≤ Int32.toInt m_wanted ∧ Int32.toInt m_wanted ≤ 65535) → (∀ k : Nat, 0 ≤ Int32.toInt (m_hand k) ∧ Int32.toInt (m_hand k) ≤ 65535) → (8 - Int32.toInt x5 < n52) → next x1 x2 x3 x4 x5 m_rowMany m_thrown m_wanted m_row m_hand) (x1 : Int32) (x2 : Int32) (x3 : Int32) (x4 : Int32) (x5 : Int32) (m_rowMany : Int32) (m_thrown : Int32) (m_wanted : Int32) (m_row : Nat → Int32) (m_hand : Nat → Int32) (h_x1 : 0 ≤ Int32.toInt x1 ∧ Int32.toInt x1 ≤ 65535) (h_x2 : 0 ≤ Int32.toInt x2 ∧ Int32.toInt x2 ≤ 65535) (h_x3 : -1 ≤ Int32.toInt x3 ∧ Int32.toInt x3 ≤ 7) (h_x4 : 0 ≤ Int32.toInt x4 ∧ Int32.toInt x4 ≤ 63) (h_x5 : 0 ≤ Int32.toInt x5 ∧ Int32.toInt x5 ≤ 8) (h_m_rowMany : 0 ≤ Int32.toInt m_rowMany ∧ Int32.toInt m_rowMany ≤ 16) (h_m_thrown : 0 ≤ Int32.toInt m_thrown ∧ Int32.toInt m_thrown ≤ 0) (h_m_wanted : 0 ≤ Int32.toInt m_wanted ∧ Int32.toInt m_wanted ≤ 65535) (h_m_hand : ∀ k : Nat, 0 ≤ Int32.toInt (m_hand k) ∧ Int32.toInt (m_hand k) ≤ 65535) (hn52 : 8 - Int32.toInt x5 ≤ n52) : ws_X10_hooked_52 post next m_fruits m_standings m_now m_x m_height m_ripe m_foot m_fork m_told x1 x2 x3 x4 x5 m_rowMany m_thrown m_wanted m_row m_hand := by
  have l0 : Int32.toInt (0 : Int32) = 0 := (by decide)
  have l1 : Int32.toInt (1 : Int32) = 1 := (by decide)
  have l2 : Int32.toInt (1431655765 : Int32) = 1431655765 := (by decide)
  have l3 : Int32.toInt (18 : Int32) = 18 := (by decide)
  have l4 : Int32.toInt (252645135 : Int32) = 252645135 := (by decide)
  have l5 : Int32.toInt (63 : Int32) = 63 := (by decide)
  have l6 : Int32.toInt (858993459 : Int32) = 858993459 := (by decide)
  refine And.intro (fun c3 => ?_) (fun c3 => ?_)
  · skip
    have c3 := (fa_le _ _).mp c3
    refine And.intro (t_in (by omega)) ?_
    intro v4 ev4
    have f5 : Int32.toInt (0 + 1) = Int32.toInt (0 : Int32) + Int32.toInt (1 : Int32) := ta_add _ _ (by omega)
    rw [← ev4] at f5
    refine And.intro (t_in (by omega)) ?_
    intro v6 ev6
    have f7 : Int32.toInt (v4 + 1) = Int32.toInt v4 + Int32.toInt (1 : Int32) := ta_add _ _ (by omega)
    rw [← ev6] at f7
    exact hpost _ _ _ _ _ _ (by omega) (by omega) (by omega) (by omega) (fun k => by have q9 := h_m_hand k; omega)
  · skip
    have c3 := mt (fa_le _ _).mpr c3
    intro v8 ev8
    have hv8 := congrArg Int32.toInt ev8
    refine t_X10_reachedFrom (by omega) (by omega) (by omega) (fun k => by have q9 := h_m_x k; omega) (fun k => by have q9 := h_m_height k; omega) (fun k => by have q9 := h_m_foot k; omega) (fun k => by have q9 := h_m_fork k; omega) e0_m_told e1_m_told (fun r10 h_r10 => ?_)
    intro v11 ev11
    have f12 := ti_andr x1 r10 (by omega)
    have f13 := ti_andl x1 r10 (by omega)
    have hv11 := congrArg Int32.toInt ev11
    intro v14 ev14
    have f15 := ti_or 16 65536 x2 v11 (by decide) (by omega) (by omega)
    have hv14 := congrArg Int32.toInt ev14
    intro v16 ev16
    intro v17 ev17
    have f19 := ti_andr v16 1431655765 (by omega)
    have f18 : Int32.toInt (v11 - (v16 &&& 1431655765)) = Int32.toInt v11 - Int32.toInt (v16 &&& 1431655765) := ta_sub _ _ (by omega)
    rw [← ev17] at f18
    intro v20 ev20
    have f21 := ti_andr v17 858993459 (by omega)
    have hv20 := congrArg Int32.toInt ev20
    intro v22 ev22
    intro v23 ev23
    have f25 := ti_andr v22 858993459 (by omega)
    have f24 : Int32.toInt (v20 + (v22 &&& 858993459)) = Int32.toInt v20 + Int32.toInt (v22 &&& 858993459) := ta_add _ _ (by omega)
    rw [← ev23] at f24
    intro v26 ev26
    have hv26 := congrArg Int32.toInt ev26
    intro v28 ev28
    have f29 := ti_andr v26 252645135 (by omega)
    have hv28 := congrArg Int32.toInt ev28
    intro v30 ev30
    have hv30 := congrArg Int32.toInt ev30
    intro v32 ev32
    have hv32 := congrArg Int32.toInt ev32
    have f35 := ti_andr v32 63 (by omega)
    refine And.intro (fun c34 => ?_) (fun c34 => ?_)
    · skip
      have c34 := (fa_lt _ _).mp c34
      intro v36 ev36
      intro v37 ev37
      have f39 := ti_andr v36 1431655765 (by omega)
      have f38 : Int32.toInt (v11 - (v36 &&& 1431655765)) = Int32.toInt v11 - Int32.toInt (v36 &&& 1431655765) := ta_sub _ _ (by omega)
      rw [← ev37] at f38
      intro v40 ev40
      have f41 := ti_andr v37 858993459 (by omega)
      have hv40 := congrArg Int32.toInt ev40
      intro v42 ev42
      intro v43 ev43
      have f45 := ti_andr v42 858993459 (by omega)
      have f44 : Int32.toInt (v40 + (v42 &&& 858993459)) = Int32.toInt v40 + Int32.toInt (v42 &&& 858993459) := ta_add _ _ (by omega)
      rw [← ev43] at f44
      intro v46 ev46
      have hv46 := congrArg Int32.toInt ev46
      intro v48 ev48
      have f49 := ti_andr v46 252645135 (by omega)
      have hv48 := congrArg Int32.toInt ev48
      intro v50 ev50
      have hv50 := congrArg Int32.toInt ev50
      intro v52 ev52
      have hv52 := congrArg Int32.toInt ev52
      have f54 := ti_andr v52 63 (by omega)
      exact ts_X10_hooked_107 m_fruits m_standings m_now m_x m_height m_ripe m_foot m_fork m_told h_m_fruits h_m_standings e0_m_now e1_m_now h_m_x h_m_height h_m_ripe h_m_foot h_m_fork e0_m_told e1_m_told hpost hKn x1 v14 x5 (v52 &&& 63) x5 m_rowMany m_thrown m_wanted m_row m_hand (by omega) (by omega) (by omega) (by omega) (by omega) (by omega) (by omega) (by omega) (fun k => by have q9 := h_m_hand k; omega) (by omega)
    · skip
      have c34 := mt (fa_lt _ _).mpr c34
      exact ts_X10_hooked_107 m_fruits m_standings m_now m_x m_height m_ripe m_foot m_fork m_told h_m_fruits h_m_standings e0_m_now e1_m_now h_m_x h_m_height h_m_ripe h_m_foot h_m_fork e0_m_told e1_m_told hpost hKn x1 v14 x3 x4 x5 m_rowMany m_thrown m_wanted m_row m_hand (by omega) (by omega) (by omega) (by omega) (by omega) (by omega) (by omega) (by omega) (fun k => by have q9 := h_m_hand k; omega) (by omega)
set_option maxHeartbeats 8000000 in
set_option maxRecDepth 200000 in
theorem tb_X10_hooked_52 {post : Int32 → Int32 → Int32 → Int32 → (Nat → Int32) → (Nat → Int32) → Prop} (m_fruits : Int32) (m_standings : Int32) (m_now : Nat → Int32) (m_x : Nat → Int32) (m_height : Nat → Int32) (m_ripe : Nat → Int32) (m_foot : Nat → Int32) (m_fork : Nat → Int32) (m_told : Nat → Int32) (h_m_fruits : 0 ≤ Int32.toInt m_fruits ∧ Int32.toInt m_fruits ≤ 16) (h_m_standings : 0 ≤ Int32.toInt m_standings ∧ Int32.toInt m_standings ≤ 8) (e0_m_now : ∀ k : Nat, k = 17 → -1 ≤ Int32.toInt (m_now k) ∧ Int32.toInt (m_now k) ≤ 7) (e1_m_now : ∀ k : Nat, k = 19 → 0 ≤ Int32.toInt (m_now k) ∧ Int32.toInt (m_now k) ≤ 9) (h_m_x : ∀ k : Nat, 0 ≤ Int32.toInt (m_x k) ∧ Int32.toInt (m_x k) ≤ 99) (h_m_height : ∀ k : Nat, 0 ≤ Int32.toInt (m_height k) ∧ Int32.toInt (m_height k) ≤ 99) (h_m_ripe : ∀ k : Nat, 0 ≤ Int32.toInt (m_ripe k) ∧ Int32.toInt (m_ripe k) ≤ 9) (h_m_foot : ∀ k : Nat, 0 ≤ Int32.toInt (m_foot k) ∧ Int32.toInt (m_foot k) ≤ 99) (h_m_fork : ∀ k : Nat, 0 ≤ Int32.toInt (m_fork k) ∧ Int32.toInt (m_fork k) ≤ 99) (e0_m_told : ∀ k : Nat, k = 4 → 1 ≤ Int32.toInt (m_told k) ∧ Int32.toInt (m_told k) ≤ 30) (e1_m_told : ∀ k : Nat, k = 3 → 0 ≤ Int32.toInt (m_told k) ∧ Int32.toInt (m_told k) ≤ 9) (hpost : ∀ (r : Int32) (m_rowMany' : Int32) (m_thrown' : Int32) (m_wanted' : Int32) (m_row' : Nat → Int32) (m_hand' : Nat → Int32), (0 ≤ Int32.toInt r ∧ Int32.toInt r ≤ 65535) → (2 ≤ Int32.toInt m_rowMany' ∧ Int32.toInt m_rowMany' ≤ 2) → (0 ≤ Int32.toInt m_thrown' ∧ Int32.toInt m_thrown' ≤ 0) → (0 ≤ Int32.toInt m_wanted' ∧ Int32.toInt m_wanted' ≤ 65535) → (∀ k : Nat, 0 ≤ Int32.toInt (m_hand' k) ∧ Int32.toInt (m_hand' k) ≤ 65535) → post r m_rowMany' m_thrown' m_wanted' m_row' m_hand') : ∀ (n : Nat) (x1 : Int32) (x2 : Int32) (x3 : Int32) (x4 : Int32) (x5 : Int32) (m_rowMany : Int32) (m_thrown : Int32) (m_wanted : Int32) (m_row : Nat → Int32) (m_hand : Nat → Int32), (0 ≤ Int32.toInt x1 ∧ Int32.toInt x1 ≤ 65535) → (0 ≤ Int32.toInt x2 ∧ Int32.toInt x2 ≤ 65535) → (-1 ≤ Int32.toInt x3 ∧ Int32.toInt x3 ≤ 7) → (0 ≤ Int32.toInt x4 ∧ Int32.toInt x4 ≤ 63) → (0 ≤ Int32.toInt x5 ∧ Int32.toInt x5 ≤ 8) → (0 ≤ Int32.toInt m_rowMany ∧ Int32.toInt m_rowMany ≤ 16) → (0 ≤ Int32.toInt m_thrown ∧ Int32.toInt m_thrown ≤ 0) → (0 ≤ Int32.toInt m_wanted ∧ Int32.toInt m_wanted ≤ 65535) → (∀ k : Nat, 0 ≤ Int32.toInt (m_hand k) ∧ Int32.toInt (m_hand k) ≤ 65535) → (8 - Int32.toInt x5 < (n : Int)) → wb_X10_hooked_52 post m_fruits m_standings m_now m_x m_height m_ripe m_foot m_fork m_told n x1 x2 x3 x4 x5 m_rowMany m_thrown m_wanted m_row m_hand := by
  intro n
  induction n with
  | zero =>
    intro x1 x2 x3 x4 x5 m_rowMany m_thrown m_wanted m_row m_hand h_x1 h_x2 h_x3 h_x4 h_x5 h_m_rowMany h_m_thrown h_m_wanted h_m_hand hm
    exfalso; omega
  | succ n ih =>
    intro x1 x2 x3 x4 x5 m_rowMany m_thrown m_wanted m_row m_hand h_x1 h_x2 h_x3 h_x4 h_x5 h_m_rowMany h_m_thrown h_m_wanted h_m_hand hm
    exact ts_X10_hooked_52 m_fruits m_standings m_now m_x m_height m_ripe m_foot m_fork m_told h_m_fruits h_m_standings e0_m_now e1_m_now h_m_x h_m_height h_m_ripe h_m_foot h_m_fork e0_m_told e1_m_told hpost ih x1 x2 x3 x4 x5 m_rowMany m_thrown m_wanted m_row m_hand h_x1 h_x2 h_x3 h_x4 h_x5 h_m_rowMany h_m_thrown h_m_wanted h_m_hand (by omega)
set_option maxHeartbeats 8000000 in
set_option maxRecDepth 200000 in
theorem t_X10_hooked {post : Int32 → Int32 → Int32 → Int32 → (Nat → Int32) → (Nat → Int32) → Prop} {m_fruits : Int32} {m_standings : Int32} {m_rowMany : Int32} {m_thrown : Int32} {m_wanted : Int32} {m_now : Nat → Int32} {m_x : Nat → Int32} {m_height : Nat → Int32} {m_ripe : Nat → Int32} {m_foot : Nat → Int32} {m_fork : Nat → Int32} {m_told : Nat → Int32} {m_row : Nat → Int32} {m_hand : Nat → Int32} (h_m_fruits : 0 ≤ Int32.toInt m_fruits ∧ Int32.toInt m_fruits ≤ 16) (h_m_standings : 0 ≤ Int32.toInt m_standings ∧ Int32.toInt m_standings ≤ 8) (h_m_rowMany : 0 ≤ Int32.toInt m_rowMany ∧ Int32.toInt m_rowMany ≤ 16) (h_m_thrown : 0 ≤ Int32.toInt m_thrown ∧ Int32.toInt m_thrown ≤ 1) (h_m_wanted : 0 ≤ Int32.toInt m_wanted ∧ Int32.toInt m_wanted ≤ 65535) (e0_m_now : ∀ k : Nat, k = 17 → -1 ≤ Int32.toInt (m_now k) ∧ Int32.toInt (m_now k) ≤ 7) (e1_m_now : ∀ k : Nat, k = 19 → 0 ≤ Int32.toInt (m_now k) ∧ Int32.toInt (m_now k) ≤ 9) (h_m_x : ∀ k : Nat, 0 ≤ Int32.toInt (m_x k) ∧ Int32.toInt (m_x k) ≤ 99) (h_m_height : ∀ k : Nat, 0 ≤ Int32.toInt (m_height k) ∧ Int32.toInt (m_height k) ≤ 99) (h_m_ripe : ∀ k : Nat, 0 ≤ Int32.toInt (m_ripe k) ∧ Int32.toInt (m_ripe k) ≤ 9) (h_m_foot : ∀ k : Nat, 0 ≤ Int32.toInt (m_foot k) ∧ Int32.toInt (m_foot k) ≤ 99) (h_m_fork : ∀ k : Nat, 0 ≤ Int32.toInt (m_fork k) ∧ Int32.toInt (m_fork k) ≤ 99) (e0_m_told : ∀ k : Nat, k = 4 → 1 ≤ Int32.toInt (m_told k) ∧ Int32.toInt (m_told k) ≤ 30) (e1_m_told : ∀ k : Nat, k = 3 → 0 ≤ Int32.toInt (m_told k) ∧ Int32.toInt (m_told k) ≤ 9) (h_m_hand : ∀ k : Nat, 0 ≤ Int32.toInt (m_hand k) ∧ Int32.toInt (m_hand k) ≤ 65535) (hpost : ∀ (r : Int32) (m_rowMany' : Int32) (m_thrown' : Int32) (m_wanted' : Int32) (m_row' : Nat → Int32) (m_hand' : Nat → Int32), (0 ≤ Int32.toInt r ∧ Int32.toInt r ≤ 65535) → (2 ≤ Int32.toInt m_rowMany' ∧ Int32.toInt m_rowMany' ≤ 2) → (0 ≤ Int32.toInt m_thrown' ∧ Int32.toInt m_thrown' ≤ 0) → (0 ≤ Int32.toInt m_wanted' ∧ Int32.toInt m_wanted' ≤ 65535) → (∀ k : Nat, 0 ≤ Int32.toInt (m_hand' k) ∧ Int32.toInt (m_hand' k) ≤ 65535) → post r m_rowMany' m_thrown' m_wanted' m_row' m_hand') : wp_X10_hooked post m_fruits m_standings m_rowMany m_thrown m_wanted m_now m_x m_height m_ripe m_foot m_fork m_told m_row m_hand := by
  have l0 : Int32.toInt ((-1) : Int32) = -1 := (by decide)
  have l1 : Int32.toInt (0 : Int32) = 0 := (by decide)
  have l2 : Int32.toInt (1 : Int32) = 1 := (by decide)
  have l3 : Int32.toInt (18 : Int32) = 18 := (by decide)
  have l4 : Int32.toInt (19 : Int32) = 19 := (by decide)
  intro v55 ev55
  have hv55 := congrArg Int32.toInt ev55
  refine t_X10_layHands_ (by omega) (by omega) (by omega) e0_m_now e1_m_now (fun k => by have q9 := h_m_x k; omega) (fun k => by have q9 := h_m_height k; omega) (fun k => by have q9 := h_m_ripe k; omega) (fun k => by have q9 := h_m_foot k; omega) (fun k => by have q9 := h_m_fork k; omega) e0_m_told e1_m_told (fun k => by have q9 := h_m_hand k; omega) (fun m_wanted_57 m_hand_58 h_m_wanted_57 h_m_hand_58 => ?_)
  refine t_X10_which (by omega) (by omega) e0_m_now e1_m_now (fun r59 h_r59 ox60 => ?_)
  have q61 := e1_m_now (19 : Int32).toNatClampNeg (by have e9 : (19 : Int32).toNatClampNeg = (Int32.toInt (19 : Int32)).toNat := rfl; omega)
  intro v62 ev62
  have hv62 := congrArg Int32.toInt ev62
  refine t_X10_ripeOnes (by omega) (by omega) (fun k => by have q9 := h_m_ripe k; omega) (fun r64 h_r64 ox65 => ?_)
  intro v66 ev66
  have f67 := ti_andr r59 r64 (by omega)
  have f68 := ti_andl r59 r64 (by omega)
  have hv66 := congrArg Int32.toInt ev66
  intro v69 ev69
  have f70 := ti_shl1 8 256 m_standings (by decide) (by omega)
  have hv69 := congrArg Int32.toInt ev69
  have f72 : Int32.toInt (v69 - 1) = Int32.toInt v69 - Int32.toInt (1 : Int32) := ta_sub _ _ (by omega)
  refine t_X10_handOf (by omega) (by omega) (fun k => by have q9 := h_m_hand_58 k; omega) (fun r71 h_r71 => ?_)
  intro v73 ev73
  have f75 := ti_andl v66 (r71 ^^^ (-1)) (by omega)
  have hv73 := congrArg Int32.toInt ev73
  exact ⟨10, tb_X10_hooked_52 m_fruits m_standings m_now m_x m_height m_ripe m_foot m_fork m_told h_m_fruits h_m_standings e0_m_now e1_m_now h_m_x h_m_height h_m_ripe h_m_foot h_m_fork e0_m_told e1_m_told hpost _ v73 0 (-1) 0 0 m_rowMany 0 m_wanted_57 m_row m_hand_58 (by omega) (by omega) (by omega) (by omega) (by omega) (by omega) (by omega) (by omega) (fun k => by have q9 := h_m_hand_58 k; omega) (by omega)⟩
set_option maxHeartbeats 8000000 in
set_option maxRecDepth 200000 in
theorem t_X10_broken {post : Int32 → Int32 → Int32 → Int32 → (Nat → Int32) → (Nat → Int32) → Prop} {p0 : Int32} {m_fruits : Int32} {m_standings : Int32} {m_rowMany : Int32} {m_thrown : Int32} {m_wanted : Int32} {m_now : Nat → Int32} {m_x : Nat → Int32} {m_height : Nat → Int32} {m_ripe : Nat → Int32} {m_foot : Nat → Int32} {m_fork : Nat → Int32} {m_told : Nat → Int32} {m_row : Nat → Int32} {m_hand : Nat → Int32} (h_m_fruits : 0 ≤ Int32.toInt m_fruits ∧ Int32.toInt m_fruits ≤ 16) (h_m_standings : 0 ≤ Int32.toInt m_standings ∧ Int32.toInt m_standings ≤ 8) (h_m_rowMany : 0 ≤ Int32.toInt m_rowMany ∧ Int32.toInt m_rowMany ≤ 16) (h_m_thrown : 0 ≤ Int32.toInt m_thrown ∧ Int32.toInt m_thrown ≤ 1) (h_m_wanted : 0 ≤ Int32.toInt m_wanted ∧ Int32.toInt m_wanted ≤ 65535) (e0_m_now : ∀ k : Nat, k = 17 → -1 ≤ Int32.toInt (m_now k) ∧ Int32.toInt (m_now k) ≤ 7) (e1_m_now : ∀ k : Nat, k = 19 → 0 ≤ Int32.toInt (m_now k) ∧ Int32.toInt (m_now k) ≤ 9) (h_m_x : ∀ k : Nat, 0 ≤ Int32.toInt (m_x k) ∧ Int32.toInt (m_x k) ≤ 99) (h_m_height : ∀ k : Nat, 0 ≤ Int32.toInt (m_height k) ∧ Int32.toInt (m_height k) ≤ 99) (h_m_ripe : ∀ k : Nat, 0 ≤ Int32.toInt (m_ripe k) ∧ Int32.toInt (m_ripe k) ≤ 9) (h_m_foot : ∀ k : Nat, 0 ≤ Int32.toInt (m_foot k) ∧ Int32.toInt (m_foot k) ≤ 99) (h_m_fork : ∀ k : Nat, 0 ≤ Int32.toInt (m_fork k) ∧ Int32.toInt (m_fork k) ≤ 99) (e0_m_told : ∀ k : Nat, k = 4 → 1 ≤ Int32.toInt (m_told k) ∧ Int32.toInt (m_told k) ≤ 30) (e1_m_told : ∀ k : Nat, k = 3 → 0 ≤ Int32.toInt (m_told k) ∧ Int32.toInt (m_told k) ≤ 9) (h_m_hand : ∀ k : Nat, 0 ≤ Int32.toInt (m_hand k) ∧ Int32.toInt (m_hand k) ≤ 65535) (hpost : ∀ (r : Int32) (m_rowMany' : Int32) (m_thrown' : Int32) (m_wanted' : Int32) (m_row' : Nat → Int32) (m_hand' : Nat → Int32), (-1 ≤ Int32.toInt r ∧ Int32.toInt r ≤ 63) → (0 ≤ Int32.toInt m_rowMany' ∧ Int32.toInt m_rowMany' ≤ 16) → (0 ≤ Int32.toInt m_thrown' ∧ Int32.toInt m_thrown' ≤ 0) → (0 ≤ Int32.toInt m_wanted' ∧ Int32.toInt m_wanted' ≤ 65535) → (∀ k : Nat, 0 ≤ Int32.toInt (m_hand' k) ∧ Int32.toInt (m_hand' k) ≤ 65535) → post r m_rowMany' m_thrown' m_wanted' m_row' m_hand') : wp_X10_broken post p0 m_fruits m_standings m_rowMany m_thrown m_wanted m_now m_x m_height m_ripe m_foot m_fork m_told m_row m_hand := by
  have l0 : Int32.toInt ((-1) : Int32) = -1 := (by decide)
  have l1 : Int32.toInt (0 : Int32) = 0 := (by decide)
  have l2 : Int32.toInt (1 : Int32) = 1 := (by decide)
  have l3 : Int32.toInt (1431655765 : Int32) = 1431655765 := (by decide)
  have l4 : Int32.toInt (18 : Int32) = 18 := (by decide)
  have l5 : Int32.toInt (252645135 : Int32) = 252645135 := (by decide)
  have l6 : Int32.toInt (63 : Int32) = 63 := (by decide)
  have l7 : Int32.toInt (858993459 : Int32) = 858993459 := (by decide)
  intro v1 ev1
  have f2 : Int32.toInt (m_standings - 1) = Int32.toInt m_standings - Int32.toInt (1 : Int32) := ta_sub _ _ (by omega)
  rw [← ev1] at f2
  have f4 := tp_r p0
  refine And.intro (fun c3 => ?_) (fun c3 => ?_)
  · skip
    have c3 := (fa_lt _ _).mp c3
    refine And.intro (t_bool (by omega)) ?_
    refine And.intro (fun h9 => absurd h9 (by decide)) (fun _ => ?_)
    exact hpost _ _ _ _ _ _ (by omega) (by omega) (by omega) (by omega) (fun k => by have q9 := h_m_hand k; omega)
  · skip
    have c3 := mt (fa_lt _ _).mpr c3
    refine And.intro (fun c5 => ?_) (fun c5 => ?_)
    · skip
      have c5 := (fa_lt _ _).mp c5
      refine And.intro (t_bool (by omega)) ?_
      refine And.intro (fun h9 => absurd h9 (by decide)) (fun _ => ?_)
      exact hpost _ _ _ _ _ _ (by omega) (by omega) (by omega) (by omega) (fun k => by have q9 := h_m_hand k; omega)
    · skip
      have c5 := mt (fa_lt _ _).mpr c5
      refine And.intro (t_bool (by omega)) ?_
      refine And.intro (fun _ => ?_) (fun h9 => absurd h9 (by decide))
      intro v6 ev6
      have hv6 := congrArg Int32.toInt ev6
      refine t_X10_layHands_ (by omega) (by omega) (by omega) e0_m_now e1_m_now (fun k => by have q9 := h_m_x k; omega) (fun k => by have q9 := h_m_height k; omega) (fun k => by have q9 := h_m_ripe k; omega) (fun k => by have q9 := h_m_foot k; omega) (fun k => by have q9 := h_m_fork k; omega) e0_m_told e1_m_told (fun k => by have q9 := h_m_hand k; omega) (fun m_wanted_8 m_hand_9 h_m_wanted_8 h_m_hand_9 => ?_)
      refine And.intro (t_in (by omega)) ?_
      have a10 : ∀ k : Nat, 0 ≤ Int32.toInt ((upd m_hand_9 p0.toNatClampNeg 0) k) ∧ Int32.toInt ((upd m_hand_9 p0.toNatClampNeg 0) k) ≤ 65535 := t_upd (fun k => by have q9 := h_m_hand_9 k; omega) (by omega)
      intro v11 ev11
      have f12 := ti_shl1 8 256 m_standings (by decide) (by omega)
      have hv11 := congrArg Int32.toInt ev11
      have f14 : Int32.toInt (v11 - 1) = Int32.toInt v11 - Int32.toInt (1 : Int32) := ta_sub _ _ (by omega)
      refine t_X10_handOf (by omega) (by omega) (fun k => by have q9 := a10 k; omega) (fun r13 h_r13 => ?_)
      intro v15 ev15
      have f16 := ti_andr m_wanted_8 r13 (by omega)
      have f17 := ti_andl m_wanted_8 r13 (by omega)
      have hv15 := congrArg Int32.toInt ev15
      refine t_X10_cover (by omega) (by omega) (fun k => by have q9 := a10 k; omega) (fun r18 h_r18 => ?_)
      intro v19 ev19
      intro v20 ev20
      have f22 := ti_andr v19 1431655765 (by omega)
      have f21 : Int32.toInt (r18 - (v19 &&& 1431655765)) = Int32.toInt r18 - Int32.toInt (v19 &&& 1431655765) := ta_sub _ _ (by omega)
      rw [← ev20] at f21
      intro v23 ev23
      have f24 := ti_andr v20 858993459 (by omega)
      have hv23 := congrArg Int32.toInt ev23
      intro v25 ev25
      intro v26 ev26
      have f28 := ti_andr v25 858993459 (by omega)
      have f27 : Int32.toInt (v23 + (v25 &&& 858993459)) = Int32.toInt v23 + Int32.toInt (v25 &&& 858993459) := ta_add _ _ (by omega)
      rw [← ev26] at f27
      intro v29 ev29
      have hv29 := congrArg Int32.toInt ev29
      intro v31 ev31
      have f32 := ti_andr v29 252645135 (by omega)
      have hv31 := congrArg Int32.toInt ev31
      intro v33 ev33
      have hv33 := congrArg Int32.toInt ev33
      intro v35 ev35
      have hv35 := congrArg Int32.toInt ev35
      intro v37 ev37
      have f39 := ti_andl m_wanted_8 (v15 ^^^ (-1)) (by omega)
      have hv37 := congrArg Int32.toInt ev37
      refine And.intro (t_in (by omega)) ?_
      intro v40 ev40
      have f41 : Int32.toInt (0 + 1) = Int32.toInt (0 : Int32) + Int32.toInt (1 : Int32) := ta_add _ _ (by omega)
      rw [← ev40] at f41
      have f42 := ti_andr v35 63 (by omega)
      exact hpost _ _ _ _ _ _ (by omega) (by omega) (by omega) (by omega) (fun k => by have q9 := a10 k; omega)
set_option maxHeartbeats 8000000 in
set_option maxRecDepth 200000 in
theorem ts_X10_sweep_122 {post : Int32 → Int32 → Int32 → Nat → Int32 → Int32 → Int32 → Int32 → Int32 → Int32 → Int32 → Int32 → Int32 → Int32 → Int32 → Int32 → Int32 → (Nat → Int32) → (Nat → Int32) → (Nat → Int32) → (Nat → Int32) → (Nat → Int32) → Prop} {K40 : Int32 → Int32 → Int32 → Int32 → Int32 → Int32 → Int32 → Nat → Int32 → Int32 → Int32 → Int32 → Int32 → Int32 → Int32 → Int32 → Int32 → Int32 → Int32 → Int32 → Int32 → (Nat → Int32) → (Nat → Int32) → (Nat → Int32) → (Nat → Int32) → (Nat → Int32) → Prop} {n40 : Int} (m_fruits : Int32) (m_standings : Int32) (m_ruleSize : Int32) (m_now : Nat → Int32) (m_x : Nat → Int32) (m_height : Nat → Int32) (m_worth : Nat → Int32) (m_ripe : Nat → Int32) (m_foot : Nat → Int32) (m_fork : Nat → Int32) (m_told : Nat → Int32) (m_text : Nat → Int32) (m_rule : Nat → Int32) (h_m_fruits : 0 ≤ Int32.toInt m_fruits ∧ Int32.toInt m_fruits ≤ 16) (h_m_standings : 0 ≤ Int32.toInt m_standings ∧ Int32.toInt m_standings ≤ 8) (h_m_ruleSize : 0 ≤ Int32.toInt m_ruleSize ∧ Int32.toInt m_ruleSize ≤ 40) (e0_m_now : ∀ k : Nat, k = 17 → -1 ≤ Int32.toInt (m_now k) ∧ Int32.toInt (m_now k) ≤ 7) (e1_m_now : ∀ k : Nat, k = 19 → 0 ≤ Int32.toInt (m_now k) ∧ Int32.toInt (m_now k) ≤ 9) (h_m_x : ∀ k : Nat, 0 ≤ Int32.toInt (m_x k) ∧ Int32.toInt (m_x k) ≤ 99) (h_m_height : ∀ k : Nat, 0 ≤ Int32.toInt (m_height k) ∧ Int32.toInt (m_height k) ≤ 99) (h_m_worth : ∀ k : Nat, 0 ≤ Int32.toInt (m_worth k) ∧ Int32.toInt (m_worth k) ≤ 9) (h_m_ripe : ∀ k : Nat, 0 ≤ Int32.toInt (m_ripe k) ∧ Int32.toInt (m_ripe k) ≤ 9) (h_m_foot : ∀ k : Nat, 0 ≤ Int32.toInt (m_foot k) ∧ Int32.toInt (m_foot k) ≤ 99) (h_m_fork : ∀ k : Nat, 0 ≤ Int32.toInt (m_fork k) ∧ Int32.toInt (m_fork k) ≤ 99) (e0_m_told : ∀ k : Nat, k = 4 → 1 ≤ Int32.toInt (m_told k) ∧ Int32.toInt (m_told k) ≤ 30) (e1_m_told : ∀ k : Nat, k = 3 → 0 ≤ Int32.toInt (m_told k) ∧ Int32.toInt (m_told k) ≤ 9) (h_m_text : ∀ k : Nat, -128 ≤ Int32.toInt (m_text k) ∧ Int32.toInt (m_text k) ≤ 127) (h_m_rule : ∀ k : Nat, -128 ≤ Int32.toInt (m_rule k) ∧ Int32.toInt (m_rule k) ≤ 127) (hpost : ∀ (r : Int32) (m_rowMany' : Int32) (m_thrown' : Int32) (m_read' : Nat) (m_length' : Int32) (m_top' : Int32) (m_at' : Int32) (m_wrong' : Int32) (m_isAsked' : Int32) (m_askedFruit' : Int32) (m_askedStanding' : Int32) (m_askedHook' : Int32) (m_askedApron' : Int32) (m_wanted' : Int32) (m_workMoves' : Int32) (m_workPicks' : Int32) (m_workDowns' : Int32) (m_row' : Nat → Int32) (m_hand' : Nat → Int32) (m_moves' : Nat → Int32) (m_handSeconds' : Nat → Int32) (m_load' : Nat → Int32), (-1 ≤ Int32.toInt r ∧ Int32.toInt r ≤ 2147483647) → (0 ≤ Int32.toInt m_rowMany' ∧ Int32.toInt m_rowMany' ≤ 16) → (0 ≤ Int32.toInt m_thrown' ∧ Int32.toInt m_thrown' ≤ 0) → (m_read' = 0 ∨ m_read' = 1 ∨ m_read' = 2) → (0 ≤ Int32.toInt m_length' ∧ Int32.toInt m_length' ≤ 80) → (0 ≤ Int32.toInt m_top' ∧ Int32.toInt m_top' ≤ 80) → (0 ≤ Int32.toInt m_at' ∧ Int32.toInt m_at' ≤ 80) → (-1 ≤ Int32.toInt m_wrong' ∧ Int32.toInt m_wrong' ≤ 80) → (0 ≤ Int32.toInt m_isAsked' ∧ Int32.toInt m_isAsked' ≤ 0) → (0 ≤ Int32.toInt m_askedFruit' ∧ Int32.toInt m_askedFruit' ≤ 15) → (0 ≤ Int32.toInt m_askedStanding' ∧ Int32.toInt m_askedStanding' ≤ 7) → (0 ≤ Int32.toInt m_askedHook' ∧ Int32.toInt m_askedHook' ≤ 1) → (0 ≤ Int32.toInt m_askedApron' ∧ Int32.toInt m_askedApron' ≤ 63) → (0 ≤ Int32.toInt m_wanted' ∧ Int32.toInt m_wanted' ≤ 65535) → (∀ k : Nat, 0 ≤ Int32.toInt (m_hand' k) ∧ Int32.toInt (m_hand' k) ≤ 65535) → (∀ k : Nat, 0 ≤ Int32.toInt (m_handSeconds' k) ∧ Int32.toInt (m_handSeconds' k) ≤ 99) → post r m_rowMany' m_thrown' m_read' m_length' m_top' m_at' m_wrong' m_isAsked' m_askedFruit' m_askedStanding' m_askedHook' m_askedApron' m_wanted' m_workMoves' m_workPicks' m_workDowns' m_row' m_hand' m_moves' m_handSeconds' m_load') (hK40 : ∀ (x1 : Int32) (x2 : Int32) (x3 : Int32) (x4 : Int32) (x5 : Int32) (m_rowMany : Int32) (m_thrown : Int32) (m_read : Nat) (m_length : Int32) (m_top : Int32) (m_at : Int32) (m_wrong : Int32) (m_isAsked : Int32) (m_askedFruit : Int32) (m_askedStanding : Int32) (m_askedHook : Int32) (m_askedApron : Int32) (m_wanted : Int32) (m_workMoves : Int32) (m_workPicks : Int32) (m_workDowns : Int32) (m_row : Nat → Int32) (m_hand : Nat → Int32) (m_moves : Nat → Int32) (m_handSeconds : Nat → Int32) (m_load : Nat → Int32), (0 ≤ Int32.toInt x1 ∧ Int32.toInt x1 ≤ 9999) → (-1 ≤ Int32.toInt x2 ∧ Int32.toInt x2 ≤ 255) → (-1 ≤ Int32.toInt x3 ∧ Int32.toInt x3 ≤ 2147483647) → (-2147483648 ≤ Int32.toInt x4 ∧ Int32.toInt x4 ≤ 9999) → (0 ≤ Int32.toInt x5 ∧ Int32.toInt x5 ≤ 256) → (0 ≤ Int32.toInt m_rowMany ∧ Int32.toInt m_rowMany ≤ 16) → (0 ≤ Int32.toInt m_thrown ∧ Int32.toInt m_thrown ≤ 0) → (m_read = 0 ∨ m_read = 1 ∨ m_read = 2) → (0 ≤ Int32.toInt m_length ∧ Int32.toInt m_length ≤ 80) → (0 ≤ Int32.toInt m_top ∧ Int32.toInt m_top ≤ 80) → (0 ≤ Int32.toInt m_at ∧ Int32.toInt m_at ≤ 80) → (-1 ≤ Int32.toInt m_wrong ∧ Int32.toInt m_wrong ≤ 80) → (0 ≤ Int32.toInt m_isAsked ∧ Int32.toInt m_isAsked ≤ 0) → (0 ≤ Int32.toInt m_askedFruit ∧ Int32.toInt m_askedFruit ≤ 15) → (0 ≤ Int32.toInt m_askedStanding ∧ Int32.toInt m_askedStanding ≤ 7) → (0 ≤ Int32.toInt m_askedHook ∧ Int32.toInt m_askedHook ≤ 1) → (0 ≤ Int32.toInt m_askedApron ∧ Int32.toInt m_askedApron ≤ 63) → (0 ≤ Int32.toInt m_wanted ∧ Int32.toInt m_wanted ≤ 65535) → (∀ k : Nat, 0 ≤ Int32.toInt (m_hand k) ∧ Int32.toInt (m_hand k) ≤ 65535) → (∀ k : Nat, 0 ≤ Int32.toInt (m_handSeconds k) ∧ Int32.toInt (m_handSeconds k) ≤ 99) → (256 - Int32.toInt x5 < n40) → K40 x1 x2 x3 x4 x5 m_rowMany m_thrown m_read m_length m_top m_at m_wrong m_isAsked m_askedFruit m_askedStanding m_askedHook m_askedApron m_wanted m_workMoves m_workPicks m_workDowns m_row m_hand m_moves m_handSeconds m_load) (x1 : Int32) (x2 : Int32) (x3 : Int32) (x4 : Int32) (x5 : Int32) (m_rowMany : Int32) (m_thrown : Int32) (m_read : Nat) (m_length : Int32) (m_top : Int32) (m_at : Int32) (m_wrong : Int32) (m_isAsked : Int32) (m_askedFruit : Int32) (m_askedStanding : Int32) (m_askedHook : Int32) (m_askedApron : Int32) (m_wanted : Int32) (m_workMoves : Int32) (m_workPicks : Int32) (m_workDowns : Int32) (m_row : Nat → Int32) (m_hand : Nat → Int32) (m_moves : Nat → Int32) (m_handSeconds : Nat → Int32) (m_load : Nat → Int32) (h_x1 : 0 ≤ Int32.toInt x1 ∧ Int32.toInt x1 ≤ 9999) (h_x2 : -1 ≤ Int32.toInt x2 ∧ Int32.toInt x2 ≤ 255) (h_x3 : -1 ≤ Int32.toInt x3 ∧ Int32.toInt x3 ≤ 2147483647) (h_x4 : -2147483648 ≤ Int32.toInt x4 ∧ Int32.toInt x4 ≤ 9999) (h_x5 : 0 ≤ Int32.toInt x5 ∧ Int32.toInt x5 ≤ 255) (h_m_rowMany : 0 ≤ Int32.toInt m_rowMany ∧ Int32.toInt m_rowMany ≤ 16) (h_m_thrown : 0 ≤ Int32.toInt m_thrown ∧ Int32.toInt m_thrown ≤ 0) (h_m_read : m_read = 0 ∨ m_read = 1 ∨ m_read = 2) (h_m_length : 0 ≤ Int32.toInt m_length ∧ Int32.toInt m_length ≤ 80) (h_m_top : 0 ≤ Int32.toInt m_top ∧ Int32.toInt m_top ≤ 80) (h_m_at : 0 ≤ Int32.toInt m_at ∧ Int32.toInt m_at ≤ 80) (h_m_wrong : -1 ≤ Int32.toInt m_wrong ∧ Int32.toInt m_wrong ≤ 80) (h_m_isAsked : 0 ≤ Int32.toInt m_isAsked ∧ Int32.toInt m_isAsked ≤ 0) (h_m_askedFruit : 0 ≤ Int32.toInt m_askedFruit ∧ Int32.toInt m_askedFruit ≤ 15) (h_m_askedStanding : 0 ≤ Int32.toInt m_askedStanding ∧ Int32.toInt m_askedStanding ≤ 7) (h_m_askedHook : 0 ≤ Int32.toInt m_askedHook ∧ Int32.toInt m_askedHook ≤ 1) (h_m_askedApron : 0 ≤ Int32.toInt m_askedApron ∧ Int32.toInt m_askedApron ≤ 63) (h_m_wanted : 0 ≤ Int32.toInt m_wanted ∧ Int32.toInt m_wanted ≤ 65535) (h_m_hand : ∀ k : Nat, 0 ≤ Int32.toInt (m_hand k) ∧ Int32.toInt (m_hand k) ≤ 65535) (h_m_handSeconds : ∀ k : Nat, 0 ≤ Int32.toInt (m_handSeconds k) ∧ Int32.toInt (m_handSeconds k) ≤ 99) (hn40 : 256 - Int32.toInt x5 ≤ n40) : ws_X10_sweep_122 post K40 m_fruits m_standings m_ruleSize m_now m_x m_height m_worth m_ripe m_foot m_fork m_told m_text m_rule x1 x2 x3 x4 x5 m_rowMany m_thrown m_read m_length m_top m_at m_wrong m_isAsked m_askedFruit m_askedStanding m_askedHook m_askedApron m_wanted m_workMoves m_workPicks m_workDowns m_row m_hand m_moves m_handSeconds m_load := by
  have l0 : Int32.toInt (1 : Int32) = 1 := (by decide)
  intro v1 ev1
  have f2 : Int32.toInt (x5 + 1) = Int32.toInt x5 + Int32.toInt (1 : Int32) := ta_add _ _ (by omega)
  rw [← ev1] at f2
  have f3 := tp_r x3
  have f4 := tp_r x4
  have f5 := tp_r m_workMoves
  have f6 := tp_r m_workPicks
  have f7 := tp_r m_workDowns
  exact hK40 x1 x2 x3 x4 v1 m_rowMany m_thrown m_read m_length m_top m_at m_wrong m_isAsked m_askedFruit m_askedStanding m_askedHook m_askedApron m_wanted m_workMoves m_workPicks m_workDowns m_row m_hand m_moves m_handSeconds m_load (by omega) (by omega) (by omega) (by omega) (by omega) (by omega) (by omega) (by first | exact h_m_read | exact Or.inl rfl | exact Or.inr rfl | omega) (by omega) (by omega) (by omega) (by omega) (by omega) (by omega) (by omega) (by omega) (by omega) (by omega) (fun k => by have q9 := h_m_hand k; omega) (fun k => by have q9 := h_m_handSeconds k; omega) (by omega)
set_option maxHeartbeats 8000000 in
set_option maxRecDepth 200000 in
theorem ts_X10_sweep_112 {post : Int32 → Int32 → Int32 → Nat → Int32 → Int32 → Int32 → Int32 → Int32 → Int32 → Int32 → Int32 → Int32 → Int32 → Int32 → Int32 → Int32 → (Nat → Int32) → (Nat → Int32) → (Nat → Int32) → (Nat → Int32) → (Nat → Int32) → Prop} {K40 : Int32 → Int32 → Int32 → Int32 → Int32 → Int32 → Int32 → Nat → Int32 → Int32 → Int32 → Int32 → Int32 → Int32 → Int32 → Int32 → Int32 → Int32 → Int32 → Int32 → Int32 → (Nat → Int32) → (Nat → Int32) → (Nat → Int32) → (Nat → Int32) → (Nat → Int32) → Prop} {n40 : Int} (m_fruits : Int32) (m_standings : Int32) (m_ruleSize : Int32) (m_now : Nat → Int32) (m_x : Nat → Int32) (m_height : Nat → Int32) (m_worth : Nat → Int32) (m_ripe : Nat → Int32) (m_foot : Nat → Int32) (m_fork : Nat → Int32) (m_told : Nat → Int32) (m_text : Nat → Int32) (m_rule : Nat → Int32) (h_m_fruits : 0 ≤ Int32.toInt m_fruits ∧ Int32.toInt m_fruits ≤ 16) (h_m_standings : 0 ≤ Int32.toInt m_standings ∧ Int32.toInt m_standings ≤ 8) (h_m_ruleSize : 0 ≤ Int32.toInt m_ruleSize ∧ Int32.toInt m_ruleSize ≤ 40) (e0_m_now : ∀ k : Nat, k = 17 → -1 ≤ Int32.toInt (m_now k) ∧ Int32.toInt (m_now k) ≤ 7) (e1_m_now : ∀ k : Nat, k = 19 → 0 ≤ Int32.toInt (m_now k) ∧ Int32.toInt (m_now k) ≤ 9) (h_m_x : ∀ k : Nat, 0 ≤ Int32.toInt (m_x k) ∧ Int32.toInt (m_x k) ≤ 99) (h_m_height : ∀ k : Nat, 0 ≤ Int32.toInt (m_height k) ∧ Int32.toInt (m_height k) ≤ 99) (h_m_worth : ∀ k : Nat, 0 ≤ Int32.toInt (m_worth k) ∧ Int32.toInt (m_worth k) ≤ 9) (h_m_ripe : ∀ k : Nat, 0 ≤ Int32.toInt (m_ripe k) ∧ Int32.toInt (m_ripe k) ≤ 9) (h_m_foot : ∀ k : Nat, 0 ≤ Int32.toInt (m_foot k) ∧ Int32.toInt (m_foot k) ≤ 99) (h_m_fork : ∀ k : Nat, 0 ≤ Int32.toInt (m_fork k) ∧ Int32.toInt (m_fork k) ≤ 99) (e0_m_told : ∀ k : Nat, k = 4 → 1 ≤ Int32.toInt (m_told k) ∧ Int32.toInt (m_told k) ≤ 30) (e1_m_told : ∀ k : Nat, k = 3 → 0 ≤ Int32.toInt (m_told k) ∧ Int32.toInt (m_told k) ≤ 9) (h_m_text : ∀ k : Nat, -128 ≤ Int32.toInt (m_text k) ∧ Int32.toInt (m_text k) ≤ 127) (h_m_rule : ∀ k : Nat, -128 ≤ Int32.toInt (m_rule k) ∧ Int32.toInt (m_rule k) ≤ 127) (hpost : ∀ (r : Int32) (m_rowMany' : Int32) (m_thrown' : Int32) (m_read' : Nat) (m_length' : Int32) (m_top' : Int32) (m_at' : Int32) (m_wrong' : Int32) (m_isAsked' : Int32) (m_askedFruit' : Int32) (m_askedStanding' : Int32) (m_askedHook' : Int32) (m_askedApron' : Int32) (m_wanted' : Int32) (m_workMoves' : Int32) (m_workPicks' : Int32) (m_workDowns' : Int32) (m_row' : Nat → Int32) (m_hand' : Nat → Int32) (m_moves' : Nat → Int32) (m_handSeconds' : Nat → Int32) (m_load' : Nat → Int32), (-1 ≤ Int32.toInt r ∧ Int32.toInt r ≤ 2147483647) → (0 ≤ Int32.toInt m_rowMany' ∧ Int32.toInt m_rowMany' ≤ 16) → (0 ≤ Int32.toInt m_thrown' ∧ Int32.toInt m_thrown' ≤ 0) → (m_read' = 0 ∨ m_read' = 1 ∨ m_read' = 2) → (0 ≤ Int32.toInt m_length' ∧ Int32.toInt m_length' ≤ 80) → (0 ≤ Int32.toInt m_top' ∧ Int32.toInt m_top' ≤ 80) → (0 ≤ Int32.toInt m_at' ∧ Int32.toInt m_at' ≤ 80) → (-1 ≤ Int32.toInt m_wrong' ∧ Int32.toInt m_wrong' ≤ 80) → (0 ≤ Int32.toInt m_isAsked' ∧ Int32.toInt m_isAsked' ≤ 0) → (0 ≤ Int32.toInt m_askedFruit' ∧ Int32.toInt m_askedFruit' ≤ 15) → (0 ≤ Int32.toInt m_askedStanding' ∧ Int32.toInt m_askedStanding' ≤ 7) → (0 ≤ Int32.toInt m_askedHook' ∧ Int32.toInt m_askedHook' ≤ 1) → (0 ≤ Int32.toInt m_askedApron' ∧ Int32.toInt m_askedApron' ≤ 63) → (0 ≤ Int32.toInt m_wanted' ∧ Int32.toInt m_wanted' ≤ 65535) → (∀ k : Nat, 0 ≤ Int32.toInt (m_hand' k) ∧ Int32.toInt (m_hand' k) ≤ 65535) → (∀ k : Nat, 0 ≤ Int32.toInt (m_handSeconds' k) ∧ Int32.toInt (m_handSeconds' k) ≤ 99) → post r m_rowMany' m_thrown' m_read' m_length' m_top' m_at' m_wrong' m_isAsked' m_askedFruit' m_askedStanding' m_askedHook' m_askedApron' m_wanted' m_workMoves' m_workPicks' m_workDowns' m_row' m_hand' m_moves' m_handSeconds' m_load') (hK40 : ∀ (x1 : Int32) (x2 : Int32) (x3 : Int32) (x4 : Int32) (x5 : Int32) (m_rowMany : Int32) (m_thrown : Int32) (m_read : Nat) (m_length : Int32) (m_top : Int32) (m_at : Int32) (m_wrong : Int32) (m_isAsked : Int32) (m_askedFruit : Int32) (m_askedStanding : Int32) (m_askedHook : Int32) (m_askedApron : Int32) (m_wanted : Int32) (m_workMoves : Int32) (m_workPicks : Int32) (m_workDowns : Int32) (m_row : Nat → Int32) (m_hand : Nat → Int32) (m_moves : Nat → Int32) (m_handSeconds : Nat → Int32) (m_load : Nat → Int32), (0 ≤ Int32.toInt x1 ∧ Int32.toInt x1 ≤ 9999) → (-1 ≤ Int32.toInt x2 ∧ Int32.toInt x2 ≤ 255) → (-1 ≤ Int32.toInt x3 ∧ Int32.toInt x3 ≤ 2147483647) → (-2147483648 ≤ Int32.toInt x4 ∧ Int32.toInt x4 ≤ 9999) → (0 ≤ Int32.toInt x5 ∧ Int32.toInt x5 ≤ 256) → (0 ≤ Int32.toInt m_rowMany ∧ Int32.toInt m_rowMany ≤ 16) → (0 ≤ Int32.toInt m_thrown ∧ Int32.toInt m_thrown ≤ 0) → (m_read = 0 ∨ m_read = 1 ∨ m_read = 2) → (0 ≤ Int32.toInt m_length ∧ Int32.toInt m_length ≤ 80) → (0 ≤ Int32.toInt m_top ∧ Int32.toInt m_top ≤ 80) → (0 ≤ Int32.toInt m_at ∧ Int32.toInt m_at ≤ 80) → (-1 ≤ Int32.toInt m_wrong ∧ Int32.toInt m_wrong ≤ 80) → (0 ≤ Int32.toInt m_isAsked ∧ Int32.toInt m_isAsked ≤ 0) → (0 ≤ Int32.toInt m_askedFruit ∧ Int32.toInt m_askedFruit ≤ 15) → (0 ≤ Int32.toInt m_askedStanding ∧ Int32.toInt m_askedStanding ≤ 7) → (0 ≤ Int32.toInt m_askedHook ∧ Int32.toInt m_askedHook ≤ 1) → (0 ≤ Int32.toInt m_askedApron ∧ Int32.toInt m_askedApron ≤ 63) → (0 ≤ Int32.toInt m_wanted ∧ Int32.toInt m_wanted ≤ 65535) → (∀ k : Nat, 0 ≤ Int32.toInt (m_hand k) ∧ Int32.toInt (m_hand k) ≤ 65535) → (∀ k : Nat, 0 ≤ Int32.toInt (m_handSeconds k) ∧ Int32.toInt (m_handSeconds k) ≤ 99) → (256 - Int32.toInt x5 < n40) → K40 x1 x2 x3 x4 x5 m_rowMany m_thrown m_read m_length m_top m_at m_wrong m_isAsked m_askedFruit m_askedStanding m_askedHook m_askedApron m_wanted m_workMoves m_workPicks m_workDowns m_row m_hand m_moves m_handSeconds m_load) (x1 : Int32) (x5 : Int32) (x6 : Int32) (x7 : Int32) (m_rowMany : Int32) (m_thrown : Int32) (m_read : Nat) (m_length : Int32) (m_top : Int32) (m_at : Int32) (m_wrong : Int32) (m_isAsked : Int32) (m_askedFruit : Int32) (m_askedStanding : Int32) (m_askedHook : Int32) (m_askedApron : Int32) (m_wanted : Int32) (m_workMoves : Int32) (m_workPicks : Int32) (m_workDowns : Int32) (m_row : Nat → Int32) (m_hand : Nat → Int32) (m_moves : Nat → Int32) (m_handSeconds : Nat → Int32) (m_load : Nat → Int32) (h_x1 : 0 ≤ Int32.toInt x1 ∧ Int32.toInt x1 ≤ 9999) (h_x5 : 0 ≤ Int32.toInt x5 ∧ Int32.toInt x5 ≤ 255) (h_x6 : -2147483648 ≤ Int32.toInt x6 ∧ Int32.toInt x6 ≤ 9999) (h_x7 : -1 ≤ Int32.toInt x7 ∧ Int32.toInt x7 ≤ 2147483647) (h_m_rowMany : 0 ≤ Int32.toInt m_rowMany ∧ Int32.toInt m_rowMany ≤ 16) (h_m_thrown : 0 ≤ Int32.toInt m_thrown ∧ Int32.toInt m_thrown ≤ 0) (h_m_read : m_read = 0 ∨ m_read = 1 ∨ m_read = 2) (h_m_length : 0 ≤ Int32.toInt m_length ∧ Int32.toInt m_length ≤ 80) (h_m_top : 0 ≤ Int32.toInt m_top ∧ Int32.toInt m_top ≤ 80) (h_m_at : 0 ≤ Int32.toInt m_at ∧ Int32.toInt m_at ≤ 80) (h_m_wrong : -1 ≤ Int32.toInt m_wrong ∧ Int32.toInt m_wrong ≤ 80) (h_m_isAsked : 0 ≤ Int32.toInt m_isAsked ∧ Int32.toInt m_isAsked ≤ 0) (h_m_askedFruit : 0 ≤ Int32.toInt m_askedFruit ∧ Int32.toInt m_askedFruit ≤ 15) (h_m_askedStanding : 0 ≤ Int32.toInt m_askedStanding ∧ Int32.toInt m_askedStanding ≤ 7) (h_m_askedHook : 0 ≤ Int32.toInt m_askedHook ∧ Int32.toInt m_askedHook ≤ 1) (h_m_askedApron : 0 ≤ Int32.toInt m_askedApron ∧ Int32.toInt m_askedApron ≤ 63) (h_m_wanted : 0 ≤ Int32.toInt m_wanted ∧ Int32.toInt m_wanted ≤ 65535) (h_m_hand : ∀ k : Nat, 0 ≤ Int32.toInt (m_hand k) ∧ Int32.toInt (m_hand k) ≤ 65535) (h_m_handSeconds : ∀ k : Nat, 0 ≤ Int32.toInt (m_handSeconds k) ∧ Int32.toInt (m_handSeconds k) ≤ 99) (hn40 : 256 - Int32.toInt x5 ≤ n40) : ws_X10_sweep_112 post K40 m_fruits m_standings m_ruleSize m_now m_x m_height m_worth m_ripe m_foot m_fork m_told m_text m_rule x1 x5 x6 x7 m_rowMany m_thrown m_read m_length m_top m_at m_wrong m_isAsked m_askedFruit m_askedStanding m_askedHook m_askedApron m_wanted m_workMoves m_workPicks m_workDowns m_row m_hand m_moves m_handSeconds m_load := by
  have f8 := tp_r x7
  have f9 := tp_r x6
  have f10 := tp_r m_workMoves
  have f11 := tp_r m_workPicks
  have f12 := tp_r m_workDowns
  exact ts_X10_sweep_122 m_fruits m_standings m_ruleSize m_now m_x m_height m_worth m_ripe m_foot m_fork m_told m_text m_rule h_m_fruits h_m_standings h_m_ruleSize e0_m_now e1_m_now h_m_x h_m_height h_m_worth h_m_ripe h_m_foot h_m_fork e0_m_told e1_m_told h_m_text h_m_rule hpost hK40 x1 x5 x7 x6 x5 m_rowMany m_thrown m_read m_length m_top m_at m_wrong m_isAsked m_askedFruit m_askedStanding m_askedHook m_askedApron m_wanted m_workMoves m_workPicks m_workDowns m_row m_hand m_moves m_handSeconds m_load (by omega) (by omega) (by omega) (by omega) (by omega) (by omega) (by omega) (by first | exact h_m_read | exact Or.inl rfl | exact Or.inr rfl | omega) (by omega) (by omega) (by omega) (by omega) (by omega) (by omega) (by omega) (by omega) (by omega) (by omega) (fun k => by have q9 := h_m_hand k; omega) (fun k => by have q9 := h_m_handSeconds k; omega) (by omega)
set_option maxHeartbeats 8000000 in
set_option maxRecDepth 200000 in
theorem ts_X10_sweep_40 {post : Int32 → Int32 → Int32 → Nat → Int32 → Int32 → Int32 → Int32 → Int32 → Int32 → Int32 → Int32 → Int32 → Int32 → Int32 → Int32 → Int32 → (Nat → Int32) → (Nat → Int32) → (Nat → Int32) → (Nat → Int32) → (Nat → Int32) → Prop} {next : Int32 → Int32 → Int32 → Int32 → Int32 → Int32 → Int32 → Nat → Int32 → Int32 → Int32 → Int32 → Int32 → Int32 → Int32 → Int32 → Int32 → Int32 → Int32 → Int32 → Int32 → (Nat → Int32) → (Nat → Int32) → (Nat → Int32) → (Nat → Int32) → (Nat → Int32) → Prop} {n40 : Int} (m_fruits : Int32) (m_standings : Int32) (m_ruleSize : Int32) (m_now : Nat → Int32) (m_x : Nat → Int32) (m_height : Nat → Int32) (m_worth : Nat → Int32) (m_ripe : Nat → Int32) (m_foot : Nat → Int32) (m_fork : Nat → Int32) (m_told : Nat → Int32) (m_text : Nat → Int32) (m_rule : Nat → Int32) (h_m_fruits : 0 ≤ Int32.toInt m_fruits ∧ Int32.toInt m_fruits ≤ 16) (h_m_standings : 0 ≤ Int32.toInt m_standings ∧ Int32.toInt m_standings ≤ 8) (h_m_ruleSize : 0 ≤ Int32.toInt m_ruleSize ∧ Int32.toInt m_ruleSize ≤ 40) (e0_m_now : ∀ k : Nat, k = 17 → -1 ≤ Int32.toInt (m_now k) ∧ Int32.toInt (m_now k) ≤ 7) (e1_m_now : ∀ k : Nat, k = 19 → 0 ≤ Int32.toInt (m_now k) ∧ Int32.toInt (m_now k) ≤ 9) (h_m_x : ∀ k : Nat, 0 ≤ Int32.toInt (m_x k) ∧ Int32.toInt (m_x k) ≤ 99) (h_m_height : ∀ k : Nat, 0 ≤ Int32.toInt (m_height k) ∧ Int32.toInt (m_height k) ≤ 99) (h_m_worth : ∀ k : Nat, 0 ≤ Int32.toInt (m_worth k) ∧ Int32.toInt (m_worth k) ≤ 9) (h_m_ripe : ∀ k : Nat, 0 ≤ Int32.toInt (m_ripe k) ∧ Int32.toInt (m_ripe k) ≤ 9) (h_m_foot : ∀ k : Nat, 0 ≤ Int32.toInt (m_foot k) ∧ Int32.toInt (m_foot k) ≤ 99) (h_m_fork : ∀ k : Nat, 0 ≤ Int32.toInt (m_fork k) ∧ Int32.toInt (m_fork k) ≤ 99) (e0_m_told : ∀ k : Nat, k = 4 → 1 ≤ Int32.toInt (m_told k) ∧ Int32.toInt (m_told k) ≤ 30) (e1_m_told : ∀ k : Nat, k = 3 → 0 ≤ Int32.toInt (m_told k) ∧ Int32.toInt (m_told k) ≤ 9) (h_m_text : ∀ k : Nat, -128 ≤ Int32.toInt (m_text k) ∧ Int32.toInt (m_text k) ≤ 127) (h_m_rule : ∀ k : Nat, -128 ≤ Int32.toInt (m_rule k) ∧ Int32.toInt (m_rule k) ≤ 127) (hpost : ∀ (r : Int32) (m_rowMany' : Int32) (m_thrown' : Int32) (m_read' : Nat) (m_length' : Int32) (m_top' : Int32) (m_at' : Int32) (m_wrong' : Int32) (m_isAsked' : Int32) (m_askedFruit' : Int32) (m_askedStanding' : Int32) (m_askedHook' : Int32) (m_askedApron' : Int32) (m_wanted' : Int32) (m_workMoves' : Int32) (m_workPicks' : Int32) (m_workDowns' : Int32) (m_row' : Nat → Int32) (m_hand' : Nat → Int32) (m_moves' : Nat → Int32) (m_handSeconds' : Nat → Int32) (m_load' : Nat → Int32), (-1 ≤ Int32.toInt r ∧ Int32.toInt r ≤ 2147483647) → (0 ≤ Int32.toInt m_rowMany' ∧ Int32.toInt m_rowMany' ≤ 16) → (0 ≤ Int32.toInt m_thrown' ∧ Int32.toInt m_thrown' ≤ 0) → (m_read' = 0 ∨ m_read' = 1 ∨ m_read' = 2) → (0 ≤ Int32.toInt m_length' ∧ Int32.toInt m_length' ≤ 80) → (0 ≤ Int32.toInt m_top' ∧ Int32.toInt m_top' ≤ 80) → (0 ≤ Int32.toInt m_at' ∧ Int32.toInt m_at' ≤ 80) → (-1 ≤ Int32.toInt m_wrong' ∧ Int32.toInt m_wrong' ≤ 80) → (0 ≤ Int32.toInt m_isAsked' ∧ Int32.toInt m_isAsked' ≤ 0) → (0 ≤ Int32.toInt m_askedFruit' ∧ Int32.toInt m_askedFruit' ≤ 15) → (0 ≤ Int32.toInt m_askedStanding' ∧ Int32.toInt m_askedStanding' ≤ 7) → (0 ≤ Int32.toInt m_askedHook' ∧ Int32.toInt m_askedHook' ≤ 1) → (0 ≤ Int32.toInt m_askedApron' ∧ Int32.toInt m_askedApron' ≤ 63) → (0 ≤ Int32.toInt m_wanted' ∧ Int32.toInt m_wanted' ≤ 65535) → (∀ k : Nat, 0 ≤ Int32.toInt (m_hand' k) ∧ Int32.toInt (m_hand' k) ≤ 65535) → (∀ k : Nat, 0 ≤ Int32.toInt (m_handSeconds' k) ∧ Int32.toInt (m_handSeconds' k) ≤ 99) → post r m_rowMany' m_thrown' m_read' m_length' m_top' m_at' m_wrong' m_isAsked' m_askedFruit' m_askedStanding' m_askedHook' m_askedApron' m_wanted' m_workMoves' m_workPicks' m_workDowns' m_row' m_hand' m_moves' m_handSeconds' m_load') (hKn : ∀ (x1 : Int32) (x2 : Int32) (x3 : Int32) (x4 : Int32) (x5 : Int32) (m_rowMany : Int32) (m_thrown : Int32) (m_read : Nat) (m_length : Int32) (m_top : Int32) (m_at : Int32) (m_wrong : Int32) (m_isAsked : Int32) (m_askedFruit : Int32) (m_askedStanding : Int32) (m_askedHook : Int32) (m_askedApron : Int32) (m_wanted : Int32) (m_workMoves : Int32) (m_workPicks : Int32) (m_workDowns : Int32) (m_row : Nat → Int32) (m_hand : Nat → Int32) (m_moves : Nat → Int32) (m_handSeconds : Nat → Int32) (m_load : Nat → Int32), (0 ≤ Int32.toInt x1 ∧ Int32.toInt x1 ≤ 9999) → (-1 ≤ Int32.toInt x2 ∧ Int32.toInt x2 ≤ 255) → (-1 ≤ Int32.toInt x3 ∧ Int32.toInt x3 ≤ 2147483647) → (-2147483648 ≤ Int32.toInt x4 ∧ Int32.toInt x4 ≤ 9999) → (0 ≤ Int32.toInt x5 ∧ Int32.toInt x5 ≤ 256) → (0 ≤ Int32.toInt m_rowMany ∧ Int32.toInt m_rowMany ≤ 16) → (0 ≤ Int32.toInt m_thrown ∧ Int32.toInt m_thrown ≤ 0) → (m_read = 0 ∨ m_read = 1 ∨ m_read = 2) → (0 ≤ Int32.toInt m_length ∧ Int32.toInt m_length ≤ 80) → (0 ≤ Int32.toInt m_top ∧ Int32.toInt m_top ≤ 80) → (0 ≤ Int32.toInt m_at ∧ Int32.toInt m_at ≤ 80) → (-1 ≤ Int32.toInt m_wrong ∧ Int32.toInt m_wrong ≤ 80) → (0 ≤ Int32.toInt m_isAsked ∧ Int32.toInt m_isAsked ≤ 0) → (0 ≤ Int32.toInt m_askedFruit ∧ Int32.toInt m_askedFruit ≤ 15) → (0 ≤ Int32.toInt m_askedStanding ∧ Int32.toInt m_askedStanding ≤ 7) → (0 ≤ Int32.toInt m_askedHook ∧ Int32.toInt m_askedHook ≤ 1) → (0 ≤ Int32.toInt m_askedApron ∧ Int32.toInt m_askedApron ≤ 63) → (0 ≤ Int32.toInt m_wanted ∧ Int32.toInt m_wanted ≤ 65535) → (∀ k : Nat, 0 ≤ Int32.toInt (m_hand k) ∧ Int32.toInt (m_hand k) ≤ 65535) → (∀ k : Nat, 0 ≤ Int32.toInt (m_handSeconds k) ∧ Int32.toInt (m_handSeconds k) ≤ 99) → (256 - Int32.toInt x5 < n40) → next x1 x2 x3 x4 x5 m_rowMany m_thrown m_read m_length m_top m_at m_wrong m_isAsked m_askedFruit m_askedStanding m_askedHook m_askedApron m_wanted m_workMoves m_workPicks m_workDowns m_row m_hand m_moves m_handSeconds m_load) (x1 : Int32) (x2 : Int32) (x3 : Int32) (x4 : Int32) (x5 : Int32) (m_rowMany : Int32) (m_thrown : Int32) (m_read : Nat) (m_length : Int32) (m_top : Int32) (m_at : Int32) (m_wrong : Int32) (m_isAsked : Int32) (m_askedFruit : Int32) (m_askedStanding : Int32) (m_askedHook : Int32) (m_askedApron : Int32) (m_wanted : Int32) (m_workMoves : Int32) (m_workPicks : Int32) (m_workDowns : Int32) (m_row : Nat → Int32) (m_hand : Nat → Int32) (m_moves : Nat → Int32) (m_handSeconds : Nat → Int32) (m_load : Nat → Int32) (h_x1 : 0 ≤ Int32.toInt x1 ∧ Int32.toInt x1 ≤ 9999) (h_x2 : -1 ≤ Int32.toInt x2 ∧ Int32.toInt x2 ≤ 255) (h_x3 : -1 ≤ Int32.toInt x3 ∧ Int32.toInt x3 ≤ 2147483647) (h_x4 : -2147483648 ≤ Int32.toInt x4 ∧ Int32.toInt x4 ≤ 9999) (h_x5 : 0 ≤ Int32.toInt x5 ∧ Int32.toInt x5 ≤ 256) (h_m_rowMany : 0 ≤ Int32.toInt m_rowMany ∧ Int32.toInt m_rowMany ≤ 16) (h_m_thrown : 0 ≤ Int32.toInt m_thrown ∧ Int32.toInt m_thrown ≤ 0) (h_m_read : m_read = 0 ∨ m_read = 1 ∨ m_read = 2) (h_m_length : 0 ≤ Int32.toInt m_length ∧ Int32.toInt m_length ≤ 80) (h_m_top : 0 ≤ Int32.toInt m_top ∧ Int32.toInt m_top ≤ 80) (h_m_at : 0 ≤ Int32.toInt m_at ∧ Int32.toInt m_at ≤ 80) (h_m_wrong : -1 ≤ Int32.toInt m_wrong ∧ Int32.toInt m_wrong ≤ 80) (h_m_isAsked : 0 ≤ Int32.toInt m_isAsked ∧ Int32.toInt m_isAsked ≤ 0) (h_m_askedFruit : 0 ≤ Int32.toInt m_askedFruit ∧ Int32.toInt m_askedFruit ≤ 15) (h_m_askedStanding : 0 ≤ Int32.toInt m_askedStanding ∧ Int32.toInt m_askedStanding ≤ 7) (h_m_askedHook : 0 ≤ Int32.toInt m_askedHook ∧ Int32.toInt m_askedHook ≤ 1) (h_m_askedApron : 0 ≤ Int32.toInt m_askedApron ∧ Int32.toInt m_askedApron ≤ 63) (h_m_wanted : 0 ≤ Int32.toInt m_wanted ∧ Int32.toInt m_wanted ≤ 65535) (h_m_hand : ∀ k : Nat, 0 ≤ Int32.toInt (m_hand k) ∧ Int32.toInt (m_hand k) ≤ 65535) (h_m_handSeconds : ∀ k : Nat, 0 ≤ Int32.toInt (m_handSeconds k) ∧ Int32.toInt (m_handSeconds k) ≤ 99) (hn40 : 256 - Int32.toInt x5 ≤ n40) : ws_X10_sweep_40 post next m_fruits m_standings m_ruleSize m_now m_x m_height m_worth m_ripe m_foot m_fork m_told m_text m_rule x1 x2 x3 x4 x5 m_rowMany m_thrown m_read m_length m_top m_at m_wrong m_isAsked m_askedFruit m_askedStanding m_askedHook m_askedApron m_wanted m_workMoves m_workPicks m_workDowns m_row m_hand m_moves m_handSeconds m_load := by
  have l0 : Int32.toInt (0 : Int32) = 0 := (by decide)
  have l1 : Int32.toInt (1 : Int32) = 1 := (by decide)
  have l2 : Int32.toInt (16 : Int32) = 16 := (by decide)
  intro v13 ev13
  have f14 := ti_shl1 8 256 m_standings (by decide) (by omega)
  have hv13 := congrArg Int32.toInt ev13
  have f16 : Int32.toInt (v13 - 1) = Int32.toInt v13 - Int32.toInt (1 : Int32) := ta_sub _ _ (by omega)
  refine And.intro (fun c15 => ?_) (fun c15 => ?_)
  · skip
    have c15 := (fa_lt _ _).mp c15
    refine And.intro (t_in (by omega)) ?_
    intro v17 ev17
    have f18 : Int32.toInt (0 + 1) = Int32.toInt (0 : Int32) + Int32.toInt (1 : Int32) := ta_add _ _ (by omega)
    rw [← ev17] at f18
    refine And.intro (t_in (by omega)) ?_
    intro v19 ev19
    have f20 : Int32.toInt (v17 + 1) = Int32.toInt v17 + Int32.toInt (1 : Int32) := ta_add _ _ (by omega)
    rw [← ev19] at f20
    have f21 := tp_r x3
    exact hpost _ _ _ _ _ _ _ _ _ _ _ _ _ _ _ _ _ _ _ _ _ _ (by omega) (by omega) (by omega) (by first | exact h_m_read | exact Or.inl rfl | exact Or.inr rfl | omega) (by omega) (by omega) (by omega) (by omega) (by omega) (by omega) (by omega) (by omega) (by omega) (by omega) (fun k => by have q9 := h_m_hand k; omega) (fun k => by have q9 := h_m_handSeconds k; omega)
  · skip
    have c15 := mt (fa_lt _ _).mpr c15
    refine t_X10_workOf (by omega) (by omega) (by omega) (by omega) e0_m_now e1_m_now (fun k => by have q9 := h_m_fork k; omega) e0_m_told e1_m_told (fun k => by have q9 := h_m_hand k; omega) (fun k => by have q9 := h_m_handSeconds k; omega) (fun r26 m_workMoves_22 m_workPicks_23 m_workDowns_24 m_load_25 => ?_)
    have f28 := tp_r r26
    refine And.intro (fun c27 => ?_) (fun c27 => ?_)
    · skip
      have c27 := (fa_le _ _).mp c27
      refine t_X10_handOf (by omega) (by omega) (fun k => by have q9 := h_m_hand k; omega) (fun r29 h_r29 => ?_)
      intro v30 ev30
      have f31 := ti_andr m_wanted r29 (by omega)
      have f32 := ti_andl m_wanted r29 (by omega)
      have hv30 := congrArg Int32.toInt ev30
      intro v33 ev33
      have hv33 := congrArg Int32.toInt ev33
      refine t_X10_worthOfAll (by omega) (by omega) (fun k => by have q9 := h_m_worth k; omega) (fun r35 => ?_)
      have f37 := tp_r r35
      have f38 := tp_r x3
      refine And.intro (fun c36 => ?_) (fun c36 => ?_)
      · skip
        have c36 := (fa_lt _ _).mp c36
        have f39 := tp_r x4
        have f40 := tp_r m_workMoves_22
        have f41 := tp_r m_workPicks_23
        have f42 := tp_r m_workDowns_24
        exact ts_X10_sweep_122 m_fruits m_standings m_ruleSize m_now m_x m_height m_worth m_ripe m_foot m_fork m_told m_text m_rule h_m_fruits h_m_standings h_m_ruleSize e0_m_now e1_m_now h_m_x h_m_height h_m_worth h_m_ripe h_m_foot h_m_fork e0_m_told e1_m_told h_m_text h_m_rule hpost hKn x1 x2 x3 x4 x5 m_rowMany m_thrown m_read m_length m_top m_at m_wrong m_isAsked m_askedFruit m_askedStanding m_askedHook m_askedApron m_wanted m_workMoves_22 m_workPicks_23 m_workDowns_24 m_row m_hand m_moves m_handSeconds m_load_25 (by omega) (by omega) (by omega) (by omega) (by omega) (by omega) (by omega) (by first | exact h_m_read | exact Or.inl rfl | exact Or.inr rfl | omega) (by omega) (by omega) (by omega) (by omega) (by omega) (by omega) (by omega) (by omega) (by omega) (by omega) (fun k => by have q9 := h_m_hand k; omega) (fun k => by have q9 := h_m_handSeconds k; omega) (by omega)
      · skip
        have c36 := mt (fa_lt _ _).mpr c36
        refine And.intro (fun c43 => ?_) (fun c43 => ?_)
        · skip
          have c43 := mt (fa_eq _ _).mpr c43
          have f44 := tp_r m_workMoves_22
          have f45 := tp_r m_workPicks_23
          have f46 := tp_r m_workDowns_24
          exact ts_X10_sweep_112 m_fruits m_standings m_ruleSize m_now m_x m_height m_worth m_ripe m_foot m_fork m_told m_text m_rule h_m_fruits h_m_standings h_m_ruleSize e0_m_now e1_m_now h_m_x h_m_height h_m_worth h_m_ripe h_m_foot h_m_fork e0_m_told e1_m_told h_m_text h_m_rule hpost hKn x1 x5 r26 r35 m_rowMany m_thrown m_read m_length m_top m_at m_wrong m_isAsked m_askedFruit m_askedStanding m_askedHook m_askedApron m_wanted m_workMoves_22 m_workPicks_23 m_workDowns_24 m_row m_hand m_moves m_handSeconds m_load_25 (by omega) (by omega) (by omega) (by omega) (by omega) (by omega) (by first | exact h_m_read | exact Or.inl rfl | exact Or.inr rfl | omega) (by omega) (by omega) (by omega) (by omega) (by omega) (by omega) (by omega) (by omega) (by omega) (by omega) (fun k => by have q9 := h_m_hand k; omega) (fun k => by have q9 := h_m_handSeconds k; omega) (by omega)
        · skip
          have c43 := (fa_eq _ _).mp c43
          have f48 := tp_r x4
          refine And.intro (fun c47 => ?_) (fun c47 => ?_)
          · skip
            have c47 := (fa_lt _ _).mp c47
            have f49 := tp_r m_workMoves_22
            have f50 := tp_r m_workPicks_23
            have f51 := tp_r m_workDowns_24
            exact ts_X10_sweep_112 m_fruits m_standings m_ruleSize m_now m_x m_height m_worth m_ripe m_foot m_fork m_told m_text m_rule h_m_fruits h_m_standings h_m_ruleSize e0_m_now e1_m_now h_m_x h_m_height h_m_worth h_m_ripe h_m_foot h_m_fork e0_m_told e1_m_told h_m_text h_m_rule hpost hKn x1 x5 r26 r35 m_rowMany m_thrown m_read m_length m_top m_at m_wrong m_isAsked m_askedFruit m_askedStanding m_askedHook m_askedApron m_wanted m_workMoves_22 m_workPicks_23 m_workDowns_24 m_row m_hand m_moves m_handSeconds m_load_25 (by omega) (by omega) (by omega) (by omega) (by omega) (by omega) (by first | exact h_m_read | exact Or.inl rfl | exact Or.inr rfl | omega) (by omega) (by omega) (by omega) (by omega) (by omega) (by omega) (by omega) (by omega) (by omega) (by omega) (fun k => by have q9 := h_m_hand k; omega) (fun k => by have q9 := h_m_handSeconds k; omega) (by omega)
          · skip
            have c47 := mt (fa_lt _ _).mpr c47
            have f52 := tp_r m_workMoves_22
            have f53 := tp_r m_workPicks_23
            have f54 := tp_r m_workDowns_24
            exact ts_X10_sweep_122 m_fruits m_standings m_ruleSize m_now m_x m_height m_worth m_ripe m_foot m_fork m_told m_text m_rule h_m_fruits h_m_standings h_m_ruleSize e0_m_now e1_m_now h_m_x h_m_height h_m_worth h_m_ripe h_m_foot h_m_fork e0_m_told e1_m_told h_m_text h_m_rule hpost hKn x1 x2 x3 x4 x5 m_rowMany m_thrown m_read m_length m_top m_at m_wrong m_isAsked m_askedFruit m_askedStanding m_askedHook m_askedApron m_wanted m_workMoves_22 m_workPicks_23 m_workDowns_24 m_row m_hand m_moves m_handSeconds m_load_25 (by omega) (by omega) (by omega) (by omega) (by omega) (by omega) (by omega) (by first | exact h_m_read | exact Or.inl rfl | exact Or.inr rfl | omega) (by omega) (by omega) (by omega) (by omega) (by omega) (by omega) (by omega) (by omega) (by omega) (by omega) (fun k => by have q9 := h_m_hand k; omega) (fun k => by have q9 := h_m_handSeconds k; omega) (by omega)
    · skip
      have c27 := mt (fa_le _ _).mpr c27
      have f55 := tp_r x3
      have f56 := tp_r x4
      have f57 := tp_r m_workMoves_22
      have f58 := tp_r m_workPicks_23
      have f59 := tp_r m_workDowns_24
      exact ts_X10_sweep_122 m_fruits m_standings m_ruleSize m_now m_x m_height m_worth m_ripe m_foot m_fork m_told m_text m_rule h_m_fruits h_m_standings h_m_ruleSize e0_m_now e1_m_now h_m_x h_m_height h_m_worth h_m_ripe h_m_foot h_m_fork e0_m_told e1_m_told h_m_text h_m_rule hpost hKn x1 x2 x3 x4 x5 m_rowMany m_thrown m_read m_length m_top m_at m_wrong m_isAsked m_askedFruit m_askedStanding m_askedHook m_askedApron m_wanted m_workMoves_22 m_workPicks_23 m_workDowns_24 m_row m_hand m_moves m_handSeconds m_load_25 (by omega) (by omega) (by omega) (by omega) (by omega) (by omega) (by omega) (by first | exact h_m_read | exact Or.inl rfl | exact Or.inr rfl | omega) (by omega) (by omega) (by omega) (by omega) (by omega) (by omega) (by omega) (by omega) (by omega) (by omega) (fun k => by have q9 := h_m_hand k; omega) (fun k => by have q9 := h_m_handSeconds k; omega) (by omega)
set_option maxHeartbeats 8000000 in
set_option maxRecDepth 200000 in
theorem tb_X10_sweep_40 {post : Int32 → Int32 → Int32 → Nat → Int32 → Int32 → Int32 → Int32 → Int32 → Int32 → Int32 → Int32 → Int32 → Int32 → Int32 → Int32 → Int32 → (Nat → Int32) → (Nat → Int32) → (Nat → Int32) → (Nat → Int32) → (Nat → Int32) → Prop} (m_fruits : Int32) (m_standings : Int32) (m_ruleSize : Int32) (m_now : Nat → Int32) (m_x : Nat → Int32) (m_height : Nat → Int32) (m_worth : Nat → Int32) (m_ripe : Nat → Int32) (m_foot : Nat → Int32) (m_fork : Nat → Int32) (m_told : Nat → Int32) (m_text : Nat → Int32) (m_rule : Nat → Int32) (h_m_fruits : 0 ≤ Int32.toInt m_fruits ∧ Int32.toInt m_fruits ≤ 16) (h_m_standings : 0 ≤ Int32.toInt m_standings ∧ Int32.toInt m_standings ≤ 8) (h_m_ruleSize : 0 ≤ Int32.toInt m_ruleSize ∧ Int32.toInt m_ruleSize ≤ 40) (e0_m_now : ∀ k : Nat, k = 17 → -1 ≤ Int32.toInt (m_now k) ∧ Int32.toInt (m_now k) ≤ 7) (e1_m_now : ∀ k : Nat, k = 19 → 0 ≤ Int32.toInt (m_now k) ∧ Int32.toInt (m_now k) ≤ 9) (h_m_x : ∀ k : Nat, 0 ≤ Int32.toInt (m_x k) ∧ Int32.toInt (m_x k) ≤ 99) (h_m_height : ∀ k : Nat, 0 ≤ Int32.toInt (m_height k) ∧ Int32.toInt (m_height k) ≤ 99) (h_m_worth : ∀ k : Nat, 0 ≤ Int32.toInt (m_worth k) ∧ Int32.toInt (m_worth k) ≤ 9) (h_m_ripe : ∀ k : Nat, 0 ≤ Int32.toInt (m_ripe k) ∧ Int32.toInt (m_ripe k) ≤ 9) (h_m_foot : ∀ k : Nat, 0 ≤ Int32.toInt (m_foot k) ∧ Int32.toInt (m_foot k) ≤ 99) (h_m_fork : ∀ k : Nat, 0 ≤ Int32.toInt (m_fork k) ∧ Int32.toInt (m_fork k) ≤ 99) (e0_m_told : ∀ k : Nat, k = 4 → 1 ≤ Int32.toInt (m_told k) ∧ Int32.toInt (m_told k) ≤ 30) (e1_m_told : ∀ k : Nat, k = 3 → 0 ≤ Int32.toInt (m_told k) ∧ Int32.toInt (m_told k) ≤ 9) (h_m_text : ∀ k : Nat, -128 ≤ Int32.toInt (m_text k) ∧ Int32.toInt (m_text k) ≤ 127) (h_m_rule : ∀ k : Nat, -128 ≤ Int32.toInt (m_rule k) ∧ Int32.toInt (m_rule k) ≤ 127) (hpost : ∀ (r : Int32) (m_rowMany' : Int32) (m_thrown' : Int32) (m_read' : Nat) (m_length' : Int32) (m_top' : Int32) (m_at' : Int32) (m_wrong' : Int32) (m_isAsked' : Int32) (m_askedFruit' : Int32) (m_askedStanding' : Int32) (m_askedHook' : Int32) (m_askedApron' : Int32) (m_wanted' : Int32) (m_workMoves' : Int32) (m_workPicks' : Int32) (m_workDowns' : Int32) (m_row' : Nat → Int32) (m_hand' : Nat → Int32) (m_moves' : Nat → Int32) (m_handSeconds' : Nat → Int32) (m_load' : Nat → Int32), (-1 ≤ Int32.toInt r ∧ Int32.toInt r ≤ 2147483647) → (0 ≤ Int32.toInt m_rowMany' ∧ Int32.toInt m_rowMany' ≤ 16) → (0 ≤ Int32.toInt m_thrown' ∧ Int32.toInt m_thrown' ≤ 0) → (m_read' = 0 ∨ m_read' = 1 ∨ m_read' = 2) → (0 ≤ Int32.toInt m_length' ∧ Int32.toInt m_length' ≤ 80) → (0 ≤ Int32.toInt m_top' ∧ Int32.toInt m_top' ≤ 80) → (0 ≤ Int32.toInt m_at' ∧ Int32.toInt m_at' ≤ 80) → (-1 ≤ Int32.toInt m_wrong' ∧ Int32.toInt m_wrong' ≤ 80) → (0 ≤ Int32.toInt m_isAsked' ∧ Int32.toInt m_isAsked' ≤ 0) → (0 ≤ Int32.toInt m_askedFruit' ∧ Int32.toInt m_askedFruit' ≤ 15) → (0 ≤ Int32.toInt m_askedStanding' ∧ Int32.toInt m_askedStanding' ≤ 7) → (0 ≤ Int32.toInt m_askedHook' ∧ Int32.toInt m_askedHook' ≤ 1) → (0 ≤ Int32.toInt m_askedApron' ∧ Int32.toInt m_askedApron' ≤ 63) → (0 ≤ Int32.toInt m_wanted' ∧ Int32.toInt m_wanted' ≤ 65535) → (∀ k : Nat, 0 ≤ Int32.toInt (m_hand' k) ∧ Int32.toInt (m_hand' k) ≤ 65535) → (∀ k : Nat, 0 ≤ Int32.toInt (m_handSeconds' k) ∧ Int32.toInt (m_handSeconds' k) ≤ 99) → post r m_rowMany' m_thrown' m_read' m_length' m_top' m_at' m_wrong' m_isAsked' m_askedFruit' m_askedStanding' m_askedHook' m_askedApron' m_wanted' m_workMoves' m_workPicks' m_workDowns' m_row' m_hand' m_moves' m_handSeconds' m_load') : ∀ (n : Nat) (x1 : Int32) (x2 : Int32) (x3 : Int32) (x4 : Int32) (x5 : Int32) (m_rowMany : Int32) (m_thrown : Int32) (m_read : Nat) (m_length : Int32) (m_top : Int32) (m_at : Int32) (m_wrong : Int32) (m_isAsked : Int32) (m_askedFruit : Int32) (m_askedStanding : Int32) (m_askedHook : Int32) (m_askedApron : Int32) (m_wanted : Int32) (m_workMoves : Int32) (m_workPicks : Int32) (m_workDowns : Int32) (m_row : Nat → Int32) (m_hand : Nat → Int32) (m_moves : Nat → Int32) (m_handSeconds : Nat → Int32) (m_load : Nat → Int32), (0 ≤ Int32.toInt x1 ∧ Int32.toInt x1 ≤ 9999) → (-1 ≤ Int32.toInt x2 ∧ Int32.toInt x2 ≤ 255) → (-1 ≤ Int32.toInt x3 ∧ Int32.toInt x3 ≤ 2147483647) → (-2147483648 ≤ Int32.toInt x4 ∧ Int32.toInt x4 ≤ 9999) → (0 ≤ Int32.toInt x5 ∧ Int32.toInt x5 ≤ 256) → (0 ≤ Int32.toInt m_rowMany ∧ Int32.toInt m_rowMany ≤ 16) → (0 ≤ Int32.toInt m_thrown ∧ Int32.toInt m_thrown ≤ 0) → (m_read = 0 ∨ m_read = 1 ∨ m_read = 2) → (0 ≤ Int32.toInt m_length ∧ Int32.toInt m_length ≤ 80) → (0 ≤ Int32.toInt m_top ∧ Int32.toInt m_top ≤ 80) → (0 ≤ Int32.toInt m_at ∧ Int32.toInt m_at ≤ 80) → (-1 ≤ Int32.toInt m_wrong ∧ Int32.toInt m_wrong ≤ 80) → (0 ≤ Int32.toInt m_isAsked ∧ Int32.toInt m_isAsked ≤ 0) → (0 ≤ Int32.toInt m_askedFruit ∧ Int32.toInt m_askedFruit ≤ 15) → (0 ≤ Int32.toInt m_askedStanding ∧ Int32.toInt m_askedStanding ≤ 7) → (0 ≤ Int32.toInt m_askedHook ∧ Int32.toInt m_askedHook ≤ 1) → (0 ≤ Int32.toInt m_askedApron ∧ Int32.toInt m_askedApron ≤ 63) → (0 ≤ Int32.toInt m_wanted ∧ Int32.toInt m_wanted ≤ 65535) → (∀ k : Nat, 0 ≤ Int32.toInt (m_hand k) ∧ Int32.toInt (m_hand k) ≤ 65535) → (∀ k : Nat, 0 ≤ Int32.toInt (m_handSeconds k) ∧ Int32.toInt (m_handSeconds k) ≤ 99) → (256 - Int32.toInt x5 < (n : Int)) → wb_X10_sweep_40 post m_fruits m_standings m_ruleSize m_now m_x m_height m_worth m_ripe m_foot m_fork m_told m_text m_rule n x1 x2 x3 x4 x5 m_rowMany m_thrown m_read m_length m_top m_at m_wrong m_isAsked m_askedFruit m_askedStanding m_askedHook m_askedApron m_wanted m_workMoves m_workPicks m_workDowns m_row m_hand m_moves m_handSeconds m_load := by
  intro n
  induction n with
  | zero =>
    intro x1 x2 x3 x4 x5 m_rowMany m_thrown m_read m_length m_top m_at m_wrong m_isAsked m_askedFruit m_askedStanding m_askedHook m_askedApron m_wanted m_workMoves m_workPicks m_workDowns m_row m_hand m_moves m_handSeconds m_load h_x1 h_x2 h_x3 h_x4 h_x5 h_m_rowMany h_m_thrown h_m_read h_m_length h_m_top h_m_at h_m_wrong h_m_isAsked h_m_askedFruit h_m_askedStanding h_m_askedHook h_m_askedApron h_m_wanted h_m_hand h_m_handSeconds hm
    exfalso; omega
  | succ n ih =>
    intro x1 x2 x3 x4 x5 m_rowMany m_thrown m_read m_length m_top m_at m_wrong m_isAsked m_askedFruit m_askedStanding m_askedHook m_askedApron m_wanted m_workMoves m_workPicks m_workDowns m_row m_hand m_moves m_handSeconds m_load h_x1 h_x2 h_x3 h_x4 h_x5 h_m_rowMany h_m_thrown h_m_read h_m_length h_m_top h_m_at h_m_wrong h_m_isAsked h_m_askedFruit h_m_askedStanding h_m_askedHook h_m_askedApron h_m_wanted h_m_hand h_m_handSeconds hm
    exact ts_X10_sweep_40 m_fruits m_standings m_ruleSize m_now m_x m_height m_worth m_ripe m_foot m_fork m_told m_text m_rule h_m_fruits h_m_standings h_m_ruleSize e0_m_now e1_m_now h_m_x h_m_height h_m_worth h_m_ripe h_m_foot h_m_fork e0_m_told e1_m_told h_m_text h_m_rule hpost ih x1 x2 x3 x4 x5 m_rowMany m_thrown m_read m_length m_top m_at m_wrong m_isAsked m_askedFruit m_askedStanding m_askedHook m_askedApron m_wanted m_workMoves m_workPicks m_workDowns m_row m_hand m_moves m_handSeconds m_load h_x1 h_x2 h_x3 h_x4 h_x5 h_m_rowMany h_m_thrown h_m_read h_m_length h_m_top h_m_at h_m_wrong h_m_isAsked h_m_askedFruit h_m_askedStanding h_m_askedHook h_m_askedApron h_m_wanted h_m_hand h_m_handSeconds (by omega)
set_option maxHeartbeats 8000000 in
set_option maxRecDepth 200000 in
theorem t_X10_sweep {post : Int32 → Int32 → Int32 → Nat → Int32 → Int32 → Int32 → Int32 → Int32 → Int32 → Int32 → Int32 → Int32 → Int32 → Int32 → Int32 → Int32 → (Nat → Int32) → (Nat → Int32) → (Nat → Int32) → (Nat → Int32) → (Nat → Int32) → Prop} {p0 : Int32} {m_fruits : Int32} {m_standings : Int32} {m_rowMany : Int32} {m_thrown : Int32} {m_read : Nat} {m_length : Int32} {m_top : Int32} {m_at : Int32} {m_wrong : Int32} {m_ruleSize : Int32} {m_isAsked : Int32} {m_askedFruit : Int32} {m_askedStanding : Int32} {m_askedHook : Int32} {m_askedApron : Int32} {m_wanted : Int32} {m_workMoves : Int32} {m_workPicks : Int32} {m_workDowns : Int32} {m_now : Nat → Int32} {m_x : Nat → Int32} {m_height : Nat → Int32} {m_worth : Nat → Int32} {m_ripe : Nat → Int32} {m_foot : Nat → Int32} {m_fork : Nat → Int32} {m_told : Nat → Int32} {m_text : Nat → Int32} {m_row : Nat → Int32} {m_rule : Nat → Int32} {m_hand : Nat → Int32} {m_moves : Nat → Int32} {m_handSeconds : Nat → Int32} {m_load : Nat → Int32} (h_m_fruits : 0 ≤ Int32.toInt m_fruits ∧ Int32.toInt m_fruits ≤ 16) (h_m_standings : 0 ≤ Int32.toInt m_standings ∧ Int32.toInt m_standings ≤ 8) (h_m_rowMany : 0 ≤ Int32.toInt m_rowMany ∧ Int32.toInt m_rowMany ≤ 16) (h_m_thrown : 0 ≤ Int32.toInt m_thrown ∧ Int32.toInt m_thrown ≤ 1) (h_m_read : m_read = 0 ∨ m_read = 1 ∨ m_read = 2) (h_m_length : 0 ≤ Int32.toInt m_length ∧ Int32.toInt m_length ≤ 80) (h_m_top : 0 ≤ Int32.toInt m_top ∧ Int32.toInt m_top ≤ 80) (h_m_at : 0 ≤ Int32.toInt m_at ∧ Int32.toInt m_at ≤ 80) (h_m_wrong : -1 ≤ Int32.toInt m_wrong ∧ Int32.toInt m_wrong ≤ 80) (h_m_ruleSize : 0 ≤ Int32.toInt m_ruleSize ∧ Int32.toInt m_ruleSize ≤ 40) (h_m_isAsked : 0 ≤ Int32.toInt m_isAsked ∧ Int32.toInt m_isAsked ≤ 0) (h_m_askedFruit : 0 ≤ Int32.toInt m_askedFruit ∧ Int32.toInt m_askedFruit ≤ 15) (h_m_askedStanding : 0 ≤ Int32.toInt m_askedStanding ∧ Int32.toInt m_askedStanding ≤ 7) (h_m_askedHook : 0 ≤ Int32.toInt m_askedHook ∧ Int32.toInt m_askedHook ≤ 1) (h_m_askedApron : 0 ≤ Int32.toInt m_askedApron ∧ Int32.toInt m_askedApron ≤ 63) (h_m_wanted : 0 ≤ Int32.toInt m_wanted ∧ Int32.toInt m_wanted ≤ 65535) (e0_m_now : ∀ k : Nat, k = 17 → -1 ≤ Int32.toInt (m_now k) ∧ Int32.toInt (m_now k) ≤ 7) (e1_m_now : ∀ k : Nat, k = 19 → 0 ≤ Int32.toInt (m_now k) ∧ Int32.toInt (m_now k) ≤ 9) (h_m_x : ∀ k : Nat, 0 ≤ Int32.toInt (m_x k) ∧ Int32.toInt (m_x k) ≤ 99) (h_m_height : ∀ k : Nat, 0 ≤ Int32.toInt (m_height k) ∧ Int32.toInt (m_height k) ≤ 99) (h_m_worth : ∀ k : Nat, 0 ≤ Int32.toInt (m_worth k) ∧ Int32.toInt (m_worth k) ≤ 9) (h_m_ripe : ∀ k : Nat, 0 ≤ Int32.toInt (m_ripe k) ∧ Int32.toInt (m_ripe k) ≤ 9) (h_m_foot : ∀ k : Nat, 0 ≤ Int32.toInt (m_foot k) ∧ Int32.toInt (m_foot k) ≤ 99) (h_m_fork : ∀ k : Nat, 0 ≤ Int32.toInt (m_fork k) ∧ Int32.toInt (m_fork k) ≤ 99) (e0_m_told : ∀ k : Nat, k = 4 → 1 ≤ Int32.toInt (m_told k) ∧ Int32.toInt (m_told k) ≤ 30) (e1_m_told : ∀ k : Nat, k = 3 → 0 ≤ Int32.toInt (m_told k) ∧ Int32.toInt (m_told k) ≤ 9) (h_m_text : ∀ k : Nat, -128 ≤ Int32.toInt (m_text k) ∧ Int32.toInt (m_text k) ≤ 127) (h_m_rule : ∀ k : Nat, -128 ≤ Int32.toInt (m_rule k) ∧ Int32.toInt (m_rule k) ≤ 127) (h_m_hand : ∀ k : Nat, 0 ≤ Int32.toInt (m_hand k) ∧ Int32.toInt (m_hand k) ≤ 65535) (h_m_handSeconds : ∀ k : Nat, 0 ≤ Int32.toInt (m_handSeconds k) ∧ Int32.toInt (m_handSeconds k) ≤ 99) (hpost : ∀ (r : Int32) (m_rowMany' : Int32) (m_thrown' : Int32) (m_read' : Nat) (m_length' : Int32) (m_top' : Int32) (m_at' : Int32) (m_wrong' : Int32) (m_isAsked' : Int32) (m_askedFruit' : Int32) (m_askedStanding' : Int32) (m_askedHook' : Int32) (m_askedApron' : Int32) (m_wanted' : Int32) (m_workMoves' : Int32) (m_workPicks' : Int32) (m_workDowns' : Int32) (m_row' : Nat → Int32) (m_hand' : Nat → Int32) (m_moves' : Nat → Int32) (m_handSeconds' : Nat → Int32) (m_load' : Nat → Int32), (-1 ≤ Int32.toInt r ∧ Int32.toInt r ≤ 2147483647) → (0 ≤ Int32.toInt m_rowMany' ∧ Int32.toInt m_rowMany' ≤ 16) → (0 ≤ Int32.toInt m_thrown' ∧ Int32.toInt m_thrown' ≤ 0) → (m_read' = 0 ∨ m_read' = 1 ∨ m_read' = 2) → (0 ≤ Int32.toInt m_length' ∧ Int32.toInt m_length' ≤ 80) → (0 ≤ Int32.toInt m_top' ∧ Int32.toInt m_top' ≤ 80) → (0 ≤ Int32.toInt m_at' ∧ Int32.toInt m_at' ≤ 80) → (-1 ≤ Int32.toInt m_wrong' ∧ Int32.toInt m_wrong' ≤ 80) → (0 ≤ Int32.toInt m_isAsked' ∧ Int32.toInt m_isAsked' ≤ 0) → (0 ≤ Int32.toInt m_askedFruit' ∧ Int32.toInt m_askedFruit' ≤ 15) → (0 ≤ Int32.toInt m_askedStanding' ∧ Int32.toInt m_askedStanding' ≤ 7) → (0 ≤ Int32.toInt m_askedHook' ∧ Int32.toInt m_askedHook' ≤ 1) → (0 ≤ Int32.toInt m_askedApron' ∧ Int32.toInt m_askedApron' ≤ 63) → (0 ≤ Int32.toInt m_wanted' ∧ Int32.toInt m_wanted' ≤ 65535) → (∀ k : Nat, 0 ≤ Int32.toInt (m_hand' k) ∧ Int32.toInt (m_hand' k) ≤ 65535) → (∀ k : Nat, 0 ≤ Int32.toInt (m_handSeconds' k) ∧ Int32.toInt (m_handSeconds' k) ≤ 99) → post r m_rowMany' m_thrown' m_read' m_length' m_top' m_at' m_wrong' m_isAsked' m_askedFruit' m_askedStanding' m_askedHook' m_askedApron' m_wanted' m_workMoves' m_workPicks' m_workDowns' m_row' m_hand' m_moves' m_handSeconds' m_load') : wp_X10_sweep post p0 m_fruits m_standings m_rowMany m_thrown m_read m_length m_top m_at m_wrong m_ruleSize m_isAsked m_askedFruit m_askedStanding m_askedHook m_askedApron m_wanted m_workMoves m_workPicks m_workDowns m_now m_x m_height m_worth m_ripe m_foot m_fork m_told m_text m_row m_rule m_hand m_moves m_handSeconds m_load := by
  have l0 : Int32.toInt ((-1) : Int32) = -1 := (by decide)
  have l1 : Int32.toInt (0 : Int32) = 0 := (by decide)
  have l2 : Int32.toInt (18 : Int32) = 18 := (by decide)
  have l3 : Int32.toInt (9999 : Int32) = 9999 := (by decide)
  have f61 := tp_r p0
  refine And.intro (fun c60 => ?_) (fun c60 => ?_)
  · skip
    have c60 := (fa_lt _ _).mp c60
    refine And.intro (fun h9 => absurd h9 (by decide)) (fun _ => ?_)
    exact hpost _ _ _ _ _ _ _ _ _ _ _ _ _ _ _ _ _ _ _ _ _ _ (by omega) (by omega) (by omega) (by first | exact h_m_read | exact Or.inl rfl | exact Or.inr rfl | omega) (by omega) (by omega) (by omega) (by omega) (by omega) (by omega) (by omega) (by omega) (by omega) (by omega) (fun k => by have q9 := h_m_hand k; omega) (fun k => by have q9 := h_m_handSeconds k; omega)
  · skip
    have c60 := mt (fa_lt _ _).mpr c60
    refine And.intro (fun c62 => ?_) (fun c62 => ?_)
    · skip
      have c62 := (fa_lt _ _).mp c62
      refine And.intro (fun h9 => absurd h9 (by decide)) (fun _ => ?_)
      exact hpost _ _ _ _ _ _ _ _ _ _ _ _ _ _ _ _ _ _ _ _ _ _ (by omega) (by omega) (by omega) (by first | exact h_m_read | exact Or.inl rfl | exact Or.inr rfl | omega) (by omega) (by omega) (by omega) (by omega) (by omega) (by omega) (by omega) (by omega) (by omega) (by omega) (fun k => by have q9 := h_m_hand k; omega) (fun k => by have q9 := h_m_handSeconds k; omega)
    · skip
      have c62 := mt (fa_lt _ _).mpr c62
      refine And.intro (fun _ => ?_) (fun h9 => absurd h9 (by decide))
      intro v63 ev63
      have hv63 := congrArg Int32.toInt ev63
      refine t_X10_layHands_ (by omega) (by omega) (by omega) e0_m_now e1_m_now (fun k => by have q9 := h_m_x k; omega) (fun k => by have q9 := h_m_height k; omega) (fun k => by have q9 := h_m_ripe k; omega) (fun k => by have q9 := h_m_foot k; omega) (fun k => by have q9 := h_m_fork k; omega) e0_m_told e1_m_told (fun k => by have q9 := h_m_hand k; omega) (fun m_wanted_65 m_hand_66 h_m_wanted_65 h_m_hand_66 => ?_)
      refine t_X10_layMoves (by omega) (fun k => by have q9 := h_m_foot k; omega) e0_m_told e1_m_told (fun m_moves_67 => ?_)
      refine t_X10_laySeconds (by omega) (by omega) (by first | exact h_m_read | exact Or.inl rfl | exact Or.inr rfl | omega) (by omega) (by omega) (by omega) (by omega) (by omega) (by omega) (by omega) (by omega) (by omega) (by omega) (fun k => by have q9 := h_m_x k; omega) (fun k => by have q9 := h_m_height k; omega) (fun k => by have q9 := h_m_worth k; omega) (fun k => by have q9 := h_m_foot k; omega) (fun k => by have q9 := h_m_fork k; omega) (fun k => by have q9 := h_m_text k; omega) (fun k => by have q9 := h_m_rule k; omega) (fun k => by have q9 := h_m_handSeconds k; omega) (fun m_read_68 m_length_69 m_top_70 m_at_71 m_wrong_72 m_isAsked_73 m_askedFruit_74 m_askedStanding_75 m_askedHook_76 m_askedApron_77 m_handSeconds_78 h_m_read_68 h_m_length_69 h_m_top_70 h_m_at_71 h_m_wrong_72 h_m_isAsked_73 h_m_askedFruit_74 h_m_askedStanding_75 h_m_askedHook_76 h_m_askedApron_77 h_m_handSeconds_78 => ?_)
      have f79 := tp_r m_workMoves
      have f80 := tp_r m_workPicks
      have f81 := tp_r m_workDowns
      exact ⟨258, tb_X10_sweep_40 m_fruits m_standings m_ruleSize m_now m_x m_height m_worth m_ripe m_foot m_fork m_told m_text m_rule h_m_fruits h_m_standings h_m_ruleSize e0_m_now e1_m_now h_m_x h_m_height h_m_worth h_m_ripe h_m_foot h_m_fork e0_m_told e1_m_told h_m_text h_m_rule hpost _ p0 (-1) (-1) 0 0 m_rowMany 0 m_read_68 m_length_69 m_top_70 m_at_71 m_wrong_72 m_isAsked_73 m_askedFruit_74 m_askedStanding_75 m_askedHook_76 m_askedApron_77 m_wanted_65 m_workMoves m_workPicks m_workDowns m_row m_hand_66 m_moves_67 m_handSeconds_78 m_load (by omega) (by omega) (by omega) (by omega) (by omega) (by omega) (by omega) (by first | exact h_m_read | exact Or.inl rfl | exact Or.inr rfl | omega) (by omega) (by omega) (by omega) (by omega) (by omega) (by omega) (by omega) (by omega) (by omega) (by omega) (fun k => by have q9 := h_m_hand_66 k; omega) (fun k => by have q9 := h_m_handSeconds_78 k; omega) (by omega)⟩
