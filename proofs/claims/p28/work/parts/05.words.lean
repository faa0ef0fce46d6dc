def W0 : List Cond := lw_tbl.filter goodWord
theorem W0_good : W0.all goodWord = true := List.all_eq_true.mpr (fun w h => (List.mem_filter.mp h).2)
theorem xR {w : Cond} (h : w ∈ lw_tbl) (g : goodWord w = true) : w ∈ W0 := List.mem_filter.mpr ⟨h, g⟩
theorem aFj {w : Cond} (h : w ∈ tables_1_1) : w ∈ lw_tbl := List.mem_append_right _ (show w ∈ tables_1 from List.mem_append_left _ h)
theorem aFb {w : Cond} (h : w ∈ tables_1_2) : w ∈ lw_tbl := List.mem_append_right _ (show w ∈ tables_1 from List.mem_append_right _ (List.mem_append_left _ h))
theorem aGA {w : Cond} (h : w ∈ tables_1_3) : w ∈ lw_tbl := List.mem_append_right _ (show w ∈ tables_1 from List.mem_append_right _ (List.mem_append_right _ (List.mem_append_left _ h)))
theorem aEb {w : Cond} (h : w ∈ tables_1_4) : w ∈ lw_tbl := List.mem_append_right _ (show w ∈ tables_1 from List.mem_append_right _ (List.mem_append_right _ (List.mem_append_right _ (List.mem_append_left _ h))))
theorem aGK {w : Cond} (h : w ∈ tables_1_5) : w ∈ lw_tbl := List.mem_append_right _ (show w ∈ tables_1 from List.mem_append_right _ (List.mem_append_right _ (List.mem_append_right _ (List.mem_append_right _ (List.mem_append_left _ h)))))
theorem aGl {w : Cond} (h : w ∈ tables_1_6) : w ∈ lw_tbl := List.mem_append_right _ (show w ∈ tables_1 from List.mem_append_right _ (List.mem_append_right _ (List.mem_append_right _ (List.mem_append_right _ (List.mem_append_right _ (List.mem_append_left _ h))))))
theorem aFp {w : Cond} (h : w ∈ tables_1_7) : w ∈ lw_tbl := List.mem_append_right _ (show w ∈ tables_1 from List.mem_append_right _ (List.mem_append_right _ (List.mem_append_right _ (List.mem_append_right _ (List.mem_append_right _ (List.mem_append_right _ (List.mem_append_left _ h)))))))
theorem aGt {w : Cond} (h : w ∈ tables_1_8) : w ∈ lw_tbl := List.mem_append_right _ (show w ∈ tables_1 from List.mem_append_right _ (List.mem_append_right _ (List.mem_append_right _ (List.mem_append_right _ (List.mem_append_right _ (List.mem_append_right _ (List.mem_append_right _ (h))))))))
theorem aIZ {q : MethodName × Nat} (h : q ∈ lw_privs) : Cond.selects q.1.cls q.1 q.1 ∈ lw_tbl := List.mem_append_left _ (List.mem_map.mpr ⟨q, h, rfl⟩)
theorem i_X0 : ∀ w ∈ u_ws RX0 TX0 3, w ∈ W0 := by
  intro w hw
  obtain ⟨k, hk, rfl⟩ := List.mem_map.mp hw
  have hk := List.mem_range.mp hk
  match k, hk with
  | 0, _ => exact xR (aFj (List.mem_of_getElem? (i := 232) rfl)) rfl
  | 1, _ => exact xR (aFj (List.mem_of_getElem? (i := 234) rfl)) rfl
  | 2, _ => exact xR (aFj (List.mem_of_getElem? (i := 236) rfl)) rfl
  | k + 3, hk => exact absurd hk (by omega)
theorem i_X1 : ∀ w ∈ u_ws RX1 TX1 3, w ∈ W0 := by
  intro w hw
  obtain ⟨k, hk, rfl⟩ := List.mem_map.mp hw
  have hk := List.mem_range.mp hk
  match k, hk with
  | 0, _ => exact xR (aFb (List.mem_of_getElem? (i := 87) rfl)) rfl
  | 1, _ => exact xR (aFb (List.mem_of_getElem? (i := 89) rfl)) rfl
  | 2, _ => exact xR (aFb (List.mem_of_getElem? (i := 91) rfl)) rfl
  | k + 3, hk => exact absurd hk (by omega)
theorem i_X2 : ∀ w ∈ u_ws RX2 TX2 8, w ∈ W0 := by
  intro w hw
  obtain ⟨k, hk, rfl⟩ := List.mem_map.mp hw
  have hk := List.mem_range.mp hk
  match k, hk with
  | 0, _ => exact xR (aFj (List.mem_of_getElem? (i := 153) rfl)) rfl
  | 1, _ => exact xR (aFj (List.mem_of_getElem? (i := 155) rfl)) rfl
  | 2, _ => exact xR (aFj (List.mem_of_getElem? (i := 157) rfl)) rfl
  | 3, _ => exact xR (aFj (List.mem_of_getElem? (i := 159) rfl)) rfl
  | 4, _ => exact xR (aFj (List.mem_of_getElem? (i := 161) rfl)) rfl
  | 5, _ => exact xR (aFj (List.mem_of_getElem? (i := 163) rfl)) rfl
  | 6, _ => exact xR (aFj (List.mem_of_getElem? (i := 165) rfl)) rfl
  | 7, _ => exact xR (aFj (List.mem_of_getElem? (i := 167) rfl)) rfl
  | k + 8, hk => exact absurd hk (by omega)
theorem i_X3 : ∀ w ∈ u_ws RX3 TX3 11, w ∈ W0 := by
  intro w hw
  obtain ⟨k, hk, rfl⟩ := List.mem_map.mp hw
  have hk := List.mem_range.mp hk
  match k, hk with
  | 0, _ => exact xR (aFj (List.mem_of_getElem? (i := 96) rfl)) rfl
  | 1, _ => exact xR (aFj (List.mem_of_getElem? (i := 98) rfl)) rfl
  | 2, _ => exact xR (aFj (List.mem_of_getElem? (i := 100) rfl)) rfl
  | 3, _ => exact xR (aFj (List.mem_of_getElem? (i := 102) rfl)) rfl
  | 4, _ => exact xR (aFj (List.mem_of_getElem? (i := 104) rfl)) rfl
  | 5, _ => exact xR (aFj (List.mem_of_getElem? (i := 106) rfl)) rfl
  | 6, _ => exact xR (aFj (List.mem_of_getElem? (i := 108) rfl)) rfl
  | 7, _ => exact xR (aFj (List.mem_of_getElem? (i := 110) rfl)) rfl
  | 8, _ => exact xR (aFj (List.mem_of_getElem? (i := 112) rfl)) rfl
  | 9, _ => exact xR (aFj (List.mem_of_getElem? (i := 114) rfl)) rfl
  | 10, _ => exact xR (aFj (List.mem_of_getElem? (i := 116) rfl)) rfl
  | k + 11, hk => exact absurd hk (by omega)
theorem i_X4 : ∀ w ∈ u_ws RX4 TX4 5, w ∈ W0 := by
  intro w hw
  obtain ⟨k, hk, rfl⟩ := List.mem_map.mp hw
  have hk := List.mem_range.mp hk
  match k, hk with
  | 0, _ => exact xR (aFb (List.mem_of_getElem? (i := 50) rfl)) rfl
  | 1, _ => exact xR (aFb (List.mem_of_getElem? (i := 52) rfl)) rfl
  | 2, _ => exact xR (aFb (List.mem_of_getElem? (i := 54) rfl)) rfl
  | 3, _ => exact xR (aFb (List.mem_of_getElem? (i := 56) rfl)) rfl
  | 4, _ => exact xR (aFb (List.mem_of_getElem? (i := 58) rfl)) rfl
  | k + 5, hk => exact absurd hk (by omega)
theorem i_X5 : ∀ w ∈ u_ws RX5 TX5 11, w ∈ W0 := by
  intro w hw
  obtain ⟨k, hk, rfl⟩ := List.mem_map.mp hw
  have hk := List.mem_range.mp hk
  match k, hk with
  | 0, _ => exact xR (aFb (List.mem_of_getElem? (i := 15) rfl)) rfl
  | 1, _ => exact xR (aFb (List.mem_of_getElem? (i := 17) rfl)) rfl
  | 2, _ => exact xR (aFb (List.mem_of_getElem? (i := 19) rfl)) rfl
  | 3, _ => exact xR (aFb (List.mem_of_getElem? (i := 21) rfl)) rfl
  | 4, _ => exact xR (aFb (List.mem_of_getElem? (i := 23) rfl)) rfl
  | 5, _ => exact xR (aFb (List.mem_of_getElem? (i := 25) rfl)) rfl
  | 6, _ => exact xR (aFb (List.mem_of_getElem? (i := 27) rfl)) rfl
  | 7, _ => exact xR (aFb (List.mem_of_getElem? (i := 29) rfl)) rfl
  | 8, _ => exact xR (aFb (List.mem_of_getElem? (i := 31) rfl)) rfl
  | 9, _ => exact xR (aFb (List.mem_of_getElem? (i := 33) rfl)) rfl
  | 10, _ => exact xR (aFb (List.mem_of_getElem? (i := 35) rfl)) rfl
  | k + 11, hk => exact absurd hk (by omega)
theorem i_X6 : ∀ w ∈ u_ws RX6 TX6 2, w ∈ W0 := by
  intro w hw
  obtain ⟨k, hk, rfl⟩ := List.mem_map.mp hw
  have hk := List.mem_range.mp hk
  match k, hk with
  | 0, _ => exact xR (aFb (List.mem_of_getElem? (i := 72) rfl)) rfl
  | 1, _ => exact xR (aFb (List.mem_of_getElem? (i := 74) rfl)) rfl
  | k + 2, hk => exact absurd hk (by omega)
theorem i_X7 : ∀ w ∈ u_ws RX7 TX7 11, w ∈ W0 := by
  intro w hw
  obtain ⟨k, hk, rfl⟩ := List.mem_map.mp hw
  have hk := List.mem_range.mp hk
  match k, hk with
  | 0, _ => exact xR (aFj (List.mem_of_getElem? (i := 200) rfl)) rfl
  | 1, _ => exact xR (aFj (List.mem_of_getElem? (i := 202) rfl)) rfl
  | 2, _ => exact xR (aFj (List.mem_of_getElem? (i := 204) rfl)) rfl
  | 3, _ => exact xR (aFj (List.mem_of_getElem? (i := 206) rfl)) rfl
  | 4, _ => exact xR (aFj (List.mem_of_getElem? (i := 208) rfl)) rfl
  | 5, _ => exact xR (aFj (List.mem_of_getElem? (i := 210) rfl)) rfl
  | 6, _ => exact xR (aFj (List.mem_of_getElem? (i := 212) rfl)) rfl
  | 7, _ => exact xR (aFj (List.mem_of_getElem? (i := 214) rfl)) rfl
  | 8, _ => exact xR (aFj (List.mem_of_getElem? (i := 216) rfl)) rfl
  | 9, _ => exact xR (aFj (List.mem_of_getElem? (i := 218) rfl)) rfl
  | 10, _ => exact xR (aFj (List.mem_of_getElem? (i := 220) rfl)) rfl
  | k + 11, hk => exact absurd hk (by omega)
theorem i_X8 : ∀ w ∈ u_ws RX8 TX8 4, w ∈ W0 := by
  intro w hw
  obtain ⟨k, hk, rfl⟩ := List.mem_map.mp hw
  have hk := List.mem_range.mp hk
  match k, hk with
  | 0, _ => exact xR (aFj (List.mem_of_getElem? (i := 42) rfl)) rfl
  | 1, _ => exact xR (aFj (List.mem_of_getElem? (i := 44) rfl)) rfl
  | 2, _ => exact xR (aFj (List.mem_of_getElem? (i := 46) rfl)) rfl
  | 3, _ => exact xR (aFj (List.mem_of_getElem? (i := 48) rfl)) rfl
  | k + 4, hk => exact absurd hk (by omega)
theorem aC3 : ∀ w ∈ u_ws RX9 TX9 9, w ∈ W0 := by
  intro w hw
  obtain ⟨k, hk, rfl⟩ := List.mem_map.mp hw
  have hk := List.mem_range.mp hk
  match k, hk with
  | 0, _ => exact xR (aFb (List.mem_of_getElem? (i := 103) rfl)) rfl
  | 1, _ => exact xR (aFb (List.mem_of_getElem? (i := 105) rfl)) rfl
  | 2, _ => exact xR (aFb (List.mem_of_getElem? (i := 107) rfl)) rfl
  | 3, _ => exact xR (aFb (List.mem_of_getElem? (i := 109) rfl)) rfl
  | 4, _ => exact xR (aFb (List.mem_of_getElem? (i := 111) rfl)) rfl
  | 5, _ => exact xR (aFb (List.mem_of_getElem? (i := 113) rfl)) rfl
  | 6, _ => exact xR (aFb (List.mem_of_getElem? (i := 115) rfl)) rfl
  | 7, _ => exact xR (aFb (List.mem_of_getElem? (i := 117) rfl)) rfl
  | 8, _ => exact xR (aFb (List.mem_of_getElem? (i := 119) rfl)) rfl
  | k + 9, hk => exact absurd hk (by omega)
theorem aAt : ∀ w ∈ u_ws zX aBe 51, w ∈ W0 := by
  intro w hw
  obtain ⟨k, hk, rfl⟩ := List.mem_map.mp hw
  have hk := List.mem_range.mp hk
  match k, hk with
  | 0, _ => exact xR (aGl (List.mem_of_getElem? (i := 80) rfl)) rfl
  | 1, _ => exact xR (aGl (List.mem_of_getElem? (i := 82) rfl)) rfl
  | 2, _ => exact xR (aGl (List.mem_of_getElem? (i := 84) rfl)) rfl
  | 3, _ => exact xR (aGl (List.mem_of_getElem? (i := 86) rfl)) rfl
  | 4, _ => exact xR (aGl (List.mem_of_getElem? (i := 88) rfl)) rfl
  | 5, _ => exact xR (aGl (List.mem_of_getElem? (i := 90) rfl)) rfl
  | 6, _ => exact xR (aGl (List.mem_of_getElem? (i := 92) rfl)) rfl
  | 7, _ => exact xR (aGl (List.mem_of_getElem? (i := 94) rfl)) rfl
  | 8, _ => exact xR (aGl (List.mem_of_getElem? (i := 96) rfl)) rfl
  | 9, _ => exact xR (aGl (List.mem_of_getElem? (i := 98) rfl)) rfl
  | 10, _ => exact xR (aGl (List.mem_of_getElem? (i := 100) rfl)) rfl
  | 11, _ => exact xR (aGl (List.mem_of_getElem? (i := 102) rfl)) rfl
  | 12, _ => exact xR (aGl (List.mem_of_getElem? (i := 104) rfl)) rfl
  | 13, _ => exact xR (aGl (List.mem_of_getElem? (i := 106) rfl)) rfl
  | 14, _ => exact xR (aGl (List.mem_of_getElem? (i := 108) rfl)) rfl
  | 15, _ => exact xR (aGl (List.mem_of_getElem? (i := 110) rfl)) rfl
  | 16, _ => exact xR (aGl (List.mem_of_getElem? (i := 112) rfl)) rfl
  | 17, _ => exact xR (aGl (List.mem_of_getElem? (i := 114) rfl)) rfl
  | 18, _ => exact xR (aGl (List.mem_of_getElem? (i := 116) rfl)) rfl
  | 19, _ => exact xR (aGl (List.mem_of_getElem? (i := 118) rfl)) rfl
  | 20, _ => exact xR (aGl (List.mem_of_getElem? (i := 120) rfl)) rfl
  | 21, _ => exact xR (aGl (List.mem_of_getElem? (i := 122) rfl)) rfl
  | 22, _ => exact xR (aGl (List.mem_of_getElem? (i := 124) rfl)) rfl
  | 23, _ => exact xR (aGl (List.mem_of_getElem? (i := 126) rfl)) rfl
  | 24, _ => exact xR (aGl (List.mem_of_getElem? (i := 128) rfl)) rfl
  | 25, _ => exact xR (aGl (List.mem_of_getElem? (i := 130) rfl)) rfl
  | 26, _ => exact xR (aGl (List.mem_of_getElem? (i := 132) rfl)) rfl
  | 27, _ => exact xR (aGl (List.mem_of_getElem? (i := 134) rfl)) rfl
  | 28, _ => exact xR (aGl (List.mem_of_getElem? (i := 136) rfl)) rfl
  | 29, _ => exact xR (aGl (List.mem_of_getElem? (i := 138) rfl)) rfl
  | 30, _ => exact xR (aGl (List.mem_of_getElem? (i := 140) rfl)) rfl
  | 31, _ => exact xR (aGl (List.mem_of_getElem? (i := 142) rfl)) rfl
  | 32, _ => exact xR (aGl (List.mem_of_getElem? (i := 144) rfl)) rfl
  | 33, _ => exact xR (aGl (List.mem_of_getElem? (i := 146) rfl)) rfl
  | 34, _ => exact xR (aGl (List.mem_of_getElem? (i := 148) rfl)) rfl
  | 35, _ => exact xR (aGl (List.mem_of_getElem? (i := 150) rfl)) rfl
  | 36, _ => exact xR (aGl (List.mem_of_getElem? (i := 152) rfl)) rfl
  | 37, _ => exact xR (aGl (List.mem_of_getElem? (i := 154) rfl)) rfl
  | 38, _ => exact xR (aGl (List.mem_of_getElem? (i := 156) rfl)) rfl
  | 39, _ => exact xR (aGl (List.mem_of_getElem? (i := 158) rfl)) rfl
  | 40, _ => exact xR (aGl (List.mem_of_getElem? (i := 160) rfl)) rfl
  | 41, _ => exact xR (aGl (List.mem_of_getElem? (i := 162) rfl)) rfl
  | 42, _ => exact xR (aGl (List.mem_of_getElem? (i := 164) rfl)) rfl
  | 43, _ => exact xR (aGl (List.mem_of_getElem? (i := 166) rfl)) rfl
  | 44, _ => exact xR (aGl (List.mem_of_getElem? (i := 168) rfl)) rfl
  | 45, _ => exact xR (aGl (List.mem_of_getElem? (i := 170) rfl)) rfl
  | 46, _ => exact xR (aGl (List.mem_of_getElem? (i := 172) rfl)) rfl
  | 47, _ => exact xR (aGl (List.mem_of_getElem? (i := 174) rfl)) rfl
  | 48, _ => exact xR (aGl (List.mem_of_getElem? (i := 176) rfl)) rfl
  | 49, _ => exact xR (aGl (List.mem_of_getElem? (i := 178) rfl)) rfl
  | 50, _ => exact xR (aGl (List.mem_of_getElem? (i := 180) rfl)) rfl
  | k + 51, hk => exact absurd hk (by omega)
theorem q_1 : Cond.fieldLink RX8 15 "WhereTheLadder$Text" "length" "I" ∈ W0 := xR (aFj (List.mem_of_getElem? (i := 38) rfl)) rfl
theorem q_2 : Cond.fieldLink RX8 11 "WhereTheLadder$Text" "signs" "[C" ∈ W0 := xR (aFj (List.mem_of_getElem? (i := 37) rfl)) rfl
theorem q_3 : Cond.fieldLink RX9 10 "WhereTheLadder" "text" "LWhereTheLadder$Text;" ∈ W0 := xR (aFb (List.mem_of_getElem? (i := 94) rfl)) rfl
theorem q_4 : Cond.code yX8_add aUH 3 (some .int) ∈ W0 := xR (aFb (List.mem_of_getElem? (i := 129) rfl)) rfl
theorem q_5 : Cond.initialized RX8 ∈ W0 := xR (aFj (List.mem_of_getElem? (i := 2) rfl)) rfl
theorem q_6 : Cond.instanceMethod yX8_add ∈ W0 := xR (aFb (List.mem_of_getElem? (i := 127) rfl)) rfl
theorem q_7 : Cond.selects RX8 yX8_add yX8_add ∈ W0 := xR (aFb (List.mem_of_getElem? (i := 128) rfl)) rfl
theorem q_8 : Cond.methodLink RX9 65 yX8_add ∈ W0 := xR (aFb (List.mem_of_getElem? (i := 126) rfl)) rfl
theorem q_9 : Cond.code yX8_cut cX8_cut 2 (some .boolean) ∈ W0 := xR (aFb (List.mem_of_getElem? (i := 137) rfl)) rfl
theorem q_10 : Cond.instanceMethod yX8_cut ∈ W0 := xR (aFb (List.mem_of_getElem? (i := 135) rfl)) rfl
theorem q_11 : Cond.selects RX8 yX8_cut yX8_cut ∈ W0 := xR (aFb (List.mem_of_getElem? (i := 136) rfl)) rfl
theorem q_12 : Cond.methodLink RX9 69 yX8_cut ∈ W0 := xR (aFb (List.mem_of_getElem? (i := 134) rfl)) rfl
theorem q_13 : Cond.fieldLink RX8 19 "WhereTheLadder$Text" "place" "I" ∈ W0 := xR (aFj (List.mem_of_getElem? (i := 40) rfl)) rfl
theorem q_14 : Cond.methodLink RX8 22 Lib.Math.min.name ∈ W0 := xR (aFb (List.mem_of_getElem? (i := 146) rfl)) rfl
theorem q_15 : Cond.static Lib.Math.min.name ∈ W0 := xR (aFb (List.mem_of_getElem? (i := 147) rfl)) rfl
theorem q_16 : Cond.initialized "java/lang/Math" ∈ W0 := xR (aFj (List.mem_of_getElem? (i := 13) rfl)) rfl
theorem q_17 : Cond.code Lib.Math.min.name Lib.Math.min.code 2 (some .int) ∈ W0 := xR (aFb (List.mem_of_getElem? (i := 148) rfl)) rfl
theorem q_18 : Cond.fieldLink RX8 28 "WhereTheLadder$Text" "stop" "I" ∈ W0 := xR (aFj (List.mem_of_getElem? (i := 41) rfl)) rfl
theorem q_19 : Cond.fieldLink RX3 44 "WhereTheLadder$Orchard" "comingFruits" "I" ∈ W0 := xR (aFj (List.mem_of_getElem? (i := 94) rfl)) rfl
theorem q_20 : Cond.fieldLink RX3 33 "WhereTheLadder$Orchard" "fruits" "I" ∈ W0 := xR (aFj (List.mem_of_getElem? (i := 87) rfl)) rfl
theorem q_21 : Cond.fieldLink RX3 47 "WhereTheLadder$Orchard" "comingStandings" "I" ∈ W0 := xR (aFj (List.mem_of_getElem? (i := 95) rfl)) rfl
theorem q_22 : Cond.fieldLink RX3 37 "WhereTheLadder$Orchard" "standings" "I" ∈ W0 := xR (aFj (List.mem_of_getElem? (i := 91) rfl)) rfl
theorem q_23 : Cond.fieldLink RX4 30 "WhereTheLadder$Past" "undoable" "I" ∈ W0 := xR (aFb (List.mem_of_getElem? (i := 47) rfl)) rfl
theorem q_24 : Cond.fieldLink RX4 18 "WhereTheLadder$Past" "isKept" "[Z" ∈ W0 := xR (aFb (List.mem_of_getElem? (i := 46) rfl)) rfl
theorem q_25 : Cond.code yX8_digitHere aHw 2 (some .int) ∈ W0 := xR (aFb (List.mem_of_getElem? (i := 179) rfl)) rfl
theorem q_26 : Cond.instanceMethod yX8_digitHere ∈ W0 := xR (aFb (List.mem_of_getElem? (i := 177) rfl)) rfl
theorem q_27 : Cond.selects RX8 yX8_digitHere yX8_digitHere ∈ W0 := xR (aFb (List.mem_of_getElem? (i := 178) rfl)) rfl
theorem q_28 : Cond.methodLink RX8 35 yX8_digitHere ∈ W0 := xR (aFb (List.mem_of_getElem? (i := 176) rfl)) rfl
theorem q_29 : Cond.code yX8_skip cX8_skip 1 none ∈ W0 := xR (aFb (List.mem_of_getElem? (i := 164) rfl)) rfl
theorem q_30 : Cond.instanceMethod yX8_skip ∈ W0 := xR (aFb (List.mem_of_getElem? (i := 162) rfl)) rfl
theorem q_31 : Cond.selects RX8 yX8_skip yX8_skip ∈ W0 := xR (aFb (List.mem_of_getElem? (i := 163) rfl)) rfl
theorem q_32 : Cond.methodLink RX8 38 yX8_skip ∈ W0 := xR (aFb (List.mem_of_getElem? (i := 180) rfl)) rfl
theorem q_33 : Cond.code yX8_here cX8_here 1 (some .int) ∈ W0 := xR (aFb (List.mem_of_getElem? (i := 160) rfl)) rfl
theorem q_34 : Cond.instanceMethod yX8_here ∈ W0 := xR (aFb (List.mem_of_getElem? (i := 158) rfl)) rfl
theorem q_35 : Cond.selects RX8 yX8_here yX8_here ∈ W0 := xR (aFb (List.mem_of_getElem? (i := 159) rfl)) rfl
theorem q_36 : Cond.methodLink RX8 31 yX8_here ∈ W0 := xR (aFb (List.mem_of_getElem? (i := 185) rfl)) rfl
theorem q_37 : Cond.code aXs aEZ 5 (some .int) ∈ W0 := xR (aFb (List.mem_of_getElem? (i := 175) rfl)) rfl
theorem q_38 : Cond.instanceMethod aXs ∈ W0 := xR (aFb (List.mem_of_getElem? (i := 173) rfl)) rfl
theorem q_39 : Cond.selects RX8 aXs aXs ∈ W0 := xR (aFb (List.mem_of_getElem? (i := 174) rfl)) rfl
theorem q_40 : Cond.methodLink RX3 76 aXs ∈ W0 := xR (aFb (List.mem_of_getElem? (i := 172) rfl)) rfl
theorem q_41 : Cond.code yX8_take cX8_take 2 (some .boolean) ∈ W0 := xR (aFb (List.mem_of_getElem? (i := 184) rfl)) rfl
theorem q_42 : Cond.instanceMethod yX8_take ∈ W0 := xR (aFb (List.mem_of_getElem? (i := 182) rfl)) rfl
theorem q_43 : Cond.selects RX8 yX8_take yX8_take ∈ W0 := xR (aFb (List.mem_of_getElem? (i := 183) rfl)) rfl
theorem q_44 : Cond.methodLink RX3 54 yX8_take ∈ W0 := xR (aFb (List.mem_of_getElem? (i := 181) rfl)) rfl
theorem q_45 : Cond.fieldLink RX3 9 "WhereTheLadder$Orchard" "x" "[I" ∈ W0 := xR (aFj (List.mem_of_getElem? (i := 70) rfl)) rfl
theorem q_46 : Cond.fieldLink RX3 15 "WhereTheLadder$Orchard" "height" "[I" ∈ W0 := xR (aFj (List.mem_of_getElem? (i := 72) rfl)) rfl
theorem q_47 : Cond.code yX3_readPair aEm 6 (some .boolean) ∈ W0 := xR (aFb (List.mem_of_getElem? (i := 171) rfl)) rfl
theorem q_48 : Cond.initialized RX3 ∈ W0 := xR (aFj (List.mem_of_getElem? (i := 5) rfl)) rfl
theorem q_49 : Cond.static yX3_readPair ∈ W0 := xR (aFb (List.mem_of_getElem? (i := 170) rfl)) rfl
theorem q_50 : Cond.methodLink RX3 72 yX3_readPair ∈ W0 := xR (aFb (List.mem_of_getElem? (i := 169) rfl)) rfl
theorem q_51 : Cond.fieldLink RX3 18 "WhereTheLadder$Orchard" "worth" "[I" ∈ W0 := xR (aFj (List.mem_of_getElem? (i := 75) rfl)) rfl
theorem q_52 : Cond.fieldLink RX3 21 "WhereTheLadder$Orchard" "ripe" "[I" ∈ W0 := xR (aFj (List.mem_of_getElem? (i := 77) rfl)) rfl
theorem q_53 : Cond.fieldLink RX3 24 "WhereTheLadder$Orchard" "foot" "[I" ∈ W0 := xR (aFj (List.mem_of_getElem? (i := 80) rfl)) rfl
theorem q_54 : Cond.fieldLink RX3 27 "WhereTheLadder$Orchard" "fork" "[I" ∈ W0 := xR (aFj (List.mem_of_getElem? (i := 82) rfl)) rfl
theorem q_55 : Cond.methodLink RX3 60 yX8_here ∈ W0 := xR (aFb (List.mem_of_getElem? (i := 157) rfl)) rfl
theorem q_56 : Cond.methodLink RX3 63 yX8_skip ∈ W0 := xR (aFb (List.mem_of_getElem? (i := 161) rfl)) rfl
theorem q_57 : Cond.code aZi aH8 2 (some .boolean) ∈ W0 := xR (aFb (List.mem_of_getElem? (i := 189) rfl)) rfl
theorem q_58 : Cond.instanceMethod aZi ∈ W0 := xR (aFb (List.mem_of_getElem? (i := 187) rfl)) rfl
theorem q_59 : Cond.selects RX3 aZi aZi ∈ W0 := xR (aFb (List.mem_of_getElem? (i := 188) rfl)) rfl
theorem q_60 : Cond.methodLink RX3 69 aZi ∈ W0 := xR (aFb (List.mem_of_getElem? (i := 186) rfl)) rfl
theorem q_61 : Cond.code yX3_readFruit aCb 3 (some .boolean) ∈ W0 := xR (aFb (List.mem_of_getElem? (i := 168) rfl)) rfl
theorem q_62 : Cond.instanceMethod yX3_readFruit ∈ W0 := xR (aFb (List.mem_of_getElem? (i := 166) rfl)) rfl
theorem q_63 : Cond.selects RX3 yX3_readFruit yX3_readFruit ∈ W0 := xR (aFb (List.mem_of_getElem? (i := 167) rfl)) rfl
theorem q_64 : Cond.methodLink RX3 66 yX3_readFruit ∈ W0 := xR (aFb (List.mem_of_getElem? (i := 165) rfl)) rfl
theorem q_65 : Cond.code yX3_readLine aHB 2 (some .boolean) ∈ W0 := xR (aFb (List.mem_of_getElem? (i := 156) rfl)) rfl
theorem q_66 : Cond.instanceMethod yX3_readLine ∈ W0 := xR (aFb (List.mem_of_getElem? (i := 154) rfl)) rfl
theorem q_67 : Cond.selects RX3 yX3_readLine yX3_readLine ∈ W0 := xR (aFb (List.mem_of_getElem? (i := 155) rfl)) rfl
theorem q_68 : Cond.methodLink RX3 50 yX3_readLine ∈ W0 := xR (aFb (List.mem_of_getElem? (i := 153) rfl)) rfl
theorem q_69 : Cond.code yX8_open cX8_open 2 none ∈ W0 := xR (aFb (List.mem_of_getElem? (i := 145) rfl)) rfl
theorem q_70 : Cond.instanceMethod yX8_open ∈ W0 := xR (aFb (List.mem_of_getElem? (i := 143) rfl)) rfl
theorem q_71 : Cond.selects RX8 yX8_open yX8_open ∈ W0 := xR (aFb (List.mem_of_getElem? (i := 144) rfl)) rfl
theorem q_72 : Cond.methodLink RX9 73 yX8_open ∈ W0 := xR (aFb (List.mem_of_getElem? (i := 142) rfl)) rfl
theorem q_73 : Cond.fieldLink RX9 77 "WhereTheLadder$Text" "length" "I" ∈ W0 := xR (aFj (List.mem_of_getElem? (i := 39) rfl)) rfl
theorem q_74 : Cond.fieldLink RX9 34 "WhereTheLadder" "tree" "LWhereTheLadder$Orchard;" ∈ W0 := xR (aFb (List.mem_of_getElem? (i := 97) rfl)) rfl
theorem q_75 : Cond.code yX3_readLines aGJ 3 (some .int) ∈ W0 := xR (aFb (List.mem_of_getElem? (i := 152) rfl)) rfl
theorem q_76 : Cond.instanceMethod yX3_readLines ∈ W0 := xR (aFb (List.mem_of_getElem? (i := 150) rfl)) rfl
theorem q_77 : Cond.selects RX3 yX3_readLines yX3_readLines ∈ W0 := xR (aFb (List.mem_of_getElem? (i := 151) rfl)) rfl
theorem q_78 : Cond.methodLink RX9 81 yX3_readLines ∈ W0 := xR (aFb (List.mem_of_getElem? (i := 149) rfl)) rfl
theorem q_79 : Cond.code yX8_wrong cX8_wrong 1 (some .int) ∈ W0 := xR (aFb (List.mem_of_getElem? (i := 197) rfl)) rfl
theorem q_80 : Cond.instanceMethod yX8_wrong ∈ W0 := xR (aFb (List.mem_of_getElem? (i := 195) rfl)) rfl
theorem q_81 : Cond.selects RX8 yX8_wrong yX8_wrong ∈ W0 := xR (aFb (List.mem_of_getElem? (i := 196) rfl)) rfl
theorem q_82 : Cond.methodLink RX9 91 yX8_wrong ∈ W0 := xR (aFb (List.mem_of_getElem? (i := 194) rfl)) rfl
theorem q_83 : Cond.code yX8_clear cX8_clear 1 none ∈ W0 := xR (aFb (List.mem_of_getElem? (i := 209) rfl)) rfl
theorem q_84 : Cond.instanceMethod yX8_clear ∈ W0 := xR (aFb (List.mem_of_getElem? (i := 207) rfl)) rfl
theorem q_85 : Cond.selects RX8 yX8_clear yX8_clear ∈ W0 := xR (aFb (List.mem_of_getElem? (i := 208) rfl)) rfl
theorem q_86 : Cond.methodLink RX9 101 yX8_clear ∈ W0 := xR (aFb (List.mem_of_getElem? (i := 206) rfl)) rfl
theorem q_87 : Cond.code yX3_takeLines cX3_takeLines 1 none ∈ W0 := xR (aFb (List.mem_of_getElem? (i := 201) rfl)) rfl
theorem q_88 : Cond.instanceMethod yX3_takeLines ∈ W0 := xR (aFb (List.mem_of_getElem? (i := 199) rfl)) rfl
theorem q_89 : Cond.selects RX3 yX3_takeLines yX3_takeLines ∈ W0 := xR (aFb (List.mem_of_getElem? (i := 200) rfl)) rfl
theorem q_90 : Cond.methodLink RX9 95 yX3_takeLines ∈ W0 := xR (aFb (List.mem_of_getElem? (i := 198) rfl)) rfl
theorem q_91 : Cond.fieldLink RX9 43 "WhereTheLadder" "past" "LWhereTheLadder$Past;" ∈ W0 := xR (aFb (List.mem_of_getElem? (i := 99) rfl)) rfl
theorem q_92 : Cond.code yX4_forgetAll aMx 2 none ∈ W0 := xR (aFb (List.mem_of_getElem? (i := 205) rfl)) rfl
theorem q_93 : Cond.initialized RX4 ∈ W0 := xR (aFj (List.mem_of_getElem? (i := 9) rfl)) rfl
theorem q_94 : Cond.instanceMethod yX4_forgetAll ∈ W0 := xR (aFb (List.mem_of_getElem? (i := 203) rfl)) rfl
theorem q_95 : Cond.selects RX4 yX4_forgetAll yX4_forgetAll ∈ W0 := xR (aFb (List.mem_of_getElem? (i := 204) rfl)) rfl
theorem q_96 : Cond.methodLink RX9 98 yX4_forgetAll ∈ W0 := xR (aFb (List.mem_of_getElem? (i := 202) rfl)) rfl
theorem q_97 : Cond.code bCQ cX8_isThrough 1 (some .boolean) ∈ W0 := xR (aFb (List.mem_of_getElem? (i := 193) rfl)) rfl
theorem q_98 : Cond.instanceMethod bCQ ∈ W0 := xR (aFb (List.mem_of_getElem? (i := 191) rfl)) rfl
theorem q_99 : Cond.selects RX8 bCQ bCQ ∈ W0 := xR (aFb (List.mem_of_getElem? (i := 192) rfl)) rfl
theorem q_100 : Cond.methodLink RX9 87 bCQ ∈ W0 := xR (aFb (List.mem_of_getElem? (i := 190) rfl)) rfl
theorem q_101 : Cond.fieldLink RX7 35 "WhereTheLadder$Rule" "length" "I" ∈ W0 := xR (aFj (List.mem_of_getElem? (i := 193) rfl)) rfl
theorem q_102 : Cond.fieldLink RX7 41 "WhereTheLadder$Rule" "waits" "I" ∈ W0 := xR (aFj (List.mem_of_getElem? (i := 196) rfl)) rfl
theorem q_103 : Cond.fieldLink RX7 23 "WhereTheLadder$Rule" "waiting" "[I" ∈ W0 := xR (aFj (List.mem_of_getElem? (i := 189) rfl)) rfl
theorem q_104 : Cond.fieldLink RX7 38 "WhereTheLadder$Rule" "drafted" "I" ∈ W0 := xR (aFj (List.mem_of_getElem? (i := 195) rfl)) rfl
theorem q_105 : Cond.fieldLink RX7 32 "WhereTheLadder$Rule" "draft" "[I" ∈ W0 := xR (aFj (List.mem_of_getElem? (i := 192) rfl)) rfl
theorem q_106 : Cond.methodLink RX7 83 aXs ∈ W0 := xR (aFb (List.mem_of_getElem? (i := 235) rfl)) rfl
theorem q_107 : Cond.code yX7_emit cX7_emit 2 none ∈ W0 := xR (aGA (List.mem_of_getElem? (i := 75) rfl)) rfl
theorem q_108 : Cond.initialized RX7 ∈ W0 := xR (aFj (List.mem_of_getElem? (i := 7) rfl)) rfl
theorem q_109 : Cond.instanceMethod yX7_emit ∈ W0 := xR (aGA (List.mem_of_getElem? (i := 73) rfl)) rfl
theorem q_110 : Cond.selects RX7 yX7_emit yX7_emit ∈ W0 := xR (aGA (List.mem_of_getElem? (i := 74) rfl)) rfl
theorem q_111 : Cond.methodLink RX7 90 yX7_emit ∈ W0 := xR (aGA (List.mem_of_getElem? (i := 72) rfl)) rfl
theorem q_112 : Cond.fieldLink RX7 50 "WhereTheLadder$Rule" "wantsThing" "Z" ∈ W0 := xR (aFj (List.mem_of_getElem? (i := 199) rfl)) rfl
theorem q_113 : Cond.methodLink RX7 54 yX8_here ∈ W0 := xR (aFb (List.mem_of_getElem? (i := 222) rfl)) rfl
theorem q_114 : Cond.methodLink RX7 87 aRr ∈ W0 := xR (aFb (List.mem_of_getElem? (i := 236) rfl)) rfl
theorem q_115 : Cond.methodLink RX7 80 yX8_skip ∈ W0 := xR (aGA (List.mem_of_getElem? (i := 71) rfl)) rfl
theorem q_116 : Cond.code aVP aDX 4 (some .boolean) ∈ W0 := xR (aFb (List.mem_of_getElem? (i := 234) rfl)) rfl
theorem q_117 : Cond.instanceMethod aVP ∈ W0 := xR (aFb (List.mem_of_getElem? (i := 232) rfl)) rfl
theorem q_118 : Cond.selects RX7 aVP aVP ∈ W0 := xR (aFb (List.mem_of_getElem? (i := 233) rfl)) rfl
theorem q_119 : Cond.methodLink RX7 77 aVP ∈ W0 := xR (aFb (List.mem_of_getElem? (i := 231) rfl)) rfl
theorem q_120 : Cond.fieldLink RX7 44 "WhereTheLadder$Rule" "open" "I" ∈ W0 := xR (aFj (List.mem_of_getElem? (i := 197) rfl)) rfl
theorem q_121 : Cond.fieldLink RX7 47 "WhereTheLadder$Rule" "compared" "I" ∈ W0 := xR (aFj (List.mem_of_getElem? (i := 198) rfl)) rfl
theorem q_122 : Cond.code yX7_hold cX7_hold 2 none ∈ W0 := xR (aFb (List.mem_of_getElem? (i := 230) rfl)) rfl
theorem q_123 : Cond.instanceMethod yX7_hold ∈ W0 := xR (aFb (List.mem_of_getElem? (i := 228) rfl)) rfl
theorem q_124 : Cond.selects RX7 yX7_hold yX7_hold ∈ W0 := xR (aFb (List.mem_of_getElem? (i := 229) rfl)) rfl
theorem q_125 : Cond.methodLink RX7 74 yX7_hold ∈ W0 := xR (aFb (List.mem_of_getElem? (i := 227) rfl)) rfl
theorem q_126 : Cond.code yX7_strength bA8 1 (some .int) ∈ W0 := xR (aGA (List.mem_of_getElem? (i := 86) rfl)) rfl
theorem q_127 : Cond.static yX7_strength ∈ W0 := xR (aGA (List.mem_of_getElem? (i := 85) rfl)) rfl
theorem q_128 : Cond.methodLink RX7 99 yX7_strength ∈ W0 := xR (aGA (List.mem_of_getElem? (i := 84) rfl)) rfl
theorem q_129 : Cond.code yX7_settle aJP 2 none ∈ W0 := xR (aGA (List.mem_of_getElem? (i := 83) rfl)) rfl
theorem q_130 : Cond.instanceMethod yX7_settle ∈ W0 := xR (aGA (List.mem_of_getElem? (i := 81) rfl)) rfl
theorem q_131 : Cond.selects RX7 yX7_settle yX7_settle ∈ W0 := xR (aGA (List.mem_of_getElem? (i := 82) rfl)) rfl
theorem q_132 : Cond.methodLink RX7 70 yX7_settle ∈ W0 := xR (aGA (List.mem_of_getElem? (i := 80) rfl)) rfl
theorem q_133 : Cond.methodLink RX7 93 Lib.Math.max.name ∈ W0 := xR (aGA (List.mem_of_getElem? (i := 87) rfl)) rfl
theorem q_134 : Cond.static Lib.Math.max.name ∈ W0 := xR (aGA (List.mem_of_getElem? (i := 16) rfl)) rfl
theorem q_135 : Cond.code Lib.Math.max.name Lib.Math.max.code 2 (some .int) ∈ W0 := xR (aGA (List.mem_of_getElem? (i := 17) rfl)) rfl
theorem q_136 : Cond.methodLink RX7 66 bCQ ∈ W0 := xR (aGA (List.mem_of_getElem? (i := 88) rfl)) rfl
theorem q_137 : Cond.fieldLink RX7 29 "WhereTheLadder$Rule" "program" "[I" ∈ W0 := xR (aFj (List.mem_of_getElem? (i := 191) rfl)) rfl
theorem q_138 : Cond.code aUC aBO 4 (some .boolean) ∈ W0 := xR (aGA (List.mem_of_getElem? (i := 79) rfl)) rfl
theorem q_139 : Cond.instanceMethod aUC ∈ W0 := xR (aGA (List.mem_of_getElem? (i := 77) rfl)) rfl
theorem q_140 : Cond.selects RX7 aUC aUC ∈ W0 := xR (aGA (List.mem_of_getElem? (i := 78) rfl)) rfl
theorem q_141 : Cond.methodLink RX7 63 aUC ∈ W0 := xR (aGA (List.mem_of_getElem? (i := 76) rfl)) rfl
theorem q_142 : Cond.code yX7_readThing aDQ 3 (some .boolean) ∈ W0 := xR (aFb (List.mem_of_getElem? (i := 226) rfl)) rfl
theorem q_143 : Cond.instanceMethod yX7_readThing ∈ W0 := xR (aFb (List.mem_of_getElem? (i := 224) rfl)) rfl
theorem q_144 : Cond.selects RX7 yX7_readThing yX7_readThing ∈ W0 := xR (aFb (List.mem_of_getElem? (i := 225) rfl)) rfl
theorem q_145 : Cond.methodLink RX7 59 yX7_readThing ∈ W0 := xR (aFb (List.mem_of_getElem? (i := 223) rfl)) rfl
theorem q_146 : Cond.fieldLink RX9 27 "WhereTheLadder" "garden" "LWhereTheLadder$Garden;" ∈ W0 := xR (aFb (List.mem_of_getElem? (i := 96) rfl)) rfl
theorem q_147 : Cond.fieldLink RX9 104 "WhereTheLadder$Garden" "pace" "LWhereTheLadder$Rule;" ∈ W0 := xR (aFj (List.mem_of_getElem? (i := 231) rfl)) rfl
theorem q_148 : Cond.code yX7_read aEh 3 (some .boolean) ∈ W0 := xR (aFb (List.mem_of_getElem? (i := 221) rfl)) rfl
theorem q_149 : Cond.instanceMethod yX7_read ∈ W0 := xR (aFb (List.mem_of_getElem? (i := 219) rfl)) rfl
theorem q_150 : Cond.selects RX7 yX7_read yX7_read ∈ W0 := xR (aFb (List.mem_of_getElem? (i := 220) rfl)) rfl
theorem q_151 : Cond.methodLink RX9 113 yX7_read ∈ W0 := xR (aFb (List.mem_of_getElem? (i := 218) rfl)) rfl
theorem q_152 : Cond.code yX7_drop cX7_drop 1 none ∈ W0 := xR (aFb (List.mem_of_getElem? (i := 217) rfl)) rfl
theorem q_153 : Cond.instanceMethod yX7_drop ∈ W0 := xR (aFb (List.mem_of_getElem? (i := 215) rfl)) rfl
theorem q_154 : Cond.selects RX7 yX7_drop yX7_drop ∈ W0 := xR (aFb (List.mem_of_getElem? (i := 216) rfl)) rfl
theorem q_155 : Cond.methodLink RX9 108 yX7_drop ∈ W0 := xR (aFb (List.mem_of_getElem? (i := 214) rfl)) rfl
theorem q_156 : Cond.fieldLink RX0 12 "WhereTheLadder$Garden" "tree" "LWhereTheLadder$Orchard;" ∈ W0 := xR (aFj (List.mem_of_getElem? (i := 224) rfl)) rfl
theorem q_157 : Cond.code yX3_allFruits cX3_allFruits 1 (some .int) ∈ W0 := xR (aGA (List.mem_of_getElem? (i := 186) rfl)) rfl
theorem q_158 : Cond.instanceMethod yX3_allFruits ∈ W0 := xR (aGA (List.mem_of_getElem? (i := 184) rfl)) rfl
theorem q_159 : Cond.selects RX3 yX3_allFruits yX3_allFruits ∈ W0 := xR (aGA (List.mem_of_getElem? (i := 185) rfl)) rfl
theorem q_160 : Cond.methodLink RX0 32 yX3_allFruits ∈ W0 := xR (aGA (List.mem_of_getElem? (i := 183) rfl)) rfl
theorem q_161 : Cond.fieldLink RX0 21 "WhereTheLadder$Garden" "now" "LWhereTheLadder$Moment;" ∈ W0 := xR (aFj (List.mem_of_getElem? (i := 227) rfl)) rfl
theorem q_162 : Cond.fieldLink RX0 36 "WhereTheLadder$Moment" "apron" "I" ∈ W0 := xR (aFj (List.mem_of_getElem? (i := 127) rfl)) rfl
theorem q_163 : Cond.fieldLink RX0 40 "WhereTheLadder$Moment" "basket" "I" ∈ W0 := xR (aFj (List.mem_of_getElem? (i := 130) rfl)) rfl
theorem q_164 : Cond.fieldLink RX0 43 "WhereTheLadder$Moment" "ground" "I" ∈ W0 := xR (aFj (List.mem_of_getElem? (i := 133) rfl)) rfl
theorem q_165 : Cond.methodLink RX3 89 Lib.Math.abs.name ∈ W0 := xR (aGA (List.mem_of_getElem? (i := 131) rfl)) rfl
theorem q_166 : Cond.static Lib.Math.abs.name ∈ W0 := xR (aGA (List.mem_of_getElem? (i := 132) rfl)) rfl
theorem q_167 : Cond.code Lib.Math.abs.name Lib.Math.abs.code 1 (some .int) ∈ W0 := xR (aGA (List.mem_of_getElem? (i := 133) rfl)) rfl
theorem q_168 : Cond.fieldLink RX2 15 "WhereTheLadder$Moment" "apron" "I" ∈ W0 := xR (aFj (List.mem_of_getElem? (i := 126) rfl)) rfl
theorem q_169 : Cond.fieldLink RX2 18 "WhereTheLadder$Moment" "basket" "I" ∈ W0 := xR (aFj (List.mem_of_getElem? (i := 129) rfl)) rfl
theorem q_170 : Cond.fieldLink RX2 21 "WhereTheLadder$Moment" "ground" "I" ∈ W0 := xR (aFj (List.mem_of_getElem? (i := 132) rfl)) rfl
theorem q_171 : Cond.code yX3_hasFruit cX3_hasFruit 2 (some .boolean) ∈ W0 := xR (aGA (List.mem_of_getElem? (i := 178) rfl)) rfl
theorem q_172 : Cond.instanceMethod yX3_hasFruit ∈ W0 := xR (aGA (List.mem_of_getElem? (i := 176) rfl)) rfl
theorem q_173 : Cond.selects RX3 yX3_hasFruit yX3_hasFruit ∈ W0 := xR (aGA (List.mem_of_getElem? (i := 177) rfl)) rfl
theorem q_174 : Cond.methodLink RX9 117 yX3_hasFruit ∈ W0 := xR (aEb (List.mem_of_getElem? (i := 100) rfl)) rfl
theorem q_175 : Cond.fieldLink RX9 123 "WhereTheLadder$Orchard" "x" "[I" ∈ W0 := xR (aFj (List.mem_of_getElem? (i := 71) rfl)) rfl
theorem q_176 : Cond.fieldLink RX9 126 "WhereTheLadder$Orchard" "height" "[I" ∈ W0 := xR (aFj (List.mem_of_getElem? (i := 73) rfl)) rfl
theorem q_177 : Cond.fieldLink RX9 129 "WhereTheLadder$Orchard" "worth" "[I" ∈ W0 := xR (aFj (List.mem_of_getElem? (i := 76) rfl)) rfl
theorem q_178 : Cond.fieldLink RX9 132 "WhereTheLadder$Orchard" "ripe" "[I" ∈ W0 := xR (aFj (List.mem_of_getElem? (i := 78) rfl)) rfl
theorem q_179 : Cond.fieldLink RX9 39 "WhereTheLadder" "now" "LWhereTheLadder$Moment;" ∈ W0 := xR (aFb (List.mem_of_getElem? (i := 98) rfl)) rfl
theorem q_180 : Cond.code yX2_whereIs aLA 2 (some .int) ∈ W0 := xR (aGl (List.mem_of_getElem? (i := 7) rfl)) rfl
theorem q_181 : Cond.initialized RX2 ∈ W0 := xR (aFj (List.mem_of_getElem? (i := 6) rfl)) rfl
theorem q_182 : Cond.instanceMethod yX2_whereIs ∈ W0 := xR (aGl (List.mem_of_getElem? (i := 5) rfl)) rfl
theorem q_183 : Cond.selects RX2 yX2_whereIs yX2_whereIs ∈ W0 := xR (aGl (List.mem_of_getElem? (i := 6) rfl)) rfl
theorem q_184 : Cond.methodLink RX9 135 yX2_whereIs ∈ W0 := xR (aGl (List.mem_of_getElem? (i := 4) rfl)) rfl
theorem q_185 : Cond.fieldLink RX9 140 "WhereTheLadder$Moment" "bruised" "I" ∈ W0 := xR (aFj (List.mem_of_getElem? (i := 137) rfl)) rfl
theorem q_186 : Cond.code yX0_hanging aSS 1 (some .int) ∈ W0 := xR (aGA (List.mem_of_getElem? (i := 182) rfl)) rfl
theorem q_187 : Cond.initialized RX0 ∈ W0 := xR (aFj (List.mem_of_getElem? (i := 4) rfl)) rfl
theorem q_188 : Cond.instanceMethod yX0_hanging ∈ W0 := xR (aGA (List.mem_of_getElem? (i := 180) rfl)) rfl
theorem q_189 : Cond.selects RX0 yX0_hanging yX0_hanging ∈ W0 := xR (aGA (List.mem_of_getElem? (i := 181) rfl)) rfl
theorem q_190 : Cond.methodLink RX9 143 yX0_hanging ∈ W0 := xR (aEb (List.mem_of_getElem? (i := 107) rfl)) rfl
theorem q_191 : Cond.code bCO aCf 6 (some .int) ∈ W0 := xR (aGA (List.mem_of_getElem? (i := 239) rfl)) rfl
theorem q_192 : Cond.instanceMethod bCO ∈ W0 := xR (aGA (List.mem_of_getElem? (i := 237) rfl)) rfl
theorem q_193 : Cond.selects RX3 bCO bCO ∈ W0 := xR (aGA (List.mem_of_getElem? (i := 238) rfl)) rfl
theorem q_194 : Cond.methodLink RX9 146 bCO ∈ W0 := xR (aGK (List.mem_of_getElem? (i := 73) rfl)) rfl
theorem q_195 : Cond.code aZH aXG 2 (some .boolean) ∈ W0 := xR (aGA (List.mem_of_getElem? (i := 126) rfl)) rfl
theorem q_196 : Cond.instanceMethod aZH ∈ W0 := xR (aGA (List.mem_of_getElem? (i := 124) rfl)) rfl
theorem q_197 : Cond.selects RX3 aZH aZH ∈ W0 := xR (aGA (List.mem_of_getElem? (i := 125) rfl)) rfl
theorem q_198 : Cond.methodLink RX9 150 aZH ∈ W0 := xR (aEb (List.mem_of_getElem? (i := 93) rfl)) rfl
theorem q_199 : Cond.fieldLink RX9 153 "WhereTheLadder$Orchard" "foot" "[I" ∈ W0 := xR (aFj (List.mem_of_getElem? (i := 81) rfl)) rfl
theorem q_200 : Cond.fieldLink RX9 156 "WhereTheLadder$Orchard" "fork" "[I" ∈ W0 := xR (aFj (List.mem_of_getElem? (i := 83) rfl)) rfl
theorem q_201 : Cond.code aXP aUO 2 (some .int) ∈ W0 := xR (aGA (List.mem_of_getElem? (i := 137) rfl)) rfl
theorem q_202 : Cond.instanceMethod aXP ∈ W0 := xR (aGA (List.mem_of_getElem? (i := 135) rfl)) rfl
theorem q_203 : Cond.selects RX3 aXP aXP ∈ W0 := xR (aGA (List.mem_of_getElem? (i := 136) rfl)) rfl
theorem q_204 : Cond.methodLink RX9 159 aXP ∈ W0 := xR (aGl (List.mem_of_getElem? (i := 15) rfl)) rfl
theorem q_205 : Cond.fieldLink RX9 162 "WhereTheLadder" "LEAST_SETTING" "[I" ∈ W0 := xR (aGA (List.mem_of_getElem? (i := 93) rfl)) rfl
theorem q_206 : Cond.fieldLink RX9 165 "WhereTheLadder" "MOST_SETTING" "[I" ∈ W0 := xR (aGA (List.mem_of_getElem? (i := 95) rfl)) rfl
theorem q_207 : Cond.fieldLink RX9 168 "WhereTheLadder$Orchard" "settings" "[I" ∈ W0 := xR (aFj (List.mem_of_getElem? (i := 85) rfl)) rfl
theorem q_208 : Cond.methodLink RX3 80 Lib.Math.min.name ∈ W0 := xR (aGA (List.mem_of_getElem? (i := 105) rfl)) rfl
theorem q_209 : Cond.methodLink RX3 86 Lib.Math.max.name ∈ W0 := xR (aGA (List.mem_of_getElem? (i := 106) rfl)) rfl
theorem q_210 : Cond.code yX3_fillWorths aCr 9 (some .int) ∈ W0 := xR (aGA (List.mem_of_getElem? (i := 104) rfl)) rfl
theorem q_211 : Cond.instanceMethod yX3_fillWorths ∈ W0 := xR (aGA (List.mem_of_getElem? (i := 102) rfl)) rfl
theorem q_212 : Cond.selects RX3 yX3_fillWorths yX3_fillWorths ∈ W0 := xR (aGA (List.mem_of_getElem? (i := 103) rfl)) rfl
theorem q_213 : Cond.methodLink RX9 171 yX3_fillWorths ∈ W0 := xR (aGA (List.mem_of_getElem? (i := 101) rfl)) rfl
theorem q_214 : Cond.fieldLink RX2 33 "WhereTheLadder$Moment" "bruised" "I" ∈ W0 := xR (aFj (List.mem_of_getElem? (i := 136) rfl)) rfl
theorem q_215 : Cond.fieldLink RX2 9 "WhereTheLadder$Moment" "ladder" "I" ∈ W0 := xR (aFj (List.mem_of_getElem? (i := 138) rfl)) rfl
theorem q_216 : Cond.fieldLink RX2 36 "WhereTheLadder$Moment" "helper" "I" ∈ W0 := xR (aFj (List.mem_of_getElem? (i := 144) rfl)) rfl
theorem q_217 : Cond.fieldLink RX2 39 "WhereTheLadder$Moment" "today" "I" ∈ W0 := xR (aFj (List.mem_of_getElem? (i := 148) rfl)) rfl
theorem q_218 : Cond.fieldLink RX2 24 "WhereTheLadder$Moment" "clock" "I" ∈ W0 := xR (aFj (List.mem_of_getElem? (i := 150) rfl)) rfl
theorem q_219 : Cond.fieldLink RX4 11 "WhereTheLadder$Past" "cells" "[I" ∈ W0 := xR (aFb (List.mem_of_getElem? (i := 44) rfl)) rfl
theorem q_220 : Cond.fieldLink RX4 22 "WhereTheLadder$Past" "free" "I" ∈ W0 := xR (aFb (List.mem_of_getElem? (i := 49) rfl)) rfl
theorem q_221 : Cond.code yX2_write aER 3 none ∈ W0 := xR (aGA (List.mem_of_getElem? (i := 118) rfl)) rfl
theorem q_222 : Cond.instanceMethod yX2_write ∈ W0 := xR (aGA (List.mem_of_getElem? (i := 116) rfl)) rfl
theorem q_223 : Cond.selects RX2 yX2_write yX2_write ∈ W0 := xR (aGA (List.mem_of_getElem? (i := 117) rfl)) rfl
theorem q_224 : Cond.methodLink RX4 26 yX2_write ∈ W0 := xR (aGA (List.mem_of_getElem? (i := 115) rfl)) rfl
theorem q_225 : Cond.fieldLink RX3 30 "WhereTheLadder$Orchard" "settings" "[I" ∈ W0 := xR (aFj (List.mem_of_getElem? (i := 84) rfl)) rfl
theorem q_226 : Cond.methodLink RX2 27 Lib.Math.min.name ∈ W0 := xR (aGA (List.mem_of_getElem? (i := 146) rfl)) rfl
theorem q_227 : Cond.methodLink RX0 104 aZH ∈ W0 := xR (aGA (List.mem_of_getElem? (i := 123) rfl)) rfl
theorem q_228 : Cond.fieldLink RX0 53 "WhereTheLadder$Moment" "ladder" "I" ∈ W0 := xR (aFj (List.mem_of_getElem? (i := 139) rfl)) rfl
theorem q_229 : Cond.code aXQ aHH 3 (some .int) ∈ W0 := xR (aGA (List.mem_of_getElem? (i := 130) rfl)) rfl
theorem q_230 : Cond.instanceMethod aXQ ∈ W0 := xR (aGA (List.mem_of_getElem? (i := 128) rfl)) rfl
theorem q_231 : Cond.selects RX3 aXQ aXQ ∈ W0 := xR (aGA (List.mem_of_getElem? (i := 129) rfl)) rfl
theorem q_232 : Cond.methodLink RX0 108 aXQ ∈ W0 := xR (aGA (List.mem_of_getElem? (i := 127) rfl)) rfl
theorem q_233 : Cond.code yX2_emptyApron aXU 1 none ∈ W0 := xR (aGA (List.mem_of_getElem? (i := 141) rfl)) rfl
theorem q_234 : Cond.instanceMethod yX2_emptyApron ∈ W0 := xR (aGA (List.mem_of_getElem? (i := 139) rfl)) rfl
theorem q_235 : Cond.selects RX2 yX2_emptyApron yX2_emptyApron ∈ W0 := xR (aGA (List.mem_of_getElem? (i := 140) rfl)) rfl
theorem q_236 : Cond.methodLink RX0 114 yX2_emptyApron ∈ W0 := xR (aGA (List.mem_of_getElem? (i := 138) rfl)) rfl
theorem q_237 : Cond.code yX2_spend cX2_spend 2 none ∈ W0 := xR (aGA (List.mem_of_getElem? (i := 145) rfl)) rfl
theorem q_238 : Cond.instanceMethod yX2_spend ∈ W0 := xR (aGA (List.mem_of_getElem? (i := 143) rfl)) rfl
theorem q_239 : Cond.selects RX2 yX2_spend yX2_spend ∈ W0 := xR (aGA (List.mem_of_getElem? (i := 144) rfl)) rfl
theorem q_240 : Cond.methodLink RX0 117 yX2_spend ∈ W0 := xR (aGA (List.mem_of_getElem? (i := 142) rfl)) rfl
theorem q_241 : Cond.methodLink RX0 111 aXP ∈ W0 := xR (aGA (List.mem_of_getElem? (i := 134) rfl)) rfl
theorem q_242 : Cond.methodLink RX4 33 Lib.Math.min.name ∈ W0 := xR (aGA (List.mem_of_getElem? (i := 155) rfl)) rfl
theorem q_243 : Cond.code yX4_hold cX4_hold 1 none ∈ W0 := xR (aGA (List.mem_of_getElem? (i := 154) rfl)) rfl
theorem q_244 : Cond.instanceMethod yX4_hold ∈ W0 := xR (aGA (List.mem_of_getElem? (i := 152) rfl)) rfl
theorem q_245 : Cond.selects RX4 yX4_hold yX4_hold ∈ W0 := xR (aGA (List.mem_of_getElem? (i := 153) rfl)) rfl
theorem q_246 : Cond.methodLink RX9 212 yX4_hold ∈ W0 := xR (aGA (List.mem_of_getElem? (i := 151) rfl)) rfl
theorem q_247 : Cond.code yX4_note cX4_note 2 none ∈ W0 := xR (aGA (List.mem_of_getElem? (i := 114) rfl)) rfl
theorem q_248 : Cond.instanceMethod yX4_note ∈ W0 := xR (aGA (List.mem_of_getElem? (i := 112) rfl)) rfl
theorem q_249 : Cond.selects RX4 yX4_note yX4_note ∈ W0 := xR (aGA (List.mem_of_getElem? (i := 113) rfl)) rfl
theorem q_250 : Cond.methodLink RX9 175 yX4_note ∈ W0 := xR (aGA (List.mem_of_getElem? (i := 111) rfl)) rfl
theorem q_251 : Cond.code yX0_setLadder aC4 3 (some .int) ∈ W0 := xR (aGA (List.mem_of_getElem? (i := 122) rfl)) rfl
theorem q_252 : Cond.instanceMethod yX0_setLadder ∈ W0 := xR (aGA (List.mem_of_getElem? (i := 120) rfl)) rfl
theorem q_253 : Cond.selects RX0 yX0_setLadder yX0_setLadder ∈ W0 := xR (aGA (List.mem_of_getElem? (i := 121) rfl)) rfl
theorem q_254 : Cond.methodLink RX9 179 yX0_setLadder ∈ W0 := xR (aGA (List.mem_of_getElem? (i := 119) rfl)) rfl
theorem q_255 : Cond.code bB4 cX9_holdIfDone 2 (some .int) ∈ W0 := xR (aGA (List.mem_of_getElem? (i := 150) rfl)) rfl
theorem aIl : Cond.initialized RX9 ∈ W0 := xR (aFj (List.mem_of_getElem? (i := 1) rfl)) rfl
theorem q_257 : Cond.instanceMethod bB4 ∈ W0 := xR (aGA (List.mem_of_getElem? (i := 149) rfl)) rfl
theorem q_258 : Cond.selects RX9 bB4 bB4 ∈ W0 := xR (aIZ (q := (bB4, 9)) (List.mem_of_getElem? (i := 0) rfl)) rfl
theorem q_259 : Cond.methodLink RX9 182 bB4 ∈ W0 := xR (aGA (List.mem_of_getElem? (i := 147) rfl)) rfl
theorem q_260 : Cond.code yX9_isYesOrNo bB7 1 (some .boolean) ∈ W0 := xR (aGA (List.mem_of_getElem? (i := 166) rfl)) rfl
theorem q_261 : Cond.static yX9_isYesOrNo ∈ W0 := xR (aGA (List.mem_of_getElem? (i := 165) rfl)) rfl
theorem q_262 : Cond.fieldLink RX0 56 "WhereTheLadder$Moment" "helper" "I" ∈ W0 := xR (aFj (List.mem_of_getElem? (i := 143) rfl)) rfl
theorem q_263 : Cond.code yX0_setHelper aRO 3 (some .int) ∈ W0 := xR (aGA (List.mem_of_getElem? (i := 163) rfl)) rfl
theorem q_264 : Cond.instanceMethod yX0_setHelper ∈ W0 := xR (aGA (List.mem_of_getElem? (i := 161) rfl)) rfl
theorem q_265 : Cond.selects RX0 yX0_setHelper yX0_setHelper ∈ W0 := xR (aGA (List.mem_of_getElem? (i := 162) rfl)) rfl
theorem q_266 : Cond.methodLink RX9 185 yX0_setHelper ∈ W0 := xR (aGA (List.mem_of_getElem? (i := 160) rfl)) rfl
theorem q_267 : Cond.code yX3_aside aNO 3 (some .int) ∈ W0 := xR (aGA (List.mem_of_getElem? (i := 198) rfl)) rfl
theorem q_268 : Cond.instanceMethod yX3_aside ∈ W0 := xR (aGA (List.mem_of_getElem? (i := 196) rfl)) rfl
theorem q_269 : Cond.selects RX3 yX3_aside yX3_aside ∈ W0 := xR (aGA (List.mem_of_getElem? (i := 197) rfl)) rfl
theorem q_270 : Cond.methodLink RX3 95 yX3_aside ∈ W0 := xR (aGA (List.mem_of_getElem? (i := 195) rfl)) rfl
theorem q_271 : Cond.code yX3_above aXV 3 (some .int) ∈ W0 := xR (aGA (List.mem_of_getElem? (i := 202) rfl)) rfl
theorem q_272 : Cond.instanceMethod yX3_above ∈ W0 := xR (aGA (List.mem_of_getElem? (i := 200) rfl)) rfl
theorem q_273 : Cond.selects RX3 yX3_above yX3_above ∈ W0 := xR (aGA (List.mem_of_getElem? (i := 201) rfl)) rfl
theorem q_274 : Cond.methodLink RX3 98 yX3_above ∈ W0 := xR (aGA (List.mem_of_getElem? (i := 199) rfl)) rfl
theorem q_275 : Cond.constant RJ6 265 1431655765 ∈ W0 := xR (aGA (List.mem_of_getElem? (i := 206) rfl)) rfl
theorem q_276 : Cond.constant RJ6 266 858993459 ∈ W0 := xR (aGA (List.mem_of_getElem? (i := 207) rfl)) rfl
theorem q_277 : Cond.constant RJ6 267 252645135 ∈ W0 := xR (aGA (List.mem_of_getElem? (i := 208) rfl)) rfl
theorem q_278 : Cond.fieldLink RX0 46 "WhereTheLadder$Moment" "bruised" "I" ∈ W0 := xR (aFj (List.mem_of_getElem? (i := 135) rfl)) rfl
theorem q_279 : Cond.code yX3_worthOf aFl 5 (some .int) ∈ W0 := xR (aGA (List.mem_of_getElem? (i := 222) rfl)) rfl
theorem q_280 : Cond.instanceMethod yX3_worthOf ∈ W0 := xR (aGA (List.mem_of_getElem? (i := 220) rfl)) rfl
theorem q_281 : Cond.selects RX3 yX3_worthOf yX3_worthOf ∈ W0 := xR (aGA (List.mem_of_getElem? (i := 221) rfl)) rfl
theorem q_282 : Cond.methodLink RX0 49 yX3_worthOf ∈ W0 := xR (aGA (List.mem_of_getElem? (i := 219) rfl)) rfl
theorem q_283 : Cond.fieldLink RX7 19 "WhereTheLadder$Rule" "given" "[I" ∈ W0 := xR (aFj (List.mem_of_getElem? (i := 187) rfl)) rfl
theorem q_284 : Cond.fieldLink RX7 26 "WhereTheLadder$Rule" "stack" "[I" ∈ W0 := xR (aFj (List.mem_of_getElem? (i := 190) rfl)) rfl
theorem q_285 : Cond.code yX7_join aJd 3 (some .int) ∈ W0 := xR (aGA (List.mem_of_getElem? (i := 233) rfl)) rfl
theorem q_286 : Cond.static yX7_join ∈ W0 := xR (aGA (List.mem_of_getElem? (i := 232) rfl)) rfl
theorem q_287 : Cond.methodLink RX7 105 yX7_join ∈ W0 := xR (aGA (List.mem_of_getElem? (i := 231) rfl)) rfl
theorem q_288 : Cond.code yX7_meant cX7_meant 3 (some .int) ∈ W0 := xR (aGA (List.mem_of_getElem? (i := 230) rfl)) rfl
theorem q_289 : Cond.instanceMethod yX7_meant ∈ W0 := xR (aGA (List.mem_of_getElem? (i := 228) rfl)) rfl
theorem q_290 : Cond.selects RX7 yX7_meant yX7_meant ∈ W0 := xR (aGA (List.mem_of_getElem? (i := 229) rfl)) rfl
theorem q_291 : Cond.methodLink RX7 102 yX7_meant ∈ W0 := xR (aGA (List.mem_of_getElem? (i := 227) rfl)) rfl
theorem q_292 : Cond.fieldLink RX0 28 "WhereTheLadder$Garden" "pace" "LWhereTheLadder$Rule;" ∈ W0 := xR (aFj (List.mem_of_getElem? (i := 230) rfl)) rfl
theorem q_293 : Cond.fieldLink RX0 75 "WhereTheLadder$Rule" "given" "[I" ∈ W0 := xR (aFj (List.mem_of_getElem? (i := 188) rfl)) rfl
theorem q_294 : Cond.methodLink RX0 79 yX3_aside ∈ W0 := xR (aGA (List.mem_of_getElem? (i := 213) rfl)) rfl
theorem q_295 : Cond.methodLink RX0 82 yX3_above ∈ W0 := xR (aGA (List.mem_of_getElem? (i := 214) rfl)) rfl
theorem q_296 : Cond.fieldLink RX0 85 "WhereTheLadder$Orchard" "height" "[I" ∈ W0 := xR (aFj (List.mem_of_getElem? (i := 74) rfl)) rfl
theorem q_297 : Cond.code yX0_worthOf cX0_worthOf 2 (some .int) ∈ W0 := xR (aGA (List.mem_of_getElem? (i := 218) rfl)) rfl
theorem q_298 : Cond.instanceMethod yX0_worthOf ∈ W0 := xR (aGA (List.mem_of_getElem? (i := 216) rfl)) rfl
theorem q_299 : Cond.selects RX0 yX0_worthOf yX0_worthOf ∈ W0 := xR (aGA (List.mem_of_getElem? (i := 217) rfl)) rfl
theorem q_300 : Cond.methodLink RX0 88 yX0_worthOf ∈ W0 := xR (aGA (List.mem_of_getElem? (i := 215) rfl)) rfl
theorem q_301 : Cond.fieldLink RX0 90 "WhereTheLadder$Rule" "length" "I" ∈ W0 := xR (aFj (List.mem_of_getElem? (i := 194) rfl)) rfl
theorem q_302 : Cond.code yX7_reckon aCQ 4 (some .int) ∈ W0 := xR (aGA (List.mem_of_getElem? (i := 226) rfl)) rfl
theorem q_303 : Cond.instanceMethod yX7_reckon ∈ W0 := xR (aGA (List.mem_of_getElem? (i := 224) rfl)) rfl
theorem q_304 : Cond.selects RX7 yX7_reckon yX7_reckon ∈ W0 := xR (aGA (List.mem_of_getElem? (i := 225) rfl)) rfl
theorem q_305 : Cond.methodLink RX0 93 yX7_reckon ∈ W0 := xR (aGA (List.mem_of_getElem? (i := 223) rfl)) rfl
theorem q_306 : Cond.methodLink RX0 96 Lib.Math.min.name ∈ W0 := xR (aGA (List.mem_of_getElem? (i := 234) rfl)) rfl
theorem q_307 : Cond.methodLink RX0 101 Lib.Math.max.name ∈ W0 := xR (aGA (List.mem_of_getElem? (i := 235) rfl)) rfl
theorem q_308 : Cond.methodLink RX0 124 yX3_hasFruit ∈ W0 := xR (aGA (List.mem_of_getElem? (i := 175) rfl)) rfl
theorem q_309 : Cond.methodLink RX0 65 yX0_hanging ∈ W0 := xR (aGA (List.mem_of_getElem? (i := 179) rfl)) rfl
theorem q_310 : Cond.fieldLink RX0 127 "WhereTheLadder$Orchard" "ripe" "[I" ∈ W0 := xR (aFj (List.mem_of_getElem? (i := 79) rfl)) rfl
theorem q_311 : Cond.fieldLink RX0 68 "WhereTheLadder$Moment" "today" "I" ∈ W0 := xR (aFj (List.mem_of_getElem? (i := 147) rfl)) rfl
theorem q_312 : Cond.code yX3_reach aZQ 3 (some .int) ∈ W0 := xR (aGA (List.mem_of_getElem? (i := 190) rfl)) rfl
theorem q_313 : Cond.instanceMethod yX3_reach ∈ W0 := xR (aGA (List.mem_of_getElem? (i := 188) rfl)) rfl
theorem q_314 : Cond.selects RX3 yX3_reach yX3_reach ∈ W0 := xR (aGA (List.mem_of_getElem? (i := 189) rfl)) rfl
theorem q_315 : Cond.methodLink RX0 59 yX3_reach ∈ W0 := xR (aGA (List.mem_of_getElem? (i := 187) rfl)) rfl
theorem q_316 : Cond.code yX3_isWithin aJO 6 (some .boolean) ∈ W0 := xR (aGA (List.mem_of_getElem? (i := 194) rfl)) rfl
theorem q_317 : Cond.instanceMethod yX3_isWithin ∈ W0 := xR (aGA (List.mem_of_getElem? (i := 192) rfl)) rfl
theorem q_318 : Cond.selects RX3 yX3_isWithin yX3_isWithin ∈ W0 := xR (aGA (List.mem_of_getElem? (i := 193) rfl)) rfl
theorem q_319 : Cond.methodLink RX0 130 yX3_isWithin ∈ W0 := xR (aGA (List.mem_of_getElem? (i := 191) rfl)) rfl
theorem q_320 : Cond.code aPX aCj 1 (some .int) ∈ W0 := xR (aGA (List.mem_of_getElem? (i := 205) rfl)) rfl
theorem q_321 : Cond.initialized RJ6 ∈ W0 := xR (aFj (List.mem_of_getElem? (i := 22) rfl)) rfl
theorem q_322 : Cond.static aPX ∈ W0 := xR (aGA (List.mem_of_getElem? (i := 204) rfl)) rfl
theorem q_323 : Cond.methodLink RX0 134 aPX ∈ W0 := xR (aGA (List.mem_of_getElem? (i := 203) rfl)) rfl
theorem q_324 : Cond.fieldLink RX0 139 "WhereTheLadder$Orchard" "settings" "[I" ∈ W0 := xR (aFj (List.mem_of_getElem? (i := 86) rfl)) rfl
theorem q_325 : Cond.code aXO aBm 9 (some .int) ∈ W0 := xR (aGA (List.mem_of_getElem? (i := 212) rfl)) rfl
theorem q_326 : Cond.instanceMethod aXO ∈ W0 := xR (aGA (List.mem_of_getElem? (i := 210) rfl)) rfl
theorem q_327 : Cond.selects RX0 aXO aXO ∈ W0 := xR (aGA (List.mem_of_getElem? (i := 211) rfl)) rfl
theorem q_328 : Cond.methodLink RX0 142 aXO ∈ W0 := xR (aGA (List.mem_of_getElem? (i := 209) rfl)) rfl
theorem q_329 : Cond.methodLink RX0 146 bCO ∈ W0 := xR (aGA (List.mem_of_getElem? (i := 236) rfl)) rfl
theorem q_330 : Cond.code yX0_pickFruit aBg 6 (some .int) ∈ W0 := xR (aGA (List.mem_of_getElem? (i := 174) rfl)) rfl
theorem q_331 : Cond.instanceMethod yX0_pickFruit ∈ W0 := xR (aGA (List.mem_of_getElem? (i := 172) rfl)) rfl
theorem q_332 : Cond.selects RX0 yX0_pickFruit yX0_pickFruit ∈ W0 := xR (aGA (List.mem_of_getElem? (i := 173) rfl)) rfl
theorem q_333 : Cond.methodLink RX9 188 yX0_pickFruit ∈ W0 := xR (aGA (List.mem_of_getElem? (i := 171) rfl)) rfl
theorem q_334 : Cond.code yX0_goDown aKG 2 (some .int) ∈ W0 := xR (aEb (List.mem_of_getElem? (i := 7) rfl)) rfl
theorem q_335 : Cond.instanceMethod yX0_goDown ∈ W0 := xR (aEb (List.mem_of_getElem? (i := 5) rfl)) rfl
theorem q_336 : Cond.selects RX0 yX0_goDown yX0_goDown ∈ W0 := xR (aEb (List.mem_of_getElem? (i := 6) rfl)) rfl
theorem q_337 : Cond.methodLink RX9 191 yX0_goDown ∈ W0 := xR (aEb (List.mem_of_getElem? (i := 4) rfl)) rfl
theorem q_338 : Cond.methodLink RX3 101 yX3_isWithin ∈ W0 := xR (aEb (List.mem_of_getElem? (i := 24) rfl)) rfl
theorem q_339 : Cond.code yX3_within aLk 5 (some .int) ∈ W0 := xR (aEb (List.mem_of_getElem? (i := 23) rfl)) rfl
theorem q_340 : Cond.instanceMethod yX3_within ∈ W0 := xR (aEb (List.mem_of_getElem? (i := 21) rfl)) rfl
theorem q_341 : Cond.selects RX3 yX3_within yX3_within ∈ W0 := xR (aEb (List.mem_of_getElem? (i := 22) rfl)) rfl
theorem q_342 : Cond.methodLink RX0 62 yX3_within ∈ W0 := xR (aEb (List.mem_of_getElem? (i := 20) rfl)) rfl
theorem q_343 : Cond.code yX3_ripeBy aLj 4 (some .int) ∈ W0 := xR (aEb (List.mem_of_getElem? (i := 28) rfl)) rfl
theorem q_344 : Cond.instanceMethod yX3_ripeBy ∈ W0 := xR (aEb (List.mem_of_getElem? (i := 26) rfl)) rfl
theorem q_345 : Cond.selects RX3 yX3_ripeBy yX3_ripeBy ∈ W0 := xR (aEb (List.mem_of_getElem? (i := 27) rfl)) rfl
theorem q_346 : Cond.methodLink RX0 71 yX3_ripeBy ∈ W0 := xR (aEb (List.mem_of_getElem? (i := 25) rfl)) rfl
theorem q_347 : Cond.code bCN aFz 2 (some .int) ∈ W0 := xR (aEb (List.mem_of_getElem? (i := 19) rfl)) rfl
theorem q_348 : Cond.instanceMethod bCN ∈ W0 := xR (aEb (List.mem_of_getElem? (i := 17) rfl)) rfl
theorem q_349 : Cond.selects RX0 bCN bCN ∈ W0 := xR (aEb (List.mem_of_getElem? (i := 18) rfl)) rfl
theorem q_350 : Cond.methodLink RX0 149 bCN ∈ W0 := xR (aEb (List.mem_of_getElem? (i := 16) rfl)) rfl
theorem q_351 : Cond.fieldLink RX0 152 "WhereTheLadder$Orchard" "fruits" "I" ∈ W0 := xR (aFj (List.mem_of_getElem? (i := 89) rfl)) rfl
theorem q_352 : Cond.code yX0_shakeTree aCl 5 (some .int) ∈ W0 := xR (aEb (List.mem_of_getElem? (i := 15) rfl)) rfl
theorem q_353 : Cond.instanceMethod yX0_shakeTree ∈ W0 := xR (aEb (List.mem_of_getElem? (i := 13) rfl)) rfl
theorem q_354 : Cond.selects RX0 yX0_shakeTree yX0_shakeTree ∈ W0 := xR (aEb (List.mem_of_getElem? (i := 14) rfl)) rfl
theorem q_355 : Cond.methodLink RX9 194 yX0_shakeTree ∈ W0 := xR (aEb (List.mem_of_getElem? (i := 12) rfl)) rfl
theorem q_356 : Cond.fieldLink RX0 155 "WhereTheLadder$Moment" "clock" "I" ∈ W0 := xR (aFj (List.mem_of_getElem? (i := 151) rfl)) rfl
theorem q_357 : Cond.code yX0_sleepOver aGn 1 (some .int) ∈ W0 := xR (aEb (List.mem_of_getElem? (i := 36) rfl)) rfl
theorem q_358 : Cond.instanceMethod yX0_sleepOver ∈ W0 := xR (aEb (List.mem_of_getElem? (i := 34) rfl)) rfl
theorem q_359 : Cond.selects RX0 yX0_sleepOver yX0_sleepOver ∈ W0 := xR (aEb (List.mem_of_getElem? (i := 35) rfl)) rfl
theorem q_360 : Cond.methodLink RX9 197 yX0_sleepOver ∈ W0 := xR (aEb (List.mem_of_getElem? (i := 33) rfl)) rfl
theorem q_361 : Cond.fieldLink RX6 15 "WhereTheLadder$Row" "size" "I" ∈ W0 := xR (aFb (List.mem_of_getElem? (i := 70) rfl)) rfl
theorem q_362 : Cond.fieldLink RX6 9 "WhereTheLadder$Row" "numbers" "[I" ∈ W0 := xR (aFb (List.mem_of_getElem? (i := 68) rfl)) rfl
theorem q_363 : Cond.fieldLink RX9 50 "WhereTheLadder" "told" "LWhereTheLadder$Row;" ∈ W0 := xR (aFb (List.mem_of_getElem? (i := 100) rfl)) rfl
theorem q_364 : Cond.code yX6_clear cX6_clear 1 none ∈ W0 := xR (aEb (List.mem_of_getElem? (i := 72) rfl)) rfl
theorem q_365 : Cond.initialized RX6 ∈ W0 := xR (aFj (List.mem_of_getElem? (i := 10) rfl)) rfl
theorem q_366 : Cond.instanceMethod yX6_clear ∈ W0 := xR (aEb (List.mem_of_getElem? (i := 70) rfl)) rfl
theorem q_367 : Cond.selects RX6 yX6_clear yX6_clear ∈ W0 := xR (aEb (List.mem_of_getElem? (i := 71) rfl)) rfl
theorem q_368 : Cond.methodLink RX9 304 yX6_clear ∈ W0 := xR (aEb (List.mem_of_getElem? (i := 69) rfl)) rfl
theorem q_369 : Cond.code yX6_add cX6_add 2 none ∈ W0 := xR (aEb (List.mem_of_getElem? (i := 76) rfl)) rfl
theorem q_370 : Cond.instanceMethod yX6_add ∈ W0 := xR (aEb (List.mem_of_getElem? (i := 74) rfl)) rfl
theorem q_371 : Cond.selects RX6 yX6_add yX6_add ∈ W0 := xR (aEb (List.mem_of_getElem? (i := 75) rfl)) rfl
theorem q_372 : Cond.methodLink RX9 318 yX6_add ∈ W0 := xR (aEb (List.mem_of_getElem? (i := 73) rfl)) rfl
theorem q_373 : Cond.code yX9_tell cX9_tell 2 none ∈ W0 := xR (aEb (List.mem_of_getElem? (i := 68) rfl)) rfl
theorem q_374 : Cond.instanceMethod yX9_tell ∈ W0 := xR (aEb (List.mem_of_getElem? (i := 67) rfl)) rfl
theorem q_375 : Cond.selects RX9 yX9_tell yX9_tell ∈ W0 := xR (aIZ (q := (yX9_tell, 9)) (List.mem_of_getElem? (i := 6) rfl)) rfl
theorem q_376 : Cond.methodLink RX9 260 yX9_tell ∈ W0 := xR (aEb (List.mem_of_getElem? (i := 65) rfl)) rfl
theorem q_377 : Cond.code yX9_tell_ cX9_tell_ 3 none ∈ W0 := xR (aEb (List.mem_of_getElem? (i := 64) rfl)) rfl
theorem q_378 : Cond.instanceMethod yX9_tell_ ∈ W0 := xR (aEb (List.mem_of_getElem? (i := 63) rfl)) rfl
theorem q_379 : Cond.selects RX9 yX9_tell_ yX9_tell_ ∈ W0 := xR (aIZ (q := (yX9_tell_, 9)) (List.mem_of_getElem? (i := 5) rfl)) rfl
theorem q_380 : Cond.methodLink RX9 234 yX9_tell_ ∈ W0 := xR (aEb (List.mem_of_getElem? (i := 61) rfl)) rfl
theorem q_381 : Cond.fieldLink RX9 61 "WhereTheLadder" "acts" "[I" ∈ W0 := xR (aFb (List.mem_of_getElem? (i := 102) rfl)) rfl
theorem q_382 : Cond.code yX9_doAct aHy 3 (some .int) ∈ W0 := xR (aEb (List.mem_of_getElem? (i := 60) rfl)) rfl
theorem q_383 : Cond.instanceMethod yX9_doAct ∈ W0 := xR (aEb (List.mem_of_getElem? (i := 59) rfl)) rfl
theorem q_384 : Cond.selects RX9 yX9_doAct yX9_doAct ∈ W0 := xR (aIZ (q := (yX9_doAct, 9)) (List.mem_of_getElem? (i := 4) rfl)) rfl
theorem q_385 : Cond.methodLink RX9 231 yX9_doAct ∈ W0 := xR (aEb (List.mem_of_getElem? (i := 57) rfl)) rfl
theorem q_386 : Cond.methodLink RX9 222 yX8_here ∈ W0 := xR (aEb (List.mem_of_getElem? (i := 49) rfl)) rfl
theorem q_387 : Cond.methodLink RX9 225 yX8_skip ∈ W0 := xR (aEb (List.mem_of_getElem? (i := 50) rfl)) rfl
theorem q_388 : Cond.methodLink RX9 228 aXs ∈ W0 := xR (aEb (List.mem_of_getElem? (i := 51) rfl)) rfl
theorem q_389 : Cond.code yX9_readAct aFA 4 (some .int) ∈ W0 := xR (aEb (List.mem_of_getElem? (i := 48) rfl)) rfl
theorem q_390 : Cond.instanceMethod yX9_readAct ∈ W0 := xR (aEb (List.mem_of_getElem? (i := 47) rfl)) rfl
theorem q_391 : Cond.selects RX9 yX9_readAct yX9_readAct ∈ W0 := xR (aIZ (q := (yX9_readAct, 9)) (List.mem_of_getElem? (i := 2) rfl)) rfl
theorem q_392 : Cond.methodLink RX9 215 yX9_readAct ∈ W0 := xR (aEb (List.mem_of_getElem? (i := 45) rfl)) rfl
theorem q_393 : Cond.methodLink RX9 218 yX8_take ∈ W0 := xR (aEb (List.mem_of_getElem? (i := 52) rfl)) rfl
theorem q_394 : Cond.code yX9_readActs aGa 3 (some .int) ∈ W0 := xR (aEb (List.mem_of_getElem? (i := 44) rfl)) rfl
theorem q_395 : Cond.instanceMethod yX9_readActs ∈ W0 := xR (aEb (List.mem_of_getElem? (i := 43) rfl)) rfl
theorem q_396 : Cond.selects RX9 yX9_readActs yX9_readActs ∈ W0 := xR (aIZ (q := (yX9_readActs, 9)) (List.mem_of_getElem? (i := 1) rfl)) rfl
theorem q_397 : Cond.methodLink RX9 200 yX9_readActs ∈ W0 := xR (aEb (List.mem_of_getElem? (i := 41) rfl)) rfl
theorem q_398 : Cond.code yX9_doActs aC8 7 (some .int) ∈ W0 := xR (aEb (List.mem_of_getElem? (i := 56) rfl)) rfl
theorem q_399 : Cond.instanceMethod yX9_doActs ∈ W0 := xR (aEb (List.mem_of_getElem? (i := 55) rfl)) rfl
theorem q_400 : Cond.selects RX9 yX9_doActs yX9_doActs ∈ W0 := xR (aIZ (q := (yX9_doActs, 9)) (List.mem_of_getElem? (i := 3) rfl)) rfl
theorem q_401 : Cond.methodLink RX9 203 yX9_doActs ∈ W0 := xR (aEb (List.mem_of_getElem? (i := 53) rfl)) rfl
theorem q_402 : Cond.code yX2_read aFe 3 none ∈ W0 := xR (aEb (List.mem_of_getElem? (i := 88) rfl)) rfl
theorem q_403 : Cond.instanceMethod yX2_read ∈ W0 := xR (aEb (List.mem_of_getElem? (i := 86) rfl)) rfl
theorem q_404 : Cond.selects RX2 yX2_read yX2_read ∈ W0 := xR (aEb (List.mem_of_getElem? (i := 87) rfl)) rfl
theorem q_405 : Cond.methodLink RX4 39 yX2_read ∈ W0 := xR (aEb (List.mem_of_getElem? (i := 85) rfl)) rfl
theorem q_406 : Cond.fieldLink RX9 206 "WhereTheLadder$Past" "undoable" "I" ∈ W0 := xR (aFb (List.mem_of_getElem? (i := 48) rfl)) rfl
theorem q_407 : Cond.code yX4_goBack aNP 2 none ∈ W0 := xR (aEb (List.mem_of_getElem? (i := 84) rfl)) rfl
theorem q_408 : Cond.instanceMethod yX4_goBack ∈ W0 := xR (aEb (List.mem_of_getElem? (i := 82) rfl)) rfl
theorem q_409 : Cond.selects RX4 yX4_goBack yX4_goBack ∈ W0 := xR (aEb (List.mem_of_getElem? (i := 83) rfl)) rfl
theorem q_410 : Cond.methodLink RX9 209 yX4_goBack ∈ W0 := xR (aEb (List.mem_of_getElem? (i := 81) rfl)) rfl
theorem q_411 : Cond.methodLink RX9 238 yX3_reach ∈ W0 := xR (aEb (List.mem_of_getElem? (i := 94) rfl)) rfl
theorem q_412 : Cond.methodLink RX9 241 yX3_within ∈ W0 := xR (aEb (List.mem_of_getElem? (i := 95) rfl)) rfl
theorem q_413 : Cond.methodLink RX9 244 yX9_isYesOrNo ∈ W0 := xR (aEb (List.mem_of_getElem? (i := 101) rfl)) rfl
theorem q_414 : Cond.fieldLink RX9 247 "WhereTheLadder$Moment" "helper" "I" ∈ W0 := xR (aFj (List.mem_of_getElem? (i := 145) rfl)) rfl
theorem q_415 : Cond.fieldLink RX9 250 "WhereTheLadder$Orchard" "standings" "I" ∈ W0 := xR (aFj (List.mem_of_getElem? (i := 93) rfl)) rfl
theorem q_416 : Cond.methodLink RX9 253 yX3_isWithin ∈ W0 := xR (aEb (List.mem_of_getElem? (i := 102) rfl)) rfl
theorem q_417 : Cond.methodLink RX9 257 yX0_worthOf ∈ W0 := xR (aEb (List.mem_of_getElem? (i := 108) rfl)) rfl
theorem q_418 : Cond.methodLink RX9 262 aXO ∈ W0 := xR (aEb (List.mem_of_getElem? (i := 113) rfl)) rfl
theorem q_419 : Cond.fieldLink RX5 24 "WhereTheLadder$Plan" "tree" "LWhereTheLadder$Orchard;" ∈ W0 := xR (aFb (List.mem_of_getElem? (i := 1) rfl)) rfl
theorem q_420 : Cond.fieldLink RX5 64 "WhereTheLadder$Orchard" "standings" "I" ∈ W0 := xR (aFj (List.mem_of_getElem? (i := 92) rfl)) rfl
theorem q_421 : Cond.fieldLink RX5 25 "WhereTheLadder$Plan" "near" "[I" ∈ W0 := xR (aFb (List.mem_of_getElem? (i := 2) rfl)) rfl
theorem q_422 : Cond.methodLink RX5 58 yX3_reach ∈ W0 := xR (aEb (List.mem_of_getElem? (i := 126) rfl)) rfl
theorem q_423 : Cond.fieldLink RX5 14 "WhereTheLadder$Plan" "garden" "LWhereTheLadder$Garden;" ∈ W0 := xR (aFj (List.mem_of_getElem? (i := 239) rfl)) rfl
theorem q_424 : Cond.methodLink RX5 70 yX0_hanging ∈ W0 := xR (aEb (List.mem_of_getElem? (i := 128) rfl)) rfl
theorem q_425 : Cond.methodLink RX5 74 yX3_ripeBy ∈ W0 := xR (aEb (List.mem_of_getElem? (i := 129) rfl)) rfl
theorem q_426 : Cond.code aUc bCR 1 (some .int) ∈ W0 := xR (aEb (List.mem_of_getElem? (i := 133) rfl)) rfl
theorem q_427 : Cond.instanceMethod aUc ∈ W0 := xR (aEb (List.mem_of_getElem? (i := 131) rfl)) rfl
theorem q_428 : Cond.selects RX3 aUc aUc ∈ W0 := xR (aEb (List.mem_of_getElem? (i := 132) rfl)) rfl
theorem q_429 : Cond.methodLink RX5 78 aUc ∈ W0 := xR (aEb (List.mem_of_getElem? (i := 130) rfl)) rfl
theorem q_430 : Cond.code yX5_reachedBy aGp 4 (some .int) ∈ W0 := xR (aEb (List.mem_of_getElem? (i := 137) rfl)) rfl
theorem aRn : Cond.initialized RX5 ∈ W0 := xR (aFj (List.mem_of_getElem? (i := 3) rfl)) rfl
theorem q_432 : Cond.instanceMethod yX5_reachedBy ∈ W0 := xR (aEb (List.mem_of_getElem? (i := 135) rfl)) rfl
theorem q_433 : Cond.selects RX5 yX5_reachedBy yX5_reachedBy ∈ W0 := xR (aEb (List.mem_of_getElem? (i := 136) rfl)) rfl
theorem q_434 : Cond.methodLink RX5 81 yX5_reachedBy ∈ W0 := xR (aEb (List.mem_of_getElem? (i := 134) rfl)) rfl
theorem q_435 : Cond.fieldLink RX5 84 "WhereTheLadder$Plan" "wanted" "I" ∈ W0 := xR (aFb (List.mem_of_getElem? (i := 7) rfl)) rfl
theorem q_436 : Cond.methodLink RX5 67 yX3_within ∈ W0 := xR (aEb (List.mem_of_getElem? (i := 127) rfl)) rfl
theorem q_437 : Cond.fieldLink RX5 41 "WhereTheLadder$Garden" "now" "LWhereTheLadder$Moment;" ∈ W0 := xR (aFj (List.mem_of_getElem? (i := 229) rfl)) rfl
theorem q_438 : Cond.fieldLink RX5 45 "WhereTheLadder$Moment" "helper" "I" ∈ W0 := xR (aFj (List.mem_of_getElem? (i := 142) rfl)) rfl
theorem q_439 : Cond.fieldLink RX5 51 "WhereTheLadder$Moment" "today" "I" ∈ W0 := xR (aFj (List.mem_of_getElem? (i := 146) rfl)) rfl
theorem q_440 : Cond.code yX5_lookAs aGV 5 none ∈ W0 := xR (aEb (List.mem_of_getElem? (i := 125) rfl)) rfl
theorem q_441 : Cond.instanceMethod yX5_lookAs ∈ W0 := xR (aEb (List.mem_of_getElem? (i := 123) rfl)) rfl
theorem q_442 : Cond.selects RX5 yX5_lookAs yX5_lookAs ∈ W0 := xR (aEb (List.mem_of_getElem? (i := 124) rfl)) rfl
theorem q_443 : Cond.methodLink RX5 54 yX5_lookAs ∈ W0 := xR (aEb (List.mem_of_getElem? (i := 122) rfl)) rfl
theorem aOt : Cond.fieldLink RX9 19 "WhereTheLadder" "plan" "LWhereTheLadder$Plan;" ∈ W0 := xR (aFb (List.mem_of_getElem? (i := 95) rfl)) rfl
theorem q_445 : Cond.code yX5_look cX5_look 1 none ∈ W0 := xR (aEb (List.mem_of_getElem? (i := 121) rfl)) rfl
theorem q_446 : Cond.instanceMethod yX5_look ∈ W0 := xR (aEb (List.mem_of_getElem? (i := 119) rfl)) rfl
theorem q_447 : Cond.selects RX5 yX5_look yX5_look ∈ W0 := xR (aEb (List.mem_of_getElem? (i := 120) rfl)) rfl
theorem q_448 : Cond.methodLink RX9 265 yX5_look ∈ W0 := xR (aEb (List.mem_of_getElem? (i := 118) rfl)) rfl
theorem q_449 : Cond.code bB3 cX5_wantedFrom 2 (some .int) ∈ W0 := xR (aEb (List.mem_of_getElem? (i := 141) rfl)) rfl
theorem q_450 : Cond.instanceMethod bB3 ∈ W0 := xR (aEb (List.mem_of_getElem? (i := 139) rfl)) rfl
theorem q_451 : Cond.selects RX5 bB3 bB3 ∈ W0 := xR (aEb (List.mem_of_getElem? (i := 140) rfl)) rfl
theorem q_452 : Cond.methodLink RX9 268 bB3 ∈ W0 := xR (aEb (List.mem_of_getElem? (i := 138) rfl)) rfl
theorem q_453 : Cond.code yX3_leanNeeded aHi 4 (some .int) ∈ W0 := xR (aEb (List.mem_of_getElem? (i := 149) rfl)) rfl
theorem q_454 : Cond.instanceMethod yX3_leanNeeded ∈ W0 := xR (aEb (List.mem_of_getElem? (i := 147) rfl)) rfl
theorem q_455 : Cond.selects RX3 yX3_leanNeeded yX3_leanNeeded ∈ W0 := xR (aEb (List.mem_of_getElem? (i := 148) rfl)) rfl
theorem q_456 : Cond.methodLink RX9 271 yX3_leanNeeded ∈ W0 := xR (aEb (List.mem_of_getElem? (i := 146) rfl)) rfl
theorem q_457 : Cond.methodLink RX5 94 aPX ∈ W0 := xR (aEb (List.mem_of_getElem? (i := 162) rfl)) rfl
theorem q_458 : Cond.code yX5_isEarlier aHv 4 (some .boolean) ∈ W0 := xR (aEb (List.mem_of_getElem? (i := 161) rfl)) rfl
theorem q_459 : Cond.static yX5_isEarlier ∈ W0 := xR (aEb (List.mem_of_getElem? (i := 160) rfl)) rfl
theorem q_460 : Cond.methodLink RX5 90 yX5_isEarlier ∈ W0 := xR (aEb (List.mem_of_getElem? (i := 159) rfl)) rfl
theorem q_461 : Cond.fieldLink RX9 374 "WhereTheLadder$Row" "size" "I" ∈ W0 := xR (aFb (List.mem_of_getElem? (i := 71) rfl)) rfl
theorem q_462 : Cond.fieldLink RX9 274 "WhereTheLadder$Plan" "wanted" "I" ∈ W0 := xR (aFb (List.mem_of_getElem? (i := 8) rfl)) rfl
theorem q_463 : Cond.methodLink RX9 277 aUc ∈ W0 := xR (aEb (List.mem_of_getElem? (i := 154) rfl)) rfl
theorem q_464 : Cond.code aYI aDa 5 (some .int) ∈ W0 := xR (aEb (List.mem_of_getElem? (i := 158) rfl)) rfl
theorem q_465 : Cond.instanceMethod aYI ∈ W0 := xR (aEb (List.mem_of_getElem? (i := 156) rfl)) rfl
theorem q_466 : Cond.selects RX5 aYI aYI ∈ W0 := xR (aEb (List.mem_of_getElem? (i := 157) rfl)) rfl
theorem q_467 : Cond.methodLink RX9 280 aYI ∈ W0 := xR (aEb (List.mem_of_getElem? (i := 155) rfl)) rfl
theorem q_468 : Cond.code aZK aF2 3 (some .int) ∈ W0 := xR (aEb (List.mem_of_getElem? (i := 166) rfl)) rfl
theorem q_469 : Cond.instanceMethod aZK ∈ W0 := xR (aEb (List.mem_of_getElem? (i := 165) rfl)) rfl
theorem q_470 : Cond.selects RX9 aZK aZK ∈ W0 := xR (aIZ (q := (aZK, 9)) (List.mem_of_getElem? (i := 7) rfl)) rfl
theorem q_471 : Cond.methodLink RX9 283 aZK ∈ W0 := xR (aEb (List.mem_of_getElem? (i := 163) rfl)) rfl
theorem q_472 : Cond.methodLink RX9 286 yX5_reachedBy ∈ W0 := xR (aEb (List.mem_of_getElem? (i := 171) rfl)) rfl
theorem q_473 : Cond.methodLink RX5 87 yX0_worthOf ∈ W0 := xR (aEb (List.mem_of_getElem? (i := 180) rfl)) rfl
theorem q_474 : Cond.methodLink RX9 292 aPX ∈ W0 := xR (aEb (List.mem_of_getElem? (i := 181) rfl)) rfl
theorem q_475 : Cond.code yX5_worthLeft aXv 2 (some .int) ∈ W0 := xR (aEb (List.mem_of_getElem? (i := 179) rfl)) rfl
theorem q_476 : Cond.instanceMethod yX5_worthLeft ∈ W0 := xR (aEb (List.mem_of_getElem? (i := 177) rfl)) rfl
theorem q_477 : Cond.selects RX5 yX5_worthLeft yX5_worthLeft ∈ W0 := xR (aEb (List.mem_of_getElem? (i := 178) rfl)) rfl
theorem q_478 : Cond.methodLink RX9 289 yX5_worthLeft ∈ W0 := xR (aEb (List.mem_of_getElem? (i := 176) rfl)) rfl
theorem q_479 : Cond.code yX9_isFewer aSU 3 (some .boolean) ∈ W0 := xR (aEb (List.mem_of_getElem? (i := 184) rfl)) rfl
theorem q_480 : Cond.static yX9_isFewer ∈ W0 := xR (aEb (List.mem_of_getElem? (i := 183) rfl)) rfl
theorem q_481 : Cond.methodLink RX9 297 yX9_isFewer ∈ W0 := xR (aEb (List.mem_of_getElem? (i := 182) rfl)) rfl
theorem q_482 : Cond.methodLink RX3 40 aUc ∈ W0 := xR (aEb (List.mem_of_getElem? (i := 193) rfl)) rfl
theorem q_483 : Cond.code aZh aRY 2 (some .boolean) ∈ W0 := xR (aEb (List.mem_of_getElem? (i := 192) rfl)) rfl
theorem q_484 : Cond.instanceMethod aZh ∈ W0 := xR (aEb (List.mem_of_getElem? (i := 190) rfl)) rfl
theorem q_485 : Cond.selects RX3 aZh aZh ∈ W0 := xR (aEb (List.mem_of_getElem? (i := 191) rfl)) rfl
theorem q_486 : Cond.methodLink RX9 301 aZh ∈ W0 := xR (aEb (List.mem_of_getElem? (i := 189) rfl)) rfl
theorem q_487 : Cond.methodLink RX3 108 aPX ∈ W0 := xR (aEb (List.mem_of_getElem? (i := 206) rfl)) rfl
theorem q_488 : Cond.methodLink RX3 113 aXQ ∈ W0 := xR (aEb (List.mem_of_getElem? (i := 211) rfl)) rfl
theorem q_489 : Cond.code aZJ aBz 7 (some .int) ∈ W0 := xR (aEb (List.mem_of_getElem? (i := 205) rfl)) rfl
theorem q_490 : Cond.instanceMethod aZJ ∈ W0 := xR (aEb (List.mem_of_getElem? (i := 203) rfl)) rfl
theorem q_491 : Cond.selects RX3 aZJ aZJ ∈ W0 := xR (aEb (List.mem_of_getElem? (i := 204) rfl)) rfl
theorem q_492 : Cond.methodLink RX3 116 aZJ ∈ W0 := xR (aEb (List.mem_of_getElem? (i := 212) rfl)) rfl
theorem q_493 : Cond.code aVA aIV 2 (some .int) ∈ W0 := xR (aEb (List.mem_of_getElem? (i := 201) rfl)) rfl
theorem q_494 : Cond.instanceMethod aVA ∈ W0 := xR (aEb (List.mem_of_getElem? (i := 199) rfl)) rfl
theorem q_495 : Cond.selects RX0 aVA aVA ∈ W0 := xR (aEb (List.mem_of_getElem? (i := 200) rfl)) rfl
theorem q_496 : Cond.methodLink RX9 305 aVA ∈ W0 := xR (aEb (List.mem_of_getElem? (i := 198) rfl)) rfl
theorem q_497 : Cond.fieldLink RX9 308 "WhereTheLadder$Moment" "ladder" "I" ∈ W0 := xR (aFj (List.mem_of_getElem? (i := 141) rfl)) rfl
theorem q_498 : Cond.methodLink RX9 311 aZJ ∈ W0 := xR (aEb (List.mem_of_getElem? (i := 202) rfl)) rfl
theorem q_499 : Cond.code yX3_firstOfWay aEB 5 (some .int) ∈ W0 := xR (aEb (List.mem_of_getElem? (i := 210) rfl)) rfl
theorem q_500 : Cond.instanceMethod yX3_firstOfWay ∈ W0 := xR (aEb (List.mem_of_getElem? (i := 208) rfl)) rfl
theorem q_501 : Cond.selects RX3 yX3_firstOfWay yX3_firstOfWay ∈ W0 := xR (aEb (List.mem_of_getElem? (i := 209) rfl)) rfl
theorem q_502 : Cond.methodLink RX9 314 yX3_firstOfWay ∈ W0 := xR (aEb (List.mem_of_getElem? (i := 207) rfl)) rfl
theorem q_503 : Cond.methodLink RX9 320 aXQ ∈ W0 := xR (aEb (List.mem_of_getElem? (i := 213) rfl)) rfl
theorem q_504 : Cond.fieldLink RX5 97 "WhereTheLadder$Orchard" "fruits" "I" ∈ W0 := xR (aFj (List.mem_of_getElem? (i := 88) rfl)) rfl
theorem q_505 : Cond.methodLink RX5 100 bB3 ∈ W0 := xR (aEb (List.mem_of_getElem? (i := 222) rfl)) rfl
theorem q_506 : Cond.fieldLink RX5 29 "WhereTheLadder$Plan" "seconds" "[I" ∈ W0 := xR (aFb (List.mem_of_getElem? (i := 3) rfl)) rfl
theorem q_507 : Cond.methodLink RX5 103 aXO ∈ W0 := xR (aEb (List.mem_of_getElem? (i := 223) rfl)) rfl
theorem q_508 : Cond.methodLink RX3 105 aXP ∈ W0 := xR (aEb (List.mem_of_getElem? (i := 236) rfl)) rfl
theorem q_509 : Cond.fieldLink RX5 107 "WhereTheLadder$Plan" "picking" "I" ∈ W0 := xR (aFb (List.mem_of_getElem? (i := 11) rfl)) rfl
theorem q_510 : Cond.fieldLink RX5 113 "WhereTheLadder$Plan" "downs" "I" ∈ W0 := xR (aFb (List.mem_of_getElem? (i := 13) rfl)) rfl
theorem q_511 : Cond.fieldLink RX5 119 "WhereTheLadder$Moment" "ladder" "I" ∈ W0 := xR (aFj (List.mem_of_getElem? (i := 140) rfl)) rfl
theorem q_512 : Cond.methodLink RX5 122 aVA ∈ W0 := xR (aEb (List.mem_of_getElem? (i := 237) rfl)) rfl
theorem q_513 : Cond.methodLink RX5 125 aZJ ∈ W0 := xR (aEb (List.mem_of_getElem? (i := 238) rfl)) rfl
theorem q_514 : Cond.fieldLink RX5 128 "WhereTheLadder$Plan" "moves" "I" ∈ W0 := xR (aFb (List.mem_of_getElem? (i := 9) rfl)) rfl
theorem q_515 : Cond.fieldLink RX5 32 "WhereTheLadder$Plan" "many" "[I" ∈ W0 := xR (aFb (List.mem_of_getElem? (i := 4) rfl)) rfl
theorem q_516 : Cond.code aXr aH7 4 (some .int) ∈ W0 := xR (aEb (List.mem_of_getElem? (i := 235) rfl)) rfl
theorem q_517 : Cond.instanceMethod aXr ∈ W0 := xR (aEb (List.mem_of_getElem? (i := 233) rfl)) rfl
theorem q_518 : Cond.selects RX3 aXr aXr ∈ W0 := xR (aEb (List.mem_of_getElem? (i := 234) rfl)) rfl
theorem q_519 : Cond.methodLink RX5 116 aXr ∈ W0 := xR (aEb (List.mem_of_getElem? (i := 232) rfl)) rfl
theorem q_520 : Cond.code yX5_quickest aDW 7 (some .int) ∈ W0 := xR (aEb (List.mem_of_getElem? (i := 231) rfl)) rfl
theorem q_521 : Cond.instanceMethod yX5_quickest ∈ W0 := xR (aEb (List.mem_of_getElem? (i := 229) rfl)) rfl
theorem q_522 : Cond.selects RX5 yX5_quickest yX5_quickest ∈ W0 := xR (aEb (List.mem_of_getElem? (i := 230) rfl)) rfl
theorem q_523 : Cond.methodLink RX5 110 yX5_quickest ∈ W0 := xR (aEb (List.mem_of_getElem? (i := 228) rfl)) rfl
theorem q_524 : Cond.code yX5_timeAll aEv 3 none ∈ W0 := xR (aEb (List.mem_of_getElem? (i := 221) rfl)) rfl
theorem q_525 : Cond.instanceMethod yX5_timeAll ∈ W0 := xR (aEb (List.mem_of_getElem? (i := 219) rfl)) rfl
theorem q_526 : Cond.selects RX5 yX5_timeAll yX5_timeAll ∈ W0 := xR (aEb (List.mem_of_getElem? (i := 220) rfl)) rfl
theorem q_527 : Cond.methodLink RX9 323 yX5_timeAll ∈ W0 := xR (aEb (List.mem_of_getElem? (i := 218) rfl)) rfl
theorem q_528 : Cond.code bCP aA3 4 (some .int) ∈ W0 := xR (aEb (List.mem_of_getElem? (i := 227) rfl)) rfl
theorem q_529 : Cond.instanceMethod bCP ∈ W0 := xR (aEb (List.mem_of_getElem? (i := 225) rfl)) rfl
theorem q_530 : Cond.selects RX5 bCP bCP ∈ W0 := xR (aEb (List.mem_of_getElem? (i := 226) rfl)) rfl
theorem q_531 : Cond.methodLink RX9 326 bCP ∈ W0 := xR (aEb (List.mem_of_getElem? (i := 224) rfl)) rfl
theorem q_532 : Cond.fieldLink RX9 329 "WhereTheLadder$Plan" "moves" "I" ∈ W0 := xR (aFb (List.mem_of_getElem? (i := 10) rfl)) rfl
theorem q_533 : Cond.fieldLink RX9 332 "WhereTheLadder$Plan" "picking" "I" ∈ W0 := xR (aFb (List.mem_of_getElem? (i := 12) rfl)) rfl
theorem q_534 : Cond.fieldLink RX9 335 "WhereTheLadder$Plan" "downs" "I" ∈ W0 := xR (aFb (List.mem_of_getElem? (i := 14) rfl)) rfl
theorem q_535 : Cond.code yX9_tell__ cX9_tell__ 4 none ∈ W0 := xR (aGK (List.mem_of_getElem? (i := 2) rfl)) rfl
theorem q_536 : Cond.instanceMethod yX9_tell__ ∈ W0 := xR (aGK (List.mem_of_getElem? (i := 1) rfl)) rfl
theorem q_537 : Cond.selects RX9 yX9_tell__ yX9_tell__ ∈ W0 := xR (aIZ (q := (yX9_tell__, 9)) (List.mem_of_getElem? (i := 8) rfl)) rfl
theorem q_538 : Cond.methodLink RX9 338 yX9_tell__ ∈ W0 := xR (aEb (List.mem_of_getElem? (i := 239) rfl)) rfl
theorem q_539 : Cond.fieldLink RX9 341 "WhereTheLadder$Orchard" "fruits" "I" ∈ W0 := xR (aFj (List.mem_of_getElem? (i := 90) rfl)) rfl
theorem q_540 : Cond.methodLink RX9 344 aXr ∈ W0 := xR (aGK (List.mem_of_getElem? (i := 11) rfl)) rfl
theorem q_541 : Cond.fieldLink RX9 347 "WhereTheLadder$Moment" "apron" "I" ∈ W0 := xR (aFj (List.mem_of_getElem? (i := 128) rfl)) rfl
theorem q_542 : Cond.fieldLink RX9 350 "WhereTheLadder$Moment" "today" "I" ∈ W0 := xR (aFj (List.mem_of_getElem? (i := 149) rfl)) rfl
theorem q_543 : Cond.methodLink RX9 353 yX5_lookAs ∈ W0 := xR (aGK (List.mem_of_getElem? (i := 20) rfl)) rfl
theorem q_544 : Cond.methodLink RX9 356 yX3_ripeBy ∈ W0 := xR (aGK (List.mem_of_getElem? (i := 25) rfl)) rfl
theorem q_545 : Cond.fieldLink RX5 38 "WhereTheLadder$Plan" "best" "[I" ∈ W0 := xR (aFb (List.mem_of_getElem? (i := 6) rfl)) rfl
theorem q_546 : Cond.constant RX5 136 (-2147483648) ∈ W0 := xR (aGK (List.mem_of_getElem? (i := 43) rfl)) rfl
theorem q_547 : Cond.methodLink RX5 131 Lib.Math.min.name ∈ W0 := xR (aGK (List.mem_of_getElem? (i := 42) rfl)) rfl
theorem q_548 : Cond.methodLink RX5 137 bCN ∈ W0 := xR (aGK (List.mem_of_getElem? (i := 44) rfl)) rfl
theorem q_549 : Cond.methodLink RX5 140 Lib.Math.max.name ∈ W0 := xR (aGK (List.mem_of_getElem? (i := 45) rfl)) rfl
theorem q_550 : Cond.code yX5_addToDusk aFF 6 none ∈ W0 := xR (aGK (List.mem_of_getElem? (i := 49) rfl)) rfl
theorem q_551 : Cond.instanceMethod yX5_addToDusk ∈ W0 := xR (aGK (List.mem_of_getElem? (i := 47) rfl)) rfl
theorem q_552 : Cond.selects RX5 yX5_addToDusk yX5_addToDusk ∈ W0 := xR (aGK (List.mem_of_getElem? (i := 48) rfl)) rfl
theorem q_553 : Cond.methodLink RX5 143 yX5_addToDusk ∈ W0 := xR (aGK (List.mem_of_getElem? (i := 46) rfl)) rfl
theorem q_554 : Cond.constant RX5 147 65535 ∈ W0 := xR (aGK (List.mem_of_getElem? (i := 54) rfl)) rfl
theorem q_555 : Cond.code yX5_fillDusk aCS 7 none ∈ W0 := xR (aGK (List.mem_of_getElem? (i := 41) rfl)) rfl
theorem q_556 : Cond.instanceMethod yX5_fillDusk ∈ W0 := xR (aGK (List.mem_of_getElem? (i := 39) rfl)) rfl
theorem q_557 : Cond.selects RX5 yX5_fillDusk yX5_fillDusk ∈ W0 := xR (aGK (List.mem_of_getElem? (i := 40) rfl)) rfl
theorem q_558 : Cond.methodLink RX9 359 yX5_fillDusk ∈ W0 := xR (aGK (List.mem_of_getElem? (i := 38) rfl)) rfl
theorem q_559 : Cond.code yX5_duskWorth aOc 2 (some .int) ∈ W0 := xR (aGK (List.mem_of_getElem? (i := 53) rfl)) rfl
theorem q_560 : Cond.instanceMethod yX5_duskWorth ∈ W0 := xR (aGK (List.mem_of_getElem? (i := 51) rfl)) rfl
theorem q_561 : Cond.selects RX5 yX5_duskWorth yX5_duskWorth ∈ W0 := xR (aGK (List.mem_of_getElem? (i := 52) rfl)) rfl
theorem q_562 : Cond.methodLink RX9 362 yX5_duskWorth ∈ W0 := xR (aGK (List.mem_of_getElem? (i := 50) rfl)) rfl
theorem q_563 : Cond.code yX5_duskFruits aM8 2 (some .int) ∈ W0 := xR (aGK (List.mem_of_getElem? (i := 58) rfl)) rfl
theorem q_564 : Cond.instanceMethod yX5_duskFruits ∈ W0 := xR (aGK (List.mem_of_getElem? (i := 56) rfl)) rfl
theorem q_565 : Cond.selects RX5 yX5_duskFruits yX5_duskFruits ∈ W0 := xR (aGK (List.mem_of_getElem? (i := 57) rfl)) rfl
theorem q_566 : Cond.methodLink RX9 365 yX5_duskFruits ∈ W0 := xR (aGK (List.mem_of_getElem? (i := 55) rfl)) rfl
theorem q_567 : Cond.methodLink RX3 92 bCO ∈ W0 := xR (aGK (List.mem_of_getElem? (i := 68) rfl)) rfl
theorem q_568 : Cond.methodLink RX9 368 bCN ∈ W0 := xR (aGK (List.mem_of_getElem? (i := 63) rfl)) rfl
theorem q_569 : Cond.code aUB aEA 4 (some .int) ∈ W0 := xR (aGK (List.mem_of_getElem? (i := 67) rfl)) rfl
theorem q_570 : Cond.instanceMethod aUB ∈ W0 := xR (aGK (List.mem_of_getElem? (i := 65) rfl)) rfl
theorem q_571 : Cond.selects RX3 aUB aUB ∈ W0 := xR (aGK (List.mem_of_getElem? (i := 66) rfl)) rfl
theorem q_572 : Cond.methodLink RX9 371 aUB ∈ W0 := xR (aGK (List.mem_of_getElem? (i := 64) rfl)) rfl
theorem q_573 : Cond.methodLink RX9 377 yX3_worthOf ∈ W0 := xR (aGK (List.mem_of_getElem? (i := 74) rfl)) rfl
theorem q_574 : Cond.fieldLink RX5 35 "WhereTheLadder$Plan" "load" "[I" ∈ W0 := xR (aFb (List.mem_of_getElem? (i := 5) rfl)) rfl
theorem q_575 : Cond.code yX5_loadFirsts aB8 6 none ∈ W0 := xR (aGK (List.mem_of_getElem? (i := 82) rfl)) rfl
theorem q_576 : Cond.instanceMethod yX5_loadFirsts ∈ W0 := xR (aGK (List.mem_of_getElem? (i := 80) rfl)) rfl
theorem q_577 : Cond.selects RX5 yX5_loadFirsts yX5_loadFirsts ∈ W0 := xR (aGK (List.mem_of_getElem? (i := 81) rfl)) rfl
theorem q_578 : Cond.methodLink RX9 379 yX5_loadFirsts ∈ W0 := xR (aGK (List.mem_of_getElem? (i := 79) rfl)) rfl
theorem q_579 : Cond.code yX5_loadOf aKX 4 (some .int) ∈ W0 := xR (aGK (List.mem_of_getElem? (i := 86) rfl)) rfl
theorem q_580 : Cond.instanceMethod yX5_loadOf ∈ W0 := xR (aGK (List.mem_of_getElem? (i := 84) rfl)) rfl
theorem q_581 : Cond.selects RX5 yX5_loadOf yX5_loadOf ∈ W0 := xR (aGK (List.mem_of_getElem? (i := 85) rfl)) rfl
theorem q_582 : Cond.methodLink RX9 382 yX5_loadOf ∈ W0 := xR (aGK (List.mem_of_getElem? (i := 83) rfl)) rfl
theorem q_583 : Cond.methodLink RX9 385 Lib.Math.max.name ∈ W0 := xR (aGK (List.mem_of_getElem? (i := 87) rfl)) rfl
theorem q_584 : Cond.code yX0_ripeFirst aHu 3 (some .int) ∈ W0 := xR (aGK (List.mem_of_getElem? (i := 95) rfl)) rfl
theorem q_585 : Cond.instanceMethod yX0_ripeFirst ∈ W0 := xR (aGK (List.mem_of_getElem? (i := 93) rfl)) rfl
theorem q_586 : Cond.selects RX0 yX0_ripeFirst yX0_ripeFirst ∈ W0 := xR (aGK (List.mem_of_getElem? (i := 94) rfl)) rfl
theorem q_587 : Cond.methodLink RX9 390 yX0_ripeFirst ∈ W0 := xR (aGK (List.mem_of_getElem? (i := 92) rfl)) rfl
theorem q_588 : Cond.code aZI aFE 5 (some .int) ∈ W0 := xR (aGK (List.mem_of_getElem? (i := 111) rfl)) rfl
theorem q_589 : Cond.instanceMethod aZI ∈ W0 := xR (aGK (List.mem_of_getElem? (i := 109) rfl)) rfl
theorem q_590 : Cond.selects RX3 aZI aZI ∈ W0 := xR (aGK (List.mem_of_getElem? (i := 110) rfl)) rfl
theorem q_591 : Cond.methodLink RX9 393 aZI ∈ W0 := xR (aGK (List.mem_of_getElem? (i := 108) rfl)) rfl
theorem q_592 : Cond.fieldLink RX1 18 "WhereTheLadder$Marks" "many" "I" ∈ W0 := xR (aFb (List.mem_of_getElem? (i := 85) rfl)) rfl
theorem q_593 : Cond.methodLink RX1 22 aXs ∈ W0 := xR (aGK (List.mem_of_getElem? (i := 120) rfl)) rfl
theorem q_594 : Cond.fieldLink RX1 9 "WhereTheLadder$Marks" "at" "[I" ∈ W0 := xR (aFb (List.mem_of_getElem? (i := 83) rfl)) rfl
theorem q_595 : Cond.methodLink RX1 28 yX8_take ∈ W0 := xR (aGK (List.mem_of_getElem? (i := 121) rfl)) rfl
theorem q_596 : Cond.methodLink RX1 32 bCQ ∈ W0 := xR (aGK (List.mem_of_getElem? (i := 122) rfl)) rfl
theorem q_597 : Cond.methodLink RX1 36 aZI ∈ W0 := xR (aGK (List.mem_of_getElem? (i := 127) rfl)) rfl
theorem q_598 : Cond.fieldLink RX1 15 "WhereTheLadder$Marks" "rows" "[I" ∈ W0 := xR (aFb (List.mem_of_getElem? (i := 84) rfl)) rfl
theorem q_599 : Cond.fieldLink RX9 57 "WhereTheLadder" "grassMarks" "LWhereTheLadder$Marks;" ∈ W0 := xR (aFb (List.mem_of_getElem? (i := 101) rfl)) rfl
theorem q_600 : Cond.fieldLink RX9 412 "WhereTheLadder$Marks" "many" "I" ∈ W0 := xR (aFb (List.mem_of_getElem? (i := 86) rfl)) rfl
theorem q_601 : Cond.code yX1_firstFor aIo 4 (some .int) ∈ W0 := xR (aGK (List.mem_of_getElem? (i := 135) rfl)) rfl
theorem q_602 : Cond.initialized RX1 ∈ W0 := xR (aFj (List.mem_of_getElem? (i := 11) rfl)) rfl
theorem q_603 : Cond.instanceMethod yX1_firstFor ∈ W0 := xR (aGK (List.mem_of_getElem? (i := 133) rfl)) rfl
theorem q_604 : Cond.selects RX1 yX1_firstFor yX1_firstFor ∈ W0 := xR (aGK (List.mem_of_getElem? (i := 134) rfl)) rfl
theorem q_605 : Cond.methodLink RX9 415 yX1_firstFor ∈ W0 := xR (aGK (List.mem_of_getElem? (i := 132) rfl)) rfl
theorem q_606 : Cond.code yX1_readAll aE3 3 (some .boolean) ∈ W0 := xR (aGK (List.mem_of_getElem? (i := 119) rfl)) rfl
theorem q_607 : Cond.instanceMethod yX1_readAll ∈ W0 := xR (aGK (List.mem_of_getElem? (i := 117) rfl)) rfl
theorem q_608 : Cond.selects RX1 yX1_readAll yX1_readAll ∈ W0 := xR (aGK (List.mem_of_getElem? (i := 118) rfl)) rfl
theorem q_609 : Cond.methodLink RX9 396 yX1_readAll ∈ W0 := xR (aGK (List.mem_of_getElem? (i := 116) rfl)) rfl
theorem q_610 : Cond.code yX1_countRows aCC 9 (some .int) ∈ W0 := xR (aGK (List.mem_of_getElem? (i := 126) rfl)) rfl
theorem q_611 : Cond.instanceMethod yX1_countRows ∈ W0 := xR (aGK (List.mem_of_getElem? (i := 124) rfl)) rfl
theorem q_612 : Cond.selects RX1 yX1_countRows yX1_countRows ∈ W0 := xR (aGK (List.mem_of_getElem? (i := 125) rfl)) rfl
theorem q_613 : Cond.methodLink RX9 399 yX1_countRows ∈ W0 := xR (aGK (List.mem_of_getElem? (i := 123) rfl)) rfl
theorem q_614 : Cond.code aR7 aDm 4 none ∈ W0 := xR (aGK (List.mem_of_getElem? (i := 131) rfl)) rfl
theorem q_615 : Cond.instanceMethod aR7 ∈ W0 := xR (aGK (List.mem_of_getElem? (i := 130) rfl)) rfl
theorem q_616 : Cond.selects RX9 aR7 aR7 ∈ W0 := xR (aIZ (q := (aR7, 9)) (List.mem_of_getElem? (i := 9) rfl)) rfl
theorem q_617 : Cond.methodLink RX9 403 aR7 ∈ W0 := xR (aGK (List.mem_of_getElem? (i := 128) rfl)) rfl
theorem q_618 : Cond.methodLink RX9 406 yX3_allFruits ∈ W0 := xR (aGK (List.mem_of_getElem? (i := 140) rfl)) rfl
theorem q_619 : Cond.code yX5_isFitting aEg 4 (some .boolean) ∈ W0 := xR (aGK (List.mem_of_getElem? (i := 144) rfl)) rfl
theorem q_620 : Cond.instanceMethod yX5_isFitting ∈ W0 := xR (aGK (List.mem_of_getElem? (i := 142) rfl)) rfl
theorem q_621 : Cond.selects RX5 yX5_isFitting yX5_isFitting ∈ W0 := xR (aGK (List.mem_of_getElem? (i := 143) rfl)) rfl
theorem q_622 : Cond.methodLink RX9 409 yX5_isFitting ∈ W0 := xR (aGK (List.mem_of_getElem? (i := 141) rfl)) rfl
theorem q_623 : Cond.methodLink RX9 418 Lib.Math.min.name ∈ W0 := xR (aGK (List.mem_of_getElem? (i := 153) rfl)) rfl
theorem q_624 : Cond.constant RX9 421 1103515245 ∈ W0 := xR (aGK (List.mem_of_getElem? (i := 154) rfl)) rfl
theorem q_625 : Cond.fieldLink RX4 15 "WhereTheLadder$Past" "keptCells" "[I" ∈ W0 := xR (aFb (List.mem_of_getElem? (i := 45) rfl)) rfl
theorem q_626 : Cond.code yX4_store aXW 3 (some .boolean) ∈ W0 := xR (aGK (List.mem_of_getElem? (i := 162) rfl)) rfl
theorem q_627 : Cond.instanceMethod yX4_store ∈ W0 := xR (aGK (List.mem_of_getElem? (i := 160) rfl)) rfl
theorem q_628 : Cond.selects RX4 yX4_store yX4_store ∈ W0 := xR (aGK (List.mem_of_getElem? (i := 161) rfl)) rfl
theorem q_629 : Cond.methodLink RX9 422 yX4_store ∈ W0 := xR (aGK (List.mem_of_getElem? (i := 159) rfl)) rfl
theorem q_630 : Cond.code yX4_fetch aST 3 (some .boolean) ∈ W0 := xR (aGK (List.mem_of_getElem? (i := 170) rfl)) rfl
theorem q_631 : Cond.instanceMethod yX4_fetch ∈ W0 := xR (aGK (List.mem_of_getElem? (i := 168) rfl)) rfl
theorem q_632 : Cond.selects RX4 yX4_fetch yX4_fetch ∈ W0 := xR (aGK (List.mem_of_getElem? (i := 169) rfl)) rfl
theorem q_633 : Cond.methodLink RX9 426 yX4_fetch ∈ W0 := xR (aGK (List.mem_of_getElem? (i := 167) rfl)) rfl
theorem q_634 : Cond.fieldLink RX9 429 "WhereTheLadder$Moment" "clock" "I" ∈ W0 := xR (aFj (List.mem_of_getElem? (i := 152) rfl)) rfl
theorem q_635 : Cond.fieldLink RX9 432 "WhereTheLadder$Moment" "basket" "I" ∈ W0 := xR (aFj (List.mem_of_getElem? (i := 131) rfl)) rfl
theorem q_636 : Cond.fieldLink RX9 435 "WhereTheLadder$Moment" "ground" "I" ∈ W0 := xR (aFj (List.mem_of_getElem? (i := 134) rfl)) rfl
theorem q_637 : Cond.fieldLink RX9 438 "WhereTheLadder$Row" "numbers" "[I" ∈ W0 := xR (aFb (List.mem_of_getElem? (i := 69) rfl)) rfl
theorem q_638 : Cond.fieldLink zX 87 "WhereTheLadderModel" "thrown" "I" ∈ W0 := xR (aGl (List.mem_of_getElem? (i := 43) rfl)) rfl
theorem q_639 : Cond.fieldLink zX 104 "WhereTheLadderModel" "typed" "I" ∈ W0 := xR (aGl (List.mem_of_getElem? (i := 40) rfl)) rfl
theorem q_640 : Cond.fieldLink zX 34 "WhereTheLadderModel" "text" "[B" ∈ W0 := xR (aGl (List.mem_of_getElem? (i := 39) rfl)) rfl
theorem q_641 : Cond.code yX10_in cX10_in 3 (some .boolean) ∈ W0 := xR (aGl (List.mem_of_getElem? (i := 193) rfl)) rfl
theorem aBL : Cond.initialized zX ∈ W0 := xR (aFj (List.mem_of_getElem? (i := 12) rfl)) rfl
theorem q_643 : Cond.static yX10_in ∈ W0 := xR (aGl (List.mem_of_getElem? (i := 192) rfl)) rfl
theorem q_644 : Cond.methodLink zX 97 yX10_in ∈ W0 := xR (aGl (List.mem_of_getElem? (i := 191) rfl)) rfl
theorem q_645 : Cond.fieldLink zX 107 "WhereTheLadderModel" "read" "[B" ∈ W0 := xR (aGl (List.mem_of_getElem? (i := 44) rfl)) rfl
theorem q_646 : Cond.fieldLink zX 110 "WhereTheLadderModel" "length" "I" ∈ W0 := xR (aGl (List.mem_of_getElem? (i := 45) rfl)) rfl
theorem q_647 : Cond.fieldLink zX 113 "WhereTheLadderModel" "top" "I" ∈ W0 := xR (aGl (List.mem_of_getElem? (i := 46) rfl)) rfl
theorem q_648 : Cond.fieldLink zX 116 "WhereTheLadderModel" "at" "I" ∈ W0 := xR (aGl (List.mem_of_getElem? (i := 47) rfl)) rfl
theorem q_649 : Cond.fieldLink zX 119 "WhereTheLadderModel" "wrong" "I" ∈ W0 := xR (aGl (List.mem_of_getElem? (i := 48) rfl)) rfl
theorem q_650 : Cond.code yX10_fine cX10_fine 1 (some .boolean) ∈ W0 := xR (aGl (List.mem_of_getElem? (i := 205) rfl)) rfl
theorem q_651 : Cond.instanceMethod yX10_fine ∈ W0 := xR (aGl (List.mem_of_getElem? (i := 204) rfl)) rfl
theorem q_652 : Cond.selects zX yX10_fine yX10_fine ∈ W0 := xR (aIZ (q := (yX10_fine, 51)) (List.mem_of_getElem? (i := 12) rfl)) rfl
theorem q_653 : Cond.methodLink zX 122 yX10_fine ∈ W0 := xR (aGl (List.mem_of_getElem? (i := 202) rfl)) rfl
theorem q_654 : Cond.code yX10_fault cX10_fault 2 none ∈ W0 := xR (aGl (List.mem_of_getElem? (i := 221) rfl)) rfl
theorem q_655 : Cond.instanceMethod yX10_fault ∈ W0 := xR (aGl (List.mem_of_getElem? (i := 220) rfl)) rfl
theorem q_656 : Cond.selects zX yX10_fault yX10_fault ∈ W0 := xR (aIZ (q := (yX10_fault, 51)) (List.mem_of_getElem? (i := 16) rfl)) rfl
theorem q_657 : Cond.methodLink zX 134 yX10_fault ∈ W0 := xR (aGl (List.mem_of_getElem? (i := 218) rfl)) rfl
theorem q_658 : Cond.code yX10_here aYR 1 (some .int) ∈ W0 := xR (aGl (List.mem_of_getElem? (i := 213) rfl)) rfl
theorem q_659 : Cond.instanceMethod yX10_here ∈ W0 := xR (aGl (List.mem_of_getElem? (i := 212) rfl)) rfl
theorem q_660 : Cond.selects zX yX10_here yX10_here ∈ W0 := xR (aIZ (q := (yX10_here, 51)) (List.mem_of_getElem? (i := 14) rfl)) rfl
theorem q_661 : Cond.methodLink zX 126 yX10_here ∈ W0 := xR (aGl (List.mem_of_getElem? (i := 210) rfl)) rfl
theorem q_662 : Cond.code yX10_passes aUj 2 (some .boolean) ∈ W0 := xR (aGl (List.mem_of_getElem? (i := 229) rfl)) rfl
theorem q_663 : Cond.instanceMethod yX10_passes ∈ W0 := xR (aGl (List.mem_of_getElem? (i := 228) rfl)) rfl
theorem q_664 : Cond.selects zX yX10_passes yX10_passes ∈ W0 := xR (aIZ (q := (yX10_passes, 51)) (List.mem_of_getElem? (i := 18) rfl)) rfl
theorem q_665 : Cond.methodLink zX 130 yX10_passes ∈ W0 := xR (aGl (List.mem_of_getElem? (i := 226) rfl)) rfl
theorem q_666 : Cond.fieldLink zX 101 "WhereTheLadderModel" "standings" "I" ∈ W0 := xR (aGl (List.mem_of_getElem? (i := 35) rfl)) rfl
theorem q_667 : Cond.fieldLink zX 149 "WhereTheLadderModel" "newStandingMany" "I" ∈ W0 := xR (aGl (List.mem_of_getElem? (i := 52) rfl)) rfl
theorem q_668 : Cond.fieldLink zX 44 "WhereTheLadderModel" "newStandings" "[I" ∈ W0 := xR (aGl (List.mem_of_getElem? (i := 50) rfl)) rfl
theorem q_669 : Cond.code yX10_number aEF 4 (some .int) ∈ W0 := xR (aGl (List.mem_of_getElem? (i := 217) rfl)) rfl
theorem q_670 : Cond.instanceMethod yX10_number ∈ W0 := xR (aGl (List.mem_of_getElem? (i := 216) rfl)) rfl
theorem q_671 : Cond.selects zX yX10_number yX10_number ∈ W0 := xR (aIZ (q := (yX10_number, 51)) (List.mem_of_getElem? (i := 15) rfl)) rfl
theorem q_672 : Cond.methodLink zX 141 yX10_number ∈ W0 := xR (aGl (List.mem_of_getElem? (i := 214) rfl)) rfl
theorem q_673 : Cond.code yX10_need cX10_need 2 none ∈ W0 := xR (aGl (List.mem_of_getElem? (i := 225) rfl)) rfl
theorem q_674 : Cond.instanceMethod yX10_need ∈ W0 := xR (aGl (List.mem_of_getElem? (i := 224) rfl)) rfl
theorem q_675 : Cond.selects zX yX10_need yX10_need ∈ W0 := xR (aIZ (q := (yX10_need, 51)) (List.mem_of_getElem? (i := 17) rfl)) rfl
theorem q_676 : Cond.methodLink zX 145 yX10_need ∈ W0 := xR (aGl (List.mem_of_getElem? (i := 222) rfl)) rfl
theorem q_677 : Cond.fieldLink zX 94 "WhereTheLadderModel" "fruits" "I" ∈ W0 := xR (aGl (List.mem_of_getElem? (i := 30) rfl)) rfl
theorem q_678 : Cond.fieldLink zX 138 "WhereTheLadderModel" "newFruitMany" "I" ∈ W0 := xR (aGl (List.mem_of_getElem? (i := 51) rfl)) rfl
theorem q_679 : Cond.fieldLink zX 41 "WhereTheLadderModel" "newFruits" "[I" ∈ W0 := xR (aGl (List.mem_of_getElem? (i := 49) rfl)) rfl
theorem q_680 : Cond.code yX10_begin aYS 4 none ∈ W0 := xR (aGl (List.mem_of_getElem? (i := 201) rfl)) rfl
theorem q_681 : Cond.instanceMethod yX10_begin ∈ W0 := xR (aGl (List.mem_of_getElem? (i := 200) rfl)) rfl
theorem q_682 : Cond.selects zX yX10_begin yX10_begin ∈ W0 := xR (aIZ (q := (yX10_begin, 51)) (List.mem_of_getElem? (i := 11) rfl)) rfl
theorem q_683 : Cond.methodLink zX 152 yX10_begin ∈ W0 := xR (aGl (List.mem_of_getElem? (i := 198) rfl)) rfl
theorem q_684 : Cond.fieldLink zX 159 "WhereTheLadderModel" "undoMany" "I" ∈ W0 := xR (aGl (List.mem_of_getElem? (i := 61) rfl)) rfl
theorem q_685 : Cond.fieldLink zX 162 "WhereTheLadderModel" "came" "I" ∈ W0 := xR (aGl (List.mem_of_getElem? (i := 76) rfl)) rfl
theorem q_686 : Cond.fieldLink zX 25 "WhereTheLadderModel" "foot" "[I" ∈ W0 := xR (aGl (List.mem_of_getElem? (i := 36) rfl)) rfl
theorem q_687 : Cond.fieldLink zX 28 "WhereTheLadderModel" "fork" "[I" ∈ W0 := xR (aGl (List.mem_of_getElem? (i := 37) rfl)) rfl
theorem q_688 : Cond.fieldLink zX 13 "WhereTheLadderModel" "x" "[I" ∈ W0 := xR (aGl (List.mem_of_getElem? (i := 31) rfl)) rfl
theorem q_689 : Cond.fieldLink zX 16 "WhereTheLadderModel" "height" "[I" ∈ W0 := xR (aGl (List.mem_of_getElem? (i := 32) rfl)) rfl
theorem q_690 : Cond.fieldLink zX 19 "WhereTheLadderModel" "worth" "[I" ∈ W0 := xR (aGl (List.mem_of_getElem? (i := 33) rfl)) rfl
theorem q_691 : Cond.fieldLink zX 22 "WhereTheLadderModel" "ripe" "[I" ∈ W0 := xR (aGl (List.mem_of_getElem? (i := 34) rfl)) rfl
theorem aHO : Cond.fieldLink zX 9 "WhereTheLadderModel" "now" "[I" ∈ W0 := xR (aGl (List.mem_of_getElem? (i := 29) rfl)) rfl
theorem q_693 : Cond.code yX10_readLine aA7 2 none ∈ W0 := xR (aGl (List.mem_of_getElem? (i := 209) rfl)) rfl
theorem q_694 : Cond.instanceMethod yX10_readLine ∈ W0 := xR (aGl (List.mem_of_getElem? (i := 208) rfl)) rfl
theorem q_695 : Cond.selects zX yX10_readLine yX10_readLine ∈ W0 := xR (aIZ (q := (yX10_readLine, 51)) (List.mem_of_getElem? (i := 13) rfl)) rfl
theorem q_696 : Cond.methodLink zX 156 yX10_readLine ∈ W0 := xR (aGl (List.mem_of_getElem? (i := 206) rfl)) rfl
theorem q_697 : Cond.methodLink zX 211 Lib.Math.max.name ∈ W0 := xR (aFp (List.mem_of_getElem? (i := 23) rfl)) rfl
theorem q_698 : Cond.methodLink zX 206 Lib.Math.abs.name ∈ W0 := xR (aFp (List.mem_of_getElem? (i := 18) rfl)) rfl
theorem q_699 : Cond.fieldLink zX 184 "WhereTheLadderModel" "askedFruit" "I" ∈ W0 := xR (aGl (List.mem_of_getElem? (i := 56) rfl)) rfl
theorem q_700 : Cond.fieldLink zX 187 "WhereTheLadderModel" "askedStanding" "I" ∈ W0 := xR (aGl (List.mem_of_getElem? (i := 57) rfl)) rfl
theorem q_701 : Cond.code yX10_far cX10_far 3 (some .int) ∈ W0 := xR (aFp (List.mem_of_getElem? (i := 17) rfl)) rfl
theorem q_702 : Cond.instanceMethod yX10_far ∈ W0 := xR (aFp (List.mem_of_getElem? (i := 16) rfl)) rfl
theorem q_703 : Cond.selects zX yX10_far yX10_far ∈ W0 := xR (aIZ (q := (yX10_far, 51)) (List.mem_of_getElem? (i := 24) rfl)) rfl
theorem q_704 : Cond.methodLink zX 190 yX10_far ∈ W0 := xR (aFp (List.mem_of_getElem? (i := 14) rfl)) rfl
theorem q_705 : Cond.fieldLink zX 197 "WhereTheLadderModel" "askedApron" "I" ∈ W0 := xR (aGl (List.mem_of_getElem? (i := 59) rfl)) rfl
theorem q_706 : Cond.code yX10_above cX10_above 3 (some .int) ∈ W0 := xR (aFp (List.mem_of_getElem? (i := 22) rfl)) rfl
theorem q_707 : Cond.instanceMethod yX10_above ∈ W0 := xR (aFp (List.mem_of_getElem? (i := 21) rfl)) rfl
theorem q_708 : Cond.selects zX yX10_above yX10_above ∈ W0 := xR (aIZ (q := (yX10_above, 51)) (List.mem_of_getElem? (i := 25) rfl)) rfl
theorem q_709 : Cond.methodLink zX 194 yX10_above ∈ W0 := xR (aFp (List.mem_of_getElem? (i := 19) rfl)) rfl
theorem q_710 : Cond.fieldLink zX 200 "WhereTheLadderModel" "askedHook" "I" ∈ W0 := xR (aGl (List.mem_of_getElem? (i := 58) rfl)) rfl
theorem q_711 : Cond.fieldLink zX 177 "WhereTheLadderModel" "isAsked" "Z" ∈ W0 := xR (aGl (List.mem_of_getElem? (i := 55) rfl)) rfl
theorem q_712 : Cond.code yX10_valueOf aFv 2 (some .int) ∈ W0 := xR (aFp (List.mem_of_getElem? (i := 13) rfl)) rfl
theorem q_713 : Cond.instanceMethod yX10_valueOf ∈ W0 := xR (aFp (List.mem_of_getElem? (i := 12) rfl)) rfl
theorem q_714 : Cond.selects zX yX10_valueOf yX10_valueOf ∈ W0 := xR (aIZ (q := (yX10_valueOf, 51)) (List.mem_of_getElem? (i := 23) rfl)) rfl
theorem q_715 : Cond.methodLink zX 181 yX10_valueOf ∈ W0 := xR (aFp (List.mem_of_getElem? (i := 10) rfl)) rfl
theorem q_716 : Cond.code yX10_held aGx 3 (some .int) ∈ W0 := xR (aGl (List.mem_of_getElem? (i := 237) rfl)) rfl
theorem q_717 : Cond.instanceMethod yX10_held ∈ W0 := xR (aGl (List.mem_of_getElem? (i := 236) rfl)) rfl
theorem q_718 : Cond.selects zX yX10_held yX10_held ∈ W0 := xR (aIZ (q := (yX10_held, 51)) (List.mem_of_getElem? (i := 19) rfl)) rfl
theorem q_719 : Cond.methodLink zX 174 yX10_held ∈ W0 := xR (aGl (List.mem_of_getElem? (i := 234) rfl)) rfl
theorem q_720 : Cond.code yX10_thing aCV 4 (some .int) ∈ W0 := xR (aFp (List.mem_of_getElem? (i := 9) rfl)) rfl
theorem q_721 : Cond.instanceMethod yX10_thing ∈ W0 := xR (aFp (List.mem_of_getElem? (i := 8) rfl)) rfl
theorem q_722 : Cond.selects zX yX10_thing yX10_thing ∈ W0 := xR (aIZ (q := (yX10_thing, 51)) (List.mem_of_getElem? (i := 22) rfl)) rfl
theorem q_723 : Cond.methodLink zX 171 yX10_thing ∈ W0 := xR (aFp (List.mem_of_getElem? (i := 6) rfl)) rfl
theorem q_724 : Cond.code yX10_product aDM 5 (some .int) ∈ W0 := xR (aFp (List.mem_of_getElem? (i := 5) rfl)) rfl
theorem q_725 : Cond.instanceMethod yX10_product ∈ W0 := xR (aFp (List.mem_of_getElem? (i := 4) rfl)) rfl
theorem q_726 : Cond.selects zX yX10_product yX10_product ∈ W0 := xR (aIZ (q := (yX10_product, 51)) (List.mem_of_getElem? (i := 21) rfl)) rfl
theorem q_727 : Cond.methodLink zX 168 yX10_product ∈ W0 := xR (aFp (List.mem_of_getElem? (i := 2) rfl)) rfl
theorem q_728 : Cond.code yX10_sum aHh 5 (some .int) ∈ W0 := xR (aFp (List.mem_of_getElem? (i := 1) rfl)) rfl
theorem q_729 : Cond.instanceMethod yX10_sum ∈ W0 := xR (aFp (List.mem_of_getElem? (i := 0) rfl)) rfl
theorem q_730 : Cond.selects zX yX10_sum yX10_sum ∈ W0 := xR (aIZ (q := (yX10_sum, 51)) (List.mem_of_getElem? (i := 20) rfl)) rfl
theorem q_731 : Cond.methodLink zX 165 yX10_sum ∈ W0 := xR (aGl (List.mem_of_getElem? (i := 238) rfl)) rfl
theorem q_732 : Cond.fieldLink zX 203 "WhereTheLadderModel" "ruleSize" "I" ∈ W0 := xR (aGl (List.mem_of_getElem? (i := 54) rfl)) rfl
theorem q_733 : Cond.fieldLink zX 47 "WhereTheLadderModel" "rule" "[B" ∈ W0 := xR (aGl (List.mem_of_getElem? (i := 53) rfl)) rfl
theorem q_734 : Cond.code yX10_has cX10_has 2 (some .boolean) ∈ W0 := xR (aFp (List.mem_of_getElem? (i := 46) rfl)) rfl
theorem q_735 : Cond.static yX10_has ∈ W0 := xR (aFp (List.mem_of_getElem? (i := 45) rfl)) rfl
theorem q_736 : Cond.methodLink zX 227 yX10_has ∈ W0 := xR (aFp (List.mem_of_getElem? (i := 44) rfl)) rfl
theorem q_737 : Cond.code yX10_isBelow aJN 3 (some .boolean) ∈ W0 := xR (aFp (List.mem_of_getElem? (i := 50) rfl)) rfl
theorem q_738 : Cond.instanceMethod yX10_isBelow ∈ W0 := xR (aFp (List.mem_of_getElem? (i := 49) rfl)) rfl
theorem q_739 : Cond.selects zX yX10_isBelow yX10_isBelow ∈ W0 := xR (aIZ (q := (yX10_isBelow, 51)) (List.mem_of_getElem? (i := 30) rfl)) rfl
theorem q_740 : Cond.methodLink zX 231 yX10_isBelow ∈ W0 := xR (aFp (List.mem_of_getElem? (i := 47) rfl)) rfl
theorem q_741 : Cond.code yX10_isFruit cX10_isFruit 2 (some .boolean) ∈ W0 := xR (aFp (List.mem_of_getElem? (i := 31) rfl)) rfl
theorem q_742 : Cond.instanceMethod yX10_isFruit ∈ W0 := xR (aFp (List.mem_of_getElem? (i := 30) rfl)) rfl
theorem q_743 : Cond.selects zX yX10_isFruit yX10_isFruit ∈ W0 := xR (aIZ (q := (yX10_isFruit, 51)) (List.mem_of_getElem? (i := 26) rfl)) rfl
theorem q_744 : Cond.methodLink zX 237 yX10_isFruit ∈ W0 := xR (aFp (List.mem_of_getElem? (i := 28) rfl)) rfl
theorem q_745 : Cond.code yX10_lost cX10_lost 1 (some .int) ∈ W0 := xR (aFp (List.mem_of_getElem? (i := 35) rfl)) rfl
theorem q_746 : Cond.instanceMethod yX10_lost ∈ W0 := xR (aFp (List.mem_of_getElem? (i := 34) rfl)) rfl
theorem q_747 : Cond.selects zX yX10_lost yX10_lost ∈ W0 := xR (aIZ (q := (yX10_lost, 51)) (List.mem_of_getElem? (i := 27) rfl)) rfl
theorem q_748 : Cond.methodLink zX 241 yX10_lost ∈ W0 := xR (aFp (List.mem_of_getElem? (i := 32) rfl)) rfl
theorem q_749 : Cond.code yX10_which aLU 5 (some .int) ∈ W0 := xR (aFp (List.mem_of_getElem? (i := 39) rfl)) rfl
theorem q_750 : Cond.instanceMethod yX10_which ∈ W0 := xR (aFp (List.mem_of_getElem? (i := 38) rfl)) rfl
theorem q_751 : Cond.selects zX yX10_which yX10_which ∈ W0 := xR (aIZ (q := (yX10_which, 51)) (List.mem_of_getElem? (i := 28) rfl)) rfl
theorem q_752 : Cond.methodLink zX 244 yX10_which ∈ W0 := xR (aFp (List.mem_of_getElem? (i := 36) rfl)) rfl
theorem q_753 : Cond.code yX10_below aI0 5 (some .int) ∈ W0 := xR (aFp (List.mem_of_getElem? (i := 43) rfl)) rfl
theorem q_754 : Cond.instanceMethod yX10_below ∈ W0 := xR (aFp (List.mem_of_getElem? (i := 42) rfl)) rfl
theorem q_755 : Cond.selects zX yX10_below yX10_below ∈ W0 := xR (aIZ (q := (yX10_below, 51)) (List.mem_of_getElem? (i := 29) rfl)) rfl
theorem q_756 : Cond.methodLink zX 248 yX10_below ∈ W0 := xR (aFp (List.mem_of_getElem? (i := 40) rfl)) rfl
theorem q_757 : Cond.code aZD bB6 2 (some .boolean) ∈ W0 := xR (aFp (List.mem_of_getElem? (i := 58) rfl)) rfl
theorem q_758 : Cond.instanceMethod aZD ∈ W0 := xR (aFp (List.mem_of_getElem? (i := 57) rfl)) rfl
theorem q_759 : Cond.selects zX aZD aZD ∈ W0 := xR (aIZ (q := (aZD, 51)) (List.mem_of_getElem? (i := 31) rfl)) rfl
theorem q_760 : Cond.methodLink zX 251 aZD ∈ W0 := xR (aFp (List.mem_of_getElem? (i := 55) rfl)) rfl
theorem q_761 : Cond.code yX10_downOf cX10_downOf 2 (some .int) ∈ W0 := xR (aFp (List.mem_of_getElem? (i := 62) rfl)) rfl
theorem q_762 : Cond.instanceMethod yX10_downOf ∈ W0 := xR (aFp (List.mem_of_getElem? (i := 61) rfl)) rfl
theorem q_763 : Cond.selects zX yX10_downOf yX10_downOf ∈ W0 := xR (aIZ (q := (yX10_downOf, 51)) (List.mem_of_getElem? (i := 32) rfl)) rfl
theorem q_764 : Cond.methodLink zX 254 yX10_downOf ∈ W0 := xR (aFp (List.mem_of_getElem? (i := 59) rfl)) rfl
theorem q_765 : Cond.fieldLink zX 31 "WhereTheLadderModel" "told" "[I" ∈ W0 := xR (aGl (List.mem_of_getElem? (i := 38) rfl)) rfl
theorem q_766 : Cond.methodLink zX 224 Lib.Math.min.name ∈ W0 := xR (aFp (List.mem_of_getElem? (i := 71) rfl)) rfl
theorem q_767 : Cond.fieldLink zX 50 "WhereTheLadderModel" "undos" "[I" ∈ W0 := xR (aGl (List.mem_of_getElem? (i := 60) rfl)) rfl
theorem q_768 : Cond.code yX10_lay aUi 4 none ∈ W0 := xR (aFp (List.mem_of_getElem? (i := 86) rfl)) rfl
theorem q_769 : Cond.static yX10_lay ∈ W0 := xR (aFp (List.mem_of_getElem? (i := 85) rfl)) rfl
theorem q_770 : Cond.methodLink zX 257 yX10_lay ∈ W0 := xR (aFp (List.mem_of_getElem? (i := 84) rfl)) rfl
theorem q_771 : Cond.code yX10_moveOf aMr 3 (some .int) ∈ W0 := xR (aFp (List.mem_of_getElem? (i := 94) rfl)) rfl
theorem q_772 : Cond.instanceMethod yX10_moveOf ∈ W0 := xR (aFp (List.mem_of_getElem? (i := 93) rfl)) rfl
theorem q_773 : Cond.selects zX yX10_moveOf yX10_moveOf ∈ W0 := xR (aIZ (q := (yX10_moveOf, 51)) (List.mem_of_getElem? (i := 36) rfl)) rfl
theorem q_774 : Cond.methodLink zX 261 yX10_moveOf ∈ W0 := xR (aFp (List.mem_of_getElem? (i := 91) rfl)) rfl
theorem q_775 : Cond.code yX10_empty aLT 3 (some .int) ∈ W0 := xR (aFp (List.mem_of_getElem? (i := 98) rfl)) rfl
theorem q_776 : Cond.instanceMethod yX10_empty ∈ W0 := xR (aFp (List.mem_of_getElem? (i := 97) rfl)) rfl
theorem q_777 : Cond.selects zX yX10_empty yX10_empty ∈ W0 := xR (aIZ (q := (yX10_empty, 51)) (List.mem_of_getElem? (i := 37) rfl)) rfl
theorem q_778 : Cond.methodLink zX 264 yX10_empty ∈ W0 := xR (aFp (List.mem_of_getElem? (i := 95) rfl)) rfl
theorem q_779 : Cond.code yX10_passBy cX10_passBy 2 none ∈ W0 := xR (aFp (List.mem_of_getElem? (i := 102) rfl)) rfl
theorem q_780 : Cond.instanceMethod yX10_passBy ∈ W0 := xR (aFp (List.mem_of_getElem? (i := 101) rfl)) rfl
theorem q_781 : Cond.selects zX yX10_passBy yX10_passBy ∈ W0 := xR (aIZ (q := (yX10_passBy, 51)) (List.mem_of_getElem? (i := 38) rfl)) rfl
theorem q_782 : Cond.methodLink zX 267 yX10_passBy ∈ W0 := xR (aFp (List.mem_of_getElem? (i := 99) rfl)) rfl
theorem q_783 : Cond.code aXp aKA 2 (some .int) ∈ W0 := xR (aFp (List.mem_of_getElem? (i := 79) rfl)) rfl
theorem q_784 : Cond.instanceMethod aXp ∈ W0 := xR (aFp (List.mem_of_getElem? (i := 78) rfl)) rfl
theorem q_785 : Cond.selects zX aXp aXp ∈ W0 := xR (aIZ (q := (aXp, 51)) (List.mem_of_getElem? (i := 33) rfl)) rfl
theorem q_786 : Cond.methodLink zX 270 aXp ∈ W0 := xR (aFp (List.mem_of_getElem? (i := 76) rfl)) rfl
theorem q_787 : Cond.code aZg aDP 3 none ∈ W0 := xR (aFp (List.mem_of_getElem? (i := 83) rfl)) rfl
theorem q_788 : Cond.instanceMethod aZg ∈ W0 := xR (aFp (List.mem_of_getElem? (i := 82) rfl)) rfl
theorem q_789 : Cond.selects zX aZg aZg ∈ W0 := xR (aIZ (q := (aZg, 51)) (List.mem_of_getElem? (i := 34) rfl)) rfl
theorem q_790 : Cond.methodLink zX 273 aZg ∈ W0 := xR (aFp (List.mem_of_getElem? (i := 80) rfl)) rfl
theorem q_791 : Cond.code yX10_goMove aFa 3 (some .int) ∈ W0 := xR (aFp (List.mem_of_getElem? (i := 90) rfl)) rfl
theorem q_792 : Cond.instanceMethod yX10_goMove ∈ W0 := xR (aFp (List.mem_of_getElem? (i := 89) rfl)) rfl
theorem q_793 : Cond.selects zX yX10_goMove yX10_goMove ∈ W0 := xR (aIZ (q := (yX10_goMove, 51)) (List.mem_of_getElem? (i := 35) rfl)) rfl
theorem q_794 : Cond.methodLink zX 277 yX10_goMove ∈ W0 := xR (aFp (List.mem_of_getElem? (i := 87) rfl)) rfl
theorem q_795 : Cond.code yX10_reachBy aOb 3 (some .int) ∈ W0 := xR (aFp (List.mem_of_getElem? (i := 118) rfl)) rfl
theorem q_796 : Cond.instanceMethod yX10_reachBy ∈ W0 := xR (aFp (List.mem_of_getElem? (i := 117) rfl)) rfl
theorem q_797 : Cond.selects zX yX10_reachBy yX10_reachBy ∈ W0 := xR (aIZ (q := (yX10_reachBy, 51)) (List.mem_of_getElem? (i := 40) rfl)) rfl
theorem q_798 : Cond.methodLink zX 214 yX10_reachBy ∈ W0 := xR (aFp (List.mem_of_getElem? (i := 115) rfl)) rfl
theorem q_799 : Cond.code yX10_isWithin aHV 4 (some .boolean) ∈ W0 := xR (aFp (List.mem_of_getElem? (i := 122) rfl)) rfl
theorem q_800 : Cond.instanceMethod yX10_isWithin ∈ W0 := xR (aFp (List.mem_of_getElem? (i := 121) rfl)) rfl
theorem q_801 : Cond.selects zX yX10_isWithin yX10_isWithin ∈ W0 := xR (aIZ (q := (yX10_isWithin, 51)) (List.mem_of_getElem? (i := 41) rfl)) rfl
theorem q_802 : Cond.methodLink zX 217 yX10_isWithin ∈ W0 := xR (aFp (List.mem_of_getElem? (i := 119) rfl)) rfl
theorem q_803 : Cond.methodLink zX 280 aPX ∈ W0 := xR (aFp (List.mem_of_getElem? (i := 123) rfl)) rfl
theorem q_804 : Cond.code bB1 aCu 6 (some .int) ∈ W0 := xR (aFp (List.mem_of_getElem? (i := 131) rfl)) rfl
theorem q_805 : Cond.instanceMethod bB1 ∈ W0 := xR (aFp (List.mem_of_getElem? (i := 130) rfl)) rfl
theorem q_806 : Cond.selects zX bB1 bB1 ∈ W0 := xR (aIZ (q := (bB1, 51)) (List.mem_of_getElem? (i := 43) rfl)) rfl
theorem q_807 : Cond.methodLink zX 285 bB1 ∈ W0 := xR (aFp (List.mem_of_getElem? (i := 128) rfl)) rfl
theorem q_808 : Cond.code aXq aB0 3 (some .int) ∈ W0 := xR (aFp (List.mem_of_getElem? (i := 114) rfl)) rfl
theorem q_809 : Cond.instanceMethod aXq ∈ W0 := xR (aFp (List.mem_of_getElem? (i := 113) rfl)) rfl
theorem q_810 : Cond.selects zX aXq aXq ∈ W0 := xR (aIZ (q := (aXq, 51)) (List.mem_of_getElem? (i := 39) rfl)) rfl
theorem q_811 : Cond.methodLink zX 289 aXq ∈ W0 := xR (aFp (List.mem_of_getElem? (i := 111) rfl)) rfl
theorem q_812 : Cond.code yX10_goPick aF3 4 (some .int) ∈ W0 := xR (aFp (List.mem_of_getElem? (i := 127) rfl)) rfl
theorem q_813 : Cond.instanceMethod yX10_goPick ∈ W0 := xR (aFp (List.mem_of_getElem? (i := 126) rfl)) rfl
theorem q_814 : Cond.selects zX yX10_goPick yX10_goPick ∈ W0 := xR (aIZ (q := (yX10_goPick, 51)) (List.mem_of_getElem? (i := 42) rfl)) rfl
theorem q_815 : Cond.methodLink zX 292 yX10_goPick ∈ W0 := xR (aFp (List.mem_of_getElem? (i := 124) rfl)) rfl
theorem q_816 : Cond.code yX10_canDown aR9 1 (some .boolean) ∈ W0 := xR (aFp (List.mem_of_getElem? (i := 139) rfl)) rfl
theorem q_817 : Cond.instanceMethod yX10_canDown ∈ W0 := xR (aFp (List.mem_of_getElem? (i := 138) rfl)) rfl
theorem q_818 : Cond.selects zX yX10_canDown yX10_canDown ∈ W0 := xR (aIZ (q := (yX10_canDown, 51)) (List.mem_of_getElem? (i := 44) rfl)) rfl
theorem q_819 : Cond.methodLink zX 295 yX10_canDown ∈ W0 := xR (aFp (List.mem_of_getElem? (i := 136) rfl)) rfl
theorem q_820 : Cond.code yX10_goDown cX10_goDown 1 (some .int) ∈ W0 := xR (aFp (List.mem_of_getElem? (i := 143) rfl)) rfl
theorem q_821 : Cond.instanceMethod yX10_goDown ∈ W0 := xR (aFp (List.mem_of_getElem? (i := 142) rfl)) rfl
theorem q_822 : Cond.selects zX yX10_goDown yX10_goDown ∈ W0 := xR (aIZ (q := (yX10_goDown, 51)) (List.mem_of_getElem? (i := 45) rfl)) rfl
theorem q_823 : Cond.methodLink zX 298 yX10_goDown ∈ W0 := xR (aFp (List.mem_of_getElem? (i := 140) rfl)) rfl
theorem q_824 : Cond.code aXo aED 6 (some .int) ∈ W0 := xR (aFp (List.mem_of_getElem? (i := 163) rfl)) rfl
theorem q_825 : Cond.instanceMethod aXo ∈ W0 := xR (aFp (List.mem_of_getElem? (i := 162) rfl)) rfl
theorem q_826 : Cond.selects zX aXo aXo ∈ W0 := xR (aIZ (q := (aXo, 51)) (List.mem_of_getElem? (i := 49) rfl)) rfl
theorem q_827 : Cond.methodLink zX 220 aXo ∈ W0 := xR (aFp (List.mem_of_getElem? (i := 160) rfl)) rfl
theorem q_828 : Cond.code yX10_ripeOnes aGo 4 (some .int) ∈ W0 := xR (aFp (List.mem_of_getElem? (i := 155) rfl)) rfl
theorem q_829 : Cond.instanceMethod yX10_ripeOnes ∈ W0 := xR (aFp (List.mem_of_getElem? (i := 154) rfl)) rfl
theorem q_830 : Cond.selects zX yX10_ripeOnes yX10_ripeOnes ∈ W0 := xR (aIZ (q := (yX10_ripeOnes, 51)) (List.mem_of_getElem? (i := 47) rfl)) rfl
theorem q_831 : Cond.methodLink zX 301 yX10_ripeOnes ∈ W0 := xR (aFp (List.mem_of_getElem? (i := 152) rfl)) rfl
theorem q_832 : Cond.code yX10_byHand cX10_byHand 2 (some .int) ∈ W0 := xR (aFp (List.mem_of_getElem? (i := 159) rfl)) rfl
theorem q_833 : Cond.instanceMethod yX10_byHand ∈ W0 := xR (aFp (List.mem_of_getElem? (i := 158) rfl)) rfl
theorem q_834 : Cond.selects zX yX10_byHand yX10_byHand ∈ W0 := xR (aIZ (q := (yX10_byHand, 51)) (List.mem_of_getElem? (i := 48) rfl)) rfl
theorem q_835 : Cond.methodLink zX 304 yX10_byHand ∈ W0 := xR (aFp (List.mem_of_getElem? (i := 156) rfl)) rfl
theorem q_836 : Cond.code yX10_goShake aCa 4 (some .int) ∈ W0 := xR (aFp (List.mem_of_getElem? (i := 151) rfl)) rfl
theorem q_837 : Cond.instanceMethod yX10_goShake ∈ W0 := xR (aFp (List.mem_of_getElem? (i := 150) rfl)) rfl
theorem q_838 : Cond.selects zX yX10_goShake yX10_goShake ∈ W0 := xR (aIZ (q := (yX10_goShake, 51)) (List.mem_of_getElem? (i := 46) rfl)) rfl
theorem q_839 : Cond.methodLink zX 307 yX10_goShake ∈ W0 := xR (aFp (List.mem_of_getElem? (i := 148) rfl)) rfl
theorem q_840 : Cond.code yX10_goSleep aIn 1 (some .int) ∈ W0 := xR (aFp (List.mem_of_getElem? (i := 171) rfl)) rfl
theorem q_841 : Cond.instanceMethod yX10_goSleep ∈ W0 := xR (aFp (List.mem_of_getElem? (i := 170) rfl)) rfl
theorem q_842 : Cond.selects zX yX10_goSleep yX10_goSleep ∈ W0 := xR (aIZ (q := (yX10_goSleep, 51)) (List.mem_of_getElem? (i := 50) rfl)) rfl
theorem q_843 : Cond.methodLink zX 310 yX10_goSleep ∈ W0 := xR (aFp (List.mem_of_getElem? (i := 168) rfl)) rfl
theorem q_844 : Cond.fieldLink zX 56 "WhereTheLadderModel" "acts" "[I" ∈ W0 := xR (aGl (List.mem_of_getElem? (i := 63) rfl)) rfl
theorem q_845 : Cond.fieldLink zX 316 "WhereTheLadderModel" "picked" "I" ∈ W0 := xR (aGl (List.mem_of_getElem? (i := 64) rfl)) rfl
theorem q_846 : Cond.fieldLink zX 38 "WhereTheLadderModel" "row" "[I" ∈ W0 := xR (aGl (List.mem_of_getElem? (i := 41) rfl)) rfl
theorem q_847 : Cond.fieldLink zX 91 "WhereTheLadderModel" "rowMany" "I" ∈ W0 := xR (aGl (List.mem_of_getElem? (i := 42) rfl)) rfl
theorem q_848 : Cond.fieldLink zX 53 "WhereTheLadderModel" "aside" "[I" ∈ W0 := xR (aGl (List.mem_of_getElem? (i := 62) rfl)) rfl
theorem q_849 : Cond.code yX10_tell cX10_tell 2 none ∈ W0 := xR (aFp (List.mem_of_getElem? (i := 187) rfl)) rfl
theorem q_850 : Cond.instanceMethod yX10_tell ∈ W0 := xR (aFp (List.mem_of_getElem? (i := 186) rfl)) rfl
theorem q_851 : Cond.selects zX yX10_tell yX10_tell ∈ W0 := xR (aIZ (q := (yX10_tell, 51)) (List.mem_of_getElem? (i := 53) rfl)) rfl
theorem q_852 : Cond.methodLink zX 322 yX10_tell ∈ W0 := xR (aFp (List.mem_of_getElem? (i := 184) rfl)) rfl
theorem q_853 : Cond.code yX10_act aDK 4 (some .boolean) ∈ W0 := xR (aFp (List.mem_of_getElem? (i := 183) rfl)) rfl
theorem q_854 : Cond.instanceMethod yX10_act ∈ W0 := xR (aFp (List.mem_of_getElem? (i := 182) rfl)) rfl
theorem q_855 : Cond.selects zX yX10_act yX10_act ∈ W0 := xR (aIZ (q := (yX10_act, 51)) (List.mem_of_getElem? (i := 52) rfl)) rfl
theorem q_856 : Cond.methodLink zX 319 yX10_act ∈ W0 := xR (aFp (List.mem_of_getElem? (i := 180) rfl)) rfl
theorem q_857 : Cond.code yX10_readAct aCY 3 none ∈ W0 := xR (aFp (List.mem_of_getElem? (i := 179) rfl)) rfl
theorem q_858 : Cond.instanceMethod yX10_readAct ∈ W0 := xR (aFp (List.mem_of_getElem? (i := 178) rfl)) rfl
theorem q_859 : Cond.selects zX yX10_readAct yX10_readAct ∈ W0 := xR (aIZ (q := (yX10_readAct, 51)) (List.mem_of_getElem? (i := 51) rfl)) rfl
theorem q_860 : Cond.methodLink zX 313 yX10_readAct ∈ W0 := xR (aFp (List.mem_of_getElem? (i := 176) rfl)) rfl
theorem q_861 : Cond.code yX10_worthOf aSA 3 (some .int) ∈ W0 := xR (aFp (List.mem_of_getElem? (i := 211) rfl)) rfl
theorem q_862 : Cond.instanceMethod yX10_worthOf ∈ W0 := xR (aFp (List.mem_of_getElem? (i := 210) rfl)) rfl
theorem q_863 : Cond.selects zX yX10_worthOf yX10_worthOf ∈ W0 := xR (aIZ (q := (yX10_worthOf, 51)) (List.mem_of_getElem? (i := 55) rfl)) rfl
theorem q_864 : Cond.methodLink zX 234 yX10_worthOf ∈ W0 := xR (aFp (List.mem_of_getElem? (i := 208) rfl)) rfl
theorem q_865 : Cond.code aZG aFq 5 (some .int) ∈ W0 := xR (aFp (List.mem_of_getElem? (i := 207) rfl)) rfl
theorem q_866 : Cond.instanceMethod aZG ∈ W0 := xR (aFp (List.mem_of_getElem? (i := 206) rfl)) rfl
theorem q_867 : Cond.selects zX aZG aZG ∈ W0 := xR (aIZ (q := (aZG, 51)) (List.mem_of_getElem? (i := 54) rfl)) rfl
theorem q_868 : Cond.methodLink zX 325 aZG ∈ W0 := xR (aFp (List.mem_of_getElem? (i := 204) rfl)) rfl
theorem q_869 : Cond.fieldLink zX 59 "WhereTheLadderModel" "hand" "[I" ∈ W0 := xR (aGl (List.mem_of_getElem? (i := 65) rfl)) rfl
theorem q_870 : Cond.code aVB bA7 1 (some .int) ∈ W0 := xR (aFp (List.mem_of_getElem? (i := 231) rfl)) rfl
theorem q_871 : Cond.instanceMethod aVB ∈ W0 := xR (aFp (List.mem_of_getElem? (i := 230) rfl)) rfl
theorem q_872 : Cond.selects zX aVB aVB ∈ W0 := xR (aIZ (q := (aVB, 51)) (List.mem_of_getElem? (i := 58) rfl)) rfl
theorem q_873 : Cond.methodLink zX 331 aVB ∈ W0 := xR (aFp (List.mem_of_getElem? (i := 228) rfl)) rfl
theorem q_874 : Cond.code yX10_handOf aJZ 4 (some .int) ∈ W0 := xR (aFp (List.mem_of_getElem? (i := 235) rfl)) rfl
theorem q_875 : Cond.instanceMethod yX10_handOf ∈ W0 := xR (aFp (List.mem_of_getElem? (i := 234) rfl)) rfl
theorem q_876 : Cond.selects zX yX10_handOf yX10_handOf ∈ W0 := xR (aIZ (q := (yX10_handOf, 51)) (List.mem_of_getElem? (i := 59) rfl)) rfl
theorem q_877 : Cond.methodLink zX 334 yX10_handOf ∈ W0 := xR (aFp (List.mem_of_getElem? (i := 232) rfl)) rfl
theorem q_878 : Cond.fieldLink zX 337 "WhereTheLadderModel" "wanted" "I" ∈ W0 := xR (aGl (List.mem_of_getElem? (i := 66) rfl)) rfl
theorem q_879 : Cond.code bB0 aDw 3 none ∈ W0 := xR (aFp (List.mem_of_getElem? (i := 227) rfl)) rfl
theorem q_880 : Cond.instanceMethod bB0 ∈ W0 := xR (aFp (List.mem_of_getElem? (i := 226) rfl)) rfl
theorem q_881 : Cond.selects zX bB0 bB0 ∈ W0 := xR (aIZ (q := (bB0, 51)) (List.mem_of_getElem? (i := 57) rfl)) rfl
theorem q_882 : Cond.methodLink zX 328 bB0 ∈ W0 := xR (aFp (List.mem_of_getElem? (i := 224) rfl)) rfl
theorem q_883 : Cond.code yX10_layHands cX10_layHands 1 none ∈ W0 := xR (aFp (List.mem_of_getElem? (i := 223) rfl)) rfl
theorem q_884 : Cond.instanceMethod yX10_layHands ∈ W0 := xR (aFp (List.mem_of_getElem? (i := 222) rfl)) rfl
theorem q_885 : Cond.selects zX yX10_layHands yX10_layHands ∈ W0 := xR (aIZ (q := (yX10_layHands, 51)) (List.mem_of_getElem? (i := 56) rfl)) rfl
theorem q_886 : Cond.methodLink zX 349 yX10_layHands ∈ W0 := xR (aFp (List.mem_of_getElem? (i := 220) rfl)) rfl
theorem q_887 : Cond.code yX10_leanOf aNI 4 (some .int) ∈ W0 := xR (aGt (List.mem_of_getElem? (i := 3) rfl)) rfl
theorem q_888 : Cond.instanceMethod yX10_leanOf ∈ W0 := xR (aGt (List.mem_of_getElem? (i := 2) rfl)) rfl
theorem q_889 : Cond.selects zX yX10_leanOf yX10_leanOf ∈ W0 := xR (aIZ (q := (yX10_leanOf, 51)) (List.mem_of_getElem? (i := 60) rfl)) rfl
theorem q_890 : Cond.methodLink zX 351 yX10_leanOf ∈ W0 := xR (aGt (List.mem_of_getElem? (i := 0) rfl)) rfl
theorem q_891 : Cond.constant RJ6 264 65536 ∈ W0 := xR (aGt (List.mem_of_getElem? (i := 22) rfl)) rfl
theorem q_892 : Cond.code aKQ aAq 2 (some .int) ∈ W0 := xR (aGt (List.mem_of_getElem? (i := 21) rfl)) rfl
theorem q_893 : Cond.static aKQ ∈ W0 := xR (aGt (List.mem_of_getElem? (i := 20) rfl)) rfl
theorem q_894 : Cond.methodLink zX 340 aKQ ∈ W0 := xR (aGt (List.mem_of_getElem? (i := 19) rfl)) rfl
theorem q_895 : Cond.code yX10_isRowAhead aYo 3 (some .boolean) ∈ W0 := xR (aGt (List.mem_of_getElem? (i := 18) rfl)) rfl
theorem q_896 : Cond.static yX10_isRowAhead ∈ W0 := xR (aGt (List.mem_of_getElem? (i := 17) rfl)) rfl
theorem q_897 : Cond.methodLink zX 343 yX10_isRowAhead ∈ W0 := xR (aGt (List.mem_of_getElem? (i := 16) rfl)) rfl
theorem q_898 : Cond.code yX10_cover aFt 5 (some .int) ∈ W0 := xR (aGt (List.mem_of_getElem? (i := 15) rfl)) rfl
theorem q_899 : Cond.instanceMethod yX10_cover ∈ W0 := xR (aGt (List.mem_of_getElem? (i := 14) rfl)) rfl
theorem q_900 : Cond.selects zX yX10_cover yX10_cover ∈ W0 := xR (aIZ (q := (yX10_cover, 51)) (List.mem_of_getElem? (i := 62) rfl)) rfl
theorem q_901 : Cond.methodLink zX 346 yX10_cover ∈ W0 := xR (aGt (List.mem_of_getElem? (i := 12) rfl)) rfl
theorem q_902 : Cond.code bB2 aGN 4 (some .int) ∈ W0 := xR (aGt (List.mem_of_getElem? (i := 11) rfl)) rfl
theorem q_903 : Cond.instanceMethod bB2 ∈ W0 := xR (aGt (List.mem_of_getElem? (i := 10) rfl)) rfl
theorem q_904 : Cond.selects zX bB2 bB2 ∈ W0 := xR (aIZ (q := (bB2, 51)) (List.mem_of_getElem? (i := 61) rfl)) rfl
theorem q_905 : Cond.methodLink zX 354 bB2 ∈ W0 := xR (aGt (List.mem_of_getElem? (i := 8) rfl)) rfl
theorem q_906 : Cond.code yX10_leftBy aYL 2 (some .int) ∈ W0 := xR (aGt (List.mem_of_getElem? (i := 34) rfl)) rfl
theorem q_907 : Cond.instanceMethod yX10_leftBy ∈ W0 := xR (aGt (List.mem_of_getElem? (i := 33) rfl)) rfl
theorem q_908 : Cond.selects zX yX10_leftBy yX10_leftBy ∈ W0 := xR (aIZ (q := (yX10_leftBy, 51)) (List.mem_of_getElem? (i := 63) rfl)) rfl
theorem q_909 : Cond.methodLink zX 357 yX10_leftBy ∈ W0 := xR (aGt (List.mem_of_getElem? (i := 31) rfl)) rfl
theorem q_910 : Cond.fieldLink zX 62 "WhereTheLadderModel" "moves" "[I" ∈ W0 := xR (aGl (List.mem_of_getElem? (i := 67) rfl)) rfl
theorem q_911 : Cond.constant zX 360 1000000 ∈ W0 := xR (aGt (List.mem_of_getElem? (i := 47) rfl)) rfl
theorem q_912 : Cond.code aZF aYp 3 (some .int) ∈ W0 := xR (aGt (List.mem_of_getElem? (i := 51) rfl)) rfl
theorem q_913 : Cond.instanceMethod aZF ∈ W0 := xR (aGt (List.mem_of_getElem? (i := 50) rfl)) rfl
theorem q_914 : Cond.selects zX aZF aZF ∈ W0 := xR (aIZ (q := (aZF, 51)) (List.mem_of_getElem? (i := 65) rfl)) rfl
theorem q_915 : Cond.methodLink zX 361 aZF ∈ W0 := xR (aGt (List.mem_of_getElem? (i := 48) rfl)) rfl
theorem q_916 : Cond.code yX10_layMoves aBu 5 none ∈ W0 := xR (aGt (List.mem_of_getElem? (i := 46) rfl)) rfl
theorem q_917 : Cond.instanceMethod yX10_layMoves ∈ W0 := xR (aGt (List.mem_of_getElem? (i := 45) rfl)) rfl
theorem q_918 : Cond.selects zX yX10_layMoves yX10_layMoves ∈ W0 := xR (aIZ (q := (yX10_layMoves, 51)) (List.mem_of_getElem? (i := 64) rfl)) rfl
theorem q_919 : Cond.methodLink zX 364 yX10_layMoves ∈ W0 := xR (aGt (List.mem_of_getElem? (i := 43) rfl)) rfl
theorem q_920 : Cond.code yX10_besides aOa 2 (some .int) ∈ W0 := xR (aGt (List.mem_of_getElem? (i := 55) rfl)) rfl
theorem q_921 : Cond.instanceMethod yX10_besides ∈ W0 := xR (aGt (List.mem_of_getElem? (i := 54) rfl)) rfl
theorem q_922 : Cond.selects zX yX10_besides yX10_besides ∈ W0 := xR (aIZ (q := (yX10_besides, 51)) (List.mem_of_getElem? (i := 66) rfl)) rfl
theorem q_923 : Cond.methodLink zX 367 yX10_besides ∈ W0 := xR (aGt (List.mem_of_getElem? (i := 52) rfl)) rfl
theorem q_924 : Cond.code yX10_placeOf cX10_placeOf 2 (some .int) ∈ W0 := xR (aGt (List.mem_of_getElem? (i := 59) rfl)) rfl
theorem q_925 : Cond.instanceMethod yX10_placeOf ∈ W0 := xR (aGt (List.mem_of_getElem? (i := 58) rfl)) rfl
theorem q_926 : Cond.selects zX yX10_placeOf yX10_placeOf ∈ W0 := xR (aIZ (q := (yX10_placeOf, 51)) (List.mem_of_getElem? (i := 67) rfl)) rfl
theorem q_927 : Cond.methodLink zX 370 yX10_placeOf ∈ W0 := xR (aGt (List.mem_of_getElem? (i := 56) rfl)) rfl
theorem q_928 : Cond.fieldLink zX 65 "WhereTheLadderModel" "handSeconds" "[I" ∈ W0 := xR (aGl (List.mem_of_getElem? (i := 68) rfl)) rfl
theorem q_929 : Cond.fieldLink zX 373 "WhereTheLadderModel" "workMoves" "I" ∈ W0 := xR (aGl (List.mem_of_getElem? (i := 69) rfl)) rfl
theorem q_930 : Cond.fieldLink zX 376 "WhereTheLadderModel" "workPicks" "I" ∈ W0 := xR (aGl (List.mem_of_getElem? (i := 70) rfl)) rfl
theorem q_931 : Cond.fieldLink zX 379 "WhereTheLadderModel" "workDowns" "I" ∈ W0 := xR (aGl (List.mem_of_getElem? (i := 71) rfl)) rfl
theorem q_932 : Cond.fieldLink zX 68 "WhereTheLadderModel" "load" "[I" ∈ W0 := xR (aGl (List.mem_of_getElem? (i := 72) rfl)) rfl
theorem q_933 : Cond.code aZE aD7 3 none ∈ W0 := xR (aGt (List.mem_of_getElem? (i := 67) rfl)) rfl
theorem q_934 : Cond.instanceMethod aZE ∈ W0 := xR (aGt (List.mem_of_getElem? (i := 66) rfl)) rfl
theorem q_935 : Cond.selects zX aZE aZE ∈ W0 := xR (aIZ (q := (aZE, 51)) (List.mem_of_getElem? (i := 68) rfl)) rfl
theorem q_936 : Cond.methodLink zX 382 aZE ∈ W0 := xR (aGt (List.mem_of_getElem? (i := 64) rfl)) rfl
theorem q_937 : Cond.code yX10_workOf aA6 5 (some .int) ∈ W0 := xR (aGt (List.mem_of_getElem? (i := 71) rfl)) rfl
theorem q_938 : Cond.instanceMethod yX10_workOf ∈ W0 := xR (aGt (List.mem_of_getElem? (i := 70) rfl)) rfl
theorem q_939 : Cond.selects zX yX10_workOf yX10_workOf ∈ W0 := xR (aIZ (q := (yX10_workOf, 51)) (List.mem_of_getElem? (i := 69) rfl)) rfl
theorem q_940 : Cond.methodLink zX 385 yX10_workOf ∈ W0 := xR (aGt (List.mem_of_getElem? (i := 68) rfl)) rfl
theorem q_941 : Cond.code aZC aId 1 (some .int) ∈ W0 := xR (aGt (List.mem_of_getElem? (i := 107) rfl)) rfl
theorem q_942 : Cond.instanceMethod aZC ∈ W0 := xR (aGt (List.mem_of_getElem? (i := 106) rfl)) rfl
theorem q_943 : Cond.selects zX aZC aZC ∈ W0 := xR (aIZ (q := (aZC, 51)) (List.mem_of_getElem? (i := 70) rfl)) rfl
theorem q_944 : Cond.methodLink zX 388 aZC ∈ W0 := xR (aGt (List.mem_of_getElem? (i := 104) rfl)) rfl
theorem q_945 : Cond.code yX10_loadOf aJa 4 (some .int) ∈ W0 := xR (aGt (List.mem_of_getElem? (i := 123) rfl)) rfl
theorem q_946 : Cond.instanceMethod yX10_loadOf ∈ W0 := xR (aGt (List.mem_of_getElem? (i := 122) rfl)) rfl
theorem q_947 : Cond.selects zX yX10_loadOf yX10_loadOf ∈ W0 := xR (aIZ (q := (yX10_loadOf, 51)) (List.mem_of_getElem? (i := 71) rfl)) rfl
theorem q_948 : Cond.methodLink zX 391 yX10_loadOf ∈ W0 := xR (aGt (List.mem_of_getElem? (i := 120) rfl)) rfl
theorem q_949 : Cond.code bBz aGM 3 (some .int) ∈ W0 := xR (aGt (List.mem_of_getElem? (i := 131) rfl)) rfl
theorem q_950 : Cond.instanceMethod bBz ∈ W0 := xR (aGt (List.mem_of_getElem? (i := 130) rfl)) rfl
theorem q_951 : Cond.selects zX bBz bBz ∈ W0 := xR (aIZ (q := (bBz, 51)) (List.mem_of_getElem? (i := 72) rfl)) rfl
theorem q_952 : Cond.methodLink zX 394 bBz ∈ W0 := xR (aGt (List.mem_of_getElem? (i := 128) rfl)) rfl
theorem q_953 : Cond.fieldLink zX 74 "WhereTheLadderModel" "rows" "[I" ∈ W0 := xR (aGl (List.mem_of_getElem? (i := 74) rfl)) rfl
theorem q_954 : Cond.fieldLink zX 71 "WhereTheLadderModel" "grass" "[I" ∈ W0 := xR (aGl (List.mem_of_getElem? (i := 73) rfl)) rfl
theorem q_955 : Cond.code bBy cX10_allFruits 1 (some .int) ∈ W0 := xR (aGt (List.mem_of_getElem? (i := 155) rfl)) rfl
theorem q_956 : Cond.instanceMethod bBy ∈ W0 := xR (aGt (List.mem_of_getElem? (i := 154) rfl)) rfl
theorem q_957 : Cond.selects zX bBy bBy ∈ W0 := xR (aIZ (q := (bBy, 51)) (List.mem_of_getElem? (i := 73) rfl)) rfl
theorem q_958 : Cond.methodLink zX 397 bBy ∈ W0 := xR (aGt (List.mem_of_getElem? (i := 152) rfl)) rfl
theorem q_959 : Cond.fieldLink zX 400 "WhereTheLadderModel" "drawn" "I" ∈ W0 := xR (aGl (List.mem_of_getElem? (i := 75) rfl)) rfl
theorem q_960 : Cond.constant zX 403 1103515245 ∈ W0 := xR (aGt (List.mem_of_getElem? (i := 168) rfl)) rfl
theorem q_961 : Cond.code yX10_draw cX10_draw 2 (some .int) ∈ W0 := xR (aGt (List.mem_of_getElem? (i := 167) rfl)) rfl
theorem q_962 : Cond.instanceMethod yX10_draw ∈ W0 := xR (aGt (List.mem_of_getElem? (i := 166) rfl)) rfl
theorem q_963 : Cond.selects zX yX10_draw yX10_draw ∈ W0 := xR (aIZ (q := (yX10_draw, 51)) (List.mem_of_getElem? (i := 74) rfl)) rfl
theorem q_964 : Cond.methodLink zX 404 yX10_draw ∈ W0 := xR (aGt (List.mem_of_getElem? (i := 164) rfl)) rfl
theorem q_965 : Cond.fieldLink zX 80 "WhereTheLadderModel" "isKept" "[Z" ∈ W0 := xR (aGl (List.mem_of_getElem? (i := 78) rfl)) rfl
theorem q_966 : Cond.fieldLink zX 84 "WhereTheLadderModel" "keptCame" "[I" ∈ W0 := xR (aGl (List.mem_of_getElem? (i := 79) rfl)) rfl
theorem q_967 : Cond.fieldLink zX 77 "WhereTheLadderModel" "kept" "[I" ∈ W0 := xR (aGl (List.mem_of_getElem? (i := 77) rfl)) rfl
theorem q_968 : Cond.fieldLink RJ0 38 "java/lang/String" "COMPACT_STRINGS" "Z" ∈ W0 := xR (aFj (List.mem_of_getElem? (i := 185) rfl)) rfl
theorem q_969 : Cond.fieldLink RJ0 15 "java/lang/String" "coder" "B" ∈ W0 := xR (aGt (List.mem_of_getElem? (i := 202) rfl)) rfl
theorem q_970 : Cond.fieldLink RJ0 9 "java/lang/String" "value" "[B" ∈ W0 := xR (aGt (List.mem_of_getElem? (i := 201) rfl)) rfl
theorem q_971 : Cond.code aZB aYn 1 (some .byte) ∈ W0 := xR (aFj (List.mem_of_getElem? (i := 184) rfl)) rfl
theorem q_972 : Cond.methodLink RJ0 335 aZB ∈ W0 := xR (aFj (List.mem_of_getElem? (i := 181) rfl)) rfl
theorem q_973 : Cond.instanceMethod aZB ∈ W0 := xR (aFj (List.mem_of_getElem? (i := 182) rfl)) rfl
theorem q_974 : Cond.selects "java/lang/String" aZB aZB ∈ W0 := xR (aFj (List.mem_of_getElem? (i := 183) rfl)) rfl
theorem q_975 : Cond.initialized "java/lang/String" ∈ W0 := xR (aFj (List.mem_of_getElem? (i := 8) rfl)) rfl
theorem q_976 : Cond.code aRh aUN 1 (some .int) ∈ W0 := xR (aFj (List.mem_of_getElem? (i := 180) rfl)) rfl
theorem q_977 : Cond.instanceMethod aRh ∈ W0 := xR (aFj (List.mem_of_getElem? (i := 178) rfl)) rfl
theorem q_978 : Cond.selects "java/lang/String" aRh aRh ∈ W0 := xR (aFj (List.mem_of_getElem? (i := 179) rfl)) rfl
theorem q_979 : Cond.code aXF aKd 1 (some .boolean) ∈ W0 := xR (aGA (List.mem_of_getElem? (i := 14) rfl)) rfl
theorem q_980 : Cond.methodLink RJ1 88 aXF ∈ W0 := xR (aGA (List.mem_of_getElem? (i := 12) rfl)) rfl
theorem q_981 : Cond.static aXF ∈ W0 := xR (aGA (List.mem_of_getElem? (i := 13) rfl)) rfl
theorem q_982 : Cond.initialized RJ1 ∈ W0 := xR (aFj (List.mem_of_getElem? (i := 14) rfl)) rfl
theorem q_983 : Cond.methodLink RJ1 92 Lib.Math.max.name ∈ W0 := xR (aGA (List.mem_of_getElem? (i := 15) rfl)) rfl
theorem q_984 : Cond.methodLink RJ1 38 Lib.Math.min.name ∈ W0 := xR (aGA (List.mem_of_getElem? (i := 18) rfl)) rfl
theorem q_985 : Cond.code aSR aET 6 (some .int) ∈ W0 := xR (aGA (List.mem_of_getElem? (i := 21) rfl)) rfl
theorem q_986 : Cond.methodLink RJ1 95 aSR ∈ W0 := xR (aGA (List.mem_of_getElem? (i := 19) rfl)) rfl
theorem q_987 : Cond.static aSR ∈ W0 := xR (aGA (List.mem_of_getElem? (i := 20) rfl)) rfl
theorem q_988 : Cond.code aR6 aLi 1 (some .boolean) ∈ W0 := xR (aGA (List.mem_of_getElem? (i := 7) rfl)) rfl
theorem q_989 : Cond.methodLink RJ0 492 aR6 ∈ W0 := xR (aGA (List.mem_of_getElem? (i := 4) rfl)) rfl
theorem q_990 : Cond.instanceMethod aR6 ∈ W0 := xR (aGA (List.mem_of_getElem? (i := 5) rfl)) rfl
theorem q_991 : Cond.selects "java/lang/String" aR6 aR6 ∈ W0 := xR (aGA (List.mem_of_getElem? (i := 6) rfl)) rfl
theorem q_992 : Cond.methodLink RJ0 505 aRh ∈ W0 := xR (aGA (List.mem_of_getElem? (i := 8) rfl)) rfl
theorem q_993 : Cond.code bBU aEd 4 (some .int) ∈ W0 := xR (aGA (List.mem_of_getElem? (i := 11) rfl)) rfl
theorem q_994 : Cond.methodLink RJ0 637 bBU ∈ W0 := xR (aGA (List.mem_of_getElem? (i := 9) rfl)) rfl
theorem q_995 : Cond.static bBU ∈ W0 := xR (aGA (List.mem_of_getElem? (i := 10) rfl)) rfl
theorem q_996 : Cond.code aU9 aGI 3 (some .int) ∈ W0 := xR (aGA (List.mem_of_getElem? (i := 3) rfl)) rfl
theorem q_997 : Cond.methodLink RJ0 633 aU9 ∈ W0 := xR (aGA (List.mem_of_getElem? (i := 0) rfl)) rfl
theorem q_998 : Cond.instanceMethod aU9 ∈ W0 := xR (aGA (List.mem_of_getElem? (i := 1) rfl)) rfl
theorem q_999 : Cond.selects "java/lang/String" aU9 aU9 ∈ W0 := xR (aGA (List.mem_of_getElem? (i := 2) rfl)) rfl
theorem q_1000 : Cond.code aRr aXu 2 (some .int) ∈ W0 := xR (aFb (List.mem_of_getElem? (i := 239) rfl)) rfl
theorem q_1001 : Cond.instanceMethod aRr ∈ W0 := xR (aFb (List.mem_of_getElem? (i := 237) rfl)) rfl
theorem q_1002 : Cond.selects "java/lang/String" aRr aRr ∈ W0 := xR (aFb (List.mem_of_getElem? (i := 238) rfl)) rfl
theorem q_1003 : Cond.classLink RX9 120 "java/util/NoSuchElementException" ∈ W0 := xR (aGK (List.mem_of_getElem? (i := 183) rfl)) rfl
theorem q_1004 : Cond.initialized "java/util/NoSuchElementException" ∈ W0 := xR (aFj (List.mem_of_getElem? (i := 21) rfl)) rfl
theorem q_1005 : Cond.methodLink RX8 3 objectInit ∈ W0 := xR (aFj (List.mem_of_getElem? (i := 36) rfl)) rfl
theorem q_1006 : Cond.instanceMethod objectInit ∈ W0 := xR (aFj (List.mem_of_getElem? (i := 29) rfl)) rfl
theorem q_1007 : Cond.code objectInit ⟨#[0xb1]⟩ 1 none ∈ W0 := xR (aFj (List.mem_of_getElem? (i := 30) rfl)) rfl
theorem q_1008 : Cond.arrayClass .char ∈ W0 := xR (aFj (List.mem_of_getElem? (i := 51) rfl)) rfl
theorem q_1009 : Cond.methodLink RX3 3 objectInit ∈ W0 := xR (aFj (List.mem_of_getElem? (i := 69) rfl)) rfl
theorem aUK : Cond.arrayClass .int ∈ W0 := xR (aFj (List.mem_of_getElem? (i := 119) rfl)) rfl
theorem q_1011 : Cond.methodLink RX2 3 objectInit ∈ W0 := xR (aFj (List.mem_of_getElem? (i := 125) rfl)) rfl
theorem q_1012 : Cond.methodLink RX7 3 objectInit ∈ W0 := xR (aFj (List.mem_of_getElem? (i := 175) rfl)) rfl
theorem q_1013 : Cond.methodLink RX7 13 aRh ∈ W0 := xR (aFj (List.mem_of_getElem? (i := 177) rfl)) rfl
theorem q_1014 : Cond.methodLink RX0 3 objectInit ∈ W0 := xR (aFj (List.mem_of_getElem? (i := 63) rfl)) rfl
theorem q_1015 : Cond.classLink RX0 9 RX3 ∈ W0 := xR (aFj (List.mem_of_getElem? (i := 64) rfl)) rfl
theorem q_1016 : Cond.instantiable RX3 11 ∈ W0 := xR (aFj (List.mem_of_getElem? (i := 65) rfl)) rfl
theorem q_1017 : Cond.code yX3_init aHW 1 none ∈ W0 := xR (aFj (List.mem_of_getElem? (i := 68) rfl)) rfl
theorem q_1018 : Cond.instanceMethod yX3_init ∈ W0 := xR (aFj (List.mem_of_getElem? (i := 67) rfl)) rfl
theorem q_1019 : Cond.classLink RX0 18 RX2 ∈ W0 := xR (aFj (List.mem_of_getElem? (i := 120) rfl)) rfl
theorem q_1020 : Cond.instantiable RX2 8 ∈ W0 := xR (aFj (List.mem_of_getElem? (i := 121) rfl)) rfl
theorem q_1021 : Cond.code yX2_init cX2_init 1 none ∈ W0 := xR (aFj (List.mem_of_getElem? (i := 124) rfl)) rfl
theorem q_1022 : Cond.instanceMethod yX2_init ∈ W0 := xR (aFj (List.mem_of_getElem? (i := 123) rfl)) rfl
theorem q_1023 : Cond.classLink RX0 25 RX7 ∈ W0 := xR (aFj (List.mem_of_getElem? (i := 170) rfl)) rfl
theorem q_1024 : Cond.instantiable RX7 11 ∈ W0 := xR (aFj (List.mem_of_getElem? (i := 171) rfl)) rfl
theorem q_1025 : Cond.code yX7_init aXX 1 none ∈ W0 := xR (aFj (List.mem_of_getElem? (i := 174) rfl)) rfl
theorem q_1026 : Cond.instanceMethod yX7_init ∈ W0 := xR (aFj (List.mem_of_getElem? (i := 173) rfl)) rfl
theorem q_1027 : Cond.methodLink RX5 5 objectInit ∈ W0 := xR (aFj (List.mem_of_getElem? (i := 57) rfl)) rfl
theorem q_1028 : Cond.classLink RX5 11 RX0 ∈ W0 := xR (aFj (List.mem_of_getElem? (i := 58) rfl)) rfl
theorem q_1029 : Cond.instantiable RX0 3 ∈ W0 := xR (aFj (List.mem_of_getElem? (i := 59) rfl)) rfl
theorem q_1030 : Cond.code yX0_init cX0_init 1 none ∈ W0 := xR (aFj (List.mem_of_getElem? (i := 62) rfl)) rfl
theorem q_1031 : Cond.instanceMethod yX0_init ∈ W0 := xR (aFj (List.mem_of_getElem? (i := 61) rfl)) rfl
theorem q_1032 : Cond.fieldLink RX5 20 "WhereTheLadder$Garden" "tree" "LWhereTheLadder$Orchard;" ∈ W0 := xR (aFj (List.mem_of_getElem? (i := 225) rfl)) rfl
theorem q_1033 : Cond.methodLink RX4 3 objectInit ∈ W0 := xR (aFb (List.mem_of_getElem? (i := 43) rfl)) rfl
theorem q_1034 : Cond.arrayClass .boolean ∈ W0 := xR (aFb (List.mem_of_getElem? (i := 61) rfl)) rfl
theorem q_1035 : Cond.methodLink RX6 3 objectInit ∈ W0 := xR (aFb (List.mem_of_getElem? (i := 67) rfl)) rfl
theorem q_1036 : Cond.methodLink RX1 3 objectInit ∈ W0 := xR (aFb (List.mem_of_getElem? (i := 82) rfl)) rfl
theorem q_1037 : Cond.methodLink RX9 1 objectInit ∈ W0 := xR (aFj (List.mem_of_getElem? (i := 28) rfl)) rfl
theorem q_1038 : Cond.classLink RX9 7 RX8 ∈ W0 := xR (aFj (List.mem_of_getElem? (i := 31) rfl)) rfl
theorem q_1039 : Cond.instantiable RX8 4 ∈ W0 := xR (aFj (List.mem_of_getElem? (i := 32) rfl)) rfl
theorem q_1040 : Cond.code yX8_init cX8_init 1 none ∈ W0 := xR (aFj (List.mem_of_getElem? (i := 35) rfl)) rfl
theorem q_1041 : Cond.instanceMethod yX8_init ∈ W0 := xR (aFj (List.mem_of_getElem? (i := 34) rfl)) rfl
theorem q_1042 : Cond.classLink RX9 16 RX5 ∈ W0 := xR (aFj (List.mem_of_getElem? (i := 52) rfl)) rfl
theorem q_1043 : Cond.instantiable RX5 11 ∈ W0 := xR (aFj (List.mem_of_getElem? (i := 53) rfl)) rfl
theorem q_1044 : Cond.code yX5_init aNY 1 none ∈ W0 := xR (aFj (List.mem_of_getElem? (i := 56) rfl)) rfl
theorem q_1045 : Cond.instanceMethod yX5_init ∈ W0 := xR (aFj (List.mem_of_getElem? (i := 55) rfl)) rfl
theorem q_1046 : Cond.fieldLink RX9 23 "WhereTheLadder$Plan" "garden" "LWhereTheLadder$Garden;" ∈ W0 := xR (aFb (List.mem_of_getElem? (i := 0) rfl)) rfl
theorem q_1047 : Cond.fieldLink RX9 28 "WhereTheLadder$Garden" "tree" "LWhereTheLadder$Orchard;" ∈ W0 := xR (aFj (List.mem_of_getElem? (i := 226) rfl)) rfl
theorem q_1048 : Cond.fieldLink RX9 35 "WhereTheLadder$Garden" "now" "LWhereTheLadder$Moment;" ∈ W0 := xR (aFj (List.mem_of_getElem? (i := 228) rfl)) rfl
theorem q_1049 : Cond.classLink RX9 40 RX4 ∈ W0 := xR (aFb (List.mem_of_getElem? (i := 38) rfl)) rfl
theorem q_1050 : Cond.instantiable RX4 5 ∈ W0 := xR (aFb (List.mem_of_getElem? (i := 39) rfl)) rfl
theorem q_1051 : Cond.code yX4_init cX4_init 1 none ∈ W0 := xR (aFb (List.mem_of_getElem? (i := 42) rfl)) rfl
theorem q_1052 : Cond.instanceMethod yX4_init ∈ W0 := xR (aFb (List.mem_of_getElem? (i := 41) rfl)) rfl
theorem q_1053 : Cond.classLink RX9 47 RX6 ∈ W0 := xR (aFb (List.mem_of_getElem? (i := 62) rfl)) rfl
theorem q_1054 : Cond.instantiable RX6 2 ∈ W0 := xR (aFb (List.mem_of_getElem? (i := 63) rfl)) rfl
theorem q_1055 : Cond.code yX6_init cX6_init 1 none ∈ W0 := xR (aFb (List.mem_of_getElem? (i := 66) rfl)) rfl
theorem q_1056 : Cond.instanceMethod yX6_init ∈ W0 := xR (aFb (List.mem_of_getElem? (i := 65) rfl)) rfl
theorem q_1057 : Cond.classLink RX9 54 RX1 ∈ W0 := xR (aFb (List.mem_of_getElem? (i := 77) rfl)) rfl
theorem q_1058 : Cond.instantiable RX1 3 ∈ W0 := xR (aFb (List.mem_of_getElem? (i := 78) rfl)) rfl
theorem q_1059 : Cond.code yX1_init cX1_init 1 none ∈ W0 := xR (aFb (List.mem_of_getElem? (i := 81) rfl)) rfl
theorem q_1060 : Cond.instanceMethod yX1_init ∈ W0 := xR (aFb (List.mem_of_getElem? (i := 80) rfl)) rfl
theorem q_1061 : Cond.methodLink zX 3 objectInit ∈ W0 := xR (aGl (List.mem_of_getElem? (i := 28) rfl)) rfl
theorem q_1062 : Cond.arrayClass .byte ∈ W0 := xR (aFj (List.mem_of_getElem? (i := 223) rfl)) rfl
def WN_kind : Cond -> Bool
  | .methodLinkNest .. => true
  | .fieldLinkNest .. => true
  | .castable .. => true
  | .declares .. => true
  | _ => false
def WN : List Cond := [.methodLinkNest RX0 121 yX9_isYesOrNo "WhereTheLadder", .methodLinkNest RX0 11 yX3_init "WhereTheLadder", .methodLinkNest RX0 20 yX2_init "WhereTheLadder", .methodLinkNest RX0 27 yX7_init "WhereTheLadder", .methodLinkNest RX5 13 yX0_init "WhereTheLadder", .methodLinkNest RX9 9 yX8_init "WhereTheLadder", .methodLinkNest RX9 18 yX5_init "WhereTheLadder", .methodLinkNest RX9 42 yX4_init "WhereTheLadder", .methodLinkNest RX9 49 yX6_init "WhereTheLadder", .methodLinkNest RX9 56 yX1_init "WhereTheLadder", .castable "java/util/NoSuchElementException" "java/util/NoSuchElementException", .castable "WhereTheLadder" "java/lang/Object", .castable "WhereTheLadder$Text" "java/lang/Object", .castable "WhereTheLadder$Plan" "java/lang/Object", .castable "WhereTheLadder$Garden" "java/lang/Object", .castable "WhereTheLadder$Orchard" "java/lang/Object", .castable "WhereTheLadder$Moment" "java/lang/Object", .castable "WhereTheLadder$Rule" "java/lang/Object", .castable "WhereTheLadder$Past" "java/lang/Object", .castable "WhereTheLadder$Row" "java/lang/Object", .castable "WhereTheLadder$Marks" "java/lang/Object", .castable "WhereTheLadderModel" "java/lang/Object", .castable "java/util/NoSuchElementException" "java/lang/Object", .castable "java/lang/Throwable" "java/lang/Object", .castable "java/lang/String" "java/lang/Object", .declares ⟨"java/lang/RuntimeException", "<init>", "()V"⟩, .declares ⟨"java/lang/RuntimeException", "<init>", "(Ljava/lang/String;)V"⟩, .declares ⟨"java/lang/Exception", "<init>", "()V"⟩, .declares ⟨"java/lang/Exception", "<init>", "(Ljava/lang/String;)V"⟩, .declares ⟨"java/lang/Throwable", "<init>", "()V"⟩, .declares ⟨"java/lang/Throwable", "<init>", "(Ljava/lang/String;)V"⟩]
theorem WN_ok : WN.all WN_kind = true := rfl
theorem n_1 : Cond.methodLinkNest RX0 121 yX9_isYesOrNo "WhereTheLadder" ∈ WN := List.mem_of_getElem? (i := 0) rfl
theorem n_2 : Cond.methodLinkNest RX0 11 yX3_init "WhereTheLadder" ∈ WN := List.mem_of_getElem? (i := 1) rfl
theorem n_3 : Cond.methodLinkNest RX0 20 yX2_init "WhereTheLadder" ∈ WN := List.mem_of_getElem? (i := 2) rfl
theorem n_4 : Cond.methodLinkNest RX0 27 yX7_init "WhereTheLadder" ∈ WN := List.mem_of_getElem? (i := 3) rfl
theorem n_5 : Cond.methodLinkNest RX5 13 yX0_init "WhereTheLadder" ∈ WN := List.mem_of_getElem? (i := 4) rfl
theorem n_6 : Cond.methodLinkNest RX9 9 yX8_init "WhereTheLadder" ∈ WN := List.mem_of_getElem? (i := 5) rfl
theorem n_7 : Cond.methodLinkNest RX9 18 yX5_init "WhereTheLadder" ∈ WN := List.mem_of_getElem? (i := 6) rfl
theorem n_8 : Cond.methodLinkNest RX9 42 yX4_init "WhereTheLadder" ∈ WN := List.mem_of_getElem? (i := 7) rfl
theorem n_9 : Cond.methodLinkNest RX9 49 yX6_init "WhereTheLadder" ∈ WN := List.mem_of_getElem? (i := 8) rfl
theorem n_10 : Cond.methodLinkNest RX9 56 yX1_init "WhereTheLadder" ∈ WN := List.mem_of_getElem? (i := 9) rfl
theorem nc_0 : RX8 ≠ "java/lang/invoke/MethodHandle" /\ RX8 ≠ "java/lang/invoke/VarHandle" := by decide +kernel
theorem ds_0 : (parseMethodDescriptor "(I)I").map (fun d => d.parameters.length) = some 1 := by decide +kernel
theorem h_X8_add : yX8_add.cls ≠ "java/lang/invoke/MethodHandle" /\ yX8_add.cls ≠ "java/lang/invoke/VarHandle" /\ (parseMethodDescriptor yX8_add.desc).map (fun d => d.parameters.length) = some 1 := ⟨nc_0.1, nc_0.2, ds_0⟩
theorem ds_1 : (parseMethodDescriptor "(I)Z").map (fun d => d.parameters.length) = some 1 := by decide +kernel
theorem h_X8_cut : yX8_cut.cls ≠ "java/lang/invoke/MethodHandle" /\ yX8_cut.cls ≠ "java/lang/invoke/VarHandle" /\ (parseMethodDescriptor yX8_cut.desc).map (fun d => d.parameters.length) = some 1 := ⟨nc_0.1, nc_0.2, ds_1⟩
theorem ds_2 : (parseMethodDescriptor "()I").map (fun d => d.parameters.length) = some 0 := by decide +kernel
theorem h_X8_digitHere : yX8_digitHere.cls ≠ "java/lang/invoke/MethodHandle" /\ yX8_digitHere.cls ≠ "java/lang/invoke/VarHandle" /\ (parseMethodDescriptor yX8_digitHere.desc).map (fun d => d.parameters.length) = some 0 := ⟨nc_0.1, nc_0.2, ds_2⟩
theorem ds_3 : (parseMethodDescriptor "()V").map (fun d => d.parameters.length) = some 0 := by decide +kernel
theorem h_X8_skip : yX8_skip.cls ≠ "java/lang/invoke/MethodHandle" /\ yX8_skip.cls ≠ "java/lang/invoke/VarHandle" /\ (parseMethodDescriptor yX8_skip.desc).map (fun d => d.parameters.length) = some 0 := ⟨nc_0.1, nc_0.2, ds_3⟩
theorem h_X8_here : yX8_here.cls ≠ "java/lang/invoke/MethodHandle" /\ yX8_here.cls ≠ "java/lang/invoke/VarHandle" /\ (parseMethodDescriptor yX8_here.desc).map (fun d => d.parameters.length) = some 0 := ⟨nc_0.1, nc_0.2, ds_2⟩
theorem h_X8_readNumber : aXs.cls ≠ "java/lang/invoke/MethodHandle" /\ aXs.cls ≠ "java/lang/invoke/VarHandle" /\ (parseMethodDescriptor aXs.desc).map (fun d => d.parameters.length) = some 1 := ⟨nc_0.1, nc_0.2, ds_0⟩
theorem ds_4 : (parseMethodDescriptor "(C)Z").map (fun d => d.parameters.length) = some 1 := by decide +kernel
theorem h_X8_take : yX8_take.cls ≠ "java/lang/invoke/MethodHandle" /\ yX8_take.cls ≠ "java/lang/invoke/VarHandle" /\ (parseMethodDescriptor yX8_take.desc).map (fun d => d.parameters.length) = some 1 := ⟨nc_0.1, nc_0.2, ds_4⟩
theorem nc_1 : RX3 ≠ "java/lang/invoke/MethodHandle" /\ RX3 ≠ "java/lang/invoke/VarHandle" := by decide +kernel
theorem ds_5 : (parseMethodDescriptor "(LWhereTheLadder$Text;[I[II)Z").map (fun d => d.parameters.length) = some 4 := by decide +kernel
theorem h_X3_readPair : yX3_readPair.cls ≠ "java/lang/invoke/MethodHandle" /\ yX3_readPair.cls ≠ "java/lang/invoke/VarHandle" /\ (parseMethodDescriptor yX3_readPair.desc).map (fun d => d.parameters.length) = some 4 := ⟨nc_1.1, nc_1.2, ds_5⟩
theorem ds_6 : (parseMethodDescriptor "(LWhereTheLadder$Text;)Z").map (fun d => d.parameters.length) = some 1 := by decide +kernel
theorem h_X3_readStanding : aZi.cls ≠ "java/lang/invoke/MethodHandle" /\ aZi.cls ≠ "java/lang/invoke/VarHandle" /\ (parseMethodDescriptor aZi.desc).map (fun d => d.parameters.length) = some 1 := ⟨nc_1.1, nc_1.2, ds_6⟩
theorem h_X3_readFruit : yX3_readFruit.cls ≠ "java/lang/invoke/MethodHandle" /\ yX3_readFruit.cls ≠ "java/lang/invoke/VarHandle" /\ (parseMethodDescriptor yX3_readFruit.desc).map (fun d => d.parameters.length) = some 1 := ⟨nc_1.1, nc_1.2, ds_6⟩
theorem h_X3_readLine : yX3_readLine.cls ≠ "java/lang/invoke/MethodHandle" /\ yX3_readLine.cls ≠ "java/lang/invoke/VarHandle" /\ (parseMethodDescriptor yX3_readLine.desc).map (fun d => d.parameters.length) = some 1 := ⟨nc_1.1, nc_1.2, ds_6⟩
theorem ds_7 : (parseMethodDescriptor "(I)V").map (fun d => d.parameters.length) = some 1 := by decide +kernel
theorem h_X8_open : yX8_open.cls ≠ "java/lang/invoke/MethodHandle" /\ yX8_open.cls ≠ "java/lang/invoke/VarHandle" /\ (parseMethodDescriptor yX8_open.desc).map (fun d => d.parameters.length) = some 1 := ⟨nc_0.1, nc_0.2, ds_7⟩
theorem ds_8 : (parseMethodDescriptor "(LWhereTheLadder$Text;)I").map (fun d => d.parameters.length) = some 1 := by decide +kernel
theorem h_X3_readLines : yX3_readLines.cls ≠ "java/lang/invoke/MethodHandle" /\ yX3_readLines.cls ≠ "java/lang/invoke/VarHandle" /\ (parseMethodDescriptor yX3_readLines.desc).map (fun d => d.parameters.length) = some 1 := ⟨nc_1.1, nc_1.2, ds_8⟩
theorem h_X8_wrong : yX8_wrong.cls ≠ "java/lang/invoke/MethodHandle" /\ yX8_wrong.cls ≠ "java/lang/invoke/VarHandle" /\ (parseMethodDescriptor yX8_wrong.desc).map (fun d => d.parameters.length) = some 0 := ⟨nc_0.1, nc_0.2, ds_2⟩
theorem h_X8_clear : yX8_clear.cls ≠ "java/lang/invoke/MethodHandle" /\ yX8_clear.cls ≠ "java/lang/invoke/VarHandle" /\ (parseMethodDescriptor yX8_clear.desc).map (fun d => d.parameters.length) = some 0 := ⟨nc_0.1, nc_0.2, ds_3⟩
theorem h_X3_takeLines : yX3_takeLines.cls ≠ "java/lang/invoke/MethodHandle" /\ yX3_takeLines.cls ≠ "java/lang/invoke/VarHandle" /\ (parseMethodDescriptor yX3_takeLines.desc).map (fun d => d.parameters.length) = some 0 := ⟨nc_1.1, nc_1.2, ds_3⟩
theorem nc_2 : RX4 ≠ "java/lang/invoke/MethodHandle" /\ RX4 ≠ "java/lang/invoke/VarHandle" := by decide +kernel
theorem h_X4_forgetAll : yX4_forgetAll.cls ≠ "java/lang/invoke/MethodHandle" /\ yX4_forgetAll.cls ≠ "java/lang/invoke/VarHandle" /\ (parseMethodDescriptor yX4_forgetAll.desc).map (fun d => d.parameters.length) = some 0 := ⟨nc_2.1, nc_2.2, ds_3⟩
theorem ds_9 : (parseMethodDescriptor "()Z").map (fun d => d.parameters.length) = some 0 := by decide +kernel
theorem h_X8_isThrough : bCQ.cls ≠ "java/lang/invoke/MethodHandle" /\ bCQ.cls ≠ "java/lang/invoke/VarHandle" /\ (parseMethodDescriptor bCQ.desc).map (fun d => d.parameters.length) = some 0 := ⟨nc_0.1, nc_0.2, ds_9⟩
theorem nc_3 : RX7 ≠ "java/lang/invoke/MethodHandle" /\ RX7 ≠ "java/lang/invoke/VarHandle" := by decide +kernel
theorem h_X7_emit : yX7_emit.cls ≠ "java/lang/invoke/MethodHandle" /\ yX7_emit.cls ≠ "java/lang/invoke/VarHandle" /\ (parseMethodDescriptor yX7_emit.desc).map (fun d => d.parameters.length) = some 1 := ⟨nc_3.1, nc_3.2, ds_7⟩
theorem h_X7_readPlainThing : aVP.cls ≠ "java/lang/invoke/MethodHandle" /\ aVP.cls ≠ "java/lang/invoke/VarHandle" /\ (parseMethodDescriptor aVP.desc).map (fun d => d.parameters.length) = some 1 := ⟨nc_3.1, nc_3.2, ds_6⟩
theorem h_X7_hold : yX7_hold.cls ≠ "java/lang/invoke/MethodHandle" /\ yX7_hold.cls ≠ "java/lang/invoke/VarHandle" /\ (parseMethodDescriptor yX7_hold.desc).map (fun d => d.parameters.length) = some 1 := ⟨nc_3.1, nc_3.2, ds_7⟩
theorem h_X7_strength : yX7_strength.cls ≠ "java/lang/invoke/MethodHandle" /\ yX7_strength.cls ≠ "java/lang/invoke/VarHandle" /\ (parseMethodDescriptor yX7_strength.desc).map (fun d => d.parameters.length) = some 1 := ⟨nc_3.1, nc_3.2, ds_0⟩
theorem h_X7_settle : yX7_settle.cls ≠ "java/lang/invoke/MethodHandle" /\ yX7_settle.cls ≠ "java/lang/invoke/VarHandle" /\ (parseMethodDescriptor yX7_settle.desc).map (fun d => d.parameters.length) = some 1 := ⟨nc_3.1, nc_3.2, ds_7⟩
theorem h_X7_readBehindThing : aUC.cls ≠ "java/lang/invoke/MethodHandle" /\ aUC.cls ≠ "java/lang/invoke/VarHandle" /\ (parseMethodDescriptor aUC.desc).map (fun d => d.parameters.length) = some 1 := ⟨nc_3.1, nc_3.2, ds_6⟩
theorem h_X7_readThing : yX7_readThing.cls ≠ "java/lang/invoke/MethodHandle" /\ yX7_readThing.cls ≠ "java/lang/invoke/VarHandle" /\ (parseMethodDescriptor yX7_readThing.desc).map (fun d => d.parameters.length) = some 1 := ⟨nc_3.1, nc_3.2, ds_6⟩
theorem h_X7_read : yX7_read.cls ≠ "java/lang/invoke/MethodHandle" /\ yX7_read.cls ≠ "java/lang/invoke/VarHandle" /\ (parseMethodDescriptor yX7_read.desc).map (fun d => d.parameters.length) = some 1 := ⟨nc_3.1, nc_3.2, ds_6⟩
theorem h_X7_drop : yX7_drop.cls ≠ "java/lang/invoke/MethodHandle" /\ yX7_drop.cls ≠ "java/lang/invoke/VarHandle" /\ (parseMethodDescriptor yX7_drop.desc).map (fun d => d.parameters.length) = some 0 := ⟨nc_3.1, nc_3.2, ds_3⟩
theorem h_X3_allFruits : yX3_allFruits.cls ≠ "java/lang/invoke/MethodHandle" /\ yX3_allFruits.cls ≠ "java/lang/invoke/VarHandle" /\ (parseMethodDescriptor yX3_allFruits.desc).map (fun d => d.parameters.length) = some 0 := ⟨nc_1.1, nc_1.2, ds_2⟩
theorem h_X3_hasFruit : yX3_hasFruit.cls ≠ "java/lang/invoke/MethodHandle" /\ yX3_hasFruit.cls ≠ "java/lang/invoke/VarHandle" /\ (parseMethodDescriptor yX3_hasFruit.desc).map (fun d => d.parameters.length) = some 1 := ⟨nc_1.1, nc_1.2, ds_1⟩
theorem nc_4 : RX2 ≠ "java/lang/invoke/MethodHandle" /\ RX2 ≠ "java/lang/invoke/VarHandle" := by decide +kernel
theorem h_X2_whereIs : yX2_whereIs.cls ≠ "java/lang/invoke/MethodHandle" /\ yX2_whereIs.cls ≠ "java/lang/invoke/VarHandle" /\ (parseMethodDescriptor yX2_whereIs.desc).map (fun d => d.parameters.length) = some 1 := ⟨nc_4.1, nc_4.2, ds_0⟩
theorem nc_5 : RX0 ≠ "java/lang/invoke/MethodHandle" /\ RX0 ≠ "java/lang/invoke/VarHandle" := by decide +kernel
theorem h_X0_hanging : yX0_hanging.cls ≠ "java/lang/invoke/MethodHandle" /\ yX0_hanging.cls ≠ "java/lang/invoke/VarHandle" /\ (parseMethodDescriptor yX0_hanging.desc).map (fun d => d.parameters.length) = some 0 := ⟨nc_5.1, nc_5.2, ds_2⟩
theorem ds_10 : (parseMethodDescriptor "(II)I").map (fun d => d.parameters.length) = some 2 := by decide +kernel
theorem h_X3_lowerThan : bCO.cls ≠ "java/lang/invoke/MethodHandle" /\ bCO.cls ≠ "java/lang/invoke/VarHandle" /\ (parseMethodDescriptor bCO.desc).map (fun d => d.parameters.length) = some 2 := ⟨nc_1.1, nc_1.2, ds_10⟩
theorem aZZ : aZH.cls ≠ "java/lang/invoke/MethodHandle" /\ aZH.cls ≠ "java/lang/invoke/VarHandle" /\ (parseMethodDescriptor aZH.desc).map (fun d => d.parameters.length) = some 1 := ⟨nc_1.1, nc_1.2, ds_1⟩
theorem h_X3_downSeconds : aXP.cls ≠ "java/lang/invoke/MethodHandle" /\ aXP.cls ≠ "java/lang/invoke/VarHandle" /\ (parseMethodDescriptor aXP.desc).map (fun d => d.parameters.length) = some 1 := ⟨nc_1.1, nc_1.2, ds_0⟩
theorem ds_11 : (parseMethodDescriptor "(IIII)I").map (fun d => d.parameters.length) = some 4 := by decide +kernel
theorem h_X3_fillWorths : yX3_fillWorths.cls ≠ "java/lang/invoke/MethodHandle" /\ yX3_fillWorths.cls ≠ "java/lang/invoke/VarHandle" /\ (parseMethodDescriptor yX3_fillWorths.desc).map (fun d => d.parameters.length) = some 4 := ⟨nc_1.1, nc_1.2, ds_11⟩
theorem ds_12 : (parseMethodDescriptor "([II)V").map (fun d => d.parameters.length) = some 2 := by decide +kernel
theorem h_X2_write : yX2_write.cls ≠ "java/lang/invoke/MethodHandle" /\ yX2_write.cls ≠ "java/lang/invoke/VarHandle" /\ (parseMethodDescriptor yX2_write.desc).map (fun d => d.parameters.length) = some 2 := ⟨nc_4.1, nc_4.2, ds_12⟩
theorem h_X3_moveSeconds : aXQ.cls ≠ "java/lang/invoke/MethodHandle" /\ aXQ.cls ≠ "java/lang/invoke/VarHandle" /\ (parseMethodDescriptor aXQ.desc).map (fun d => d.parameters.length) = some 2 := ⟨nc_1.1, nc_1.2, ds_10⟩
theorem h_X2_emptyApron : yX2_emptyApron.cls ≠ "java/lang/invoke/MethodHandle" /\ yX2_emptyApron.cls ≠ "java/lang/invoke/VarHandle" /\ (parseMethodDescriptor yX2_emptyApron.desc).map (fun d => d.parameters.length) = some 0 := ⟨nc_4.1, nc_4.2, ds_3⟩
theorem h_X2_spend : yX2_spend.cls ≠ "java/lang/invoke/MethodHandle" /\ yX2_spend.cls ≠ "java/lang/invoke/VarHandle" /\ (parseMethodDescriptor yX2_spend.desc).map (fun d => d.parameters.length) = some 1 := ⟨nc_4.1, nc_4.2, ds_7⟩
theorem h_X4_hold : yX4_hold.cls ≠ "java/lang/invoke/MethodHandle" /\ yX4_hold.cls ≠ "java/lang/invoke/VarHandle" /\ (parseMethodDescriptor yX4_hold.desc).map (fun d => d.parameters.length) = some 0 := ⟨nc_2.1, nc_2.2, ds_3⟩
theorem ds_13 : (parseMethodDescriptor "(LWhereTheLadder$Moment;)V").map (fun d => d.parameters.length) = some 1 := by decide +kernel
theorem h_X4_note : yX4_note.cls ≠ "java/lang/invoke/MethodHandle" /\ yX4_note.cls ≠ "java/lang/invoke/VarHandle" /\ (parseMethodDescriptor yX4_note.desc).map (fun d => d.parameters.length) = some 1 := ⟨nc_2.1, nc_2.2, ds_13⟩
theorem h_X0_setLadder : yX0_setLadder.cls ≠ "java/lang/invoke/MethodHandle" /\ yX0_setLadder.cls ≠ "java/lang/invoke/VarHandle" /\ (parseMethodDescriptor yX0_setLadder.desc).map (fun d => d.parameters.length) = some 1 := ⟨nc_5.1, nc_5.2, ds_0⟩
theorem nc_6 : RX9 ≠ "java/lang/invoke/MethodHandle" /\ RX9 ≠ "java/lang/invoke/VarHandle" := by decide +kernel
theorem h_X9_holdIfDone : bB4.cls ≠ "java/lang/invoke/MethodHandle" /\ bB4.cls ≠ "java/lang/invoke/VarHandle" /\ (parseMethodDescriptor bB4.desc).map (fun d => d.parameters.length) = some 1 := ⟨nc_6.1, nc_6.2, ds_0⟩
theorem h_X9_isYesOrNo : yX9_isYesOrNo.cls ≠ "java/lang/invoke/MethodHandle" /\ yX9_isYesOrNo.cls ≠ "java/lang/invoke/VarHandle" /\ (parseMethodDescriptor yX9_isYesOrNo.desc).map (fun d => d.parameters.length) = some 1 := ⟨nc_6.1, nc_6.2, ds_1⟩
theorem h_X0_setHelper : yX0_setHelper.cls ≠ "java/lang/invoke/MethodHandle" /\ yX0_setHelper.cls ≠ "java/lang/invoke/VarHandle" /\ (parseMethodDescriptor yX0_setHelper.desc).map (fun d => d.parameters.length) = some 1 := ⟨nc_5.1, nc_5.2, ds_0⟩
theorem h_X3_aside : yX3_aside.cls ≠ "java/lang/invoke/MethodHandle" /\ yX3_aside.cls ≠ "java/lang/invoke/VarHandle" /\ (parseMethodDescriptor yX3_aside.desc).map (fun d => d.parameters.length) = some 2 := ⟨nc_1.1, nc_1.2, ds_10⟩
theorem h_X3_above : yX3_above.cls ≠ "java/lang/invoke/MethodHandle" /\ yX3_above.cls ≠ "java/lang/invoke/VarHandle" /\ (parseMethodDescriptor yX3_above.desc).map (fun d => d.parameters.length) = some 2 := ⟨nc_1.1, nc_1.2, ds_10⟩
theorem h_X3_worthOf : yX3_worthOf.cls ≠ "java/lang/invoke/MethodHandle" /\ yX3_worthOf.cls ≠ "java/lang/invoke/VarHandle" /\ (parseMethodDescriptor yX3_worthOf.desc).map (fun d => d.parameters.length) = some 2 := ⟨nc_1.1, nc_1.2, ds_10⟩
theorem ds_14 : (parseMethodDescriptor "(III)I").map (fun d => d.parameters.length) = some 3 := by decide +kernel
theorem h_X7_join : yX7_join.cls ≠ "java/lang/invoke/MethodHandle" /\ yX7_join.cls ≠ "java/lang/invoke/VarHandle" /\ (parseMethodDescriptor yX7_join.desc).map (fun d => d.parameters.length) = some 3 := ⟨nc_3.1, nc_3.2, ds_14⟩
theorem h_X7_meant : yX7_meant.cls ≠ "java/lang/invoke/MethodHandle" /\ yX7_meant.cls ≠ "java/lang/invoke/VarHandle" /\ (parseMethodDescriptor yX7_meant.desc).map (fun d => d.parameters.length) = some 1 := ⟨nc_3.1, nc_3.2, ds_0⟩
theorem h_X0_worthOf : yX0_worthOf.cls ≠ "java/lang/invoke/MethodHandle" /\ yX0_worthOf.cls ≠ "java/lang/invoke/VarHandle" /\ (parseMethodDescriptor yX0_worthOf.desc).map (fun d => d.parameters.length) = some 1 := ⟨nc_5.1, nc_5.2, ds_0⟩
theorem h_X7_reckon : yX7_reckon.cls ≠ "java/lang/invoke/MethodHandle" /\ yX7_reckon.cls ≠ "java/lang/invoke/VarHandle" /\ (parseMethodDescriptor yX7_reckon.desc).map (fun d => d.parameters.length) = some 0 := ⟨nc_3.1, nc_3.2, ds_2⟩
theorem h_X3_reach : yX3_reach.cls ≠ "java/lang/invoke/MethodHandle" /\ yX3_reach.cls ≠ "java/lang/invoke/VarHandle" /\ (parseMethodDescriptor yX3_reach.desc).map (fun d => d.parameters.length) = some 2 := ⟨nc_1.1, nc_1.2, ds_10⟩
theorem ds_15 : (parseMethodDescriptor "(III)Z").map (fun d => d.parameters.length) = some 3 := by decide +kernel
theorem h_X3_isWithin : yX3_isWithin.cls ≠ "java/lang/invoke/MethodHandle" /\ yX3_isWithin.cls ≠ "java/lang/invoke/VarHandle" /\ (parseMethodDescriptor yX3_isWithin.desc).map (fun d => d.parameters.length) = some 3 := ⟨nc_1.1, nc_1.2, ds_15⟩
theorem nc_7 : RJ6 ≠ "java/lang/invoke/MethodHandle" /\ RJ6 ≠ "java/lang/invoke/VarHandle" := by decide +kernel
theorem aBw : aPX.cls ≠ "java/lang/invoke/MethodHandle" /\ aPX.cls ≠ "java/lang/invoke/VarHandle" /\ (parseMethodDescriptor aPX.desc).map (fun d => d.parameters.length) = some 1 := ⟨nc_7.1, nc_7.2, ds_0⟩
theorem h_X0_pickSeconds : aXO.cls ≠ "java/lang/invoke/MethodHandle" /\ aXO.cls ≠ "java/lang/invoke/VarHandle" /\ (parseMethodDescriptor aXO.desc).map (fun d => d.parameters.length) = some 4 := ⟨nc_5.1, nc_5.2, ds_11⟩
theorem h_X0_pickFruit : yX0_pickFruit.cls ≠ "java/lang/invoke/MethodHandle" /\ yX0_pickFruit.cls ≠ "java/lang/invoke/VarHandle" /\ (parseMethodDescriptor yX0_pickFruit.desc).map (fun d => d.parameters.length) = some 2 := ⟨nc_5.1, nc_5.2, ds_10⟩
theorem h_X0_goDown : yX0_goDown.cls ≠ "java/lang/invoke/MethodHandle" /\ yX0_goDown.cls ≠ "java/lang/invoke/VarHandle" /\ (parseMethodDescriptor yX0_goDown.desc).map (fun d => d.parameters.length) = some 0 := ⟨nc_5.1, nc_5.2, ds_2⟩
theorem h_X3_within : yX3_within.cls ≠ "java/lang/invoke/MethodHandle" /\ yX3_within.cls ≠ "java/lang/invoke/VarHandle" /\ (parseMethodDescriptor yX3_within.desc).map (fun d => d.parameters.length) = some 2 := ⟨nc_1.1, nc_1.2, ds_10⟩
theorem h_X3_ripeBy : yX3_ripeBy.cls ≠ "java/lang/invoke/MethodHandle" /\ yX3_ripeBy.cls ≠ "java/lang/invoke/VarHandle" /\ (parseMethodDescriptor yX3_ripeBy.desc).map (fun d => d.parameters.length) = some 1 := ⟨nc_1.1, nc_1.2, ds_0⟩
theorem h_X0_readyHere : bCN.cls ≠ "java/lang/invoke/MethodHandle" /\ bCN.cls ≠ "java/lang/invoke/VarHandle" /\ (parseMethodDescriptor bCN.desc).map (fun d => d.parameters.length) = some 0 := ⟨nc_5.1, nc_5.2, ds_2⟩
theorem h_X0_shakeTree : yX0_shakeTree.cls ≠ "java/lang/invoke/MethodHandle" /\ yX0_shakeTree.cls ≠ "java/lang/invoke/VarHandle" /\ (parseMethodDescriptor yX0_shakeTree.desc).map (fun d => d.parameters.length) = some 0 := ⟨nc_5.1, nc_5.2, ds_2⟩
theorem h_X0_sleepOver : yX0_sleepOver.cls ≠ "java/lang/invoke/MethodHandle" /\ yX0_sleepOver.cls ≠ "java/lang/invoke/VarHandle" /\ (parseMethodDescriptor yX0_sleepOver.desc).map (fun d => d.parameters.length) = some 0 := ⟨nc_5.1, nc_5.2, ds_2⟩
theorem nc_8 : RX6 ≠ "java/lang/invoke/MethodHandle" /\ RX6 ≠ "java/lang/invoke/VarHandle" := by decide +kernel
theorem h_X6_clear : yX6_clear.cls ≠ "java/lang/invoke/MethodHandle" /\ yX6_clear.cls ≠ "java/lang/invoke/VarHandle" /\ (parseMethodDescriptor yX6_clear.desc).map (fun d => d.parameters.length) = some 0 := ⟨nc_8.1, nc_8.2, ds_3⟩
theorem h_X6_add : yX6_add.cls ≠ "java/lang/invoke/MethodHandle" /\ yX6_add.cls ≠ "java/lang/invoke/VarHandle" /\ (parseMethodDescriptor yX6_add.desc).map (fun d => d.parameters.length) = some 1 := ⟨nc_8.1, nc_8.2, ds_7⟩
theorem h_X9_tell : yX9_tell.cls ≠ "java/lang/invoke/MethodHandle" /\ yX9_tell.cls ≠ "java/lang/invoke/VarHandle" /\ (parseMethodDescriptor yX9_tell.desc).map (fun d => d.parameters.length) = some 1 := ⟨nc_6.1, nc_6.2, ds_7⟩
theorem ds_16 : (parseMethodDescriptor "(II)V").map (fun d => d.parameters.length) = some 2 := by decide +kernel
theorem h_X9_tell_ : yX9_tell_.cls ≠ "java/lang/invoke/MethodHandle" /\ yX9_tell_.cls ≠ "java/lang/invoke/VarHandle" /\ (parseMethodDescriptor yX9_tell_.desc).map (fun d => d.parameters.length) = some 2 := ⟨nc_6.1, nc_6.2, ds_16⟩
theorem h_X9_doAct : yX9_doAct.cls ≠ "java/lang/invoke/MethodHandle" /\ yX9_doAct.cls ≠ "java/lang/invoke/VarHandle" /\ (parseMethodDescriptor yX9_doAct.desc).map (fun d => d.parameters.length) = some 2 := ⟨nc_6.1, nc_6.2, ds_10⟩
theorem h_X9_readAct : yX9_readAct.cls ≠ "java/lang/invoke/MethodHandle" /\ yX9_readAct.cls ≠ "java/lang/invoke/VarHandle" /\ (parseMethodDescriptor yX9_readAct.desc).map (fun d => d.parameters.length) = some 0 := ⟨nc_6.1, nc_6.2, ds_2⟩
theorem h_X9_readActs : yX9_readActs.cls ≠ "java/lang/invoke/MethodHandle" /\ yX9_readActs.cls ≠ "java/lang/invoke/VarHandle" /\ (parseMethodDescriptor yX9_readActs.desc).map (fun d => d.parameters.length) = some 0 := ⟨nc_6.1, nc_6.2, ds_2⟩
theorem h_X9_doActs : yX9_doActs.cls ≠ "java/lang/invoke/MethodHandle" /\ yX9_doActs.cls ≠ "java/lang/invoke/VarHandle" /\ (parseMethodDescriptor yX9_doActs.desc).map (fun d => d.parameters.length) = some 1 := ⟨nc_6.1, nc_6.2, ds_0⟩
theorem h_X2_read : yX2_read.cls ≠ "java/lang/invoke/MethodHandle" /\ yX2_read.cls ≠ "java/lang/invoke/VarHandle" /\ (parseMethodDescriptor yX2_read.desc).map (fun d => d.parameters.length) = some 2 := ⟨nc_4.1, nc_4.2, ds_12⟩
theorem h_X4_goBack : yX4_goBack.cls ≠ "java/lang/invoke/MethodHandle" /\ yX4_goBack.cls ≠ "java/lang/invoke/VarHandle" /\ (parseMethodDescriptor yX4_goBack.desc).map (fun d => d.parameters.length) = some 1 := ⟨nc_2.1, nc_2.2, ds_13⟩
theorem aLo : aUc.cls ≠ "java/lang/invoke/MethodHandle" /\ aUc.cls ≠ "java/lang/invoke/VarHandle" /\ (parseMethodDescriptor aUc.desc).map (fun d => d.parameters.length) = some 0 := ⟨nc_1.1, nc_1.2, ds_2⟩
theorem nc_9 : RX5 ≠ "java/lang/invoke/MethodHandle" /\ RX5 ≠ "java/lang/invoke/VarHandle" := by decide +kernel
theorem h_X5_reachedBy : yX5_reachedBy.cls ≠ "java/lang/invoke/MethodHandle" /\ yX5_reachedBy.cls ≠ "java/lang/invoke/VarHandle" /\ (parseMethodDescriptor yX5_reachedBy.desc).map (fun d => d.parameters.length) = some 1 := ⟨nc_9.1, nc_9.2, ds_0⟩
theorem h_X5_lookAs : yX5_lookAs.cls ≠ "java/lang/invoke/MethodHandle" /\ yX5_lookAs.cls ≠ "java/lang/invoke/VarHandle" /\ (parseMethodDescriptor yX5_lookAs.desc).map (fun d => d.parameters.length) = some 2 := ⟨nc_9.1, nc_9.2, ds_16⟩
theorem h_X5_look : yX5_look.cls ≠ "java/lang/invoke/MethodHandle" /\ yX5_look.cls ≠ "java/lang/invoke/VarHandle" /\ (parseMethodDescriptor yX5_look.desc).map (fun d => d.parameters.length) = some 0 := ⟨nc_9.1, nc_9.2, ds_3⟩
theorem h_X5_wantedFrom : bB3.cls ≠ "java/lang/invoke/MethodHandle" /\ bB3.cls ≠ "java/lang/invoke/VarHandle" /\ (parseMethodDescriptor bB3.desc).map (fun d => d.parameters.length) = some 1 := ⟨nc_9.1, nc_9.2, ds_0⟩
theorem h_X3_leanNeeded : yX3_leanNeeded.cls ≠ "java/lang/invoke/MethodHandle" /\ yX3_leanNeeded.cls ≠ "java/lang/invoke/VarHandle" /\ (parseMethodDescriptor yX3_leanNeeded.desc).map (fun d => d.parameters.length) = some 2 := ⟨nc_1.1, nc_1.2, ds_10⟩
theorem ds_17 : (parseMethodDescriptor "(II)Z").map (fun d => d.parameters.length) = some 2 := by decide +kernel
theorem h_X5_isEarlier : yX5_isEarlier.cls ≠ "java/lang/invoke/MethodHandle" /\ yX5_isEarlier.cls ≠ "java/lang/invoke/VarHandle" /\ (parseMethodDescriptor yX5_isEarlier.desc).map (fun d => d.parameters.length) = some 2 := ⟨nc_9.1, nc_9.2, ds_17⟩
theorem h_X5_smallestCover : aYI.cls ≠ "java/lang/invoke/MethodHandle" /\ aYI.cls ≠ "java/lang/invoke/VarHandle" /\ (parseMethodDescriptor aYI.desc).map (fun d => d.parameters.length) = some 2 := ⟨nc_9.1, nc_9.2, ds_10⟩
theorem h_X9_tellMembers : aZK.cls ≠ "java/lang/invoke/MethodHandle" /\ aZK.cls ≠ "java/lang/invoke/VarHandle" /\ (parseMethodDescriptor aZK.desc).map (fun d => d.parameters.length) = some 1 := ⟨nc_6.1, nc_6.2, ds_0⟩
theorem h_X5_worthLeft : yX5_worthLeft.cls ≠ "java/lang/invoke/MethodHandle" /\ yX5_worthLeft.cls ≠ "java/lang/invoke/VarHandle" /\ (parseMethodDescriptor yX5_worthLeft.desc).map (fun d => d.parameters.length) = some 1 := ⟨nc_9.1, nc_9.2, ds_0⟩
theorem h_X9_isFewer : yX9_isFewer.cls ≠ "java/lang/invoke/MethodHandle" /\ yX9_isFewer.cls ≠ "java/lang/invoke/VarHandle" /\ (parseMethodDescriptor yX9_isFewer.desc).map (fun d => d.parameters.length) = some 2 := ⟨nc_6.1, nc_6.2, ds_17⟩
theorem h_X3_areStandings : aZh.cls ≠ "java/lang/invoke/MethodHandle" /\ aZh.cls ≠ "java/lang/invoke/VarHandle" /\ (parseMethodDescriptor aZh.desc).map (fun d => d.parameters.length) = some 1 := ⟨nc_1.1, nc_1.2, ds_1⟩
theorem h_X3_waySeconds : aZJ.cls ≠ "java/lang/invoke/MethodHandle" /\ aZJ.cls ≠ "java/lang/invoke/VarHandle" /\ (parseMethodDescriptor aZJ.desc).map (fun d => d.parameters.length) = some 2 := ⟨nc_1.1, nc_1.2, ds_10⟩
theorem h_X0_withoutLadder : aVA.cls ≠ "java/lang/invoke/MethodHandle" /\ aVA.cls ≠ "java/lang/invoke/VarHandle" /\ (parseMethodDescriptor aVA.desc).map (fun d => d.parameters.length) = some 1 := ⟨nc_5.1, nc_5.2, ds_0⟩
theorem h_X3_firstOfWay : yX3_firstOfWay.cls ≠ "java/lang/invoke/MethodHandle" /\ yX3_firstOfWay.cls ≠ "java/lang/invoke/VarHandle" /\ (parseMethodDescriptor yX3_firstOfWay.desc).map (fun d => d.parameters.length) = some 3 := ⟨nc_1.1, nc_1.2, ds_14⟩
theorem h_X3_downsSeconds : aXr.cls ≠ "java/lang/invoke/MethodHandle" /\ aXr.cls ≠ "java/lang/invoke/VarHandle" /\ (parseMethodDescriptor aXr.desc).map (fun d => d.parameters.length) = some 2 := ⟨nc_1.1, nc_1.2, ds_10⟩
theorem h_X5_quickest : yX5_quickest.cls ≠ "java/lang/invoke/MethodHandle" /\ yX5_quickest.cls ≠ "java/lang/invoke/VarHandle" /\ (parseMethodDescriptor yX5_quickest.desc).map (fun d => d.parameters.length) = some 2 := ⟨nc_9.1, nc_9.2, ds_10⟩
theorem h_X5_timeAll : yX5_timeAll.cls ≠ "java/lang/invoke/MethodHandle" /\ yX5_timeAll.cls ≠ "java/lang/invoke/VarHandle" /\ (parseMethodDescriptor yX5_timeAll.desc).map (fun d => d.parameters.length) = some 0 := ⟨nc_9.1, nc_9.2, ds_3⟩
theorem h_X5_workSeconds : bCP.cls ≠ "java/lang/invoke/MethodHandle" /\ bCP.cls ≠ "java/lang/invoke/VarHandle" /\ (parseMethodDescriptor bCP.desc).map (fun d => d.parameters.length) = some 1 := ⟨nc_9.1, nc_9.2, ds_0⟩
theorem ds_18 : (parseMethodDescriptor "(III)V").map (fun d => d.parameters.length) = some 3 := by decide +kernel
theorem h_X9_tell__ : yX9_tell__.cls ≠ "java/lang/invoke/MethodHandle" /\ yX9_tell__.cls ≠ "java/lang/invoke/VarHandle" /\ (parseMethodDescriptor yX9_tell__.desc).map (fun d => d.parameters.length) = some 3 := ⟨nc_6.1, nc_6.2, ds_18⟩
theorem h_X5_addToDusk : yX5_addToDusk.cls ≠ "java/lang/invoke/MethodHandle" /\ yX5_addToDusk.cls ≠ "java/lang/invoke/VarHandle" /\ (parseMethodDescriptor yX5_addToDusk.desc).map (fun d => d.parameters.length) = some 3 := ⟨nc_9.1, nc_9.2, ds_18⟩
theorem h_X5_fillDusk : yX5_fillDusk.cls ≠ "java/lang/invoke/MethodHandle" /\ yX5_fillDusk.cls ≠ "java/lang/invoke/VarHandle" /\ (parseMethodDescriptor yX5_fillDusk.desc).map (fun d => d.parameters.length) = some 1 := ⟨nc_9.1, nc_9.2, ds_7⟩
theorem h_X5_duskWorth : yX5_duskWorth.cls ≠ "java/lang/invoke/MethodHandle" /\ yX5_duskWorth.cls ≠ "java/lang/invoke/VarHandle" /\ (parseMethodDescriptor yX5_duskWorth.desc).map (fun d => d.parameters.length) = some 1 := ⟨nc_9.1, nc_9.2, ds_0⟩
theorem h_X5_duskFruits : yX5_duskFruits.cls ≠ "java/lang/invoke/MethodHandle" /\ yX5_duskFruits.cls ≠ "java/lang/invoke/VarHandle" /\ (parseMethodDescriptor yX5_duskFruits.desc).map (fun d => d.parameters.length) = some 1 := ⟨nc_9.1, nc_9.2, ds_0⟩
theorem h_X3_firstUncovering : aUB.cls ≠ "java/lang/invoke/MethodHandle" /\ aUB.cls ≠ "java/lang/invoke/VarHandle" /\ (parseMethodDescriptor aUB.desc).map (fun d => d.parameters.length) = some 2 := ⟨nc_1.1, nc_1.2, ds_10⟩
theorem h_X5_loadFirsts : yX5_loadFirsts.cls ≠ "java/lang/invoke/MethodHandle" /\ yX5_loadFirsts.cls ≠ "java/lang/invoke/VarHandle" /\ (parseMethodDescriptor yX5_loadFirsts.desc).map (fun d => d.parameters.length) = some 1 := ⟨nc_9.1, nc_9.2, ds_7⟩
theorem h_X5_loadOf : yX5_loadOf.cls ≠ "java/lang/invoke/MethodHandle" /\ yX5_loadOf.cls ≠ "java/lang/invoke/VarHandle" /\ (parseMethodDescriptor yX5_loadOf.desc).map (fun d => d.parameters.length) = some 1 := ⟨nc_9.1, nc_9.2, ds_0⟩
theorem h_X0_ripeFirst : yX0_ripeFirst.cls ≠ "java/lang/invoke/MethodHandle" /\ yX0_ripeFirst.cls ≠ "java/lang/invoke/VarHandle" /\ (parseMethodDescriptor yX0_ripeFirst.desc).map (fun d => d.parameters.length) = some 1 := ⟨nc_5.1, nc_5.2, ds_0⟩
theorem h_X3_standingsAt : aZI.cls ≠ "java/lang/invoke/MethodHandle" /\ aZI.cls ≠ "java/lang/invoke/VarHandle" /\ (parseMethodDescriptor aZI.desc).map (fun d => d.parameters.length) = some 2 := ⟨nc_1.1, nc_1.2, ds_10⟩
theorem nc_10 : RX1 ≠ "java/lang/invoke/MethodHandle" /\ RX1 ≠ "java/lang/invoke/VarHandle" := by decide +kernel
theorem h_X1_firstFor : yX1_firstFor.cls ≠ "java/lang/invoke/MethodHandle" /\ yX1_firstFor.cls ≠ "java/lang/invoke/VarHandle" /\ (parseMethodDescriptor yX1_firstFor.desc).map (fun d => d.parameters.length) = some 2 := ⟨nc_10.1, nc_10.2, ds_10⟩
theorem h_X1_readAll : yX1_readAll.cls ≠ "java/lang/invoke/MethodHandle" /\ yX1_readAll.cls ≠ "java/lang/invoke/VarHandle" /\ (parseMethodDescriptor yX1_readAll.desc).map (fun d => d.parameters.length) = some 1 := ⟨nc_10.1, nc_10.2, ds_6⟩
theorem ds_19 : (parseMethodDescriptor "(LWhereTheLadder$Orchard;I)I").map (fun d => d.parameters.length) = some 2 := by decide +kernel
theorem h_X1_countRows : yX1_countRows.cls ≠ "java/lang/invoke/MethodHandle" /\ yX1_countRows.cls ≠ "java/lang/invoke/VarHandle" /\ (parseMethodDescriptor yX1_countRows.desc).map (fun d => d.parameters.length) = some 2 := ⟨nc_10.1, nc_10.2, ds_19⟩
theorem h_X9_tellLeastMarks : aR7.cls ≠ "java/lang/invoke/MethodHandle" /\ aR7.cls ≠ "java/lang/invoke/VarHandle" /\ (parseMethodDescriptor aR7.desc).map (fun d => d.parameters.length) = some 1 := ⟨nc_6.1, nc_6.2, ds_7⟩
theorem h_X5_isFitting : yX5_isFitting.cls ≠ "java/lang/invoke/MethodHandle" /\ yX5_isFitting.cls ≠ "java/lang/invoke/VarHandle" /\ (parseMethodDescriptor yX5_isFitting.desc).map (fun d => d.parameters.length) = some 2 := ⟨nc_9.1, nc_9.2, ds_17⟩
theorem ds_20 : (parseMethodDescriptor "(ILWhereTheLadder$Moment;)Z").map (fun d => d.parameters.length) = some 2 := by decide +kernel
theorem h_X4_store : yX4_store.cls ≠ "java/lang/invoke/MethodHandle" /\ yX4_store.cls ≠ "java/lang/invoke/VarHandle" /\ (parseMethodDescriptor yX4_store.desc).map (fun d => d.parameters.length) = some 2 := ⟨nc_2.1, nc_2.2, ds_20⟩
theorem h_X4_fetch : yX4_fetch.cls ≠ "java/lang/invoke/MethodHandle" /\ yX4_fetch.cls ≠ "java/lang/invoke/VarHandle" /\ (parseMethodDescriptor yX4_fetch.desc).map (fun d => d.parameters.length) = some 2 := ⟨nc_2.1, nc_2.2, ds_20⟩
theorem aEL : zX ≠ "java/lang/invoke/MethodHandle" /\ zX ≠ "java/lang/invoke/VarHandle" := by decide +kernel
theorem aRx : yX10_in.cls ≠ "java/lang/invoke/MethodHandle" /\ yX10_in.cls ≠ "java/lang/invoke/VarHandle" /\ (parseMethodDescriptor yX10_in.desc).map (fun d => d.parameters.length) = some 3 := ⟨aEL.1, aEL.2, ds_15⟩
theorem h_X10_fine : yX10_fine.cls ≠ "java/lang/invoke/MethodHandle" /\ yX10_fine.cls ≠ "java/lang/invoke/VarHandle" /\ (parseMethodDescriptor yX10_fine.desc).map (fun d => d.parameters.length) = some 0 := ⟨aEL.1, aEL.2, ds_9⟩
theorem h_X10_fault : yX10_fault.cls ≠ "java/lang/invoke/MethodHandle" /\ yX10_fault.cls ≠ "java/lang/invoke/VarHandle" /\ (parseMethodDescriptor yX10_fault.desc).map (fun d => d.parameters.length) = some 1 := ⟨aEL.1, aEL.2, ds_7⟩
theorem h_X10_here : yX10_here.cls ≠ "java/lang/invoke/MethodHandle" /\ yX10_here.cls ≠ "java/lang/invoke/VarHandle" /\ (parseMethodDescriptor yX10_here.desc).map (fun d => d.parameters.length) = some 0 := ⟨aEL.1, aEL.2, ds_2⟩
theorem h_X10_passes : yX10_passes.cls ≠ "java/lang/invoke/MethodHandle" /\ yX10_passes.cls ≠ "java/lang/invoke/VarHandle" /\ (parseMethodDescriptor yX10_passes.desc).map (fun d => d.parameters.length) = some 1 := ⟨aEL.1, aEL.2, ds_4⟩
theorem h_X10_number : yX10_number.cls ≠ "java/lang/invoke/MethodHandle" /\ yX10_number.cls ≠ "java/lang/invoke/VarHandle" /\ (parseMethodDescriptor yX10_number.desc).map (fun d => d.parameters.length) = some 1 := ⟨aEL.1, aEL.2, ds_0⟩
theorem ds_21 : (parseMethodDescriptor "(C)V").map (fun d => d.parameters.length) = some 1 := by decide +kernel
theorem h_X10_need : yX10_need.cls ≠ "java/lang/invoke/MethodHandle" /\ yX10_need.cls ≠ "java/lang/invoke/VarHandle" /\ (parseMethodDescriptor yX10_need.desc).map (fun d => d.parameters.length) = some 1 := ⟨aEL.1, aEL.2, ds_21⟩
theorem ds_22 : (parseMethodDescriptor "([BII)V").map (fun d => d.parameters.length) = some 3 := by decide +kernel
theorem h_X10_begin : yX10_begin.cls ≠ "java/lang/invoke/MethodHandle" /\ yX10_begin.cls ≠ "java/lang/invoke/VarHandle" /\ (parseMethodDescriptor yX10_begin.desc).map (fun d => d.parameters.length) = some 3 := ⟨aEL.1, aEL.2, ds_22⟩
theorem h_X10_readLine : yX10_readLine.cls ≠ "java/lang/invoke/MethodHandle" /\ yX10_readLine.cls ≠ "java/lang/invoke/VarHandle" /\ (parseMethodDescriptor yX10_readLine.desc).map (fun d => d.parameters.length) = some 0 := ⟨aEL.1, aEL.2, ds_3⟩
theorem h_X10_far : yX10_far.cls ≠ "java/lang/invoke/MethodHandle" /\ yX10_far.cls ≠ "java/lang/invoke/VarHandle" /\ (parseMethodDescriptor yX10_far.desc).map (fun d => d.parameters.length) = some 2 := ⟨aEL.1, aEL.2, ds_10⟩
theorem h_X10_above : yX10_above.cls ≠ "java/lang/invoke/MethodHandle" /\ yX10_above.cls ≠ "java/lang/invoke/VarHandle" /\ (parseMethodDescriptor yX10_above.desc).map (fun d => d.parameters.length) = some 2 := ⟨aEL.1, aEL.2, ds_10⟩
theorem h_X10_valueOf : yX10_valueOf.cls ≠ "java/lang/invoke/MethodHandle" /\ yX10_valueOf.cls ≠ "java/lang/invoke/VarHandle" /\ (parseMethodDescriptor yX10_valueOf.desc).map (fun d => d.parameters.length) = some 1 := ⟨aEL.1, aEL.2, ds_0⟩
theorem h_X10_held : yX10_held.cls ≠ "java/lang/invoke/MethodHandle" /\ yX10_held.cls ≠ "java/lang/invoke/VarHandle" /\ (parseMethodDescriptor yX10_held.desc).map (fun d => d.parameters.length) = some 1 := ⟨aEL.1, aEL.2, ds_0⟩
theorem h_X10_thing : yX10_thing.cls ≠ "java/lang/invoke/MethodHandle" /\ yX10_thing.cls ≠ "java/lang/invoke/VarHandle" /\ (parseMethodDescriptor yX10_thing.desc).map (fun d => d.parameters.length) = some 1 := ⟨aEL.1, aEL.2, ds_0⟩
theorem h_X10_product : yX10_product.cls ≠ "java/lang/invoke/MethodHandle" /\ yX10_product.cls ≠ "java/lang/invoke/VarHandle" /\ (parseMethodDescriptor yX10_product.desc).map (fun d => d.parameters.length) = some 1 := ⟨aEL.1, aEL.2, ds_0⟩
theorem h_X10_sum : yX10_sum.cls ≠ "java/lang/invoke/MethodHandle" /\ yX10_sum.cls ≠ "java/lang/invoke/VarHandle" /\ (parseMethodDescriptor yX10_sum.desc).map (fun d => d.parameters.length) = some 1 := ⟨aEL.1, aEL.2, ds_0⟩
theorem aUT : yX10_has.cls ≠ "java/lang/invoke/MethodHandle" /\ yX10_has.cls ≠ "java/lang/invoke/VarHandle" /\ (parseMethodDescriptor yX10_has.desc).map (fun d => d.parameters.length) = some 2 := ⟨aEL.1, aEL.2, ds_17⟩
theorem h_X10_isBelow : yX10_isBelow.cls ≠ "java/lang/invoke/MethodHandle" /\ yX10_isBelow.cls ≠ "java/lang/invoke/VarHandle" /\ (parseMethodDescriptor yX10_isBelow.desc).map (fun d => d.parameters.length) = some 2 := ⟨aEL.1, aEL.2, ds_17⟩
theorem h_X10_isFruit : yX10_isFruit.cls ≠ "java/lang/invoke/MethodHandle" /\ yX10_isFruit.cls ≠ "java/lang/invoke/VarHandle" /\ (parseMethodDescriptor yX10_isFruit.desc).map (fun d => d.parameters.length) = some 1 := ⟨aEL.1, aEL.2, ds_1⟩
theorem h_X10_lost : yX10_lost.cls ≠ "java/lang/invoke/MethodHandle" /\ yX10_lost.cls ≠ "java/lang/invoke/VarHandle" /\ (parseMethodDescriptor yX10_lost.desc).map (fun d => d.parameters.length) = some 0 := ⟨aEL.1, aEL.2, ds_2⟩
theorem ds_23 : (parseMethodDescriptor "([II)I").map (fun d => d.parameters.length) = some 2 := by decide +kernel
theorem aRR : yX10_which.cls ≠ "java/lang/invoke/MethodHandle" /\ yX10_which.cls ≠ "java/lang/invoke/VarHandle" /\ (parseMethodDescriptor yX10_which.desc).map (fun d => d.parameters.length) = some 2 := ⟨aEL.1, aEL.2, ds_23⟩
theorem h_X10_below : yX10_below.cls ≠ "java/lang/invoke/MethodHandle" /\ yX10_below.cls ≠ "java/lang/invoke/VarHandle" /\ (parseMethodDescriptor yX10_below.desc).map (fun d => d.parameters.length) = some 2 := ⟨aEL.1, aEL.2, ds_10⟩
theorem aZY : aZD.cls ≠ "java/lang/invoke/MethodHandle" /\ aZD.cls ≠ "java/lang/invoke/VarHandle" /\ (parseMethodDescriptor aZD.desc).map (fun d => d.parameters.length) = some 1 := ⟨aEL.1, aEL.2, ds_1⟩
theorem h_X10_downOf : yX10_downOf.cls ≠ "java/lang/invoke/MethodHandle" /\ yX10_downOf.cls ≠ "java/lang/invoke/VarHandle" /\ (parseMethodDescriptor yX10_downOf.desc).map (fun d => d.parameters.length) = some 1 := ⟨aEL.1, aEL.2, ds_0⟩
theorem ds_24 : (parseMethodDescriptor "([I[II)V").map (fun d => d.parameters.length) = some 3 := by decide +kernel
theorem h_X10_lay : yX10_lay.cls ≠ "java/lang/invoke/MethodHandle" /\ yX10_lay.cls ≠ "java/lang/invoke/VarHandle" /\ (parseMethodDescriptor yX10_lay.desc).map (fun d => d.parameters.length) = some 3 := ⟨aEL.1, aEL.2, ds_24⟩
theorem h_X10_moveOf : yX10_moveOf.cls ≠ "java/lang/invoke/MethodHandle" /\ yX10_moveOf.cls ≠ "java/lang/invoke/VarHandle" /\ (parseMethodDescriptor yX10_moveOf.desc).map (fun d => d.parameters.length) = some 2 := ⟨aEL.1, aEL.2, ds_10⟩
theorem h_X10_empty : yX10_empty.cls ≠ "java/lang/invoke/MethodHandle" /\ yX10_empty.cls ≠ "java/lang/invoke/VarHandle" /\ (parseMethodDescriptor yX10_empty.desc).map (fun d => d.parameters.length) = some 0 := ⟨aEL.1, aEL.2, ds_2⟩
theorem h_X10_passBy : yX10_passBy.cls ≠ "java/lang/invoke/MethodHandle" /\ yX10_passBy.cls ≠ "java/lang/invoke/VarHandle" /\ (parseMethodDescriptor yX10_passBy.desc).map (fun d => d.parameters.length) = some 1 := ⟨aEL.1, aEL.2, ds_7⟩
theorem h_X10_refusesMove : aXp.cls ≠ "java/lang/invoke/MethodHandle" /\ aXp.cls ≠ "java/lang/invoke/VarHandle" /\ (parseMethodDescriptor aXp.desc).map (fun d => d.parameters.length) = some 1 := ⟨aEL.1, aEL.2, ds_0⟩
theorem ds_25 : (parseMethodDescriptor "([I)V").map (fun d => d.parameters.length) = some 1 := by decide +kernel
theorem h_X10_remember : aZg.cls ≠ "java/lang/invoke/MethodHandle" /\ aZg.cls ≠ "java/lang/invoke/VarHandle" /\ (parseMethodDescriptor aZg.desc).map (fun d => d.parameters.length) = some 1 := ⟨aEL.1, aEL.2, ds_25⟩
theorem h_X10_goMove : yX10_goMove.cls ≠ "java/lang/invoke/MethodHandle" /\ yX10_goMove.cls ≠ "java/lang/invoke/VarHandle" /\ (parseMethodDescriptor yX10_goMove.desc).map (fun d => d.parameters.length) = some 1 := ⟨aEL.1, aEL.2, ds_0⟩
theorem h_X10_reachBy : yX10_reachBy.cls ≠ "java/lang/invoke/MethodHandle" /\ yX10_reachBy.cls ≠ "java/lang/invoke/VarHandle" /\ (parseMethodDescriptor yX10_reachBy.desc).map (fun d => d.parameters.length) = some 2 := ⟨aEL.1, aEL.2, ds_10⟩
theorem h_X10_isWithin : yX10_isWithin.cls ≠ "java/lang/invoke/MethodHandle" /\ yX10_isWithin.cls ≠ "java/lang/invoke/VarHandle" /\ (parseMethodDescriptor yX10_isWithin.desc).map (fun d => d.parameters.length) = some 3 := ⟨aEL.1, aEL.2, ds_15⟩
theorem h_X10_secondsOf : bB1.cls ≠ "java/lang/invoke/MethodHandle" /\ bB1.cls ≠ "java/lang/invoke/VarHandle" /\ (parseMethodDescriptor bB1.desc).map (fun d => d.parameters.length) = some 4 := ⟨aEL.1, aEL.2, ds_11⟩
theorem h_X10_refusesPick : aXq.cls ≠ "java/lang/invoke/MethodHandle" /\ aXq.cls ≠ "java/lang/invoke/VarHandle" /\ (parseMethodDescriptor aXq.desc).map (fun d => d.parameters.length) = some 2 := ⟨aEL.1, aEL.2, ds_10⟩
theorem h_X10_goPick : yX10_goPick.cls ≠ "java/lang/invoke/MethodHandle" /\ yX10_goPick.cls ≠ "java/lang/invoke/VarHandle" /\ (parseMethodDescriptor yX10_goPick.desc).map (fun d => d.parameters.length) = some 2 := ⟨aEL.1, aEL.2, ds_10⟩
theorem h_X10_canDown : yX10_canDown.cls ≠ "java/lang/invoke/MethodHandle" /\ yX10_canDown.cls ≠ "java/lang/invoke/VarHandle" /\ (parseMethodDescriptor yX10_canDown.desc).map (fun d => d.parameters.length) = some 0 := ⟨aEL.1, aEL.2, ds_9⟩
theorem h_X10_goDown : yX10_goDown.cls ≠ "java/lang/invoke/MethodHandle" /\ yX10_goDown.cls ≠ "java/lang/invoke/VarHandle" /\ (parseMethodDescriptor yX10_goDown.desc).map (fun d => d.parameters.length) = some 0 := ⟨aEL.1, aEL.2, ds_2⟩
theorem h_X10_reachedFrom : aXo.cls ≠ "java/lang/invoke/MethodHandle" /\ aXo.cls ≠ "java/lang/invoke/VarHandle" /\ (parseMethodDescriptor aXo.desc).map (fun d => d.parameters.length) = some 3 := ⟨aEL.1, aEL.2, ds_14⟩
theorem h_X10_ripeOnes : yX10_ripeOnes.cls ≠ "java/lang/invoke/MethodHandle" /\ yX10_ripeOnes.cls ≠ "java/lang/invoke/VarHandle" /\ (parseMethodDescriptor yX10_ripeOnes.desc).map (fun d => d.parameters.length) = some 1 := ⟨aEL.1, aEL.2, ds_0⟩
theorem h_X10_byHand : yX10_byHand.cls ≠ "java/lang/invoke/MethodHandle" /\ yX10_byHand.cls ≠ "java/lang/invoke/VarHandle" /\ (parseMethodDescriptor yX10_byHand.desc).map (fun d => d.parameters.length) = some 1 := ⟨aEL.1, aEL.2, ds_0⟩
theorem h_X10_goShake : yX10_goShake.cls ≠ "java/lang/invoke/MethodHandle" /\ yX10_goShake.cls ≠ "java/lang/invoke/VarHandle" /\ (parseMethodDescriptor yX10_goShake.desc).map (fun d => d.parameters.length) = some 0 := ⟨aEL.1, aEL.2, ds_2⟩
theorem h_X10_goSleep : yX10_goSleep.cls ≠ "java/lang/invoke/MethodHandle" /\ yX10_goSleep.cls ≠ "java/lang/invoke/VarHandle" /\ (parseMethodDescriptor yX10_goSleep.desc).map (fun d => d.parameters.length) = some 0 := ⟨aEL.1, aEL.2, ds_2⟩
theorem aGF : yX10_tell.cls ≠ "java/lang/invoke/MethodHandle" /\ yX10_tell.cls ≠ "java/lang/invoke/VarHandle" /\ (parseMethodDescriptor yX10_tell.desc).map (fun d => d.parameters.length) = some 1 := ⟨aEL.1, aEL.2, ds_7⟩
theorem h_X10_act : yX10_act.cls ≠ "java/lang/invoke/MethodHandle" /\ yX10_act.cls ≠ "java/lang/invoke/VarHandle" /\ (parseMethodDescriptor yX10_act.desc).map (fun d => d.parameters.length) = some 2 := ⟨aEL.1, aEL.2, ds_17⟩
theorem h_X10_readAct : yX10_readAct.cls ≠ "java/lang/invoke/MethodHandle" /\ yX10_readAct.cls ≠ "java/lang/invoke/VarHandle" /\ (parseMethodDescriptor yX10_readAct.desc).map (fun d => d.parameters.length) = some 1 := ⟨aEL.1, aEL.2, ds_7⟩
theorem h_X10_worthOf : yX10_worthOf.cls ≠ "java/lang/invoke/MethodHandle" /\ yX10_worthOf.cls ≠ "java/lang/invoke/VarHandle" /\ (parseMethodDescriptor yX10_worthOf.desc).map (fun d => d.parameters.length) = some 2 := ⟨aEL.1, aEL.2, ds_10⟩
theorem bCV : aZG.cls ≠ "java/lang/invoke/MethodHandle" /\ aZG.cls ≠ "java/lang/invoke/VarHandle" /\ (parseMethodDescriptor aZG.desc).map (fun d => d.parameters.length) = some 2 := ⟨aEL.1, aEL.2, ds_10⟩
theorem aKa : aVB.cls ≠ "java/lang/invoke/MethodHandle" /\ aVB.cls ≠ "java/lang/invoke/VarHandle" /\ (parseMethodDescriptor aVB.desc).map (fun d => d.parameters.length) = some 0 := ⟨aEL.1, aEL.2, ds_2⟩
theorem h_X10_handOf : yX10_handOf.cls ≠ "java/lang/invoke/MethodHandle" /\ yX10_handOf.cls ≠ "java/lang/invoke/VarHandle" /\ (parseMethodDescriptor yX10_handOf.desc).map (fun d => d.parameters.length) = some 1 := ⟨aEL.1, aEL.2, ds_0⟩
theorem h_X10_layHands_ : bB0.cls ≠ "java/lang/invoke/MethodHandle" /\ bB0.cls ≠ "java/lang/invoke/VarHandle" /\ (parseMethodDescriptor bB0.desc).map (fun d => d.parameters.length) = some 1 := ⟨aEL.1, aEL.2, ds_7⟩
theorem aQ3 : yX10_layHands.cls ≠ "java/lang/invoke/MethodHandle" /\ yX10_layHands.cls ≠ "java/lang/invoke/VarHandle" /\ (parseMethodDescriptor yX10_layHands.desc).map (fun d => d.parameters.length) = some 0 := ⟨aEL.1, aEL.2, ds_3⟩
theorem h_X10_leanOf : yX10_leanOf.cls ≠ "java/lang/invoke/MethodHandle" /\ yX10_leanOf.cls ≠ "java/lang/invoke/VarHandle" /\ (parseMethodDescriptor yX10_leanOf.desc).map (fun d => d.parameters.length) = some 2 := ⟨aEL.1, aEL.2, ds_10⟩
theorem h_J6_numberOfTrailingZeros_0f7a4 : aKQ.cls ≠ "java/lang/invoke/MethodHandle" /\ aKQ.cls ≠ "java/lang/invoke/VarHandle" /\ (parseMethodDescriptor aKQ.desc).map (fun d => d.parameters.length) = some 1 := ⟨nc_7.1, nc_7.2, ds_0⟩
theorem h_X10_isRowAhead : yX10_isRowAhead.cls ≠ "java/lang/invoke/MethodHandle" /\ yX10_isRowAhead.cls ≠ "java/lang/invoke/VarHandle" /\ (parseMethodDescriptor yX10_isRowAhead.desc).map (fun d => d.parameters.length) = some 2 := ⟨aEL.1, aEL.2, ds_17⟩
theorem h_X10_cover : yX10_cover.cls ≠ "java/lang/invoke/MethodHandle" /\ yX10_cover.cls ≠ "java/lang/invoke/VarHandle" /\ (parseMethodDescriptor yX10_cover.desc).map (fun d => d.parameters.length) = some 1 := ⟨aEL.1, aEL.2, ds_0⟩
theorem h_X10_tellCover : bB2.cls ≠ "java/lang/invoke/MethodHandle" /\ bB2.cls ≠ "java/lang/invoke/VarHandle" /\ (parseMethodDescriptor bB2.desc).map (fun d => d.parameters.length) = some 1 := ⟨aEL.1, aEL.2, ds_0⟩
theorem h_X10_leftBy : yX10_leftBy.cls ≠ "java/lang/invoke/MethodHandle" /\ yX10_leftBy.cls ≠ "java/lang/invoke/VarHandle" /\ (parseMethodDescriptor yX10_leftBy.desc).map (fun d => d.parameters.length) = some 1 := ⟨aEL.1, aEL.2, ds_0⟩
theorem h_X10_leastMoves : aZF.cls ≠ "java/lang/invoke/MethodHandle" /\ aZF.cls ≠ "java/lang/invoke/VarHandle" /\ (parseMethodDescriptor aZF.desc).map (fun d => d.parameters.length) = some 2 := ⟨aEL.1, aEL.2, ds_10⟩
theorem h_X10_layMoves : yX10_layMoves.cls ≠ "java/lang/invoke/MethodHandle" /\ yX10_layMoves.cls ≠ "java/lang/invoke/VarHandle" /\ (parseMethodDescriptor yX10_layMoves.desc).map (fun d => d.parameters.length) = some 0 := ⟨aEL.1, aEL.2, ds_3⟩
theorem h_X10_besides : yX10_besides.cls ≠ "java/lang/invoke/MethodHandle" /\ yX10_besides.cls ≠ "java/lang/invoke/VarHandle" /\ (parseMethodDescriptor yX10_besides.desc).map (fun d => d.parameters.length) = some 1 := ⟨aEL.1, aEL.2, ds_0⟩
theorem h_X10_placeOf : yX10_placeOf.cls ≠ "java/lang/invoke/MethodHandle" /\ yX10_placeOf.cls ≠ "java/lang/invoke/VarHandle" /\ (parseMethodDescriptor yX10_placeOf.desc).map (fun d => d.parameters.length) = some 1 := ⟨aEL.1, aEL.2, ds_0⟩
theorem h_X10_laySeconds : aZE.cls ≠ "java/lang/invoke/MethodHandle" /\ aZE.cls ≠ "java/lang/invoke/VarHandle" /\ (parseMethodDescriptor aZE.desc).map (fun d => d.parameters.length) = some 0 := ⟨aEL.1, aEL.2, ds_3⟩
theorem h_X10_workOf : yX10_workOf.cls ≠ "java/lang/invoke/MethodHandle" /\ yX10_workOf.cls ≠ "java/lang/invoke/VarHandle" /\ (parseMethodDescriptor yX10_workOf.desc).map (fun d => d.parameters.length) = some 1 := ⟨aEL.1, aEL.2, ds_0⟩
theorem h_X10_hereWanted : aZC.cls ≠ "java/lang/invoke/MethodHandle" /\ aZC.cls ≠ "java/lang/invoke/VarHandle" /\ (parseMethodDescriptor aZC.desc).map (fun d => d.parameters.length) = some 0 := ⟨aEL.1, aEL.2, ds_2⟩
theorem h_X10_loadOf : yX10_loadOf.cls ≠ "java/lang/invoke/MethodHandle" /\ yX10_loadOf.cls ≠ "java/lang/invoke/VarHandle" /\ (parseMethodDescriptor yX10_loadOf.desc).map (fun d => d.parameters.length) = some 1 := ⟨aEL.1, aEL.2, ds_0⟩
theorem h_X10_firstRipe : bBz.cls ≠ "java/lang/invoke/MethodHandle" /\ bBz.cls ≠ "java/lang/invoke/VarHandle" /\ (parseMethodDescriptor bBz.desc).map (fun d => d.parameters.length) = some 1 := ⟨aEL.1, aEL.2, ds_0⟩
theorem h_X10_allFruits : bBy.cls ≠ "java/lang/invoke/MethodHandle" /\ bBy.cls ≠ "java/lang/invoke/VarHandle" /\ (parseMethodDescriptor bBy.desc).map (fun d => d.parameters.length) = some 0 := ⟨aEL.1, aEL.2, ds_2⟩
theorem h_X10_draw : yX10_draw.cls ≠ "java/lang/invoke/MethodHandle" /\ yX10_draw.cls ≠ "java/lang/invoke/VarHandle" /\ (parseMethodDescriptor yX10_draw.desc).map (fun d => d.parameters.length) = some 1 := ⟨aEL.1, aEL.2, ds_0⟩
theorem nc_12 : RJ0 ≠ "java/lang/invoke/MethodHandle" /\ RJ0 ≠ "java/lang/invoke/VarHandle" := by decide +kernel
theorem h_J0_length_8abf5 : aRh.cls ≠ "java/lang/invoke/MethodHandle" /\ aRh.cls ≠ "java/lang/invoke/VarHandle" /\ (parseMethodDescriptor aRh.desc).map (fun d => d.parameters.length) = some 0 := ⟨nc_12.1, nc_12.2, ds_2⟩
theorem ds_26 : (parseMethodDescriptor "()B").map (fun d => d.parameters.length) = some 0 := by decide +kernel
theorem h_J0_coder_7d493 : aZB.cls ≠ "java/lang/invoke/MethodHandle" /\ aZB.cls ≠ "java/lang/invoke/VarHandle" /\ (parseMethodDescriptor aZB.desc).map (fun d => d.parameters.length) = some 0 := ⟨nc_12.1, nc_12.2, ds_26⟩
theorem h_J0_indexOf_0f7a4 : aRr.cls ≠ "java/lang/invoke/MethodHandle" /\ aRr.cls ≠ "java/lang/invoke/VarHandle" /\ (parseMethodDescriptor aRr.desc).map (fun d => d.parameters.length) = some 1 := ⟨nc_12.1, nc_12.2, ds_0⟩
theorem h_J0_indexOf_7cf53 : aU9.cls ≠ "java/lang/invoke/MethodHandle" /\ aU9.cls ≠ "java/lang/invoke/VarHandle" /\ (parseMethodDescriptor aU9.desc).map (fun d => d.parameters.length) = some 2 := ⟨nc_12.1, nc_12.2, ds_10⟩
theorem h_J0_isLatin1_aae02 : aR6.cls ≠ "java/lang/invoke/MethodHandle" /\ aR6.cls ≠ "java/lang/invoke/VarHandle" /\ (parseMethodDescriptor aR6.desc).map (fun d => d.parameters.length) = some 0 := ⟨nc_12.1, nc_12.2, ds_9⟩
theorem nc_13 : RJ1 ≠ "java/lang/invoke/MethodHandle" /\ RJ1 ≠ "java/lang/invoke/VarHandle" := by decide +kernel
theorem h_J1_canEncode_9a6ad : aXF.cls ≠ "java/lang/invoke/MethodHandle" /\ aXF.cls ≠ "java/lang/invoke/VarHandle" /\ (parseMethodDescriptor aXF.desc).map (fun d => d.parameters.length) = some 1 := ⟨nc_13.1, nc_13.2, ds_1⟩
theorem ds_27 : (parseMethodDescriptor "([BIII)I").map (fun d => d.parameters.length) = some 4 := by decide +kernel
theorem h_J1_indexOf_4cfef : bBU.cls ≠ "java/lang/invoke/MethodHandle" /\ bBU.cls ≠ "java/lang/invoke/VarHandle" /\ (parseMethodDescriptor bBU.desc).map (fun d => d.parameters.length) = some 4 := ⟨nc_13.1, nc_13.2, ds_27⟩
theorem h_J1_indexOfChar_4cfef : aSR.cls ≠ "java/lang/invoke/MethodHandle" /\ aSR.cls ≠ "java/lang/invoke/VarHandle" /\ (parseMethodDescriptor aSR.desc).map (fun d => d.parameters.length) = some 4 := ⟨nc_13.1, nc_13.2, ds_27⟩
theorem h_X3_init : yX3_init.cls ≠ "java/lang/invoke/MethodHandle" /\ yX3_init.cls ≠ "java/lang/invoke/VarHandle" /\ (parseMethodDescriptor yX3_init.desc).map (fun d => d.parameters.length) = some 0 := ⟨nc_1.1, nc_1.2, ds_3⟩
theorem h_X2_init : yX2_init.cls ≠ "java/lang/invoke/MethodHandle" /\ yX2_init.cls ≠ "java/lang/invoke/VarHandle" /\ (parseMethodDescriptor yX2_init.desc).map (fun d => d.parameters.length) = some 0 := ⟨nc_4.1, nc_4.2, ds_3⟩
theorem h_X7_init : yX7_init.cls ≠ "java/lang/invoke/MethodHandle" /\ yX7_init.cls ≠ "java/lang/invoke/VarHandle" /\ (parseMethodDescriptor yX7_init.desc).map (fun d => d.parameters.length) = some 0 := ⟨nc_3.1, nc_3.2, ds_3⟩
theorem h_X0_init : yX0_init.cls ≠ "java/lang/invoke/MethodHandle" /\ yX0_init.cls ≠ "java/lang/invoke/VarHandle" /\ (parseMethodDescriptor yX0_init.desc).map (fun d => d.parameters.length) = some 0 := ⟨nc_5.1, nc_5.2, ds_3⟩
theorem h_X8_init : yX8_init.cls ≠ "java/lang/invoke/MethodHandle" /\ yX8_init.cls ≠ "java/lang/invoke/VarHandle" /\ (parseMethodDescriptor yX8_init.desc).map (fun d => d.parameters.length) = some 0 := ⟨nc_0.1, nc_0.2, ds_3⟩
theorem h_X5_init : yX5_init.cls ≠ "java/lang/invoke/MethodHandle" /\ yX5_init.cls ≠ "java/lang/invoke/VarHandle" /\ (parseMethodDescriptor yX5_init.desc).map (fun d => d.parameters.length) = some 0 := ⟨nc_9.1, nc_9.2, ds_3⟩
theorem h_X4_init : yX4_init.cls ≠ "java/lang/invoke/MethodHandle" /\ yX4_init.cls ≠ "java/lang/invoke/VarHandle" /\ (parseMethodDescriptor yX4_init.desc).map (fun d => d.parameters.length) = some 0 := ⟨nc_2.1, nc_2.2, ds_3⟩
theorem h_X6_init : yX6_init.cls ≠ "java/lang/invoke/MethodHandle" /\ yX6_init.cls ≠ "java/lang/invoke/VarHandle" /\ (parseMethodDescriptor yX6_init.desc).map (fun d => d.parameters.length) = some 0 := ⟨nc_8.1, nc_8.2, ds_3⟩
theorem h_X1_init : yX1_init.cls ≠ "java/lang/invoke/MethodHandle" /\ yX1_init.cls ≠ "java/lang/invoke/VarHandle" /\ (parseMethodDescriptor yX1_init.desc).map (fun d => d.parameters.length) = some 0 := ⟨nc_10.1, nc_10.2, ds_3⟩
theorem lbz {a b : Nat} (h : Nat.ble a b = true) : a <= b := Nat.le_of_ble_eq_true h
