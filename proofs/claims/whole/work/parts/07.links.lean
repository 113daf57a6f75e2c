theorem xT_1 {w : Cond} (j : Nat) (hj : tables_1_1[j]? = some w) (g : goodWord w = true) : w ∈ xT := by
  have h := List.mem_of_getElem? hj
  exact List.mem_filter.mpr ⟨List.mem_append_right _ (show w ∈ tables_1_1 ++ (tables_1_2 ++ (tables_1_3 ++ (tables_1_4 ++ tables_1_5))) from (List.mem_append_left _ h)), g⟩
theorem xT_2 {w : Cond} (j : Nat) (hj : tables_1_2[j]? = some w) (g : goodWord w = true) : w ∈ xT := by
  have h := List.mem_of_getElem? hj
  exact List.mem_filter.mpr ⟨List.mem_append_right _ (show w ∈ tables_1_1 ++ (tables_1_2 ++ (tables_1_3 ++ (tables_1_4 ++ tables_1_5))) from (List.mem_append_right _ (List.mem_append_left _ h))), g⟩
theorem xT_3 {w : Cond} (j : Nat) (hj : tables_1_3[j]? = some w) (g : goodWord w = true) : w ∈ xT := by
  have h := List.mem_of_getElem? hj
  exact List.mem_filter.mpr ⟨List.mem_append_right _ (show w ∈ tables_1_1 ++ (tables_1_2 ++ (tables_1_3 ++ (tables_1_4 ++ tables_1_5))) from (List.mem_append_right _ (List.mem_append_right _ (List.mem_append_left _ h)))), g⟩
theorem xT_4 {w : Cond} (j : Nat) (hj : tables_1_4[j]? = some w) (g : goodWord w = true) : w ∈ xT := by
  have h := List.mem_of_getElem? hj
  exact List.mem_filter.mpr ⟨List.mem_append_right _ (show w ∈ tables_1_1 ++ (tables_1_2 ++ (tables_1_3 ++ (tables_1_4 ++ tables_1_5))) from (List.mem_append_right _ (List.mem_append_right _ (List.mem_append_right _ (List.mem_append_left _ h))))), g⟩
theorem xT_5 {w : Cond} (j : Nat) (hj : tables_1_5[j]? = some w) (g : goodWord w = true) : w ∈ xT := by
  have h := List.mem_of_getElem? hj
  exact List.mem_filter.mpr ⟨List.mem_append_right _ (show w ∈ tables_1_1 ++ (tables_1_2 ++ (tables_1_3 ++ (tables_1_4 ++ tables_1_5))) from (List.mem_append_right _ (List.mem_append_right _ (List.mem_append_right _ (List.mem_append_right _ h))))), g⟩
theorem xT_p1 {q : MethodName × Nat} (j : Nat) (hj : lw_privs_1[j]? = some q) : Cond.selects q.1.cls q.1 q.1 ∈ xT := by
  have h := List.mem_of_getElem? hj
  exact List.mem_filter.mpr ⟨List.mem_append_left _ (List.mem_map.mpr ⟨q, (show q ∈ lw_privs_1 ++ (lw_privs_2 ++ (lw_privs_3 ++ lw_privs_4)) from (List.mem_append_left _ h)), rfl⟩), rfl⟩
theorem xT_p2 {q : MethodName × Nat} (j : Nat) (hj : lw_privs_2[j]? = some q) : Cond.selects q.1.cls q.1 q.1 ∈ xT := by
  have h := List.mem_of_getElem? hj
  exact List.mem_filter.mpr ⟨List.mem_append_left _ (List.mem_map.mpr ⟨q, (show q ∈ lw_privs_1 ++ (lw_privs_2 ++ (lw_privs_3 ++ lw_privs_4)) from (List.mem_append_right _ (List.mem_append_left _ h))), rfl⟩), rfl⟩
theorem xT_p3 {q : MethodName × Nat} (j : Nat) (hj : lw_privs_3[j]? = some q) : Cond.selects q.1.cls q.1 q.1 ∈ xT := by
  have h := List.mem_of_getElem? hj
  exact List.mem_filter.mpr ⟨List.mem_append_left _ (List.mem_map.mpr ⟨q, (show q ∈ lw_privs_1 ++ (lw_privs_2 ++ (lw_privs_3 ++ lw_privs_4)) from (List.mem_append_right _ (List.mem_append_right _ (List.mem_append_left _ h)))), rfl⟩), rfl⟩
theorem xT_p4 {q : MethodName × Nat} (j : Nat) (hj : lw_privs_4[j]? = some q) : Cond.selects q.1.cls q.1 q.1 ∈ xT := by
  have h := List.mem_of_getElem? hj
  exact List.mem_filter.mpr ⟨List.mem_append_left _ (List.mem_map.mpr ⟨q, (show q ∈ lw_privs_1 ++ (lw_privs_2 ++ (lw_privs_3 ++ lw_privs_4)) from (List.mem_append_right _ (List.mem_append_right _ (List.mem_append_right _ h)))), rfl⟩), rfl⟩
theorem lb_X_init : xLB y_X_init b_X_init 2 (none) 0 := ⟨xT_1 1 rfl rfl, xT_1 18 rfl rfl, by decide +kernel, by decide +kernel, by decide +kernel⟩
theorem lk_X_init : xLI y_X_init b_X_init 2 0 := ⟨lb_X_init, rfl, xT_1 17 rfl rfl⟩
theorem lb_X_count : xLB y_X_count b_X_count 2 (some .int) 1 := ⟨xT_1 1 rfl rfl, xT_2 111 rfl rfl, by decide +kernel, by decide +kernel, by decide +kernel⟩
theorem lk_X_count : xLV y_X_count b_X_count 2 (some .int) 1 := ⟨lb_X_count, xT_2 109 rfl rfl, xT_2 110 rfl rfl⟩
theorem lb_X_feed : xLB y_X_feed b_X_feed 8 (some .int) 6 := ⟨xT_1 1 rfl rfl, xT_2 115 rfl rfl, by decide +kernel, by decide +kernel, by decide +kernel⟩
theorem lk_X_feed : xLV y_X_feed b_X_feed 8 (some .int) 6 := ⟨lb_X_feed, xT_2 113 rfl rfl, xT_2 114 rfl rfl⟩
theorem lb_X_text : xLB y_X_text b_X_text 2 (some .int) 0 := ⟨xT_1 1 rfl rfl, xT_2 125 rfl rfl, by decide +kernel, by decide +kernel, by decide +kernel⟩
theorem lk_X_text : xLV y_X_text b_X_text 2 (some .int) 0 := ⟨lb_X_text, xT_2 123 rfl rfl, xT_2 124 rfl rfl⟩
theorem lb_X_force : xLB y_X_force b_X_force 3 (some .int) 1 := ⟨xT_1 1 rfl rfl, xT_2 129 rfl rfl, by decide +kernel, by decide +kernel, by decide +kernel⟩
theorem lk_X_force : xLV y_X_force b_X_force 3 (some .int) 1 := ⟨lb_X_force, xT_2 127 rfl rfl, xT_2 128 rfl rfl⟩
theorem lb_X_asks : xLB y_X_asks b_X_asks 4 (some .int) 3 := ⟨xT_1 1 rfl rfl, xT_2 133 rfl rfl, by decide +kernel, by decide +kernel, by decide +kernel⟩
theorem lk_X_asks : xLV y_X_asks b_X_asks 4 (some .int) 3 := ⟨lb_X_asks, xT_2 131 rfl rfl, xT_2 132 rfl rfl⟩
theorem lb_X_head : xLB y_X_head b_X_head 3 (some .int) 2 := ⟨xT_1 1 rfl rfl, xT_2 177 rfl rfl, by decide +kernel, by decide +kernel, by decide +kernel⟩
theorem lk_X_head : xLV y_X_head b_X_head 3 (some .int) 2 := ⟨lb_X_head, xT_2 175 rfl rfl, xT_2 176 rfl rfl⟩
theorem lb_X_set : xLB y_X_set b_X_set 6 (some .int) 3 := ⟨xT_1 1 rfl rfl, xT_2 192 rfl rfl, by decide +kernel, by decide +kernel, by decide +kernel⟩
theorem lk_X_set : xLV y_X_set b_X_set 6 (some .int) 3 := ⟨lb_X_set, xT_2 190 rfl rfl, xT_2 191 rfl rfl⟩
theorem lb_X_told : xLB y_X_told b_X_told 4 (some .int) 2 := ⟨xT_1 1 rfl rfl, xT_2 198 rfl rfl, by decide +kernel, by decide +kernel, by decide +kernel⟩
theorem lk_X_told : xLV y_X_told b_X_told 4 (some .int) 2 := ⟨lb_X_told, xT_2 196 rfl rfl, xT_2 197 rfl rfl⟩
theorem lb_X_turn : xLB y_X_turn b_X_turn 5 (some .int) 3 := ⟨xT_1 1 rfl rfl, xT_2 209 rfl rfl, by decide +kernel, by decide +kernel, by decide +kernel⟩
theorem lk_X_turn : xLV y_X_turn b_X_turn 5 (some .int) 3 := ⟨lb_X_turn, xT_2 207 rfl rfl, xT_2 208 rfl rfl⟩
theorem lb_X_rest : xLB y_X_rest b_X_rest 5 (some .int) 3 := ⟨xT_1 1 rfl rfl, xT_3 4 rfl rfl, by decide +kernel, by decide +kernel, by decide +kernel⟩
theorem lk_X_rest : xLV y_X_rest b_X_rest 5 (some .int) 3 := ⟨lb_X_rest, xT_3 2 rfl rfl, xT_3 3 rfl rfl⟩
theorem lb_X_walk : xLB y_X_walk b_X_walk 5 (some .int) 3 := ⟨xT_1 1 rfl rfl, xT_3 15 rfl rfl, by decide +kernel, by decide +kernel, by decide +kernel⟩
theorem lk_X_walk : xLV y_X_walk b_X_walk 5 (some .int) 3 := ⟨lb_X_walk, xT_3 13 rfl rfl, xT_3 14 rfl rfl⟩
theorem lb_X_up : xLB y_X_up b_X_up 4 (some .int) 1 := ⟨xT_1 1 rfl rfl, xT_3 34 rfl rfl, by decide +kernel, by decide +kernel, by decide +kernel⟩
theorem lk_X_up : xLV y_X_up b_X_up 4 (some .int) 1 := ⟨lb_X_up, xT_3 32 rfl rfl, xT_3 33 rfl rfl⟩
theorem lb_X_ends : xLB y_X_ends b_X_ends 7 (some .int) 5 := ⟨xT_1 1 rfl rfl, xT_3 39 rfl rfl, by decide +kernel, by decide +kernel, by decide +kernel⟩
theorem lk_X_ends : xLV y_X_ends b_X_ends 7 (some .int) 5 := ⟨lb_X_ends, xT_3 37 rfl rfl, xT_3 38 rfl rfl⟩
theorem lb_X_stands : xLB y_X_stands b_X_stands 5 (some .int) 2 := ⟨xT_1 1 rfl rfl, xT_3 61 rfl rfl, by decide +kernel, by decide +kernel, by decide +kernel⟩
theorem lk_X_stands : xLV y_X_stands b_X_stands 5 (some .int) 2 := ⟨lb_X_stands, xT_3 59 rfl rfl, xT_3 60 rfl rfl⟩
theorem lb_X_undo : xLB y_X_undo b_X_undo 8 (some .int) 3 := ⟨xT_1 1 rfl rfl, xT_3 67 rfl rfl, by decide +kernel, by decide +kernel, by decide +kernel⟩
theorem lk_X_undo : xLV y_X_undo b_X_undo 8 (some .int) 3 := ⟨lb_X_undo, xT_3 65 rfl rfl, xT_3 66 rfl rfl⟩
theorem lb_X_fine : xLB y_X_fine b_X_fine 4 (some .int) 2 := ⟨xT_1 1 rfl rfl, xT_3 72 rfl rfl, by decide +kernel, by decide +kernel, by decide +kernel⟩
theorem lk_X_fine : xLV y_X_fine b_X_fine 4 (some .int) 2 := ⟨lb_X_fine, xT_3 70 rfl rfl, xT_3 71 rfl rfl⟩
theorem lb_X_race : xLB y_X_race b_X_race 7 (some .int) 5 := ⟨xT_1 1 rfl rfl, xT_3 77 rfl rfl, by decide +kernel, by decide +kernel, by decide +kernel⟩
theorem lk_X_race : xLV y_X_race b_X_race 7 (some .int) 5 := ⟨lb_X_race, xT_3 75 rfl rfl, xT_3 76 rfl rfl⟩
theorem lb_X_wins : xLB y_X_wins b_X_wins 9 (some .int) 4 := ⟨xT_1 1 rfl rfl, xT_3 95 rfl rfl, by decide +kernel, by decide +kernel, by decide +kernel⟩
theorem lk_X_wins : xLV y_X_wins b_X_wins 9 (some .int) 4 := ⟨lb_X_wins, xT_3 93 rfl rfl, xT_3 94 rfl rfl⟩
theorem lb_X_pace : xLB y_X_pace b_X_pace 10 (some .int) 5 := ⟨xT_1 1 rfl rfl, xT_3 99 rfl rfl, by decide +kernel, by decide +kernel, by decide +kernel⟩
theorem lk_X_pace : xLV y_X_pace b_X_pace 10 (some .int) 5 := ⟨lb_X_pace, xT_3 97 rfl rfl, xT_3 98 rfl rfl⟩
theorem lb_X_roses : xLB y_X_roses b_X_roses 11 (some .int) 5 := ⟨xT_1 1 rfl rfl, xT_3 103 rfl rfl, by decide +kernel, by decide +kernel, by decide +kernel⟩
theorem lk_X_roses : xLV y_X_roses b_X_roses 11 (some .int) 5 := ⟨lb_X_roses, xT_3 101 rfl rfl, xT_3 102 rfl rfl⟩
theorem lb_X_judge : xLB y_X_judge b_X_judge 6 (some .int) 4 := ⟨xT_1 1 rfl rfl, xT_3 116 rfl rfl, by decide +kernel, by decide +kernel, by decide +kernel⟩
theorem lk_X_judge : xLV y_X_judge b_X_judge 6 (some .int) 4 := ⟨lb_X_judge, xT_3 114 rfl rfl, xT_3 115 rfl rfl⟩
theorem lb_X_turned : xLB y_X_turned b_X_turned 10 (some .int) 4 := ⟨xT_1 1 rfl rfl, xT_3 152 rfl rfl, by decide +kernel, by decide +kernel, by decide +kernel⟩
theorem lk_X_turned : xLV y_X_turned b_X_turned 10 (some .int) 4 := ⟨lb_X_turned, xT_3 150 rfl rfl, xT_3 151 rfl rfl⟩
theorem lb_X_kinds : xLB y_X_kinds b_X_kinds 10 (some .int) 5 := ⟨xT_1 1 rfl rfl, xT_3 156 rfl rfl, by decide +kernel, by decide +kernel, by decide +kernel⟩
theorem lk_X_kinds : xLV y_X_kinds b_X_kinds 10 (some .int) 5 := ⟨lb_X_kinds, xT_3 154 rfl rfl, xT_3 155 rfl rfl⟩
theorem lb_X_laws : xLB y_X_laws b_X_laws 8 (some .int) 4 := ⟨xT_1 1 rfl rfl, xT_3 160 rfl rfl, by decide +kernel, by decide +kernel, by decide +kernel⟩
theorem lk_X_laws : xLV y_X_laws b_X_laws 8 (some .int) 4 := ⟨lb_X_laws, xT_3 158 rfl rfl, xT_3 159 rfl rfl⟩
theorem lb_X_whose : xLB y_X_whose b_X_whose 7 (some .int) 3 := ⟨xT_1 1 rfl rfl, xT_3 164 rfl rfl, by decide +kernel, by decide +kernel, by decide +kernel⟩
theorem lk_X_whose : xLV y_X_whose b_X_whose 7 (some .int) 3 := ⟨lb_X_whose, xT_3 162 rfl rfl, xT_3 163 rfl rfl⟩
theorem lb_X_film : xLB y_X_film b_X_film 8 (some .int) 5 := ⟨xT_1 1 rfl rfl, xT_3 168 rfl rfl, by decide +kernel, by decide +kernel, by decide +kernel⟩
theorem lk_X_film : xLV y_X_film b_X_film 8 (some .int) 5 := ⟨lb_X_film, xT_3 166 rfl rfl, xT_3 167 rfl rfl⟩
theorem lb_X_drawn : xLB y_X_drawn b_X_drawn 6 (some .int) 5 := ⟨xT_1 1 rfl rfl, xT_3 181 rfl rfl, by decide +kernel, by decide +kernel, by decide +kernel⟩
theorem lk_X_drawn : xLV y_X_drawn b_X_drawn 6 (some .int) 5 := ⟨lb_X_drawn, xT_3 179 rfl rfl, xT_3 180 rfl rfl⟩
theorem lb_X_odds : xLB y_X_odds b_X_odds 10 (some .long) 6 := ⟨xT_1 1 rfl rfl, xT_3 195 rfl rfl, by decide +kernel, by decide +kernel, by decide +kernel⟩
theorem lk_X_odds : xLV y_X_odds b_X_odds 10 (some .long) 6 := ⟨lb_X_odds, xT_3 193 rfl rfl, xT_3 194 rfl rfl⟩
theorem lb_X_image : xLB y_X_image b_X_image 2 (some .int) 0 := ⟨xT_1 1 rfl rfl, xT_3 206 rfl rfl, by decide +kernel, by decide +kernel, by decide +kernel⟩
theorem lk_X_image : xLV y_X_image b_X_image 2 (some .int) 0 := ⟨lb_X_image, xT_3 204 rfl rfl, xT_3 205 rfl rfl⟩
theorem lb_X_back : xLB y_X_back b_X_back 2 (some .int) 0 := ⟨xT_1 1 rfl rfl, xT_3 214 rfl rfl, by decide +kernel, by decide +kernel, by decide +kernel⟩
theorem lk_X_back : xLV y_X_back b_X_back 2 (some .int) 0 := ⟨lb_X_back, xT_3 212 rfl rfl, xT_3 213 rfl rfl⟩
theorem lb_X_sheet : xLB y_X_sheet b_X_sheet 4 (some .int) 3 := ⟨xT_1 1 rfl rfl, xT_3 218 rfl rfl, by decide +kernel, by decide +kernel, by decide +kernel⟩
theorem lk_X_sheet : xLV y_X_sheet b_X_sheet 4 (some .int) 3 := ⟨lb_X_sheet, xT_3 216 rfl rfl, xT_3 217 rfl rfl⟩
theorem lb_X_cell : xLB y_X_cell b_X_cell 5 (some .int) 3 := ⟨xT_1 1 rfl rfl, xT_3 222 rfl rfl, by decide +kernel, by decide +kernel, by decide +kernel⟩
theorem lk_X_cell : xLV y_X_cell b_X_cell 5 (some .int) 3 := ⟨lb_X_cell, xT_3 220 rfl rfl, xT_3 221 rfl rfl⟩
theorem lb_X_copy : xLB y_X_copy b_X_copy 8 (some .int) 5 := ⟨xT_1 1 rfl rfl, xT_3 227 rfl rfl, by decide +kernel, by decide +kernel, by decide +kernel⟩
theorem lk_X_copy : xLV y_X_copy b_X_copy 8 (some .int) 5 := ⟨lb_X_copy, xT_3 225 rfl rfl, xT_3 226 rfl rfl⟩
theorem lb_X_headsBy : xLB y_X_headsBy b_X_headsBy 8 (some .int) 4 := ⟨xT_1 1 rfl rfl, xT_3 238 rfl rfl, by decide +kernel, by decide +kernel, by decide +kernel⟩
theorem lk_X_headsBy : xLV y_X_headsBy b_X_headsBy 8 (some .int) 4 := ⟨lb_X_headsBy, xT_3 236 rfl rfl, xT_3 237 rfl rfl⟩
theorem lb_X_taken : xLB y_X_taken b_X_taken 5 (some .int) 2 := ⟨xT_1 1 rfl rfl, xT_4 3 rfl rfl, by decide +kernel, by decide +kernel, by decide +kernel⟩
theorem lk_X_taken : xLV y_X_taken b_X_taken 5 (some .int) 2 := ⟨lb_X_taken, xT_4 1 rfl rfl, xT_4 2 rfl rfl⟩
theorem lb_X_think : xLB y_X_think b_X_think 2 (none) 1 := ⟨xT_1 1 rfl rfl, xT_3 53 rfl rfl, by decide +kernel, by decide +kernel, by decide +kernel⟩
theorem lk_X_think : xLV y_X_think b_X_think 2 (none) 1 := ⟨lb_X_think, xT_3 52 rfl rfl, xT_p2 4 rfl⟩
theorem lb_X_thinkTurned : xLB y_X_thinkTurned b_X_thinkTurned 5 (none) 4 := ⟨xT_1 1 rfl rfl, xT_3 49 rfl rfl, by decide +kernel, by decide +kernel, by decide +kernel⟩
theorem lk_X_thinkTurned : xLV y_X_thinkTurned b_X_thinkTurned 5 (none) 4 := ⟨lb_X_thinkTurned, xT_3 48 rfl rfl, xT_p2 3 rfl⟩
theorem lb_X_thinkDrawn : xLB y_X_thinkDrawn b_X_thinkDrawn 8 (none) 4 := ⟨xT_1 1 rfl rfl, xT_3 188 rfl rfl, by decide +kernel, by decide +kernel, by decide +kernel⟩
theorem lk_X_thinkDrawn : xLV y_X_thinkDrawn b_X_thinkDrawn 8 (none) 4 := ⟨lb_X_thinkDrawn, xT_3 187 rfl rfl, xT_p2 11 rfl⟩
theorem lb_X_fillTurnedSenses : xLB y_X_fillTurnedSenses b_X_fillTurnedSenses 4 (none) 2 := ⟨xT_1 1 rfl rfl, xT_3 109 rfl rfl, by decide +kernel, by decide +kernel, by decide +kernel⟩
theorem lk_X_fillTurnedSenses : xLV y_X_fillTurnedSenses b_X_fillTurnedSenses 4 (none) 2 := ⟨lb_X_fillTurnedSenses, xT_3 108 rfl rfl, xT_p2 6 rfl⟩
theorem lb_X_turnsAt : xLB y_X_turnsAt b_X_turnsAt 1 (some .int) 1 := ⟨xT_1 1 rfl rfl, xT_3 112 rfl rfl, by decide +kernel, by decide +kernel, by decide +kernel⟩
theorem lk_X_turnsAt : xLS y_X_turnsAt b_X_turnsAt 1 (some .int) 1 := ⟨lb_X_turnsAt, xT_3 111 rfl rfl⟩
theorem lb_X_firstOtherwise : xLB y_X_firstOtherwise b_X_firstOtherwise 5 (some .int) 3 := ⟨xT_1 1 rfl rfl, xT_3 139 rfl rfl, by decide +kernel, by decide +kernel, by decide +kernel⟩
theorem lk_X_firstOtherwise : xLV y_X_firstOtherwise b_X_firstOtherwise 5 (some .int) 3 := ⟨lb_X_firstOtherwise, xT_3 138 rfl rfl, xT_p2 10 rfl⟩
theorem lb_X_raceSeconds : xLB y_X_raceSeconds b_X_raceSeconds 2 (some .int) 2 := ⟨xT_1 1 rfl rfl, xT_3 88 rfl rfl, by decide +kernel, by decide +kernel, by decide +kernel⟩
theorem lk_X_raceSeconds : xLS y_X_raceSeconds b_X_raceSeconds 2 (some .int) 2 := ⟨lb_X_raceSeconds, xT_3 87 rfl rfl⟩
theorem lb_X_raceWait : xLB y_X_raceWait b_X_raceWait 7 (some .int) 4 := ⟨xT_1 1 rfl rfl, xT_3 85 rfl rfl, by decide +kernel, by decide +kernel, by decide +kernel⟩
theorem lk_X_raceWait : xLV y_X_raceWait b_X_raceWait 7 (some .int) 4 := ⟨lb_X_raceWait, xT_3 84 rfl rfl, xT_p2 5 rfl⟩
theorem lb_X_roundedUp : xLB y_X_roundedUp b_X_roundedUp 2 (some .int) 2 := ⟨xT_1 1 rfl rfl, xT_3 91 rfl rfl, by decide +kernel, by decide +kernel, by decide +kernel⟩
theorem lk_X_roundedUp : xLS y_X_roundedUp b_X_roundedUp 2 (some .int) 2 := ⟨lb_X_roundedUp, xT_3 90 rfl rfl⟩
theorem lb_X_greatestShared : xLB y_X_greatestShared b_X_greatestShared 6 (some .int) 2 := ⟨xT_1 1 rfl rfl, xT_3 202 rfl rfl, by decide +kernel, by decide +kernel, by decide +kernel⟩
theorem lk_X_greatestShared : xLS y_X_greatestShared b_X_greatestShared 6 (some .int) 2 := ⟨lb_X_greatestShared, xT_3 201 rfl rfl⟩
theorem lb_X_headAt : xLB y_X_headAt b_X_headAt 3 (some (.object "RoundAndRound$Head")) 1 := ⟨xT_1 1 rfl rfl, xT_2 148 rfl rfl, by decide +kernel, by decide +kernel, by decide +kernel⟩
theorem lk_X_headAt : xLV y_X_headAt b_X_headAt 3 (some (.object "RoundAndRound$Head")) 1 := ⟨lb_X_headAt, xT_2 147 rfl rfl, xT_p2 2 rfl⟩
theorem lb_X_imageHeadAt : xLB y_X_imageHeadAt b_X_imageHeadAt 3 (some (.object "RoundAndRound$Head")) 1 := ⟨xT_1 1 rfl rfl, xT_3 210 rfl rfl, by decide +kernel, by decide +kernel, by decide +kernel⟩
theorem lk_X_imageHeadAt : xLV y_X_imageHeadAt b_X_imageHeadAt 3 (some (.object "RoundAndRound$Head")) 1 := ⟨lb_X_imageHeadAt, xT_3 209 rfl rfl, xT_p2 12 rfl⟩
theorem lb_X_textAt : xLB y_X_textAt b_X_textAt 3 (some (.object "RoundAndRound$Text")) 1 := ⟨xT_1 1 rfl rfl, xT_1 208 rfl rfl, by decide +kernel, by decide +kernel, by decide +kernel⟩
theorem lk_X_textAt : xLV y_X_textAt b_X_textAt 3 (some (.object "RoundAndRound$Text")) 1 := ⟨lb_X_textAt, xT_1 207 rfl rfl, xT_p1 0 rfl⟩
theorem lb_X_law : xLB y_X_law b_X_law 1 (some (.object "RoundAndRound$Text")) 0 := ⟨xT_1 1 rfl rfl, xT_2 144 rfl rfl, by decide +kernel, by decide +kernel, by decide +kernel⟩
theorem lk_X_law : xLV y_X_law b_X_law 1 (some (.object "RoundAndRound$Text")) 0 := ⟨lb_X_law, xT_2 143 rfl rfl, xT_p2 1 rfl⟩
theorem lb_X_sheetAt : xLB y_X_sheetAt b_X_sheetAt 3 (some (.object "RoundAndRound$Sheet")) 1 := ⟨xT_1 1 rfl rfl, xT_3 131 rfl rfl, by decide +kernel, by decide +kernel, by decide +kernel⟩
theorem lk_X_sheetAt : xLV y_X_sheetAt b_X_sheetAt 3 (some (.object "RoundAndRound$Sheet")) 1 := ⟨lb_X_sheetAt, xT_3 130 rfl rfl, xT_p2 9 rfl⟩
theorem lb_X_within : xLB y_X_within b_X_within 3 (some .boolean) 3 := ⟨xT_1 1 rfl rfl, xT_2 118 rfl rfl, by decide +kernel, by decide +kernel, by decide +kernel⟩
theorem lk_X_within : xLS y_X_within b_X_within 3 (some .boolean) 3 := ⟨lb_X_within, xT_2 117 rfl rfl⟩
theorem lb_X_bounded : xLB y_X_bounded b_X_bounded 3 (some .int) 3 := ⟨xT_1 1 rfl rfl, xT_2 171 rfl rfl, by decide +kernel, by decide +kernel, by decide +kernel⟩
theorem lk_X_bounded : xLS y_X_bounded b_X_bounded 3 (some .int) 3 := ⟨lb_X_bounded, xT_2 170 rfl rfl⟩
theorem lb_X_isByte : xLB y_X_isByte b_X_isByte 1 (some .boolean) 1 := ⟨xT_1 1 rfl rfl, xT_2 121 rfl rfl, by decide +kernel, by decide +kernel, by decide +kernel⟩
theorem lk_X_isByte : xLS y_X_isByte b_X_isByte 1 (some .boolean) 1 := ⟨lb_X_isByte, xT_2 120 rfl rfl⟩
theorem lb_X_isHead : xLB y_X_isHead b_X_isHead 2 (some .boolean) 1 := ⟨xT_1 1 rfl rfl, xT_2 137 rfl rfl, by decide +kernel, by decide +kernel, by decide +kernel⟩
theorem lk_X_isHead : xLV y_X_isHead b_X_isHead 2 (some .boolean) 1 := ⟨lb_X_isHead, xT_2 136 rfl rfl, xT_p2 0 rfl⟩
theorem lb_X_isKind : xLB y_X_isKind b_X_isKind 1 (some .boolean) 1 := ⟨xT_1 1 rfl rfl, xT_2 180 rfl rfl, by decide +kernel, by decide +kernel, by decide +kernel⟩
theorem lk_X_isKind : xLS y_X_isKind b_X_isKind 1 (some .boolean) 1 := ⟨lb_X_isKind, xT_2 179 rfl rfl⟩
theorem lb_X_isSheet : xLB y_X_isSheet b_X_isSheet 1 (some .boolean) 1 := ⟨xT_1 1 rfl rfl, xT_3 127 rfl rfl, by decide +kernel, by decide +kernel, by decide +kernel⟩
theorem lk_X_isSheet : xLS y_X_isSheet b_X_isSheet 1 (some .boolean) 1 := ⟨lb_X_isSheet, xT_3 126 rfl rfl⟩
theorem lb_X_isTurns : xLB y_X_isTurns b_X_isTurns 1 (some .boolean) 1 := ⟨xT_1 1 rfl rfl, xT_2 212 rfl rfl, by decide +kernel, by decide +kernel, by decide +kernel⟩
theorem lk_X_isTurns : xLS y_X_isTurns b_X_isTurns 1 (some .boolean) 1 := ⟨lb_X_isTurns, xT_2 211 rfl rfl⟩
theorem lb_X_isSeconds : xLB y_X_isSeconds b_X_isSeconds 1 (some .boolean) 1 := ⟨xT_1 1 rfl rfl, xT_3 7 rfl rfl, by decide +kernel, by decide +kernel, by decide +kernel⟩
theorem lk_X_isSeconds : xLS y_X_isSeconds b_X_isSeconds 1 (some .boolean) 1 := ⟨lb_X_isSeconds, xT_3 6 rfl rfl⟩
theorem lb_X_isPace : xLB y_X_isPace b_X_isPace 1 (some .boolean) 1 := ⟨xT_1 1 rfl rfl, xT_2 215 rfl rfl, by decide +kernel, by decide +kernel, by decide +kernel⟩
theorem lk_X_isPace : xLS y_X_isPace b_X_isPace 1 (some .boolean) 1 := ⟨lb_X_isPace, xT_2 214 rfl rfl⟩
theorem lb_X_isSpeedPace : xLB y_X_isSpeedPace b_X_isSpeedPace 1 (some .boolean) 1 := ⟨xT_1 1 rfl rfl, xT_3 45 rfl rfl, by decide +kernel, by decide +kernel, by decide +kernel⟩
theorem lk_X_isSpeedPace : xLS y_X_isSpeedPace b_X_isSpeedPace 1 (some .boolean) 1 := ⟨lb_X_isSpeedPace, xT_3 44 rfl rfl⟩
theorem lb_X_isNumberAndEyes : xLB y_X_isNumberAndEyes b_X_isNumberAndEyes 2 (some .boolean) 2 := ⟨xT_1 1 rfl rfl, xT_2 140 rfl rfl, by decide +kernel, by decide +kernel, by decide +kernel⟩
theorem lk_X_isNumberAndEyes : xLS y_X_isNumberAndEyes b_X_isNumberAndEyes 2 (some .boolean) 2 := ⟨lb_X_isNumberAndEyes, xT_2 139 rfl rfl⟩
theorem lb_X_isWaitSpeedPace : xLB y_X_isWaitSpeedPace b_X_isWaitSpeedPace 1 (some .boolean) 1 := ⟨xT_1 1 rfl rfl, xT_3 42 rfl rfl, by decide +kernel, by decide +kernel, by decide +kernel⟩
theorem lk_X_isWaitSpeedPace : xLS y_X_isWaitSpeedPace b_X_isWaitSpeedPace 1 (some .boolean) 1 := ⟨lb_X_isWaitSpeedPace, xT_3 41 rfl rfl⟩
theorem lb_X_isOddsPace : xLB y_X_isOddsPace b_X_isOddsPace 1 (some .boolean) 1 := ⟨xT_1 1 rfl rfl, xT_3 184 rfl rfl, by decide +kernel, by decide +kernel, by decide +kernel⟩
theorem lk_X_isOddsPace : xLS y_X_isOddsPace b_X_isOddsPace 1 (some .boolean) 1 := ⟨lb_X_isOddsPace, xT_3 183 rfl rfl⟩
theorem lb_X_isSecondsSeeds : xLB y_X_isSecondsSeeds b_X_isSecondsSeeds 1 (some .boolean) 1 := ⟨xT_1 1 rfl rfl, xT_3 198 rfl rfl, by decide +kernel, by decide +kernel, by decide +kernel⟩
theorem lk_X_isSecondsSeeds : xLS y_X_isSecondsSeeds b_X_isSecondsSeeds 1 (some .boolean) 1 := ⟨lb_X_isSecondsSeeds, xT_3 197 rfl rfl⟩
theorem lb_X_isRace : xLB y_X_isRace b_X_isRace 4 (some .boolean) 4 := ⟨xT_1 1 rfl rfl, xT_3 80 rfl rfl, by decide +kernel, by decide +kernel, by decide +kernel⟩
theorem lk_X_isRace : xLS y_X_isRace b_X_isRace 4 (some .boolean) 4 := ⟨lb_X_isRace, xT_3 79 rfl rfl⟩
theorem lb_X_refusalOfSheet : xLB y_X_refusalOfSheet b_X_refusalOfSheet 2 (some .int) 1 := ⟨xT_1 1 rfl rfl, xT_3 124 rfl rfl, by decide +kernel, by decide +kernel, by decide +kernel⟩
theorem lk_X_refusalOfSheet : xLV y_X_refusalOfSheet b_X_refusalOfSheet 2 (some .int) 1 := ⟨lb_X_refusalOfSheet, xT_3 123 rfl rfl, xT_p2 8 rfl⟩
theorem lb_X_refusalOfTold : xLB y_X_refusalOfTold b_X_refusalOfTold 4 (some .int) 2 := ⟨xT_1 1 rfl rfl, xT_3 120 rfl rfl, by decide +kernel, by decide +kernel, by decide +kernel⟩
theorem lk_X_refusalOfTold : xLV y_X_refusalOfTold b_X_refusalOfTold 4 (some .int) 2 := ⟨lb_X_refusalOfTold, xT_3 119 rfl rfl, xT_p2 7 rfl⟩
theorem lb_Model_init : xLB y_Model_init b_Model_init 2 (none) 0 := ⟨xT_1 10 rfl rfl, xT_4 14 rfl rfl, by decide +kernel, by decide +kernel, by decide +kernel⟩
theorem lk_Model_init : xLI y_Model_init b_Model_init 2 0 := ⟨lb_Model_init, rfl, xT_4 13 rfl rfl⟩
theorem lb_Model_in : xLB y_Model_in b_Model_in 3 (some .boolean) 3 := ⟨xT_1 10 rfl rfl, xT_4 26 rfl rfl, by decide +kernel, by decide +kernel, by decide +kernel⟩
theorem lk_Model_in : xLS y_Model_in b_Model_in 3 (some .boolean) 3 := ⟨lb_Model_in, xT_4 25 rfl rfl⟩
theorem lb_Model_within : xLB y_Model_within b_Model_within 3 (some .int) 3 := ⟨xT_1 10 rfl rfl, xT_4 203 rfl rfl, by decide +kernel, by decide +kernel, by decide +kernel⟩
theorem lk_Model_within : xLS y_Model_within b_Model_within 3 (some .int) 3 := ⟨lb_Model_within, xT_4 202 rfl rfl⟩
theorem lb_Model_size0 : xLB y_Model_size0 b_Model_size0 1 (some .int) 1 := ⟨xT_1 10 rfl rfl, xT_4 239 rfl rfl, by decide +kernel, by decide +kernel, by decide +kernel⟩
theorem lk_Model_size0 : xLS y_Model_size0 b_Model_size0 1 (some .int) 1 := ⟨lb_Model_size0, xT_4 238 rfl rfl⟩
theorem lb_Model_isHead : xLB y_Model_isHead b_Model_isHead 2 (some .boolean) 1 := ⟨xT_1 10 rfl rfl, xT_4 189 rfl rfl, by decide +kernel, by decide +kernel, by decide +kernel⟩
theorem lk_Model_isHead : xLV y_Model_isHead b_Model_isHead 2 (some .boolean) 1 := ⟨lb_Model_isHead, xT_4 188 rfl rfl, xT_p3 6 rfl⟩
theorem lb_Model_count : xLB y_Model_count b_Model_count 2 (some .int) 1 := ⟨xT_1 10 rfl rfl, xT_4 169 rfl rfl, by decide +kernel, by decide +kernel, by decide +kernel⟩
theorem lk_Model_count : xLV y_Model_count b_Model_count 2 (some .int) 1 := ⟨lb_Model_count, xT_4 167 rfl rfl, xT_4 168 rfl rfl⟩
theorem lb_Model_isByte : xLB y_Model_isByte b_Model_isByte 1 (some .boolean) 1 := ⟨xT_1 10 rfl rfl, xT_4 176 rfl rfl, by decide +kernel, by decide +kernel, by decide +kernel⟩
theorem lk_Model_isByte : xLS y_Model_isByte b_Model_isByte 1 (some .boolean) 1 := ⟨lb_Model_isByte, xT_4 175 rfl rfl⟩
theorem lb_Model_feed : xLB y_Model_feed b_Model_feed 8 (some .int) 6 := ⟨xT_1 10 rfl rfl, xT_4 173 rfl rfl, by decide +kernel, by decide +kernel, by decide +kernel⟩
theorem lk_Model_feed : xLV y_Model_feed b_Model_feed 8 (some .int) 6 := ⟨lb_Model_feed, xT_4 171 rfl rfl, xT_4 172 rfl rfl⟩
theorem lb_Model_wordFrom : xLB y_Model_wordFrom b_Model_wordFrom 6 (some .int) 2 := ⟨xT_1 10 rfl rfl, xT_4 30 rfl rfl, by decide +kernel, by decide +kernel, by decide +kernel⟩
theorem lk_Model_wordFrom : xLV y_Model_wordFrom b_Model_wordFrom 6 (some .int) 2 := ⟨lb_Model_wordFrom, xT_4 29 rfl rfl, xT_p2 14 rfl⟩
theorem lb_Model_next : xLB y_Model_next b_Model_next 3 (none) 0 := ⟨xT_1 10 rfl rfl, xT_4 23 rfl rfl, by decide +kernel, by decide +kernel, by decide +kernel⟩
theorem lk_Model_next : xLV y_Model_next b_Model_next 3 (none) 0 := ⟨lb_Model_next, xT_4 22 rfl rfl, xT_p2 13 rfl⟩
theorem lb_Model_rank : xLB y_Model_rank b_Model_rank 1 (some .int) 1 := ⟨xT_1 10 rfl rfl, xT_4 46 rfl rfl, by decide +kernel, by decide +kernel, by decide +kernel⟩
theorem lk_Model_rank : xLS y_Model_rank b_Model_rank 1 (some .int) 1 := ⟨lb_Model_rank, xT_4 45 rfl rfl⟩
theorem lb_Model_puts : xLB y_Model_puts b_Model_puts 2 (none) 1 := ⟨xT_1 10 rfl rfl, xT_4 39 rfl rfl, by decide +kernel, by decide +kernel, by decide +kernel⟩
theorem lk_Model_puts : xLV y_Model_puts b_Model_puts 2 (none) 1 := ⟨lb_Model_puts, xT_4 38 rfl rfl, xT_p3 0 rfl⟩
theorem lb_Model_unwinds : xLB y_Model_unwinds b_Model_unwinds 3 (none) 1 := ⟨xT_1 10 rfl rfl, xT_4 43 rfl rfl, by decide +kernel, by decide +kernel, by decide +kernel⟩
theorem lk_Model_unwinds : xLV y_Model_unwinds b_Model_unwinds 3 (none) 1 := ⟨lb_Model_unwinds, xT_4 42 rfl rfl, xT_p3 1 rfl⟩
theorem lb_Model_holds : xLB y_Model_holds b_Model_holds 2 (none) 1 := ⟨xT_1 10 rfl rfl, xT_4 54 rfl rfl, by decide +kernel, by decide +kernel, by decide +kernel⟩
theorem lk_Model_holds : xLV y_Model_holds b_Model_holds 2 (none) 1 := ⟨lb_Model_holds, xT_4 53 rfl rfl, xT_p3 3 rfl⟩
theorem lb_Model_opensOne : xLB y_Model_opensOne b_Model_opensOne 2 (some .boolean) 1 := ⟨xT_1 10 rfl rfl, xT_4 50 rfl rfl, by decide +kernel, by decide +kernel, by decide +kernel⟩
theorem lk_Model_opensOne : xLV y_Model_opensOne b_Model_opensOne 2 (some .boolean) 1 := ⟨lb_Model_opensOne, xT_4 49 rfl rfl, xT_p3 2 rfl⟩
theorem lb_Model_between : xLB y_Model_between b_Model_between 2 (some .boolean) 1 := ⟨xT_1 10 rfl rfl, xT_4 62 rfl rfl, by decide +kernel, by decide +kernel, by decide +kernel⟩
theorem lk_Model_between : xLV y_Model_between b_Model_between 2 (some .boolean) 1 := ⟨lb_Model_between, xT_4 61 rfl rfl, xT_p3 5 rfl⟩
theorem lb_Model_signOf : xLB y_Model_signOf b_Model_signOf 1 (some .int) 0 := ⟨xT_1 10 rfl rfl, xT_4 58 rfl rfl, by decide +kernel, by decide +kernel, by decide +kernel⟩
theorem lk_Model_signOf : xLV y_Model_signOf b_Model_signOf 1 (some .int) 0 := ⟨lb_Model_signOf, xT_4 57 rfl rfl, xT_p3 4 rfl⟩
theorem lb_Model_eRead : xLB y_Model_eRead b_Model_eRead 4 (some .boolean) 0 := ⟨xT_1 10 rfl rfl, xT_4 34 rfl rfl, by decide +kernel, by decide +kernel, by decide +kernel⟩
theorem lk_Model_eRead : xLV y_Model_eRead b_Model_eRead 4 (some .boolean) 0 := ⟨lb_Model_eRead, xT_4 33 rfl rfl, xT_p2 15 rfl⟩
theorem lb_Model_text : xLB y_Model_text b_Model_text 3 (some .int) 0 := ⟨xT_1 10 rfl rfl, xT_4 19 rfl rfl, by decide +kernel, by decide +kernel, by decide +kernel⟩
theorem lk_Model_text : xLV y_Model_text b_Model_text 3 (some .int) 0 := ⟨lb_Model_text, xT_4 17 rfl rfl, xT_4 18 rfl rfl⟩
theorem lb_Model_two : xLB y_Model_two b_Model_two 3 (some .int) 3 := ⟨xT_1 10 rfl rfl, xT_4 200 rfl rfl, by decide +kernel, by decide +kernel, by decide +kernel⟩
theorem lk_Model_two : xLS y_Model_two b_Model_two 3 (some .int) 3 := ⟨lb_Model_two, xT_4 199 rfl rfl⟩
theorem lb_Model_says : xLB y_Model_says b_Model_says 5 (some .int) 1 := ⟨xT_1 10 rfl rfl, xT_4 197 rfl rfl, by decide +kernel, by decide +kernel, by decide +kernel⟩
theorem lk_Model_says : xLV y_Model_says b_Model_says 5 (some .int) 1 := ⟨lb_Model_says, xT_4 196 rfl rfl, xT_p3 8 rfl⟩
theorem lb_Model_force : xLB y_Model_force b_Model_force 3 (some .int) 1 := ⟨xT_1 10 rfl rfl, xT_4 181 rfl rfl, by decide +kernel, by decide +kernel, by decide +kernel⟩
theorem lk_Model_force : xLV y_Model_force b_Model_force 3 (some .int) 1 := ⟨lb_Model_force, xT_4 179 rfl rfl, xT_4 180 rfl rfl⟩
theorem lb_Model_asksOf : xLB y_Model_asksOf b_Model_asksOf 5 (some .int) 4 := ⟨xT_1 10 rfl rfl, xT_4 193 rfl rfl, by decide +kernel, by decide +kernel, by decide +kernel⟩
theorem lk_Model_asksOf : xLV y_Model_asksOf b_Model_asksOf 5 (some .int) 4 := ⟨lb_Model_asksOf, xT_4 192 rfl rfl, xT_p3 7 rfl⟩
theorem lb_Model_asks : xLB y_Model_asks b_Model_asks 4 (some .int) 3 := ⟨xT_1 10 rfl rfl, xT_4 185 rfl rfl, by decide +kernel, by decide +kernel, by decide +kernel⟩
theorem lk_Model_asks : xLV y_Model_asks b_Model_asks 4 (some .int) 3 := ⟨lb_Model_asks, xT_4 183 rfl rfl, xT_4 184 rfl rfl⟩
theorem lb_Model_head : xLB y_Model_head b_Model_head 4 (some .int) 2 := ⟨xT_1 10 rfl rfl, xT_4 207 rfl rfl, by decide +kernel, by decide +kernel, by decide +kernel⟩
theorem lk_Model_head : xLV y_Model_head b_Model_head 4 (some .int) 2 := ⟨lb_Model_head, xT_4 205 rfl rfl, xT_4 206 rfl rfl⟩
theorem lb_Model_set : xLB y_Model_set b_Model_set 5 (some .int) 3 := ⟨xT_1 10 rfl rfl, xT_4 211 rfl rfl, by decide +kernel, by decide +kernel, by decide +kernel⟩
theorem lk_Model_set : xLV y_Model_set b_Model_set 5 (some .int) 3 := ⟨lb_Model_set, xT_4 209 rfl rfl, xT_4 210 rfl rfl⟩
theorem lb_Model_fallsFrom : xLB y_Model_fallsFrom b_Model_fallsFrom 2 (some .int) 1 := ⟨xT_1 10 rfl rfl, xT_4 221 rfl rfl, by decide +kernel, by decide +kernel, by decide +kernel⟩
theorem lk_Model_fallsFrom : xLV y_Model_fallsFrom b_Model_fallsFrom 2 (some .int) 1 := ⟨lb_Model_fallsFrom, xT_4 220 rfl rfl, xT_p3 9 rfl⟩
theorem lb_Model_told : xLB y_Model_told b_Model_told 3 (some .int) 2 := ⟨xT_1 10 rfl rfl, xT_4 217 rfl rfl, by decide +kernel, by decide +kernel, by decide +kernel⟩
theorem lk_Model_told : xLV y_Model_told b_Model_told 3 (some .int) 2 := ⟨lb_Model_told, xT_4 215 rfl rfl, xT_4 216 rfl rfl⟩
theorem lb_Model_buildsOf : xLB y_Model_buildsOf b_Model_buildsOf 4 (some .int) 2 := ⟨xT_1 10 rfl rfl, xT_5 3 rfl rfl, by decide +kernel, by decide +kernel, by decide +kernel⟩
theorem lk_Model_buildsOf : xLV y_Model_buildsOf b_Model_buildsOf 4 (some .int) 2 := ⟨lb_Model_buildsOf, xT_5 2 rfl rfl, xT_p3 12 rfl⟩
theorem lb_Model_fadesOf : xLB y_Model_fadesOf b_Model_fadesOf 4 (some .int) 2 := ⟨xT_1 10 rfl rfl, xT_5 11 rfl rfl, by decide +kernel, by decide +kernel, by decide +kernel⟩
theorem lk_Model_fadesOf : xLV y_Model_fadesOf b_Model_fadesOf 4 (some .int) 2 := ⟨lb_Model_fadesOf, xT_5 10 rfl rfl, xT_p3 14 rfl⟩
theorem lb_Model_fade : xLB y_Model_fade b_Model_fade 3 (none) 2 := ⟨xT_1 10 rfl rfl, xT_5 7 rfl rfl, by decide +kernel, by decide +kernel, by decide +kernel⟩
theorem lk_Model_fade : xLV y_Model_fade b_Model_fade 3 (none) 2 := ⟨lb_Model_fade, xT_5 6 rfl rfl, xT_p3 13 rfl⟩
theorem lb_Model_turns : xLB y_Model_turns b_Model_turns 6 (none) 3 := ⟨xT_1 10 rfl rfl, xT_4 236 rfl rfl, by decide +kernel, by decide +kernel, by decide +kernel⟩
theorem lk_Model_turns : xLV y_Model_turns b_Model_turns 6 (none) 3 := ⟨lb_Model_turns, xT_4 235 rfl rfl, xT_p3 11 rfl⟩
theorem lb_Model_waits : xLB y_Model_waits b_Model_waits 5 (none) 3 := ⟨xT_1 10 rfl rfl, xT_5 23 rfl rfl, by decide +kernel, by decide +kernel, by decide +kernel⟩
theorem lk_Model_waits : xLV y_Model_waits b_Model_waits 5 (none) 3 := ⟨lb_Model_waits, xT_5 22 rfl rfl, xT_p4 0 rfl⟩
theorem lb_Model_step : xLB y_Model_step b_Model_step 6 (none) 4 := ⟨xT_1 10 rfl rfl, xT_5 35 rfl rfl, by decide +kernel, by decide +kernel, by decide +kernel⟩
theorem lk_Model_step : xLV y_Model_step b_Model_step 6 (none) 4 := ⟨lb_Model_step, xT_5 34 rfl rfl, xT_p4 2 rfl⟩
theorem lb_Model_walks : xLB y_Model_walks b_Model_walks 6 (none) 4 := ⟨xT_1 10 rfl rfl, xT_5 31 rfl rfl, by decide +kernel, by decide +kernel, by decide +kernel⟩
theorem lk_Model_walks : xLV y_Model_walks b_Model_walks 6 (none) 4 := ⟨lb_Model_walks, xT_5 30 rfl rfl, xT_p4 1 rfl⟩
theorem lb_Model_takes : xLB y_Model_takes b_Model_takes 2 (none) 1 := ⟨xT_1 10 rfl rfl, xT_4 232 rfl rfl, by decide +kernel, by decide +kernel, by decide +kernel⟩
theorem lk_Model_takes : xLV y_Model_takes b_Model_takes 2 (none) 1 := ⟨lb_Model_takes, xT_4 231 rfl rfl, xT_p3 10 rfl⟩
theorem lb_Model_lays : xLB y_Model_lays b_Model_lays 2 (none) 1 := ⟨xT_1 10 rfl rfl, xT_5 15 rfl rfl, by decide +kernel, by decide +kernel, by decide +kernel⟩
theorem lk_Model_lays : xLV y_Model_lays b_Model_lays 2 (none) 1 := ⟨lb_Model_lays, xT_5 14 rfl rfl, xT_p3 15 rfl⟩
theorem lb_Model_isTurned : xLB y_Model_isTurned b_Model_isTurned 1 (some .boolean) 1 := ⟨xT_1 10 rfl rfl, xT_4 228 rfl rfl, by decide +kernel, by decide +kernel, by decide +kernel⟩
theorem lk_Model_isTurned : xLS y_Model_isTurned b_Model_isTurned 1 (some .boolean) 1 := ⟨lb_Model_isTurned, xT_4 227 rfl rfl⟩
theorem lb_Model_turn : xLB y_Model_turn b_Model_turn 4 (some .int) 3 := ⟨xT_1 10 rfl rfl, xT_4 225 rfl rfl, by decide +kernel, by decide +kernel, by decide +kernel⟩
theorem lk_Model_turn : xLV y_Model_turn b_Model_turn 4 (some .int) 3 := ⟨lb_Model_turn, xT_4 223 rfl rfl, xT_4 224 rfl rfl⟩
theorem lb_Model_rest : xLB y_Model_rest b_Model_rest 4 (some .int) 3 := ⟨xT_1 10 rfl rfl, xT_5 19 rfl rfl, by decide +kernel, by decide +kernel, by decide +kernel⟩
theorem lk_Model_rest : xLV y_Model_rest b_Model_rest 4 (some .int) 3 := ⟨lb_Model_rest, xT_5 17 rfl rfl, xT_5 18 rfl rfl⟩
theorem lb_Model_walk : xLB y_Model_walk b_Model_walk 4 (some .int) 3 := ⟨xT_1 10 rfl rfl, xT_5 27 rfl rfl, by decide +kernel, by decide +kernel, by decide +kernel⟩
theorem lk_Model_walk : xLV y_Model_walk b_Model_walk 4 (some .int) 3 := ⟨lb_Model_walk, xT_5 25 rfl rfl, xT_5 26 rfl rfl⟩
theorem lb_Model_up : xLB y_Model_up b_Model_up 3 (some .int) 1 := ⟨xT_1 10 rfl rfl, xT_5 41 rfl rfl, by decide +kernel, by decide +kernel, by decide +kernel⟩
theorem lk_Model_up : xLV y_Model_up b_Model_up 3 (some .int) 1 := ⟨lb_Model_up, xT_5 39 rfl rfl, xT_5 40 rfl rfl⟩
theorem lb_Model_begins : xLB y_Model_begins b_Model_begins 2 (none) 1 := ⟨xT_1 10 rfl rfl, xT_5 56 rfl rfl, by decide +kernel, by decide +kernel, by decide +kernel⟩
theorem lk_Model_begins : xLV y_Model_begins b_Model_begins 2 (none) 1 := ⟨lb_Model_begins, xT_5 55 rfl rfl, xT_p4 4 rfl⟩
theorem lb_Model_tries : xLB y_Model_tries b_Model_tries 7 (none) 6 := ⟨xT_1 10 rfl rfl, xT_5 52 rfl rfl, by decide +kernel, by decide +kernel, by decide +kernel⟩
theorem lk_Model_tries : xLV y_Model_tries b_Model_tries 7 (none) 6 := ⟨lb_Model_tries, xT_5 51 rfl rfl, xT_p4 3 rfl⟩
theorem lb_Model_areDigits : xLB y_Model_areDigits b_Model_areDigits 1 (some .boolean) 1 := ⟨xT_1 10 rfl rfl, xT_5 48 rfl rfl, by decide +kernel, by decide +kernel, by decide +kernel⟩
theorem lk_Model_areDigits : xLS y_Model_areDigits b_Model_areDigits 1 (some .boolean) 1 := ⟨lb_Model_areDigits, xT_5 47 rfl rfl⟩
theorem lb_Model_ends : xLB y_Model_ends b_Model_ends 7 (some .int) 5 := ⟨xT_1 10 rfl rfl, xT_5 45 rfl rfl, by decide +kernel, by decide +kernel, by decide +kernel⟩
theorem lk_Model_ends : xLV y_Model_ends b_Model_ends 7 (some .int) 5 := ⟨lb_Model_ends, xT_5 43 rfl rfl, xT_5 44 rfl rfl⟩
theorem lb_Model_stands : xLB y_Model_stands b_Model_stands 5 (some .int) 2 := ⟨xT_1 10 rfl rfl, xT_5 60 rfl rfl, by decide +kernel, by decide +kernel, by decide +kernel⟩
theorem lk_Model_stands : xLV y_Model_stands b_Model_stands 5 (some .int) 2 := ⟨lb_Model_stands, xT_5 58 rfl rfl, xT_5 59 rfl rfl⟩
theorem lb_Model_undo : xLB y_Model_undo b_Model_undo 8 (some .int) 3 := ⟨xT_1 10 rfl rfl, xT_5 64 rfl rfl, by decide +kernel, by decide +kernel, by decide +kernel⟩
theorem lk_Model_undo : xLV y_Model_undo b_Model_undo 8 (some .int) 3 := ⟨lb_Model_undo, xT_5 62 rfl rfl, xT_5 63 rfl rfl⟩
theorem lb_Model_fine : xLB y_Model_fine b_Model_fine 4 (some .int) 2 := ⟨xT_1 10 rfl rfl, xT_5 68 rfl rfl, by decide +kernel, by decide +kernel, by decide +kernel⟩
theorem lk_Model_fine : xLV y_Model_fine b_Model_fine 4 (some .int) 2 := ⟨lb_Model_fine, xT_5 66 rfl rfl, xT_5 67 rfl rfl⟩
theorem lb_Model_isRace : xLB y_Model_isRace b_Model_isRace 4 (some .boolean) 4 := ⟨xT_1 10 rfl rfl, xT_5 75 rfl rfl, by decide +kernel, by decide +kernel, by decide +kernel⟩
theorem lk_Model_isRace : xLS y_Model_isRace b_Model_isRace 4 (some .boolean) 4 := ⟨lb_Model_isRace, xT_5 74 rfl rfl⟩
theorem lb_Model_raceOf : xLB y_Model_raceOf b_Model_raceOf 9 (some .int) 5 := ⟨xT_1 10 rfl rfl, xT_5 80 rfl rfl, by decide +kernel, by decide +kernel, by decide +kernel⟩
theorem lk_Model_raceOf : xLV y_Model_raceOf b_Model_raceOf 9 (some .int) 5 := ⟨lb_Model_raceOf, xT_5 79 rfl rfl, xT_p4 5 rfl⟩
theorem lb_Model_race : xLB y_Model_race b_Model_race 6 (some .int) 5 := ⟨xT_1 10 rfl rfl, xT_5 72 rfl rfl, by decide +kernel, by decide +kernel, by decide +kernel⟩
theorem lk_Model_race : xLV y_Model_race b_Model_race 6 (some .int) 5 := ⟨lb_Model_race, xT_5 70 rfl rfl, xT_5 71 rfl rfl⟩
theorem lb_Model_wins : xLB y_Model_wins b_Model_wins 10 (some .int) 4 := ⟨xT_1 10 rfl rfl, xT_5 84 rfl rfl, by decide +kernel, by decide +kernel, by decide +kernel⟩
theorem lk_Model_wins : xLV y_Model_wins b_Model_wins 10 (some .int) 4 := ⟨lb_Model_wins, xT_5 82 rfl rfl, xT_5 83 rfl rfl⟩
theorem lb_Model_pace : xLB y_Model_pace b_Model_pace 10 (some .int) 5 := ⟨xT_1 10 rfl rfl, xT_5 88 rfl rfl, by decide +kernel, by decide +kernel, by decide +kernel⟩
theorem lk_Model_pace : xLV y_Model_pace b_Model_pace 10 (some .int) 5 := ⟨lb_Model_pace, xT_5 86 rfl rfl, xT_5 87 rfl rfl⟩
theorem lb_Model_byNumber : xLB y_Model_byNumber b_Model_byNumber 1 (some .int) 1 := ⟨xT_1 10 rfl rfl, xT_5 95 rfl rfl, by decide +kernel, by decide +kernel, by decide +kernel⟩
theorem lk_Model_byNumber : xLS y_Model_byNumber b_Model_byNumber 1 (some .int) 1 := ⟨lb_Model_byNumber, xT_5 94 rfl rfl⟩
theorem lb_Model_roses : xLB y_Model_roses b_Model_roses 11 (some .int) 5 := ⟨xT_1 10 rfl rfl, xT_5 92 rfl rfl, by decide +kernel, by decide +kernel, by decide +kernel⟩
theorem lk_Model_roses : xLV y_Model_roses b_Model_roses 11 (some .int) 5 := ⟨lb_Model_roses, xT_5 90 rfl rfl, xT_5 91 rfl rfl⟩
theorem lb_Model_sheetWrong : xLB y_Model_sheetWrong b_Model_sheetWrong 2 (some .int) 1 := ⟨xT_1 10 rfl rfl, xT_5 107 rfl rfl, by decide +kernel, by decide +kernel, by decide +kernel⟩
theorem lk_Model_sheetWrong : xLV y_Model_sheetWrong b_Model_sheetWrong 2 (some .int) 1 := ⟨lb_Model_sheetWrong, xT_5 106 rfl rfl, xT_p4 7 rfl⟩
theorem lb_Model_toldWrong : xLB y_Model_toldWrong b_Model_toldWrong 6 (some .int) 4 := ⟨xT_1 10 rfl rfl, xT_5 103 rfl rfl, by decide +kernel, by decide +kernel, by decide +kernel⟩
theorem lk_Model_toldWrong : xLV y_Model_toldWrong b_Model_toldWrong 6 (some .int) 4 := ⟨lb_Model_toldWrong, xT_5 102 rfl rfl, xT_p4 6 rfl⟩
theorem lb_Model_unlike : xLB y_Model_unlike b_Model_unlike 6 (some .int) 4 := ⟨xT_1 10 rfl rfl, xT_5 111 rfl rfl, by decide +kernel, by decide +kernel, by decide +kernel⟩
theorem lk_Model_unlike : xLV y_Model_unlike b_Model_unlike 6 (some .int) 4 := ⟨lb_Model_unlike, xT_5 110 rfl rfl, xT_p4 8 rfl⟩
theorem lb_Model_judge : xLB y_Model_judge b_Model_judge 6 (some .int) 4 := ⟨xT_1 10 rfl rfl, xT_5 99 rfl rfl, by decide +kernel, by decide +kernel, by decide +kernel⟩
theorem lk_Model_judge : xLV y_Model_judge b_Model_judge 6 (some .int) 4 := ⟨lb_Model_judge, xT_5 97 rfl rfl, xT_5 98 rfl rfl⟩
theorem lb_Model_turned : xLB y_Model_turned b_Model_turned 10 (some .int) 4 := ⟨xT_1 10 rfl rfl, xT_5 115 rfl rfl, by decide +kernel, by decide +kernel, by decide +kernel⟩
theorem lk_Model_turned : xLV y_Model_turned b_Model_turned 10 (some .int) 4 := ⟨lb_Model_turned, xT_5 113 rfl rfl, xT_5 114 rfl rfl⟩
theorem lb_Model_kinds : xLB y_Model_kinds b_Model_kinds 12 (some .int) 5 := ⟨xT_1 10 rfl rfl, xT_5 119 rfl rfl, by decide +kernel, by decide +kernel, by decide +kernel⟩
theorem lk_Model_kinds : xLV y_Model_kinds b_Model_kinds 12 (some .int) 5 := ⟨lb_Model_kinds, xT_5 117 rfl rfl, xT_5 118 rfl rfl⟩
theorem lb_Model_laws : xLB y_Model_laws b_Model_laws 9 (some .int) 4 := ⟨xT_1 10 rfl rfl, xT_5 123 rfl rfl, by decide +kernel, by decide +kernel, by decide +kernel⟩
theorem lk_Model_laws : xLV y_Model_laws b_Model_laws 9 (some .int) 4 := ⟨lb_Model_laws, xT_5 121 rfl rfl, xT_5 122 rfl rfl⟩
theorem lb_Model_whose : xLB y_Model_whose b_Model_whose 7 (some .int) 3 := ⟨xT_1 10 rfl rfl, xT_5 127 rfl rfl, by decide +kernel, by decide +kernel, by decide +kernel⟩
theorem lk_Model_whose : xLV y_Model_whose b_Model_whose 7 (some .int) 3 := ⟨lb_Model_whose, xT_5 125 rfl rfl, xT_5 126 rfl rfl⟩
theorem lb_Model_film : xLB y_Model_film b_Model_film 7 (some .int) 5 := ⟨xT_1 10 rfl rfl, xT_5 131 rfl rfl, by decide +kernel, by decide +kernel, by decide +kernel⟩
theorem lk_Model_film : xLV y_Model_film b_Model_film 7 (some .int) 5 := ⟨lb_Model_film, xT_5 129 rfl rfl, xT_5 130 rfl rfl⟩
theorem lb_Model_areOdds : xLB y_Model_areOdds b_Model_areOdds 1 (some .boolean) 1 := ⟨xT_1 10 rfl rfl, xT_5 138 rfl rfl, by decide +kernel, by decide +kernel, by decide +kernel⟩
theorem lk_Model_areOdds : xLS y_Model_areOdds b_Model_areOdds 1 (some .boolean) 1 := ⟨lb_Model_areOdds, xT_5 137 rfl rfl⟩
theorem lb_Model_walkBy : xLB y_Model_walkBy b_Model_walkBy 8 (none) 4 := ⟨xT_1 10 rfl rfl, xT_5 142 rfl rfl, by decide +kernel, by decide +kernel, by decide +kernel⟩
theorem lk_Model_walkBy : xLV y_Model_walkBy b_Model_walkBy 8 (none) 4 := ⟨lb_Model_walkBy, xT_5 141 rfl rfl, xT_p4 9 rfl⟩
theorem lb_Model_drawn : xLB y_Model_drawn b_Model_drawn 6 (some .int) 5 := ⟨xT_1 10 rfl rfl, xT_5 135 rfl rfl, by decide +kernel, by decide +kernel, by decide +kernel⟩
theorem lk_Model_drawn : xLV y_Model_drawn b_Model_drawn 6 (some .int) 5 := ⟨lb_Model_drawn, xT_5 133 rfl rfl, xT_5 134 rfl rfl⟩
theorem lb_Model_lowest : xLB y_Model_lowest b_Model_lowest 11 (some .long) 3 := ⟨xT_1 10 rfl rfl, xT_5 153 rfl rfl, by decide +kernel, by decide +kernel, by decide +kernel⟩
theorem lk_Model_lowest : xLS y_Model_lowest b_Model_lowest 11 (some .long) 3 := ⟨lb_Model_lowest, xT_5 152 rfl rfl⟩
theorem lb_Model_odds : xLB y_Model_odds b_Model_odds 11 (some .long) 6 := ⟨xT_1 10 rfl rfl, xT_5 149 rfl rfl, by decide +kernel, by decide +kernel, by decide +kernel⟩
theorem lk_Model_odds : xLV y_Model_odds b_Model_odds 11 (some .long) 6 := ⟨lb_Model_odds, xT_5 147 rfl rfl, xT_5 148 rfl rfl⟩
theorem lb_Model_image : xLB y_Model_image b_Model_image 2 (some .int) 0 := ⟨xT_1 10 rfl rfl, xT_5 157 rfl rfl, by decide +kernel, by decide +kernel, by decide +kernel⟩
theorem lk_Model_image : xLV y_Model_image b_Model_image 2 (some .int) 0 := ⟨lb_Model_image, xT_5 155 rfl rfl, xT_5 156 rfl rfl⟩
theorem lb_Model_back : xLB y_Model_back b_Model_back 2 (some .int) 0 := ⟨xT_1 10 rfl rfl, xT_5 161 rfl rfl, by decide +kernel, by decide +kernel, by decide +kernel⟩
theorem lk_Model_back : xLV y_Model_back b_Model_back 2 (some .int) 0 := ⟨lb_Model_back, xT_5 159 rfl rfl, xT_5 160 rfl rfl⟩
theorem lb_Model_sheet : xLB y_Model_sheet b_Model_sheet 5 (some .int) 3 := ⟨xT_1 10 rfl rfl, xT_5 165 rfl rfl, by decide +kernel, by decide +kernel, by decide +kernel⟩
theorem lk_Model_sheet : xLV y_Model_sheet b_Model_sheet 5 (some .int) 3 := ⟨lb_Model_sheet, xT_5 163 rfl rfl, xT_5 164 rfl rfl⟩
theorem lb_Model_cell : xLB y_Model_cell b_Model_cell 4 (some .int) 3 := ⟨xT_1 10 rfl rfl, xT_5 169 rfl rfl, by decide +kernel, by decide +kernel, by decide +kernel⟩
theorem lk_Model_cell : xLV y_Model_cell b_Model_cell 4 (some .int) 3 := ⟨lb_Model_cell, xT_5 167 rfl rfl, xT_5 168 rfl rfl⟩
theorem lb_Model_copy : xLB y_Model_copy b_Model_copy 10 (some .int) 5 := ⟨xT_1 10 rfl rfl, xT_5 173 rfl rfl, by decide +kernel, by decide +kernel, by decide +kernel⟩
theorem lk_Model_copy : xLV y_Model_copy b_Model_copy 10 (some .int) 5 := ⟨lb_Model_copy, xT_5 171 rfl rfl, xT_5 172 rfl rfl⟩
theorem lb_Model_headsBy : xLB y_Model_headsBy b_Model_headsBy 9 (some .int) 4 := ⟨xT_1 10 rfl rfl, xT_5 177 rfl rfl, by decide +kernel, by decide +kernel, by decide +kernel⟩
theorem lk_Model_headsBy : xLV y_Model_headsBy b_Model_headsBy 9 (some .int) 4 := ⟨lb_Model_headsBy, xT_5 175 rfl rfl, xT_5 176 rfl rfl⟩
theorem lb_Model_isUnder : xLB y_Model_isUnder b_Model_isUnder 2 (some .boolean) 2 := ⟨xT_1 10 rfl rfl, xT_5 185 rfl rfl, by decide +kernel, by decide +kernel, by decide +kernel⟩
theorem lk_Model_isUnder : xLS y_Model_isUnder b_Model_isUnder 2 (some .boolean) 2 := ⟨lb_Model_isUnder, xT_5 184 rfl rfl⟩
theorem lb_Model_taken : xLB y_Model_taken b_Model_taken 3 (some .int) 2 := ⟨xT_1 10 rfl rfl, xT_5 182 rfl rfl, by decide +kernel, by decide +kernel, by decide +kernel⟩
theorem lk_Model_taken : xLV y_Model_taken b_Model_taken 3 (some .int) 2 := ⟨lb_Model_taken, xT_5 180 rfl rfl, xT_5 181 rfl rfl⟩
theorem lb_Head_init : xLB y_Head_init b_Head_init 1 (none) 0 := ⟨xT_1 2 rfl rfl, xT_1 27 rfl rfl, by decide +kernel, by decide +kernel, by decide +kernel⟩
theorem lk_Head_init : xLI y_Head_init b_Head_init 1 0 := ⟨lb_Head_init, rfl, xT_1 26 rfl rfl⟩
theorem lb_Head_begin : xLB y_Head_begin b_Head_begin 3 (none) 2 := ⟨xT_1 2 rfl rfl, xT_2 184 rfl rfl, by decide +kernel, by decide +kernel, by decide +kernel⟩
theorem lk_Head_begin : xLV y_Head_begin b_Head_begin 3 (none) 2 := ⟨lb_Head_begin, xT_2 182 rfl rfl, xT_2 183 rfl rfl⟩
theorem lb_Head_become : xLB y_Head_become b_Head_become 2 (none) 1 := ⟨xT_1 2 rfl rfl, xT_3 57 rfl rfl, by decide +kernel, by decide +kernel, by decide +kernel⟩
theorem lk_Head_become : xLV y_Head_become b_Head_become 2 (none) 1 := ⟨lb_Head_become, xT_3 55 rfl rfl, xT_3 56 rfl rfl⟩
theorem lb_Head_standAtStart : xLB y_Head_standAtStart b_Head_standAtStart 1 (none) 0 := ⟨xT_1 2 rfl rfl, xT_2 188 rfl rfl, by decide +kernel, by decide +kernel, by decide +kernel⟩
theorem lk_Head_standAtStart : xLV y_Head_standAtStart b_Head_standAtStart 1 (none) 0 := ⟨lb_Head_standAtStart, xT_2 186 rfl rfl, xT_2 187 rfl rfl⟩
theorem lb_Head_fallsFrom : xLB y_Head_fallsFrom b_Head_fallsFrom 1 (some .int) 0 := ⟨xT_1 2 rfl rfl, xT_2 202 rfl rfl, by decide +kernel, by decide +kernel, by decide +kernel⟩
theorem lk_Head_fallsFrom : xLV y_Head_fallsFrom b_Head_fallsFrom 1 (some .int) 0 := ⟨lb_Head_fallsFrom, xT_2 200 rfl rfl, xT_2 201 rfl rfl⟩
theorem lb_Head_mustFall : xLB y_Head_mustFall b_Head_mustFall 1 (some .boolean) 0 := ⟨xT_1 2 rfl rfl, xT_3 27 rfl rfl, by decide +kernel, by decide +kernel, by decide +kernel⟩
theorem lk_Head_mustFall : xLV y_Head_mustFall b_Head_mustFall 1 (some .boolean) 0 := ⟨lb_Head_mustFall, xT_3 25 rfl rfl, xT_3 26 rfl rfl⟩
theorem lb_Head_fade : xLB y_Head_fade b_Head_fade 4 (none) 2 := ⟨xT_1 2 rfl rfl, xT_2 236 rfl rfl, by decide +kernel, by decide +kernel, by decide +kernel⟩
theorem lk_Head_fade : xLV y_Head_fade b_Head_fade 4 (none) 2 := ⟨lb_Head_fade, xT_2 234 rfl rfl, xT_2 235 rfl rfl⟩
theorem lb_Head_spinOnce : xLB y_Head_spinOnce b_Head_spinOnce 5 (none) 3 := ⟨xT_1 2 rfl rfl, xT_2 226 rfl rfl, by decide +kernel, by decide +kernel, by decide +kernel⟩
theorem lk_Head_spinOnce : xLV y_Head_spinOnce b_Head_spinOnce 5 (none) 3 := ⟨lb_Head_spinOnce, xT_2 224 rfl rfl, xT_2 225 rfl rfl⟩
theorem lb_Head_spin : xLB y_Head_spin b_Head_spin 6 (none) 3 := ⟨xT_1 2 rfl rfl, xT_2 219 rfl rfl, by decide +kernel, by decide +kernel, by decide +kernel⟩
theorem lk_Head_spin : xLV y_Head_spin b_Head_spin 6 (none) 3 := ⟨lb_Head_spin, xT_2 217 rfl rfl, xT_2 218 rfl rfl⟩
theorem lb_Head_linger : xLB y_Head_linger b_Head_linger 5 (none) 3 := ⟨xT_1 2 rfl rfl, xT_3 11 rfl rfl, by decide +kernel, by decide +kernel, by decide +kernel⟩
theorem lk_Head_linger : xLV y_Head_linger b_Head_linger 5 (none) 3 := ⟨lb_Head_linger, xT_3 9 rfl rfl, xT_3 10 rfl rfl⟩
theorem lb_Head_step : xLB y_Head_step b_Head_step 5 (none) 3 := ⟨xT_1 2 rfl rfl, xT_3 23 rfl rfl, by decide +kernel, by decide +kernel, by decide +kernel⟩
theorem lk_Head_step : xLV y_Head_step b_Head_step 5 (none) 3 := ⟨lb_Head_step, xT_3 21 rfl rfl, xT_3 22 rfl rfl⟩
theorem lb_Head_goOn : xLB y_Head_goOn b_Head_goOn 6 (some .int) 4 := ⟨xT_1 2 rfl rfl, xT_3 19 rfl rfl, by decide +kernel, by decide +kernel, by decide +kernel⟩
theorem lk_Head_goOn : xLV y_Head_goOn b_Head_goOn 6 (some .int) 4 := ⟨lb_Head_goOn, xT_3 17 rfl rfl, xT_3 18 rfl rfl⟩
theorem lb_Kind_isOne : xLB y_Kind_isOne b_Kind_isOne 2 (some .boolean) 2 := ⟨xT_1 12 rfl rfl, xT_4 6 rfl rfl, by decide +kernel, by decide +kernel, by decide +kernel⟩
theorem lk_Kind_isOne : xLS y_Kind_isOne b_Kind_isOne 2 (some .boolean) 2 := ⟨lb_Kind_isOne, xT_4 5 rfl rfl⟩
theorem lb_Kind_above : xLB y_Kind_above b_Kind_above 1 (some .int) 1 := ⟨xT_1 12 rfl rfl, xT_4 9 rfl rfl, by decide +kernel, by decide +kernel, by decide +kernel⟩
theorem lk_Kind_above : xLS y_Kind_above b_Kind_above 1 (some .int) 1 := ⟨lb_Kind_above, xT_4 8 rfl rfl⟩
theorem lb_Kind_builds : xLB y_Kind_builds b_Kind_builds 4 (some .int) 4 := ⟨xT_1 12 rfl rfl, xT_2 230 rfl rfl, by decide +kernel, by decide +kernel, by decide +kernel⟩
theorem lk_Kind_builds : xLS y_Kind_builds b_Kind_builds 4 (some .int) 4 := ⟨lb_Kind_builds, xT_2 229 rfl rfl⟩
theorem lb_Kind_fades : xLB y_Kind_fades b_Kind_fades 4 (some .int) 2 := ⟨xT_1 12 rfl rfl, xT_2 239 rfl rfl, by decide +kernel, by decide +kernel, by decide +kernel⟩
theorem lk_Kind_fades : xLS y_Kind_fades b_Kind_fades 4 (some .int) 2 := ⟨lb_Kind_fades, xT_2 238 rfl rfl⟩
theorem lb_Kind_fallsFrom : xLB y_Kind_fallsFrom b_Kind_fallsFrom 2 (some .int) 2 := ⟨xT_1 12 rfl rfl, xT_2 205 rfl rfl, by decide +kernel, by decide +kernel, by decide +kernel⟩
theorem lk_Kind_fallsFrom : xLS y_Kind_fallsFrom b_Kind_fallsFrom 2 (some .int) 2 := ⟨lb_Kind_fallsFrom, xT_2 204 rfl rfl⟩
theorem lb_Reader_init : xLB y_Reader_init b_Reader_init 3 (none) 0 := ⟨xT_1 4 rfl rfl, xT_1 94 rfl rfl, by decide +kernel, by decide +kernel, by decide +kernel⟩
theorem lk_Reader_init : xLI y_Reader_init b_Reader_init 3 0 := ⟨lb_Reader_init, rfl, xT_1 93 rfl rfl⟩
theorem lb_Reader_take : xLB y_Reader_take b_Reader_take 2 (none) 1 := ⟨xT_1 4 rfl rfl, xT_1 204 rfl rfl, by decide +kernel, by decide +kernel, by decide +kernel⟩
theorem lk_Reader_take : xLV y_Reader_take b_Reader_take 2 (none) 1 := ⟨lb_Reader_take, xT_1 202 rfl rfl, xT_1 203 rfl rfl⟩
theorem lb_Reader_empty : xLB y_Reader_empty b_Reader_empty 1 (none) 0 := ⟨xT_1 4 rfl rfl, xT_2 61 rfl rfl, by decide +kernel, by decide +kernel, by decide +kernel⟩
theorem lk_Reader_empty : xLV y_Reader_empty b_Reader_empty 1 (none) 0 := ⟨lb_Reader_empty, xT_2 59 rfl rfl, xT_2 60 rfl rfl⟩
theorem lb_Reader_byteAt : xLB y_Reader_byteAt b_Reader_byteAt 2 (some .int) 1 := ⟨xT_1 4 rfl rfl, xT_1 224 rfl rfl, by decide +kernel, by decide +kernel, by decide +kernel⟩
theorem lk_Reader_byteAt : xLV y_Reader_byteAt b_Reader_byteAt 2 (some .int) 1 := ⟨lb_Reader_byteAt, xT_1 223 rfl rfl, xT_p1 2 rfl⟩
theorem lb_Reader_read : xLB y_Reader_read b_Reader_read 3 (some .int) 1 := ⟨xT_1 4 rfl rfl, xT_1 212 rfl rfl, by decide +kernel, by decide +kernel, by decide +kernel⟩
theorem lk_Reader_read : xLV y_Reader_read b_Reader_read 3 (some .int) 1 := ⟨lb_Reader_read, xT_1 210 rfl rfl, xT_1 211 rfl rfl⟩
theorem lb_Reader_failed : xLB y_Reader_failed b_Reader_failed 1 (some .boolean) 0 := ⟨xT_1 4 rfl rfl, xT_2 17 rfl rfl, by decide +kernel, by decide +kernel, by decide +kernel⟩
theorem lk_Reader_failed : xLV y_Reader_failed b_Reader_failed 1 (some .boolean) 0 := ⟨lb_Reader_failed, xT_2 16 rfl rfl, xT_p1 7 rfl⟩
theorem lb_Reader_fail : xLB y_Reader_fail b_Reader_fail 1 (none) 0 := ⟨xT_1 4 rfl rfl, xT_2 13 rfl rfl, by decide +kernel, by decide +kernel, by decide +kernel⟩
theorem lk_Reader_fail : xLV y_Reader_fail b_Reader_fail 1 (none) 0 := ⟨lb_Reader_fail, xT_2 12 rfl rfl, xT_p1 6 rfl⟩
theorem lb_Reader_expect : xLB y_Reader_expect b_Reader_expect 2 (none) 1 := ⟨xT_1 4 rfl rfl, xT_2 9 rfl rfl, by decide +kernel, by decide +kernel, by decide +kernel⟩
theorem lk_Reader_expect : xLV y_Reader_expect b_Reader_expect 2 (none) 1 := ⟨lb_Reader_expect, xT_2 8 rfl rfl, xT_p1 5 rfl⟩
theorem lb_Reader_at : xLB y_Reader_at b_Reader_at 2 (some .boolean) 1 := ⟨xT_1 4 rfl rfl, xT_2 33 rfl rfl, by decide +kernel, by decide +kernel, by decide +kernel⟩
theorem lk_Reader_at : xLV y_Reader_at b_Reader_at 2 (some .boolean) 1 := ⟨lb_Reader_at, xT_2 32 rfl rfl, xT_p1 11 rfl⟩
theorem lb_Reader_readOr : xLB y_Reader_readOr b_Reader_readOr 3 (none) 1 := ⟨xT_1 4 rfl rfl, xT_2 21 rfl rfl, by decide +kernel, by decide +kernel, by decide +kernel⟩
theorem lk_Reader_readOr : xLV y_Reader_readOr b_Reader_readOr 3 (none) 1 := ⟨lb_Reader_readOr, xT_2 20 rfl rfl, xT_p1 8 rfl⟩
theorem lb_Reader_readAnd : xLB y_Reader_readAnd b_Reader_readAnd 3 (none) 1 := ⟨xT_1 4 rfl rfl, xT_2 25 rfl rfl, by decide +kernel, by decide +kernel, by decide +kernel⟩
theorem lk_Reader_readAnd : xLV y_Reader_readAnd b_Reader_readAnd 3 (none) 1 := ⟨lb_Reader_readAnd, xT_2 24 rfl rfl, xT_p1 9 rfl⟩
theorem lb_Reader_readNot : xLB y_Reader_readNot b_Reader_readNot 3 (none) 1 := ⟨xT_1 4 rfl rfl, xT_2 29 rfl rfl, by decide +kernel, by decide +kernel, by decide +kernel⟩
theorem lk_Reader_readNot : xLV y_Reader_readNot b_Reader_readNot 3 (none) 1 := ⟨lb_Reader_readNot, xT_2 28 rfl rfl, xT_p1 10 rfl⟩
theorem lb_Reader_readSum : xLB y_Reader_readSum b_Reader_readSum 4 (none) 1 := ⟨xT_1 4 rfl rfl, xT_2 45 rfl rfl, by decide +kernel, by decide +kernel, by decide +kernel⟩
theorem lk_Reader_readSum : xLV y_Reader_readSum b_Reader_readSum 4 (none) 1 := ⟨lb_Reader_readSum, xT_2 44 rfl rfl, xT_p1 13 rfl⟩
theorem lb_Reader_readTerm : xLB y_Reader_readTerm b_Reader_readTerm 3 (none) 1 := ⟨xT_1 4 rfl rfl, xT_2 49 rfl rfl, by decide +kernel, by decide +kernel, by decide +kernel⟩
theorem lk_Reader_readTerm : xLV y_Reader_readTerm b_Reader_readTerm 3 (none) 1 := ⟨lb_Reader_readTerm, xT_2 48 rfl rfl, xT_p1 14 rfl⟩
theorem lb_Reader_readOne : xLB y_Reader_readOne b_Reader_readOne 2 (none) 1 := ⟨xT_1 4 rfl rfl, xT_2 53 rfl rfl, by decide +kernel, by decide +kernel, by decide +kernel⟩
theorem lk_Reader_readOne : xLV y_Reader_readOne b_Reader_readOne 2 (none) 1 := ⟨lb_Reader_readOne, xT_2 52 rfl rfl, xT_p1 15 rfl⟩
theorem lb_Reader_opened : xLB y_Reader_opened b_Reader_opened 1 (some .boolean) 0 := ⟨xT_1 4 rfl rfl, xT_2 37 rfl rfl, by decide +kernel, by decide +kernel, by decide +kernel⟩
theorem lk_Reader_opened : xLV y_Reader_opened b_Reader_opened 1 (some .boolean) 0 := ⟨lb_Reader_opened, xT_2 36 rfl rfl, xT_p1 12 rfl⟩
theorem lb_Reader_advance : xLB y_Reader_advance b_Reader_advance 2 (none) 0 := ⟨xT_1 4 rfl rfl, xT_1 220 rfl rfl, by decide +kernel, by decide +kernel, by decide +kernel⟩
theorem lk_Reader_advance : xLV y_Reader_advance b_Reader_advance 2 (none) 0 := ⟨lb_Reader_advance, xT_1 219 rfl rfl, xT_p1 1 rfl⟩
theorem lb_Reader_takeWord : xLB y_Reader_takeWord b_Reader_takeWord 4 (none) 0 := ⟨xT_1 4 rfl rfl, xT_1 234 rfl rfl, by decide +kernel, by decide +kernel, by decide +kernel⟩
theorem lk_Reader_takeWord : xLV y_Reader_takeWord b_Reader_takeWord 4 (none) 0 := ⟨lb_Reader_takeWord, xT_1 233 rfl rfl, xT_p1 3 rfl⟩
theorem lb_Reader_takeNumber : xLB y_Reader_takeNumber b_Reader_takeNumber 2 (none) 0 := ⟨xT_1 4 rfl rfl, xT_2 2 rfl rfl, by decide +kernel, by decide +kernel, by decide +kernel⟩
theorem lk_Reader_takeNumber : xLV y_Reader_takeNumber b_Reader_takeNumber 2 (none) 0 := ⟨lb_Reader_takeNumber, xT_2 1 rfl rfl, xT_p1 4 rfl⟩
theorem lb_Reader_isBlank : xLB y_Reader_isBlank b_Reader_isBlank 1 (some .boolean) 1 := ⟨xT_1 4 rfl rfl, xT_1 227 rfl rfl, by decide +kernel, by decide +kernel, by decide +kernel⟩
theorem lk_Reader_isBlank : xLS y_Reader_isBlank b_Reader_isBlank 1 (some .boolean) 1 := ⟨lb_Reader_isBlank, xT_1 226 rfl rfl⟩
theorem lb_Reader_isLetter : xLB y_Reader_isLetter b_Reader_isLetter 1 (some .boolean) 1 := ⟨xT_1 4 rfl rfl, xT_1 230 rfl rfl, by decide +kernel, by decide +kernel, by decide +kernel⟩
theorem lk_Reader_isLetter : xLS y_Reader_isLetter b_Reader_isLetter 1 (some .boolean) 1 := ⟨lb_Reader_isLetter, xT_1 229 rfl rfl⟩
theorem lb_Reader_isDigit : xLB y_Reader_isDigit b_Reader_isDigit 1 (some .boolean) 1 := ⟨xT_1 4 rfl rfl, xT_1 238 rfl rfl, by decide +kernel, by decide +kernel, by decide +kernel⟩
theorem lk_Reader_isDigit : xLS y_Reader_isDigit b_Reader_isDigit 1 (some .boolean) 1 := ⟨lb_Reader_isDigit, xT_1 237 rfl rfl⟩
theorem lb_Reader_isSign : xLB y_Reader_isSign b_Reader_isSign 1 (some .boolean) 1 := ⟨xT_1 4 rfl rfl, xT_2 5 rfl rfl, by decide +kernel, by decide +kernel, by decide +kernel⟩
theorem lk_Reader_isSign : xLS y_Reader_isSign b_Reader_isSign 1 (some .boolean) 1 := ⟨lb_Reader_isSign, xT_2 4 rfl rfl⟩
theorem lb_Sheet_init : xLB y_Sheet_init b_Sheet_init 1 (none) 0 := ⟨xT_1 9 rfl rfl, xT_1 183 rfl rfl, by decide +kernel, by decide +kernel, by decide +kernel⟩
theorem lk_Sheet_init : xLI y_Sheet_init b_Sheet_init 1 0 := ⟨lb_Sheet_init, rfl, xT_1 182 rfl rfl⟩
theorem lb_Sheet_begin : xLB y_Sheet_begin b_Sheet_begin 4 (none) 2 := ⟨xT_1 9 rfl rfl, xT_3 172 rfl rfl, by decide +kernel, by decide +kernel, by decide +kernel⟩
theorem lk_Sheet_begin : xLV y_Sheet_begin b_Sheet_begin 4 (none) 2 := ⟨lb_Sheet_begin, xT_3 170 rfl rfl, xT_3 171 rfl rfl⟩
theorem lb_Sheet_isMissing : xLB y_Sheet_isMissing b_Sheet_isMissing 1 (some .boolean) 0 := ⟨xT_1 9 rfl rfl, xT_3 135 rfl rfl, by decide +kernel, by decide +kernel, by decide +kernel⟩
theorem lk_Sheet_isMissing : xLV y_Sheet_isMissing b_Sheet_isMissing 1 (some .boolean) 0 := ⟨lb_Sheet_isMissing, xT_3 133 rfl rfl, xT_3 134 rfl rfl⟩
theorem lb_Sheet_has : xLB y_Sheet_has b_Sheet_has 2 (some .boolean) 1 := ⟨xT_1 9 rfl rfl, xT_3 148 rfl rfl, by decide +kernel, by decide +kernel, by decide +kernel⟩
theorem lk_Sheet_has : xLV y_Sheet_has b_Sheet_has 2 (some .boolean) 1 := ⟨lb_Sheet_has, xT_3 146 rfl rfl, xT_3 147 rfl rfl⟩
theorem lb_Sheet_hasRow : xLB y_Sheet_hasRow b_Sheet_hasRow 3 (some .boolean) 2 := ⟨xT_1 9 rfl rfl, xT_3 231 rfl rfl, by decide +kernel, by decide +kernel, by decide +kernel⟩
theorem lk_Sheet_hasRow : xLV y_Sheet_hasRow b_Sheet_hasRow 3 (some .boolean) 2 := ⟨lb_Sheet_hasRow, xT_3 229 rfl rfl, xT_3 230 rfl rfl⟩
theorem lb_Sheet_get : xLB y_Sheet_get b_Sheet_get 2 (some .int) 1 := ⟨xT_1 9 rfl rfl, xT_3 144 rfl rfl, by decide +kernel, by decide +kernel, by decide +kernel⟩
theorem lk_Sheet_get : xLV y_Sheet_get b_Sheet_get 2 (some .int) 1 := ⟨lb_Sheet_get, xT_3 142 rfl rfl, xT_3 143 rfl rfl⟩
theorem lb_Sheet_put : xLB y_Sheet_put b_Sheet_put 3 (none) 2 := ⟨xT_1 9 rfl rfl, xT_3 177 rfl rfl, by decide +kernel, by decide +kernel, by decide +kernel⟩
theorem lk_Sheet_put : xLV y_Sheet_put b_Sheet_put 3 (none) 2 := ⟨lb_Sheet_put, xT_3 175 rfl rfl, xT_3 176 rfl rfl⟩
theorem lb_Text_init : xLB y_Text_init b_Text_init 1 (none) 0 := ⟨xT_1 3 rfl rfl, xT_1 71 rfl rfl, by decide +kernel, by decide +kernel, by decide +kernel⟩
theorem lk_Text_init : xLI y_Text_init b_Text_init 1 0 := ⟨lb_Text_init, rfl, xT_1 70 rfl rfl⟩
theorem lb_Text_clear : xLB y_Text_clear b_Text_clear 1 (none) 0 := ⟨xT_1 3 rfl rfl, xT_1 216 rfl rfl, by decide +kernel, by decide +kernel, by decide +kernel⟩
theorem lk_Text_clear : xLV y_Text_clear b_Text_clear 1 (none) 0 := ⟨lb_Text_clear, xT_1 214 rfl rfl, xT_1 215 rfl rfl⟩
theorem lb_Text_add : xLB y_Text_add b_Text_add 2 (none) 1 := ⟨xT_1 3 rfl rfl, xT_2 41 rfl rfl, by decide +kernel, by decide +kernel, by decide +kernel⟩
theorem lk_Text_add : xLV y_Text_add b_Text_add 2 (none) 1 := ⟨lb_Text_add, xT_2 39 rfl rfl, xT_2 40 rfl rfl⟩
theorem lb_Text_endPart : xLB y_Text_endPart b_Text_endPart 1 (none) 0 := ⟨xT_1 3 rfl rfl, xT_2 57 rfl rfl, by decide +kernel, by decide +kernel, by decide +kernel⟩
theorem lk_Text_endPart : xLV y_Text_endPart b_Text_endPart 1 (none) 0 := ⟨lb_Text_endPart, xT_2 55 rfl rfl, xT_2 56 rfl rfl⟩
theorem lb_Text_partEnd : xLB y_Text_partEnd b_Text_partEnd 2 (some .int) 1 := ⟨xT_1 3 rfl rfl, xT_2 156 rfl rfl, by decide +kernel, by decide +kernel, by decide +kernel⟩
theorem lk_Text_partEnd : xLV y_Text_partEnd b_Text_partEnd 2 (some .int) 1 := ⟨lb_Text_partEnd, xT_2 154 rfl rfl, xT_2 155 rfl rfl⟩
theorem lb_Text_says : xLB y_Text_says b_Text_says 10 (some .int) 4 := ⟨xT_1 3 rfl rfl, xT_2 152 rfl rfl, by decide +kernel, by decide +kernel, by decide +kernel⟩
theorem lk_Text_says : xLV y_Text_says b_Text_says 10 (some .int) 4 := ⟨lb_Text_says, xT_2 150 rfl rfl, xT_2 151 rfl rfl⟩
theorem lb_Text_named : xLB y_Text_named b_Text_named 4 (some .int) 4 := ⟨xT_1 3 rfl rfl, xT_2 165 rfl rfl, by decide +kernel, by decide +kernel, by decide +kernel⟩
theorem lk_Text_named : xLS y_Text_named b_Text_named 4 (some .int) 4 := ⟨lb_Text_named, xT_2 164 rfl rfl⟩
theorem lb_Text_joined : xLB y_Text_joined b_Text_joined 3 (some .int) 3 := ⟨xT_1 3 rfl rfl, xT_2 168 rfl rfl, by decide +kernel, by decide +kernel, by decide +kernel⟩
theorem lk_Text_joined : xLS y_Text_joined b_Text_joined 3 (some .int) 3 := ⟨lb_Text_joined, xT_2 167 rfl rfl⟩
theorem ml_X_1 : Cond.methodLink "RoundAndRound" 1 Lib.objectInit ∈ xT := xT_1 19 rfl rfl
theorem cl_X_9 : Cond.classLink "RoundAndRound" 9 "RoundAndRound$Head" ∈ xT := xT_1 22 rfl rfl
theorem fp_X_11 : xFP "RoundAndRound" 11 0 0 (.array (.object "RoundAndRound$Head")) true := ⟨R_X, F_X, 15, t_X, ⟨rfl, i_X, by decide, xT_2 62 rfl rfl⟩, t_X_ok, n_X, rfl, by decide +kernel, fun _ => rfl⟩
theorem fp_X_15 : xFP "RoundAndRound" 15 0 1 (.array (.object "RoundAndRound$Head")) true := ⟨R_X, F_X, 15, t_X, ⟨rfl, i_X, by decide, xT_2 63 rfl rfl⟩, t_X_ok, n_X, rfl, by decide +kernel, fun _ => rfl⟩
theorem mn_X_18 : Cond.methodLinkNest "RoundAndRound" 18 y_Head_init "RoundAndRound" ∈ xnest := List.mem_of_getElem? (i := 0) rfl
theorem fp_X_19 : xFP "RoundAndRound" 19 0 2 (.object "RoundAndRound$Head") true := ⟨R_X, F_X, 15, t_X, ⟨rfl, i_X, by decide, xT_2 64 rfl rfl⟩, t_X_ok, n_X, rfl, by decide +kernel, fun _ => rfl⟩
theorem fp_X_23 : xFP "RoundAndRound" 23 0 3 (.object "RoundAndRound$Head") true := ⟨R_X, F_X, 15, t_X, ⟨rfl, i_X, by decide, xT_2 65 rfl rfl⟩, t_X_ok, n_X, rfl, by decide +kernel, fun _ => rfl⟩
theorem fp_X_26 : xFP "RoundAndRound" 26 0 4 (.array .int) true := ⟨R_X, F_X, 15, t_X, ⟨rfl, i_X, by decide, xT_2 66 rfl rfl⟩, t_X_ok, n_X, rfl, by decide +kernel, fun _ => rfl⟩
theorem cl_X_30 : Cond.classLink "RoundAndRound" 30 "RoundAndRound$Text" ∈ xT := xT_1 66 rfl rfl
theorem fp_X_32 : xFP "RoundAndRound" 32 0 5 (.array (.object "RoundAndRound$Text")) true := ⟨R_X, F_X, 15, t_X, ⟨rfl, i_X, by decide, xT_2 67 rfl rfl⟩, t_X_ok, n_X, rfl, by decide +kernel, fun _ => rfl⟩
theorem mn_X_36 : Cond.methodLinkNest "RoundAndRound" 36 y_Text_init "RoundAndRound" ∈ xnest := List.mem_of_getElem? (i := 1) rfl
theorem fp_X_37 : xFP "RoundAndRound" 37 0 6 (.object "RoundAndRound$Text") true := ⟨R_X, F_X, 15, t_X, ⟨rfl, i_X, by decide, xT_2 68 rfl rfl⟩, t_X_ok, n_X, rfl, by decide +kernel, fun _ => rfl⟩
theorem cl_X_41 : Cond.classLink "RoundAndRound" 41 "RoundAndRound$Reader" ∈ xT := xT_1 90 rfl rfl
theorem ml_X_43 : Cond.methodLink "RoundAndRound" 43 y_Reader_init ∈ xT := xT_1 92 rfl rfl
theorem fp_X_44 : xFP "RoundAndRound" 44 0 7 (.object "RoundAndRound$Reader") true := ⟨R_X, F_X, 15, t_X, ⟨rfl, i_X, by decide, xT_2 69 rfl rfl⟩, t_X_ok, n_X, rfl, by decide +kernel, fun _ => rfl⟩
theorem cl_X_48 : Cond.classLink "RoundAndRound" 48 "RoundAndRound$Sheet" ∈ xT := xT_1 178 rfl rfl
theorem fp_X_50 : xFP "RoundAndRound" 50 0 8 (.array (.object "RoundAndRound$Sheet")) true := ⟨R_X, F_X, 15, t_X, ⟨rfl, i_X, by decide, xT_2 70 rfl rfl⟩, t_X_ok, n_X, rfl, by decide +kernel, fun _ => rfl⟩
theorem mn_X_54 : Cond.methodLinkNest "RoundAndRound" 54 y_Sheet_init "RoundAndRound" ∈ xnest := List.mem_of_getElem? (i := 2) rfl
theorem fp_X_55 : xFP "RoundAndRound" 55 0 9 (.object "RoundAndRound$Sheet") true := ⟨R_X, F_X, 15, t_X, ⟨rfl, i_X, by decide, xT_2 71 rfl rfl⟩, t_X_ok, n_X, rfl, by decide +kernel, fun _ => rfl⟩
theorem fp_X_59 : xFP "RoundAndRound" 59 0 10 (.int) false := ⟨R_X, F_X, 15, t_X, ⟨rfl, i_X, by decide, xT_2 72 rfl rfl⟩, t_X_ok, n_X, rfl, by decide +kernel, fun h => by cases h⟩
theorem fp_X_63 : xFP "RoundAndRound" 63 0 11 (.int) false := ⟨R_X, F_X, 15, t_X, ⟨rfl, i_X, by decide, xT_2 73 rfl rfl⟩, t_X_ok, n_X, rfl, by decide +kernel, fun h => by cases h⟩
theorem fp_X_66 : xFP "RoundAndRound" 66 0 12 (.int) false := ⟨R_X, F_X, 15, t_X, ⟨rfl, i_X, by decide, xT_2 74 rfl rfl⟩, t_X_ok, n_X, rfl, by decide +kernel, fun h => by cases h⟩
theorem fp_X_69 : xFP "RoundAndRound" 69 0 13 (.int) false := ⟨R_X, F_X, 15, t_X, ⟨rfl, i_X, by decide, xT_2 75 rfl rfl⟩, t_X_ok, n_X, rfl, by decide +kernel, fun h => by cases h⟩
theorem fp_X_72 : xFP "RoundAndRound" 72 0 14 (.int) false := ⟨R_X, F_X, 15, t_X, ⟨rfl, i_X, by decide, xT_2 76 rfl rfl⟩, t_X_ok, n_X, rfl, by decide +kernel, fun h => by cases h⟩
theorem fg_X_11 : xFL "RoundAndRound" 11 0 0 := ⟨R_X, F_X, 15, rfl, i_X, by decide, xT_2 62 rfl rfl⟩
theorem fg_X_15 : xFL "RoundAndRound" 15 0 1 := ⟨R_X, F_X, 15, rfl, i_X, by decide, xT_2 63 rfl rfl⟩
theorem fg_X_32 : xFL "RoundAndRound" 32 0 5 := ⟨R_X, F_X, 15, rfl, i_X, by decide, xT_2 67 rfl rfl⟩
theorem fg_X_50 : xFL "RoundAndRound" 50 0 8 := ⟨R_X, F_X, 15, rfl, i_X, by decide, xT_2 70 rfl rfl⟩
theorem fg_X_44 : xFL "RoundAndRound" 44 0 7 := ⟨R_X, F_X, 15, rfl, i_X, by decide, xT_2 69 rfl rfl⟩
theorem ml_X_87 : Cond.methodLink "RoundAndRound" 87 y_Reader_take ∈ xT := xT_1 201 rfl rfl
theorem ml_X_91 : Cond.methodLink "RoundAndRound" 91 y_X_textAt ∈ xT := xT_1 205 rfl rfl
theorem ml_X_95 : Cond.methodLink "RoundAndRound" 95 y_Reader_read ∈ xT := xT_1 209 rfl rfl
theorem ml_X_99 : Cond.methodLink "RoundAndRound" 99 y_Reader_empty ∈ xT := xT_2 58 rfl rfl
theorem fg_X_59 : xFL "RoundAndRound" 59 0 10 := ⟨R_X, F_X, 15, rfl, i_X, by decide, xT_2 72 rfl rfl⟩
theorem fg_X_63 : xFL "RoundAndRound" 63 0 11 := ⟨R_X, F_X, 15, rfl, i_X, by decide, xT_2 73 rfl rfl⟩
theorem fg_X_66 : xFL "RoundAndRound" 66 0 12 := ⟨R_X, F_X, 15, rfl, i_X, by decide, xT_2 74 rfl rfl⟩
theorem fg_X_102 : xFL "RoundAndRound" 102 3 2 := ⟨R_Reader, F_Reader, 9, rfl, i_Reader, by decide, xT_1 150 rfl rfl⟩
theorem ml_X_105 : Cond.methodLink "RoundAndRound" 105 y_X_within ∈ xT := xT_2 116 rfl rfl
theorem ml_X_109 : Cond.methodLink "RoundAndRound" 109 y_X_isByte ∈ xT := xT_2 119 rfl rfl
theorem ml_X_113 : Cond.methodLink "RoundAndRound" 113 y_X_isHead ∈ xT := xT_2 134 rfl rfl
theorem ml_X_116 : Cond.methodLink "RoundAndRound" 116 y_X_isNumberAndEyes ∈ xT := xT_2 138 rfl rfl
theorem ml_X_120 : Cond.methodLink "RoundAndRound" 120 y_X_law ∈ xT := xT_2 141 rfl rfl
theorem ml_X_124 : Cond.methodLink "RoundAndRound" 124 y_X_headAt ∈ xT := xT_2 145 rfl rfl
theorem ml_X_128 : Cond.methodLink "RoundAndRound" 128 y_Text_says ∈ xT := xT_2 149 rfl rfl
theorem ml_X_132 : Cond.methodLink "RoundAndRound" 132 y_X_isKind ∈ xT := xT_2 178 rfl rfl
theorem ml_X_135 : Cond.methodLink "RoundAndRound" 135 y_Head_begin ∈ xT := xT_2 181 rfl rfl
theorem cs_X_139 : Cond.constant "RoundAndRound" 139 (-100005) ∈ xT := xT_2 193 rfl rfl
theorem fg_X_140 : xFL "RoundAndRound" 140 1 2 := ⟨R_Head, F_Head, 8, rfl, i_Head, by decide, xT_1 36 rfl rfl⟩
theorem fp_X_140 : xFP "RoundAndRound" 140 1 2 (.int) false := ⟨R_Head, F_Head, 8, t_Head, ⟨rfl, i_Head, by decide, xT_1 36 rfl rfl⟩, t_Head_ok, n_Head, rfl, by decide +kernel, fun h => by cases h⟩
theorem fg_X_143 : xFL "RoundAndRound" 143 1 3 := ⟨R_Head, F_Head, 8, rfl, i_Head, by decide, xT_1 39 rfl rfl⟩
theorem fp_X_143 : xFP "RoundAndRound" 143 1 3 (.int) false := ⟨R_Head, F_Head, 8, t_Head, ⟨rfl, i_Head, by decide, xT_1 39 rfl rfl⟩, t_Head_ok, n_Head, rfl, by decide +kernel, fun h => by cases h⟩
theorem fg_X_146 : xFL "RoundAndRound" 146 1 4 := ⟨R_Head, F_Head, 8, rfl, i_Head, by decide, xT_1 42 rfl rfl⟩
theorem fp_X_146 : xFP "RoundAndRound" 146 1 4 (.int) false := ⟨R_Head, F_Head, 8, t_Head, ⟨rfl, i_Head, by decide, xT_1 42 rfl rfl⟩, t_Head_ok, n_Head, rfl, by decide +kernel, fun h => by cases h⟩
theorem cs_X_149 : Cond.constant "RoundAndRound" 149 (-100007) ∈ xT := xT_2 194 rfl rfl
theorem fg_X_150 : xFL "RoundAndRound" 150 1 0 := ⟨R_Head, F_Head, 8, rfl, i_Head, by decide, xT_1 30 rfl rfl⟩
theorem fg_X_153 : xFL "RoundAndRound" 153 1 1 := ⟨R_Head, F_Head, 8, rfl, i_Head, by decide, xT_1 33 rfl rfl⟩
theorem fg_X_156 : xFL "RoundAndRound" 156 1 5 := ⟨R_Head, F_Head, 8, rfl, i_Head, by decide, xT_1 44 rfl rfl⟩
theorem fg_X_159 : xFL "RoundAndRound" 159 1 6 := ⟨R_Head, F_Head, 8, rfl, i_Head, by decide, xT_1 46 rfl rfl⟩
theorem fg_X_162 : xFL "RoundAndRound" 162 1 7 := ⟨R_Head, F_Head, 8, rfl, i_Head, by decide, xT_1 48 rfl rfl⟩
theorem ml_X_166 : Cond.methodLink "RoundAndRound" 166 y_Head_fallsFrom ∈ xT := xT_2 199 rfl rfl
theorem ml_X_169 : Cond.methodLink "RoundAndRound" 169 y_X_isTurns ∈ xT := xT_2 210 rfl rfl
theorem ml_X_172 : Cond.methodLink "RoundAndRound" 172 y_X_isPace ∈ xT := xT_2 213 rfl rfl
theorem ml_X_175 : Cond.methodLink "RoundAndRound" 175 y_Head_spin ∈ xT := xT_2 216 rfl rfl
theorem ml_X_179 : Cond.methodLink "RoundAndRound" 179 Lib.Math.min.name ∈ xT := xT_2 172 rfl rfl
theorem ml_X_185 : Cond.methodLink "RoundAndRound" 185 y_X_isSeconds ∈ xT := xT_3 5 rfl rfl
theorem ml_X_188 : Cond.methodLink "RoundAndRound" 188 y_Head_linger ∈ xT := xT_3 8 rfl rfl
theorem ml_X_191 : Cond.methodLink "RoundAndRound" 191 y_Head_goOn ∈ xT := xT_3 16 rfl rfl
theorem ml_X_195 : Cond.methodLink "RoundAndRound" 195 y_Head_standAtStart ∈ xT := xT_3 35 rfl rfl
theorem ml_X_198 : Cond.methodLink "RoundAndRound" 198 y_X_isWaitSpeedPace ∈ xT := xT_3 40 rfl rfl
theorem ml_X_201 : Cond.methodLink "RoundAndRound" 201 y_X_thinkTurned ∈ xT := xT_3 46 rfl rfl
theorem fg_X_19 : xFL "RoundAndRound" 19 0 2 := ⟨R_X, F_X, 15, rfl, i_X, by decide, xT_2 64 rfl rfl⟩
theorem ml_X_205 : Cond.methodLink "RoundAndRound" 205 y_X_think ∈ xT := xT_3 50 rfl rfl
theorem ml_X_209 : Cond.methodLink "RoundAndRound" 209 y_Head_spinOnce ∈ xT := xT_3 62 rfl rfl
theorem ml_X_212 : Cond.methodLink "RoundAndRound" 212 y_Head_mustFall ∈ xT := xT_3 63 rfl rfl
theorem ml_X_216 : Cond.methodLink "RoundAndRound" 216 Lib.Math.abs.name ∈ xT := xT_3 68 rfl rfl
theorem ml_X_220 : Cond.methodLink "RoundAndRound" 220 y_Head_fade ∈ xT := xT_3 73 rfl rfl
theorem ml_X_224 : Cond.methodLink "RoundAndRound" 224 y_X_isRace ∈ xT := xT_3 78 rfl rfl
theorem ml_X_228 : Cond.methodLink "RoundAndRound" 228 y_X_raceWait ∈ xT := xT_3 82 rfl rfl
theorem ml_X_232 : Cond.methodLink "RoundAndRound" 232 y_X_raceSeconds ∈ xT := xT_3 86 rfl rfl
theorem fg_X_23 : xFL "RoundAndRound" 23 0 3 := ⟨R_X, F_X, 15, rfl, i_X, by decide, xT_2 65 rfl rfl⟩
theorem ml_X_235 : Cond.methodLink "RoundAndRound" 235 y_Head_become ∈ xT := xT_3 54 rfl rfl
theorem ml_X_238 : Cond.methodLink "RoundAndRound" 238 y_X_roundedUp ∈ xT := xT_3 89 rfl rfl
theorem ml_X_241 : Cond.methodLink "RoundAndRound" 241 y_X_isSpeedPace ∈ xT := xT_3 43 rfl rfl
theorem cs_X_244 : Cond.constant "RoundAndRound" 244 (-99999) ∈ xT := xT_3 104 rfl rfl
theorem cs_X_245 : Cond.constant "RoundAndRound" 245 (99999) ∈ xT := xT_3 105 rfl rfl
theorem ml_X_246 : Cond.methodLink "RoundAndRound" 246 y_X_fillTurnedSenses ∈ xT := xT_3 106 rfl rfl
theorem fg_X_26 : xFL "RoundAndRound" 26 0 4 := ⟨R_X, F_X, 15, rfl, i_X, by decide, xT_2 66 rfl rfl⟩
theorem ml_X_250 : Cond.methodLink "RoundAndRound" 250 y_X_turnsAt ∈ xT := xT_3 110 rfl rfl
theorem ml_X_253 : Cond.methodLink "RoundAndRound" 253 y_X_refusalOfTold ∈ xT := xT_3 117 rfl rfl
theorem ml_X_256 : Cond.methodLink "RoundAndRound" 256 y_X_sheetAt ∈ xT := xT_3 128 rfl rfl
theorem ml_X_260 : Cond.methodLink "RoundAndRound" 260 y_X_firstOtherwise ∈ xT := xT_3 136 rfl rfl
theorem fp_X_150 : xFP "RoundAndRound" 150 1 0 (.int) false := ⟨R_Head, F_Head, 8, t_Head, ⟨rfl, i_Head, by decide, xT_1 30 rfl rfl⟩, t_Head_ok, n_Head, rfl, by decide +kernel, fun h => by cases h⟩
theorem fp_X_153 : xFP "RoundAndRound" 153 1 1 (.int) false := ⟨R_Head, F_Head, 8, t_Head, ⟨rfl, i_Head, by decide, xT_1 33 rfl rfl⟩, t_Head_ok, n_Head, rfl, by decide +kernel, fun h => by cases h⟩
theorem ml_X_264 : Cond.methodLink "RoundAndRound" 264 y_X_refusalOfSheet ∈ xT := xT_3 121 rfl rfl
theorem ml_X_267 : Cond.methodLink "RoundAndRound" 267 y_X_isSheet ∈ xT := xT_3 125 rfl rfl
theorem ml_X_270 : Cond.methodLink "RoundAndRound" 270 y_Sheet_begin ∈ xT := xT_3 169 rfl rfl
theorem ml_X_271 : Cond.methodLink "RoundAndRound" 271 y_Head_step ∈ xT := xT_3 140 rfl rfl
theorem ml_X_274 : Cond.methodLink "RoundAndRound" 274 y_Sheet_put ∈ xT := xT_3 174 rfl rfl
theorem ml_X_277 : Cond.methodLink "RoundAndRound" 277 y_X_isOddsPace ∈ xT := xT_3 182 rfl rfl
theorem ml_X_280 : Cond.methodLink "RoundAndRound" 280 y_X_thinkDrawn ∈ xT := xT_3 185 rfl rfl
theorem ml_X_284 : Cond.methodLink "RoundAndRound" 284 y_X_isSecondsSeeds ∈ xT := xT_3 196 rfl rfl
theorem cs_X_287 : Cond.constantLong "RoundAndRound" 287 (-4611686018427387904) ∈ xT := xT_3 199 rfl rfl
theorem ml_X_289 : Cond.methodLink "RoundAndRound" 289 y_X_greatestShared ∈ xT := xT_3 200 rfl rfl
theorem ml_X_292 : Cond.methodLink "RoundAndRound" 292 y_X_imageHeadAt ∈ xT := xT_3 207 rfl rfl
theorem fg_X_69 : xFL "RoundAndRound" 69 0 13 := ⟨R_X, F_X, 15, rfl, i_X, by decide, xT_2 75 rfl rfl⟩
theorem fg_X_72 : xFL "RoundAndRound" 72 0 14 := ⟨R_X, F_X, 15, rfl, i_X, by decide, xT_2 76 rfl rfl⟩
theorem ml_X_295 : Cond.methodLink "RoundAndRound" 295 y_Sheet_has ∈ xT := xT_3 223 rfl rfl
theorem ml_X_298 : Cond.methodLink "RoundAndRound" 298 y_Sheet_isMissing ∈ xT := xT_3 132 rfl rfl
theorem fg_X_301 : xFL "RoundAndRound" 301 4 1 := ⟨R_Sheet, F_Sheet, 3, rfl, i_Sheet, by decide, xT_1 188 rfl rfl⟩
theorem ml_X_304 : Cond.methodLink "RoundAndRound" 304 y_Sheet_hasRow ∈ xT := xT_3 228 rfl rfl
theorem fg_X_307 : xFL "RoundAndRound" 307 4 0 := ⟨R_Sheet, F_Sheet, 3, rfl, i_Sheet, by decide, xT_1 186 rfl rfl⟩
theorem ml_X_316 : Cond.methodLink "RoundAndRound" 316 y_Sheet_get ∈ xT := xT_3 141 rfl rfl
theorem ml_X_319 : Cond.methodLink "RoundAndRound" 319 y_X_head ∈ xT := xT_3 239 rfl rfl
theorem ml_X_322 : Cond.methodLink "RoundAndRound" 322 y_Kind_isOne ∈ xT := xT_4 4 rfl rfl
theorem cs_X_327 : Cond.constantLong "RoundAndRound" 327 (48271) ∈ xT := xT_3 189 rfl rfl
theorem cs_X_329 : Cond.constantLong "RoundAndRound" 329 (2147483647) ∈ xT := xT_3 190 rfl rfl
theorem cs_X_331 : Cond.constantLong "RoundAndRound" 331 (100) ∈ xT := xT_3 191 rfl rfl
theorem fg_X_333 : xFL "RoundAndRound" 333 4 2 := ⟨R_Sheet, F_Sheet, 3, rfl, i_Sheet, by decide, xT_1 190 rfl rfl⟩
theorem ml_X_334 : Cond.methodLink "RoundAndRound" 334 Lib.Math.max.name ∈ xT := xT_2 173 rfl rfl
theorem fg_X_37 : xFL "RoundAndRound" 37 0 6 := ⟨R_X, F_X, 15, rfl, i_X, by decide, xT_2 68 rfl rfl⟩
theorem fg_X_55 : xFL "RoundAndRound" 55 0 9 := ⟨R_X, F_X, 15, rfl, i_X, by decide, xT_2 71 rfl rfl⟩
theorem cs_X_337 : Cond.constant "RoundAndRound" 337 (540999) ∈ xT := xT_3 81 rfl rfl
theorem ml_Model_1 : Cond.methodLink "RoundAndRoundModel" 1 Lib.objectInit ∈ xT := xT_4 15 rfl rfl
theorem fp_Model_7 : xFP "RoundAndRoundModel" 7 5 1 (.array .int) true := ⟨R_Model, F_Model, 34, t_Model, ⟨rfl, i_Model, by decide, xT_4 64 rfl rfl⟩, t_Model_ok, n_Model, rfl, by decide +kernel, fun _ => rfl⟩
theorem fp_Model_13 : xFP "RoundAndRoundModel" 13 5 2 (.array .int) true := ⟨R_Model, F_Model, 34, t_Model, ⟨rfl, i_Model, by decide, xT_4 65 rfl rfl⟩, t_Model_ok, n_Model, rfl, by decide +kernel, fun _ => rfl⟩
theorem fp_Model_16 : xFP "RoundAndRoundModel" 16 5 3 (.array .int) true := ⟨R_Model, F_Model, 34, t_Model, ⟨rfl, i_Model, by decide, xT_4 66 rfl rfl⟩, t_Model_ok, n_Model, rfl, by decide +kernel, fun _ => rfl⟩
theorem fp_Model_19 : xFP "RoundAndRoundModel" 19 5 4 (.array .int) true := ⟨R_Model, F_Model, 34, t_Model, ⟨rfl, i_Model, by decide, xT_4 67 rfl rfl⟩, t_Model_ok, n_Model, rfl, by decide +kernel, fun _ => rfl⟩
theorem fp_Model_22 : xFP "RoundAndRoundModel" 22 5 6 (.array .int) true := ⟨R_Model, F_Model, 34, t_Model, ⟨rfl, i_Model, by decide, xT_4 69 rfl rfl⟩, t_Model_ok, n_Model, rfl, by decide +kernel, fun _ => rfl⟩
theorem fp_Model_25 : xFP "RoundAndRoundModel" 25 5 7 (.array .int) true := ⟨R_Model, F_Model, 34, t_Model, ⟨rfl, i_Model, by decide, xT_4 70 rfl rfl⟩, t_Model_ok, n_Model, rfl, by decide +kernel, fun _ => rfl⟩
theorem fp_Model_28 : xFP "RoundAndRoundModel" 28 5 13 (.array .int) true := ⟨R_Model, F_Model, 34, t_Model, ⟨rfl, i_Model, by decide, xT_4 76 rfl rfl⟩, t_Model_ok, n_Model, rfl, by decide +kernel, fun _ => rfl⟩
theorem fp_Model_31 : xFP "RoundAndRoundModel" 31 5 14 (.array .int) true := ⟨R_Model, F_Model, 34, t_Model, ⟨rfl, i_Model, by decide, xT_4 77 rfl rfl⟩, t_Model_ok, n_Model, rfl, by decide +kernel, fun _ => rfl⟩
theorem fp_Model_34 : xFP "RoundAndRoundModel" 34 5 15 (.array .int) true := ⟨R_Model, F_Model, 34, t_Model, ⟨rfl, i_Model, by decide, xT_4 78 rfl rfl⟩, t_Model_ok, n_Model, rfl, by decide +kernel, fun _ => rfl⟩
theorem fp_Model_37 : xFP "RoundAndRoundModel" 37 5 16 (.array .int) true := ⟨R_Model, F_Model, 34, t_Model, ⟨rfl, i_Model, by decide, xT_4 79 rfl rfl⟩, t_Model_ok, n_Model, rfl, by decide +kernel, fun _ => rfl⟩
theorem fp_Model_40 : xFP "RoundAndRoundModel" 40 5 17 (.array .int) true := ⟨R_Model, F_Model, 34, t_Model, ⟨rfl, i_Model, by decide, xT_4 80 rfl rfl⟩, t_Model_ok, n_Model, rfl, by decide +kernel, fun _ => rfl⟩
theorem fp_Model_43 : xFP "RoundAndRoundModel" 43 5 22 (.array .int) true := ⟨R_Model, F_Model, 34, t_Model, ⟨rfl, i_Model, by decide, xT_4 85 rfl rfl⟩, t_Model_ok, n_Model, rfl, by decide +kernel, fun _ => rfl⟩
theorem fp_Model_46 : xFP "RoundAndRoundModel" 46 5 23 (.array .int) true := ⟨R_Model, F_Model, 34, t_Model, ⟨rfl, i_Model, by decide, xT_4 86 rfl rfl⟩, t_Model_ok, n_Model, rfl, by decide +kernel, fun _ => rfl⟩
theorem fp_Model_49 : xFP "RoundAndRoundModel" 49 5 27 (.array .int) true := ⟨R_Model, F_Model, 34, t_Model, ⟨rfl, i_Model, by decide, xT_4 90 rfl rfl⟩, t_Model_ok, n_Model, rfl, by decide +kernel, fun _ => rfl⟩
theorem fp_Model_52 : xFP "RoundAndRoundModel" 52 5 28 (.array .int) true := ⟨R_Model, F_Model, 34, t_Model, ⟨rfl, i_Model, by decide, xT_4 91 rfl rfl⟩, t_Model_ok, n_Model, rfl, by decide +kernel, fun _ => rfl⟩
theorem fg_Model_19 : xFL "RoundAndRoundModel" 19 5 4 := ⟨R_Model, F_Model, 34, rfl, i_Model, by decide, xT_4 67 rfl rfl⟩
theorem fg_Model_40 : xFL "RoundAndRoundModel" 40 5 17 := ⟨R_Model, F_Model, 34, rfl, i_Model, by decide, xT_4 80 rfl rfl⟩
theorem fp_Model_55 : xFP "RoundAndRoundModel" 55 5 5 (.int) false := ⟨R_Model, F_Model, 34, t_Model, ⟨rfl, i_Model, by decide, xT_4 68 rfl rfl⟩, t_Model_ok, n_Model, rfl, by decide +kernel, fun h => by cases h⟩
theorem ml_Model_59 : Cond.methodLink "RoundAndRoundModel" 59 y_Model_text ∈ xT := xT_4 16 rfl rfl
theorem fg_Model_63 : xFL "RoundAndRoundModel" 63 5 0 := ⟨R_Model, F_Model, 34, rfl, i_Model, by decide, xT_4 63 rfl rfl⟩
theorem ml_Model_66 : Cond.methodLink "RoundAndRoundModel" 66 y_Model_in ∈ xT := xT_4 24 rfl rfl
theorem fg_Model_70 : xFL "RoundAndRoundModel" 70 5 8 := ⟨R_Model, F_Model, 34, rfl, i_Model, by decide, xT_4 71 rfl rfl⟩
theorem fg_Model_73 : xFL "RoundAndRoundModel" 73 5 9 := ⟨R_Model, F_Model, 34, rfl, i_Model, by decide, xT_4 72 rfl rfl⟩
theorem fg_Model_55 : xFL "RoundAndRoundModel" 55 5 5 := ⟨R_Model, F_Model, 34, rfl, i_Model, by decide, xT_4 68 rfl rfl⟩
theorem ml_Model_76 : Cond.methodLink "RoundAndRoundModel" 76 y_Model_isByte ∈ xT := xT_4 174 rfl rfl
theorem fg_Model_43 : xFL "RoundAndRoundModel" 43 5 22 := ⟨R_Model, F_Model, 34, rfl, i_Model, by decide, xT_4 85 rfl rfl⟩
theorem fg_Model_80 : xFL "RoundAndRoundModel" 80 5 18 := ⟨R_Model, F_Model, 34, rfl, i_Model, by decide, xT_4 81 rfl rfl⟩
theorem fp_Model_80 : xFP "RoundAndRoundModel" 80 5 18 (.int) false := ⟨R_Model, F_Model, 34, t_Model, ⟨rfl, i_Model, by decide, xT_4 81 rfl rfl⟩, t_Model_ok, n_Model, rfl, by decide +kernel, fun h => by cases h⟩
theorem fp_Model_83 : xFP "RoundAndRoundModel" 83 5 19 (.int) false := ⟨R_Model, F_Model, 34, t_Model, ⟨rfl, i_Model, by decide, xT_4 82 rfl rfl⟩, t_Model_ok, n_Model, rfl, by decide +kernel, fun h => by cases h⟩
theorem fp_Model_86 : xFP "RoundAndRoundModel" 86 5 20 (.int) false := ⟨R_Model, F_Model, 34, t_Model, ⟨rfl, i_Model, by decide, xT_4 83 rfl rfl⟩, t_Model_ok, n_Model, rfl, by decide +kernel, fun h => by cases h⟩
theorem fp_Model_89 : xFP "RoundAndRoundModel" 89 5 21 (.int) false := ⟨R_Model, F_Model, 34, t_Model, ⟨rfl, i_Model, by decide, xT_4 84 rfl rfl⟩, t_Model_ok, n_Model, rfl, by decide +kernel, fun h => by cases h⟩
theorem fg_Model_83 : xFL "RoundAndRoundModel" 83 5 19 := ⟨R_Model, F_Model, 34, rfl, i_Model, by decide, xT_4 82 rfl rfl⟩
theorem ml_Model_92 : Cond.methodLink "RoundAndRoundModel" 92 y_Model_wordFrom ∈ xT := xT_4 27 rfl rfl
theorem fg_Model_89 : xFL "RoundAndRoundModel" 89 5 21 := ⟨R_Model, F_Model, 34, rfl, i_Model, by decide, xT_4 84 rfl rfl⟩
theorem fg_Model_22 : xFL "RoundAndRoundModel" 22 5 6 := ⟨R_Model, F_Model, 34, rfl, i_Model, by decide, xT_4 69 rfl rfl⟩
theorem fg_Model_96 : xFL "RoundAndRoundModel" 96 5 26 := ⟨R_Model, F_Model, 34, rfl, i_Model, by decide, xT_4 89 rfl rfl⟩
theorem fp_Model_96 : xFP "RoundAndRoundModel" 96 5 26 (.int) false := ⟨R_Model, F_Model, 34, t_Model, ⟨rfl, i_Model, by decide, xT_4 89 rfl rfl⟩, t_Model_ok, n_Model, rfl, by decide +kernel, fun h => by cases h⟩
theorem fg_Model_99 : xFL "RoundAndRoundModel" 99 5 24 := ⟨R_Model, F_Model, 34, rfl, i_Model, by decide, xT_4 87 rfl rfl⟩
theorem fg_Model_46 : xFL "RoundAndRoundModel" 46 5 23 := ⟨R_Model, F_Model, 34, rfl, i_Model, by decide, xT_4 86 rfl rfl⟩
theorem ml_Model_102 : Cond.methodLink "RoundAndRoundModel" 102 y_Model_rank ∈ xT := xT_4 44 rfl rfl
theorem fp_Model_99 : xFP "RoundAndRoundModel" 99 5 24 (.int) false := ⟨R_Model, F_Model, 34, t_Model, ⟨rfl, i_Model, by decide, xT_4 87 rfl rfl⟩, t_Model_ok, n_Model, rfl, by decide +kernel, fun h => by cases h⟩
theorem fg_Model_106 : xFL "RoundAndRoundModel" 106 5 25 := ⟨R_Model, F_Model, 34, rfl, i_Model, by decide, xT_4 88 rfl rfl⟩
theorem fp_Model_106 : xFP "RoundAndRoundModel" 106 5 25 (.int) false := ⟨R_Model, F_Model, 34, t_Model, ⟨rfl, i_Model, by decide, xT_4 88 rfl rfl⟩, t_Model_ok, n_Model, rfl, by decide +kernel, fun h => by cases h⟩
theorem ml_Model_109 : Cond.methodLink "RoundAndRoundModel" 109 y_Model_puts ∈ xT := xT_4 36 rfl rfl
theorem ml_Model_113 : Cond.methodLink "RoundAndRoundModel" 113 y_Model_holds ∈ xT := xT_4 51 rfl rfl
theorem ml_Model_116 : Cond.methodLink "RoundAndRoundModel" 116 y_Model_unwinds ∈ xT := xT_4 40 rfl rfl
theorem fg_Model_86 : xFL "RoundAndRoundModel" 86 5 20 := ⟨R_Model, F_Model, 34, rfl, i_Model, by decide, xT_4 83 rfl rfl⟩
theorem ml_Model_119 : Cond.methodLink "RoundAndRoundModel" 119 y_Model_next ∈ xT := xT_4 20 rfl rfl
theorem cs_Model_122 : Cond.constant "RoundAndRoundModel" 122 (100000) ∈ xT := xT_4 35 rfl rfl
theorem ml_Model_123 : Cond.methodLink "RoundAndRoundModel" 123 y_Model_opensOne ∈ xT := xT_4 47 rfl rfl
theorem ml_Model_126 : Cond.methodLink "RoundAndRoundModel" 126 y_Model_signOf ∈ xT := xT_4 55 rfl rfl
theorem ml_Model_129 : Cond.methodLink "RoundAndRoundModel" 129 y_Model_between ∈ xT := xT_4 59 rfl rfl
theorem fg_Model_25 : xFL "RoundAndRoundModel" 25 5 7 := ⟨R_Model, F_Model, 34, rfl, i_Model, by decide, xT_4 70 rfl rfl⟩
theorem ml_Model_132 : Cond.methodLink "RoundAndRoundModel" 132 y_Model_eRead ∈ xT := xT_4 31 rfl rfl
theorem fp_Model_70 : xFP "RoundAndRoundModel" 70 5 8 (.int) false := ⟨R_Model, F_Model, 34, t_Model, ⟨rfl, i_Model, by decide, xT_4 71 rfl rfl⟩, t_Model_ok, n_Model, rfl, by decide +kernel, fun h => by cases h⟩
theorem fg_Model_49 : xFL "RoundAndRoundModel" 49 5 27 := ⟨R_Model, F_Model, 34, rfl, i_Model, by decide, xT_4 90 rfl rfl⟩
theorem fg_Model_52 : xFL "RoundAndRoundModel" 52 5 28 := ⟨R_Model, F_Model, 34, rfl, i_Model, by decide, xT_4 91 rfl rfl⟩
theorem ml_Model_136 : Cond.methodLink "RoundAndRoundModel" 136 y_Model_two ∈ xT := xT_4 198 rfl rfl
theorem fp_Model_73 : xFP "RoundAndRoundModel" 73 5 9 (.int) false := ⟨R_Model, F_Model, 34, t_Model, ⟨rfl, i_Model, by decide, xT_4 72 rfl rfl⟩, t_Model_ok, n_Model, rfl, by decide +kernel, fun h => by cases h⟩
theorem fg_Model_16 : xFL "RoundAndRoundModel" 16 5 3 := ⟨R_Model, F_Model, 34, rfl, i_Model, by decide, xT_4 66 rfl rfl⟩
theorem fg_Model_13 : xFL "RoundAndRoundModel" 13 5 2 := ⟨R_Model, F_Model, 34, rfl, i_Model, by decide, xT_4 65 rfl rfl⟩
theorem fg_Model_140 : xFL "RoundAndRoundModel" 140 5 29 := ⟨R_Model, F_Model, 34, rfl, i_Model, by decide, xT_4 92 rfl rfl⟩
theorem ml_Model_143 : Cond.methodLink "RoundAndRoundModel" 143 y_Model_says ∈ xT := xT_4 194 rfl rfl
theorem ml_Model_146 : Cond.methodLink "RoundAndRoundModel" 146 y_Model_within ∈ xT := xT_4 201 rfl rfl
theorem ml_Model_149 : Cond.methodLink "RoundAndRoundModel" 149 y_Model_isHead ∈ xT := xT_4 186 rfl rfl
theorem fp_Model_140 : xFP "RoundAndRoundModel" 140 5 29 (.int) false := ⟨R_Model, F_Model, 34, t_Model, ⟨rfl, i_Model, by decide, xT_4 92 rfl rfl⟩, t_Model_ok, n_Model, rfl, by decide +kernel, fun h => by cases h⟩
theorem ml_Model_152 : Cond.methodLink "RoundAndRoundModel" 152 y_Model_asksOf ∈ xT := xT_4 190 rfl rfl
theorem fg_Model_7 : xFL "RoundAndRoundModel" 7 5 1 := ⟨R_Model, F_Model, 34, rfl, i_Model, by decide, xT_4 64 rfl rfl⟩
theorem fp_Model_63 : xFP "RoundAndRoundModel" 63 5 0 (.int) false := ⟨R_Model, F_Model, 34, t_Model, ⟨rfl, i_Model, by decide, xT_4 63 rfl rfl⟩, t_Model_ok, n_Model, rfl, by decide +kernel, fun h => by cases h⟩
theorem cs_Model_156 : Cond.constant "RoundAndRoundModel" 156 (-100005) ∈ xT := xT_4 212 rfl rfl
theorem cs_Model_157 : Cond.constant "RoundAndRoundModel" 157 (-100007) ∈ xT := xT_4 213 rfl rfl
theorem ml_Model_158 : Cond.methodLink "RoundAndRoundModel" 158 y_Model_fallsFrom ∈ xT := xT_4 218 rfl rfl
theorem ml_Model_161 : Cond.methodLink "RoundAndRoundModel" 161 y_Model_fadesOf ∈ xT := xT_5 8 rfl rfl
theorem ml_Model_164 : Cond.methodLink "RoundAndRoundModel" 164 y_Model_size0 ∈ xT := xT_4 237 rfl rfl
theorem ml_Model_167 : Cond.methodLink "RoundAndRoundModel" 167 y_Model_buildsOf ∈ xT := xT_5 0 rfl rfl
theorem ml_Model_170 : Cond.methodLink "RoundAndRoundModel" 170 y_Model_fade ∈ xT := xT_5 4 rfl rfl
theorem fg_Model_174 : xFL "RoundAndRoundModel" 174 5 32 := ⟨R_Model, F_Model, 34, rfl, i_Model, by decide, xT_4 95 rfl rfl⟩
theorem fp_Model_174 : xFP "RoundAndRoundModel" 174 5 32 (.boolean) false := ⟨R_Model, F_Model, 34, t_Model, ⟨rfl, i_Model, by decide, xT_4 95 rfl rfl⟩, t_Model_ok, n_Model, rfl, by decide +kernel, fun h => by cases h⟩
theorem fp_Model_178 : xFP "RoundAndRoundModel" 178 5 33 (.int) false := ⟨R_Model, F_Model, 34, t_Model, ⟨rfl, i_Model, by decide, xT_4 96 rfl rfl⟩, t_Model_ok, n_Model, rfl, by decide +kernel, fun h => by cases h⟩
theorem fg_Model_181 : xFL "RoundAndRoundModel" 181 5 30 := ⟨R_Model, F_Model, 34, rfl, i_Model, by decide, xT_4 93 rfl rfl⟩
theorem cs_Model_184 : Cond.constant "RoundAndRoundModel" 184 (-99999) ∈ xT := xT_5 36 rfl rfl
theorem cs_Model_185 : Cond.constant "RoundAndRoundModel" 185 (99999) ∈ xT := xT_5 37 rfl rfl
theorem fp_Model_181 : xFP "RoundAndRoundModel" 181 5 30 (.int) false := ⟨R_Model, F_Model, 34, t_Model, ⟨rfl, i_Model, by decide, xT_4 93 rfl rfl⟩, t_Model_ok, n_Model, rfl, by decide +kernel, fun h => by cases h⟩
theorem fg_Model_186 : xFL "RoundAndRoundModel" 186 5 31 := ⟨R_Model, F_Model, 34, rfl, i_Model, by decide, xT_4 94 rfl rfl⟩
theorem fp_Model_186 : xFP "RoundAndRoundModel" 186 5 31 (.int) false := ⟨R_Model, F_Model, 34, t_Model, ⟨rfl, i_Model, by decide, xT_4 94 rfl rfl⟩, t_Model_ok, n_Model, rfl, by decide +kernel, fun h => by cases h⟩
theorem ml_Model_189 : Cond.methodLink "RoundAndRoundModel" 189 y_Model_step ∈ xT := xT_5 32 rfl rfl
theorem ml_Model_193 : Cond.methodLink "RoundAndRoundModel" 193 y_Model_isTurned ∈ xT := xT_4 226 rfl rfl
theorem ml_Model_196 : Cond.methodLink "RoundAndRoundModel" 196 y_Model_takes ∈ xT := xT_4 229 rfl rfl
theorem ml_Model_199 : Cond.methodLink "RoundAndRoundModel" 199 y_Model_turns ∈ xT := xT_4 233 rfl rfl
theorem ml_Model_203 : Cond.methodLink "RoundAndRoundModel" 203 y_Model_lays ∈ xT := xT_5 12 rfl rfl
theorem ml_Model_206 : Cond.methodLink "RoundAndRoundModel" 206 y_Model_waits ∈ xT := xT_5 20 rfl rfl
theorem ml_Model_209 : Cond.methodLink "RoundAndRoundModel" 209 y_Model_walks ∈ xT := xT_5 28 rfl rfl
theorem ml_Model_212 : Cond.methodLink "RoundAndRoundModel" 212 y_Model_begins ∈ xT := xT_5 53 rfl rfl
theorem ml_Model_215 : Cond.methodLink "RoundAndRoundModel" 215 y_Model_areDigits ∈ xT := xT_5 46 rfl rfl
theorem ml_Model_218 : Cond.methodLink "RoundAndRoundModel" 218 y_Model_tries ∈ xT := xT_5 49 rfl rfl
theorem fg_Model_178 : xFL "RoundAndRoundModel" 178 5 33 := ⟨R_Model, F_Model, 34, rfl, i_Model, by decide, xT_4 96 rfl rfl⟩
theorem cs_Model_222 : Cond.constant "RoundAndRoundModel" 222 (540999) ∈ xT := xT_5 76 rfl rfl
theorem ml_Model_223 : Cond.methodLink "RoundAndRoundModel" 223 y_Model_isRace ∈ xT := xT_5 73 rfl rfl
theorem ml_Model_227 : Cond.methodLink "RoundAndRoundModel" 227 y_Model_raceOf ∈ xT := xT_5 77 rfl rfl
theorem ml_Model_231 : Cond.methodLink "RoundAndRoundModel" 231 y_Model_byNumber ∈ xT := xT_5 93 rfl rfl
theorem fg_Model_31 : xFL "RoundAndRoundModel" 31 5 14 := ⟨R_Model, F_Model, 34, rfl, i_Model, by decide, xT_4 77 rfl rfl⟩
theorem ml_Model_234 : Cond.methodLink "RoundAndRoundModel" 234 y_Model_sheetWrong ∈ xT := xT_5 104 rfl rfl
theorem fg_Model_34 : xFL "RoundAndRoundModel" 34 5 15 := ⟨R_Model, F_Model, 34, rfl, i_Model, by decide, xT_4 78 rfl rfl⟩
theorem fg_Model_37 : xFL "RoundAndRoundModel" 37 5 16 := ⟨R_Model, F_Model, 34, rfl, i_Model, by decide, xT_4 79 rfl rfl⟩
theorem ml_Model_237 : Cond.methodLink "RoundAndRoundModel" 237 y_Model_toldWrong ∈ xT := xT_5 100 rfl rfl
theorem ml_Model_240 : Cond.methodLink "RoundAndRoundModel" 240 y_Model_unlike ∈ xT := xT_5 108 rfl rfl
theorem cs_Model_243 : Cond.constantLong "RoundAndRoundModel" 243 (48271) ∈ xT := xT_5 143 rfl rfl
theorem cs_Model_245 : Cond.constantLong "RoundAndRoundModel" 245 (2147483647) ∈ xT := xT_5 144 rfl rfl
theorem cs_Model_247 : Cond.constantLong "RoundAndRoundModel" 247 (100) ∈ xT := xT_5 145 rfl rfl
theorem ml_Model_249 : Cond.methodLink "RoundAndRoundModel" 249 y_Model_areOdds ∈ xT := xT_5 136 rfl rfl
theorem ml_Model_252 : Cond.methodLink "RoundAndRoundModel" 252 y_Model_walkBy ∈ xT := xT_5 139 rfl rfl
theorem cs_Model_255 : Cond.constantLong "RoundAndRoundModel" 255 (-4611686018427387904) ∈ xT := xT_5 150 rfl rfl
theorem ml_Model_257 : Cond.methodLink "RoundAndRoundModel" 257 y_Model_lowest ∈ xT := xT_5 151 rfl rfl
theorem fp_Model_261 : xFP "RoundAndRoundModel" 261 5 10 (.boolean) false := ⟨R_Model, F_Model, 34, t_Model, ⟨rfl, i_Model, by decide, xT_4 73 rfl rfl⟩, t_Model_ok, n_Model, rfl, by decide +kernel, fun h => by cases h⟩
theorem fp_Model_264 : xFP "RoundAndRoundModel" 264 5 11 (.int) false := ⟨R_Model, F_Model, 34, t_Model, ⟨rfl, i_Model, by decide, xT_4 74 rfl rfl⟩, t_Model_ok, n_Model, rfl, by decide +kernel, fun h => by cases h⟩
theorem fp_Model_267 : xFP "RoundAndRoundModel" 267 5 12 (.int) false := ⟨R_Model, F_Model, 34, t_Model, ⟨rfl, i_Model, by decide, xT_4 75 rfl rfl⟩, t_Model_ok, n_Model, rfl, by decide +kernel, fun h => by cases h⟩
theorem fg_Model_28 : xFL "RoundAndRoundModel" 28 5 13 := ⟨R_Model, F_Model, 34, rfl, i_Model, by decide, xT_4 76 rfl rfl⟩
theorem fg_Model_261 : xFL "RoundAndRoundModel" 261 5 10 := ⟨R_Model, F_Model, 34, rfl, i_Model, by decide, xT_4 73 rfl rfl⟩
theorem fg_Model_264 : xFL "RoundAndRoundModel" 264 5 11 := ⟨R_Model, F_Model, 34, rfl, i_Model, by decide, xT_4 74 rfl rfl⟩
theorem fg_Model_267 : xFL "RoundAndRoundModel" 267 5 12 := ⟨R_Model, F_Model, 34, rfl, i_Model, by decide, xT_4 75 rfl rfl⟩
theorem ml_Model_270 : Cond.methodLink "RoundAndRoundModel" 270 y_Model_head ∈ xT := xT_5 178 rfl rfl
theorem ml_Model_273 : Cond.methodLink "RoundAndRoundModel" 273 y_Model_isUnder ∈ xT := xT_5 183 rfl rfl
theorem ml_Head_3 : Cond.methodLink "RoundAndRound$Head" 3 Lib.objectInit ∈ xT := xT_1 28 rfl rfl
theorem fp_Head_9 : xFP "RoundAndRound$Head" 9 1 0 (.int) false := ⟨R_Head, F_Head, 8, t_Head, ⟨rfl, i_Head, by decide, xT_1 29 rfl rfl⟩, t_Head_ok, n_Head, rfl, by decide +kernel, fun h => by cases h⟩
theorem fp_Head_15 : xFP "RoundAndRound$Head" 15 1 1 (.int) false := ⟨R_Head, F_Head, 8, t_Head, ⟨rfl, i_Head, by decide, xT_1 31 rfl rfl⟩, t_Head_ok, n_Head, rfl, by decide +kernel, fun h => by cases h⟩
theorem fp_Head_18 : xFP "RoundAndRound$Head" 18 1 2 (.int) false := ⟨R_Head, F_Head, 8, t_Head, ⟨rfl, i_Head, by decide, xT_1 34 rfl rfl⟩, t_Head_ok, n_Head, rfl, by decide +kernel, fun h => by cases h⟩
theorem fp_Head_21 : xFP "RoundAndRound$Head" 21 1 3 (.int) false := ⟨R_Head, F_Head, 8, t_Head, ⟨rfl, i_Head, by decide, xT_1 37 rfl rfl⟩, t_Head_ok, n_Head, rfl, by decide +kernel, fun h => by cases h⟩
theorem fp_Head_24 : xFP "RoundAndRound$Head" 24 1 4 (.int) false := ⟨R_Head, F_Head, 8, t_Head, ⟨rfl, i_Head, by decide, xT_1 40 rfl rfl⟩, t_Head_ok, n_Head, rfl, by decide +kernel, fun h => by cases h⟩
theorem ml_Head_27 : Cond.methodLink "RoundAndRound$Head" 27 y_Head_standAtStart ∈ xT := xT_2 185 rfl rfl
theorem fg_Head_9 : xFL "RoundAndRound$Head" 9 1 0 := ⟨R_Head, F_Head, 8, rfl, i_Head, by decide, xT_1 29 rfl rfl⟩
theorem fg_Head_15 : xFL "RoundAndRound$Head" 15 1 1 := ⟨R_Head, F_Head, 8, rfl, i_Head, by decide, xT_1 31 rfl rfl⟩
theorem fg_Head_18 : xFL "RoundAndRound$Head" 18 1 2 := ⟨R_Head, F_Head, 8, rfl, i_Head, by decide, xT_1 34 rfl rfl⟩
theorem fg_Head_21 : xFL "RoundAndRound$Head" 21 1 3 := ⟨R_Head, F_Head, 8, rfl, i_Head, by decide, xT_1 37 rfl rfl⟩
theorem fg_Head_24 : xFL "RoundAndRound$Head" 24 1 4 := ⟨R_Head, F_Head, 8, rfl, i_Head, by decide, xT_1 40 rfl rfl⟩
theorem fg_Head_30 : xFL "RoundAndRound$Head" 30 1 5 := ⟨R_Head, F_Head, 8, rfl, i_Head, by decide, xT_1 43 rfl rfl⟩
theorem fp_Head_30 : xFP "RoundAndRound$Head" 30 1 5 (.int) false := ⟨R_Head, F_Head, 8, t_Head, ⟨rfl, i_Head, by decide, xT_1 43 rfl rfl⟩, t_Head_ok, n_Head, rfl, by decide +kernel, fun h => by cases h⟩
theorem fg_Head_33 : xFL "RoundAndRound$Head" 33 1 6 := ⟨R_Head, F_Head, 8, rfl, i_Head, by decide, xT_1 45 rfl rfl⟩
theorem fp_Head_33 : xFP "RoundAndRound$Head" 33 1 6 (.int) false := ⟨R_Head, F_Head, 8, t_Head, ⟨rfl, i_Head, by decide, xT_1 45 rfl rfl⟩, t_Head_ok, n_Head, rfl, by decide +kernel, fun h => by cases h⟩
theorem fg_Head_36 : xFL "RoundAndRound$Head" 36 1 7 := ⟨R_Head, F_Head, 8, rfl, i_Head, by decide, xT_1 47 rfl rfl⟩
theorem fp_Head_36 : xFP "RoundAndRound$Head" 36 1 7 (.boolean) false := ⟨R_Head, F_Head, 8, t_Head, ⟨rfl, i_Head, by decide, xT_1 47 rfl rfl⟩, t_Head_ok, n_Head, rfl, by decide +kernel, fun h => by cases h⟩
theorem ml_Head_40 : Cond.methodLink "RoundAndRound$Head" 40 y_Kind_fallsFrom ∈ xT := xT_2 203 rfl rfl
theorem ml_Head_46 : Cond.methodLink "RoundAndRound$Head" 46 Lib.Math.abs.name ∈ xT := xT_2 220 rfl rfl
theorem ml_Head_52 : Cond.methodLink "RoundAndRound$Head" 52 y_Head_fallsFrom ∈ xT := xT_3 28 rfl rfl
theorem ml_Head_55 : Cond.methodLink "RoundAndRound$Head" 55 y_Text_says ∈ xT := xT_2 227 rfl rfl
theorem ml_Head_61 : Cond.methodLink "RoundAndRound$Head" 61 y_Kind_fades ∈ xT := xT_2 237 rfl rfl
theorem ml_Head_64 : Cond.methodLink "RoundAndRound$Head" 64 y_Kind_builds ∈ xT := xT_2 228 rfl rfl
theorem mn_Head_68 : Cond.methodLinkNest "RoundAndRound$Head" 68 y_X_bounded "RoundAndRound" ∈ xnest := List.mem_of_getElem? (i := 3) rfl
theorem ml_Head_72 : Cond.methodLink "RoundAndRound$Head" 72 y_Head_fade ∈ xT := xT_2 233 rfl rfl
theorem ml_Head_76 : Cond.methodLink "RoundAndRound$Head" 76 y_Head_spinOnce ∈ xT := xT_2 223 rfl rfl
theorem ml_Head_80 : Cond.methodLink "RoundAndRound$Head" 80 y_Head_mustFall ∈ xT := xT_3 24 rfl rfl
theorem cs_Head_84 : Cond.constant "RoundAndRound$Head" 84 (-99999) ∈ xT := xT_3 29 rfl rfl
theorem cs_Head_85 : Cond.constant "RoundAndRound$Head" 85 (99999) ∈ xT := xT_3 30 rfl rfl
theorem ml_Head_86 : Cond.methodLink "RoundAndRound$Head" 86 y_Head_step ∈ xT := xT_3 20 rfl rfl
theorem ml_Kind_9 : Cond.methodLink "RoundAndRound$Kind" 9 y_Kind_above ∈ xT := xT_4 7 rfl rfl
theorem ml_Kind_15 : Cond.methodLink "RoundAndRound$Kind" 15 Lib.Math.max.name ∈ xT := xT_2 231 rfl rfl
theorem mn_Kind_21 : Cond.methodLinkNest "RoundAndRound$Kind" 21 y_X_bounded "RoundAndRound" ∈ xnest := List.mem_of_getElem? (i := 4) rfl
theorem ml_Reader_5 : Cond.methodLink "RoundAndRound$Reader" 5 Lib.objectInit ∈ xT := xT_1 95 rfl rfl
theorem fp_Reader_11 : xFP "RoundAndRound$Reader" 11 3 0 (.array .int) true := ⟨R_Reader, F_Reader, 9, t_Reader, ⟨rfl, i_Reader, by decide, xT_1 147 rfl rfl⟩, t_Reader_ok, n_Reader, rfl, by decide +kernel, fun _ => rfl⟩
theorem fp_Reader_15 : xFP "RoundAndRound$Reader" 15 3 1 (.array .long) true := ⟨R_Reader, F_Reader, 9, t_Reader, ⟨rfl, i_Reader, by decide, xT_1 148 rfl rfl⟩, t_Reader_ok, n_Reader, rfl, by decide +kernel, fun _ => rfl⟩
theorem fg_Reader_15 : xFL "RoundAndRound$Reader" 15 3 1 := ⟨R_Reader, F_Reader, 9, rfl, i_Reader, by decide, xT_1 148 rfl rfl⟩
theorem cs_Reader_31 : Cond.constantLong "RoundAndRound$Reader" 31 (32) ∈ xT := xT_1 145 rfl rfl
theorem cs_Reader_33 : Cond.constantLong "RoundAndRound$Reader" 33 (97) ∈ xT := xT_1 146 rfl rfl
theorem fg_Reader_35 : xFL "RoundAndRound$Reader" 35 3 2 := ⟨R_Reader, F_Reader, 9, rfl, i_Reader, by decide, xT_1 149 rfl rfl⟩
theorem fg_Reader_11 : xFL "RoundAndRound$Reader" 11 3 0 := ⟨R_Reader, F_Reader, 9, rfl, i_Reader, by decide, xT_1 147 rfl rfl⟩
theorem fp_Reader_35 : xFP "RoundAndRound$Reader" 35 3 2 (.int) false := ⟨R_Reader, F_Reader, 9, t_Reader, ⟨rfl, i_Reader, by decide, xT_1 149 rfl rfl⟩, t_Reader_ok, n_Reader, rfl, by decide +kernel, fun h => by cases h⟩
theorem ml_Reader_39 : Cond.methodLink "RoundAndRound$Reader" 39 y_Text_clear ∈ xT := xT_1 213 rfl rfl
theorem fp_Reader_44 : xFP "RoundAndRound$Reader" 44 3 3 (.int) false := ⟨R_Reader, F_Reader, 9, t_Reader, ⟨rfl, i_Reader, by decide, xT_1 151 rfl rfl⟩, t_Reader_ok, n_Reader, rfl, by decide +kernel, fun h => by cases h⟩
theorem fp_Reader_47 : xFP "RoundAndRound$Reader" 47 3 7 (.int) false := ⟨R_Reader, F_Reader, 9, t_Reader, ⟨rfl, i_Reader, by decide, xT_1 155 rfl rfl⟩, t_Reader_ok, n_Reader, rfl, by decide +kernel, fun h => by cases h⟩
theorem fp_Reader_50 : xFP "RoundAndRound$Reader" 50 3 8 (.int) false := ⟨R_Reader, F_Reader, 9, t_Reader, ⟨rfl, i_Reader, by decide, xT_1 156 rfl rfl⟩, t_Reader_ok, n_Reader, rfl, by decide +kernel, fun h => by cases h⟩
theorem ml_Reader_53 : Cond.methodLink "RoundAndRound$Reader" 53 y_Reader_advance ∈ xT := xT_1 217 rfl rfl
theorem ml_Reader_56 : Cond.methodLink "RoundAndRound$Reader" 56 y_Reader_expect ∈ xT := xT_2 6 rfl rfl
theorem ml_Reader_60 : Cond.methodLink "RoundAndRound$Reader" 60 y_Reader_readOr ∈ xT := xT_2 18 rfl rfl
theorem ml_Reader_64 : Cond.methodLink "RoundAndRound$Reader" 64 y_Text_endPart ∈ xT := xT_2 54 rfl rfl
theorem fg_Reader_50 : xFL "RoundAndRound$Reader" 50 3 8 := ⟨R_Reader, F_Reader, 9, rfl, i_Reader, by decide, xT_1 156 rfl rfl⟩
theorem ml_Reader_67 : Cond.methodLink "RoundAndRound$Reader" 67 y_Reader_failed ∈ xT := xT_2 14 rfl rfl
theorem fg_Reader_71 : xFL "RoundAndRound$Reader" 71 3 4 := ⟨R_Reader, F_Reader, 9, rfl, i_Reader, by decide, xT_1 152 rfl rfl⟩
theorem fg_Reader_74 : xFL "RoundAndRound$Reader" 74 3 5 := ⟨R_Reader, F_Reader, 9, rfl, i_Reader, by decide, xT_1 153 rfl rfl⟩
theorem ml_Reader_77 : Cond.methodLink "RoundAndRound$Reader" 77 y_Reader_fail ∈ xT := xT_2 10 rfl rfl
theorem ml_Reader_80 : Cond.methodLink "RoundAndRound$Reader" 80 y_Reader_readAnd ∈ xT := xT_2 22 rfl rfl
theorem ml_Reader_83 : Cond.methodLink "RoundAndRound$Reader" 83 y_Reader_at ∈ xT := xT_2 30 rfl rfl
theorem ml_Reader_87 : Cond.methodLink "RoundAndRound$Reader" 87 y_Text_add ∈ xT := xT_2 38 rfl rfl
theorem ml_Reader_90 : Cond.methodLink "RoundAndRound$Reader" 90 y_Reader_readNot ∈ xT := xT_2 26 rfl rfl
theorem ml_Reader_93 : Cond.methodLink "RoundAndRound$Reader" 93 y_Reader_opened ∈ xT := xT_2 34 rfl rfl
theorem fg_Reader_47 : xFL "RoundAndRound$Reader" 47 3 7 := ⟨R_Reader, F_Reader, 9, rfl, i_Reader, by decide, xT_1 155 rfl rfl⟩
theorem ml_Reader_96 : Cond.methodLink "RoundAndRound$Reader" 96 y_Reader_readSum ∈ xT := xT_2 42 rfl rfl
theorem ml_Reader_99 : Cond.methodLink "RoundAndRound$Reader" 99 y_Reader_readTerm ∈ xT := xT_2 46 rfl rfl
theorem ml_Reader_102 : Cond.methodLink "RoundAndRound$Reader" 102 y_Reader_readOne ∈ xT := xT_2 50 rfl rfl
theorem fg_Reader_105 : xFL "RoundAndRound$Reader" 105 3 6 := ⟨R_Reader, F_Reader, 9, rfl, i_Reader, by decide, xT_1 154 rfl rfl⟩
theorem fg_Reader_44 : xFL "RoundAndRound$Reader" 44 3 3 := ⟨R_Reader, F_Reader, 9, rfl, i_Reader, by decide, xT_1 151 rfl rfl⟩
theorem ml_Reader_108 : Cond.methodLink "RoundAndRound$Reader" 108 y_Reader_byteAt ∈ xT := xT_1 221 rfl rfl
theorem ml_Reader_112 : Cond.methodLink "RoundAndRound$Reader" 112 y_Reader_isBlank ∈ xT := xT_1 225 rfl rfl
theorem fp_Reader_71 : xFP "RoundAndRound$Reader" 71 3 4 (.int) false := ⟨R_Reader, F_Reader, 9, t_Reader, ⟨rfl, i_Reader, by decide, xT_1 152 rfl rfl⟩, t_Reader_ok, n_Reader, rfl, by decide +kernel, fun h => by cases h⟩
theorem fp_Reader_74 : xFP "RoundAndRound$Reader" 74 3 5 (.int) false := ⟨R_Reader, F_Reader, 9, t_Reader, ⟨rfl, i_Reader, by decide, xT_1 153 rfl rfl⟩, t_Reader_ok, n_Reader, rfl, by decide +kernel, fun h => by cases h⟩
theorem ml_Reader_115 : Cond.methodLink "RoundAndRound$Reader" 115 y_Reader_isLetter ∈ xT := xT_1 228 rfl rfl
theorem ml_Reader_118 : Cond.methodLink "RoundAndRound$Reader" 118 y_Reader_takeWord ∈ xT := xT_1 231 rfl rfl
theorem ml_Reader_121 : Cond.methodLink "RoundAndRound$Reader" 121 y_Reader_isDigit ∈ xT := xT_1 236 rfl rfl
theorem ml_Reader_124 : Cond.methodLink "RoundAndRound$Reader" 124 y_Reader_takeNumber ∈ xT := xT_1 239 rfl rfl
theorem ml_Reader_127 : Cond.methodLink "RoundAndRound$Reader" 127 y_Reader_isSign ∈ xT := xT_2 3 rfl rfl
theorem cs_Reader_130 : Cond.constantLong "RoundAndRound$Reader" 130 (-4611686018427387904) ∈ xT := xT_1 235 rfl rfl
theorem fp_Reader_105 : xFP "RoundAndRound$Reader" 105 3 6 (.int) false := ⟨R_Reader, F_Reader, 9, t_Reader, ⟨rfl, i_Reader, by decide, xT_1 154 rfl rfl⟩, t_Reader_ok, n_Reader, rfl, by decide +kernel, fun h => by cases h⟩
theorem ml_Sheet_3 : Cond.methodLink "RoundAndRound$Sheet" 3 Lib.objectInit ∈ xT := xT_1 184 rfl rfl
theorem fp_Sheet_9 : xFP "RoundAndRound$Sheet" 9 4 0 (.array .int) true := ⟨R_Sheet, F_Sheet, 3, t_Sheet, ⟨rfl, i_Sheet, by decide, xT_1 185 rfl rfl⟩, t_Sheet_ok, n_Sheet, rfl, by decide +kernel, fun _ => rfl⟩
theorem fp_Sheet_15 : xFP "RoundAndRound$Sheet" 15 4 1 (.int) false := ⟨R_Sheet, F_Sheet, 3, t_Sheet, ⟨rfl, i_Sheet, by decide, xT_1 187 rfl rfl⟩, t_Sheet_ok, n_Sheet, rfl, by decide +kernel, fun h => by cases h⟩
theorem fp_Sheet_19 : xFP "RoundAndRound$Sheet" 19 4 2 (.int) false := ⟨R_Sheet, F_Sheet, 3, t_Sheet, ⟨rfl, i_Sheet, by decide, xT_1 189 rfl rfl⟩, t_Sheet_ok, n_Sheet, rfl, by decide +kernel, fun h => by cases h⟩
theorem fg_Sheet_9 : xFL "RoundAndRound$Sheet" 9 4 0 := ⟨R_Sheet, F_Sheet, 3, rfl, i_Sheet, by decide, xT_1 185 rfl rfl⟩
theorem mn_Sheet_22 : Cond.methodLinkNest "RoundAndRound$Sheet" 22 y_X_bounded "RoundAndRound" ∈ xnest := List.mem_of_getElem? (i := 5) rfl
theorem fg_Sheet_15 : xFL "RoundAndRound$Sheet" 15 4 1 := ⟨R_Sheet, F_Sheet, 3, rfl, i_Sheet, by decide, xT_1 187 rfl rfl⟩
theorem fg_Sheet_19 : xFL "RoundAndRound$Sheet" 19 4 2 := ⟨R_Sheet, F_Sheet, 3, rfl, i_Sheet, by decide, xT_1 189 rfl rfl⟩
theorem ml_Sheet_26 : Cond.methodLink "RoundAndRound$Sheet" 26 y_Sheet_has ∈ xT := xT_3 145 rfl rfl
theorem ml_Text_3 : Cond.methodLink "RoundAndRound$Text" 3 Lib.objectInit ∈ xT := xT_1 72 rfl rfl
theorem fp_Text_9 : xFP "RoundAndRound$Text" 9 2 0 (.array .int) true := ⟨R_Text, F_Text, 5, t_Text, ⟨rfl, i_Text, by decide, xT_1 73 rfl rfl⟩, t_Text_ok, n_Text, rfl, by decide +kernel, fun _ => rfl⟩
theorem fp_Text_15 : xFP "RoundAndRound$Text" 15 2 1 (.array .int) true := ⟨R_Text, F_Text, 5, t_Text, ⟨rfl, i_Text, by decide, xT_1 74 rfl rfl⟩, t_Text_ok, n_Text, rfl, by decide +kernel, fun _ => rfl⟩
theorem fp_Text_18 : xFP "RoundAndRound$Text" 18 2 2 (.array .int) true := ⟨R_Text, F_Text, 5, t_Text, ⟨rfl, i_Text, by decide, xT_1 75 rfl rfl⟩, t_Text_ok, n_Text, rfl, by decide +kernel, fun _ => rfl⟩
theorem fp_Text_21 : xFP "RoundAndRound$Text" 21 2 3 (.int) false := ⟨R_Text, F_Text, 5, t_Text, ⟨rfl, i_Text, by decide, xT_1 76 rfl rfl⟩, t_Text_ok, n_Text, rfl, by decide +kernel, fun h => by cases h⟩
theorem fp_Text_25 : xFP "RoundAndRound$Text" 25 2 4 (.int) false := ⟨R_Text, F_Text, 5, t_Text, ⟨rfl, i_Text, by decide, xT_1 77 rfl rfl⟩, t_Text_ok, n_Text, rfl, by decide +kernel, fun h => by cases h⟩
theorem fg_Text_21 : xFL "RoundAndRound$Text" 21 2 3 := ⟨R_Text, F_Text, 5, rfl, i_Text, by decide, xT_1 76 rfl rfl⟩
theorem fg_Text_9 : xFL "RoundAndRound$Text" 9 2 0 := ⟨R_Text, F_Text, 5, rfl, i_Text, by decide, xT_1 73 rfl rfl⟩
theorem fg_Text_25 : xFL "RoundAndRound$Text" 25 2 4 := ⟨R_Text, F_Text, 5, rfl, i_Text, by decide, xT_1 77 rfl rfl⟩
theorem fg_Text_15 : xFL "RoundAndRound$Text" 15 2 1 := ⟨R_Text, F_Text, 5, rfl, i_Text, by decide, xT_1 74 rfl rfl⟩
theorem ml_Text_28 : Cond.methodLink "RoundAndRound$Text" 28 y_Text_partEnd ∈ xT := xT_2 153 rfl rfl
theorem ml_Text_32 : Cond.methodLink "RoundAndRound$Text" 32 Lib.Math.min.name ∈ xT := xT_2 157 rfl rfl
theorem ml_Text_38 : Cond.methodLink "RoundAndRound$Text" 38 Lib.Math.max.name ∈ xT := xT_2 160 rfl rfl
theorem fg_Text_18 : xFL "RoundAndRound$Text" 18 2 2 := ⟨R_Text, F_Text, 5, rfl, i_Text, by decide, xT_1 75 rfl rfl⟩
theorem ml_Text_41 : Cond.methodLink "RoundAndRound$Text" 41 y_Text_named ∈ xT := xT_2 163 rfl rfl
theorem ml_Text_45 : Cond.methodLink "RoundAndRound$Text" 45 y_Text_joined ∈ xT := xT_2 166 rfl rfl
theorem mn_Text_49 : Cond.methodLinkNest "RoundAndRound$Text" 49 y_X_bounded "RoundAndRound" ∈ xnest := List.mem_of_getElem? (i := 6) rfl
theorem fg_Text_52 : xFL "RoundAndRound$Text" 52 1 3 := ⟨R_Head, F_Head, 8, rfl, i_Head, by decide, xT_1 38 rfl rfl⟩
theorem fg_Text_57 : xFL "RoundAndRound$Text" 57 1 4 := ⟨R_Head, F_Head, 8, rfl, i_Head, by decide, xT_1 41 rfl rfl⟩
theorem fg_Text_60 : xFL "RoundAndRound$Text" 60 1 1 := ⟨R_Head, F_Head, 8, rfl, i_Head, by decide, xT_1 32 rfl rfl⟩
theorem fg_Text_63 : xFL "RoundAndRound$Text" 63 1 2 := ⟨R_Head, F_Head, 8, rfl, i_Head, by decide, xT_1 35 rfl rfl⟩
theorem cl_Law_7 : Cond.classLink "RoundAndRoundLaw" 7 "RoundAndRound" ∈ xT := xT_1 14 rfl rfl
theorem ml_Law_9 : Cond.methodLink "RoundAndRoundLaw" 9 y_X_init ∈ xT := xT_1 16 rfl rfl
theorem cl_Law_10 : Cond.classLink "RoundAndRoundLaw" 10 "RoundAndRoundModel" ∈ xT := xT_4 10 rfl rfl
theorem ml_Law_12 : Cond.methodLink "RoundAndRoundLaw" 12 y_Model_init ∈ xT := xT_4 12 rfl rfl
theorem ml_Law_13 : Cond.methodLink "RoundAndRoundLaw" 13 y_X_count ∈ xT := xT_2 108 rfl rfl
theorem ml_Law_17 : Cond.methodLink "RoundAndRoundLaw" 17 y_Model_count ∈ xT := xT_4 166 rfl rfl
theorem ml_Law_18 : Cond.methodLink "RoundAndRoundLaw" 18 y_X_feed ∈ xT := xT_2 112 rfl rfl
theorem ml_Law_22 : Cond.methodLink "RoundAndRoundLaw" 22 y_Model_feed ∈ xT := xT_4 170 rfl rfl
theorem ml_Law_23 : Cond.methodLink "RoundAndRoundLaw" 23 y_X_text ∈ xT := xT_2 122 rfl rfl
theorem ml_Law_27 : Cond.methodLink "RoundAndRoundLaw" 27 y_Model_text ∈ xT := xT_4 177 rfl rfl
theorem ml_Law_28 : Cond.methodLink "RoundAndRoundLaw" 28 y_X_force ∈ xT := xT_2 126 rfl rfl
theorem ml_Law_31 : Cond.methodLink "RoundAndRoundLaw" 31 y_Model_force ∈ xT := xT_4 178 rfl rfl
theorem ml_Law_32 : Cond.methodLink "RoundAndRoundLaw" 32 y_X_asks ∈ xT := xT_2 130 rfl rfl
theorem ml_Law_36 : Cond.methodLink "RoundAndRoundLaw" 36 y_Model_asks ∈ xT := xT_4 182 rfl rfl
theorem ml_Law_37 : Cond.methodLink "RoundAndRoundLaw" 37 y_X_head ∈ xT := xT_2 174 rfl rfl
theorem ml_Law_41 : Cond.methodLink "RoundAndRoundLaw" 41 y_Model_head ∈ xT := xT_4 204 rfl rfl
theorem ml_Law_42 : Cond.methodLink "RoundAndRoundLaw" 42 y_X_set ∈ xT := xT_2 189 rfl rfl
theorem ml_Law_45 : Cond.methodLink "RoundAndRoundLaw" 45 y_Model_set ∈ xT := xT_4 208 rfl rfl
theorem ml_Law_46 : Cond.methodLink "RoundAndRoundLaw" 46 y_X_told ∈ xT := xT_2 195 rfl rfl
theorem ml_Law_49 : Cond.methodLink "RoundAndRoundLaw" 49 y_Model_told ∈ xT := xT_4 214 rfl rfl
theorem ml_Law_50 : Cond.methodLink "RoundAndRoundLaw" 50 y_X_turn ∈ xT := xT_2 206 rfl rfl
theorem ml_Law_53 : Cond.methodLink "RoundAndRoundLaw" 53 y_Model_turn ∈ xT := xT_4 222 rfl rfl
theorem ml_Law_54 : Cond.methodLink "RoundAndRoundLaw" 54 y_X_rest ∈ xT := xT_3 1 rfl rfl
theorem ml_Law_57 : Cond.methodLink "RoundAndRoundLaw" 57 y_Model_rest ∈ xT := xT_5 16 rfl rfl
theorem ml_Law_58 : Cond.methodLink "RoundAndRoundLaw" 58 y_X_walk ∈ xT := xT_3 12 rfl rfl
theorem ml_Law_61 : Cond.methodLink "RoundAndRoundLaw" 61 y_Model_walk ∈ xT := xT_5 24 rfl rfl
theorem ml_Law_62 : Cond.methodLink "RoundAndRoundLaw" 62 y_X_up ∈ xT := xT_3 31 rfl rfl
theorem ml_Law_65 : Cond.methodLink "RoundAndRoundLaw" 65 y_Model_up ∈ xT := xT_5 38 rfl rfl
theorem ml_Law_66 : Cond.methodLink "RoundAndRoundLaw" 66 y_X_ends ∈ xT := xT_3 36 rfl rfl
theorem ml_Law_70 : Cond.methodLink "RoundAndRoundLaw" 70 y_Model_ends ∈ xT := xT_5 42 rfl rfl
theorem ml_Law_71 : Cond.methodLink "RoundAndRoundLaw" 71 y_X_stands ∈ xT := xT_3 58 rfl rfl
theorem ml_Law_74 : Cond.methodLink "RoundAndRoundLaw" 74 y_Model_stands ∈ xT := xT_5 57 rfl rfl
theorem ml_Law_75 : Cond.methodLink "RoundAndRoundLaw" 75 y_X_undo ∈ xT := xT_3 64 rfl rfl
theorem ml_Law_78 : Cond.methodLink "RoundAndRoundLaw" 78 y_Model_undo ∈ xT := xT_5 61 rfl rfl
theorem ml_Law_79 : Cond.methodLink "RoundAndRoundLaw" 79 y_X_fine ∈ xT := xT_3 69 rfl rfl
theorem ml_Law_82 : Cond.methodLink "RoundAndRoundLaw" 82 y_Model_fine ∈ xT := xT_5 65 rfl rfl
theorem ml_Law_83 : Cond.methodLink "RoundAndRoundLaw" 83 y_X_race ∈ xT := xT_3 74 rfl rfl
theorem ml_Law_86 : Cond.methodLink "RoundAndRoundLaw" 86 y_Model_race ∈ xT := xT_5 69 rfl rfl
theorem ml_Law_87 : Cond.methodLink "RoundAndRoundLaw" 87 y_X_wins ∈ xT := xT_3 92 rfl rfl
theorem ml_Law_91 : Cond.methodLink "RoundAndRoundLaw" 91 y_Model_wins ∈ xT := xT_5 81 rfl rfl
theorem ml_Law_92 : Cond.methodLink "RoundAndRoundLaw" 92 y_X_pace ∈ xT := xT_3 96 rfl rfl
theorem ml_Law_95 : Cond.methodLink "RoundAndRoundLaw" 95 y_Model_pace ∈ xT := xT_5 85 rfl rfl
theorem ml_Law_96 : Cond.methodLink "RoundAndRoundLaw" 96 y_X_roses ∈ xT := xT_3 100 rfl rfl
theorem ml_Law_99 : Cond.methodLink "RoundAndRoundLaw" 99 y_Model_roses ∈ xT := xT_5 89 rfl rfl
theorem ml_Law_100 : Cond.methodLink "RoundAndRoundLaw" 100 y_X_judge ∈ xT := xT_3 113 rfl rfl
theorem ml_Law_103 : Cond.methodLink "RoundAndRoundLaw" 103 y_Model_judge ∈ xT := xT_5 96 rfl rfl
theorem ml_Law_104 : Cond.methodLink "RoundAndRoundLaw" 104 y_X_turned ∈ xT := xT_3 149 rfl rfl
theorem ml_Law_107 : Cond.methodLink "RoundAndRoundLaw" 107 y_Model_turned ∈ xT := xT_5 112 rfl rfl
theorem ml_Law_108 : Cond.methodLink "RoundAndRoundLaw" 108 y_X_kinds ∈ xT := xT_3 153 rfl rfl
theorem ml_Law_111 : Cond.methodLink "RoundAndRoundLaw" 111 y_Model_kinds ∈ xT := xT_5 116 rfl rfl
theorem ml_Law_112 : Cond.methodLink "RoundAndRoundLaw" 112 y_X_laws ∈ xT := xT_3 157 rfl rfl
theorem ml_Law_115 : Cond.methodLink "RoundAndRoundLaw" 115 y_Model_laws ∈ xT := xT_5 120 rfl rfl
theorem ml_Law_116 : Cond.methodLink "RoundAndRoundLaw" 116 y_X_whose ∈ xT := xT_3 161 rfl rfl
theorem ml_Law_119 : Cond.methodLink "RoundAndRoundLaw" 119 y_Model_whose ∈ xT := xT_5 124 rfl rfl
theorem ml_Law_120 : Cond.methodLink "RoundAndRoundLaw" 120 y_X_film ∈ xT := xT_3 165 rfl rfl
theorem ml_Law_123 : Cond.methodLink "RoundAndRoundLaw" 123 y_Model_film ∈ xT := xT_5 128 rfl rfl
theorem ml_Law_124 : Cond.methodLink "RoundAndRoundLaw" 124 y_X_drawn ∈ xT := xT_3 178 rfl rfl
theorem ml_Law_127 : Cond.methodLink "RoundAndRoundLaw" 127 y_Model_drawn ∈ xT := xT_5 132 rfl rfl
theorem ml_Law_128 : Cond.methodLink "RoundAndRoundLaw" 128 y_X_odds ∈ xT := xT_3 192 rfl rfl
theorem ml_Law_132 : Cond.methodLink "RoundAndRoundLaw" 132 y_Model_odds ∈ xT := xT_5 146 rfl rfl
theorem ml_Law_133 : Cond.methodLink "RoundAndRoundLaw" 133 y_X_image ∈ xT := xT_3 203 rfl rfl
theorem ml_Law_136 : Cond.methodLink "RoundAndRoundLaw" 136 y_Model_image ∈ xT := xT_5 154 rfl rfl
theorem ml_Law_137 : Cond.methodLink "RoundAndRoundLaw" 137 y_X_back ∈ xT := xT_3 211 rfl rfl
theorem ml_Law_140 : Cond.methodLink "RoundAndRoundLaw" 140 y_Model_back ∈ xT := xT_5 158 rfl rfl
theorem ml_Law_141 : Cond.methodLink "RoundAndRoundLaw" 141 y_X_sheet ∈ xT := xT_3 215 rfl rfl
theorem ml_Law_144 : Cond.methodLink "RoundAndRoundLaw" 144 y_Model_sheet ∈ xT := xT_5 162 rfl rfl
theorem ml_Law_145 : Cond.methodLink "RoundAndRoundLaw" 145 y_X_cell ∈ xT := xT_3 219 rfl rfl
theorem ml_Law_148 : Cond.methodLink "RoundAndRoundLaw" 148 y_Model_cell ∈ xT := xT_5 166 rfl rfl
theorem ml_Law_149 : Cond.methodLink "RoundAndRoundLaw" 149 y_X_copy ∈ xT := xT_3 224 rfl rfl
theorem ml_Law_152 : Cond.methodLink "RoundAndRoundLaw" 152 y_Model_copy ∈ xT := xT_5 170 rfl rfl
theorem ml_Law_153 : Cond.methodLink "RoundAndRoundLaw" 153 y_X_headsBy ∈ xT := xT_3 235 rfl rfl
theorem ml_Law_156 : Cond.methodLink "RoundAndRoundLaw" 156 y_Model_headsBy ∈ xT := xT_5 174 rfl rfl
theorem ml_Law_157 : Cond.methodLink "RoundAndRoundLaw" 157 y_X_taken ∈ xT := xT_4 0 rfl rfl
theorem ml_Law_160 : Cond.methodLink "RoundAndRoundLaw" 160 y_Model_taken ∈ xT := xT_5 179 rfl rfl
theorem mt_max : Cond.static Lib.Math.max.name ∈ xT := xT_2 161 rfl rfl
theorem mc_max : Cond.code Lib.Math.max.name Lib.Math.max.code 2 (some .int) ∈ xT := xT_2 162 rfl rfl
theorem mt_min : Cond.static Lib.Math.min.name ∈ xT := xT_2 158 rfl rfl
theorem mc_min : Cond.code Lib.Math.min.name Lib.Math.min.code 2 (some .int) ∈ xT := xT_2 159 rfl rfl
theorem mt_abs : Cond.static Lib.Math.abs.name ∈ xT := xT_2 221 rfl rfl
theorem mc_abs : Cond.code Lib.Math.abs.name Lib.Math.abs.code 1 (some .int) ∈ xT := xT_2 222 rfl rfl
theorem mi_math : Cond.initialized "java/lang/Math" ∈ xT := xT_1 11 rfl rfl
theorem oi_inst : Cond.instanceMethod Lib.objectInit ∈ xT := xT_1 20 rfl rfl
theorem oi_code : Cond.code Lib.objectInit ⟨#[0xb1]⟩ 1 none ∈ xT := xT_1 21 rfl rfl
theorem ac_int : Cond.arrayClass .int ∈ xT := xT_1 89 rfl rfl
theorem ac_long : Cond.arrayClass .long ∈ xT := xT_1 176 rfl rfl
theorem ac_byte : Cond.arrayClass .byte ∈ xT := xT_1 177 rfl rfl
theorem in_X : Cond.initialized "RoundAndRound" ∈ xT := xT_1 1 rfl rfl
theorem is_X : Cond.instantiable "RoundAndRound" 15 ∈ xT := xT_1 15 rfl rfl
theorem in_Head : Cond.initialized "RoundAndRound$Head" ∈ xT := xT_1 2 rfl rfl
theorem is_Head : Cond.instantiable "RoundAndRound$Head" 8 ∈ xT := xT_1 24 rfl rfl
theorem in_Text : Cond.initialized "RoundAndRound$Text" ∈ xT := xT_1 3 rfl rfl
theorem is_Text : Cond.instantiable "RoundAndRound$Text" 5 ∈ xT := xT_1 68 rfl rfl
theorem in_Reader : Cond.initialized "RoundAndRound$Reader" ∈ xT := xT_1 4 rfl rfl
theorem is_Reader : Cond.instantiable "RoundAndRound$Reader" 9 ∈ xT := xT_1 91 rfl rfl
theorem in_Sheet : Cond.initialized "RoundAndRound$Sheet" ∈ xT := xT_1 9 rfl rfl
theorem is_Sheet : Cond.instantiable "RoundAndRound$Sheet" 3 ∈ xT := xT_1 180 rfl rfl
theorem in_Model : Cond.initialized "RoundAndRoundModel" ∈ xT := xT_1 10 rfl rfl
theorem is_Model : Cond.instantiable "RoundAndRoundModel" 34 ∈ xT := xT_4 11 rfl rfl
