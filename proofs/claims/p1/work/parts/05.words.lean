/-! the words that the rows use, each by its place in the tables; printed by wip/p1/gen.py -/
theorem q_p_15 : Cond.selects RX10 yX10_areSuch yX10_areSuch ∈ gw := gw_s (y := yX10_areSuch) (n := 20) (List.mem_append_left _ (List.mem_of_getElem? (i := 15) (by decide +kernel)))
theorem q_1_1 : Cond.initialized RX10 ∈ gw := gw_1 1 (by decide +kernel) rfl
theorem q_1_2 : Cond.initialized RX2 ∈ gw := gw_1 2 (by decide +kernel) rfl
theorem q_1_64 : Cond.fieldLink RX2 9 "SevenTable$Game" "kinds" "I" ∈ gw := gw_1 64 (by decide +kernel) rfl
theorem q_1_70 : Cond.fieldLink RX2 15 "SevenTable$Game" "persons" "I" ∈ gw := gw_1 70 (by decide +kernel) rfl
theorem q_2_106 : Cond.fieldLink RX10 23 "SevenTable" "game" "LSevenTable$Game;" ∈ gw := gw_2 106 (by decide +kernel) rfl
theorem q_3_115 : Cond.methodLink RX10 138 yX2_hasPerson ∈ gw := gw_3 115 (by decide +kernel) rfl
theorem q_3_116 : Cond.instanceMethod yX2_hasPerson ∈ gw := gw_3 116 (by decide +kernel) rfl
theorem q_3_117 : Cond.selects RX2 yX2_hasPerson yX2_hasPerson ∈ gw := gw_3 117 (by decide +kernel) rfl
theorem q_3_118 : Cond.code yX2_hasPerson cX2_hasPerson 2 (some .boolean) ∈ gw := gw_3 118 (by decide +kernel) rfl
theorem q_3_165 : Cond.methodLink RX10 215 yX10_areSuch ∈ gw := gw_3 165 (by decide +kernel) rfl
theorem q_3_167 : Cond.instanceMethod yX10_areSuch ∈ gw := gw_3 167 (by decide +kernel) rfl
theorem q_3_168 : Cond.code yX10_areSuch cX10_areSuch 4 (some .boolean) ∈ gw := gw_3 168 (by decide +kernel) rfl
theorem inGX10 : ∀ w ∈ u_ws RX10 TX10 20, w ∈ gw := by
  intro w hw
  obtain ⟨k, hk, rfl⟩ := List.mem_map.mp hw
  have hk := List.mem_range.mp hk
  match k, hk with
  | 0, _ => exact gw_2 123 (by decide +kernel) rfl
  | 1, _ => exact gw_2 125 (by decide +kernel) rfl
  | 2, _ => exact gw_2 127 (by decide +kernel) rfl
  | 3, _ => exact gw_2 129 (by decide +kernel) rfl
  | 4, _ => exact gw_2 131 (by decide +kernel) rfl
  | 5, _ => exact gw_2 133 (by decide +kernel) rfl
  | 6, _ => exact gw_2 135 (by decide +kernel) rfl
  | 7, _ => exact gw_2 137 (by decide +kernel) rfl
  | 8, _ => exact gw_2 139 (by decide +kernel) rfl
  | 9, _ => exact gw_2 141 (by decide +kernel) rfl
  | 10, _ => exact gw_2 143 (by decide +kernel) rfl
  | 11, _ => exact gw_2 145 (by decide +kernel) rfl
  | 12, _ => exact gw_2 147 (by decide +kernel) rfl
  | 13, _ => exact gw_2 149 (by decide +kernel) rfl
  | 14, _ => exact gw_2 151 (by decide +kernel) rfl
  | 15, _ => exact gw_2 153 (by decide +kernel) rfl
  | 16, _ => exact gw_2 155 (by decide +kernel) rfl
  | 17, _ => exact gw_2 157 (by decide +kernel) rfl
  | 18, _ => exact gw_2 159 (by decide +kernel) rfl
  | 19, _ => exact gw_2 161 (by decide +kernel) rfl
  | (k + 20), h => exact absurd h (by omega)
theorem inGX2 : ∀ w ∈ u_ws RX2 TX2 18, w ∈ gw := by
  intro w hw
  obtain ⟨k, hk, rfl⟩ := List.mem_map.mp hw
  have hk := List.mem_range.mp hk
  match k, hk with
  | 0, _ => exact gw_1 114 (by decide +kernel) rfl
  | 1, _ => exact gw_1 116 (by decide +kernel) rfl
  | 2, _ => exact gw_1 118 (by decide +kernel) rfl
  | 3, _ => exact gw_1 120 (by decide +kernel) rfl
  | 4, _ => exact gw_1 122 (by decide +kernel) rfl
  | 5, _ => exact gw_1 124 (by decide +kernel) rfl
  | 6, _ => exact gw_1 126 (by decide +kernel) rfl
  | 7, _ => exact gw_1 128 (by decide +kernel) rfl
  | 8, _ => exact gw_1 130 (by decide +kernel) rfl
  | 9, _ => exact gw_1 132 (by decide +kernel) rfl
  | 10, _ => exact gw_1 134 (by decide +kernel) rfl
  | 11, _ => exact gw_1 136 (by decide +kernel) rfl
  | 12, _ => exact gw_1 138 (by decide +kernel) rfl
  | 13, _ => exact gw_1 140 (by decide +kernel) rfl
  | 14, _ => exact gw_1 142 (by decide +kernel) rfl
  | 15, _ => exact gw_1 144 (by decide +kernel) rfl
  | 16, _ => exact gw_1 146 (by decide +kernel) rfl
  | 17, _ => exact gw_1 148 (by decide +kernel) rfl
  | (k + 18), h => exact absurd h (by omega)
