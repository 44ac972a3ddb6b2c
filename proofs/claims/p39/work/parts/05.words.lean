set_option maxRecDepth 20000 in
theorem gd_t1 {w : Cond} (i : Nat) (h : tables_1_1[i]? = some w) (hg : goodWord w = true) : w ∈ lw_gd := List.mem_filter.mpr ⟨(List.mem_append_right _ (List.mem_append_left _ (List.mem_of_getElem? h))), hg⟩
set_option maxRecDepth 20000 in
theorem ne_t1 {w : Cond} (i : Nat) (h : tables_1_1[i]? = some w) (hg : lw_isN w = true) : w ∈ lw_ne := List.mem_filter.mpr ⟨(List.mem_append_right _ (List.mem_append_left _ (List.mem_of_getElem? h))), hg⟩
set_option maxRecDepth 20000 in
theorem gd_t2 {w : Cond} (i : Nat) (h : tables_1_2[i]? = some w) (hg : goodWord w = true) : w ∈ lw_gd := List.mem_filter.mpr ⟨(List.mem_append_right _ (List.mem_append_right _ (List.mem_append_left _ (List.mem_of_getElem? h)))), hg⟩
set_option maxRecDepth 20000 in
theorem ne_t2 {w : Cond} (i : Nat) (h : tables_1_2[i]? = some w) (hg : lw_isN w = true) : w ∈ lw_ne := List.mem_filter.mpr ⟨(List.mem_append_right _ (List.mem_append_right _ (List.mem_append_left _ (List.mem_of_getElem? h)))), hg⟩
set_option maxRecDepth 20000 in
theorem gd_t3 {w : Cond} (i : Nat) (h : tables_1_3[i]? = some w) (hg : goodWord w = true) : w ∈ lw_gd := List.mem_filter.mpr ⟨(List.mem_append_right _ (List.mem_append_right _ (List.mem_append_right _ (List.mem_append_left _ (List.mem_of_getElem? h))))), hg⟩
set_option maxRecDepth 20000 in
theorem ne_t3 {w : Cond} (i : Nat) (h : tables_1_3[i]? = some w) (hg : lw_isN w = true) : w ∈ lw_ne := List.mem_filter.mpr ⟨(List.mem_append_right _ (List.mem_append_right _ (List.mem_append_right _ (List.mem_append_left _ (List.mem_of_getElem? h))))), hg⟩
set_option maxRecDepth 20000 in
theorem gd_t4 {w : Cond} (i : Nat) (h : tables_1_4[i]? = some w) (hg : goodWord w = true) : w ∈ lw_gd := List.mem_filter.mpr ⟨(List.mem_append_right _ (List.mem_append_right _ (List.mem_append_right _ (List.mem_append_right _ (List.mem_append_left _ (List.mem_of_getElem? h)))))), hg⟩
set_option maxRecDepth 20000 in
theorem ne_t4 {w : Cond} (i : Nat) (h : tables_1_4[i]? = some w) (hg : lw_isN w = true) : w ∈ lw_ne := List.mem_filter.mpr ⟨(List.mem_append_right _ (List.mem_append_right _ (List.mem_append_right _ (List.mem_append_right _ (List.mem_append_left _ (List.mem_of_getElem? h)))))), hg⟩
set_option maxRecDepth 20000 in
theorem gd_t5 {w : Cond} (i : Nat) (h : tables_1_5[i]? = some w) (hg : goodWord w = true) : w ∈ lw_gd := List.mem_filter.mpr ⟨(List.mem_append_right _ (List.mem_append_right _ (List.mem_append_right _ (List.mem_append_right _ (List.mem_append_right _ (List.mem_append_left _ (List.mem_of_getElem? h))))))), hg⟩
set_option maxRecDepth 20000 in
theorem ne_t5 {w : Cond} (i : Nat) (h : tables_1_5[i]? = some w) (hg : lw_isN w = true) : w ∈ lw_ne := List.mem_filter.mpr ⟨(List.mem_append_right _ (List.mem_append_right _ (List.mem_append_right _ (List.mem_append_right _ (List.mem_append_right _ (List.mem_append_left _ (List.mem_of_getElem? h))))))), hg⟩
set_option maxRecDepth 20000 in
theorem gd_t6 {w : Cond} (i : Nat) (h : tables_1_6[i]? = some w) (hg : goodWord w = true) : w ∈ lw_gd := List.mem_filter.mpr ⟨(List.mem_append_right _ (List.mem_append_right _ (List.mem_append_right _ (List.mem_append_right _ (List.mem_append_right _ (List.mem_append_right _ (List.mem_append_left _ (List.mem_of_getElem? h)))))))), hg⟩
set_option maxRecDepth 20000 in
theorem ne_t6 {w : Cond} (i : Nat) (h : tables_1_6[i]? = some w) (hg : lw_isN w = true) : w ∈ lw_ne := List.mem_filter.mpr ⟨(List.mem_append_right _ (List.mem_append_right _ (List.mem_append_right _ (List.mem_append_right _ (List.mem_append_right _ (List.mem_append_right _ (List.mem_append_left _ (List.mem_of_getElem? h)))))))), hg⟩
set_option maxRecDepth 20000 in
theorem gd_t7 {w : Cond} (i : Nat) (h : tables_1_7[i]? = some w) (hg : goodWord w = true) : w ∈ lw_gd := List.mem_filter.mpr ⟨(List.mem_append_right _ (List.mem_append_right _ (List.mem_append_right _ (List.mem_append_right _ (List.mem_append_right _ (List.mem_append_right _ (List.mem_append_right _ (List.mem_append_left _ (List.mem_of_getElem? h))))))))), hg⟩
set_option maxRecDepth 20000 in
theorem ne_t7 {w : Cond} (i : Nat) (h : tables_1_7[i]? = some w) (hg : lw_isN w = true) : w ∈ lw_ne := List.mem_filter.mpr ⟨(List.mem_append_right _ (List.mem_append_right _ (List.mem_append_right _ (List.mem_append_right _ (List.mem_append_right _ (List.mem_append_right _ (List.mem_append_right _ (List.mem_append_left _ (List.mem_of_getElem? h))))))))), hg⟩
set_option maxRecDepth 20000 in
theorem gd_t8 {w : Cond} (i : Nat) (h : tables_1_8[i]? = some w) (hg : goodWord w = true) : w ∈ lw_gd := List.mem_filter.mpr ⟨(List.mem_append_right _ (List.mem_append_right _ (List.mem_append_right _ (List.mem_append_right _ (List.mem_append_right _ (List.mem_append_right _ (List.mem_append_right _ (List.mem_append_right _ (List.mem_append_left _ (List.mem_of_getElem? h)))))))))), hg⟩
set_option maxRecDepth 20000 in
theorem ne_t8 {w : Cond} (i : Nat) (h : tables_1_8[i]? = some w) (hg : lw_isN w = true) : w ∈ lw_ne := List.mem_filter.mpr ⟨(List.mem_append_right _ (List.mem_append_right _ (List.mem_append_right _ (List.mem_append_right _ (List.mem_append_right _ (List.mem_append_right _ (List.mem_append_right _ (List.mem_append_right _ (List.mem_append_left _ (List.mem_of_getElem? h)))))))))), hg⟩
set_option maxRecDepth 20000 in
theorem gd_t9 {w : Cond} (i : Nat) (h : tables_1_9[i]? = some w) (hg : goodWord w = true) : w ∈ lw_gd := List.mem_filter.mpr ⟨(List.mem_append_right _ (List.mem_append_right _ (List.mem_append_right _ (List.mem_append_right _ (List.mem_append_right _ (List.mem_append_right _ (List.mem_append_right _ (List.mem_append_right _ (List.mem_append_right _ (List.mem_of_getElem? h)))))))))), hg⟩
set_option maxRecDepth 20000 in
theorem ne_t9 {w : Cond} (i : Nat) (h : tables_1_9[i]? = some w) (hg : lw_isN w = true) : w ∈ lw_ne := List.mem_filter.mpr ⟨(List.mem_append_right _ (List.mem_append_right _ (List.mem_append_right _ (List.mem_append_right _ (List.mem_append_right _ (List.mem_append_right _ (List.mem_append_right _ (List.mem_append_right _ (List.mem_append_right _ (List.mem_of_getElem? h)))))))))), hg⟩
set_option maxRecDepth 20000 in
theorem hinX0 : ∀ w ∈ u_ws RX0 TX0 9, w ∈ lw_gd := by
  intro w hw
  obtain ⟨k, hk, rfl⟩ := List.mem_map.mp hw
  have hk := List.mem_range.mp hk
  match k, hk with
  | 0, _ => exact (gd_t2 115 rfl rfl)
  | 1, _ => exact (gd_t2 117 rfl rfl)
  | 2, _ => exact (gd_t2 119 rfl rfl)
  | 3, _ => exact (gd_t2 121 rfl rfl)
  | 4, _ => exact (gd_t2 123 rfl rfl)
  | 5, _ => exact (gd_t2 125 rfl rfl)
  | 6, _ => exact (gd_t2 127 rfl rfl)
  | 7, _ => exact (gd_t2 129 rfl rfl)
  | 8, _ => exact (gd_t2 131 rfl rfl)
  | k + 9, hk => exact absurd hk (by omega)
set_option maxRecDepth 20000 in
theorem hinX1 : ∀ w ∈ u_ws RX1 TX1 10, w ∈ lw_gd := by
  intro w hw
  obtain ⟨k, hk, rfl⟩ := List.mem_map.mp hw
  have hk := List.mem_range.mp hk
  match k, hk with
  | 0, _ => exact (gd_t1 174 rfl rfl)
  | 1, _ => exact (gd_t1 176 rfl rfl)
  | 2, _ => exact (gd_t1 178 rfl rfl)
  | 3, _ => exact (gd_t1 180 rfl rfl)
  | 4, _ => exact (gd_t1 182 rfl rfl)
  | 5, _ => exact (gd_t1 184 rfl rfl)
  | 6, _ => exact (gd_t1 186 rfl rfl)
  | 7, _ => exact (gd_t1 188 rfl rfl)
  | 8, _ => exact (gd_t1 190 rfl rfl)
  | 9, _ => exact (gd_t1 192 rfl rfl)
  | k + 10, hk => exact absurd hk (by omega)
set_option maxRecDepth 20000 in
theorem hinX2 : ∀ w ∈ u_ws RX2 TX2 10, w ∈ lw_gd := by
  intro w hw
  obtain ⟨k, hk, rfl⟩ := List.mem_map.mp hw
  have hk := List.mem_range.mp hk
  match k, hk with
  | 0, _ => exact (gd_t1 122 rfl rfl)
  | 1, _ => exact (gd_t1 124 rfl rfl)
  | 2, _ => exact (gd_t1 126 rfl rfl)
  | 3, _ => exact (gd_t1 128 rfl rfl)
  | 4, _ => exact (gd_t1 130 rfl rfl)
  | 5, _ => exact (gd_t1 132 rfl rfl)
  | 6, _ => exact (gd_t1 134 rfl rfl)
  | 7, _ => exact (gd_t1 136 rfl rfl)
  | 8, _ => exact (gd_t1 138 rfl rfl)
  | 9, _ => exact (gd_t1 140 rfl rfl)
  | k + 10, hk => exact absurd hk (by omega)
set_option maxRecDepth 20000 in
theorem hinX3 : ∀ w ∈ u_ws RX3 TX3 3, w ∈ lw_gd := by
  intro w hw
  obtain ⟨k, hk, rfl⟩ := List.mem_map.mp hw
  have hk := List.mem_range.mp hk
  match k, hk with
  | 0, _ => exact (gd_t2 145 rfl rfl)
  | 1, _ => exact (gd_t2 147 rfl rfl)
  | 2, _ => exact (gd_t2 149 rfl rfl)
  | k + 3, hk => exact absurd hk (by omega)
set_option maxRecDepth 20000 in
theorem hinX4 : ∀ w ∈ u_ws RX4 TX4 9, w ∈ lw_gd := by
  intro w hw
  obtain ⟨k, hk, rfl⟩ := List.mem_map.mp hw
  have hk := List.mem_range.mp hk
  match k, hk with
  | 0, _ => exact (gd_t1 218 rfl rfl)
  | 1, _ => exact (gd_t1 220 rfl rfl)
  | 2, _ => exact (gd_t1 222 rfl rfl)
  | 3, _ => exact (gd_t1 224 rfl rfl)
  | 4, _ => exact (gd_t1 226 rfl rfl)
  | 5, _ => exact (gd_t1 228 rfl rfl)
  | 6, _ => exact (gd_t1 230 rfl rfl)
  | 7, _ => exact (gd_t1 232 rfl rfl)
  | 8, _ => exact (gd_t1 234 rfl rfl)
  | k + 9, hk => exact absurd hk (by omega)
set_option maxRecDepth 20000 in
theorem hinX5 : ∀ w ∈ u_ws RX5 TX5 12, w ∈ lw_gd := by
  intro w hw
  obtain ⟨k, hk, rfl⟩ := List.mem_map.mp hw
  have hk := List.mem_range.mp hk
  match k, hk with
  | 0, _ => exact (gd_t2 62 rfl rfl)
  | 1, _ => exact (gd_t2 64 rfl rfl)
  | 2, _ => exact (gd_t2 66 rfl rfl)
  | 3, _ => exact (gd_t2 68 rfl rfl)
  | 4, _ => exact (gd_t2 70 rfl rfl)
  | 5, _ => exact (gd_t2 72 rfl rfl)
  | 6, _ => exact (gd_t2 74 rfl rfl)
  | 7, _ => exact (gd_t2 76 rfl rfl)
  | 8, _ => exact (gd_t2 78 rfl rfl)
  | 9, _ => exact (gd_t2 80 rfl rfl)
  | 10, _ => exact (gd_t2 82 rfl rfl)
  | 11, _ => exact (gd_t2 84 rfl rfl)
  | k + 12, hk => exact absurd hk (by omega)
set_option maxRecDepth 20000 in
theorem hinX6 : ∀ w ∈ u_ws RX6 TX6 3, w ∈ lw_gd := by
  intro w hw
  obtain ⟨k, hk, rfl⟩ := List.mem_map.mp hw
  have hk := List.mem_range.mp hk
  match k, hk with
  | 0, _ => exact (gd_t1 47 rfl rfl)
  | 1, _ => exact (gd_t1 49 rfl rfl)
  | 2, _ => exact (gd_t1 51 rfl rfl)
  | k + 3, hk => exact absurd hk (by omega)
set_option maxRecDepth 20000 in
theorem hinX7 : ∀ w ∈ u_ws RX7 TX7 3, w ∈ lw_gd := by
  intro w hw
  obtain ⟨k, hk, rfl⟩ := List.mem_map.mp hw
  have hk := List.mem_range.mp hk
  match k, hk with
  | 0, _ => exact (gd_t2 164 rfl rfl)
  | 1, _ => exact (gd_t2 166 rfl rfl)
  | 2, _ => exact (gd_t2 168 rfl rfl)
  | k + 3, hk => exact absurd hk (by omega)
set_option maxRecDepth 20000 in
theorem hinX8 : ∀ w ∈ u_ws RX8 TX8 2, w ∈ lw_gd := by
  intro w hw
  obtain ⟨k, hk, rfl⟩ := List.mem_map.mp hw
  have hk := List.mem_range.mp hk
  match k, hk with
  | 0, _ => exact (gd_t1 78 rfl rfl)
  | 1, _ => exact (gd_t1 80 rfl rfl)
  | k + 2, hk => exact absurd hk (by omega)
set_option maxRecDepth 20000 in
theorem hinX9 : ∀ w ∈ u_ws RX9 TX9 13, w ∈ lw_gd := by
  intro w hw
  obtain ⟨k, hk, rfl⟩ := List.mem_map.mp hw
  have hk := List.mem_range.mp hk
  match k, hk with
  | 0, _ => exact (gd_t2 193 rfl rfl)
  | 1, _ => exact (gd_t2 195 rfl rfl)
  | 2, _ => exact (gd_t2 197 rfl rfl)
  | 3, _ => exact (gd_t2 199 rfl rfl)
  | 4, _ => exact (gd_t2 201 rfl rfl)
  | 5, _ => exact (gd_t2 203 rfl rfl)
  | 6, _ => exact (gd_t2 205 rfl rfl)
  | 7, _ => exact (gd_t2 207 rfl rfl)
  | 8, _ => exact (gd_t2 209 rfl rfl)
  | 9, _ => exact (gd_t2 211 rfl rfl)
  | 10, _ => exact (gd_t2 213 rfl rfl)
  | 11, _ => exact (gd_t2 215 rfl rfl)
  | 12, _ => exact (gd_t2 217 rfl rfl)
  | k + 13, hk => exact absurd hk (by omega)
set_option maxRecDepth 20000 in
theorem hinX10 : ∀ w ∈ u_ws RX10 TX10 8, w ∈ lw_gd := by
  intro w hw
  obtain ⟨k, hk, rfl⟩ := List.mem_map.mp hw
  have hk := List.mem_range.mp hk
  match k, hk with
  | 0, _ => exact (gd_t2 17 rfl rfl)
  | 1, _ => exact (gd_t2 19 rfl rfl)
  | 2, _ => exact (gd_t2 21 rfl rfl)
  | 3, _ => exact (gd_t2 23 rfl rfl)
  | 4, _ => exact (gd_t2 25 rfl rfl)
  | 5, _ => exact (gd_t2 27 rfl rfl)
  | 6, _ => exact (gd_t2 29 rfl rfl)
  | 7, _ => exact (gd_t2 31 rfl rfl)
  | k + 8, hk => exact absurd hk (by omega)
set_option maxRecDepth 20000 in
theorem hinX11 : ∀ w ∈ u_ws RX11 TX11 12, w ∈ lw_gd := by
  intro w hw
  obtain ⟨k, hk, rfl⟩ := List.mem_map.mp hw
  have hk := List.mem_range.mp hk
  match k, hk with
  | 0, _ => exact (gd_t2 232 rfl rfl)
  | 1, _ => exact (gd_t2 234 rfl rfl)
  | 2, _ => exact (gd_t2 236 rfl rfl)
  | 3, _ => exact (gd_t2 238 rfl rfl)
  | 4, _ => exact (gd_t3 0 rfl rfl)
  | 5, _ => exact (gd_t3 2 rfl rfl)
  | 6, _ => exact (gd_t3 4 rfl rfl)
  | 7, _ => exact (gd_t3 6 rfl rfl)
  | 8, _ => exact (gd_t3 8 rfl rfl)
  | 9, _ => exact (gd_t3 10 rfl rfl)
  | 10, _ => exact (gd_t3 12 rfl rfl)
  | 11, _ => exact (gd_t3 14 rfl rfl)
  | k + 12, hk => exact absurd hk (by omega)
set_option maxRecDepth 20000 in
theorem hinX12 : ∀ w ∈ u_ws RX12 TX12 54, w ∈ lw_gd := by
  intro w hw
  obtain ⟨k, hk, rfl⟩ := List.mem_map.mp hw
  have hk := List.mem_range.mp hk
  match k, hk with
  | 0, _ => exact (gd_t6 102 rfl rfl)
  | 1, _ => exact (gd_t6 104 rfl rfl)
  | 2, _ => exact (gd_t6 106 rfl rfl)
  | 3, _ => exact (gd_t6 108 rfl rfl)
  | 4, _ => exact (gd_t6 110 rfl rfl)
  | 5, _ => exact (gd_t6 112 rfl rfl)
  | 6, _ => exact (gd_t6 114 rfl rfl)
  | 7, _ => exact (gd_t6 116 rfl rfl)
  | 8, _ => exact (gd_t6 118 rfl rfl)
  | 9, _ => exact (gd_t6 120 rfl rfl)
  | 10, _ => exact (gd_t6 122 rfl rfl)
  | 11, _ => exact (gd_t6 124 rfl rfl)
  | 12, _ => exact (gd_t6 126 rfl rfl)
  | 13, _ => exact (gd_t6 128 rfl rfl)
  | 14, _ => exact (gd_t6 130 rfl rfl)
  | 15, _ => exact (gd_t6 132 rfl rfl)
  | 16, _ => exact (gd_t6 134 rfl rfl)
  | 17, _ => exact (gd_t6 136 rfl rfl)
  | 18, _ => exact (gd_t6 138 rfl rfl)
  | 19, _ => exact (gd_t6 140 rfl rfl)
  | 20, _ => exact (gd_t6 142 rfl rfl)
  | 21, _ => exact (gd_t6 144 rfl rfl)
  | 22, _ => exact (gd_t6 146 rfl rfl)
  | 23, _ => exact (gd_t6 148 rfl rfl)
  | 24, _ => exact (gd_t6 150 rfl rfl)
  | 25, _ => exact (gd_t6 152 rfl rfl)
  | 26, _ => exact (gd_t6 154 rfl rfl)
  | 27, _ => exact (gd_t6 156 rfl rfl)
  | 28, _ => exact (gd_t6 158 rfl rfl)
  | 29, _ => exact (gd_t6 160 rfl rfl)
  | 30, _ => exact (gd_t6 162 rfl rfl)
  | 31, _ => exact (gd_t6 164 rfl rfl)
  | 32, _ => exact (gd_t6 166 rfl rfl)
  | 33, _ => exact (gd_t6 168 rfl rfl)
  | 34, _ => exact (gd_t6 170 rfl rfl)
  | 35, _ => exact (gd_t6 172 rfl rfl)
  | 36, _ => exact (gd_t6 174 rfl rfl)
  | 37, _ => exact (gd_t6 176 rfl rfl)
  | 38, _ => exact (gd_t6 178 rfl rfl)
  | 39, _ => exact (gd_t6 180 rfl rfl)
  | 40, _ => exact (gd_t6 182 rfl rfl)
  | 41, _ => exact (gd_t6 184 rfl rfl)
  | 42, _ => exact (gd_t6 186 rfl rfl)
  | 43, _ => exact (gd_t6 188 rfl rfl)
  | 44, _ => exact (gd_t6 190 rfl rfl)
  | 45, _ => exact (gd_t6 192 rfl rfl)
  | 46, _ => exact (gd_t6 194 rfl rfl)
  | 47, _ => exact (gd_t6 196 rfl rfl)
  | 48, _ => exact (gd_t6 198 rfl rfl)
  | 49, _ => exact (gd_t6 200 rfl rfl)
  | 50, _ => exact (gd_t6 202 rfl rfl)
  | 51, _ => exact (gd_t6 204 rfl rfl)
  | 52, _ => exact (gd_t6 206 rfl rfl)
  | 53, _ => exact (gd_t6 208 rfl rfl)
  | k + 54, hk => exact absurd hk (by omega)
set_option maxRecDepth 20000 in
theorem fl_X6_11 : FL RX6 11 6 0 := ⟨RX6, TX6, 3, rfl, hinX6, by decide, Or.inl (gd_t1 44 rfl rfl)⟩
set_option maxRecDepth 20000 in
theorem fl_X6_15 : FL RX6 15 6 1 := ⟨RX6, TX6, 3, rfl, hinX6, by decide, Or.inl (gd_t1 45 rfl rfl)⟩
set_option maxRecDepth 20000 in
theorem fp_X6_15 : FP RX6 15 6 1 .int := ⟨RX6, TX6, 3, tyX6, rfl, hinX6, by decide, Or.inl (gd_t1 45 rfl rfl), tyX6_ok, nmX6, rfl, rfl⟩
set_option maxRecDepth 20000 in
theorem fl_X6_25 : FL RX6 25 6 2 := ⟨RX6, TX6, 3, rfl, hinX6, by decide, Or.inl (gd_t1 46 rfl rfl)⟩
set_option maxRecDepth 20000 in
theorem fp_X6_25 : FP RX6 25 6 2 .int := ⟨RX6, TX6, 3, tyX6, rfl, hinX6, by decide, Or.inl (gd_t1 46 rfl rfl), tyX6_ok, nmX6, rfl, rfl⟩
set_option maxRecDepth 20000 in
theorem fl_X8_9 : FL RX8 9 8 0 := ⟨RX8, TX8, 2, rfl, hinX8, by decide, Or.inl (gd_t1 72 rfl rfl)⟩
set_option maxRecDepth 20000 in
theorem fl_X0_149 : FL RX0 149 8 0 := ⟨RX8, TX8, 2, rfl, hinX8, by decide, Or.inr ⟨"CarriedWorks", (ne_t1 73 rfl rfl)⟩⟩
set_option maxRecDepth 20000 in
theorem fl_X1_74 : FL RX1 74 8 0 := ⟨RX8, TX8, 2, rfl, hinX8, by decide, Or.inr ⟨"CarriedWorks", (ne_t1 74 rfl rfl)⟩⟩
set_option maxRecDepth 20000 in
theorem fl_X8_15 : FL RX8 15 8 1 := ⟨RX8, TX8, 2, rfl, hinX8, by decide, Or.inl (gd_t1 75 rfl rfl)⟩
set_option maxRecDepth 20000 in
theorem fp_X8_15 : FP RX8 15 8 1 .int := ⟨RX8, TX8, 2, tyX8, rfl, hinX8, by decide, Or.inl (gd_t1 75 rfl rfl), tyX8_ok, nmX8, rfl, rfl⟩
set_option maxRecDepth 20000 in
theorem fl_X1_64 : FL RX1 64 8 1 := ⟨RX8, TX8, 2, rfl, hinX8, by decide, Or.inr ⟨"CarriedWorks", (ne_t1 76 rfl rfl)⟩⟩
set_option maxRecDepth 20000 in
theorem fp_X1_64 : FP RX1 64 8 1 .int := ⟨RX8, TX8, 2, tyX8, rfl, hinX8, by decide, Or.inr ⟨"CarriedWorks", (ne_t1 76 rfl rfl)⟩, tyX8_ok, nmX8, rfl, rfl⟩
set_option maxRecDepth 20000 in
theorem fl_X5_147 : FL RX5 147 8 1 := ⟨RX8, TX8, 2, rfl, hinX8, by decide, Or.inr ⟨"CarriedWorks", (ne_t1 77 rfl rfl)⟩⟩
set_option maxRecDepth 20000 in
theorem fp_X5_147 : FP RX5 147 8 1 .int := ⟨RX8, TX8, 2, tyX8, rfl, hinX8, by decide, Or.inr ⟨"CarriedWorks", (ne_t1 77 rfl rfl)⟩, tyX8_ok, nmX8, rfl, rfl⟩
set_option maxRecDepth 20000 in
theorem fl_X5_65 : FL RX5 65 2 0 := ⟨RX2, TX2, 10, rfl, hinX2, by decide, Or.inr ⟨"CarriedWorks", (ne_t1 83 rfl rfl)⟩⟩
set_option maxRecDepth 20000 in
theorem fp_X5_65 : FP RX5 65 2 0 .boolean := ⟨RX2, TX2, 10, tyX2, rfl, hinX2, by decide, Or.inr ⟨"CarriedWorks", (ne_t1 83 rfl rfl)⟩, tyX2_ok, nmX2, rfl, rfl⟩
set_option maxRecDepth 20000 in
theorem fl_X2_53 : FL RX2 53 2 0 := ⟨RX2, TX2, 10, rfl, hinX2, by decide, Or.inl (gd_t1 84 rfl rfl)⟩
set_option maxRecDepth 20000 in
theorem fp_X2_53 : FP RX2 53 2 0 .boolean := ⟨RX2, TX2, 10, tyX2, rfl, hinX2, by decide, Or.inl (gd_t1 84 rfl rfl), tyX2_ok, nmX2, rfl, rfl⟩
set_option maxRecDepth 20000 in
theorem fl_X4_64 : FL RX4 64 2 0 := ⟨RX2, TX2, 10, rfl, hinX2, by decide, Or.inr ⟨"CarriedWorks", (ne_t1 85 rfl rfl)⟩⟩
set_option maxRecDepth 20000 in
theorem fp_X4_64 : FP RX4 64 2 0 .boolean := ⟨RX2, TX2, 10, tyX2, rfl, hinX2, by decide, Or.inr ⟨"CarriedWorks", (ne_t1 85 rfl rfl)⟩, tyX2_ok, nmX2, rfl, rfl⟩
set_option maxRecDepth 20000 in
theorem fl_X11_146 : FL RX11 146 2 0 := ⟨RX2, TX2, 10, rfl, hinX2, by decide, Or.inr ⟨"CarriedWorks", (ne_t1 86 rfl rfl)⟩⟩
set_option maxRecDepth 20000 in
theorem fp_X11_146 : FP RX11 146 2 0 .boolean := ⟨RX2, TX2, 10, tyX2, rfl, hinX2, by decide, Or.inr ⟨"CarriedWorks", (ne_t1 86 rfl rfl)⟩, tyX2_ok, nmX2, rfl, rfl⟩
set_option maxRecDepth 20000 in
theorem fl_X2_42 : FL RX2 42 2 1 := ⟨RX2, TX2, 10, rfl, hinX2, by decide, Or.inl (gd_t1 87 rfl rfl)⟩
set_option maxRecDepth 20000 in
theorem fp_X2_42 : FP RX2 42 2 1 .int := ⟨RX2, TX2, 10, tyX2, rfl, hinX2, by decide, Or.inl (gd_t1 87 rfl rfl), tyX2_ok, nmX2, rfl, rfl⟩
set_option maxRecDepth 20000 in
theorem fl_X9_57 : FL RX9 57 2 1 := ⟨RX2, TX2, 10, rfl, hinX2, by decide, Or.inr ⟨"CarriedWorks", (ne_t1 88 rfl rfl)⟩⟩
set_option maxRecDepth 20000 in
theorem fp_X9_57 : FP RX9 57 2 1 .int := ⟨RX2, TX2, 10, tyX2, rfl, hinX2, by decide, Or.inr ⟨"CarriedWorks", (ne_t1 88 rfl rfl)⟩, tyX2_ok, nmX2, rfl, rfl⟩
set_option maxRecDepth 20000 in
theorem fl_X0_60 : FL RX0 60 2 1 := ⟨RX2, TX2, 10, rfl, hinX2, by decide, Or.inr ⟨"CarriedWorks", (ne_t1 89 rfl rfl)⟩⟩
set_option maxRecDepth 20000 in
theorem fp_X0_60 : FP RX0 60 2 1 .int := ⟨RX2, TX2, 10, tyX2, rfl, hinX2, by decide, Or.inr ⟨"CarriedWorks", (ne_t1 89 rfl rfl)⟩, tyX2_ok, nmX2, rfl, rfl⟩
set_option maxRecDepth 20000 in
theorem fl_X11_102 : FL RX11 102 2 1 := ⟨RX2, TX2, 10, rfl, hinX2, by decide, Or.inr ⟨"CarriedWorks", (ne_t1 90 rfl rfl)⟩⟩
set_option maxRecDepth 20000 in
theorem fp_X11_102 : FP RX11 102 2 1 .int := ⟨RX2, TX2, 10, tyX2, rfl, hinX2, by decide, Or.inr ⟨"CarriedWorks", (ne_t1 90 rfl rfl)⟩, tyX2_ok, nmX2, rfl, rfl⟩
set_option maxRecDepth 20000 in
theorem fl_X10_75 : FL RX10 75 2 1 := ⟨RX2, TX2, 10, rfl, hinX2, by decide, Or.inr ⟨"CarriedWorks", (ne_t1 91 rfl rfl)⟩⟩
set_option maxRecDepth 20000 in
theorem fp_X10_75 : FP RX10 75 2 1 .int := ⟨RX2, TX2, 10, tyX2, rfl, hinX2, by decide, Or.inr ⟨"CarriedWorks", (ne_t1 91 rfl rfl)⟩, tyX2_ok, nmX2, rfl, rfl⟩
set_option maxRecDepth 20000 in
theorem fl_X5_112 : FL RX5 112 2 1 := ⟨RX2, TX2, 10, rfl, hinX2, by decide, Or.inr ⟨"CarriedWorks", (ne_t1 92 rfl rfl)⟩⟩
set_option maxRecDepth 20000 in
theorem fp_X5_112 : FP RX5 112 2 1 .int := ⟨RX2, TX2, 10, tyX2, rfl, hinX2, by decide, Or.inr ⟨"CarriedWorks", (ne_t1 92 rfl rfl)⟩, tyX2_ok, nmX2, rfl, rfl⟩
set_option maxRecDepth 20000 in
theorem fl_X2_11 : FL RX2 11 2 2 := ⟨RX2, TX2, 10, rfl, hinX2, by decide, Or.inl (gd_t1 93 rfl rfl)⟩
set_option maxRecDepth 20000 in
theorem fl_X9_63 : FL RX9 63 2 2 := ⟨RX2, TX2, 10, rfl, hinX2, by decide, Or.inr ⟨"CarriedWorks", (ne_t1 94 rfl rfl)⟩⟩
set_option maxRecDepth 20000 in
theorem fl_X5_109 : FL RX5 109 2 2 := ⟨RX2, TX2, 10, rfl, hinX2, by decide, Or.inr ⟨"CarriedWorks", (ne_t1 95 rfl rfl)⟩⟩
set_option maxRecDepth 20000 in
theorem fl_X11_373 : FL RX11 373 2 2 := ⟨RX2, TX2, 10, rfl, hinX2, by decide, Or.inr ⟨"CarriedWorks", (ne_t1 96 rfl rfl)⟩⟩
set_option maxRecDepth 20000 in
theorem fl_X2_17 : FL RX2 17 2 3 := ⟨RX2, TX2, 10, rfl, hinX2, by decide, Or.inl (gd_t1 97 rfl rfl)⟩
set_option maxRecDepth 20000 in
theorem fl_X0_70 : FL RX0 70 2 3 := ⟨RX2, TX2, 10, rfl, hinX2, by decide, Or.inr ⟨"CarriedWorks", (ne_t1 98 rfl rfl)⟩⟩
set_option maxRecDepth 20000 in
theorem fl_X9_137 : FL RX9 137 2 3 := ⟨RX2, TX2, 10, rfl, hinX2, by decide, Or.inr ⟨"CarriedWorks", (ne_t1 99 rfl rfl)⟩⟩
set_option maxRecDepth 20000 in
theorem fl_X5_121 : FL RX5 121 2 3 := ⟨RX2, TX2, 10, rfl, hinX2, by decide, Or.inr ⟨"CarriedWorks", (ne_t1 100 rfl rfl)⟩⟩
set_option maxRecDepth 20000 in
theorem fl_X2_20 : FL RX2 20 2 4 := ⟨RX2, TX2, 10, rfl, hinX2, by decide, Or.inl (gd_t1 101 rfl rfl)⟩
set_option maxRecDepth 20000 in
theorem fl_X0_69 : FL RX0 69 2 4 := ⟨RX2, TX2, 10, rfl, hinX2, by decide, Or.inr ⟨"CarriedWorks", (ne_t1 102 rfl rfl)⟩⟩
set_option maxRecDepth 20000 in
theorem fl_X9_152 : FL RX9 152 2 4 := ⟨RX2, TX2, 10, rfl, hinX2, by decide, Or.inr ⟨"CarriedWorks", (ne_t1 103 rfl rfl)⟩⟩
set_option maxRecDepth 20000 in
theorem fl_X5_133 : FL RX5 133 2 4 := ⟨RX2, TX2, 10, rfl, hinX2, by decide, Or.inr ⟨"CarriedWorks", (ne_t1 104 rfl rfl)⟩⟩
set_option maxRecDepth 20000 in
theorem fl_X2_23 : FL RX2 23 2 5 := ⟨RX2, TX2, 10, rfl, hinX2, by decide, Or.inl (gd_t1 105 rfl rfl)⟩
set_option maxRecDepth 20000 in
theorem fl_X0_89 : FL RX0 89 2 5 := ⟨RX2, TX2, 10, rfl, hinX2, by decide, Or.inr ⟨"CarriedWorks", (ne_t1 106 rfl rfl)⟩⟩
set_option maxRecDepth 20000 in
theorem fl_X5_166 : FL RX5 166 2 5 := ⟨RX2, TX2, 10, rfl, hinX2, by decide, Or.inr ⟨"CarriedWorks", (ne_t1 107 rfl rfl)⟩⟩
set_option maxRecDepth 20000 in
theorem fl_X2_26 : FL RX2 26 2 6 := ⟨RX2, TX2, 10, rfl, hinX2, by decide, Or.inl (gd_t1 108 rfl rfl)⟩
set_option maxRecDepth 20000 in
theorem fl_X0_92 : FL RX0 92 2 6 := ⟨RX2, TX2, 10, rfl, hinX2, by decide, Or.inr ⟨"CarriedWorks", (ne_t1 109 rfl rfl)⟩⟩
set_option maxRecDepth 20000 in
theorem fl_X5_169 : FL RX5 169 2 6 := ⟨RX2, TX2, 10, rfl, hinX2, by decide, Or.inr ⟨"CarriedWorks", (ne_t1 110 rfl rfl)⟩⟩
set_option maxRecDepth 20000 in
theorem fl_X2_29 : FL RX2 29 2 7 := ⟨RX2, TX2, 10, rfl, hinX2, by decide, Or.inl (gd_t1 111 rfl rfl)⟩
set_option maxRecDepth 20000 in
theorem fl_X0_103 : FL RX0 103 2 7 := ⟨RX2, TX2, 10, rfl, hinX2, by decide, Or.inr ⟨"CarriedWorks", (ne_t1 112 rfl rfl)⟩⟩
set_option maxRecDepth 20000 in
theorem fl_X5_172 : FL RX5 172 2 7 := ⟨RX2, TX2, 10, rfl, hinX2, by decide, Or.inr ⟨"CarriedWorks", (ne_t1 113 rfl rfl)⟩⟩
set_option maxRecDepth 20000 in
theorem fl_X2_32 : FL RX2 32 2 8 := ⟨RX2, TX2, 10, rfl, hinX2, by decide, Or.inl (gd_t1 114 rfl rfl)⟩
set_option maxRecDepth 20000 in
theorem fl_X0_76 : FL RX0 76 2 8 := ⟨RX2, TX2, 10, rfl, hinX2, by decide, Or.inr ⟨"CarriedWorks", (ne_t1 115 rfl rfl)⟩⟩
set_option maxRecDepth 20000 in
theorem fl_X9_143 : FL RX9 143 2 8 := ⟨RX2, TX2, 10, rfl, hinX2, by decide, Or.inr ⟨"CarriedWorks", (ne_t1 116 rfl rfl)⟩⟩
set_option maxRecDepth 20000 in
theorem fl_X5_140 : FL RX5 140 2 8 := ⟨RX2, TX2, 10, rfl, hinX2, by decide, Or.inr ⟨"CarriedWorks", (ne_t1 117 rfl rfl)⟩⟩
set_option maxRecDepth 20000 in
theorem fl_X2_38 : FL RX2 38 2 9 := ⟨RX2, TX2, 10, rfl, hinX2, by decide, Or.inl (gd_t1 118 rfl rfl)⟩
set_option maxRecDepth 20000 in
theorem fl_X0_72 : FL RX0 72 2 9 := ⟨RX2, TX2, 10, rfl, hinX2, by decide, Or.inr ⟨"CarriedWorks", (ne_t1 119 rfl rfl)⟩⟩
set_option maxRecDepth 20000 in
theorem fl_X9_139 : FL RX9 139 2 9 := ⟨RX2, TX2, 10, rfl, hinX2, by decide, Or.inr ⟨"CarriedWorks", (ne_t1 120 rfl rfl)⟩⟩
set_option maxRecDepth 20000 in
theorem fl_X5_143 : FL RX5 143 2 9 := ⟨RX2, TX2, 10, rfl, hinX2, by decide, Or.inr ⟨"CarriedWorks", (ne_t1 121 rfl rfl)⟩⟩
set_option maxRecDepth 20000 in
theorem fl_X1_51 : FL RX1 51 1 0 := ⟨RX1, TX1, 10, rfl, hinX1, by decide, Or.inl (gd_t1 151 rfl rfl)⟩
set_option maxRecDepth 20000 in
theorem fp_X1_51 : FP RX1 51 1 0 .boolean := ⟨RX1, TX1, 10, tyX1, rfl, hinX1, by decide, Or.inl (gd_t1 151 rfl rfl), tyX1_ok, nmX1, rfl, rfl⟩
set_option maxRecDepth 20000 in
theorem fl_X4_68 : FL RX4 68 1 0 := ⟨RX1, TX1, 10, rfl, hinX1, by decide, Or.inr ⟨"CarriedWorks", (ne_t1 152 rfl rfl)⟩⟩
set_option maxRecDepth 20000 in
theorem fp_X4_68 : FP RX4 68 1 0 .boolean := ⟨RX1, TX1, 10, tyX1, rfl, hinX1, by decide, Or.inr ⟨"CarriedWorks", (ne_t1 152 rfl rfl)⟩, tyX1_ok, nmX1, rfl, rfl⟩
set_option maxRecDepth 20000 in
theorem fl_X11_167 : FL RX11 167 1 0 := ⟨RX1, TX1, 10, rfl, hinX1, by decide, Or.inr ⟨"CarriedWorks", (ne_t1 153 rfl rfl)⟩⟩
set_option maxRecDepth 20000 in
theorem fp_X11_167 : FP RX11 167 1 0 .boolean := ⟨RX1, TX1, 10, tyX1, rfl, hinX1, by decide, Or.inr ⟨"CarriedWorks", (ne_t1 153 rfl rfl)⟩, tyX1_ok, nmX1, rfl, rfl⟩
set_option maxRecDepth 20000 in
theorem fl_X1_36 : FL RX1 36 1 1 := ⟨RX1, TX1, 10, rfl, hinX1, by decide, Or.inl (gd_t1 154 rfl rfl)⟩
set_option maxRecDepth 20000 in
theorem fp_X1_36 : FP RX1 36 1 1 .boolean := ⟨RX1, TX1, 10, tyX1, rfl, hinX1, by decide, Or.inl (gd_t1 154 rfl rfl), tyX1_ok, nmX1, rfl, rfl⟩
set_option maxRecDepth 20000 in
theorem fl_X0_114 : FL RX0 114 1 1 := ⟨RX1, TX1, 10, rfl, hinX1, by decide, Or.inr ⟨"CarriedWorks", (ne_t1 155 rfl rfl)⟩⟩
set_option maxRecDepth 20000 in
theorem fp_X0_114 : FP RX0 114 1 1 .boolean := ⟨RX1, TX1, 10, tyX1, rfl, hinX1, by decide, Or.inr ⟨"CarriedWorks", (ne_t1 155 rfl rfl)⟩, tyX1_ok, nmX1, rfl, rfl⟩
set_option maxRecDepth 20000 in
theorem fl_X1_48 : FL RX1 48 1 2 := ⟨RX1, TX1, 10, rfl, hinX1, by decide, Or.inl (gd_t1 156 rfl rfl)⟩
set_option maxRecDepth 20000 in
theorem fp_X1_48 : FP RX1 48 1 2 .int := ⟨RX1, TX1, 10, tyX1, rfl, hinX1, by decide, Or.inl (gd_t1 156 rfl rfl), tyX1_ok, nmX1, rfl, rfl⟩
set_option maxRecDepth 20000 in
theorem fl_X1_40 : FL RX1 40 1 3 := ⟨RX1, TX1, 10, rfl, hinX1, by decide, Or.inl (gd_t1 157 rfl rfl)⟩
set_option maxRecDepth 20000 in
theorem fp_X1_40 : FP RX1 40 1 3 .int := ⟨RX1, TX1, 10, tyX1, rfl, hinX1, by decide, Or.inl (gd_t1 157 rfl rfl), tyX1_ok, nmX1, rfl, rfl⟩
set_option maxRecDepth 20000 in
theorem fl_X4_61 : FL RX4 61 1 3 := ⟨RX1, TX1, 10, rfl, hinX1, by decide, Or.inr ⟨"CarriedWorks", (ne_t1 158 rfl rfl)⟩⟩
set_option maxRecDepth 20000 in
theorem fp_X4_61 : FP RX4 61 1 3 .int := ⟨RX1, TX1, 10, tyX1, rfl, hinX1, by decide, Or.inr ⟨"CarriedWorks", (ne_t1 158 rfl rfl)⟩, tyX1_ok, nmX1, rfl, rfl⟩
set_option maxRecDepth 20000 in
theorem fl_X11_121 : FL RX11 121 1 3 := ⟨RX1, TX1, 10, rfl, hinX1, by decide, Or.inr ⟨"CarriedWorks", (ne_t1 159 rfl rfl)⟩⟩
set_option maxRecDepth 20000 in
theorem fp_X11_121 : FP RX11 121 1 3 .int := ⟨RX1, TX1, 10, tyX1, rfl, hinX1, by decide, Or.inr ⟨"CarriedWorks", (ne_t1 159 rfl rfl)⟩, tyX1_ok, nmX1, rfl, rfl⟩
set_option maxRecDepth 20000 in
theorem fl_X10_84 : FL RX10 84 1 3 := ⟨RX1, TX1, 10, rfl, hinX1, by decide, Or.inr ⟨"CarriedWorks", (ne_t1 160 rfl rfl)⟩⟩
set_option maxRecDepth 20000 in
theorem fp_X10_84 : FP RX10 84 1 3 .int := ⟨RX1, TX1, 10, tyX1, rfl, hinX1, by decide, Or.inr ⟨"CarriedWorks", (ne_t1 160 rfl rfl)⟩, tyX1_ok, nmX1, rfl, rfl⟩
set_option maxRecDepth 20000 in
theorem fl_X5_202 : FL RX5 202 1 3 := ⟨RX1, TX1, 10, rfl, hinX1, by decide, Or.inr ⟨"CarriedWorks", (ne_t1 161 rfl rfl)⟩⟩
set_option maxRecDepth 20000 in
theorem fp_X5_202 : FP RX5 202 1 3 .int := ⟨RX1, TX1, 10, tyX1, rfl, hinX1, by decide, Or.inr ⟨"CarriedWorks", (ne_t1 161 rfl rfl)⟩, tyX1_ok, nmX1, rfl, rfl⟩
set_option maxRecDepth 20000 in
theorem fl_X1_13 : FL RX1 13 1 4 := ⟨RX1, TX1, 10, rfl, hinX1, by decide, Or.inl (gd_t1 162 rfl rfl)⟩
set_option maxRecDepth 20000 in
theorem fl_X1_17 : FL RX1 17 1 5 := ⟨RX1, TX1, 10, rfl, hinX1, by decide, Or.inl (gd_t1 163 rfl rfl)⟩
set_option maxRecDepth 20000 in
theorem fl_X1_20 : FL RX1 20 1 6 := ⟨RX1, TX1, 10, rfl, hinX1, by decide, Or.inl (gd_t1 164 rfl rfl)⟩
set_option maxRecDepth 20000 in
theorem fl_X0_145 : FL RX0 145 1 6 := ⟨RX1, TX1, 10, rfl, hinX1, by decide, Or.inr ⟨"CarriedWorks", (ne_t1 165 rfl rfl)⟩⟩
set_option maxRecDepth 20000 in
theorem fl_X1_23 : FL RX1 23 1 7 := ⟨RX1, TX1, 10, rfl, hinX1, by decide, Or.inl (gd_t1 166 rfl rfl)⟩
set_option maxRecDepth 20000 in
theorem fl_X0_142 : FL RX0 142 1 7 := ⟨RX1, TX1, 10, rfl, hinX1, by decide, Or.inr ⟨"CarriedWorks", (ne_t1 167 rfl rfl)⟩⟩
set_option maxRecDepth 20000 in
theorem fl_X1_26 : FL RX1 26 1 8 := ⟨RX1, TX1, 10, rfl, hinX1, by decide, Or.inl (gd_t1 168 rfl rfl)⟩
set_option maxRecDepth 20000 in
theorem fl_X1_32 : FL RX1 32 1 9 := ⟨RX1, TX1, 10, rfl, hinX1, by decide, Or.inl (gd_t1 169 rfl rfl)⟩
set_option maxRecDepth 20000 in
theorem fl_X9_162 : FL RX9 162 1 9 := ⟨RX1, TX1, 10, rfl, hinX1, by decide, Or.inr ⟨"CarriedWorks", (ne_t1 170 rfl rfl)⟩⟩
set_option maxRecDepth 20000 in
theorem fl_X0_148 : FL RX0 148 1 9 := ⟨RX1, TX1, 10, rfl, hinX1, by decide, Or.inr ⟨"CarriedWorks", (ne_t1 171 rfl rfl)⟩⟩
set_option maxRecDepth 20000 in
theorem fl_X11_204 : FL RX11 204 1 9 := ⟨RX1, TX1, 10, rfl, hinX1, by decide, Or.inr ⟨"CarriedWorks", (ne_t1 172 rfl rfl)⟩⟩
set_option maxRecDepth 20000 in
theorem fl_X5_195 : FL RX5 195 1 9 := ⟨RX1, TX1, 10, rfl, hinX1, by decide, Or.inr ⟨"CarriedWorks", (ne_t1 173 rfl rfl)⟩⟩
set_option maxRecDepth 20000 in
theorem fl_X4_9 : FL RX4 9 4 0 := ⟨RX4, TX4, 9, rfl, hinX4, by decide, Or.inl (gd_t1 195 rfl rfl)⟩
set_option maxRecDepth 20000 in
theorem fp_X4_9 : FP RX4 9 4 0 .int := ⟨RX4, TX4, 9, tyX4, rfl, hinX4, by decide, Or.inl (gd_t1 195 rfl rfl), tyX4_ok, nmX4, rfl, rfl⟩
set_option maxRecDepth 20000 in
theorem fl_X10_64 : FL RX10 64 4 0 := ⟨RX4, TX4, 9, rfl, hinX4, by decide, Or.inr ⟨"CarriedWorks", (ne_t1 196 rfl rfl)⟩⟩
set_option maxRecDepth 20000 in
theorem fp_X10_64 : FP RX10 64 4 0 .int := ⟨RX4, TX4, 9, tyX4, rfl, hinX4, by decide, Or.inr ⟨"CarriedWorks", (ne_t1 196 rfl rfl)⟩, tyX4_ok, nmX4, rfl, rfl⟩
set_option maxRecDepth 20000 in
theorem fl_X11_88 : FL RX11 88 4 0 := ⟨RX4, TX4, 9, rfl, hinX4, by decide, Or.inr ⟨"CarriedWorks", (ne_t1 197 rfl rfl)⟩⟩
set_option maxRecDepth 20000 in
theorem fp_X11_88 : FP RX11 88 4 0 .int := ⟨RX4, TX4, 9, tyX4, rfl, hinX4, by decide, Or.inr ⟨"CarriedWorks", (ne_t1 197 rfl rfl)⟩, tyX4_ok, nmX4, rfl, rfl⟩
set_option maxRecDepth 20000 in
theorem fl_X4_15 : FL RX4 15 4 1 := ⟨RX4, TX4, 9, rfl, hinX4, by decide, Or.inl (gd_t1 198 rfl rfl)⟩
set_option maxRecDepth 20000 in
theorem fp_X4_15 : FP RX4 15 4 1 .int := ⟨RX4, TX4, 9, tyX4, rfl, hinX4, by decide, Or.inl (gd_t1 198 rfl rfl), tyX4_ok, nmX4, rfl, rfl⟩
set_option maxRecDepth 20000 in
theorem fl_X11_140 : FL RX11 140 4 1 := ⟨RX4, TX4, 9, rfl, hinX4, by decide, Or.inr ⟨"CarriedWorks", (ne_t1 199 rfl rfl)⟩⟩
set_option maxRecDepth 20000 in
theorem fp_X11_140 : FP RX11 140 4 1 .int := ⟨RX4, TX4, 9, tyX4, rfl, hinX4, by decide, Or.inr ⟨"CarriedWorks", (ne_t1 199 rfl rfl)⟩, tyX4_ok, nmX4, rfl, rfl⟩
set_option maxRecDepth 20000 in
theorem fl_X4_21 : FL RX4 21 4 2 := ⟨RX4, TX4, 9, rfl, hinX4, by decide, Or.inl (gd_t1 200 rfl rfl)⟩
set_option maxRecDepth 20000 in
theorem fp_X4_21 : FP RX4 21 4 2 (.object "CarriedWorks$OldText") := ⟨RX4, TX4, 9, tyX4, rfl, hinX4, by decide, Or.inl (gd_t1 200 rfl rfl), tyX4_ok, nmX4, rfl, rfl⟩
set_option maxRecDepth 20000 in
theorem fl_X0_33 : FL RX0 33 4 2 := ⟨RX4, TX4, 9, rfl, hinX4, by decide, Or.inr ⟨"CarriedWorks", (ne_t1 201 rfl rfl)⟩⟩
set_option maxRecDepth 20000 in
theorem fp_X0_33 : FP RX0 33 4 2 (.object "CarriedWorks$OldText") := ⟨RX4, TX4, 9, tyX4, rfl, hinX4, by decide, Or.inr ⟨"CarriedWorks", (ne_t1 201 rfl rfl)⟩, tyX4_ok, nmX4, rfl, rfl⟩
set_option maxRecDepth 20000 in
theorem fl_X9_53 : FL RX9 53 4 2 := ⟨RX4, TX4, 9, rfl, hinX4, by decide, Or.inr ⟨"CarriedWorks", (ne_t1 202 rfl rfl)⟩⟩
set_option maxRecDepth 20000 in
theorem fp_X9_53 : FP RX9 53 4 2 (.object "CarriedWorks$OldText") := ⟨RX4, TX4, 9, tyX4, rfl, hinX4, by decide, Or.inr ⟨"CarriedWorks", (ne_t1 202 rfl rfl)⟩, tyX4_ok, nmX4, rfl, rfl⟩
set_option maxRecDepth 20000 in
theorem fl_X11_97 : FL RX11 97 4 2 := ⟨RX4, TX4, 9, rfl, hinX4, by decide, Or.inr ⟨"CarriedWorks", (ne_t1 203 rfl rfl)⟩⟩
set_option maxRecDepth 20000 in
theorem fp_X11_97 : FP RX11 97 4 2 (.object "CarriedWorks$OldText") := ⟨RX4, TX4, 9, tyX4, rfl, hinX4, by decide, Or.inr ⟨"CarriedWorks", (ne_t1 203 rfl rfl)⟩, tyX4_ok, nmX4, rfl, rfl⟩
set_option maxRecDepth 20000 in
theorem fl_X10_71 : FL RX10 71 4 2 := ⟨RX4, TX4, 9, rfl, hinX4, by decide, Or.inr ⟨"CarriedWorks", (ne_t1 204 rfl rfl)⟩⟩
set_option maxRecDepth 20000 in
theorem fp_X10_71 : FP RX10 71 4 2 (.object "CarriedWorks$OldText") := ⟨RX4, TX4, 9, tyX4, rfl, hinX4, by decide, Or.inr ⟨"CarriedWorks", (ne_t1 204 rfl rfl)⟩, tyX4_ok, nmX4, rfl, rfl⟩
set_option maxRecDepth 20000 in
theorem fl_X4_28 : FL RX4 28 4 3 := ⟨RX4, TX4, 9, rfl, hinX4, by decide, Or.inl (gd_t1 205 rfl rfl)⟩
set_option maxRecDepth 20000 in
theorem fp_X4_28 : FP RX4 28 4 3 (.object "CarriedWorks$NewText") := ⟨RX4, TX4, 9, tyX4, rfl, hinX4, by decide, Or.inl (gd_t1 205 rfl rfl), tyX4_ok, nmX4, rfl, rfl⟩
set_option maxRecDepth 20000 in
theorem fl_X11_117 : FL RX11 117 4 3 := ⟨RX4, TX4, 9, rfl, hinX4, by decide, Or.inr ⟨"CarriedWorks", (ne_t1 206 rfl rfl)⟩⟩
set_option maxRecDepth 20000 in
theorem fp_X11_117 : FP RX11 117 4 3 (.object "CarriedWorks$NewText") := ⟨RX4, TX4, 9, tyX4, rfl, hinX4, by decide, Or.inr ⟨"CarriedWorks", (ne_t1 206 rfl rfl)⟩, tyX4_ok, nmX4, rfl, rfl⟩
set_option maxRecDepth 20000 in
theorem fl_X0_110 : FL RX0 110 4 3 := ⟨RX4, TX4, 9, rfl, hinX4, by decide, Or.inr ⟨"CarriedWorks", (ne_t1 207 rfl rfl)⟩⟩
set_option maxRecDepth 20000 in
theorem fp_X0_110 : FP RX0 110 4 3 (.object "CarriedWorks$NewText") := ⟨RX4, TX4, 9, tyX4, rfl, hinX4, by decide, Or.inr ⟨"CarriedWorks", (ne_t1 207 rfl rfl)⟩, tyX4_ok, nmX4, rfl, rfl⟩
set_option maxRecDepth 20000 in
theorem fl_X10_80 : FL RX10 80 4 3 := ⟨RX4, TX4, 9, rfl, hinX4, by decide, Or.inr ⟨"CarriedWorks", (ne_t1 208 rfl rfl)⟩⟩
set_option maxRecDepth 20000 in
theorem fp_X10_80 : FP RX10 80 4 3 (.object "CarriedWorks$NewText") := ⟨RX4, TX4, 9, tyX4, rfl, hinX4, by decide, Or.inr ⟨"CarriedWorks", (ne_t1 208 rfl rfl)⟩, tyX4_ok, nmX4, rfl, rfl⟩
set_option maxRecDepth 20000 in
theorem fl_X4_32 : FL RX4 32 4 4 := ⟨RX4, TX4, 9, rfl, hinX4, by decide, Or.inl (gd_t1 209 rfl rfl)⟩
set_option maxRecDepth 20000 in
theorem fp_X4_32 : FP RX4 32 4 4 .int := ⟨RX4, TX4, 9, tyX4, rfl, hinX4, by decide, Or.inl (gd_t1 209 rfl rfl), tyX4_ok, nmX4, rfl, rfl⟩
set_option maxRecDepth 20000 in
theorem fl_X9_70 : FL RX9 70 4 4 := ⟨RX4, TX4, 9, rfl, hinX4, by decide, Or.inr ⟨"CarriedWorks", (ne_t1 210 rfl rfl)⟩⟩
set_option maxRecDepth 20000 in
theorem fp_X9_70 : FP RX9 70 4 4 .int := ⟨RX4, TX4, 9, tyX4, rfl, hinX4, by decide, Or.inr ⟨"CarriedWorks", (ne_t1 210 rfl rfl)⟩, tyX4_ok, nmX4, rfl, rfl⟩
set_option maxRecDepth 20000 in
theorem fl_X11_143 : FL RX11 143 4 4 := ⟨RX4, TX4, 9, rfl, hinX4, by decide, Or.inr ⟨"CarriedWorks", (ne_t1 211 rfl rfl)⟩⟩
set_option maxRecDepth 20000 in
theorem fp_X11_143 : FP RX11 143 4 4 .int := ⟨RX4, TX4, 9, tyX4, rfl, hinX4, by decide, Or.inr ⟨"CarriedWorks", (ne_t1 211 rfl rfl)⟩, tyX4_ok, nmX4, rfl, rfl⟩
set_option maxRecDepth 20000 in
theorem fl_X9_47 : FL RX9 47 4 5 := ⟨RX4, TX4, 9, rfl, hinX4, by decide, Or.inr ⟨"CarriedWorks", (ne_t1 212 rfl rfl)⟩⟩
set_option maxRecDepth 20000 in
theorem fp_X9_47 : FP RX9 47 4 5 .int := ⟨RX4, TX4, 9, tyX4, rfl, hinX4, by decide, Or.inr ⟨"CarriedWorks", (ne_t1 212 rfl rfl)⟩, tyX4_ok, nmX4, rfl, rfl⟩
set_option maxRecDepth 20000 in
theorem fl_X4_52 : FL RX4 52 4 5 := ⟨RX4, TX4, 9, rfl, hinX4, by decide, Or.inl (gd_t1 213 rfl rfl)⟩
set_option maxRecDepth 20000 in
theorem fp_X4_52 : FP RX4 52 4 5 .int := ⟨RX4, TX4, 9, tyX4, rfl, hinX4, by decide, Or.inl (gd_t1 213 rfl rfl), tyX4_ok, nmX4, rfl, rfl⟩
set_option maxRecDepth 20000 in
theorem fl_X4_35 : FL RX4 35 4 6 := ⟨RX4, TX4, 9, rfl, hinX4, by decide, Or.inl (gd_t1 214 rfl rfl)⟩
set_option maxRecDepth 20000 in
theorem fl_X9_134 : FL RX9 134 4 6 := ⟨RX4, TX4, 9, rfl, hinX4, by decide, Or.inr ⟨"CarriedWorks", (ne_t1 215 rfl rfl)⟩⟩
set_option maxRecDepth 20000 in
theorem fl_X4_39 : FL RX4 39 4 7 := ⟨RX4, TX4, 9, rfl, hinX4, by decide, Or.inl (gd_t1 216 rfl rfl)⟩
set_option maxRecDepth 20000 in
theorem fl_X4_42 : FL RX4 42 4 8 := ⟨RX4, TX4, 9, rfl, hinX4, by decide, Or.inl (gd_t1 217 rfl rfl)⟩
set_option maxRecDepth 20000 in
theorem fl_X10_11 : FL RX10 11 10 0 := ⟨RX10, TX10, 8, rfl, hinX10, by decide, Or.inl (gd_t2 0 rfl rfl)⟩
set_option maxRecDepth 20000 in
theorem fl_X11_360 : FL RX11 360 10 0 := ⟨RX10, TX10, 8, rfl, hinX10, by decide, Or.inr ⟨"CarriedWorks", (ne_t2 1 rfl rfl)⟩⟩
set_option maxRecDepth 20000 in
theorem fl_X10_17 : FL RX10 17 10 1 := ⟨RX10, TX10, 8, rfl, hinX10, by decide, Or.inl (gd_t2 2 rfl rfl)⟩
set_option maxRecDepth 20000 in
theorem fl_X11_260 : FL RX11 260 10 1 := ⟨RX10, TX10, 8, rfl, hinX10, by decide, Or.inr ⟨"CarriedWorks", (ne_t2 3 rfl rfl)⟩⟩
set_option maxRecDepth 20000 in
theorem fl_X10_21 : FL RX10 21 10 2 := ⟨RX10, TX10, 8, rfl, hinX10, by decide, Or.inl (gd_t2 4 rfl rfl)⟩
set_option maxRecDepth 20000 in
theorem fl_X3_38 : FL RX3 38 10 2 := ⟨RX10, TX10, 8, rfl, hinX10, by decide, Or.inr ⟨"CarriedWorks", (ne_t2 5 rfl rfl)⟩⟩
set_option maxRecDepth 20000 in
theorem fl_X11_267 : FL RX11 267 10 2 := ⟨RX10, TX10, 8, rfl, hinX10, by decide, Or.inr ⟨"CarriedWorks", (ne_t2 6 rfl rfl)⟩⟩
set_option maxRecDepth 20000 in
theorem fl_X10_24 : FL RX10 24 10 3 := ⟨RX10, TX10, 8, rfl, hinX10, by decide, Or.inl (gd_t2 7 rfl rfl)⟩
set_option maxRecDepth 20000 in
theorem fl_X11_254 : FL RX11 254 10 3 := ⟨RX10, TX10, 8, rfl, hinX10, by decide, Or.inr ⟨"CarriedWorks", (ne_t2 8 rfl rfl)⟩⟩
set_option maxRecDepth 20000 in
theorem fl_X10_51 : FL RX10 51 10 4 := ⟨RX10, TX10, 8, rfl, hinX10, by decide, Or.inl (gd_t2 9 rfl rfl)⟩
set_option maxRecDepth 20000 in
theorem fp_X10_51 : FP RX10 51 10 4 .int := ⟨RX10, TX10, 8, tyX10, rfl, hinX10, by decide, Or.inl (gd_t2 9 rfl rfl), tyX10_ok, nmX10, rfl, rfl⟩
set_option maxRecDepth 20000 in
theorem fl_X11_248 : FL RX11 248 10 4 := ⟨RX10, TX10, 8, rfl, hinX10, by decide, Or.inr ⟨"CarriedWorks", (ne_t2 10 rfl rfl)⟩⟩
set_option maxRecDepth 20000 in
theorem fp_X11_248 : FP RX11 248 10 4 .int := ⟨RX10, TX10, 8, tyX10, rfl, hinX10, by decide, Or.inr ⟨"CarriedWorks", (ne_t2 10 rfl rfl)⟩, tyX10_ok, nmX10, rfl, rfl⟩
set_option maxRecDepth 20000 in
theorem fl_X10_55 : FL RX10 55 10 5 := ⟨RX10, TX10, 8, rfl, hinX10, by decide, Or.inl (gd_t2 11 rfl rfl)⟩
set_option maxRecDepth 20000 in
theorem fp_X10_55 : FP RX10 55 10 5 .int := ⟨RX10, TX10, 8, tyX10, rfl, hinX10, by decide, Or.inl (gd_t2 11 rfl rfl), tyX10_ok, nmX10, rfl, rfl⟩
set_option maxRecDepth 20000 in
theorem fl_X11_245 : FL RX11 245 10 5 := ⟨RX10, TX10, 8, rfl, hinX10, by decide, Or.inr ⟨"CarriedWorks", (ne_t2 12 rfl rfl)⟩⟩
set_option maxRecDepth 20000 in
theorem fp_X11_245 : FP RX11 245 10 5 .int := ⟨RX10, TX10, 8, tyX10, rfl, hinX10, by decide, Or.inr ⟨"CarriedWorks", (ne_t2 12 rfl rfl)⟩, tyX10_ok, nmX10, rfl, rfl⟩
set_option maxRecDepth 20000 in
theorem fl_X10_58 : FL RX10 58 10 6 := ⟨RX10, TX10, 8, rfl, hinX10, by decide, Or.inl (gd_t2 13 rfl rfl)⟩
set_option maxRecDepth 20000 in
theorem fp_X10_58 : FP RX10 58 10 6 .int := ⟨RX10, TX10, 8, tyX10, rfl, hinX10, by decide, Or.inl (gd_t2 13 rfl rfl), tyX10_ok, nmX10, rfl, rfl⟩
set_option maxRecDepth 20000 in
theorem fl_X11_214 : FL RX11 214 10 6 := ⟨RX10, TX10, 8, rfl, hinX10, by decide, Or.inr ⟨"CarriedWorks", (ne_t2 14 rfl rfl)⟩⟩
set_option maxRecDepth 20000 in
theorem fp_X11_214 : FP RX11 214 10 6 .int := ⟨RX10, TX10, 8, tyX10, rfl, hinX10, by decide, Or.inr ⟨"CarriedWorks", (ne_t2 14 rfl rfl)⟩, tyX10_ok, nmX10, rfl, rfl⟩
set_option maxRecDepth 20000 in
theorem fl_X10_30 : FL RX10 30 10 7 := ⟨RX10, TX10, 8, rfl, hinX10, by decide, Or.inl (gd_t2 15 rfl rfl)⟩
set_option maxRecDepth 20000 in
theorem fl_X11_301 : FL RX11 301 10 7 := ⟨RX10, TX10, 8, rfl, hinX10, by decide, Or.inr ⟨"CarriedWorks", (ne_t2 16 rfl rfl)⟩⟩
set_option maxRecDepth 20000 in
theorem fl_X5_11 : FL RX5 11 5 0 := ⟨RX5, TX5, 12, rfl, hinX5, by decide, Or.inl (gd_t2 45 rfl rfl)⟩
set_option maxRecDepth 20000 in
theorem fl_X5_46 : FL RX5 46 5 1 := ⟨RX5, TX5, 12, rfl, hinX5, by decide, Or.inl (gd_t2 46 rfl rfl)⟩
set_option maxRecDepth 20000 in
theorem fp_X5_46 : FP RX5 46 5 1 .int := ⟨RX5, TX5, 12, tyX5, rfl, hinX5, by decide, Or.inl (gd_t2 46 rfl rfl), tyX5_ok, nmX5, rfl, rfl⟩
set_option maxRecDepth 20000 in
theorem fl_X11_81 : FL RX11 81 5 1 := ⟨RX5, TX5, 12, rfl, hinX5, by decide, Or.inr ⟨"CarriedWorks", (ne_t2 47 rfl rfl)⟩⟩
set_option maxRecDepth 20000 in
theorem fp_X11_81 : FP RX11 81 5 1 .int := ⟨RX5, TX5, 12, tyX5, rfl, hinX5, by decide, Or.inr ⟨"CarriedWorks", (ne_t2 47 rfl rfl)⟩, tyX5_ok, nmX5, rfl, rfl⟩
set_option maxRecDepth 20000 in
theorem fl_X5_15 : FL RX5 15 5 2 := ⟨RX5, TX5, 12, rfl, hinX5, by decide, Or.inl (gd_t2 48 rfl rfl)⟩
set_option maxRecDepth 20000 in
theorem fl_X5_19 : FL RX5 19 5 3 := ⟨RX5, TX5, 12, rfl, hinX5, by decide, Or.inl (gd_t2 49 rfl rfl)⟩
set_option maxRecDepth 20000 in
theorem fl_X5_22 : FL RX5 22 5 4 := ⟨RX5, TX5, 12, rfl, hinX5, by decide, Or.inl (gd_t2 50 rfl rfl)⟩
set_option maxRecDepth 20000 in
theorem fl_X5_82 : FL RX5 82 5 5 := ⟨RX5, TX5, 12, rfl, hinX5, by decide, Or.inl (gd_t2 51 rfl rfl)⟩
set_option maxRecDepth 20000 in
theorem fp_X5_82 : FP RX5 82 5 5 .int := ⟨RX5, TX5, 12, tyX5, rfl, hinX5, by decide, Or.inl (gd_t2 51 rfl rfl), tyX5_ok, nmX5, rfl, rfl⟩
set_option maxRecDepth 20000 in
theorem fl_X5_55 : FL RX5 55 5 6 := ⟨RX5, TX5, 12, rfl, hinX5, by decide, Or.inl (gd_t2 52 rfl rfl)⟩
set_option maxRecDepth 20000 in
theorem fp_X5_55 : FP RX5 55 5 6 .int := ⟨RX5, TX5, 12, tyX5, rfl, hinX5, by decide, Or.inl (gd_t2 52 rfl rfl), tyX5_ok, nmX5, rfl, rfl⟩
set_option maxRecDepth 20000 in
theorem fl_X11_124 : FL RX11 124 5 7 := ⟨RX5, TX5, 12, rfl, hinX5, by decide, Or.inr ⟨"CarriedWorks", (ne_t2 53 rfl rfl)⟩⟩
set_option maxRecDepth 20000 in
theorem fp_X11_124 : FP RX11 124 5 7 .int := ⟨RX5, TX5, 12, tyX5, rfl, hinX5, by decide, Or.inr ⟨"CarriedWorks", (ne_t2 53 rfl rfl)⟩, tyX5_ok, nmX5, rfl, rfl⟩
set_option maxRecDepth 20000 in
theorem fl_X5_79 : FL RX5 79 5 7 := ⟨RX5, TX5, 12, rfl, hinX5, by decide, Or.inl (gd_t2 54 rfl rfl)⟩
set_option maxRecDepth 20000 in
theorem fp_X5_79 : FP RX5 79 5 7 .int := ⟨RX5, TX5, 12, tyX5, rfl, hinX5, by decide, Or.inl (gd_t2 54 rfl rfl), tyX5_ok, nmX5, rfl, rfl⟩
set_option maxRecDepth 20000 in
theorem fl_X5_25 : FL RX5 25 5 8 := ⟨RX5, TX5, 12, rfl, hinX5, by decide, Or.inl (gd_t2 55 rfl rfl)⟩
set_option maxRecDepth 20000 in
theorem fp_X5_25 : FP RX5 25 5 8 .int := ⟨RX5, TX5, 12, tyX5, rfl, hinX5, by decide, Or.inl (gd_t2 55 rfl rfl), tyX5_ok, nmX5, rfl, rfl⟩
set_option maxRecDepth 20000 in
theorem fl_X11_127 : FL RX11 127 5 8 := ⟨RX5, TX5, 12, rfl, hinX5, by decide, Or.inr ⟨"CarriedWorks", (ne_t2 56 rfl rfl)⟩⟩
set_option maxRecDepth 20000 in
theorem fp_X11_127 : FP RX11 127 5 8 .int := ⟨RX5, TX5, 12, tyX5, rfl, hinX5, by decide, Or.inr ⟨"CarriedWorks", (ne_t2 56 rfl rfl)⟩, tyX5_ok, nmX5, rfl, rfl⟩
set_option maxRecDepth 20000 in
theorem fl_X5_29 : FL RX5 29 5 9 := ⟨RX5, TX5, 12, rfl, hinX5, by decide, Or.inl (gd_t2 57 rfl rfl)⟩
set_option maxRecDepth 20000 in
theorem fl_X5_35 : FL RX5 35 5 10 := ⟨RX5, TX5, 12, rfl, hinX5, by decide, Or.inl (gd_t2 58 rfl rfl)⟩
set_option maxRecDepth 20000 in
theorem fp_X5_35 : FP RX5 35 5 10 (.object "CarriedWorks$OldText") := ⟨RX5, TX5, 12, tyX5, rfl, hinX5, by decide, Or.inl (gd_t2 58 rfl rfl), tyX5_ok, nmX5, rfl, rfl⟩
set_option maxRecDepth 20000 in
theorem fl_X11_101 : FL RX11 101 5 10 := ⟨RX5, TX5, 12, rfl, hinX5, by decide, Or.inr ⟨"CarriedWorks", (ne_t2 59 rfl rfl)⟩⟩
set_option maxRecDepth 20000 in
theorem fp_X11_101 : FP RX11 101 5 10 (.object "CarriedWorks$OldText") := ⟨RX5, TX5, 12, tyX5, rfl, hinX5, by decide, Or.inr ⟨"CarriedWorks", (ne_t2 59 rfl rfl)⟩, tyX5_ok, nmX5, rfl, rfl⟩
set_option maxRecDepth 20000 in
theorem fl_X5_42 : FL RX5 42 5 11 := ⟨RX5, TX5, 12, rfl, hinX5, by decide, Or.inl (gd_t2 60 rfl rfl)⟩
set_option maxRecDepth 20000 in
theorem fp_X5_42 : FP RX5 42 5 11 (.object "CarriedWorks$NewText") := ⟨RX5, TX5, 12, tyX5, rfl, hinX5, by decide, Or.inl (gd_t2 60 rfl rfl), tyX5_ok, nmX5, rfl, rfl⟩
set_option maxRecDepth 20000 in
theorem fl_X11_193 : FL RX11 193 5 11 := ⟨RX5, TX5, 12, rfl, hinX5, by decide, Or.inr ⟨"CarriedWorks", (ne_t2 61 rfl rfl)⟩⟩
set_option maxRecDepth 20000 in
theorem fp_X11_193 : FP RX11 193 5 11 (.object "CarriedWorks$NewText") := ⟨RX5, TX5, 12, tyX5, rfl, hinX5, by decide, Or.inr ⟨"CarriedWorks", (ne_t2 61 rfl rfl)⟩, tyX5_ok, nmX5, rfl, rfl⟩
set_option maxRecDepth 20000 in
theorem fl_X0_9 : FL RX0 9 0 0 := ⟨RX0, TX0, 9, rfl, hinX0, by decide, Or.inl (gd_t2 95 rfl rfl)⟩
set_option maxRecDepth 20000 in
theorem fl_X11_364 : FL RX11 364 0 0 := ⟨RX0, TX0, 9, rfl, hinX0, by decide, Or.inr ⟨"CarriedWorks", (ne_t2 96 rfl rfl)⟩⟩
set_option maxRecDepth 20000 in
theorem fl_X0_15 : FL RX0 15 0 1 := ⟨RX0, TX0, 9, rfl, hinX0, by decide, Or.inl (gd_t2 97 rfl rfl)⟩
set_option maxRecDepth 20000 in
theorem fl_X0_18 : FL RX0 18 0 2 := ⟨RX0, TX0, 9, rfl, hinX0, by decide, Or.inl (gd_t2 98 rfl rfl)⟩
set_option maxRecDepth 20000 in
theorem fl_X9_99 : FL RX9 99 0 2 := ⟨RX0, TX0, 9, rfl, hinX0, by decide, Or.inr ⟨"CarriedWorks", (ne_t2 99 rfl rfl)⟩⟩
set_option maxRecDepth 20000 in
theorem fl_X11_376 : FL RX11 376 0 2 := ⟨RX0, TX0, 9, rfl, hinX0, by decide, Or.inr ⟨"CarriedWorks", (ne_t2 100 rfl rfl)⟩⟩
set_option maxRecDepth 20000 in
theorem fl_X0_24 : FL RX0 24 0 3 := ⟨RX0, TX0, 9, rfl, hinX0, by decide, Or.inl (gd_t2 101 rfl rfl)⟩
set_option maxRecDepth 20000 in
theorem fl_X9_115 : FL RX9 115 0 3 := ⟨RX0, TX0, 9, rfl, hinX0, by decide, Or.inr ⟨"CarriedWorks", (ne_t2 102 rfl rfl)⟩⟩
set_option maxRecDepth 20000 in
theorem fl_X0_45 : FL RX0 45 0 4 := ⟨RX0, TX0, 9, rfl, hinX0, by decide, Or.inl (gd_t2 103 rfl rfl)⟩
set_option maxRecDepth 20000 in
theorem fp_X0_45 : FP RX0 45 0 4 .int := ⟨RX0, TX0, 9, tyX0, rfl, hinX0, by decide, Or.inl (gd_t2 103 rfl rfl), tyX0_ok, nmX0, rfl, rfl⟩
set_option maxRecDepth 20000 in
theorem fl_X9_118 : FL RX9 118 0 4 := ⟨RX0, TX0, 9, rfl, hinX0, by decide, Or.inr ⟨"CarriedWorks", (ne_t2 104 rfl rfl)⟩⟩
set_option maxRecDepth 20000 in
theorem fp_X9_118 : FP RX9 118 0 4 .int := ⟨RX0, TX0, 9, tyX0, rfl, hinX0, by decide, Or.inr ⟨"CarriedWorks", (ne_t2 104 rfl rfl)⟩, tyX0_ok, nmX0, rfl, rfl⟩
set_option maxRecDepth 20000 in
theorem fl_X0_41 : FL RX0 41 0 5 := ⟨RX0, TX0, 9, rfl, hinX0, by decide, Or.inl (gd_t2 105 rfl rfl)⟩
set_option maxRecDepth 20000 in
theorem fp_X0_41 : FP RX0 41 0 5 .int := ⟨RX0, TX0, 9, tyX0, rfl, hinX0, by decide, Or.inl (gd_t2 105 rfl rfl), tyX0_ok, nmX0, rfl, rfl⟩
set_option maxRecDepth 20000 in
theorem fl_X9_96 : FL RX9 96 0 5 := ⟨RX0, TX0, 9, rfl, hinX0, by decide, Or.inr ⟨"CarriedWorks", (ne_t2 106 rfl rfl)⟩⟩
set_option maxRecDepth 20000 in
theorem fp_X9_96 : FP RX9 96 0 5 .int := ⟨RX0, TX0, 9, tyX0, rfl, hinX0, by decide, Or.inr ⟨"CarriedWorks", (ne_t2 106 rfl rfl)⟩, tyX0_ok, nmX0, rfl, rfl⟩
set_option maxRecDepth 20000 in
theorem fl_X11_157 : FL RX11 157 0 5 := ⟨RX0, TX0, 9, rfl, hinX0, by decide, Or.inr ⟨"CarriedWorks", (ne_t2 107 rfl rfl)⟩⟩
set_option maxRecDepth 20000 in
theorem fp_X11_157 : FP RX11 157 0 5 .int := ⟨RX0, TX0, 9, tyX0, rfl, hinX0, by decide, Or.inr ⟨"CarriedWorks", (ne_t2 107 rfl rfl)⟩, tyX0_ok, nmX0, rfl, rfl⟩
set_option maxRecDepth 20000 in
theorem fl_X0_57 : FL RX0 57 0 6 := ⟨RX0, TX0, 9, rfl, hinX0, by decide, Or.inl (gd_t2 108 rfl rfl)⟩
set_option maxRecDepth 20000 in
theorem fp_X0_57 : FP RX0 57 0 6 .int := ⟨RX0, TX0, 9, tyX0, rfl, hinX0, by decide, Or.inl (gd_t2 108 rfl rfl), tyX0_ok, nmX0, rfl, rfl⟩
set_option maxRecDepth 20000 in
theorem fl_X9_93 : FL RX9 93 0 6 := ⟨RX0, TX0, 9, rfl, hinX0, by decide, Or.inr ⟨"CarriedWorks", (ne_t2 109 rfl rfl)⟩⟩
set_option maxRecDepth 20000 in
theorem fp_X9_93 : FP RX9 93 0 6 .int := ⟨RX0, TX0, 9, tyX0, rfl, hinX0, by decide, Or.inr ⟨"CarriedWorks", (ne_t2 109 rfl rfl)⟩, tyX0_ok, nmX0, rfl, rfl⟩
set_option maxRecDepth 20000 in
theorem fl_X11_164 : FL RX11 164 0 6 := ⟨RX0, TX0, 9, rfl, hinX0, by decide, Or.inr ⟨"CarriedWorks", (ne_t2 110 rfl rfl)⟩⟩
set_option maxRecDepth 20000 in
theorem fp_X11_164 : FP RX11 164 0 6 .int := ⟨RX0, TX0, 9, tyX0, rfl, hinX0, by decide, Or.inr ⟨"CarriedWorks", (ne_t2 110 rfl rfl)⟩, tyX0_ok, nmX0, rfl, rfl⟩
set_option maxRecDepth 20000 in
theorem fl_X0_126 : FL RX0 126 0 7 := ⟨RX0, TX0, 9, rfl, hinX0, by decide, Or.inl (gd_t2 111 rfl rfl)⟩
set_option maxRecDepth 20000 in
theorem fp_X0_126 : FP RX0 126 0 7 .int := ⟨RX0, TX0, 9, tyX0, rfl, hinX0, by decide, Or.inl (gd_t2 111 rfl rfl), tyX0_ok, nmX0, rfl, rfl⟩
set_option maxRecDepth 20000 in
theorem fl_X11_171 : FL RX11 171 0 7 := ⟨RX0, TX0, 9, rfl, hinX0, by decide, Or.inr ⟨"CarriedWorks", (ne_t2 112 rfl rfl)⟩⟩
set_option maxRecDepth 20000 in
theorem fp_X11_171 : FP RX11 171 0 7 .int := ⟨RX0, TX0, 9, tyX0, rfl, hinX0, by decide, Or.inr ⟨"CarriedWorks", (ne_t2 112 rfl rfl)⟩, tyX0_ok, nmX0, rfl, rfl⟩
set_option maxRecDepth 20000 in
theorem fl_X9_86 : FL RX9 86 0 8 := ⟨RX0, TX0, 9, rfl, hinX0, by decide, Or.inr ⟨"CarriedWorks", (ne_t2 113 rfl rfl)⟩⟩
set_option maxRecDepth 20000 in
theorem fp_X9_86 : FP RX9 86 0 8 .int := ⟨RX0, TX0, 9, tyX0, rfl, hinX0, by decide, Or.inr ⟨"CarriedWorks", (ne_t2 113 rfl rfl)⟩, tyX0_ok, nmX0, rfl, rfl⟩
set_option maxRecDepth 20000 in
theorem fl_X0_54 : FL RX0 54 0 8 := ⟨RX0, TX0, 9, rfl, hinX0, by decide, Or.inl (gd_t2 114 rfl rfl)⟩
set_option maxRecDepth 20000 in
theorem fp_X0_54 : FP RX0 54 0 8 .int := ⟨RX0, TX0, 9, tyX0, rfl, hinX0, by decide, Or.inl (gd_t2 114 rfl rfl), tyX0_ok, nmX0, rfl, rfl⟩
set_option maxRecDepth 20000 in
theorem fl_X3_9 : FL RX3 9 3 0 := ⟨RX3, TX3, 3, rfl, hinX3, by decide, Or.inl (gd_t2 140 rfl rfl)⟩
set_option maxRecDepth 20000 in
theorem fl_X3_15 : FL RX3 15 3 1 := ⟨RX3, TX3, 3, rfl, hinX3, by decide, Or.inl (gd_t2 141 rfl rfl)⟩
set_option maxRecDepth 20000 in
theorem fl_X11_298 : FL RX11 298 3 1 := ⟨RX3, TX3, 3, rfl, hinX3, by decide, Or.inr ⟨"CarriedWorks", (ne_t2 142 rfl rfl)⟩⟩
set_option maxRecDepth 20000 in
theorem fl_X3_33 : FL RX3 33 3 2 := ⟨RX3, TX3, 3, rfl, hinX3, by decide, Or.inl (gd_t2 143 rfl rfl)⟩
set_option maxRecDepth 20000 in
theorem fp_X3_33 : FP RX3 33 3 2 .int := ⟨RX3, TX3, 3, tyX3, rfl, hinX3, by decide, Or.inl (gd_t2 143 rfl rfl), tyX3_ok, nmX3, rfl, rfl⟩
set_option maxRecDepth 20000 in
theorem fl_X11_297 : FL RX11 297 3 2 := ⟨RX3, TX3, 3, rfl, hinX3, by decide, Or.inr ⟨"CarriedWorks", (ne_t2 144 rfl rfl)⟩⟩
set_option maxRecDepth 20000 in
theorem fp_X11_297 : FP RX11 297 3 2 .int := ⟨RX3, TX3, 3, tyX3, rfl, hinX3, by decide, Or.inr ⟨"CarriedWorks", (ne_t2 144 rfl rfl)⟩, tyX3_ok, nmX3, rfl, rfl⟩
set_option maxRecDepth 20000 in
theorem fl_X7_11 : FL RX7 11 7 0 := ⟨RX7, TX7, 3, rfl, hinX7, by decide, Or.inl (gd_t2 159 rfl rfl)⟩
set_option maxRecDepth 20000 in
theorem fl_X7_15 : FL RX7 15 7 1 := ⟨RX7, TX7, 3, rfl, hinX7, by decide, Or.inl (gd_t2 160 rfl rfl)⟩
set_option maxRecDepth 20000 in
theorem fl_X11_234 : FL RX11 234 7 1 := ⟨RX7, TX7, 3, rfl, hinX7, by decide, Or.inr ⟨"CarriedWorks", (ne_t2 161 rfl rfl)⟩⟩
set_option maxRecDepth 20000 in
theorem fl_X7_19 : FL RX7 19 7 2 := ⟨RX7, TX7, 3, rfl, hinX7, by decide, Or.inl (gd_t2 162 rfl rfl)⟩
set_option maxRecDepth 20000 in
theorem fl_X11_353 : FL RX11 353 7 2 := ⟨RX7, TX7, 3, rfl, hinX7, by decide, Or.inr ⟨"CarriedWorks", (ne_t2 163 rfl rfl)⟩⟩
set_option maxRecDepth 20000 in
theorem fl_X9_43 : FL RX9 43 9 0 := ⟨RX9, TX9, 13, rfl, hinX9, by decide, Or.inl (gd_t2 178 rfl rfl)⟩
set_option maxRecDepth 20000 in
theorem fp_X9_43 : FP RX9 43 9 0 .int := ⟨RX9, TX9, 13, tyX9, rfl, hinX9, by decide, Or.inl (gd_t2 178 rfl rfl), tyX9_ok, nmX9, rfl, rfl⟩
set_option maxRecDepth 20000 in
theorem fl_X11_178 : FL RX11 178 9 0 := ⟨RX9, TX9, 13, rfl, hinX9, by decide, Or.inr ⟨"CarriedWorks", (ne_t2 179 rfl rfl)⟩⟩
set_option maxRecDepth 20000 in
theorem fp_X11_178 : FP RX11 178 9 0 .int := ⟨RX9, TX9, 13, tyX9, rfl, hinX9, by decide, Or.inr ⟨"CarriedWorks", (ne_t2 179 rfl rfl)⟩, tyX9_ok, nmX9, rfl, rfl⟩
set_option maxRecDepth 20000 in
theorem fl_X9_52 : FL RX9 52 9 1 := ⟨RX9, TX9, 13, rfl, hinX9, by decide, Or.inl (gd_t2 180 rfl rfl)⟩
set_option maxRecDepth 20000 in
theorem fp_X9_52 : FP RX9 52 9 1 .int := ⟨RX9, TX9, 13, tyX9, rfl, hinX9, by decide, Or.inl (gd_t2 180 rfl rfl), tyX9_ok, nmX9, rfl, rfl⟩
set_option maxRecDepth 20000 in
theorem fl_X9_60 : FL RX9 60 9 2 := ⟨RX9, TX9, 13, rfl, hinX9, by decide, Or.inl (gd_t2 181 rfl rfl)⟩
set_option maxRecDepth 20000 in
theorem fp_X9_60 : FP RX9 60 9 2 .int := ⟨RX9, TX9, 13, tyX9, rfl, hinX9, by decide, Or.inl (gd_t2 181 rfl rfl), tyX9_ok, nmX9, rfl, rfl⟩
set_option maxRecDepth 20000 in
theorem fl_X11_186 : FL RX11 186 9 2 := ⟨RX9, TX9, 13, rfl, hinX9, by decide, Or.inr ⟨"CarriedWorks", (ne_t2 182 rfl rfl)⟩⟩
set_option maxRecDepth 20000 in
theorem fp_X11_186 : FP RX11 186 9 2 .int := ⟨RX9, TX9, 13, tyX9, rfl, hinX9, by decide, Or.inr ⟨"CarriedWorks", (ne_t2 182 rfl rfl)⟩, tyX9_ok, nmX9, rfl, rfl⟩
set_option maxRecDepth 20000 in
theorem fl_X9_11 : FL RX9 11 9 3 := ⟨RX9, TX9, 13, rfl, hinX9, by decide, Or.inl (gd_t2 183 rfl rfl)⟩
set_option maxRecDepth 20000 in
theorem fl_X9_15 : FL RX9 15 9 4 := ⟨RX9, TX9, 13, rfl, hinX9, by decide, Or.inl (gd_t2 184 rfl rfl)⟩
set_option maxRecDepth 20000 in
theorem fl_X9_18 : FL RX9 18 9 5 := ⟨RX9, TX9, 13, rfl, hinX9, by decide, Or.inl (gd_t2 185 rfl rfl)⟩
set_option maxRecDepth 20000 in
theorem fl_X9_21 : FL RX9 21 9 6 := ⟨RX9, TX9, 13, rfl, hinX9, by decide, Or.inl (gd_t2 186 rfl rfl)⟩
set_option maxRecDepth 20000 in
theorem fl_X9_24 : FL RX9 24 9 7 := ⟨RX9, TX9, 13, rfl, hinX9, by decide, Or.inl (gd_t2 187 rfl rfl)⟩
set_option maxRecDepth 20000 in
theorem fl_X9_27 : FL RX9 27 9 8 := ⟨RX9, TX9, 13, rfl, hinX9, by decide, Or.inl (gd_t2 188 rfl rfl)⟩
set_option maxRecDepth 20000 in
theorem fl_X9_31 : FL RX9 31 9 9 := ⟨RX9, TX9, 13, rfl, hinX9, by decide, Or.inl (gd_t2 189 rfl rfl)⟩
set_option maxRecDepth 20000 in
theorem fl_X9_34 : FL RX9 34 9 10 := ⟨RX9, TX9, 13, rfl, hinX9, by decide, Or.inl (gd_t2 190 rfl rfl)⟩
set_option maxRecDepth 20000 in
theorem fl_X9_37 : FL RX9 37 9 11 := ⟨RX9, TX9, 13, rfl, hinX9, by decide, Or.inl (gd_t2 191 rfl rfl)⟩
set_option maxRecDepth 20000 in
theorem fl_X9_40 : FL RX9 40 9 12 := ⟨RX9, TX9, 13, rfl, hinX9, by decide, Or.inl (gd_t2 192 rfl rfl)⟩
set_option maxRecDepth 20000 in
theorem fl_X11_10 : FL RX11 10 11 0 := ⟨RX11, TX11, 12, rfl, hinX11, by decide, Or.inl (gd_t2 220 rfl rfl)⟩
set_option maxRecDepth 20000 in
theorem fl_X11_16 : FL RX11 16 11 1 := ⟨RX11, TX11, 12, rfl, hinX11, by decide, Or.inl (gd_t2 221 rfl rfl)⟩
set_option maxRecDepth 20000 in
theorem fl_X11_20 : FL RX11 20 11 2 := ⟨RX11, TX11, 12, rfl, hinX11, by decide, Or.inl (gd_t2 222 rfl rfl)⟩
set_option maxRecDepth 20000 in
theorem fl_X11_27 : FL RX11 27 11 3 := ⟨RX11, TX11, 12, rfl, hinX11, by decide, Or.inl (gd_t2 223 rfl rfl)⟩
set_option maxRecDepth 20000 in
theorem fl_X11_34 : FL RX11 34 11 4 := ⟨RX11, TX11, 12, rfl, hinX11, by decide, Or.inl (gd_t2 224 rfl rfl)⟩
set_option maxRecDepth 20000 in
theorem fl_X11_38 : FL RX11 38 11 5 := ⟨RX11, TX11, 12, rfl, hinX11, by decide, Or.inl (gd_t2 225 rfl rfl)⟩
set_option maxRecDepth 20000 in
theorem fl_X11_44 : FL RX11 44 11 6 := ⟨RX11, TX11, 12, rfl, hinX11, by decide, Or.inl (gd_t2 226 rfl rfl)⟩
set_option maxRecDepth 20000 in
theorem fl_X11_51 : FL RX11 51 11 7 := ⟨RX11, TX11, 12, rfl, hinX11, by decide, Or.inl (gd_t2 227 rfl rfl)⟩
set_option maxRecDepth 20000 in
theorem fl_X11_55 : FL RX11 55 11 8 := ⟨RX11, TX11, 12, rfl, hinX11, by decide, Or.inl (gd_t2 228 rfl rfl)⟩
set_option maxRecDepth 20000 in
theorem fl_X11_59 : FL RX11 59 11 9 := ⟨RX11, TX11, 12, rfl, hinX11, by decide, Or.inl (gd_t2 229 rfl rfl)⟩
set_option maxRecDepth 20000 in
theorem fp_X11_59 : FP RX11 59 11 9 .int := ⟨RX11, TX11, 12, tyX11, rfl, hinX11, by decide, Or.inl (gd_t2 229 rfl rfl), tyX11_ok, nmX11, rfl, rfl⟩
set_option maxRecDepth 20000 in
theorem fl_X11_66 : FL RX11 66 11 10 := ⟨RX11, TX11, 12, rfl, hinX11, by decide, Or.inl (gd_t2 230 rfl rfl)⟩
set_option maxRecDepth 20000 in
theorem fp_X11_66 : FP RX11 66 11 10 (.object "CarriedWorks$WayTable") := ⟨RX11, TX11, 12, tyX11, rfl, hinX11, by decide, Or.inl (gd_t2 230 rfl rfl), tyX11_ok, nmX11, rfl, rfl⟩
set_option maxRecDepth 20000 in
theorem fl_X11_70 : FL RX11 70 11 11 := ⟨RX11, TX11, 12, rfl, hinX11, by decide, Or.inl (gd_t2 231 rfl rfl)⟩
set_option maxRecDepth 20000 in
theorem fp_X11_70 : FP RX11 70 11 11 (.object "CarriedWorks$WayTable") := ⟨RX11, TX11, 12, tyX11, rfl, hinX11, by decide, Or.inl (gd_t2 231 rfl rfl), tyX11_ok, nmX11, rfl, rfl⟩
set_option maxRecDepth 20000 in
theorem fl_X12_20 : FL RX12 20 12 1 := ⟨RX12, TX12, 54, rfl, hinX12, by decide, Or.inl (gd_t6 49 rfl rfl)⟩
set_option maxRecDepth 20000 in
theorem fl_X12_25 : FL RX12 25 12 2 := ⟨RX12, TX12, 54, rfl, hinX12, by decide, Or.inl (gd_t6 50 rfl rfl)⟩
set_option maxRecDepth 20000 in
theorem fl_X12_28 : FL RX12 28 12 3 := ⟨RX12, TX12, 54, rfl, hinX12, by decide, Or.inl (gd_t6 51 rfl rfl)⟩
set_option maxRecDepth 20000 in
theorem fl_X12_32 : FL RX12 32 12 4 := ⟨RX12, TX12, 54, rfl, hinX12, by decide, Or.inl (gd_t6 52 rfl rfl)⟩
set_option maxRecDepth 20000 in
theorem fl_X12_147 : FL RX12 147 12 5 := ⟨RX12, TX12, 54, rfl, hinX12, by decide, Or.inl (gd_t6 53 rfl rfl)⟩
set_option maxRecDepth 20000 in
theorem fp_X12_147 : FP RX12 147 12 5 .int := ⟨RX12, TX12, 54, tyX12, rfl, hinX12, by decide, Or.inl (gd_t6 53 rfl rfl), tyX12_ok, nmX12, rfl, rfl⟩
set_option maxRecDepth 20000 in
theorem fl_X12_36 : FL RX12 36 12 6 := ⟨RX12, TX12, 54, rfl, hinX12, by decide, Or.inl (gd_t6 54 rfl rfl)⟩
set_option maxRecDepth 20000 in
theorem fl_X12_150 : FL RX12 150 12 7 := ⟨RX12, TX12, 54, rfl, hinX12, by decide, Or.inl (gd_t6 55 rfl rfl)⟩
set_option maxRecDepth 20000 in
theorem fp_X12_150 : FP RX12 150 12 7 .int := ⟨RX12, TX12, 54, tyX12, rfl, hinX12, by decide, Or.inl (gd_t6 55 rfl rfl), tyX12_ok, nmX12, rfl, rfl⟩
set_option maxRecDepth 20000 in
theorem fl_X12_153 : FL RX12 153 12 8 := ⟨RX12, TX12, 54, rfl, hinX12, by decide, Or.inl (gd_t6 56 rfl rfl)⟩
set_option maxRecDepth 20000 in
theorem fp_X12_153 : FP RX12 153 12 8 .int := ⟨RX12, TX12, 54, tyX12, rfl, hinX12, by decide, Or.inl (gd_t6 56 rfl rfl), tyX12_ok, nmX12, rfl, rfl⟩
set_option maxRecDepth 20000 in
theorem fl_X12_159 : FL RX12 159 12 9 := ⟨RX12, TX12, 54, rfl, hinX12, by decide, Or.inl (gd_t6 57 rfl rfl)⟩
set_option maxRecDepth 20000 in
theorem fp_X12_159 : FP RX12 159 12 9 .int := ⟨RX12, TX12, 54, tyX12, rfl, hinX12, by decide, Or.inl (gd_t6 57 rfl rfl), tyX12_ok, nmX12, rfl, rfl⟩
set_option maxRecDepth 20000 in
theorem fl_X12_162 : FL RX12 162 12 10 := ⟨RX12, TX12, 54, rfl, hinX12, by decide, Or.inl (gd_t6 58 rfl rfl)⟩
set_option maxRecDepth 20000 in
theorem fp_X12_162 : FP RX12 162 12 10 .int := ⟨RX12, TX12, 54, tyX12, rfl, hinX12, by decide, Or.inl (gd_t6 58 rfl rfl), tyX12_ok, nmX12, rfl, rfl⟩
set_option maxRecDepth 20000 in
theorem fl_X12_173 : FL RX12 173 12 11 := ⟨RX12, TX12, 54, rfl, hinX12, by decide, Or.inl (gd_t6 59 rfl rfl)⟩
set_option maxRecDepth 20000 in
theorem fp_X12_173 : FP RX12 173 12 11 .int := ⟨RX12, TX12, 54, tyX12, rfl, hinX12, by decide, Or.inl (gd_t6 59 rfl rfl), tyX12_ok, nmX12, rfl, rfl⟩
set_option maxRecDepth 20000 in
theorem fl_X12_187 : FL RX12 187 12 12 := ⟨RX12, TX12, 54, rfl, hinX12, by decide, Or.inl (gd_t6 60 rfl rfl)⟩
set_option maxRecDepth 20000 in
theorem fp_X12_187 : FP RX12 187 12 12 .int := ⟨RX12, TX12, 54, tyX12, rfl, hinX12, by decide, Or.inl (gd_t6 60 rfl rfl), tyX12_ok, nmX12, rfl, rfl⟩
set_option maxRecDepth 20000 in
theorem fl_X12_39 : FL RX12 39 12 13 := ⟨RX12, TX12, 54, rfl, hinX12, by decide, Or.inl (gd_t6 61 rfl rfl)⟩
set_option maxRecDepth 20000 in
theorem fp_X12_39 : FP RX12 39 12 13 .int := ⟨RX12, TX12, 54, tyX12, rfl, hinX12, by decide, Or.inl (gd_t6 61 rfl rfl), tyX12_ok, nmX12, rfl, rfl⟩
set_option maxRecDepth 20000 in
theorem fl_X12_42 : FL RX12 42 12 14 := ⟨RX12, TX12, 54, rfl, hinX12, by decide, Or.inl (gd_t6 62 rfl rfl)⟩
set_option maxRecDepth 20000 in
theorem fl_X12_45 : FL RX12 45 12 15 := ⟨RX12, TX12, 54, rfl, hinX12, by decide, Or.inl (gd_t6 63 rfl rfl)⟩
set_option maxRecDepth 20000 in
theorem fl_X12_48 : FL RX12 48 12 16 := ⟨RX12, TX12, 54, rfl, hinX12, by decide, Or.inl (gd_t6 64 rfl rfl)⟩
set_option maxRecDepth 20000 in
theorem fl_X12_51 : FL RX12 51 12 17 := ⟨RX12, TX12, 54, rfl, hinX12, by decide, Or.inl (gd_t6 65 rfl rfl)⟩
set_option maxRecDepth 20000 in
theorem fl_X12_54 : FL RX12 54 12 18 := ⟨RX12, TX12, 54, rfl, hinX12, by decide, Or.inl (gd_t6 66 rfl rfl)⟩
set_option maxRecDepth 20000 in
theorem fl_X12_295 : FL RX12 295 12 19 := ⟨RX12, TX12, 54, rfl, hinX12, by decide, Or.inl (gd_t6 67 rfl rfl)⟩
set_option maxRecDepth 20000 in
theorem fp_X12_295 : FP RX12 295 12 19 .boolean := ⟨RX12, TX12, 54, tyX12, rfl, hinX12, by decide, Or.inl (gd_t6 67 rfl rfl), tyX12_ok, nmX12, rfl, rfl⟩
set_option maxRecDepth 20000 in
theorem fl_X12_57 : FL RX12 57 12 20 := ⟨RX12, TX12, 54, rfl, hinX12, by decide, Or.inl (gd_t6 68 rfl rfl)⟩
set_option maxRecDepth 20000 in
theorem fl_X12_60 : FL RX12 60 12 21 := ⟨RX12, TX12, 54, rfl, hinX12, by decide, Or.inl (gd_t6 69 rfl rfl)⟩
set_option maxRecDepth 20000 in
theorem fl_X12_63 : FL RX12 63 12 22 := ⟨RX12, TX12, 54, rfl, hinX12, by decide, Or.inl (gd_t6 70 rfl rfl)⟩
set_option maxRecDepth 20000 in
theorem fl_X12_342 : FL RX12 342 12 23 := ⟨RX12, TX12, 54, rfl, hinX12, by decide, Or.inl (gd_t6 71 rfl rfl)⟩
set_option maxRecDepth 20000 in
theorem fp_X12_342 : FP RX12 342 12 23 .int := ⟨RX12, TX12, 54, tyX12, rfl, hinX12, by decide, Or.inl (gd_t6 71 rfl rfl), tyX12_ok, nmX12, rfl, rfl⟩
set_option maxRecDepth 20000 in
theorem fl_X12_66 : FL RX12 66 12 24 := ⟨RX12, TX12, 54, rfl, hinX12, by decide, Or.inl (gd_t6 72 rfl rfl)⟩
set_option maxRecDepth 20000 in
theorem fl_X12_360 : FL RX12 360 12 25 := ⟨RX12, TX12, 54, rfl, hinX12, by decide, Or.inl (gd_t6 73 rfl rfl)⟩
set_option maxRecDepth 20000 in
theorem fp_X12_360 : FP RX12 360 12 25 .int := ⟨RX12, TX12, 54, tyX12, rfl, hinX12, by decide, Or.inl (gd_t6 73 rfl rfl), tyX12_ok, nmX12, rfl, rfl⟩
set_option maxRecDepth 20000 in
theorem fl_X12_69 : FL RX12 69 12 26 := ⟨RX12, TX12, 54, rfl, hinX12, by decide, Or.inl (gd_t6 74 rfl rfl)⟩
set_option maxRecDepth 20000 in
theorem fl_X12_72 : FL RX12 72 12 27 := ⟨RX12, TX12, 54, rfl, hinX12, by decide, Or.inl (gd_t6 75 rfl rfl)⟩
set_option maxRecDepth 20000 in
theorem fp_X12_72 : FP RX12 72 12 27 .int := ⟨RX12, TX12, 54, tyX12, rfl, hinX12, by decide, Or.inl (gd_t6 75 rfl rfl), tyX12_ok, nmX12, rfl, rfl⟩
set_option maxRecDepth 20000 in
theorem fl_X12_75 : FL RX12 75 12 28 := ⟨RX12, TX12, 54, rfl, hinX12, by decide, Or.inl (gd_t6 76 rfl rfl)⟩
set_option maxRecDepth 20000 in
theorem fl_X12_78 : FL RX12 78 12 29 := ⟨RX12, TX12, 54, rfl, hinX12, by decide, Or.inl (gd_t6 77 rfl rfl)⟩
set_option maxRecDepth 20000 in
theorem fl_X12_81 : FL RX12 81 12 30 := ⟨RX12, TX12, 54, rfl, hinX12, by decide, Or.inl (gd_t6 78 rfl rfl)⟩
set_option maxRecDepth 20000 in
theorem fl_X12_84 : FL RX12 84 12 31 := ⟨RX12, TX12, 54, rfl, hinX12, by decide, Or.inl (gd_t6 79 rfl rfl)⟩
set_option maxRecDepth 20000 in
theorem fl_X12_87 : FL RX12 87 12 32 := ⟨RX12, TX12, 54, rfl, hinX12, by decide, Or.inl (gd_t6 80 rfl rfl)⟩
set_option maxRecDepth 20000 in
theorem fl_X12_384 : FL RX12 384 12 33 := ⟨RX12, TX12, 54, rfl, hinX12, by decide, Or.inl (gd_t6 81 rfl rfl)⟩
set_option maxRecDepth 20000 in
theorem fp_X12_384 : FP RX12 384 12 33 .int := ⟨RX12, TX12, 54, tyX12, rfl, hinX12, by decide, Or.inl (gd_t6 81 rfl rfl), tyX12_ok, nmX12, rfl, rfl⟩
set_option maxRecDepth 20000 in
theorem fl_X12_90 : FL RX12 90 12 34 := ⟨RX12, TX12, 54, rfl, hinX12, by decide, Or.inl (gd_t6 82 rfl rfl)⟩
set_option maxRecDepth 20000 in
theorem fl_X12_93 : FL RX12 93 12 35 := ⟨RX12, TX12, 54, rfl, hinX12, by decide, Or.inl (gd_t6 83 rfl rfl)⟩
set_option maxRecDepth 20000 in
theorem fl_X12_96 : FL RX12 96 12 36 := ⟨RX12, TX12, 54, rfl, hinX12, by decide, Or.inl (gd_t6 84 rfl rfl)⟩
set_option maxRecDepth 20000 in
theorem fl_X12_99 : FL RX12 99 12 37 := ⟨RX12, TX12, 54, rfl, hinX12, by decide, Or.inl (gd_t6 85 rfl rfl)⟩
set_option maxRecDepth 20000 in
theorem fl_X12_102 : FL RX12 102 12 38 := ⟨RX12, TX12, 54, rfl, hinX12, by decide, Or.inl (gd_t6 86 rfl rfl)⟩
set_option maxRecDepth 20000 in
theorem fl_X12_105 : FL RX12 105 12 39 := ⟨RX12, TX12, 54, rfl, hinX12, by decide, Or.inl (gd_t6 87 rfl rfl)⟩
set_option maxRecDepth 20000 in
theorem fl_X12_108 : FL RX12 108 12 40 := ⟨RX12, TX12, 54, rfl, hinX12, by decide, Or.inl (gd_t6 88 rfl rfl)⟩
set_option maxRecDepth 20000 in
theorem fl_X12_399 : FL RX12 399 12 41 := ⟨RX12, TX12, 54, rfl, hinX12, by decide, Or.inl (gd_t6 89 rfl rfl)⟩
set_option maxRecDepth 20000 in
theorem fp_X12_399 : FP RX12 399 12 41 .int := ⟨RX12, TX12, 54, tyX12, rfl, hinX12, by decide, Or.inl (gd_t6 89 rfl rfl), tyX12_ok, nmX12, rfl, rfl⟩
set_option maxRecDepth 20000 in
theorem fl_X12_402 : FL RX12 402 12 42 := ⟨RX12, TX12, 54, rfl, hinX12, by decide, Or.inl (gd_t6 90 rfl rfl)⟩
set_option maxRecDepth 20000 in
theorem fp_X12_402 : FP RX12 402 12 42 .int := ⟨RX12, TX12, 54, tyX12, rfl, hinX12, by decide, Or.inl (gd_t6 90 rfl rfl), tyX12_ok, nmX12, rfl, rfl⟩
set_option maxRecDepth 20000 in
theorem fl_X12_405 : FL RX12 405 12 43 := ⟨RX12, TX12, 54, rfl, hinX12, by decide, Or.inl (gd_t6 91 rfl rfl)⟩
set_option maxRecDepth 20000 in
theorem fp_X12_405 : FP RX12 405 12 43 .int := ⟨RX12, TX12, 54, tyX12, rfl, hinX12, by decide, Or.inl (gd_t6 91 rfl rfl), tyX12_ok, nmX12, rfl, rfl⟩
set_option maxRecDepth 20000 in
theorem fl_X12_111 : FL RX12 111 12 44 := ⟨RX12, TX12, 54, rfl, hinX12, by decide, Or.inl (gd_t6 92 rfl rfl)⟩
set_option maxRecDepth 20000 in
theorem fl_X12_114 : FL RX12 114 12 45 := ⟨RX12, TX12, 54, rfl, hinX12, by decide, Or.inl (gd_t6 93 rfl rfl)⟩
set_option maxRecDepth 20000 in
theorem fl_X12_117 : FL RX12 117 12 46 := ⟨RX12, TX12, 54, rfl, hinX12, by decide, Or.inl (gd_t6 94 rfl rfl)⟩
set_option maxRecDepth 20000 in
theorem fl_X12_120 : FL RX12 120 12 47 := ⟨RX12, TX12, 54, rfl, hinX12, by decide, Or.inl (gd_t6 95 rfl rfl)⟩
set_option maxRecDepth 20000 in
theorem fl_X12_123 : FL RX12 123 12 48 := ⟨RX12, TX12, 54, rfl, hinX12, by decide, Or.inl (gd_t6 96 rfl rfl)⟩
set_option maxRecDepth 20000 in
theorem fl_X12_475 : FL RX12 475 12 49 := ⟨RX12, TX12, 54, rfl, hinX12, by decide, Or.inl (gd_t6 97 rfl rfl)⟩
set_option maxRecDepth 20000 in
theorem fp_X12_475 : FP RX12 475 12 49 .int := ⟨RX12, TX12, 54, tyX12, rfl, hinX12, by decide, Or.inl (gd_t6 97 rfl rfl), tyX12_ok, nmX12, rfl, rfl⟩
set_option maxRecDepth 20000 in
theorem fl_X12_126 : FL RX12 126 12 50 := ⟨RX12, TX12, 54, rfl, hinX12, by decide, Or.inl (gd_t6 98 rfl rfl)⟩
set_option maxRecDepth 20000 in
theorem fl_X12_129 : FL RX12 129 12 51 := ⟨RX12, TX12, 54, rfl, hinX12, by decide, Or.inl (gd_t6 99 rfl rfl)⟩
set_option maxRecDepth 20000 in
theorem fl_X12_132 : FL RX12 132 12 52 := ⟨RX12, TX12, 54, rfl, hinX12, by decide, Or.inl (gd_t6 100 rfl rfl)⟩
set_option maxRecDepth 20000 in
theorem fl_X12_136 : FL RX12 136 12 53 := ⟨RX12, TX12, 54, rfl, hinX12, by decide, Or.inl (gd_t6 101 rfl rfl)⟩
set_option maxRecDepth 20000 in
theorem ci_X11_init : CI yX11_init cX11_init 2 0 := ⟨(gd_t1 26 rfl rfl), (gd_t1 1 rfl rfl), (gd_t1 25 rfl rfl), rfl, by decide, by decide, rfl⟩
set_option maxRecDepth 20000 in
theorem ci_X10_init : CI yX10_init cX10_init 2 0 := ⟨(gd_t1 34 rfl rfl), (gd_t1 2 rfl rfl), (gd_t1 33 rfl rfl), rfl, by decide, by decide, rfl⟩
set_option maxRecDepth 20000 in
theorem ci_X6_init : CI yX6_init cX6_init 1 0 := ⟨(gd_t1 42 rfl rfl), (gd_t1 3 rfl rfl), (gd_t1 41 rfl rfl), rfl, by decide, by decide, rfl⟩
set_option maxRecDepth 20000 in
theorem ci_X4_init : CI yX4_init cX4_init 1 0 := ⟨(gd_t1 58 rfl rfl), (gd_t1 4 rfl rfl), (gd_t1 57 rfl rfl), rfl, by decide, by decide, rfl⟩
set_option maxRecDepth 20000 in
theorem ci_X2_init : CI yX2_init cX2_init 1 0 := ⟨(gd_t1 64 rfl rfl), (gd_t1 5 rfl rfl), (gd_t1 63 rfl rfl), rfl, by decide, by decide, rfl⟩
set_option maxRecDepth 20000 in
theorem ci_X8_init : CI yX8_init cX8_init 2 1 := ⟨(gd_t1 70 rfl rfl), (gd_t1 6 rfl rfl), (gd_t1 69 rfl rfl), rfl, by decide, by decide, rfl⟩
set_option maxRecDepth 20000 in
theorem ci_X1_init : CI yX1_init cX1_init 1 0 := ⟨(gd_t1 147 rfl rfl), (gd_t1 7 rfl rfl), (gd_t1 146 rfl rfl), rfl, by decide, by decide, rfl⟩
set_option maxRecDepth 20000 in
theorem cs_J7_fill_53178 : CS yJ7_fill_53178 cJ7_fill_53178 4 none 2 := ⟨(gd_t1 239 rfl rfl), (gd_t1 8 rfl rfl), (gd_t1 238 rfl rfl), by decide, by decide, rfl⟩
set_option maxRecDepth 20000 in
theorem ci_X5_init : CI yX5_init cX5_init 1 0 := ⟨(gd_t2 39 rfl rfl), (gd_t1 9 rfl rfl), (gd_t2 38 rfl rfl), rfl, by decide, by decide, rfl⟩
set_option maxRecDepth 20000 in
theorem ci_X0_init : CI yX0_init cX0_init 1 0 := ⟨(gd_t2 93 rfl rfl), (gd_t1 10 rfl rfl), (gd_t2 92 rfl rfl), rfl, by decide, by decide, rfl⟩
set_option maxRecDepth 20000 in
theorem ci_X3_init : CI yX3_init cX3_init 1 0 := ⟨(gd_t2 138 rfl rfl), (gd_t1 11 rfl rfl), (gd_t2 137 rfl rfl), rfl, by decide, by decide, rfl⟩
set_option maxRecDepth 20000 in
theorem ci_X7_init : CI yX7_init cX7_init 1 0 := ⟨(gd_t2 156 rfl rfl), (gd_t1 12 rfl rfl), (gd_t2 155 rfl rfl), rfl, by decide, by decide, rfl⟩
set_option maxRecDepth 20000 in
theorem ci_X9_init : CI yX9_init cX9_init 1 0 := ⟨(gd_t2 176 rfl rfl), (gd_t1 13 rfl rfl), (gd_t2 175 rfl rfl), rfl, by decide, by decide, rfl⟩
set_option maxRecDepth 20000 in
theorem cv_X11_feed : CV yX11_feed cX11_feed 6 (some FieldType.int) 5 := ⟨(gd_t3 20 rfl rfl), (gd_t1 1 rfl rfl), (gd_t3 18 rfl rfl), (gd_t3 19 rfl rfl), by decide, by decide, rfl⟩
set_option maxRecDepth 20000 in
theorem cv_X5_hasRoom : CV yX5_hasRoom cX5_hasRoom 2 (some FieldType.boolean) 1 := ⟨(gd_t3 24 rfl rfl), (gd_t1 9 rfl rfl), (gd_t3 22 rfl rfl), (gd_t3 23 rfl rfl), by decide, by decide, rfl⟩
set_option maxRecDepth 20000 in
theorem cv_X5_add : CV yX5_add cX5_add 3 none 1 := ⟨(gd_t3 28 rfl rfl), (gd_t1 9 rfl rfl), (gd_t3 26 rfl rfl), (gd_t3 27 rfl rfl), by decide, by decide, rfl⟩
set_option maxRecDepth 20000 in
theorem cv_X11_end : CV yX11_end cX11_end 2 (some FieldType.int) 1 := ⟨(gd_t3 32 rfl rfl), (gd_t1 1 rfl rfl), (gd_t3 30 rfl rfl), (gd_t3 31 rfl rfl), by decide, by decide, rfl⟩
set_option maxRecDepth 20000 in
theorem cv_X11_old : CV yX11_old cX11_old 4 (some FieldType.int) 1 := ⟨(gd_t3 36 rfl rfl), (gd_t1 1 rfl rfl), (gd_t3 34 rfl rfl), (gd_t3 35 rfl rfl), by decide, by decide, rfl⟩
set_option maxRecDepth 20000 in
theorem cv_X11_programAt : CV yX11_programAt cX11_programAt 2 (some (FieldType.object "CarriedWorks$Program")) 1 := ⟨(gd_t3 40 rfl rfl), (gd_t1 1 rfl rfl), (gd_t3 39 rfl rfl), (gd_of 0 rfl rfl), by decide, by decide, rfl⟩
set_option maxRecDepth 20000 in
theorem cs_X11_isProgram : CS yX11_isProgram cX11_isProgram 1 (some FieldType.boolean) 1 := ⟨(gd_t3 43 rfl rfl), (gd_t1 1 rfl rfl), (gd_t3 42 rfl rfl), by decide, by decide, rfl⟩
set_option maxRecDepth 20000 in
theorem cv_X5_readsOld : CV yX5_readsOld cX5_readsOld 3 (some FieldType.boolean) 0 := ⟨(gd_t3 47 rfl rfl), (gd_t1 9 rfl rfl), (gd_t3 45 rfl rfl), (gd_t3 46 rfl rfl), by decide, by decide, rfl⟩
set_option maxRecDepth 20000 in
theorem cv_X5_begin : CV yX5_begin cX5_begin 1 none 0 := ⟨(gd_t3 51 rfl rfl), (gd_t1 9 rfl rfl), (gd_t3 50 rfl rfl), (gd_of 1 rfl rfl), by decide, by decide, rfl⟩
set_option maxRecDepth 20000 in
theorem cv_X5_split : CV yX5_split cX5_split 3 none 0 := ⟨(gd_t3 55 rfl rfl), (gd_t1 9 rfl rfl), (gd_t3 54 rfl rfl), (gd_of 2 rfl rfl), by decide, by decide, rfl⟩
set_option maxRecDepth 20000 in
theorem cv_X5_splitOff : CV yX5_splitOff cX5_splitOff 4 (some FieldType.int) 2 := ⟨(gd_t3 59 rfl rfl), (gd_t1 9 rfl rfl), (gd_t3 58 rfl rfl), (gd_of 3 rfl rfl), by decide, by decide, rfl⟩
set_option maxRecDepth 20000 in
theorem cs_X5_isSmall : CS yX5_isSmall cX5_isSmall 1 (some FieldType.boolean) 1 := ⟨(gd_t3 62 rfl rfl), (gd_t1 9 rfl rfl), (gd_t3 61 rfl rfl), by decide, by decide, rfl⟩
set_option maxRecDepth 20000 in
theorem cv_X5_wordKind : CV yX5_wordKind cX5_wordKind 5 (some FieldType.int) 2 := ⟨(gd_t3 66 rfl rfl), (gd_t1 9 rfl rfl), (gd_t3 65 rfl rfl), (gd_of 4 rfl rfl), by decide, by decide, rfl⟩
set_option maxRecDepth 20000 in
theorem cs_X5_isDigit : CS yX5_isDigit cX5_isDigit 1 (some FieldType.boolean) 1 := ⟨(gd_t3 69 rfl rfl), (gd_t1 9 rfl rfl), (gd_t3 68 rfl rfl), by decide, by decide, rfl⟩
set_option maxRecDepth 20000 in
theorem cv_X5_numberOf : CV yX5_numberOf cX5_numberOf 5 (some FieldType.int) 2 := ⟨(gd_t3 73 rfl rfl), (gd_t1 9 rfl rfl), (gd_t3 72 rfl rfl), (gd_of 5 rfl rfl), by decide, by decide, rfl⟩
set_option maxRecDepth 20000 in
theorem cs_J9_min_7cf53 : CS yJ9_min_7cf53 cJ9_min_7cf53 2 (some FieldType.int) 2 := ⟨(gd_t3 76 rfl rfl), (gd_t1 15 rfl rfl), (gd_t3 75 rfl rfl), by decide, by decide, rfl⟩
set_option maxRecDepth 20000 in
theorem cs_X5_isSign : CS yX5_isSign cX5_isSign 1 (some FieldType.boolean) 1 := ⟨(gd_t3 79 rfl rfl), (gd_t1 9 rfl rfl), (gd_t3 78 rfl rfl), by decide, by decide, rfl⟩
set_option maxRecDepth 20000 in
theorem cv_X2_clear : CV yX2_clear cX2_clear 1 none 0 := ⟨(gd_t3 83 rfl rfl), (gd_t1 5 rfl rfl), (gd_t3 81 rfl rfl), (gd_t3 82 rfl rfl), by decide, by decide, rfl⟩
set_option maxRecDepth 20000 in
theorem cv_X8_clear : CV yX8_clear cX8_clear 1 none 0 := ⟨(gd_t3 87 rfl rfl), (gd_t1 6 rfl rfl), (gd_t3 85 rfl rfl), (gd_t3 86 rfl rfl), by decide, by decide, rfl⟩
set_option maxRecDepth 20000 in
theorem cv_X5_readLine : CV yX5_readLine cX5_readLine 3 (some FieldType.boolean) 1 := ⟨(gd_t3 91 rfl rfl), (gd_t1 9 rfl rfl), (gd_t3 90 rfl rfl), (gd_of 6 rfl rfl), by decide, by decide, rfl⟩
set_option maxRecDepth 20000 in
theorem cv_X5_fail : CV yX5_fail cX5_fail 2 (some FieldType.boolean) 1 := ⟨(gd_t3 95 rfl rfl), (gd_t1 9 rfl rfl), (gd_t3 94 rfl rfl), (gd_of 7 rfl rfl), by decide, by decide, rfl⟩
set_option maxRecDepth 20000 in
theorem cv_X5_take : CV yX5_take cX5_take 2 (some FieldType.boolean) 1 := ⟨(gd_t3 99 rfl rfl), (gd_t1 9 rfl rfl), (gd_t3 98 rfl rfl), (gd_of 8 rfl rfl), by decide, by decide, rfl⟩
set_option maxRecDepth 20000 in
theorem cv_X5_readAct : CV yX5_readAct cX5_readAct 2 (some FieldType.boolean) 1 := ⟨(gd_t3 103 rfl rfl), (gd_t1 9 rfl rfl), (gd_t3 102 rfl rfl), (gd_of 9 rfl rfl), by decide, by decide, rfl⟩
set_option maxRecDepth 20000 in
theorem cv_X5_readSet : CV yX5_readSet cX5_readSet 2 (some FieldType.boolean) 1 := ⟨(gd_t3 107 rfl rfl), (gd_t1 9 rfl rfl), (gd_t3 106 rfl rfl), (gd_of 10 rfl rfl), by decide, by decide, rfl⟩
set_option maxRecDepth 20000 in
theorem cv_X5_readSum : CV yX5_readSum cX5_readSum 3 (some FieldType.boolean) 0 := ⟨(gd_t3 111 rfl rfl), (gd_t1 9 rfl rfl), (gd_t3 110 rfl rfl), (gd_of 11 rfl rfl), by decide, by decide, rfl⟩
set_option maxRecDepth 20000 in
theorem cv_X5_readTerm : CV yX5_readTerm cX5_readTerm 4 (some FieldType.boolean) 2 := ⟨(gd_t3 116 rfl rfl), (gd_t1 9 rfl rfl), (gd_t3 115 rfl rfl), (gd_of 12 rfl rfl), by decide, by decide, rfl⟩
set_option maxRecDepth 20000 in
theorem cv_X8_add : CV yX8_add cX8_add 9 none 5 := ⟨(gd_t3 122 rfl rfl), (gd_t1 6 rfl rfl), (gd_t3 120 rfl rfl), (gd_t3 121 rfl rfl), by decide, by decide, rfl⟩
set_option maxRecDepth 20000 in
theorem cv_X8_addCell : CV yX8_addCell cX8_addCell 2 none 1 := ⟨(gd_t3 126 rfl rfl), (gd_t1 6 rfl rfl), (gd_t3 124 rfl rfl), (gd_t3 125 rfl rfl), by decide, by decide, rfl⟩
set_option maxRecDepth 20000 in
theorem cv_X5_readIf : CV yX5_readIf cX5_readIf 4 (some FieldType.boolean) 1 := ⟨(gd_t3 130 rfl rfl), (gd_t1 9 rfl rfl), (gd_t3 129 rfl rfl), (gd_of 13 rfl rfl), by decide, by decide, rfl⟩
set_option maxRecDepth 20000 in
theorem cv_X5_takeOp : CV yX5_takeOp cX5_takeOp 3 (some FieldType.int) 0 := ⟨(gd_t3 134 rfl rfl), (gd_t1 9 rfl rfl), (gd_t3 133 rfl rfl), (gd_of 14 rfl rfl), by decide, by decide, rfl⟩
set_option maxRecDepth 20000 in
theorem cv_X5_takeNumber : CV yX5_takeNumber cX5_takeNumber 1 (some FieldType.int) 0 := ⟨(gd_t3 138 rfl rfl), (gd_t1 9 rfl rfl), (gd_t3 137 rfl rfl), (gd_of 15 rfl rfl), by decide, by decide, rfl⟩
set_option maxRecDepth 20000 in
theorem cv_X5_readGo : CV yX5_readGo cX5_readGo 3 (some FieldType.boolean) 1 := ⟨(gd_t3 142 rfl rfl), (gd_t1 9 rfl rfl), (gd_t3 141 rfl rfl), (gd_of 16 rfl rfl), by decide, by decide, rfl⟩
set_option maxRecDepth 20000 in
theorem cv_X2_findTargets : CV yX2_findTargets cX2_findTargets 2 none 0 := ⟨(gd_t3 146 rfl rfl), (gd_t1 5 rfl rfl), (gd_t3 144 rfl rfl), (gd_t3 145 rfl rfl), by decide, by decide, rfl⟩
set_option maxRecDepth 20000 in
theorem cv_X2_lineWith : CV yX2_lineWith cX2_lineWith 3 (some FieldType.int) 1 := ⟨(gd_t3 150 rfl rfl), (gd_t1 5 rfl rfl), (gd_t3 149 rfl rfl), (gd_of 17 rfl rfl), by decide, by decide, rfl⟩
set_option maxRecDepth 20000 in
theorem cv_X11_renew : CV yX11_renew cX11_renew 3 (some FieldType.int) 1 := ⟨(gd_t3 154 rfl rfl), (gd_t1 1 rfl rfl), (gd_t3 152 rfl rfl), (gd_t3 153 rfl rfl), by decide, by decide, rfl⟩
set_option maxRecDepth 20000 in
theorem cv_X4_mayChange : CV yX4_mayChange cX4_mayChange 1 (some FieldType.boolean) 0 := ⟨(gd_t3 158 rfl rfl), (gd_t1 4 rfl rfl), (gd_t3 156 rfl rfl), (gd_t3 157 rfl rfl), by decide, by decide, rfl⟩
set_option maxRecDepth 20000 in
theorem cv_X5_readsNew : CV yX5_readsNew cX5_readsNew 5 (some FieldType.boolean) 0 := ⟨(gd_t3 162 rfl rfl), (gd_t1 9 rfl rfl), (gd_t3 160 rfl rfl), (gd_t3 161 rfl rfl), by decide, by decide, rfl⟩
set_option maxRecDepth 20000 in
theorem cv_X1_clear : CV yX1_clear cX1_clear 1 none 0 := ⟨(gd_t3 166 rfl rfl), (gd_t1 7 rfl rfl), (gd_t3 164 rfl rfl), (gd_t3 165 rfl rfl), by decide, by decide, rfl⟩
set_option maxRecDepth 20000 in
theorem cv_X5_readCase : CV yX5_readCase cX5_readCase 3 (some FieldType.boolean) 1 := ⟨(gd_t3 171 rfl rfl), (gd_t1 9 rfl rfl), (gd_t3 170 rfl rfl), (gd_of 18 rfl rfl), by decide, by decide, rfl⟩
set_option maxRecDepth 20000 in
theorem cv_X1_beginCase : CV yX1_beginCase cX1_beginCase 1 none 0 := ⟨(gd_t3 175 rfl rfl), (gd_t1 7 rfl rfl), (gd_t3 173 rfl rfl), (gd_t3 174 rfl rfl), by decide, by decide, rfl⟩
set_option maxRecDepth 20000 in
theorem cv_X5_readTests : CV yX5_readTests cX5_readTests 2 (some FieldType.boolean) 0 := ⟨(gd_t3 179 rfl rfl), (gd_t1 9 rfl rfl), (gd_t3 178 rfl rfl), (gd_of 19 rfl rfl), by decide, by decide, rfl⟩
set_option maxRecDepth 20000 in
theorem cv_X5_readTest : CV yX5_readTest cX5_readTest 3 (some FieldType.boolean) 0 := ⟨(gd_t3 183 rfl rfl), (gd_t1 9 rfl rfl), (gd_t3 182 rfl rfl), (gd_of 20 rfl rfl), by decide, by decide, rfl⟩
set_option maxRecDepth 20000 in
theorem cv_X1_beginTest : CV yX1_beginTest cX1_beginTest 3 none 2 := ⟨(gd_t3 187 rfl rfl), (gd_t1 7 rfl rfl), (gd_t3 185 rfl rfl), (gd_t3 186 rfl rfl), by decide, by decide, rfl⟩
set_option maxRecDepth 20000 in
theorem cv_X5_readPuts : CV yX5_readPuts cX5_readPuts 2 (some FieldType.boolean) 0 := ⟨(gd_t3 192 rfl rfl), (gd_t1 9 rfl rfl), (gd_t3 191 rfl rfl), (gd_of 21 rfl rfl), by decide, by decide, rfl⟩
set_option maxRecDepth 20000 in
theorem cv_X1_beginPuts : CV yX1_beginPuts cX1_beginPuts 1 none 0 := ⟨(gd_t3 196 rfl rfl), (gd_t1 7 rfl rfl), (gd_t3 194 rfl rfl), (gd_t3 195 rfl rfl), by decide, by decide, rfl⟩
set_option maxRecDepth 20000 in
theorem cv_X5_readPut : CV yX5_readPut cX5_readPut 2 (some FieldType.boolean) 0 := ⟨(gd_t3 200 rfl rfl), (gd_t1 9 rfl rfl), (gd_t3 199 rfl rfl), (gd_of 22 rfl rfl), by decide, by decide, rfl⟩
set_option maxRecDepth 20000 in
theorem cv_X1_putOf : CV yX1_putOf cX1_putOf 5 (some FieldType.int) 2 := ⟨(gd_t3 204 rfl rfl), (gd_t1 7 rfl rfl), (gd_t3 202 rfl rfl), (gd_t3 203 rfl rfl), by decide, by decide, rfl⟩
set_option maxRecDepth 20000 in
theorem cv_X8_behind : CV yX8_behind cX8_behind 2 (some FieldType.int) 1 := ⟨(gd_t3 208 rfl rfl), (gd_t1 6 rfl rfl), (gd_t3 206 rfl rfl), (gd_t3 207 rfl rfl), by decide, by decide, rfl⟩
set_option maxRecDepth 20000 in
theorem cv_X1_beginPut : CV yX1_beginPut cX1_beginPut 2 none 1 := ⟨(gd_t3 212 rfl rfl), (gd_t1 7 rfl rfl), (gd_t3 210 rfl rfl), (gd_t3 211 rfl rfl), by decide, by decide, rfl⟩
set_option maxRecDepth 20000 in
theorem cv_X11_takeNewText : CV yX11_takeNewText cX11_takeNewText 3 none 1 := ⟨(gd_t3 216 rfl rfl), (gd_t1 1 rfl rfl), (gd_t3 215 rfl rfl), (gd_of 23 rfl rfl), by decide, by decide, rfl⟩
set_option maxRecDepth 20000 in
theorem cv_X11_fault : CV yX11_fault cX11_fault 2 (some FieldType.int) 1 := ⟨(gd_t3 220 rfl rfl), (gd_t1 1 rfl rfl), (gd_t3 218 rfl rfl), (gd_t3 219 rfl rfl), by decide, by decide, rfl⟩
set_option maxRecDepth 20000 in
theorem cv_X11_span : CV yX11_span cX11_span 6 (some FieldType.int) 4 := ⟨(gd_t3 224 rfl rfl), (gd_t1 1 rfl rfl), (gd_t3 222 rfl rfl), (gd_t3 223 rfl rfl), by decide, by decide, rfl⟩
set_option maxRecDepth 20000 in
theorem cs_X11_isField : CS yX11_isField cX11_isField 1 (some FieldType.boolean) 1 := ⟨(gd_t3 227 rfl rfl), (gd_t1 1 rfl rfl), (gd_t3 226 rfl rfl), by decide, by decide, rfl⟩
set_option maxRecDepth 20000 in
theorem cs_X11_isEdge : CS yX11_isEdge cX11_isEdge 1 (some FieldType.boolean) 1 := ⟨(gd_t3 230 rfl rfl), (gd_t1 1 rfl rfl), (gd_t3 229 rfl rfl), by decide, by decide, rfl⟩
set_option maxRecDepth 20000 in
theorem cv_X4_spans : CV yX4_spans cX4_spans 8 (some FieldType.boolean) 3 := ⟨(gd_t3 234 rfl rfl), (gd_t1 4 rfl rfl), (gd_t3 232 rfl rfl), (gd_t3 233 rfl rfl), by decide, by decide, rfl⟩
set_option maxRecDepth 20000 in
theorem cv_X4_removeSpan : CV yX4_removeSpan cX4_removeSpan 3 none 1 := ⟨(gd_t3 238 rfl rfl), (gd_t1 4 rfl rfl), (gd_t3 237 rfl rfl), (gd_of 24 rfl rfl), by decide, by decide, rfl⟩
set_option maxRecDepth 20000 in
theorem cv_X4_openSpan : CV yX4_openSpan cX4_openSpan 3 none 1 := ⟨(gd_t4 2 rfl rfl), (gd_t1 4 rfl rfl), (gd_t4 1 rfl rfl), (gd_of 25 rfl rfl), by decide, by decide, rfl⟩
set_option maxRecDepth 20000 in
theorem cv_X11_run : CV yX11_run cX11_run 4 (some FieldType.int) 2 := ⟨(gd_t4 6 rfl rfl), (gd_t1 1 rfl rfl), (gd_t4 4 rfl rfl), (gd_t4 5 rfl rfl), by decide, by decide, rfl⟩
set_option maxRecDepth 20000 in
theorem cv_X4_hasInput : CV yX4_hasInput cX4_hasInput 2 (some FieldType.boolean) 1 := ⟨(gd_t4 10 rfl rfl), (gd_t1 4 rfl rfl), (gd_t4 8 rfl rfl), (gd_t4 9 rfl rfl), by decide, by decide, rfl⟩
set_option maxRecDepth 20000 in
theorem cv_X0_goOld : CV yX0_goOld cX0_goOld 3 none 2 := ⟨(gd_t4 14 rfl rfl), (gd_t1 10 rfl rfl), (gd_t4 12 rfl rfl), (gd_t4 13 rfl rfl), by decide, by decide, rfl⟩
set_option maxRecDepth 20000 in
theorem cv_X4_beginFields : CV yX4_beginFields cX4_beginFields 6 none 2 := ⟨(gd_t4 18 rfl rfl), (gd_t1 4 rfl rfl), (gd_t4 16 rfl rfl), (gd_t4 17 rfl rfl), by decide, by decide, rfl⟩
set_option maxRecDepth 20000 in
theorem cv_X0_goThrough : CV yX0_goThrough cX0_goThrough 4 none 2 := ⟨(gd_t4 23 rfl rfl), (gd_t1 10 rfl rfl), (gd_t4 22 rfl rfl), (gd_of 26 rfl rfl), by decide, by decide, rfl⟩
set_option maxRecDepth 20000 in
theorem cv_X0_doLine : CV yX0_doLine cX0_doLine 7 (some FieldType.int) 3 := ⟨(gd_t4 28 rfl rfl), (gd_t1 10 rfl rfl), (gd_t4 27 rfl rfl), (gd_of 27 rfl rfl), by decide, by decide, rfl⟩
set_option maxRecDepth 20000 in
theorem cv_X8_valueAt : CV yX8_valueAt cX8_valueAt 7 (some FieldType.int) 2 := ⟨(gd_t4 32 rfl rfl), (gd_t1 6 rfl rfl), (gd_t4 30 rfl rfl), (gd_t4 31 rfl rfl), by decide, by decide, rfl⟩
set_option maxRecDepth 20000 in
theorem cs_X11_isInRange : CS yX11_isInRange cX11_isInRange 1 (some FieldType.boolean) 1 := ⟨(gd_t4 35 rfl rfl), (gd_t1 1 rfl rfl), (gd_t4 34 rfl rfl), by decide, by decide, rfl⟩
set_option maxRecDepth 20000 in
theorem cs_X11_holds : CS yX11_holds cX11_holds 3 (some FieldType.boolean) 3 := ⟨(gd_t4 38 rfl rfl), (gd_t1 1 rfl rfl), (gd_t4 37 rfl rfl), by decide, by decide, rfl⟩
set_option maxRecDepth 20000 in
theorem cv_X0_addTurn : CV yX0_addTurn cX0_addTurn 2 none 1 := ⟨(gd_t4 42 rfl rfl), (gd_t1 10 rfl rfl), (gd_t4 41 rfl rfl), (gd_of 28 rfl rfl), by decide, by decide, rfl⟩
set_option maxRecDepth 20000 in
theorem cv_X0_jump : CV yX0_jump cX0_jump 2 (some FieldType.int) 1 := ⟨(gd_t4 46 rfl rfl), (gd_t1 10 rfl rfl), (gd_t4 45 rfl rfl), (gd_of 29 rfl rfl), by decide, by decide, rfl⟩
set_option maxRecDepth 20000 in
theorem cv_X11_remember : CV yX11_remember cX11_remember 3 none 2 := ⟨(gd_t4 50 rfl rfl), (gd_t1 1 rfl rfl), (gd_t4 49 rfl rfl), (gd_of 30 rfl rfl), by decide, by decide, rfl⟩
set_option maxRecDepth 20000 in
theorem cv_X11_runNew : CV yX11_runNew cX11_runNew 4 (some FieldType.int) 2 := ⟨(gd_t4 57 rfl rfl), (gd_t1 1 rfl rfl), (gd_t4 55 rfl rfl), (gd_t4 56 rfl rfl), by decide, by decide, rfl⟩
set_option maxRecDepth 20000 in
theorem cv_X0_goNew : CV yX0_goNew cX0_goNew 4 none 2 := ⟨(gd_t4 61 rfl rfl), (gd_t1 10 rfl rfl), (gd_t4 59 rfl rfl), (gd_t4 60 rfl rfl), by decide, by decide, rfl⟩
set_option maxRecDepth 20000 in
theorem cv_X1_leaveOthersOut : CV yX1_leaveOthersOut cX1_leaveOthersOut 3 none 1 := ⟨(gd_t4 65 rfl rfl), (gd_t1 7 rfl rfl), (gd_t4 63 rfl rfl), (gd_t4 64 rfl rfl), by decide, by decide, rfl⟩
set_option maxRecDepth 20000 in
theorem cv_X1_caseWith : CV yX1_caseWith cX1_caseWith 3 (some FieldType.int) 1 := ⟨(gd_t4 69 rfl rfl), (gd_t1 7 rfl rfl), (gd_t4 67 rfl rfl), (gd_t4 68 rfl rfl), by decide, by decide, rfl⟩
set_option maxRecDepth 20000 in
theorem cv_X1_turnsSo : CV yX1_turnsSo cX1_turnsSo 4 (some FieldType.boolean) 2 := ⟨(gd_t4 73 rfl rfl), (gd_t1 7 rfl rfl), (gd_t4 72 rfl rfl), (gd_of 31 rfl rfl), by decide, by decide, rfl⟩
set_option maxRecDepth 20000 in
theorem cv_X1_caseFor : CV yX1_caseFor cX1_caseFor 3 (some FieldType.int) 1 := ⟨(gd_t4 77 rfl rfl), (gd_t1 7 rfl rfl), (gd_t4 75 rfl rfl), (gd_t4 76 rfl rfl), by decide, by decide, rfl⟩
set_option maxRecDepth 20000 in
theorem cv_X1_countsFor : CV yX1_countsFor cX1_countsFor 7 (some FieldType.boolean) 2 := ⟨(gd_t4 81 rfl rfl), (gd_t1 7 rfl rfl), (gd_t4 80 rfl rfl), (gd_of 32 rfl rfl), by decide, by decide, rfl⟩
set_option maxRecDepth 20000 in
theorem cv_X0_doPuts : CV yX0_doPuts cX0_doPuts 6 none 2 := ⟨(gd_t4 87 rfl rfl), (gd_t1 10 rfl rfl), (gd_t4 86 rfl rfl), (gd_of 33 rfl rfl), by decide, by decide, rfl⟩
set_option maxRecDepth 20000 in
theorem cv_X11_field : CV yX11_field cX11_field 2 (some FieldType.int) 1 := ⟨(gd_t4 93 rfl rfl), (gd_t1 1 rfl rfl), (gd_t4 91 rfl rfl), (gd_t4 92 rfl rfl), by decide, by decide, rfl⟩
set_option maxRecDepth 20000 in
theorem cv_X11_did : CV yX11_did cX11_did 1 (some FieldType.int) 0 := ⟨(gd_t4 97 rfl rfl), (gd_t1 1 rfl rfl), (gd_t4 95 rfl rfl), (gd_t4 96 rfl rfl), by decide, by decide, rfl⟩
set_option maxRecDepth 20000 in
theorem cv_X11_ways : CV yX11_ways cX11_ways 4 (some FieldType.int) 1 := ⟨(gd_t4 101 rfl rfl), (gd_t1 1 rfl rfl), (gd_t4 99 rfl rfl), (gd_t4 100 rfl rfl), by decide, by decide, rfl⟩
set_option maxRecDepth 20000 in
theorem cv_X9_collect : CV yX9_collect cX9_collect 6 (some FieldType.boolean) 3 := ⟨(gd_t4 105 rfl rfl), (gd_t1 13 rfl rfl), (gd_t4 103 rfl rfl), (gd_t4 104 rfl rfl), by decide, by decide, rfl⟩
set_option maxRecDepth 20000 in
theorem cv_X9_wayLike : CV yX9_wayLike cX9_wayLike 3 (some FieldType.int) 1 := ⟨(gd_t4 111 rfl rfl), (gd_t1 13 rfl rfl), (gd_t4 110 rfl rfl), (gd_of 34 rfl rfl), by decide, by decide, rfl⟩
set_option maxRecDepth 20000 in
theorem cv_X9_isLike : CV yX9_isLike cX9_isLike 4 (some FieldType.boolean) 2 := ⟨(gd_t4 115 rfl rfl), (gd_t1 13 rfl rfl), (gd_t4 114 rfl rfl), (gd_of 35 rfl rfl), by decide, by decide, rfl⟩
set_option maxRecDepth 20000 in
theorem cv_X9_addWay : CV yX9_addWay cX9_addWay 7 (some FieldType.boolean) 4 := ⟨(gd_t4 119 rfl rfl), (gd_t1 13 rfl rfl), (gd_t4 118 rfl rfl), (gd_of 36 rfl rfl), by decide, by decide, rfl⟩
set_option maxRecDepth 20000 in
theorem cv_X1_isFull : CV yX1_isFull cX1_isFull 1 (some FieldType.boolean) 0 := ⟨(gd_t4 123 rfl rfl), (gd_t1 7 rfl rfl), (gd_t4 121 rfl rfl), (gd_t4 122 rfl rfl), by decide, by decide, rfl⟩
set_option maxRecDepth 20000 in
theorem cv_X9_workOut : CV yX9_workOut cX9_workOut 6 none 2 := ⟨(gd_t4 127 rfl rfl), (gd_t1 13 rfl rfl), (gd_t4 126 rfl rfl), (gd_of 37 rfl rfl), by decide, by decide, rfl⟩
set_option maxRecDepth 20000 in
theorem cv_X8_valueByLetters : CV yX8_valueByLetters cX8_valueByLetters 9 none 3 := ⟨(gd_t4 132 rfl rfl), (gd_t1 6 rfl rfl), (gd_t4 130 rfl rfl), (gd_t4 131 rfl rfl), by decide, by decide, rfl⟩
set_option maxRecDepth 20000 in
theorem cv_X1_addTurns : CV yX1_addTurns cX1_addTurns 3 none 2 := ⟨(gd_t4 138 rfl rfl), (gd_t1 7 rfl rfl), (gd_t4 136 rfl rfl), (gd_t4 137 rfl rfl), by decide, by decide, rfl⟩
set_option maxRecDepth 20000 in
theorem cv_X9_addPuts : CV yX9_addPuts cX9_addPuts 5 none 2 := ⟨(gd_t4 143 rfl rfl), (gd_t1 13 rfl rfl), (gd_t4 142 rfl rfl), (gd_of 38 rfl rfl), by decide, by decide, rfl⟩
set_option maxRecDepth 20000 in
theorem cv_X11_way : CV yX11_way cX11_way 4 (some FieldType.int) 3 := ⟨(gd_t4 150 rfl rfl), (gd_t1 1 rfl rfl), (gd_t4 148 rfl rfl), (gd_t4 149 rfl rfl), by decide, by decide, rfl⟩
set_option maxRecDepth 20000 in
theorem cv_X9_tell : CV yX9_tell cX9_tell 4 (some FieldType.int) 3 := ⟨(gd_t4 154 rfl rfl), (gd_t1 13 rfl rfl), (gd_t4 152 rfl rfl), (gd_t4 153 rfl rfl), by decide, by decide, rfl⟩
set_option maxRecDepth 20000 in
theorem cv_X11_rule : CV yX11_rule cX11_rule 4 (some FieldType.int) 3 := ⟨(gd_t4 158 rfl rfl), (gd_t1 1 rfl rfl), (gd_t4 156 rfl rfl), (gd_t4 157 rfl rfl), by decide, by decide, rfl⟩
set_option maxRecDepth 20000 in
theorem cv_X9_coefficient : CV yX9_coefficient cX9_coefficient 4 (some FieldType.int) 3 := ⟨(gd_t4 162 rfl rfl), (gd_t1 13 rfl rfl), (gd_t4 160 rfl rfl), (gd_t4 161 rfl rfl), by decide, by decide, rfl⟩
set_option maxRecDepth 20000 in
theorem cv_X11_dead : CV yX11_dead cX11_dead 1 (some FieldType.int) 0 := ⟨(gd_t4 168 rfl rfl), (gd_t1 1 rfl rfl), (gd_t4 166 rfl rfl), (gd_t4 167 rfl rfl), by decide, by decide, rfl⟩
set_option maxRecDepth 20000 in
theorem cv_X11_kinds : CV yX11_kinds cX11_kinds 1 (some FieldType.int) 0 := ⟨(gd_t4 172 rfl rfl), (gd_t1 1 rfl rfl), (gd_t4 170 rfl rfl), (gd_t4 171 rfl rfl), by decide, by decide, rfl⟩
set_option maxRecDepth 20000 in
theorem cv_X9_distinct : CV yX9_distinct cX9_distinct 3 (some FieldType.int) 0 := ⟨(gd_t4 176 rfl rfl), (gd_t1 13 rfl rfl), (gd_t4 174 rfl rfl), (gd_t4 175 rfl rfl), by decide, by decide, rfl⟩
set_option maxRecDepth 20000 in
theorem cv_X9_hasKindAhead : CV yX9_hasKindAhead cX9_hasKindAhead 3 (some FieldType.boolean) 1 := ⟨(gd_t4 180 rfl rfl), (gd_t1 13 rfl rfl), (gd_t4 179 rfl rfl), (gd_of 39 rfl rfl), by decide, by decide, rfl⟩
set_option maxRecDepth 20000 in
theorem cv_X9_isOneKind : CV yX9_isOneKind cX9_isOneKind 4 (some FieldType.boolean) 2 := ⟨(gd_t4 184 rfl rfl), (gd_t1 13 rfl rfl), (gd_t4 183 rfl rfl), (gd_of 40 rfl rfl), by decide, by decide, rfl⟩
set_option maxRecDepth 20000 in
theorem cv_X11_make : CV yX11_make cX11_make 3 (some FieldType.int) 1 := ⟨(gd_t4 188 rfl rfl), (gd_t1 1 rfl rfl), (gd_t4 186 rfl rfl), (gd_t4 187 rfl rfl), by decide, by decide, rfl⟩
set_option maxRecDepth 20000 in
theorem cv_X4_spannedBits : CV yX4_spannedBits cX4_spannedBits 3 (some FieldType.int) 0 := ⟨(gd_t4 192 rfl rfl), (gd_t1 4 rfl rfl), (gd_t4 190 rfl rfl), (gd_t4 191 rfl rfl), by decide, by decide, rfl⟩
set_option maxRecDepth 20000 in
theorem cv_X1_beginMade : CV yX1_beginMade cX1_beginMade 2 none 1 := ⟨(gd_t4 196 rfl rfl), (gd_t1 7 rfl rfl), (gd_t4 194 rfl rfl), (gd_t4 195 rfl rfl), by decide, by decide, rfl⟩
set_option maxRecDepth 20000 in
theorem cv_X11_wish : CV yX11_wish cX11_wish 7 (some FieldType.int) 4 := ⟨(gd_t4 201 rfl rfl), (gd_t1 1 rfl rfl), (gd_t4 199 rfl rfl), (gd_t4 200 rfl rfl), by decide, by decide, rfl⟩
set_option maxRecDepth 20000 in
theorem cv_X8_addAlone : CV yX8_addAlone cX8_addAlone 3 none 2 := ⟨(gd_t4 206 rfl rfl), (gd_t1 6 rfl rfl), (gd_t4 204 rfl rfl), (gd_t4 205 rfl rfl), by decide, by decide, rfl⟩
set_option maxRecDepth 20000 in
theorem cv_X11_casing : CV yX11_casing cX11_casing 7 (some FieldType.int) 5 := ⟨(gd_t4 210 rfl rfl), (gd_t1 1 rfl rfl), (gd_t4 208 rfl rfl), (gd_t4 209 rfl rfl), by decide, by decide, rfl⟩
set_option maxRecDepth 20000 in
theorem cv_X1_tell : CV yX1_tell cX1_tell 6 (some FieldType.int) 4 := ⟨(gd_t4 215 rfl rfl), (gd_t1 7 rfl rfl), (gd_t4 213 rfl rfl), (gd_t4 214 rfl rfl), by decide, by decide, rfl⟩
set_option maxRecDepth 20000 in
theorem cv_X1_putAt : CV yX1_putAt cX1_putAt 5 (some FieldType.int) 2 := ⟨(gd_t4 220 rfl rfl), (gd_t1 7 rfl rfl), (gd_t4 219 rfl rfl), (gd_of 41 rfl rfl), by decide, by decide, rfl⟩
set_option maxRecDepth 20000 in
theorem cv_X8_timesOf : CV yX8_timesOf cX8_timesOf 6 (some FieldType.int) 2 := ⟨(gd_t4 225 rfl rfl), (gd_t1 6 rfl rfl), (gd_t4 223 rfl rfl), (gd_t4 224 rfl rfl), by decide, by decide, rfl⟩
set_option maxRecDepth 20000 in
theorem cv_X11_unlike : CV yX11_unlike cX11_unlike 5 (some FieldType.int) 1 := ⟨(gd_t4 229 rfl rfl), (gd_t1 1 rfl rfl), (gd_t4 227 rfl rfl), (gd_t4 228 rfl rfl), by decide, by decide, rfl⟩
set_option maxRecDepth 20000 in
theorem cv_X4_hasBoth : CV yX4_hasBoth cX4_hasBoth 1 (some FieldType.boolean) 0 := ⟨(gd_t4 233 rfl rfl), (gd_t1 4 rfl rfl), (gd_t4 231 rfl rfl), (gd_t4 232 rfl rfl), by decide, by decide, rfl⟩
set_option maxRecDepth 20000 in
theorem cv_X11_unlikeBits : CV yX11_unlikeBits cX11_unlikeBits 5 (some FieldType.int) 2 := ⟨(gd_t4 237 rfl rfl), (gd_t1 1 rfl rfl), (gd_t4 236 rfl rfl), (gd_of 42 rfl rfl), by decide, by decide, rfl⟩
set_option maxRecDepth 20000 in
theorem cv_X11_parts : CV yX11_parts cX11_parts 5 (some FieldType.int) 2 := ⟨(gd_t5 1 rfl rfl), (gd_t1 1 rfl rfl), (gd_t4 239 rfl rfl), (gd_t5 0 rfl rfl), by decide, by decide, rfl⟩
set_option maxRecDepth 20000 in
theorem cv_X11_where : CV yX11_where cX11_where 4 (some FieldType.int) 2 := ⟨(gd_t5 5 rfl rfl), (gd_t1 1 rfl rfl), (gd_t5 3 rfl rfl), (gd_t5 4 rfl rfl), by decide, by decide, rfl⟩
set_option maxRecDepth 20000 in
theorem cv_X11_night : CV yX11_night cX11_night 8 (some FieldType.int) 2 := ⟨(gd_t5 9 rfl rfl), (gd_t1 1 rfl rfl), (gd_t5 7 rfl rfl), (gd_t5 8 rfl rfl), by decide, by decide, rfl⟩
set_option maxRecDepth 20000 in
theorem cv_X7_isSlot : CV yX7_isSlot cX7_isSlot 2 (some FieldType.boolean) 1 := ⟨(gd_t5 13 rfl rfl), (gd_t1 12 rfl rfl), (gd_t5 11 rfl rfl), (gd_t5 12 rfl rfl), by decide, by decide, rfl⟩
set_option maxRecDepth 20000 in
theorem cv_X7_hasNumbers : CV yX7_hasNumbers cX7_hasNumbers 2 (some FieldType.boolean) 1 := ⟨(gd_t5 17 rfl rfl), (gd_t1 12 rfl rfl), (gd_t5 15 rfl rfl), (gd_t5 16 rfl rfl), by decide, by decide, rfl⟩
set_option maxRecDepth 20000 in
theorem cv_X7_number : CV yX7_number cX7_number 3 (some FieldType.long) 2 := ⟨(gd_t5 21 rfl rfl), (gd_t1 12 rfl rfl), (gd_t5 19 rfl rfl), (gd_t5 20 rfl rfl), by decide, by decide, rfl⟩
set_option maxRecDepth 20000 in
theorem cv_X11_heapsInput : CV yX11_heapsInput cX11_heapsInput 7 (some FieldType.boolean) 3 := ⟨(gd_t5 25 rfl rfl), (gd_t1 1 rfl rfl), (gd_t5 24 rfl rfl), (gd_of 43 rfl rfl), by decide, by decide, rfl⟩
set_option maxRecDepth 20000 in
theorem cv_X10_heapFor : CV yX10_heapFor cX10_heapFor 7 (some FieldType.int) 4 := ⟨(gd_t5 29 rfl rfl), (gd_t1 2 rfl rfl), (gd_t5 27 rfl rfl), (gd_t5 28 rfl rfl), by decide, by decide, rfl⟩
set_option maxRecDepth 20000 in
theorem cv_X10_heapUp : CV yX10_heapUp cX10_heapUp 4 (some FieldType.int) 2 := ⟨(gd_t5 33 rfl rfl), (gd_t1 2 rfl rfl), (gd_t5 31 rfl rfl), (gd_t5 32 rfl rfl), by decide, by decide, rfl⟩
set_option maxRecDepth 20000 in
theorem cv_X11_heaps : CV yX11_heaps cX11_heaps 1 (some FieldType.int) 0 := ⟨(gd_t5 37 rfl rfl), (gd_t1 1 rfl rfl), (gd_t5 35 rfl rfl), (gd_t5 36 rfl rfl), by decide, by decide, rfl⟩
set_option maxRecDepth 20000 in
theorem cv_X11_heap : CV yX11_heap cX11_heap 3 (some FieldType.int) 2 := ⟨(gd_t5 41 rfl rfl), (gd_t1 1 rfl rfl), (gd_t5 39 rfl rfl), (gd_t5 40 rfl rfl), by decide, by decide, rfl⟩
set_option maxRecDepth 20000 in
theorem cv_X10_hasHeap : CV yX10_hasHeap cX10_hasHeap 2 (some FieldType.boolean) 1 := ⟨(gd_t5 45 rfl rfl), (gd_t1 2 rfl rfl), (gd_t5 43 rfl rfl), (gd_t5 44 rfl rfl), by decide, by decide, rfl⟩
set_option maxRecDepth 20000 in
theorem cv_X11_judge : CV yX11_judge cX11_judge 4 (some FieldType.int) 2 := ⟨(gd_t5 49 rfl rfl), (gd_t1 1 rfl rfl), (gd_t5 47 rfl rfl), (gd_t5 48 rfl rfl), by decide, by decide, rfl⟩
set_option maxRecDepth 20000 in
theorem cv_X11_calls : CV yX11_calls cX11_calls 5 (some FieldType.int) 3 := ⟨(gd_t5 53 rfl rfl), (gd_t1 1 rfl rfl), (gd_t5 51 rfl rfl), (gd_t5 52 rfl rfl), by decide, by decide, rfl⟩
set_option maxRecDepth 20000 in
theorem cv_X11_needs : CV yX11_needs cX11_needs 3 (some FieldType.int) 2 := ⟨(gd_t5 57 rfl rfl), (gd_t1 1 rfl rfl), (gd_t5 55 rfl rfl), (gd_t5 56 rfl rfl), by decide, by decide, rfl⟩
set_option maxRecDepth 20000 in
theorem cv_X10_needersOf : CV yX10_needersOf cX10_needersOf 5 (some FieldType.int) 1 := ⟨(gd_t5 61 rfl rfl), (gd_t1 2 rfl rfl), (gd_t5 59 rfl rfl), (gd_t5 60 rfl rfl), by decide, by decide, rfl⟩
set_option maxRecDepth 20000 in
theorem cv_X11_live : CV yX11_live cX11_live 3 (some FieldType.int) 1 := ⟨(gd_t5 65 rfl rfl), (gd_t1 1 rfl rfl), (gd_t5 63 rfl rfl), (gd_t5 64 rfl rfl), by decide, by decide, rfl⟩
set_option maxRecDepth 20000 in
theorem cv_X4_mayGoLive : CV yX4_mayGoLive cX4_mayGoLive 1 (some FieldType.boolean) 0 := ⟨(gd_t5 69 rfl rfl), (gd_t1 4 rfl rfl), (gd_t5 67 rfl rfl), (gd_t5 68 rfl rfl), by decide, by decide, rfl⟩
set_option maxRecDepth 20000 in
theorem cv_X10_overBits : CV yX10_overBits cX10_overBits 1 (some FieldType.int) 0 := ⟨(gd_t5 73 rfl rfl), (gd_t1 2 rfl rfl), (gd_t5 71 rfl rfl), (gd_t5 72 rfl rfl), by decide, by decide, rfl⟩
set_option maxRecDepth 20000 in
theorem cv_X10_bitsOf : CV yX10_bitsOf cX10_bitsOf 4 (some FieldType.int) 1 := ⟨(gd_t5 77 rfl rfl), (gd_t1 2 rfl rfl), (gd_t5 75 rfl rfl), (gd_t5 76 rfl rfl), by decide, by decide, rfl⟩
set_option maxRecDepth 20000 in
theorem cv_X11_back : CV yX11_back cX11_back 5 (some FieldType.int) 1 := ⟨(gd_t5 81 rfl rfl), (gd_t1 1 rfl rfl), (gd_t5 79 rfl rfl), (gd_t5 80 rfl rfl), by decide, by decide, rfl⟩
set_option maxRecDepth 20000 in
theorem cv_X10_setStage : CV yX10_setStage cX10_setStage 4 none 2 := ⟨(gd_t5 86 rfl rfl), (gd_t1 2 rfl rfl), (gd_t5 84 rfl rfl), (gd_t5 85 rfl rfl), by decide, by decide, rfl⟩
set_option maxRecDepth 20000 in
theorem cs_J6_bitCount_0f7a4 : CS yJ6_bitCount_0f7a4 cJ6_bitCount_0f7a4 1 (some FieldType.int) 1 := ⟨(gd_t5 89 rfl rfl), (gd_t1 21 rfl rfl), (gd_t5 88 rfl rfl), by decide, by decide, rfl⟩
set_option maxRecDepth 20000 in
theorem cv_X11_retire : CV yX11_retire cX11_retire 3 (some FieldType.int) 1 := ⟨(gd_t5 96 rfl rfl), (gd_t1 1 rfl rfl), (gd_t5 94 rfl rfl), (gd_t5 95 rfl rfl), by decide, by decide, rfl⟩
set_option maxRecDepth 20000 in
theorem cv_X10_callersOf : CV yX10_callersOf cX10_callersOf 4 (some FieldType.int) 1 := ⟨(gd_t5 100 rfl rfl), (gd_t1 2 rfl rfl), (gd_t5 98 rfl rfl), (gd_t5 99 rfl rfl), by decide, by decide, rfl⟩
set_option maxRecDepth 20000 in
theorem cv_X11_state : CV yX11_state cX11_state 3 (some FieldType.int) 1 := ⟨(gd_t5 104 rfl rfl), (gd_t1 1 rfl rfl), (gd_t5 102 rfl rfl), (gd_t5 103 rfl rfl), by decide, by decide, rfl⟩
set_option maxRecDepth 20000 in
theorem cv_X11_plan : CV yX11_plan cX11_plan 4 (some FieldType.int) 1 := ⟨(gd_t5 108 rfl rfl), (gd_t1 1 rfl rfl), (gd_t5 106 rfl rfl), (gd_t5 107 rfl rfl), by decide, by decide, rfl⟩
set_option maxRecDepth 20000 in
theorem cv_X10_neededBy : CV yX10_neededBy cX10_neededBy 4 (some FieldType.int) 1 := ⟨(gd_t5 112 rfl rfl), (gd_t1 2 rfl rfl), (gd_t5 110 rfl rfl), (gd_t5 111 rfl rfl), by decide, by decide, rfl⟩
set_option maxRecDepth 20000 in
theorem cv_X3_settle : CV yX3_settle cX3_settle 7 (some FieldType.int) 3 := ⟨(gd_t5 116 rfl rfl), (gd_t1 11 rfl rfl), (gd_t5 114 rfl rfl), (gd_t5 115 rfl rfl), by decide, by decide, rfl⟩
set_option maxRecDepth 20000 in
theorem cv_X3_nextBehind : CV yX3_nextBehind cX3_nextBehind 10 (some FieldType.int) 4 := ⟨(gd_t5 120 rfl rfl), (gd_t1 11 rfl rfl), (gd_t5 119 rfl rfl), (gd_of 44 rfl rfl), by decide, by decide, rfl⟩
set_option maxRecDepth 20000 in
theorem cv_X10_priceWith : CV yX10_priceWith cX10_priceWith 5 (some FieldType.int) 1 := ⟨(gd_t5 125 rfl rfl), (gd_t1 2 rfl rfl), (gd_t5 123 rfl rfl), (gd_t5 124 rfl rfl), by decide, by decide, rfl⟩
set_option maxRecDepth 20000 in
theorem cv_X11_planned : CV yX11_planned cX11_planned 2 (some FieldType.int) 1 := ⟨(gd_t5 130 rfl rfl), (gd_t1 1 rfl rfl), (gd_t5 128 rfl rfl), (gd_t5 129 rfl rfl), by decide, by decide, rfl⟩
set_option maxRecDepth 20000 in
theorem cv_X11_form : CV yX11_form cX11_form 3 (some FieldType.int) 2 := ⟨(gd_t5 134 rfl rfl), (gd_t1 1 rfl rfl), (gd_t5 132 rfl rfl), (gd_t5 133 rfl rfl), by decide, by decide, rfl⟩
set_option maxRecDepth 20000 in
theorem cv_X6_reform : CV yX6_reform cX6_reform 4 none 2 := ⟨(gd_t5 138 rfl rfl), (gd_t1 3 rfl rfl), (gd_t5 136 rfl rfl), (gd_t5 137 rfl rfl), by decide, by decide, rfl⟩
set_option maxRecDepth 20000 in
theorem cv_X6_leadOver : CV yX6_leadOver cX6_leadOver 4 (some FieldType.int) 1 := ⟨(gd_t5 142 rfl rfl), (gd_t1 3 rfl rfl), (gd_t5 140 rfl rfl), (gd_t5 141 rfl rfl), by decide, by decide, rfl⟩
set_option maxRecDepth 20000 in
theorem cs_J9_floorMod_7cf53 : CS yJ9_floorMod_7cf53 cJ9_floorMod_7cf53 3 (some FieldType.int) 2 := ⟨(gd_t5 145 rfl rfl), (gd_t1 15 rfl rfl), (gd_t5 144 rfl rfl), by decide, by decide, rfl⟩
set_option maxRecDepth 20000 in
theorem cs_J9_floorDiv_7cf53 : CS yJ9_floorDiv_7cf53 cJ9_floorDiv_7cf53 3 (some FieldType.int) 2 := ⟨(gd_t5 148 rfl rfl), (gd_t1 15 rfl rfl), (gd_t5 147 rfl rfl), by decide, by decide, rfl⟩
set_option maxRecDepth 20000 in
theorem cv_X11_put : CV yX11_put cX11_put 4 (some FieldType.int) 3 := ⟨(gd_t5 152 rfl rfl), (gd_t1 1 rfl rfl), (gd_t5 150 rfl rfl), (gd_t5 151 rfl rfl), by decide, by decide, rfl⟩
set_option maxRecDepth 20000 in
theorem cv_X6_has : CV yX6_has cX6_has 2 (some FieldType.boolean) 1 := ⟨(gd_t5 156 rfl rfl), (gd_t1 3 rfl rfl), (gd_t5 154 rfl rfl), (gd_t5 155 rfl rfl), by decide, by decide, rfl⟩
set_option maxRecDepth 20000 in
theorem cv_X6_enter : CV yX6_enter cX6_enter 5 (some FieldType.int) 3 := ⟨(gd_t5 160 rfl rfl), (gd_t1 3 rfl rfl), (gd_t5 158 rfl rfl), (gd_t5 159 rfl rfl), by decide, by decide, rfl⟩
set_option maxRecDepth 20000 in
theorem cv_X11_lead : CV yX11_lead cX11_lead 2 (some FieldType.int) 1 := ⟨(gd_t5 164 rfl rfl), (gd_t1 1 rfl rfl), (gd_t5 162 rfl rfl), (gd_t5 163 rfl rfl), by decide, by decide, rfl⟩
set_option maxRecDepth 20000 in
theorem cv_X11_row : CV yX11_row cX11_row 3 (some FieldType.int) 2 := ⟨(gd_t5 169 rfl rfl), (gd_t1 1 rfl rfl), (gd_t5 167 rfl rfl), (gd_t5 168 rfl rfl), by decide, by decide, rfl⟩
set_option maxRecDepth 20000 in
theorem cv_X6_tell : CV yX6_tell cX6_tell 3 (some FieldType.int) 2 := ⟨(gd_t5 173 rfl rfl), (gd_t1 3 rfl rfl), (gd_t5 171 rfl rfl), (gd_t5 172 rfl rfl), by decide, by decide, rfl⟩
set_option maxRecDepth 20000 in
theorem cv_X11_check : CV yX11_check cX11_check 1 (some FieldType.int) 0 := ⟨(gd_t5 179 rfl rfl), (gd_t1 1 rfl rfl), (gd_t5 177 rfl rfl), (gd_t5 178 rfl rfl), by decide, by decide, rfl⟩
set_option maxRecDepth 20000 in
theorem cv_X6_agreement : CV yX6_agreement cX6_agreement 4 (some FieldType.int) 0 := ⟨(gd_t5 183 rfl rfl), (gd_t1 3 rfl rfl), (gd_t5 181 rfl rfl), (gd_t5 182 rfl rfl), by decide, by decide, rfl⟩
set_option maxRecDepth 20000 in
theorem cv_X11_count : CV yX11_count cX11_count 2 (some FieldType.int) 1 := ⟨(gd_t5 187 rfl rfl), (gd_t1 1 rfl rfl), (gd_t5 185 rfl rfl), (gd_t5 186 rfl rfl), by decide, by decide, rfl⟩
set_option maxRecDepth 20000 in
theorem cv_X10_linesOfAll : CV yX10_linesOfAll cX10_linesOfAll 3 (some FieldType.int) 0 := ⟨(gd_t5 191 rfl rfl), (gd_t1 2 rfl rfl), (gd_t5 189 rfl rfl), (gd_t5 190 rfl rfl), by decide, by decide, rfl⟩
set_option maxRecDepth 20000 in
theorem cv_X10_casesOfAll : CV yX10_casesOfAll cX10_casesOfAll 3 (some FieldType.int) 0 := ⟨(gd_t5 195 rfl rfl), (gd_t1 2 rfl rfl), (gd_t5 193 rfl rfl), (gd_t5 194 rfl rfl), by decide, by decide, rfl⟩
set_option maxRecDepth 20000 in
theorem cv_X10_heapsNotJudged : CV yX10_heapsNotJudged cX10_heapsNotJudged 3 (some FieldType.int) 0 := ⟨(gd_t5 199 rfl rfl), (gd_t1 2 rfl rfl), (gd_t5 197 rfl rfl), (gd_t5 198 rfl rfl), by decide, by decide, rfl⟩
set_option maxRecDepth 20000 in
theorem cv_X7_filled : CV yX7_filled cX7_filled 3 (some FieldType.int) 0 := ⟨(gd_t5 203 rfl rfl), (gd_t1 12 rfl rfl), (gd_t5 201 rfl rfl), (gd_t5 202 rfl rfl), by decide, by decide, rfl⟩
set_option maxRecDepth 20000 in
theorem cv_X6_lostOfAll : CV yX6_lostOfAll cX6_lostOfAll 3 (some FieldType.int) 0 := ⟨(gd_t5 208 rfl rfl), (gd_t1 3 rfl rfl), (gd_t5 206 rfl rfl), (gd_t5 207 rfl rfl), by decide, by decide, rfl⟩
set_option maxRecDepth 20000 in
theorem cv_X11_keep : CV yX11_keep cX11_keep 2 (some FieldType.int) 1 := ⟨(gd_t5 212 rfl rfl), (gd_t1 1 rfl rfl), (gd_t5 210 rfl rfl), (gd_t5 211 rfl rfl), by decide, by decide, rfl⟩
set_option maxRecDepth 20000 in
theorem cv_X10_copyFrom : CV yX10_copyFrom cX10_copyFrom 3 none 1 := ⟨(gd_t5 216 rfl rfl), (gd_t1 2 rfl rfl), (gd_t5 214 rfl rfl), (gd_t5 215 rfl rfl), by decide, by decide, rfl⟩
set_option maxRecDepth 20000 in
theorem cv_X4_copyFrom : CV yX4_copyFrom cX4_copyFrom 2 none 1 := ⟨(gd_t5 220 rfl rfl), (gd_t1 4 rfl rfl), (gd_t5 218 rfl rfl), (gd_t5 219 rfl rfl), by decide, by decide, rfl⟩
set_option maxRecDepth 20000 in
theorem cv_X2_copyFrom : CV yX2_copyFrom cX2_copyFrom 2 none 1 := ⟨(gd_t5 224 rfl rfl), (gd_t1 5 rfl rfl), (gd_t5 222 rfl rfl), (gd_t5 223 rfl rfl), by decide, by decide, rfl⟩
set_option maxRecDepth 20000 in
theorem cv_X8_copyFrom : CV yX8_copyFrom cX8_copyFrom 2 none 1 := ⟨(gd_t5 229 rfl rfl), (gd_t1 6 rfl rfl), (gd_t5 227 rfl rfl), (gd_t5 228 rfl rfl), by decide, by decide, rfl⟩
set_option maxRecDepth 20000 in
theorem cv_X1_copyFrom : CV yX1_copyFrom cX1_copyFrom 2 none 1 := ⟨(gd_t5 235 rfl rfl), (gd_t1 7 rfl rfl), (gd_t5 233 rfl rfl), (gd_t5 234 rfl rfl), by decide, by decide, rfl⟩
set_option maxRecDepth 20000 in
theorem cv_X6_copyFrom : CV yX6_copyFrom cX6_copyFrom 2 none 1 := ⟨(gd_t6 2 rfl rfl), (gd_t1 3 rfl rfl), (gd_t6 0 rfl rfl), (gd_t6 1 rfl rfl), by decide, by decide, rfl⟩
set_option maxRecDepth 20000 in
theorem cv_X11_restore : CV yX11_restore cX11_restore 2 (some FieldType.int) 1 := ⟨(gd_t6 7 rfl rfl), (gd_t1 1 rfl rfl), (gd_t6 5 rfl rfl), (gd_t6 6 rfl rfl), by decide, by decide, rfl⟩
set_option maxRecDepth 20000 in
theorem cv_X11_sheet : CV yX11_sheet cX11_sheet 4 (some FieldType.int) 3 := ⟨(gd_t6 11 rfl rfl), (gd_t1 1 rfl rfl), (gd_t6 9 rfl rfl), (gd_t6 10 rfl rfl), by decide, by decide, rfl⟩
set_option maxRecDepth 20000 in
theorem cv_X7_lay : CV yX7_lay cX7_lay 5 none 3 := ⟨(gd_t6 15 rfl rfl), (gd_t1 12 rfl rfl), (gd_t6 13 rfl rfl), (gd_t6 14 rfl rfl), by decide, by decide, rfl⟩
set_option maxRecDepth 20000 in
theorem cv_X11_write : CV yX11_write cX11_write 5 (some FieldType.int) 3 := ⟨(gd_t6 19 rfl rfl), (gd_t1 1 rfl rfl), (gd_t6 17 rfl rfl), (gd_t6 18 rfl rfl), by decide, by decide, rfl⟩
set_option maxRecDepth 20000 in
theorem cv_X7_hasRange : CV yX7_hasRange cX7_hasRange 4 (some FieldType.boolean) 3 := ⟨(gd_t6 23 rfl rfl), (gd_t1 12 rfl rfl), (gd_t6 21 rfl rfl), (gd_t6 22 rfl rfl), by decide, by decide, rfl⟩
set_option maxRecDepth 20000 in
theorem cv_X7_enter : CV yX7_enter cX7_enter 6 none 3 := ⟨(gd_t6 27 rfl rfl), (gd_t1 12 rfl rfl), (gd_t6 25 rfl rfl), (gd_t6 26 rfl rfl), by decide, by decide, rfl⟩
set_option maxRecDepth 20000 in
theorem cv_X11_paste : CV yX11_paste cX11_paste 6 (some FieldType.int) 5 := ⟨(gd_t6 31 rfl rfl), (gd_t1 1 rfl rfl), (gd_t6 29 rfl rfl), (gd_t6 30 rfl rfl), by decide, by decide, rfl⟩
set_option maxRecDepth 20000 in
theorem cv_X7_copy : CV yX7_copy cX7_copy 6 none 5 := ⟨(gd_t6 35 rfl rfl), (gd_t1 12 rfl rfl), (gd_t6 33 rfl rfl), (gd_t6 34 rfl rfl), by decide, by decide, rfl⟩
set_option maxRecDepth 20000 in
theorem ci_X12_init : CI yX12_init cX12_init 3 0 := ⟨(gd_t6 41 rfl rfl), (gd_t1 14 rfl rfl), (gd_t6 40 rfl rfl), rfl, by decide, by decide, rfl⟩
set_option maxRecDepth 20000 in
theorem cs_X12_of : CS yX12_of cX12_of 1 (some FieldType.int) 1 := ⟨(gd_t6 47 rfl rfl), (gd_t1 14 rfl rfl), (gd_t6 46 rfl rfl), by decide, by decide, rfl⟩
set_option maxRecDepth 20000 in
theorem cv_X12_keep : CV yX12_keep cX12_keep 3 (some FieldType.int) 1 := ⟨(gd_t6 214 rfl rfl), (gd_t1 14 rfl rfl), (gd_t6 212 rfl rfl), (gd_t6 213 rfl rfl), by decide, by decide, rfl⟩
set_option maxRecDepth 20000 in
theorem cs_X12_in : CS yX12_in cX12_in 6 (some FieldType.boolean) 3 := ⟨(gd_t6 218 rfl rfl), (gd_t1 14 rfl rfl), (gd_t6 217 rfl rfl), by decide, by decide, rfl⟩
set_option maxRecDepth 20000 in
theorem cv_X12_restore : CV yX12_restore cX12_restore 3 (some FieldType.int) 1 := ⟨(gd_t6 222 rfl rfl), (gd_t1 14 rfl rfl), (gd_t6 220 rfl rfl), (gd_t6 221 rfl rfl), by decide, by decide, rfl⟩
set_option maxRecDepth 20000 in
theorem cv_X12_feed : CV yX12_feed cX12_feed 7 (some FieldType.int) 5 := ⟨(gd_t6 226 rfl rfl), (gd_t1 14 rfl rfl), (gd_t6 224 rfl rfl), (gd_t6 225 rfl rfl), by decide, by decide, rfl⟩
set_option maxRecDepth 20000 in
theorem cv_X12_end : CV yX12_end cX12_end 2 (some FieldType.int) 1 := ⟨(gd_t6 230 rfl rfl), (gd_t1 14 rfl rfl), (gd_t6 228 rfl rfl), (gd_t6 229 rfl rfl), by decide, by decide, rfl⟩
set_option maxRecDepth 20000 in
theorem cv_X12_old : CV yX12_old cX12_old 3 (some FieldType.int) 1 := ⟨(gd_t6 234 rfl rfl), (gd_t1 14 rfl rfl), (gd_t6 232 rfl rfl), (gd_t6 233 rfl rfl), by decide, by decide, rfl⟩
set_option maxRecDepth 20000 in
theorem cs_X12_isProgram : CS yX12_isProgram cX12_isProgram 1 (some FieldType.boolean) 1 := ⟨(gd_t6 237 rfl rfl), (gd_t1 14 rfl rfl), (gd_t6 236 rfl rfl), by decide, by decide, rfl⟩
set_option maxRecDepth 20000 in
theorem cv_X12_stateOf : CV yX12_stateOf cX12_stateOf 2 (some FieldType.int) 1 := ⟨(gd_t7 2 rfl rfl), (gd_t1 14 rfl rfl), (gd_t7 1 rfl rfl), (gd_of 45 rfl rfl), by decide, by decide, rfl⟩
set_option maxRecDepth 20000 in
theorem cv_X12_begins : CV yX12_begins cX12_begins 1 none 0 := ⟨(gd_t7 6 rfl rfl), (gd_t1 14 rfl rfl), (gd_t7 5 rfl rfl), (gd_of 46 rfl rfl), by decide, by decide, rfl⟩
set_option maxRecDepth 20000 in
theorem cv_X12_step : CV yX12_step cX12_step 2 none 0 := ⟨(gd_t7 10 rfl rfl), (gd_t1 14 rfl rfl), (gd_t7 9 rfl rfl), (gd_of 47 rfl rfl), by decide, by decide, rfl⟩
set_option maxRecDepth 20000 in
theorem cv_X12_see : CV yX12_see cX12_see 2 (some FieldType.int) 1 := ⟨(gd_t7 14 rfl rfl), (gd_t1 14 rfl rfl), (gd_t7 13 rfl rfl), (gd_of 48 rfl rfl), by decide, by decide, rfl⟩
set_option maxRecDepth 20000 in
theorem cs_X12_isMark : CS yX12_isMark cX12_isMark 1 (some FieldType.boolean) 1 := ⟨(gd_t7 23 rfl rfl), (gd_t1 14 rfl rfl), (gd_t7 22 rfl rfl), by decide, by decide, rfl⟩
set_option maxRecDepth 20000 in
theorem cv_X12_good : CV yX12_good cX12_good 1 (some FieldType.boolean) 0 := ⟨(gd_t7 27 rfl rfl), (gd_t1 14 rfl rfl), (gd_t7 26 rfl rfl), (gd_of 49 rfl rfl), by decide, by decide, rfl⟩
set_option maxRecDepth 20000 in
theorem cv_X12_readLine : CV yX12_readLine cX12_readLine 4 none 1 := ⟨(gd_t7 31 rfl rfl), (gd_t1 14 rfl rfl), (gd_t7 30 rfl rfl), (gd_of 50 rfl rfl), by decide, by decide, rfl⟩
set_option maxRecDepth 20000 in
theorem cv_X12_wrong : CV yX12_wrong cX12_wrong 2 none 1 := ⟨(gd_t7 35 rfl rfl), (gd_t1 14 rfl rfl), (gd_t7 34 rfl rfl), (gd_of 51 rfl rfl), by decide, by decide, rfl⟩
set_option maxRecDepth 20000 in
theorem cv_X12_needsSign : CV yX12_needsSign cX12_needsSign 2 none 1 := ⟨(gd_t7 40 rfl rfl), (gd_t1 14 rfl rfl), (gd_t7 39 rfl rfl), (gd_of 52 rfl rfl), by decide, by decide, rfl⟩
set_option maxRecDepth 20000 in
theorem cv_X12_takesSign : CV yX12_takesSign cX12_takesSign 3 (some FieldType.boolean) 1 := ⟨(gd_t7 44 rfl rfl), (gd_t1 14 rfl rfl), (gd_t7 43 rfl rfl), (gd_of 53 rfl rfl), by decide, by decide, rfl⟩
set_option maxRecDepth 20000 in
theorem cv_X12_isSign : CV yX12_isSign cX12_isSign 2 (some FieldType.boolean) 1 := ⟨(gd_t7 48 rfl rfl), (gd_t1 14 rfl rfl), (gd_t7 47 rfl rfl), (gd_of 54 rfl rfl), by decide, by decide, rfl⟩
set_option maxRecDepth 20000 in
theorem cv_X12_readAct : CV yX12_readAct cX12_readAct 2 none 1 := ⟨(gd_t7 52 rfl rfl), (gd_t1 14 rfl rfl), (gd_t7 51 rfl rfl), (gd_of 55 rfl rfl), by decide, by decide, rfl⟩
set_option maxRecDepth 20000 in
theorem cv_X12_takes : CV yX12_takes cX12_takes 3 (some FieldType.boolean) 1 := ⟨(gd_t7 57 rfl rfl), (gd_t1 14 rfl rfl), (gd_t7 56 rfl rfl), (gd_of 56 rfl rfl), by decide, by decide, rfl⟩
set_option maxRecDepth 20000 in
theorem cv_X12_is : CV yX12_is cX12_is 4 (some FieldType.boolean) 1 := ⟨(gd_t7 61 rfl rfl), (gd_t1 14 rfl rfl), (gd_t7 60 rfl rfl), (gd_of 57 rfl rfl), by decide, by decide, rfl⟩
set_option maxRecDepth 20000 in
theorem cv_J0_length_8abf5 : CV yJ0_length_8abf5 cJ0_length_8abf5 1 (some FieldType.int) 0 := ⟨(gd_t7 65 rfl rfl), (gd_t1 16 rfl rfl), (gd_t7 63 rfl rfl), (gd_t7 64 rfl rfl), by decide, by decide, rfl⟩
set_option maxRecDepth 20000 in
theorem cv_J0_coder_7d493 : CV yJ0_coder_7d493 cJ0_coder_7d493 1 (some FieldType.byte) 0 := ⟨(gd_t7 69 rfl rfl), (gd_t1 16 rfl rfl), (gd_t7 67 rfl rfl), (gd_t7 68 rfl rfl), by decide, by decide, rfl⟩
set_option maxRecDepth 20000 in
theorem cv_J0_charAt_5068e : CV yJ0_charAt_5068e cJ0_charAt_5068e 2 (some FieldType.char) 1 := ⟨(gd_t7 75 rfl rfl), (gd_t1 16 rfl rfl), (gd_t7 73 rfl rfl), (gd_t7 74 rfl rfl), by decide, by decide, rfl⟩
set_option maxRecDepth 20000 in
theorem cv_J0_isLatin1_aae02 : CV yJ0_isLatin1_aae02 cJ0_isLatin1_aae02 1 (some FieldType.boolean) 0 := ⟨(gd_t7 79 rfl rfl), (gd_t1 16 rfl rfl), (gd_t7 77 rfl rfl), (gd_t7 78 rfl rfl), by decide, by decide, rfl⟩
set_option maxRecDepth 20000 in
theorem cs_J1_charAt_3b067 : CS yJ1_charAt_3b067 cJ1_charAt_3b067 2 (some FieldType.char) 2 := ⟨(gd_t7 82 rfl rfl), (gd_t1 17 rfl rfl), (gd_t7 81 rfl rfl), by decide, by decide, rfl⟩
set_option maxRecDepth 20000 in
theorem cs_J0_checkIndex_df160 : CS yJ0_checkIndex_df160 cJ0_checkIndex_df160 2 none 2 := ⟨(gd_t7 85 rfl rfl), (gd_t1 16 rfl rfl), (gd_t7 84 rfl rfl), by decide, by decide, rfl⟩
set_option maxRecDepth 20000 in
theorem cs_J3_checkIndex_8e157 : CS yJ3_checkIndex_8e157 cJ3_checkIndex_8e157 3 (some FieldType.int) 3 := ⟨(gd_t7 90 rfl rfl), (gd_t1 18 rfl rfl), (gd_t7 89 rfl rfl), by decide, by decide, rfl⟩
set_option maxRecDepth 20000 in
theorem cs_J2_charAt_3b067 : CS yJ2_charAt_3b067 cJ2_charAt_3b067 2 (some FieldType.char) 2 := ⟨(gd_t7 93 rfl rfl), (gd_t1 19 rfl rfl), (gd_t7 92 rfl rfl), by decide, by decide, rfl⟩
set_option maxRecDepth 20000 in
theorem cs_J2_checkIndex_2214a : CS yJ2_checkIndex_2214a cJ2_checkIndex_2214a 2 none 2 := ⟨(gd_t7 96 rfl rfl), (gd_t1 19 rfl rfl), (gd_t7 95 rfl rfl), by decide, by decide, rfl⟩
set_option maxRecDepth 20000 in
theorem cs_J2_length_9d52b : CS yJ2_length_9d52b cJ2_length_9d52b 1 (some FieldType.int) 1 := ⟨(gd_t7 99 rfl rfl), (gd_t1 19 rfl rfl), (gd_t7 98 rfl rfl), by decide, by decide, rfl⟩
set_option maxRecDepth 20000 in
theorem cs_J2_getChar_3b067 : CS yJ2_getChar_3b067 cJ2_getChar_3b067 2 (some FieldType.char) 2 := ⟨(gd_t7 103 rfl rfl), (gd_t1 19 rfl rfl), (gd_t7 102 rfl rfl), by decide, by decide, rfl⟩
set_option maxRecDepth 20000 in
theorem cv_X12_fieldThere : CV yX12_fieldThere cX12_fieldThere 2 (some FieldType.int) 0 := ⟨(gd_t7 113 rfl rfl), (gd_t1 14 rfl rfl), (gd_t7 112 rfl rfl), (gd_of 58 rfl rfl), by decide, by decide, rfl⟩
set_option maxRecDepth 20000 in
theorem cv_X12_fieldHere : CV yX12_fieldHere cX12_fieldHere 1 (some FieldType.int) 0 := ⟨(gd_t7 117 rfl rfl), (gd_t1 14 rfl rfl), (gd_t7 116 rfl rfl), (gd_of 59 rfl rfl), by decide, by decide, rfl⟩
set_option maxRecDepth 20000 in
theorem cv_X12_readSum : CV yX12_readSum cX12_readSum 3 none 0 := ⟨(gd_t7 122 rfl rfl), (gd_t1 14 rfl rfl), (gd_t7 121 rfl rfl), (gd_of 60 rfl rfl), by decide, by decide, rfl⟩
set_option maxRecDepth 20000 in
theorem cv_X12_term : CV yX12_term cX12_term 5 none 2 := ⟨(gd_t7 126 rfl rfl), (gd_t1 14 rfl rfl), (gd_t7 125 rfl rfl), (gd_of 61 rfl rfl), by decide, by decide, rfl⟩
set_option maxRecDepth 20000 in
theorem cv_X12_beginsTerm : CV yX12_beginsTerm cX12_beginsTerm 1 (some FieldType.boolean) 0 := ⟨(gd_t7 130 rfl rfl), (gd_t1 14 rfl rfl), (gd_t7 129 rfl rfl), (gd_of 62 rfl rfl), by decide, by decide, rfl⟩
set_option maxRecDepth 20000 in
theorem cv_X12_number : CV yX12_number cX12_number 4 (some FieldType.int) 2 := ⟨(gd_t7 134 rfl rfl), (gd_t1 14 rfl rfl), (gd_t7 133 rfl rfl), (gd_of 63 rfl rfl), by decide, by decide, rfl⟩
set_option maxRecDepth 20000 in
theorem cs_X12_lays : CS yX12_lays cX12_lays 6 none 5 := ⟨(gd_t7 137 rfl rfl), (gd_t1 14 rfl rfl), (gd_t7 136 rfl rfl), by decide, by decide, rfl⟩
set_option maxRecDepth 20000 in
theorem cv_X12_compared : CV yX12_compared cX12_compared 2 (some FieldType.int) 0 := ⟨(gd_t7 142 rfl rfl), (gd_t1 14 rfl rfl), (gd_t7 141 rfl rfl), (gd_of 64 rfl rfl), by decide, by decide, rfl⟩
set_option maxRecDepth 20000 in
theorem cv_X12_needs : CV yX12_needs cX12_needs 2 none 1 := ⟨(gd_t7 147 rfl rfl), (gd_t1 14 rfl rfl), (gd_t7 146 rfl rfl), (gd_of 65 rfl rfl), by decide, by decide, rfl⟩
set_option maxRecDepth 20000 in
theorem cs_X12_lineAt : CS yX12_lineAt cX12_lineAt 2 (some FieldType.int) 2 := ⟨(gd_t7 151 rfl rfl), (gd_t1 14 rfl rfl), (gd_t7 150 rfl rfl), by decide, by decide, rfl⟩
set_option maxRecDepth 20000 in
theorem cv_X12_fault : CV yX12_fault cX12_fault 2 (some FieldType.int) 1 := ⟨(gd_t7 155 rfl rfl), (gd_t1 14 rfl rfl), (gd_t7 153 rfl rfl), (gd_t7 154 rfl rfl), by decide, by decide, rfl⟩
set_option maxRecDepth 20000 in
theorem cv_X12_renew : CV yX12_renew cX12_renew 4 (some FieldType.int) 1 := ⟨(gd_t7 159 rfl rfl), (gd_t1 14 rfl rfl), (gd_t7 157 rfl rfl), (gd_t7 158 rfl rfl), by decide, by decide, rfl⟩
set_option maxRecDepth 20000 in
theorem cv_X12_readCase : CV yX12_readCase cX12_readCase 3 none 1 := ⟨(gd_t7 163 rfl rfl), (gd_t1 14 rfl rfl), (gd_t7 162 rfl rfl), (gd_of 66 rfl rfl), by decide, by decide, rfl⟩
set_option maxRecDepth 20000 in
theorem cv_X12_readTest : CV yX12_readTest cX12_readTest 5 none 1 := ⟨(gd_t7 169 rfl rfl), (gd_t1 14 rfl rfl), (gd_t7 168 rfl rfl), (gd_of 67 rfl rfl), by decide, by decide, rfl⟩
set_option maxRecDepth 20000 in
theorem cv_X12_readPut : CV yX12_readPut cX12_readPut 4 none 1 := ⟨(gd_t7 174 rfl rfl), (gd_t1 14 rfl rfl), (gd_t7 173 rfl rfl), (gd_of 68 rfl rfl), by decide, by decide, rfl⟩
set_option maxRecDepth 20000 in
theorem cv_X12_isPut : CV yX12_isPut cX12_isPut 5 (some FieldType.boolean) 2 := ⟨(gd_t7 178 rfl rfl), (gd_t1 14 rfl rfl), (gd_t7 177 rfl rfl), (gd_of 69 rfl rfl), by decide, by decide, rfl⟩
set_option maxRecDepth 20000 in
theorem cs_X12_caseAt : CS yX12_caseAt cX12_caseAt 2 (some FieldType.int) 2 := ⟨(gd_t7 181 rfl rfl), (gd_t1 14 rfl rfl), (gd_t7 180 rfl rfl), by decide, by decide, rfl⟩
set_option maxRecDepth 20000 in
theorem cs_X12_testAt : CS yX12_testAt cX12_testAt 3 (some FieldType.int) 3 := ⟨(gd_t7 184 rfl rfl), (gd_t1 14 rfl rfl), (gd_t7 183 rfl rfl), by decide, by decide, rfl⟩
set_option maxRecDepth 20000 in
theorem cs_X12_putAt : CS yX12_putAt cX12_putAt 3 (some FieldType.int) 3 := ⟨(gd_t7 187 rfl rfl), (gd_t1 14 rfl rfl), (gd_t7 186 rfl rfl), by decide, by decide, rfl⟩
set_option maxRecDepth 20000 in
theorem cv_X12_begun : CV yX12_begun cX12_begun 3 none 2 := ⟨(gd_t7 192 rfl rfl), (gd_t1 14 rfl rfl), (gd_t7 191 rfl rfl), (gd_of 70 rfl rfl), by decide, by decide, rfl⟩
set_option maxRecDepth 20000 in
theorem cv_X12_span : CV yX12_span cX12_span 9 (some FieldType.int) 4 := ⟨(gd_t7 196 rfl rfl), (gd_t1 14 rfl rfl), (gd_t7 194 rfl rfl), (gd_t7 195 rfl rfl), by decide, by decide, rfl⟩
set_option maxRecDepth 20000 in
theorem cs_X12_isField : CS yX12_isField cX12_isField 1 (some FieldType.boolean) 1 := ⟨(gd_t7 199 rfl rfl), (gd_t1 14 rfl rfl), (gd_t7 198 rfl rfl), by decide, by decide, rfl⟩
set_option maxRecDepth 20000 in
theorem cs_J9_max_7cf53 : CS yJ9_max_7cf53 cJ9_max_7cf53 2 (some FieldType.int) 2 := ⟨(gd_t7 204 rfl rfl), (gd_t1 15 rfl rfl), (gd_t7 203 rfl rfl), by decide, by decide, rfl⟩
set_option maxRecDepth 20000 in
theorem cv_X12_spanMany : CV yX12_spanMany cX12_spanMany 3 (some FieldType.int) 2 := ⟨(gd_t7 208 rfl rfl), (gd_t1 14 rfl rfl), (gd_t7 207 rfl rfl), (gd_of 71 rfl rfl), by decide, by decide, rfl⟩
set_option maxRecDepth 20000 in
theorem cv_X12_spanLow : CV yX12_spanLow cX12_spanLow 3 (some FieldType.int) 2 := ⟨(gd_t7 212 rfl rfl), (gd_t1 14 rfl rfl), (gd_t7 211 rfl rfl), (gd_of 72 rfl rfl), by decide, by decide, rfl⟩
set_option maxRecDepth 20000 in
theorem cv_X12_run : CV yX12_run cX12_run 4 (some FieldType.int) 2 := ⟨(gd_t7 216 rfl rfl), (gd_t1 14 rfl rfl), (gd_t7 214 rfl rfl), (gd_t7 215 rfl rfl), by decide, by decide, rfl⟩
set_option maxRecDepth 20000 in
theorem cv_X12_hasOld : CV yX12_hasOld cX12_hasOld 2 (some FieldType.boolean) 1 := ⟨(gd_t7 220 rfl rfl), (gd_t1 14 rfl rfl), (gd_t7 219 rfl rfl), (gd_of 73 rfl rfl), by decide, by decide, rfl⟩
set_option maxRecDepth 20000 in
theorem cv_X12_isInput : CV yX12_isInput cX12_isInput 3 (some FieldType.boolean) 2 := ⟨(gd_t7 224 rfl rfl), (gd_t1 14 rfl rfl), (gd_t7 223 rfl rfl), (gd_of 74 rfl rfl), by decide, by decide, rfl⟩
set_option maxRecDepth 20000 in
theorem cv_X12_inputsOf : CV yX12_inputsOf cX12_inputsOf 4 (some FieldType.int) 1 := ⟨(gd_t7 228 rfl rfl), (gd_t1 14 rfl rfl), (gd_t7 227 rfl rfl), (gd_of 75 rfl rfl), by decide, by decide, rfl⟩
set_option maxRecDepth 20000 in
theorem cv_X12_beginsWith : CV yX12_beginsWith cX12_beginsWith 6 none 2 := ⟨(gd_t7 232 rfl rfl), (gd_t1 14 rfl rfl), (gd_t7 231 rfl rfl), (gd_of 76 rfl rfl), by decide, by decide, rfl⟩
set_option maxRecDepth 20000 in
theorem cv_X12_runs : CV yX12_runs cX12_runs 6 (some FieldType.int) 1 := ⟨(gd_t7 236 rfl rfl), (gd_t1 14 rfl rfl), (gd_t7 235 rfl rfl), (gd_of 77 rfl rfl), by decide, by decide, rfl⟩
set_option maxRecDepth 20000 in
theorem cv_X12_worked : CV yX12_worked cX12_worked 6 (some FieldType.int) 3 := ⟨(gd_t8 0 rfl rfl), (gd_t1 14 rfl rfl), (gd_t7 239 rfl rfl), (gd_of 78 rfl rfl), by decide, by decide, rfl⟩
set_option maxRecDepth 20000 in
theorem cs_X12_holds : CS yX12_holds cX12_holds 3 (some FieldType.boolean) 3 := ⟨(gd_t8 5 rfl rfl), (gd_t1 14 rfl rfl), (gd_t8 4 rfl rfl), by decide, by decide, rfl⟩
set_option maxRecDepth 20000 in
theorem cv_X12_lineOf : CV yX12_lineOf cX12_lineOf 4 (some FieldType.int) 2 := ⟨(gd_t8 9 rfl rfl), (gd_t1 14 rfl rfl), (gd_t8 8 rfl rfl), (gd_of 79 rfl rfl), by decide, by decide, rfl⟩
set_option maxRecDepth 20000 in
theorem cv_X12_runNew : CV yX12_runNew cX12_runNew 4 (some FieldType.int) 2 := ⟨(gd_t8 13 rfl rfl), (gd_t1 14 rfl rfl), (gd_t8 11 rfl rfl), (gd_t8 12 rfl rfl), by decide, by decide, rfl⟩
set_option maxRecDepth 20000 in
theorem cv_X12_hasNew : CV yX12_hasNew cX12_hasNew 2 (some FieldType.boolean) 1 := ⟨(gd_t8 17 rfl rfl), (gd_t1 14 rfl rfl), (gd_t8 16 rfl rfl), (gd_of 80 rfl rfl), by decide, by decide, rfl⟩
set_option maxRecDepth 20000 in
theorem cv_X12_runsNew : CV yX12_runsNew cX12_runsNew 4 (some FieldType.int) 1 := ⟨(gd_t8 21 rfl rfl), (gd_t1 14 rfl rfl), (gd_t8 20 rfl rfl), (gd_of 81 rfl rfl), by decide, by decide, rfl⟩
set_option maxRecDepth 20000 in
theorem cv_X12_isCase : CV yX12_isCase cX12_isCase 5 (some FieldType.boolean) 2 := ⟨(gd_t8 25 rfl rfl), (gd_t1 14 rfl rfl), (gd_t8 24 rfl rfl), (gd_of 82 rfl rfl), by decide, by decide, rfl⟩
set_option maxRecDepth 20000 in
theorem cv_X12_field : CV yX12_field cX12_field 2 (some FieldType.int) 1 := ⟨(gd_t8 29 rfl rfl), (gd_t1 14 rfl rfl), (gd_t8 27 rfl rfl), (gd_t8 28 rfl rfl), by decide, by decide, rfl⟩
set_option maxRecDepth 20000 in
theorem cv_X12_did : CV yX12_did cX12_did 1 (some FieldType.int) 0 := ⟨(gd_t8 33 rfl rfl), (gd_t1 14 rfl rfl), (gd_t8 31 rfl rfl), (gd_t8 32 rfl rfl), by decide, by decide, rfl⟩
set_option maxRecDepth 20000 in
theorem cv_X12_ways : CV yX12_ways cX12_ways 4 (some FieldType.int) 1 := ⟨(gd_t8 37 rfl rfl), (gd_t1 14 rfl rfl), (gd_t8 35 rfl rfl), (gd_t8 36 rfl rfl), by decide, by decide, rfl⟩
set_option maxRecDepth 20000 in
theorem cv_X12_findWays : CV yX12_findWays cX12_findWays 6 (some FieldType.boolean) 1 := ⟨(gd_t8 41 rfl rfl), (gd_t1 14 rfl rfl), (gd_t8 40 rfl rfl), (gd_of 83 rfl rfl), by decide, by decide, rfl⟩
set_option maxRecDepth 20000 in
theorem cv_X12_isWay : CV yX12_isWay cX12_isWay 4 (some FieldType.boolean) 2 := ⟨(gd_t8 45 rfl rfl), (gd_t1 14 rfl rfl), (gd_t8 44 rfl rfl), (gd_of 84 rfl rfl), by decide, by decide, rfl⟩
set_option maxRecDepth 20000 in
theorem cv_X12_makesWay : CV yX12_makesWay cX12_makesWay 5 none 2 := ⟨(gd_t8 49 rfl rfl), (gd_t1 14 rfl rfl), (gd_t8 48 rfl rfl), (gd_of 85 rfl rfl), by decide, by decide, rfl⟩
set_option maxRecDepth 20000 in
theorem cv_X12_madeAtFirst : CV yX12_madeAtFirst cX12_madeAtFirst 3 none 1 := ⟨(gd_t8 53 rfl rfl), (gd_t1 14 rfl rfl), (gd_t8 52 rfl rfl), (gd_of 86 rfl rfl), by decide, by decide, rfl⟩
set_option maxRecDepth 20000 in
theorem cv_X12_makes : CV yX12_makes cX12_makes 4 none 1 := ⟨(gd_t8 57 rfl rfl), (gd_t1 14 rfl rfl), (gd_t8 56 rfl rfl), (gd_of 87 rfl rfl), by decide, by decide, rfl⟩
set_option maxRecDepth 20000 in
theorem cv_X12_way : CV yX12_way cX12_way 4 (some FieldType.int) 3 := ⟨(gd_t8 61 rfl rfl), (gd_t1 14 rfl rfl), (gd_t8 59 rfl rfl), (gd_t8 60 rfl rfl), by decide, by decide, rfl⟩
set_option maxRecDepth 20000 in
theorem cv_X12_rule : CV yX12_rule cX12_rule 4 (some FieldType.int) 3 := ⟨(gd_t8 65 rfl rfl), (gd_t1 14 rfl rfl), (gd_t8 63 rfl rfl), (gd_t8 64 rfl rfl), by decide, by decide, rfl⟩
set_option maxRecDepth 20000 in
theorem cv_X12_dead : CV yX12_dead cX12_dead 1 (some FieldType.int) 0 := ⟨(gd_t8 71 rfl rfl), (gd_t1 14 rfl rfl), (gd_t8 69 rfl rfl), (gd_t8 70 rfl rfl), by decide, by decide, rfl⟩
set_option maxRecDepth 20000 in
theorem cv_X12_kinds : CV yX12_kinds cX12_kinds 5 (some FieldType.int) 0 := ⟨(gd_t8 75 rfl rfl), (gd_t1 14 rfl rfl), (gd_t8 73 rfl rfl), (gd_t8 74 rfl rfl), by decide, by decide, rfl⟩
set_option maxRecDepth 20000 in
theorem cv_X12_areAlike : CV yX12_areAlike cX12_areAlike 4 (some FieldType.boolean) 2 := ⟨(gd_t8 79 rfl rfl), (gd_t1 14 rfl rfl), (gd_t8 78 rfl rfl), (gd_of 88 rfl rfl), by decide, by decide, rfl⟩
set_option maxRecDepth 20000 in
theorem cv_X12_make : CV yX12_make cX12_make 5 (some FieldType.int) 1 := ⟨(gd_t8 83 rfl rfl), (gd_t1 14 rfl rfl), (gd_t8 81 rfl rfl), (gd_t8 82 rfl rfl), by decide, by decide, rfl⟩
set_option maxRecDepth 20000 in
theorem cv_X12_holdsAll : CV yX12_holdsAll cX12_holdsAll 5 none 2 := ⟨(gd_t8 87 rfl rfl), (gd_t1 14 rfl rfl), (gd_t8 86 rfl rfl), (gd_of 89 rfl rfl), by decide, by decide, rfl⟩
set_option maxRecDepth 20000 in
theorem cv_X12_madeCase : CV yX12_madeCase cX12_madeCase 9 none 3 := ⟨(gd_t8 91 rfl rfl), (gd_t1 14 rfl rfl), (gd_t8 90 rfl rfl), (gd_of 90 rfl rfl), by decide, by decide, rfl⟩
set_option maxRecDepth 20000 in
theorem cv_X12_held : CV yX12_held cX12_held 4 (some FieldType.boolean) 3 := ⟨(gd_t8 95 rfl rfl), (gd_t1 14 rfl rfl), (gd_t8 94 rfl rfl), (gd_of 91 rfl rfl), by decide, by decide, rfl⟩
set_option maxRecDepth 20000 in
theorem cv_X12_wish : CV yX12_wish cX12_wish 6 (some FieldType.int) 4 := ⟨(gd_t8 99 rfl rfl), (gd_t1 14 rfl rfl), (gd_t8 97 rfl rfl), (gd_t8 98 rfl rfl), by decide, by decide, rfl⟩
set_option maxRecDepth 20000 in
theorem cv_X12_isCasing : CV yX12_isCasing cX12_isCasing 3 (some FieldType.boolean) 2 := ⟨(gd_t8 103 rfl rfl), (gd_t1 14 rfl rfl), (gd_t8 102 rfl rfl), (gd_of 92 rfl rfl), by decide, by decide, rfl⟩
set_option maxRecDepth 20000 in
theorem cv_X12_putOf : CV yX12_putOf cX12_putOf 5 (some FieldType.int) 3 := ⟨(gd_t8 107 rfl rfl), (gd_t1 14 rfl rfl), (gd_t8 106 rfl rfl), (gd_of 93 rfl rfl), by decide, by decide, rfl⟩
set_option maxRecDepth 20000 in
theorem cv_X12_casing : CV yX12_casing cX12_casing 8 (some FieldType.int) 5 := ⟨(gd_t8 111 rfl rfl), (gd_t1 14 rfl rfl), (gd_t8 109 rfl rfl), (gd_t8 110 rfl rfl), by decide, by decide, rfl⟩
set_option maxRecDepth 20000 in
theorem cv_X12_unlike : CV yX12_unlike cX12_unlike 4 (some FieldType.int) 1 := ⟨(gd_t8 116 rfl rfl), (gd_t1 14 rfl rfl), (gd_t8 114 rfl rfl), (gd_t8 115 rfl rfl), by decide, by decide, rfl⟩
set_option maxRecDepth 20000 in
theorem cv_X12_hasBoth : CV yX12_hasBoth cX12_hasBoth 2 (some FieldType.boolean) 1 := ⟨(gd_t8 120 rfl rfl), (gd_t1 14 rfl rfl), (gd_t8 119 rfl rfl), (gd_of 94 rfl rfl), by decide, by decide, rfl⟩
set_option maxRecDepth 20000 in
theorem cv_X12_unlikeAt : CV yX12_unlikeAt cX12_unlikeAt 5 (some FieldType.int) 2 := ⟨(gd_t8 124 rfl rfl), (gd_t1 14 rfl rfl), (gd_t8 123 rfl rfl), (gd_of 95 rfl rfl), by decide, by decide, rfl⟩
set_option maxRecDepth 20000 in
theorem cv_X12_parts : CV yX12_parts cX12_parts 4 (some FieldType.int) 2 := ⟨(gd_t8 128 rfl rfl), (gd_t1 14 rfl rfl), (gd_t8 126 rfl rfl), (gd_t8 127 rfl rfl), by decide, by decide, rfl⟩
set_option maxRecDepth 20000 in
theorem cv_X12_where : CV yX12_where cX12_where 3 (some FieldType.int) 2 := ⟨(gd_t8 132 rfl rfl), (gd_t1 14 rfl rfl), (gd_t8 130 rfl rfl), (gd_t8 131 rfl rfl), by decide, by decide, rfl⟩
set_option maxRecDepth 20000 in
theorem cv_X12_night : CV yX12_night cX12_night 5 (some FieldType.int) 2 := ⟨(gd_t8 136 rfl rfl), (gd_t1 14 rfl rfl), (gd_t8 134 rfl rfl), (gd_t8 135 rfl rfl), by decide, by decide, rfl⟩
set_option maxRecDepth 20000 in
theorem cs_X12_isSlot : CS yX12_isSlot cX12_isSlot 1 (some FieldType.boolean) 1 := ⟨(gd_t8 139 rfl rfl), (gd_t1 14 rfl rfl), (gd_t8 138 rfl rfl), by decide, by decide, rfl⟩
set_option maxRecDepth 20000 in
theorem cv_X12_heaps : CV yX12_heaps cX12_heaps 6 (some FieldType.boolean) 2 := ⟨(gd_t8 144 rfl rfl), (gd_t1 14 rfl rfl), (gd_t8 143 rfl rfl), (gd_of 96 rfl rfl), by decide, by decide, rfl⟩
set_option maxRecDepth 20000 in
theorem cv_X12_heapFor : CV yX12_heapFor cX12_heapFor 8 (some FieldType.int) 5 := ⟨(gd_t8 148 rfl rfl), (gd_t1 14 rfl rfl), (gd_t8 147 rfl rfl), (gd_of 97 rfl rfl), by decide, by decide, rfl⟩
set_option maxRecDepth 20000 in
theorem cv_X12_heaps_ : CV yX12_heaps_ cX12_heaps_ 1 (some FieldType.int) 0 := ⟨(gd_t8 153 rfl rfl), (gd_t1 14 rfl rfl), (gd_t8 151 rfl rfl), (gd_t8 152 rfl rfl), by decide, by decide, rfl⟩
set_option maxRecDepth 20000 in
theorem cv_X12_heap : CV yX12_heap cX12_heap 3 (some FieldType.int) 2 := ⟨(gd_t8 157 rfl rfl), (gd_t1 14 rfl rfl), (gd_t8 155 rfl rfl), (gd_t8 156 rfl rfl), by decide, by decide, rfl⟩
set_option maxRecDepth 20000 in
theorem cv_X12_judge : CV yX12_judge cX12_judge 5 (some FieldType.int) 2 := ⟨(gd_t8 162 rfl rfl), (gd_t1 14 rfl rfl), (gd_t8 160 rfl rfl), (gd_t8 161 rfl rfl), by decide, by decide, rfl⟩
set_option maxRecDepth 20000 in
theorem cv_X12_calls : CV yX12_calls cX12_calls 6 (some FieldType.int) 3 := ⟨(gd_t8 166 rfl rfl), (gd_t1 14 rfl rfl), (gd_t8 164 rfl rfl), (gd_t8 165 rfl rfl), by decide, by decide, rfl⟩
set_option maxRecDepth 20000 in
theorem cv_X12_needs_ : CV yX12_needs_ cX12_needs_ 3 (some FieldType.int) 2 := ⟨(gd_t8 170 rfl rfl), (gd_t1 14 rfl rfl), (gd_t8 168 rfl rfl), (gd_t8 169 rfl rfl), by decide, by decide, rfl⟩
set_option maxRecDepth 20000 in
theorem cv_X12_needing : CV yX12_needing cX12_needing 7 (some FieldType.int) 1 := ⟨(gd_t8 174 rfl rfl), (gd_t1 14 rfl rfl), (gd_t8 173 rfl rfl), (gd_of 98 rfl rfl), by decide, by decide, rfl⟩
set_option maxRecDepth 20000 in
theorem cv_X12_isNeed : CV yX12_isNeed cX12_isNeed 3 (some FieldType.boolean) 2 := ⟨(gd_t8 178 rfl rfl), (gd_t1 14 rfl rfl), (gd_t8 177 rfl rfl), (gd_of 99 rfl rfl), by decide, by decide, rfl⟩
set_option maxRecDepth 20000 in
theorem cv_X12_live : CV yX12_live cX12_live 3 (some FieldType.int) 1 := ⟨(gd_t8 183 rfl rfl), (gd_t1 14 rfl rfl), (gd_t8 181 rfl rfl), (gd_t8 182 rfl rfl), by decide, by decide, rfl⟩
set_option maxRecDepth 20000 in
theorem cv_X12_isOver : CV yX12_isOver cX12_isOver 2 (some FieldType.boolean) 1 := ⟨(gd_t8 187 rfl rfl), (gd_t1 14 rfl rfl), (gd_t8 186 rfl rfl), (gd_of 100 rfl rfl), by decide, by decide, rfl⟩
set_option maxRecDepth 20000 in
theorem cv_X12_back : CV yX12_back cX12_back 5 (some FieldType.int) 1 := ⟨(gd_t8 191 rfl rfl), (gd_t1 14 rfl rfl), (gd_t8 189 rfl rfl), (gd_t8 190 rfl rfl), by decide, by decide, rfl⟩
set_option maxRecDepth 20000 in
theorem cv_X12_retire : CV yX12_retire cX12_retire 3 (some FieldType.int) 1 := ⟨(gd_t8 195 rfl rfl), (gd_t1 14 rfl rfl), (gd_t8 193 rfl rfl), (gd_t8 194 rfl rfl), by decide, by decide, rfl⟩
set_option maxRecDepth 20000 in
theorem cv_X12_state : CV yX12_state cX12_state 2 (some FieldType.int) 1 := ⟨(gd_t8 199 rfl rfl), (gd_t1 14 rfl rfl), (gd_t8 197 rfl rfl), (gd_t8 198 rfl rfl), by decide, by decide, rfl⟩
set_option maxRecDepth 20000 in
theorem cv_X12_plan : CV yX12_plan cX12_plan 8 (some FieldType.int) 1 := ⟨(gd_t8 203 rfl rfl), (gd_t1 14 rfl rfl), (gd_t8 201 rfl rfl), (gd_t8 202 rfl rfl), by decide, by decide, rfl⟩
set_option maxRecDepth 20000 in
theorem cv_X12_over : CV yX12_over cX12_over 3 (some FieldType.int) 0 := ⟨(gd_t8 208 rfl rfl), (gd_t1 14 rfl rfl), (gd_t8 207 rfl rfl), (gd_of 101 rfl rfl), by decide, by decide, rfl⟩
set_option maxRecDepth 20000 in
theorem cv_X12_mayBeNext : CV yX12_mayBeNext cX12_mayBeNext 4 (some FieldType.boolean) 2 := ⟨(gd_t8 212 rfl rfl), (gd_t1 14 rfl rfl), (gd_t8 211 rfl rfl), (gd_of 102 rfl rfl), by decide, by decide, rfl⟩
set_option maxRecDepth 20000 in
theorem cv_X12_priceOf : CV yX12_priceOf cX12_priceOf 5 (some FieldType.int) 1 := ⟨(gd_t8 216 rfl rfl), (gd_t1 14 rfl rfl), (gd_t8 215 rfl rfl), (gd_of 103 rfl rfl), by decide, by decide, rfl⟩
set_option maxRecDepth 20000 in
theorem cv_X12_planned : CV yX12_planned cX12_planned 2 (some FieldType.int) 1 := ⟨(gd_t8 220 rfl rfl), (gd_t1 14 rfl rfl), (gd_t8 218 rfl rfl), (gd_t8 219 rfl rfl), by decide, by decide, rfl⟩
set_option maxRecDepth 20000 in
theorem cv_X12_form : CV yX12_form cX12_form 4 (some FieldType.int) 2 := ⟨(gd_t8 224 rfl rfl), (gd_t1 14 rfl rfl), (gd_t8 222 rfl rfl), (gd_t8 223 rfl rfl), by decide, by decide, rfl⟩
set_option maxRecDepth 20000 in
theorem cs_X12_rowAt : CS yX12_rowAt cX12_rowAt 1 (some FieldType.int) 1 := ⟨(gd_t8 228 rfl rfl), (gd_t1 14 rfl rfl), (gd_t8 227 rfl rfl), by decide, by decide, rfl⟩
set_option maxRecDepth 20000 in
theorem cv_X12_leads : CV yX12_leads cX12_leads 3 (some FieldType.int) 1 := ⟨(gd_t8 233 rfl rfl), (gd_t1 14 rfl rfl), (gd_t8 232 rfl rfl), (gd_of 104 rfl rfl), by decide, by decide, rfl⟩
set_option maxRecDepth 20000 in
theorem cv_X12_put : CV yX12_put cX12_put 5 (some FieldType.int) 3 := ⟨(gd_t8 239 rfl rfl), (gd_t1 14 rfl rfl), (gd_t8 237 rfl rfl), (gd_t8 238 rfl rfl), by decide, by decide, rfl⟩
set_option maxRecDepth 20000 in
theorem cs_X12_isRow : CS yX12_isRow cX12_isRow 1 (some FieldType.boolean) 1 := ⟨(gd_t9 2 rfl rfl), (gd_t1 14 rfl rfl), (gd_t9 1 rfl rfl), by decide, by decide, rfl⟩
set_option maxRecDepth 20000 in
theorem cv_X12_lead : CV yX12_lead cX12_lead 2 (some FieldType.int) 1 := ⟨(gd_t9 7 rfl rfl), (gd_t1 14 rfl rfl), (gd_t9 5 rfl rfl), (gd_t9 6 rfl rfl), by decide, by decide, rfl⟩
set_option maxRecDepth 20000 in
theorem cv_X12_row : CV yX12_row cX12_row 3 (some FieldType.int) 2 := ⟨(gd_t9 11 rfl rfl), (gd_t1 14 rfl rfl), (gd_t9 9 rfl rfl), (gd_t9 10 rfl rfl), by decide, by decide, rfl⟩
set_option maxRecDepth 20000 in
theorem cv_X12_check : CV yX12_check cX12_check 5 (some FieldType.int) 0 := ⟨(gd_t9 15 rfl rfl), (gd_t1 14 rfl rfl), (gd_t9 13 rfl rfl), (gd_t9 14 rfl rfl), by decide, by decide, rfl⟩
set_option maxRecDepth 20000 in
theorem cv_X12_count : CV yX12_count cX12_count 4 (some FieldType.int) 1 := ⟨(gd_t9 19 rfl rfl), (gd_t1 14 rfl rfl), (gd_t9 17 rfl rfl), (gd_t9 18 rfl rfl), by decide, by decide, rfl⟩
set_option maxRecDepth 20000 in
theorem cv_X12_statesOf : CV yX12_statesOf cX12_statesOf 4 (some FieldType.int) 1 := ⟨(gd_t9 23 rfl rfl), (gd_t1 14 rfl rfl), (gd_t9 22 rfl rfl), (gd_of 105 rfl rfl), by decide, by decide, rfl⟩
set_option maxRecDepth 20000 in
theorem cv_X12_sheet : CV yX12_sheet cX12_sheet 5 (some FieldType.int) 3 := ⟨(gd_t9 27 rfl rfl), (gd_t1 14 rfl rfl), (gd_t9 25 rfl rfl), (gd_t9 26 rfl rfl), by decide, by decide, rfl⟩
set_option maxRecDepth 20000 in
theorem cv_X12_write : CV yX12_write cX12_write 5 (some FieldType.int) 3 := ⟨(gd_t9 31 rfl rfl), (gd_t1 14 rfl rfl), (gd_t9 29 rfl rfl), (gd_t9 30 rfl rfl), by decide, by decide, rfl⟩
set_option maxRecDepth 20000 in
theorem cs_X12_cut : CS yX12_cut cX12_cut 4 (some FieldType.long) 2 := ⟨(gd_t9 34 rfl rfl), (gd_t1 14 rfl rfl), (gd_t9 33 rfl rfl), by decide, by decide, rfl⟩
set_option maxRecDepth 20000 in
theorem cv_X12_paste : CV yX12_paste cX12_paste 7 (some FieldType.int) 5 := ⟨(gd_t9 38 rfl rfl), (gd_t1 14 rfl rfl), (gd_t9 36 rfl rfl), (gd_t9 37 rfl rfl), by decide, by decide, rfl⟩
set_option maxRecDepth 20000 in
theorem lk_L_9 : LKm RL 9 yX11_init := Or.inl (gd_t1 24 rfl rfl)
set_option maxRecDepth 20000 in
theorem lk_X11_9 : LKm RX11 9 yX10_init := Or.inl (gd_t1 32 rfl rfl)
set_option maxRecDepth 20000 in
theorem lk_X10_29 : LKm RX10 29 yX6_init := Or.inr ⟨"CarriedWorks", (ne_t1 40 rfl rfl)⟩
set_option maxRecDepth 20000 in
theorem lk_X10_34 : LKm RX10 34 yX4_init := Or.inr ⟨"CarriedWorks", (ne_t1 56 rfl rfl)⟩
set_option maxRecDepth 20000 in
theorem lk_X4_20 : LKm RX4 20 yX2_init := Or.inr ⟨"CarriedWorks", (ne_t1 62 rfl rfl)⟩
set_option maxRecDepth 20000 in
theorem lk_X2_35 : LKm RX2 35 yX8_init := Or.inl (gd_t1 68 rfl rfl)
set_option maxRecDepth 20000 in
theorem lk_X4_27 : LKm RX4 27 yX1_init := Or.inr ⟨"CarriedWorks", (ne_t1 145 rfl rfl)⟩
set_option maxRecDepth 20000 in
theorem lk_X1_29 : LKm RX1 29 yX8_init := Or.inl (gd_t1 150 rfl rfl)
set_option maxRecDepth 20000 in
theorem lk_X10_35 : LKm RX10 35 yJ7_fill_53178 := Or.inl (gd_t1 237 rfl rfl)
set_option maxRecDepth 20000 in
theorem lk_X11_26 : LKm RX11 26 yX5_init := Or.inr ⟨"CarriedWorks", (ne_t2 37 rfl rfl)⟩
set_option maxRecDepth 20000 in
theorem lk_X5_34 : LKm RX5 34 yX2_init := Or.inr ⟨"CarriedWorks", (ne_t2 42 rfl rfl)⟩
set_option maxRecDepth 20000 in
theorem lk_X5_41 : LKm RX5 41 yX1_init := Or.inr ⟨"CarriedWorks", (ne_t2 44 rfl rfl)⟩
set_option maxRecDepth 20000 in
theorem lk_X11_33 : LKm RX11 33 yX0_init := Or.inr ⟨"CarriedWorks", (ne_t2 91 rfl rfl)⟩
set_option maxRecDepth 20000 in
theorem lk_X11_43 : LKm RX11 43 yX3_init := Or.inr ⟨"CarriedWorks", (ne_t2 136 rfl rfl)⟩
set_option maxRecDepth 20000 in
theorem lk_X11_50 : LKm RX11 50 yX7_init := Or.inl (gd_t2 154 rfl rfl)
set_option maxRecDepth 20000 in
theorem lk_X7_22 : LKm RX7 22 yJ7_fill_53178 := Or.inl (gd_t2 158 rfl rfl)
set_option maxRecDepth 20000 in
theorem lk_X11_65 : LKm RX11 65 yX9_init := Or.inr ⟨"CarriedWorks", (ne_t2 174 rfl rfl)⟩
set_option maxRecDepth 20000 in
theorem lk_L_13 : LKm RL 13 yX11_feed := Or.inl (gd_t3 17 rfl rfl)
set_option maxRecDepth 20000 in
theorem lk_X11_73 : LKm RX11 73 yX5_hasRoom := Or.inl (gd_t3 21 rfl rfl)
set_option maxRecDepth 20000 in
theorem lk_X11_77 : LKm RX11 77 yX5_add := Or.inl (gd_t3 25 rfl rfl)
set_option maxRecDepth 20000 in
theorem lk_L_18 : LKm RL 18 yX11_end := Or.inl (gd_t3 29 rfl rfl)
set_option maxRecDepth 20000 in
theorem lk_L_23 : LKm RL 23 yX11_old := Or.inl (gd_t3 33 rfl rfl)
set_option maxRecDepth 20000 in
theorem lk_X11_84 : LKm RX11 84 yX11_programAt := Or.inl (gd_t3 37 rfl rfl)
set_option maxRecDepth 20000 in
theorem lk_X11_257 : LKm RX11 257 yX11_isProgram := Or.inl (gd_t3 41 rfl rfl)
set_option maxRecDepth 20000 in
theorem lk_X11_93 : LKm RX11 93 yX5_readsOld := Or.inl (gd_t3 44 rfl rfl)
set_option maxRecDepth 20000 in
theorem lk_X5_49 : LKm RX5 49 yX5_begin := Or.inl (gd_t3 48 rfl rfl)
set_option maxRecDepth 20000 in
theorem lk_X5_76 : LKm RX5 76 yX5_split := Or.inl (gd_t3 52 rfl rfl)
set_option maxRecDepth 20000 in
theorem lk_X5_85 : LKm RX5 85 yX5_splitOff := Or.inl (gd_t3 56 rfl rfl)
set_option maxRecDepth 20000 in
theorem lk_X5_89 : LKm RX5 89 yX5_isSmall := Or.inl (gd_t3 60 rfl rfl)
set_option maxRecDepth 20000 in
theorem lk_X5_92 : LKm RX5 92 yX5_wordKind := Or.inl (gd_t3 63 rfl rfl)
set_option maxRecDepth 20000 in
theorem lk_X5_95 : LKm RX5 95 yX5_isDigit := Or.inl (gd_t3 67 rfl rfl)
set_option maxRecDepth 20000 in
theorem lk_X5_98 : LKm RX5 98 yX5_numberOf := Or.inl (gd_t3 70 rfl rfl)
set_option maxRecDepth 20000 in
theorem lk_X5_104 : LKm RX5 104 yJ9_min_7cf53 := Or.inl (gd_t3 74 rfl rfl)
set_option maxRecDepth 20000 in
theorem lk_X5_101 : LKm RX5 101 yX5_isSign := Or.inl (gd_t3 77 rfl rfl)
set_option maxRecDepth 20000 in
theorem lk_X5_52 : LKm RX5 52 yX2_clear := Or.inl (gd_t3 80 rfl rfl)
set_option maxRecDepth 20000 in
theorem lk_X2_46 : LKm RX2 46 yX8_clear := Or.inl (gd_t3 84 rfl rfl)
set_option maxRecDepth 20000 in
theorem lk_X5_58 : LKm RX5 58 yX5_readLine := Or.inl (gd_t3 88 rfl rfl)
set_option maxRecDepth 20000 in
theorem lk_X5_70 : LKm RX5 70 yX5_fail := Or.inl (gd_t3 92 rfl rfl)
set_option maxRecDepth 20000 in
theorem lk_X5_115 : LKm RX5 115 yX5_take := Or.inl (gd_t3 96 rfl rfl)
set_option maxRecDepth 20000 in
theorem lk_X5_118 : LKm RX5 118 yX5_readAct := Or.inl (gd_t3 100 rfl rfl)
set_option maxRecDepth 20000 in
theorem lk_X5_124 : LKm RX5 124 yX5_readSet := Or.inl (gd_t3 104 rfl rfl)
set_option maxRecDepth 20000 in
theorem lk_X5_136 : LKm RX5 136 yX5_readSum := Or.inl (gd_t3 108 rfl rfl)
set_option maxRecDepth 20000 in
theorem lk_X5_210 : LKm RX5 210 yJ7_fill_53178 := Or.inl (gd_t3 112 rfl rfl)
set_option maxRecDepth 20000 in
theorem lk_X5_187 : LKm RX5 187 yX5_readTerm := Or.inl (gd_t3 113 rfl rfl)
set_option maxRecDepth 20000 in
theorem lk_X5_155 : LKm RX5 155 yX8_add := Or.inl (gd_t3 119 rfl rfl)
set_option maxRecDepth 20000 in
theorem lk_X8_31 : LKm RX8 31 yX8_addCell := Or.inl (gd_t3 123 rfl rfl)
set_option maxRecDepth 20000 in
theorem lk_X5_127 : LKm RX5 127 yX5_readIf := Or.inl (gd_t3 127 rfl rfl)
set_option maxRecDepth 20000 in
theorem lk_X5_159 : LKm RX5 159 yX5_takeOp := Or.inl (gd_t3 131 rfl rfl)
set_option maxRecDepth 20000 in
theorem lk_X5_163 : LKm RX5 163 yX5_takeNumber := Or.inl (gd_t3 135 rfl rfl)
set_option maxRecDepth 20000 in
theorem lk_X5_130 : LKm RX5 130 yX5_readGo := Or.inl (gd_t3 139 rfl rfl)
set_option maxRecDepth 20000 in
theorem lk_X5_62 : LKm RX5 62 yX2_findTargets := Or.inl (gd_t3 143 rfl rfl)
set_option maxRecDepth 20000 in
theorem lk_X2_49 : LKm RX2 49 yX2_lineWith := Or.inl (gd_t3 147 rfl rfl)
set_option maxRecDepth 20000 in
theorem lk_L_27 : LKm RL 27 yX11_renew := Or.inl (gd_t3 151 rfl rfl)
set_option maxRecDepth 20000 in
theorem lk_X11_107 : LKm RX11 107 yX4_mayChange := Or.inl (gd_t3 155 rfl rfl)
set_option maxRecDepth 20000 in
theorem lk_X11_110 : LKm RX11 110 yX5_readsNew := Or.inl (gd_t3 159 rfl rfl)
set_option maxRecDepth 20000 in
theorem lk_X5_69 : LKm RX5 69 yX1_clear := Or.inl (gd_t3 163 rfl rfl)
set_option maxRecDepth 20000 in
theorem lk_X1_44 : LKm RX1 44 yX8_clear := Or.inl (gd_t3 167 rfl rfl)
set_option maxRecDepth 20000 in
theorem lk_X5_73 : LKm RX5 73 yX5_readCase := Or.inl (gd_t3 168 rfl rfl)
set_option maxRecDepth 20000 in
theorem lk_X5_175 : LKm RX5 175 yX1_beginCase := Or.inl (gd_t3 172 rfl rfl)
set_option maxRecDepth 20000 in
theorem lk_X5_178 : LKm RX5 178 yX5_readTests := Or.inl (gd_t3 176 rfl rfl)
set_option maxRecDepth 20000 in
theorem lk_X5_184 : LKm RX5 184 yX5_readTest := Or.inl (gd_t3 180 rfl rfl)
set_option maxRecDepth 20000 in
theorem lk_X5_191 : LKm RX5 191 yX1_beginTest := Or.inl (gd_t3 184 rfl rfl)
set_option maxRecDepth 20000 in
theorem lk_X1_67 : LKm RX1 67 yX8_addCell := Or.inl (gd_t3 188 rfl rfl)
set_option maxRecDepth 20000 in
theorem lk_X5_181 : LKm RX5 181 yX5_readPuts := Or.inl (gd_t3 189 rfl rfl)
set_option maxRecDepth 20000 in
theorem lk_X5_196 : LKm RX5 196 yX1_beginPuts := Or.inl (gd_t3 193 rfl rfl)
set_option maxRecDepth 20000 in
theorem lk_X5_199 : LKm RX5 199 yX5_readPut := Or.inl (gd_t3 197 rfl rfl)
set_option maxRecDepth 20000 in
theorem lk_X5_203 : LKm RX5 203 yX1_putOf := Or.inl (gd_t3 201 rfl rfl)
set_option maxRecDepth 20000 in
theorem lk_X1_85 : LKm RX1 85 yX8_behind := Or.inl (gd_t3 205 rfl rfl)
set_option maxRecDepth 20000 in
theorem lk_X5_206 : LKm RX5 206 yX1_beginPut := Or.inl (gd_t3 209 rfl rfl)
set_option maxRecDepth 20000 in
theorem lk_X11_113 : LKm RX11 113 yX11_takeNewText := Or.inl (gd_t3 213 rfl rfl)
set_option maxRecDepth 20000 in
theorem lk_L_31 : LKm RL 31 yX11_fault := Or.inl (gd_t3 217 rfl rfl)
set_option maxRecDepth 20000 in
theorem lk_L_35 : LKm RL 35 yX11_span := Or.inl (gd_t3 221 rfl rfl)
set_option maxRecDepth 20000 in
theorem lk_X11_130 : LKm RX11 130 yX11_isField := Or.inl (gd_t3 225 rfl rfl)
set_option maxRecDepth 20000 in
theorem lk_X11_133 : LKm RX11 133 yX11_isEdge := Or.inl (gd_t3 228 rfl rfl)
set_option maxRecDepth 20000 in
theorem lk_X11_136 : LKm RX11 136 yX4_spans := Or.inl (gd_t3 231 rfl rfl)
set_option maxRecDepth 20000 in
theorem lk_X4_69 : LKm RX4 69 yX4_removeSpan := Or.inl (gd_t3 235 rfl rfl)
set_option maxRecDepth 20000 in
theorem lk_X4_73 : LKm RX4 73 yX4_openSpan := Or.inl (gd_t3 239 rfl rfl)
set_option maxRecDepth 20000 in
theorem lk_L_40 : LKm RL 40 yX11_run := Or.inl (gd_t4 3 rfl rfl)
set_option maxRecDepth 20000 in
theorem lk_X11_150 : LKm RX11 150 yX4_hasInput := Or.inl (gd_t4 7 rfl rfl)
set_option maxRecDepth 20000 in
theorem lk_X11_153 : LKm RX11 153 yX0_goOld := Or.inl (gd_t4 11 rfl rfl)
set_option maxRecDepth 20000 in
theorem lk_X0_27 : LKm RX0 27 yX4_beginFields := Or.inl (gd_t4 15 rfl rfl)
set_option maxRecDepth 20000 in
theorem lk_X4_76 : LKm RX4 76 yJ7_fill_53178 := Or.inl (gd_t4 19 rfl rfl)
set_option maxRecDepth 20000 in
theorem lk_X0_37 : LKm RX0 37 yX0_goThrough := Or.inl (gd_t4 20 rfl rfl)
set_option maxRecDepth 20000 in
theorem lk_X0_48 : LKm RX0 48 yJ7_fill_53178 := Or.inl (gd_t4 24 rfl rfl)
set_option maxRecDepth 20000 in
theorem lk_X0_65 : LKm RX0 65 yX0_doLine := Or.inl (gd_t4 25 rfl rfl)
set_option maxRecDepth 20000 in
theorem lk_X0_79 : LKm RX0 79 yX8_valueAt := Or.inl (gd_t4 29 rfl rfl)
set_option maxRecDepth 20000 in
theorem lk_X0_85 : LKm RX0 85 yX11_isInRange := Or.inr ⟨"CarriedWorks", (ne_t4 33 rfl rfl)⟩
set_option maxRecDepth 20000 in
theorem lk_X0_95 : LKm RX0 95 yX11_holds := Or.inr ⟨"CarriedWorks", (ne_t4 36 rfl rfl)⟩
set_option maxRecDepth 20000 in
theorem lk_X0_99 : LKm RX0 99 yX0_addTurn := Or.inl (gd_t4 39 rfl rfl)
set_option maxRecDepth 20000 in
theorem lk_X0_106 : LKm RX0 106 yX0_jump := Or.inl (gd_t4 43 rfl rfl)
set_option maxRecDepth 20000 in
theorem lk_X11_160 : LKm RX11 160 yX11_remember := Or.inl (gd_t4 47 rfl rfl)
set_option maxRecDepth 20000 in
theorem lk_L_45 : LKm RL 45 yX11_runNew := Or.inl (gd_t4 54 rfl rfl)
set_option maxRecDepth 20000 in
theorem lk_X11_168 : LKm RX11 168 yX0_goNew := Or.inl (gd_t4 58 rfl rfl)
set_option maxRecDepth 20000 in
theorem lk_X0_118 : LKm RX0 118 yX1_leaveOthersOut := Or.inl (gd_t4 62 rfl rfl)
set_option maxRecDepth 20000 in
theorem lk_X0_122 : LKm RX0 122 yX1_caseWith := Or.inl (gd_t4 66 rfl rfl)
set_option maxRecDepth 20000 in
theorem lk_X1_89 : LKm RX1 89 yX1_turnsSo := Or.inl (gd_t4 70 rfl rfl)
set_option maxRecDepth 20000 in
theorem lk_X0_129 : LKm RX0 129 yX1_caseFor := Or.inl (gd_t4 74 rfl rfl)
set_option maxRecDepth 20000 in
theorem lk_X1_70 : LKm RX1 70 yX1_countsFor := Or.inl (gd_t4 78 rfl rfl)
set_option maxRecDepth 20000 in
theorem lk_X1_77 : LKm RX1 77 yX8_valueAt := Or.inl (gd_t4 82 rfl rfl)
set_option maxRecDepth 20000 in
theorem lk_X1_81 : LKm RX1 81 yX11_holds := Or.inr ⟨"CarriedWorks", (ne_t4 83 rfl rfl)⟩
set_option maxRecDepth 20000 in
theorem lk_X0_132 : LKm RX0 132 yX0_doPuts := Or.inl (gd_t4 84 rfl rfl)
set_option maxRecDepth 20000 in
theorem lk_X0_152 : LKm RX0 152 yX8_behind := Or.inl (gd_t4 89 rfl rfl)
set_option maxRecDepth 20000 in
theorem lk_L_49 : LKm RL 49 yX11_field := Or.inl (gd_t4 90 rfl rfl)
set_option maxRecDepth 20000 in
theorem lk_L_53 : LKm RL 53 yX11_did := Or.inl (gd_t4 94 rfl rfl)
set_option maxRecDepth 20000 in
theorem lk_L_58 : LKm RL 58 yX11_ways := Or.inl (gd_t4 98 rfl rfl)
set_option maxRecDepth 20000 in
theorem lk_X11_174 : LKm RX11 174 yX9_collect := Or.inl (gd_t4 102 rfl rfl)
set_option maxRecDepth 20000 in
theorem lk_X9_72 : LKm RX9 72 yX0_goOld := Or.inl (gd_t4 107 rfl rfl)
set_option maxRecDepth 20000 in
theorem lk_X9_78 : LKm RX9 78 yX9_wayLike := Or.inl (gd_t4 108 rfl rfl)
set_option maxRecDepth 20000 in
theorem lk_X9_89 : LKm RX9 89 yX9_isLike := Or.inl (gd_t4 112 rfl rfl)
set_option maxRecDepth 20000 in
theorem lk_X9_82 : LKm RX9 82 yX9_addWay := Or.inl (gd_t4 116 rfl rfl)
set_option maxRecDepth 20000 in
theorem lk_X9_102 : LKm RX9 102 yX1_isFull := Or.inl (gd_t4 120 rfl rfl)
set_option maxRecDepth 20000 in
theorem lk_X9_108 : LKm RX9 108 yX9_workOut := Or.inl (gd_t4 124 rfl rfl)
set_option maxRecDepth 20000 in
theorem lk_X9_129 : LKm RX9 129 yJ7_fill_53178 := Or.inl (gd_t4 128 rfl rfl)
set_option maxRecDepth 20000 in
theorem lk_X9_146 : LKm RX9 146 yX8_valueByLetters := Or.inl (gd_t4 129 rfl rfl)
set_option maxRecDepth 20000 in
theorem lk_X8_35 : LKm RX8 35 yJ7_fill_53178 := Or.inl (gd_t4 133 rfl rfl)
set_option maxRecDepth 20000 in
theorem lk_X9_112 : LKm RX9 112 yX1_beginCase := Or.inl (gd_t4 134 rfl rfl)
set_option maxRecDepth 20000 in
theorem lk_X9_121 : LKm RX9 121 yX1_addTurns := Or.inl (gd_t4 135 rfl rfl)
set_option maxRecDepth 20000 in
theorem lk_X9_125 : LKm RX9 125 yX9_addPuts := Or.inl (gd_t4 140 rfl rfl)
set_option maxRecDepth 20000 in
theorem lk_X9_155 : LKm RX9 155 yX1_beginPuts := Or.inl (gd_t4 144 rfl rfl)
set_option maxRecDepth 20000 in
theorem lk_X9_158 : LKm RX9 158 yX1_beginPut := Or.inl (gd_t4 145 rfl rfl)
set_option maxRecDepth 20000 in
theorem lk_X9_163 : LKm RX9 163 yX8_add := Or.inl (gd_t4 146 rfl rfl)
set_option maxRecDepth 20000 in
theorem lk_L_62 : LKm RL 62 yX11_way := Or.inl (gd_t4 147 rfl rfl)
set_option maxRecDepth 20000 in
theorem lk_X11_179 : LKm RX11 179 yX9_tell := Or.inl (gd_t4 151 rfl rfl)
set_option maxRecDepth 20000 in
theorem lk_L_67 : LKm RL 67 yX11_rule := Or.inl (gd_t4 155 rfl rfl)
set_option maxRecDepth 20000 in
theorem lk_X11_183 : LKm RX11 183 yX9_coefficient := Or.inl (gd_t4 159 rfl rfl)
set_option maxRecDepth 20000 in
theorem lk_X9_167 : LKm RX9 167 yX11_isField := Or.inr ⟨"CarriedWorks", (ne_t4 163 rfl rfl)⟩
set_option maxRecDepth 20000 in
theorem lk_L_71 : LKm RL 71 yX11_dead := Or.inl (gd_t4 165 rfl rfl)
set_option maxRecDepth 20000 in
theorem lk_L_75 : LKm RL 75 yX11_kinds := Or.inl (gd_t4 169 rfl rfl)
set_option maxRecDepth 20000 in
theorem lk_X11_189 : LKm RX11 189 yX9_distinct := Or.inl (gd_t4 173 rfl rfl)
set_option maxRecDepth 20000 in
theorem lk_X9_172 : LKm RX9 172 yX9_hasKindAhead := Or.inl (gd_t4 177 rfl rfl)
set_option maxRecDepth 20000 in
theorem lk_X9_175 : LKm RX9 175 yX9_isOneKind := Or.inl (gd_t4 181 rfl rfl)
set_option maxRecDepth 20000 in
theorem lk_L_79 : LKm RL 79 yX11_make := Or.inl (gd_t4 185 rfl rfl)
set_option maxRecDepth 20000 in
theorem lk_X11_194 : LKm RX11 194 yX4_spannedBits := Or.inl (gd_t4 189 rfl rfl)
set_option maxRecDepth 20000 in
theorem lk_X11_197 : LKm RX11 197 yX1_beginMade := Or.inl (gd_t4 193 rfl rfl)
set_option maxRecDepth 20000 in
theorem lk_X1_47 : LKm RX1 47 yX1_clear := Or.inl (gd_t4 197 rfl rfl)
set_option maxRecDepth 20000 in
theorem lk_L_83 : LKm RL 83 yX11_wish := Or.inl (gd_t4 198 rfl rfl)
set_option maxRecDepth 20000 in
theorem lk_X11_200 : LKm RX11 200 yX1_putOf := Or.inl (gd_t4 202 rfl rfl)
set_option maxRecDepth 20000 in
theorem lk_X11_208 : LKm RX11 208 yX8_addAlone := Or.inl (gd_t4 203 rfl rfl)
set_option maxRecDepth 20000 in
theorem lk_L_87 : LKm RL 87 yX11_casing := Or.inl (gd_t4 207 rfl rfl)
set_option maxRecDepth 20000 in
theorem lk_X11_218 : LKm RX11 218 yX1_tell := Or.inl (gd_t4 212 rfl rfl)
set_option maxRecDepth 20000 in
theorem lk_X1_93 : LKm RX1 93 yX1_putAt := Or.inl (gd_t4 217 rfl rfl)
set_option maxRecDepth 20000 in
theorem lk_X1_97 : LKm RX1 97 yX11_isField := Or.inr ⟨"CarriedWorks", (ne_t4 221 rfl rfl)⟩
set_option maxRecDepth 20000 in
theorem lk_X1_101 : LKm RX1 101 yX8_timesOf := Or.inl (gd_t4 222 rfl rfl)
set_option maxRecDepth 20000 in
theorem lk_L_91 : LKm RL 91 yX11_unlike := Or.inl (gd_t4 226 rfl rfl)
set_option maxRecDepth 20000 in
theorem lk_X11_221 : LKm RX11 221 yX4_hasBoth := Or.inl (gd_t4 230 rfl rfl)
set_option maxRecDepth 20000 in
theorem lk_X11_224 : LKm RX11 224 yX11_unlikeBits := Or.inl (gd_t4 234 rfl rfl)
set_option maxRecDepth 20000 in
theorem lk_L_95 : LKm RL 95 yX11_parts := Or.inl (gd_t4 238 rfl rfl)
set_option maxRecDepth 20000 in
theorem lk_L_99 : LKm RL 99 yX11_where := Or.inl (gd_t5 2 rfl rfl)
set_option maxRecDepth 20000 in
theorem lk_L_103 : LKm RL 103 yX11_night := Or.inl (gd_t5 6 rfl rfl)
set_option maxRecDepth 20000 in
theorem lk_X11_228 : LKm RX11 228 yX7_isSlot := Or.inl (gd_t5 10 rfl rfl)
set_option maxRecDepth 20000 in
theorem lk_X11_231 : LKm RX11 231 yX7_hasNumbers := Or.inl (gd_t5 14 rfl rfl)
set_option maxRecDepth 20000 in
theorem lk_X11_237 : LKm RX11 237 yX7_number := Or.inl (gd_t5 18 rfl rfl)
set_option maxRecDepth 20000 in
theorem lk_X11_241 : LKm RX11 241 yX11_heapsInput := Or.inl (gd_t5 22 rfl rfl)
set_option maxRecDepth 20000 in
theorem lk_X11_380 : LKm RX11 380 yX10_heapFor := Or.inl (gd_t5 26 rfl rfl)
set_option maxRecDepth 20000 in
theorem lk_X11_383 : LKm RX11 383 yX10_heapUp := Or.inl (gd_t5 30 rfl rfl)
set_option maxRecDepth 20000 in
theorem lk_L_107 : LKm RL 107 yX11_heaps := Or.inl (gd_t5 34 rfl rfl)
set_option maxRecDepth 20000 in
theorem lk_L_111 : LKm RL 111 yX11_heap := Or.inl (gd_t5 38 rfl rfl)
set_option maxRecDepth 20000 in
theorem lk_X11_251 : LKm RX11 251 yX10_hasHeap := Or.inl (gd_t5 42 rfl rfl)
set_option maxRecDepth 20000 in
theorem lk_L_115 : LKm RL 115 yX11_judge := Or.inl (gd_t5 46 rfl rfl)
set_option maxRecDepth 20000 in
theorem lk_L_119 : LKm RL 119 yX11_calls := Or.inl (gd_t5 50 rfl rfl)
set_option maxRecDepth 20000 in
theorem lk_L_123 : LKm RL 123 yX11_needs := Or.inl (gd_t5 54 rfl rfl)
set_option maxRecDepth 20000 in
theorem lk_X11_263 : LKm RX11 263 yX10_needersOf := Or.inl (gd_t5 58 rfl rfl)
set_option maxRecDepth 20000 in
theorem lk_L_127 : LKm RL 127 yX11_live := Or.inl (gd_t5 62 rfl rfl)
set_option maxRecDepth 20000 in
theorem lk_X11_270 : LKm RX11 270 yX4_mayGoLive := Or.inl (gd_t5 66 rfl rfl)
set_option maxRecDepth 20000 in
theorem lk_X11_273 : LKm RX11 273 yX10_overBits := Or.inl (gd_t5 70 rfl rfl)
set_option maxRecDepth 20000 in
theorem lk_X10_67 : LKm RX10 67 yX10_bitsOf := Or.inl (gd_t5 74 rfl rfl)
set_option maxRecDepth 20000 in
theorem lk_L_131 : LKm RL 131 yX11_back := Or.inl (gd_t5 78 rfl rfl)
set_option maxRecDepth 20000 in
theorem lk_X11_276 : LKm RX11 276 yX10_bitsOf := Or.inl (gd_t5 82 rfl rfl)
set_option maxRecDepth 20000 in
theorem lk_X11_279 : LKm RX11 279 yX10_setStage := Or.inl (gd_t5 83 rfl rfl)
set_option maxRecDepth 20000 in
theorem lk_X11_282 : LKm RX11 282 yJ6_bitCount_0f7a4 := Or.inl (gd_t5 87 rfl rfl)
set_option maxRecDepth 20000 in
theorem lk_L_135 : LKm RL 135 yX11_retire := Or.inl (gd_t5 93 rfl rfl)
set_option maxRecDepth 20000 in
theorem lk_X11_287 : LKm RX11 287 yX10_callersOf := Or.inl (gd_t5 97 rfl rfl)
set_option maxRecDepth 20000 in
theorem lk_L_139 : LKm RL 139 yX11_state := Or.inl (gd_t5 101 rfl rfl)
set_option maxRecDepth 20000 in
theorem lk_L_143 : LKm RL 143 yX11_plan := Or.inl (gd_t5 105 rfl rfl)
set_option maxRecDepth 20000 in
theorem lk_X11_290 : LKm RX11 290 yX10_neededBy := Or.inl (gd_t5 109 rfl rfl)
set_option maxRecDepth 20000 in
theorem lk_X11_293 : LKm RX11 293 yX3_settle := Or.inl (gd_t5 113 rfl rfl)
set_option maxRecDepth 20000 in
theorem lk_X3_18 : LKm RX3 18 yX3_nextBehind := Or.inl (gd_t5 117 rfl rfl)
set_option maxRecDepth 20000 in
theorem lk_X3_22 : LKm RX3 22 yX10_priceWith := Or.inl (gd_t5 122 rfl rfl)
set_option maxRecDepth 20000 in
theorem lk_X3_28 : LKm RX3 28 yJ6_bitCount_0f7a4 := Or.inl (gd_t5 126 rfl rfl)
set_option maxRecDepth 20000 in
theorem lk_L_147 : LKm RL 147 yX11_planned := Or.inl (gd_t5 127 rfl rfl)
set_option maxRecDepth 20000 in
theorem lk_L_151 : LKm RL 151 yX11_form := Or.inl (gd_t5 131 rfl rfl)
set_option maxRecDepth 20000 in
theorem lk_X11_305 : LKm RX11 305 yX6_reform := Or.inl (gd_t5 135 rfl rfl)
set_option maxRecDepth 20000 in
theorem lk_X6_28 : LKm RX6 28 yX6_leadOver := Or.inl (gd_t5 139 rfl rfl)
set_option maxRecDepth 20000 in
theorem lk_X6_32 : LKm RX6 32 yJ9_floorMod_7cf53 := Or.inl (gd_t5 143 rfl rfl)
set_option maxRecDepth 20000 in
theorem lk_X6_38 : LKm RX6 38 yJ9_floorDiv_7cf53 := Or.inl (gd_t5 146 rfl rfl)
set_option maxRecDepth 20000 in
theorem lk_L_155 : LKm RL 155 yX11_put := Or.inl (gd_t5 149 rfl rfl)
set_option maxRecDepth 20000 in
theorem lk_X11_310 : LKm RX11 310 yX6_has := Or.inl (gd_t5 153 rfl rfl)
set_option maxRecDepth 20000 in
theorem lk_X11_313 : LKm RX11 313 yX6_enter := Or.inl (gd_t5 157 rfl rfl)
set_option maxRecDepth 20000 in
theorem lk_L_159 : LKm RL 159 yX11_lead := Or.inl (gd_t5 161 rfl rfl)
set_option maxRecDepth 20000 in
theorem lk_X11_316 : LKm RX11 316 yX6_leadOver := Or.inl (gd_t5 165 rfl rfl)
set_option maxRecDepth 20000 in
theorem lk_L_163 : LKm RL 163 yX11_row := Or.inl (gd_t5 166 rfl rfl)
set_option maxRecDepth 20000 in
theorem lk_X11_319 : LKm RX11 319 yX6_tell := Or.inl (gd_t5 170 rfl rfl)
set_option maxRecDepth 20000 in
theorem lk_X6_41 : LKm RX6 41 yX6_has := Or.inl (gd_t5 174 rfl rfl)
set_option maxRecDepth 20000 in
theorem lk_L_167 : LKm RL 167 yX11_check := Or.inl (gd_t5 176 rfl rfl)
set_option maxRecDepth 20000 in
theorem lk_X11_321 : LKm RX11 321 yX6_agreement := Or.inl (gd_t5 180 rfl rfl)
set_option maxRecDepth 20000 in
theorem lk_L_171 : LKm RL 171 yX11_count := Or.inl (gd_t5 184 rfl rfl)
set_option maxRecDepth 20000 in
theorem lk_X11_324 : LKm RX11 324 yX10_linesOfAll := Or.inl (gd_t5 188 rfl rfl)
set_option maxRecDepth 20000 in
theorem lk_X11_327 : LKm RX11 327 yX10_casesOfAll := Or.inl (gd_t5 192 rfl rfl)
set_option maxRecDepth 20000 in
theorem lk_X11_330 : LKm RX11 330 yX10_heapsNotJudged := Or.inl (gd_t5 196 rfl rfl)
set_option maxRecDepth 20000 in
theorem lk_X11_333 : LKm RX11 333 yX7_filled := Or.inl (gd_t5 200 rfl rfl)
set_option maxRecDepth 20000 in
theorem lk_X7_28 : LKm RX7 28 yX7_hasNumbers := Or.inl (gd_t5 204 rfl rfl)
set_option maxRecDepth 20000 in
theorem lk_X11_336 : LKm RX11 336 yX6_lostOfAll := Or.inl (gd_t5 205 rfl rfl)
set_option maxRecDepth 20000 in
theorem lk_L_175 : LKm RL 175 yX11_keep := Or.inl (gd_t5 209 rfl rfl)
set_option maxRecDepth 20000 in
theorem lk_X11_339 : LKm RX11 339 yX10_copyFrom := Or.inl (gd_t5 213 rfl rfl)
set_option maxRecDepth 20000 in
theorem lk_X10_41 : LKm RX10 41 yX4_copyFrom := Or.inl (gd_t5 217 rfl rfl)
set_option maxRecDepth 20000 in
theorem lk_X4_45 : LKm RX4 45 yX2_copyFrom := Or.inl (gd_t5 221 rfl rfl)
set_option maxRecDepth 20000 in
theorem lk_X2_63 : LKm RX2 63 yX8_copyFrom := Or.inl (gd_t5 226 rfl rfl)
set_option maxRecDepth 20000 in
theorem lk_X8_19 : LKm RX8 19 yJ9_min_7cf53 := Or.inl (gd_t5 230 rfl rfl)
set_option maxRecDepth 20000 in
theorem lk_X4_49 : LKm RX4 49 yX1_copyFrom := Or.inl (gd_t5 232 rfl rfl)
set_option maxRecDepth 20000 in
theorem lk_X1_60 : LKm RX1 60 yX8_copyFrom := Or.inl (gd_t5 236 rfl rfl)
set_option maxRecDepth 20000 in
theorem lk_X10_61 : LKm RX10 61 yX6_copyFrom := Or.inl (gd_t5 239 rfl rfl)
set_option maxRecDepth 20000 in
theorem lk_L_179 : LKm RL 179 yX11_restore := Or.inl (gd_t6 4 rfl rfl)
set_option maxRecDepth 20000 in
theorem lk_L_183 : LKm RL 183 yX11_sheet := Or.inl (gd_t6 8 rfl rfl)
set_option maxRecDepth 20000 in
theorem lk_X11_343 : LKm RX11 343 yX7_lay := Or.inl (gd_t6 12 rfl rfl)
set_option maxRecDepth 20000 in
theorem lk_L_189 : LKm RL 189 yX11_write := Or.inl (gd_t6 16 rfl rfl)
set_option maxRecDepth 20000 in
theorem lk_X11_347 : LKm RX11 347 yX7_hasRange := Or.inl (gd_t6 20 rfl rfl)
set_option maxRecDepth 20000 in
theorem lk_X11_350 : LKm RX11 350 yX7_enter := Or.inl (gd_t6 24 rfl rfl)
set_option maxRecDepth 20000 in
theorem lk_L_194 : LKm RL 194 yX11_paste := Or.inl (gd_t6 28 rfl rfl)
set_option maxRecDepth 20000 in
theorem lk_X11_356 : LKm RX11 356 yX7_copy := Or.inl (gd_t6 32 rfl rfl)
set_option maxRecDepth 20000 in
theorem lk_L_12 : LKm RL 12 yX12_init := Or.inl (gd_t6 39 rfl rfl)
set_option maxRecDepth 20000 in
theorem lk_X12_139 : LKm RX12 139 yX12_of := Or.inl (gd_t6 45 rfl rfl)
set_option maxRecDepth 20000 in
theorem lk_L_178 : LKm RL 178 yX12_keep := Or.inl (gd_t6 211 rfl rfl)
set_option maxRecDepth 20000 in
theorem lk_X12_9 : LKm RX12 9 yX12_in := Or.inl (gd_t6 216 rfl rfl)
set_option maxRecDepth 20000 in
theorem lk_L_182 : LKm RL 182 yX12_restore := Or.inl (gd_t6 219 rfl rfl)
set_option maxRecDepth 20000 in
theorem lk_L_17 : LKm RL 17 yX12_feed := Or.inl (gd_t6 223 rfl rfl)
set_option maxRecDepth 20000 in
theorem lk_L_22 : LKm RL 22 yX12_end := Or.inl (gd_t6 227 rfl rfl)
set_option maxRecDepth 20000 in
theorem lk_L_26 : LKm RL 26 yX12_old := Or.inl (gd_t6 231 rfl rfl)
set_option maxRecDepth 20000 in
theorem lk_X12_272 : LKm RX12 272 yX12_isProgram := Or.inl (gd_t6 235 rfl rfl)
set_option maxRecDepth 20000 in
theorem lk_X12_275 : LKm RX12 275 yX12_stateOf := Or.inl (gd_t6 239 rfl rfl)
set_option maxRecDepth 20000 in
theorem lk_X12_278 : LKm RX12 278 yX12_begins := Or.inl (gd_t7 3 rfl rfl)
set_option maxRecDepth 20000 in
theorem lk_X12_208 : LKm RX12 208 yX12_step := Or.inl (gd_t7 7 rfl rfl)
set_option maxRecDepth 20000 in
theorem lk_X12_156 : LKm RX12 156 yX12_see := Or.inl (gd_t7 11 rfl rfl)
set_option maxRecDepth 20000 in
theorem lk_X12_177 : LKm RX12 177 yJ9_min_7cf53 := Or.inl (gd_t7 20 rfl rfl)
set_option maxRecDepth 20000 in
theorem lk_X12_183 : LKm RX12 183 yX12_isMark := Or.inl (gd_t7 21 rfl rfl)
set_option maxRecDepth 20000 in
theorem lk_X12_190 : LKm RX12 190 yX12_good := Or.inl (gd_t7 24 rfl rfl)
set_option maxRecDepth 20000 in
theorem lk_X12_281 : LKm RX12 281 yX12_readLine := Or.inl (gd_t7 28 rfl rfl)
set_option maxRecDepth 20000 in
theorem lk_X12_214 : LKm RX12 214 yX12_wrong := Or.inl (gd_t7 32 rfl rfl)
set_option maxRecDepth 20000 in
theorem lk_X12_244 : LKm RX12 244 yX12_needsSign := Or.inl (gd_t7 37 rfl rfl)
set_option maxRecDepth 20000 in
theorem lk_X12_221 : LKm RX12 221 yX12_takesSign := Or.inl (gd_t7 41 rfl rfl)
set_option maxRecDepth 20000 in
theorem lk_X12_218 : LKm RX12 218 yX12_isSign := Or.inl (gd_t7 45 rfl rfl)
set_option maxRecDepth 20000 in
theorem lk_X12_247 : LKm RX12 247 yX12_readAct := Or.inl (gd_t7 49 rfl rfl)
set_option maxRecDepth 20000 in
theorem lk_X12_211 : LKm RX12 211 yX12_takes := Or.inl (gd_t7 54 rfl rfl)
set_option maxRecDepth 20000 in
theorem lk_X12_204 : LKm RX12 204 yX12_is := Or.inl (gd_t7 58 rfl rfl)
set_option maxRecDepth 20000 in
theorem lk_X12_194 : LKm RX12 194 yJ0_length_8abf5 := Or.inl (gd_t7 62 rfl rfl)
set_option maxRecDepth 20000 in
theorem lk_J0_335 : LKm RJ0 335 yJ0_coder_7d493 := Or.inl (gd_t7 66 rfl rfl)
set_option maxRecDepth 20000 in
theorem lk_X12_200 : LKm RX12 200 yJ0_charAt_5068e := Or.inl (gd_t7 72 rfl rfl)
set_option maxRecDepth 20000 in
theorem lk_J0_492 : LKm RJ0 492 yJ0_isLatin1_aae02 := Or.inl (gd_t7 76 rfl rfl)
set_option maxRecDepth 20000 in
theorem lk_J0_495 : LKm RJ0 495 yJ1_charAt_3b067 := Or.inl (gd_t7 80 rfl rfl)
set_option maxRecDepth 20000 in
theorem lk_J1_9 : LKm RJ1 9 yJ0_checkIndex_df160 := Or.inl (gd_t7 83 rfl rfl)
set_option maxRecDepth 20000 in
theorem lk_J0_1059 : LKm RJ0 1059 yJ3_checkIndex_8e157 := Or.inl (gd_t7 88 rfl rfl)
set_option maxRecDepth 20000 in
theorem lk_J0_498 : LKm RJ0 498 yJ2_charAt_3b067 := Or.inl (gd_t7 91 rfl rfl)
set_option maxRecDepth 20000 in
theorem lk_J2_67 : LKm RJ2 67 yJ2_checkIndex_2214a := Or.inl (gd_t7 94 rfl rfl)
set_option maxRecDepth 20000 in
theorem lk_J2_48 : LKm RJ2 48 yJ2_length_9d52b := Or.inl (gd_t7 97 rfl rfl)
set_option maxRecDepth 20000 in
theorem lk_J2_414 : LKm RJ2 414 yJ0_checkIndex_df160 := Or.inl (gd_t7 100 rfl rfl)
set_option maxRecDepth 20000 in
theorem lk_J2_71 : LKm RJ2 71 yJ2_getChar_3b067 := Or.inl (gd_t7 101 rfl rfl)
set_option maxRecDepth 20000 in
theorem lk_X12_235 : LKm RX12 235 yX12_fieldThere := Or.inl (gd_t7 110 rfl rfl)
set_option maxRecDepth 20000 in
theorem lk_X12_226 : LKm RX12 226 yX12_fieldHere := Or.inl (gd_t7 114 rfl rfl)
set_option maxRecDepth 20000 in
theorem lk_X12_252 : LKm RX12 252 yX12_readSum := Or.inl (gd_t7 119 rfl rfl)
set_option maxRecDepth 20000 in
theorem lk_X12_238 : LKm RX12 238 yX12_term := Or.inl (gd_t7 123 rfl rfl)
set_option maxRecDepth 20000 in
theorem lk_X12_229 : LKm RX12 229 yX12_beginsTerm := Or.inl (gd_t7 127 rfl rfl)
set_option maxRecDepth 20000 in
theorem lk_X12_232 : LKm RX12 232 yX12_number := Or.inl (gd_t7 131 rfl rfl)
set_option maxRecDepth 20000 in
theorem lk_X12_255 : LKm RX12 255 yX12_lays := Or.inl (gd_t7 135 rfl rfl)
set_option maxRecDepth 20000 in
theorem lk_X12_261 : LKm RX12 261 yX12_compared := Or.inl (gd_t7 139 rfl rfl)
set_option maxRecDepth 20000 in
theorem lk_X12_266 : LKm RX12 266 yX12_needs := Or.inl (gd_t7 144 rfl rfl)
set_option maxRecDepth 20000 in
theorem lk_X12_284 : LKm RX12 284 yX12_lineAt := Or.inl (gd_t7 149 rfl rfl)
set_option maxRecDepth 20000 in
theorem lk_L_34 : LKm RL 34 yX12_fault := Or.inl (gd_t7 152 rfl rfl)
set_option maxRecDepth 20000 in
theorem lk_L_30 : LKm RL 30 yX12_renew := Or.inl (gd_t7 156 rfl rfl)
set_option maxRecDepth 20000 in
theorem lk_X12_307 : LKm RX12 307 yX12_readCase := Or.inl (gd_t7 160 rfl rfl)
set_option maxRecDepth 20000 in
theorem lk_X12_299 : LKm RX12 299 yX12_readTest := Or.inl (gd_t7 166 rfl rfl)
set_option maxRecDepth 20000 in
theorem lk_X12_304 : LKm RX12 304 yX12_readPut := Or.inl (gd_t7 171 rfl rfl)
set_option maxRecDepth 20000 in
theorem lk_X12_287 : LKm RX12 287 yX12_isPut := Or.inl (gd_t7 175 rfl rfl)
set_option maxRecDepth 20000 in
theorem lk_X12_310 : LKm RX12 310 yX12_caseAt := Or.inl (gd_t7 179 rfl rfl)
set_option maxRecDepth 20000 in
theorem lk_X12_313 : LKm RX12 313 yX12_testAt := Or.inl (gd_t7 182 rfl rfl)
set_option maxRecDepth 20000 in
theorem lk_X12_317 : LKm RX12 317 yX12_putAt := Or.inl (gd_t7 185 rfl rfl)
set_option maxRecDepth 20000 in
theorem lk_X12_320 : LKm RX12 320 yX12_begun := Or.inl (gd_t7 189 rfl rfl)
set_option maxRecDepth 20000 in
theorem lk_L_39 : LKm RL 39 yX12_span := Or.inl (gd_t7 193 rfl rfl)
set_option maxRecDepth 20000 in
theorem lk_X12_332 : LKm RX12 332 yX12_isField := Or.inl (gd_t7 197 rfl rfl)
set_option maxRecDepth 20000 in
theorem lk_X12_326 : LKm RX12 326 yJ9_max_7cf53 := Or.inl (gd_t7 202 rfl rfl)
set_option maxRecDepth 20000 in
theorem lk_X12_329 : LKm RX12 329 yX12_spanMany := Or.inl (gd_t7 205 rfl rfl)
set_option maxRecDepth 20000 in
theorem lk_X12_323 : LKm RX12 323 yX12_spanLow := Or.inl (gd_t7 209 rfl rfl)
set_option maxRecDepth 20000 in
theorem lk_L_44 : LKm RL 44 yX12_run := Or.inl (gd_t7 213 rfl rfl)
set_option maxRecDepth 20000 in
theorem lk_X12_366 : LKm RX12 366 yX12_hasOld := Or.inl (gd_t7 217 rfl rfl)
set_option maxRecDepth 20000 in
theorem lk_X12_369 : LKm RX12 369 yX12_isInput := Or.inl (gd_t7 221 rfl rfl)
set_option maxRecDepth 20000 in
theorem lk_X12_339 : LKm RX12 339 yX12_inputsOf := Or.inl (gd_t7 225 rfl rfl)
set_option maxRecDepth 20000 in
theorem lk_X12_372 : LKm RX12 372 yX12_beginsWith := Or.inl (gd_t7 229 rfl rfl)
set_option maxRecDepth 20000 in
theorem lk_X12_375 : LKm RX12 375 yX12_runs := Or.inl (gd_t7 233 rfl rfl)
set_option maxRecDepth 20000 in
theorem lk_X12_345 : LKm RX12 345 yX12_worked := Or.inl (gd_t7 237 rfl rfl)
set_option maxRecDepth 20000 in
theorem lk_X12_353 : LKm RX12 353 yX12_holds := Or.inl (gd_t8 3 rfl rfl)
set_option maxRecDepth 20000 in
theorem lk_X12_357 : LKm RX12 357 yX12_lineOf := Or.inl (gd_t8 6 rfl rfl)
set_option maxRecDepth 20000 in
theorem lk_L_48 : LKm RL 48 yX12_runNew := Or.inl (gd_t8 10 rfl rfl)
set_option maxRecDepth 20000 in
theorem lk_X12_378 : LKm RX12 378 yX12_hasNew := Or.inl (gd_t8 14 rfl rfl)
set_option maxRecDepth 20000 in
theorem lk_X12_381 : LKm RX12 381 yX12_runsNew := Or.inl (gd_t8 18 rfl rfl)
set_option maxRecDepth 20000 in
theorem lk_X12_363 : LKm RX12 363 yX12_isCase := Or.inl (gd_t8 22 rfl rfl)
set_option maxRecDepth 20000 in
theorem lk_L_52 : LKm RL 52 yX12_field := Or.inl (gd_t8 26 rfl rfl)
set_option maxRecDepth 20000 in
theorem lk_L_57 : LKm RL 57 yX12_did := Or.inl (gd_t8 30 rfl rfl)
set_option maxRecDepth 20000 in
theorem lk_L_61 : LKm RL 61 yX12_ways := Or.inl (gd_t8 34 rfl rfl)
set_option maxRecDepth 20000 in
theorem lk_X12_396 : LKm RX12 396 yX12_findWays := Or.inl (gd_t8 38 rfl rfl)
set_option maxRecDepth 20000 in
theorem lk_X12_387 : LKm RX12 387 yX12_isWay := Or.inl (gd_t8 42 rfl rfl)
set_option maxRecDepth 20000 in
theorem lk_X12_408 : LKm RX12 408 yX12_makesWay := Or.inl (gd_t8 46 rfl rfl)
set_option maxRecDepth 20000 in
theorem lk_X12_390 : LKm RX12 390 yX12_madeAtFirst := Or.inl (gd_t8 50 rfl rfl)
set_option maxRecDepth 20000 in
theorem lk_X12_393 : LKm RX12 393 yX12_makes := Or.inl (gd_t8 54 rfl rfl)
set_option maxRecDepth 20000 in
theorem lk_L_66 : LKm RL 66 yX12_way := Or.inl (gd_t8 58 rfl rfl)
set_option maxRecDepth 20000 in
theorem lk_L_70 : LKm RL 70 yX12_rule := Or.inl (gd_t8 62 rfl rfl)
set_option maxRecDepth 20000 in
theorem lk_L_74 : LKm RL 74 yX12_dead := Or.inl (gd_t8 68 rfl rfl)
set_option maxRecDepth 20000 in
theorem lk_L_78 : LKm RL 78 yX12_kinds := Or.inl (gd_t8 72 rfl rfl)
set_option maxRecDepth 20000 in
theorem lk_X12_414 : LKm RX12 414 yX12_areAlike := Or.inl (gd_t8 76 rfl rfl)
set_option maxRecDepth 20000 in
theorem lk_L_82 : LKm RL 82 yX12_make := Or.inl (gd_t8 80 rfl rfl)
set_option maxRecDepth 20000 in
theorem lk_X12_420 : LKm RX12 420 yX12_holdsAll := Or.inl (gd_t8 84 rfl rfl)
set_option maxRecDepth 20000 in
theorem lk_X12_423 : LKm RX12 423 yX12_madeCase := Or.inl (gd_t8 88 rfl rfl)
set_option maxRecDepth 20000 in
theorem lk_X12_417 : LKm RX12 417 yX12_held := Or.inl (gd_t8 92 rfl rfl)
set_option maxRecDepth 20000 in
theorem lk_L_86 : LKm RL 86 yX12_wish := Or.inl (gd_t8 96 rfl rfl)
set_option maxRecDepth 20000 in
theorem lk_X12_427 : LKm RX12 427 yX12_isCasing := Or.inl (gd_t8 100 rfl rfl)
set_option maxRecDepth 20000 in
theorem lk_X12_430 : LKm RX12 430 yX12_putOf := Or.inl (gd_t8 104 rfl rfl)
set_option maxRecDepth 20000 in
theorem lk_L_90 : LKm RL 90 yX12_casing := Or.inl (gd_t8 108 rfl rfl)
set_option maxRecDepth 20000 in
theorem lk_L_94 : LKm RL 94 yX12_unlike := Or.inl (gd_t8 113 rfl rfl)
set_option maxRecDepth 20000 in
theorem lk_X12_435 : LKm RX12 435 yX12_hasBoth := Or.inl (gd_t8 117 rfl rfl)
set_option maxRecDepth 20000 in
theorem lk_X12_438 : LKm RX12 438 yX12_unlikeAt := Or.inl (gd_t8 121 rfl rfl)
set_option maxRecDepth 20000 in
theorem lk_L_98 : LKm RL 98 yX12_parts := Or.inl (gd_t8 125 rfl rfl)
set_option maxRecDepth 20000 in
theorem lk_L_102 : LKm RL 102 yX12_where := Or.inl (gd_t8 129 rfl rfl)
set_option maxRecDepth 20000 in
theorem lk_L_106 : LKm RL 106 yX12_night := Or.inl (gd_t8 133 rfl rfl)
set_option maxRecDepth 20000 in
theorem lk_X12_446 : LKm RX12 446 yX12_isSlot := Or.inl (gd_t8 137 rfl rfl)
set_option maxRecDepth 20000 in
theorem lk_X12_449 : LKm RX12 449 yX12_heaps := Or.inl (gd_t8 141 rfl rfl)
set_option maxRecDepth 20000 in
theorem lk_X12_442 : LKm RX12 442 yX12_heapFor := Or.inl (gd_t8 145 rfl rfl)
set_option maxRecDepth 20000 in
theorem lk_L_110 : LKm RL 110 yX12_heaps_ := Or.inl (gd_t8 150 rfl rfl)
set_option maxRecDepth 20000 in
theorem lk_L_114 : LKm RL 114 yX12_heap := Or.inl (gd_t8 154 rfl rfl)
set_option maxRecDepth 20000 in
theorem lk_L_118 : LKm RL 118 yX12_judge := Or.inl (gd_t8 159 rfl rfl)
set_option maxRecDepth 20000 in
theorem lk_L_122 : LKm RL 122 yX12_calls := Or.inl (gd_t8 163 rfl rfl)
set_option maxRecDepth 20000 in
theorem lk_L_126 : LKm RL 126 yX12_needs_ := Or.inl (gd_t8 167 rfl rfl)
set_option maxRecDepth 20000 in
theorem lk_X12_458 : LKm RX12 458 yX12_needing := Or.inl (gd_t8 171 rfl rfl)
set_option maxRecDepth 20000 in
theorem lk_X12_455 : LKm RX12 455 yX12_isNeed := Or.inl (gd_t8 175 rfl rfl)
set_option maxRecDepth 20000 in
theorem lk_L_130 : LKm RL 130 yX12_live := Or.inl (gd_t8 180 rfl rfl)
set_option maxRecDepth 20000 in
theorem lk_X12_461 : LKm RX12 461 yX12_isOver := Or.inl (gd_t8 184 rfl rfl)
set_option maxRecDepth 20000 in
theorem lk_L_134 : LKm RL 134 yX12_back := Or.inl (gd_t8 188 rfl rfl)
set_option maxRecDepth 20000 in
theorem lk_L_138 : LKm RL 138 yX12_retire := Or.inl (gd_t8 192 rfl rfl)
set_option maxRecDepth 20000 in
theorem lk_L_142 : LKm RL 142 yX12_state := Or.inl (gd_t8 196 rfl rfl)
set_option maxRecDepth 20000 in
theorem lk_L_146 : LKm RL 146 yX12_plan := Or.inl (gd_t8 200 rfl rfl)
set_option maxRecDepth 20000 in
theorem lk_X12_466 : LKm RX12 466 yX12_over := Or.inl (gd_t8 205 rfl rfl)
set_option maxRecDepth 20000 in
theorem lk_X12_469 : LKm RX12 469 yX12_mayBeNext := Or.inl (gd_t8 209 rfl rfl)
set_option maxRecDepth 20000 in
theorem lk_X12_472 : LKm RX12 472 yX12_priceOf := Or.inl (gd_t8 213 rfl rfl)
set_option maxRecDepth 20000 in
theorem lk_L_150 : LKm RL 150 yX12_planned := Or.inl (gd_t8 217 rfl rfl)
set_option maxRecDepth 20000 in
theorem lk_L_154 : LKm RL 154 yX12_form := Or.inl (gd_t8 221 rfl rfl)
set_option maxRecDepth 20000 in
theorem lk_X12_489 : LKm RX12 489 yX12_rowAt := Or.inl (gd_t8 226 rfl rfl)
set_option maxRecDepth 20000 in
theorem lk_X12_492 : LKm RX12 492 yX12_leads := Or.inl (gd_t8 230 rfl rfl)
set_option maxRecDepth 20000 in
theorem lk_X12_481 : LKm RX12 481 yJ9_floorDiv_7cf53 := Or.inl (gd_t8 234 rfl rfl)
set_option maxRecDepth 20000 in
theorem lk_X12_484 : LKm RX12 484 yJ9_floorMod_7cf53 := Or.inl (gd_t8 235 rfl rfl)
set_option maxRecDepth 20000 in
theorem lk_L_158 : LKm RL 158 yX12_put := Or.inl (gd_t8 236 rfl rfl)
set_option maxRecDepth 20000 in
theorem lk_X12_495 : LKm RX12 495 yX12_isRow := Or.inl (gd_t9 0 rfl rfl)
set_option maxRecDepth 20000 in
theorem lk_L_162 : LKm RL 162 yX12_lead := Or.inl (gd_t9 4 rfl rfl)
set_option maxRecDepth 20000 in
theorem lk_L_166 : LKm RL 166 yX12_row := Or.inl (gd_t9 8 rfl rfl)
set_option maxRecDepth 20000 in
theorem lk_L_170 : LKm RL 170 yX12_check := Or.inl (gd_t9 12 rfl rfl)
set_option maxRecDepth 20000 in
theorem lk_L_174 : LKm RL 174 yX12_count := Or.inl (gd_t9 16 rfl rfl)
set_option maxRecDepth 20000 in
theorem lk_X12_498 : LKm RX12 498 yX12_statesOf := Or.inl (gd_t9 20 rfl rfl)
set_option maxRecDepth 20000 in
theorem lk_L_186 : LKm RL 186 yX12_sheet := Or.inl (gd_t9 24 rfl rfl)
set_option maxRecDepth 20000 in
theorem lk_L_193 : LKm RL 193 yX12_write := Or.inl (gd_t9 28 rfl rfl)
set_option maxRecDepth 20000 in
theorem lk_X12_503 : LKm RX12 503 yX12_cut := Or.inl (gd_t9 32 rfl rfl)
set_option maxRecDepth 20000 in
theorem lk_L_197 : LKm RL 197 yX12_paste := Or.inl (gd_t9 35 rfl rfl)
set_option maxRecDepth 20000 in
theorem kn_X9_171 : Cond.constant RX9 171 (-2000000000) ∈ lw_gd := (gd_t4 164 rfl rfl)
set_option maxRecDepth 20000 in
theorem kn_X11_217 : Cond.constant RX11 217 (-2000000000) ∈ lw_gd := (gd_t4 211 rfl rfl)
set_option maxRecDepth 20000 in
theorem kn_X1_92 : Cond.constant RX1 92 (-2000000000) ∈ lw_gd := (gd_t4 216 rfl rfl)
set_option maxRecDepth 20000 in
theorem kn_J6_265 : Cond.constant RJ6 265 (1431655765) ∈ lw_gd := (gd_t5 90 rfl rfl)
set_option maxRecDepth 20000 in
theorem kn_J6_266 : Cond.constant RJ6 266 (858993459) ∈ lw_gd := (gd_t5 91 rfl rfl)
set_option maxRecDepth 20000 in
theorem kn_J6_267 : Cond.constant RJ6 267 (252645135) ∈ lw_gd := (gd_t5 92 rfl rfl)
set_option maxRecDepth 20000 in
theorem kn_X3_37 : Cond.constant RX3 37 (536870912) ∈ lw_gd := (gd_t5 121 rfl rfl)
set_option maxRecDepth 20000 in
theorem kn_X6_45 : Cond.constant RX6 45 (-2000000000) ∈ lw_gd := (gd_t5 175 rfl rfl)
set_option maxRecDepth 20000 in
theorem kn_X12_19 : Cond.constant RX12 19 (414128) ∈ lw_gd := (gd_t6 43 rfl rfl)
set_option maxRecDepth 20000 in
theorem kn_X12_24 : Cond.constant RX12 24 (1242384) ∈ lw_gd := (gd_t6 44 rfl rfl)
set_option maxRecDepth 20000 in
theorem kn_X12_143 : Cond.constant RX12 143 (413480) ∈ lw_gd := (gd_t6 48 rfl rfl)
set_option maxRecDepth 20000 in
theorem kn_X12_145 : Cond.constantLong RX12 145 (2) ∈ lw_gd := (gd_t6 215 rfl rfl)
set_option maxRecDepth 20000 in
theorem kn_X12_7 : Cond.constantLong RX12 7 (7) ∈ lw_gd := (gd_t6 238 rfl rfl)
set_option maxRecDepth 20000 in
theorem kn_X12_165 : Cond.constantLong RX12 165 (97) ∈ lw_gd := (gd_t7 15 rfl rfl)
set_option maxRecDepth 20000 in
theorem kn_X12_167 : Cond.constantLong RX12 167 (122) ∈ lw_gd := (gd_t7 16 rfl rfl)
set_option maxRecDepth 20000 in
theorem kn_X12_169 : Cond.constantLong RX12 169 (48) ∈ lw_gd := (gd_t7 17 rfl rfl)
set_option maxRecDepth 20000 in
theorem kn_X12_171 : Cond.constantLong RX12 171 (57) ∈ lw_gd := (gd_t7 18 rfl rfl)
set_option maxRecDepth 20000 in
theorem kn_X12_176 : Cond.constant RX12 176 (99999) ∈ lw_gd := (gd_t7 19 rfl rfl)
set_option maxRecDepth 20000 in
theorem kn_X12_242 : Cond.constantLong RX12 242 (999) ∈ lw_gd := (gd_t7 36 rfl rfl)
set_option maxRecDepth 20000 in
theorem kn_X12_224 : Cond.constantLong RX12 224 (104) ∈ lw_gd := (gd_t7 118 rfl rfl)
set_option maxRecDepth 20000 in
theorem kn_X12_144 : Cond.constant RX12 144 (387880) ∈ lw_gd := (gd_t7 188 rfl rfl)
set_option maxRecDepth 20000 in
theorem kn_X12_335 : Cond.constantLong RX12 335 (-99) ∈ lw_gd := (gd_t7 200 rfl rfl)
set_option maxRecDepth 20000 in
theorem kn_X12_337 : Cond.constantLong RX12 337 (99) ∈ lw_gd := (gd_t7 201 rfl rfl)
set_option maxRecDepth 20000 in
theorem kn_X12_349 : Cond.constantLong RX12 349 (-9999) ∈ lw_gd := (gd_t8 1 rfl rfl)
set_option maxRecDepth 20000 in
theorem kn_X12_351 : Cond.constantLong RX12 351 (9999) ∈ lw_gd := (gd_t8 2 rfl rfl)
set_option maxRecDepth 20000 in
theorem kn_X12_411 : Cond.constantLong RX12 411 (-1) ∈ lw_gd := (gd_t8 66 rfl rfl)
set_option maxRecDepth 20000 in
theorem kn_X12_413 : Cond.constant RX12 413 (-2000000000) ∈ lw_gd := (gd_t8 67 rfl rfl)
set_option maxRecDepth 20000 in
theorem kn_X12_433 : Cond.constantLong RX12 433 (4) ∈ lw_gd := (gd_t8 112 rfl rfl)
set_option maxRecDepth 20000 in
theorem kn_X12_501 : Cond.constantLong RX12 501 (3) ∈ lw_gd := (gd_t8 140 rfl rfl)
set_option maxRecDepth 20000 in
theorem kn_X12_441 : Cond.constant RX12 441 (413608) ∈ lw_gd := (gd_t8 149 rfl rfl)
set_option maxRecDepth 20000 in
theorem kn_X12_452 : Cond.constantLong RX12 452 (6) ∈ lw_gd := (gd_t8 158 rfl rfl)
set_option maxRecDepth 20000 in
theorem kn_X12_454 : Cond.constant RX12 454 (413544) ∈ lw_gd := (gd_t8 179 rfl rfl)
set_option maxRecDepth 20000 in
theorem kn_X12_464 : Cond.constantLong RX12 464 (255) ∈ lw_gd := (gd_t8 204 rfl rfl)
set_option maxRecDepth 20000 in
theorem kn_X12_487 : Cond.constantLong RX12 487 (9) ∈ lw_gd := (gd_t8 225 rfl rfl)
set_option maxRecDepth 20000 in
theorem kn_X12_478 : Cond.constant RX12 478 (414028) ∈ lw_gd := (gd_t8 229 rfl rfl)
set_option maxRecDepth 20000 in
theorem kn_X12_479 : Cond.constantLong RX12 479 (19) ∈ lw_gd := (gd_t9 3 rfl rfl)
set_option maxRecDepth 20000 in
theorem kn_L_187 : Cond.constantLong RL 187 (4294967295) ∈ lw_gd := (gd_t9 39 rfl rfl)
