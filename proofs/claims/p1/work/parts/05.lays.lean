theorem iw_TX1 : ∀ w ∈ u_ws RX1 TX1 17, w ∈ gx_T := by
  intro w hw
  obtain ⟨j, hj, rfl⟩ := List.mem_map.mp hw
  have hj := List.mem_range.mp hj
  match j, hj with
  | 0, _ => exact gx_in (List.mem_of_getElem? (i := 153) (by decide +kernel)) (by decide +kernel)
  | 1, _ => exact gx_in (List.mem_of_getElem? (i := 155) (by decide +kernel)) (by decide +kernel)
  | 2, _ => exact gx_in (List.mem_of_getElem? (i := 157) (by decide +kernel)) (by decide +kernel)
  | 3, _ => exact gx_in (List.mem_of_getElem? (i := 159) (by decide +kernel)) (by decide +kernel)
  | 4, _ => exact gx_in (List.mem_of_getElem? (i := 161) (by decide +kernel)) (by decide +kernel)
  | 5, _ => exact gx_in (List.mem_of_getElem? (i := 163) (by decide +kernel)) (by decide +kernel)
  | 6, _ => exact gx_in (List.mem_of_getElem? (i := 165) (by decide +kernel)) (by decide +kernel)
  | 7, _ => exact gx_in (List.mem_of_getElem? (i := 167) (by decide +kernel)) (by decide +kernel)
  | 8, _ => exact gx_in (List.mem_of_getElem? (i := 169) (by decide +kernel)) (by decide +kernel)
  | 9, _ => exact gx_in (List.mem_of_getElem? (i := 171) (by decide +kernel)) (by decide +kernel)
  | 10, _ => exact gx_in (List.mem_of_getElem? (i := 173) (by decide +kernel)) (by decide +kernel)
  | 11, _ => exact gx_in (List.mem_of_getElem? (i := 175) (by decide +kernel)) (by decide +kernel)
  | 12, _ => exact gx_in (List.mem_of_getElem? (i := 177) (by decide +kernel)) (by decide +kernel)
  | 13, _ => exact gx_in (List.mem_of_getElem? (i := 179) (by decide +kernel)) (by decide +kernel)
  | 14, _ => exact gx_in (List.mem_of_getElem? (i := 181) (by decide +kernel)) (by decide +kernel)
  | 15, _ => exact gx_in (List.mem_of_getElem? (i := 183) (by decide +kernel)) (by decide +kernel)
  | 16, _ => exact gx_in (List.mem_of_getElem? (i := 185) (by decide +kernel)) (by decide +kernel)
  | j + 17, hj => exact absurd hj (by omega)
theorem iw_TX3 : ∀ w ∈ u_ws RX3 TX3 4, w ∈ gx_T := by
  intro w hw
  obtain ⟨j, hj, rfl⟩ := List.mem_map.mp hw
  have hj := List.mem_range.mp hj
  match j, hj with
  | 0, _ => exact gx_in (List.mem_of_getElem? (i := 261) (by decide +kernel)) (by decide +kernel)
  | 1, _ => exact gx_in (List.mem_of_getElem? (i := 263) (by decide +kernel)) (by decide +kernel)
  | 2, _ => exact gx_in (List.mem_of_getElem? (i := 265) (by decide +kernel)) (by decide +kernel)
  | 3, _ => exact gx_in (List.mem_of_getElem? (i := 267) (by decide +kernel)) (by decide +kernel)
  | j + 4, hj => exact absurd hj (by omega)
theorem iw_TX4 : ∀ w ∈ u_ws RX4 TX4 6, w ∈ gx_T := by
  intro w hw
  obtain ⟨j, hj, rfl⟩ := List.mem_map.mp hw
  have hj := List.mem_range.mp hj
  match j, hj with
  | 0, _ => exact gx_in (List.mem_of_getElem? (i := 203) (by decide +kernel)) (by decide +kernel)
  | 1, _ => exact gx_in (List.mem_of_getElem? (i := 205) (by decide +kernel)) (by decide +kernel)
  | 2, _ => exact gx_in (List.mem_of_getElem? (i := 207) (by decide +kernel)) (by decide +kernel)
  | 3, _ => exact gx_in (List.mem_of_getElem? (i := 209) (by decide +kernel)) (by decide +kernel)
  | 4, _ => exact gx_in (List.mem_of_getElem? (i := 211) (by decide +kernel)) (by decide +kernel)
  | 5, _ => exact gx_in (List.mem_of_getElem? (i := 213) (by decide +kernel)) (by decide +kernel)
  | j + 6, hj => exact absurd hj (by omega)
theorem iw_TX5 : ∀ w ∈ u_ws RX5 TX5 7, w ∈ gx_T := by
  intro w hw
  obtain ⟨j, hj, rfl⟩ := List.mem_map.mp hw
  have hj := List.mem_range.mp hj
  match j, hj with
  | 0, _ => exact gx_in (List.mem_of_getElem? (i := 231) (by decide +kernel)) (by decide +kernel)
  | 1, _ => exact gx_in (List.mem_of_getElem? (i := 233) (by decide +kernel)) (by decide +kernel)
  | 2, _ => exact gx_in (List.mem_of_getElem? (i := 235) (by decide +kernel)) (by decide +kernel)
  | 3, _ => exact gx_in (List.mem_of_getElem? (i := 237) (by decide +kernel)) (by decide +kernel)
  | 4, _ => exact gx_in (List.mem_of_getElem? (i := 239) (by decide +kernel)) (by decide +kernel)
  | 5, _ => exact gx_in (List.mem_of_getElem? (i := 241) (by decide +kernel)) (by decide +kernel)
  | 6, _ => exact gx_in (List.mem_of_getElem? (i := 243) (by decide +kernel)) (by decide +kernel)
  | j + 7, hj => exact absurd hj (by omega)
theorem iw_TX6 : ∀ w ∈ u_ws RX6 TX6 10, w ∈ gx_T := by
  intro w hw
  obtain ⟨j, hj, rfl⟩ := List.mem_map.mp hw
  have hj := List.mem_range.mp hj
  match j, hj with
  | 0, _ => exact gx_in (List.mem_of_getElem? (i := 281) (by decide +kernel)) (by decide +kernel)
  | 1, _ => exact gx_in (List.mem_of_getElem? (i := 283) (by decide +kernel)) (by decide +kernel)
  | 2, _ => exact gx_in (List.mem_of_getElem? (i := 285) (by decide +kernel)) (by decide +kernel)
  | 3, _ => exact gx_in (List.mem_of_getElem? (i := 287) (by decide +kernel)) (by decide +kernel)
  | 4, _ => exact gx_in (List.mem_of_getElem? (i := 289) (by decide +kernel)) (by decide +kernel)
  | 5, _ => exact gx_in (List.mem_of_getElem? (i := 291) (by decide +kernel)) (by decide +kernel)
  | 6, _ => exact gx_in (List.mem_of_getElem? (i := 293) (by decide +kernel)) (by decide +kernel)
  | 7, _ => exact gx_in (List.mem_of_getElem? (i := 295) (by decide +kernel)) (by decide +kernel)
  | 8, _ => exact gx_in (List.mem_of_getElem? (i := 297) (by decide +kernel)) (by decide +kernel)
  | 9, _ => exact gx_in (List.mem_of_getElem? (i := 299) (by decide +kernel)) (by decide +kernel)
  | j + 10, hj => exact absurd hj (by omega)
theorem iw_TX7 : ∀ w ∈ u_ws RX7 TX7 37, w ∈ gx_T := by
  intro w hw
  obtain ⟨j, hj, rfl⟩ := List.mem_map.mp hw
  have hj := List.mem_range.mp hj
  match j, hj with
  | 0, _ => exact gx_in (List.mem_of_getElem? (i := 967) (by decide +kernel)) (by decide +kernel)
  | 1, _ => exact gx_in (List.mem_of_getElem? (i := 969) (by decide +kernel)) (by decide +kernel)
  | 2, _ => exact gx_in (List.mem_of_getElem? (i := 971) (by decide +kernel)) (by decide +kernel)
  | 3, _ => exact gx_in (List.mem_of_getElem? (i := 973) (by decide +kernel)) (by decide +kernel)
  | 4, _ => exact gx_in (List.mem_of_getElem? (i := 975) (by decide +kernel)) (by decide +kernel)
  | 5, _ => exact gx_in (List.mem_of_getElem? (i := 977) (by decide +kernel)) (by decide +kernel)
  | 6, _ => exact gx_in (List.mem_of_getElem? (i := 979) (by decide +kernel)) (by decide +kernel)
  | 7, _ => exact gx_in (List.mem_of_getElem? (i := 981) (by decide +kernel)) (by decide +kernel)
  | 8, _ => exact gx_in (List.mem_of_getElem? (i := 983) (by decide +kernel)) (by decide +kernel)
  | 9, _ => exact gx_in (List.mem_of_getElem? (i := 985) (by decide +kernel)) (by decide +kernel)
  | 10, _ => exact gx_in (List.mem_of_getElem? (i := 987) (by decide +kernel)) (by decide +kernel)
  | 11, _ => exact gx_in (List.mem_of_getElem? (i := 989) (by decide +kernel)) (by decide +kernel)
  | 12, _ => exact gx_in (List.mem_of_getElem? (i := 991) (by decide +kernel)) (by decide +kernel)
  | 13, _ => exact gx_in (List.mem_of_getElem? (i := 993) (by decide +kernel)) (by decide +kernel)
  | 14, _ => exact gx_in (List.mem_of_getElem? (i := 995) (by decide +kernel)) (by decide +kernel)
  | 15, _ => exact gx_in (List.mem_of_getElem? (i := 997) (by decide +kernel)) (by decide +kernel)
  | 16, _ => exact gx_in (List.mem_of_getElem? (i := 999) (by decide +kernel)) (by decide +kernel)
  | 17, _ => exact gx_in (List.mem_of_getElem? (i := 1001) (by decide +kernel)) (by decide +kernel)
  | 18, _ => exact gx_in (List.mem_of_getElem? (i := 1003) (by decide +kernel)) (by decide +kernel)
  | 19, _ => exact gx_in (List.mem_of_getElem? (i := 1005) (by decide +kernel)) (by decide +kernel)
  | 20, _ => exact gx_in (List.mem_of_getElem? (i := 1007) (by decide +kernel)) (by decide +kernel)
  | 21, _ => exact gx_in (List.mem_of_getElem? (i := 1009) (by decide +kernel)) (by decide +kernel)
  | 22, _ => exact gx_in (List.mem_of_getElem? (i := 1011) (by decide +kernel)) (by decide +kernel)
  | 23, _ => exact gx_in (List.mem_of_getElem? (i := 1013) (by decide +kernel)) (by decide +kernel)
  | 24, _ => exact gx_in (List.mem_of_getElem? (i := 1015) (by decide +kernel)) (by decide +kernel)
  | 25, _ => exact gx_in (List.mem_of_getElem? (i := 1017) (by decide +kernel)) (by decide +kernel)
  | 26, _ => exact gx_in (List.mem_of_getElem? (i := 1019) (by decide +kernel)) (by decide +kernel)
  | 27, _ => exact gx_in (List.mem_of_getElem? (i := 1021) (by decide +kernel)) (by decide +kernel)
  | 28, _ => exact gx_in (List.mem_of_getElem? (i := 1023) (by decide +kernel)) (by decide +kernel)
  | 29, _ => exact gx_in (List.mem_of_getElem? (i := 1025) (by decide +kernel)) (by decide +kernel)
  | 30, _ => exact gx_in (List.mem_of_getElem? (i := 1027) (by decide +kernel)) (by decide +kernel)
  | 31, _ => exact gx_in (List.mem_of_getElem? (i := 1029) (by decide +kernel)) (by decide +kernel)
  | 32, _ => exact gx_in (List.mem_of_getElem? (i := 1031) (by decide +kernel)) (by decide +kernel)
  | 33, _ => exact gx_in (List.mem_of_getElem? (i := 1033) (by decide +kernel)) (by decide +kernel)
  | 34, _ => exact gx_in (List.mem_of_getElem? (i := 1035) (by decide +kernel)) (by decide +kernel)
  | 35, _ => exact gx_in (List.mem_of_getElem? (i := 1037) (by decide +kernel)) (by decide +kernel)
  | 36, _ => exact gx_in (List.mem_of_getElem? (i := 1039) (by decide +kernel)) (by decide +kernel)
  | j + 37, hj => exact absurd hj (by omega)
