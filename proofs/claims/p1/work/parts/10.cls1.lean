theorem wd_69 : Cond.initialized RX6 ∈ gx_T := gx_in (List.mem_of_getElem? (i := 69) (by decide +kernel)) (by decide +kernel)
theorem wd_135 : Cond.fieldLink RX6 133 "EachRoadOnce$Land" "roads" "I" ∈ gx_T := gx_in (List.mem_of_getElem? (i := 135) (by decide +kernel)) (by decide +kernel)
theorem wd_138 : Cond.fieldLink RX6 123 "EachRoadOnce$Land" "people" "I" ∈ gx_T := gx_in (List.mem_of_getElem? (i := 138) (by decide +kernel)) (by decide +kernel)
theorem wd_259 : Cond.fieldLink RX3 15 "EachRoadOnce$Shelf" "content" "I" ∈ gx_T := gx_in (List.mem_of_getElem? (i := 259) (by decide +kernel)) (by decide +kernel)
theorem wd_271 : Cond.fieldLink RX6 10 "EachRoadOnce" "now" "LEachRoadOnce$Land;" ∈ gx_T := gx_in (List.mem_of_getElem? (i := 271) (by decide +kernel)) (by decide +kernel)
theorem wd_279 : Cond.fieldLink RX6 49 "EachRoadOnce" "refusals" "[I" ∈ gx_T := gx_in (List.mem_of_getElem? (i := 279) (by decide +kernel)) (by decide +kernel)
theorem wd_309 : Cond.methodLink RX6 57 yX6_isBetween ∈ gx_T := gx_in (List.mem_of_getElem? (i := 309) (by decide +kernel)) (by decide +kernel)
theorem wd_310 : Cond.static yX6_isBetween ∈ gx_T := gx_in (List.mem_of_getElem? (i := 310) (by decide +kernel)) (by decide +kernel)
theorem wd_311 : Cond.code yX6_isBetween cX6_isBetween 3 (some .boolean) ∈ gx_T := gx_in (List.mem_of_getElem? (i := 311) (by decide +kernel)) (by decide +kernel)
theorem gS_RX6_57 : GoodIn gx_T (va_wsS RX6 57 yX6_isBetween (.code yX6_isBetween cX6_isBetween 3 (some .boolean) :: gx_T)) := gx_gS wd_309 wd_310 wd_69 wd_311
theorem dX6_isBetween_0 : decode cX6_isBetween 0 = .ok (.iload_n 0, 1) := by decide +kernel
theorem dX6_isBetween_1 : decode cX6_isBetween 1 = .ok (.iload_n 1, 1) := by decide +kernel
theorem dX6_isBetween_2 : decode cX6_isBetween 2 = .ok (.if_icmp .lt 12, 3) := by decide +kernel
theorem dX6_isBetween_5 : decode cX6_isBetween 5 = .ok (.iload_n 0, 1) := by decide +kernel
theorem dX6_isBetween_6 : decode cX6_isBetween 6 = .ok (.iload_n 2, 1) := by decide +kernel
theorem dX6_isBetween_7 : decode cX6_isBetween 7 = .ok (.if_icmp .gt 7, 3) := by decide +kernel
theorem dX6_isBetween_10 : decode cX6_isBetween 10 = .ok (.iconst 1, 1) := by decide +kernel
theorem dX6_isBetween_11 : decode cX6_isBetween 11 = .ok (.goto 4, 3) := by decide +kernel
theorem dX6_isBetween_14 : decode cX6_isBetween 14 = .ok (.iconst 0, 1) := by decide +kernel
theorem dX6_isBetween_15 : decode cX6_isBetween 15 = .ok (.ireturn, 1) := by decide +kernel
theorem dX6_isShelf_0 : decode cX6_isShelf 0 = .ok (.iload_n 0, 1) := by decide +kernel
theorem dX6_isShelf_1 : decode cX6_isShelf 1 = .ok (.iconst 0, 1) := by decide +kernel
theorem dX6_isShelf_2 : decode cX6_isShelf 2 = .ok (.bipush 7, 2) := by decide +kernel
theorem dX6_isShelf_4 : decode cX6_isShelf 4 = .ok (.invokestatic 57, 3) := by decide +kernel
theorem dX6_isShelf_7 : decode cX6_isShelf 7 = .ok (.ireturn, 1) := by decide +kernel
theorem dX6_isPlace_0 : decode cX6_isPlace 0 = .ok (.iload_n 0, 1) := by decide +kernel
theorem dX6_isPlace_1 : decode cX6_isPlace 1 = .ok (.iconst 0, 1) := by decide +kernel
theorem dX6_isPlace_2 : decode cX6_isPlace 2 = .ok (.bipush 7, 2) := by decide +kernel
theorem dX6_isPlace_4 : decode cX6_isPlace 4 = .ok (.invokestatic 57, 3) := by decide +kernel
theorem dX6_isPlace_7 : decode cX6_isPlace 7 = .ok (.ireturn, 1) := by decide +kernel
theorem dX6_isOne_0 : decode cX6_isOne 0 = .ok (.iload_n 1, 1) := by decide +kernel
theorem dX6_isOne_1 : decode cX6_isOne 1 = .ok (.iconst 0, 1) := by decide +kernel
theorem dX6_isOne_2 : decode cX6_isOne 2 = .ok (.aload_n 0, 1) := by decide +kernel
theorem dX6_isOne_3 : decode cX6_isOne 3 = .ok (.getfield 10, 3) := by decide +kernel
theorem dX6_isOne_6 : decode cX6_isOne 6 = .ok (.getfield 123, 3) := by decide +kernel
theorem dX6_isOne_9 : decode cX6_isOne 9 = .ok (.iconst 1, 1) := by decide +kernel
theorem dX6_isOne_10 : decode cX6_isOne 10 = .ok (.isub, 1) := by decide +kernel
theorem dX6_isOne_11 : decode cX6_isOne 11 = .ok (.invokestatic 57, 3) := by decide +kernel
theorem dX6_isOne_14 : decode cX6_isOne 14 = .ok (.ireturn, 1) := by decide +kernel
theorem dX6_isRoad_0 : decode cX6_isRoad 0 = .ok (.iload_n 1, 1) := by decide +kernel
theorem dX6_isRoad_1 : decode cX6_isRoad 1 = .ok (.iconst 0, 1) := by decide +kernel
theorem dX6_isRoad_2 : decode cX6_isRoad 2 = .ok (.aload_n 0, 1) := by decide +kernel
theorem dX6_isRoad_3 : decode cX6_isRoad 3 = .ok (.getfield 10, 3) := by decide +kernel
theorem dX6_isRoad_6 : decode cX6_isRoad 6 = .ok (.getfield 133, 3) := by decide +kernel
theorem dX6_isRoad_9 : decode cX6_isRoad 9 = .ok (.iconst 1, 1) := by decide +kernel
theorem dX6_isRoad_10 : decode cX6_isRoad 10 = .ok (.isub, 1) := by decide +kernel
theorem dX6_isRoad_11 : decode cX6_isRoad 11 = .ok (.invokestatic 57, 3) := by decide +kernel
theorem dX6_isRoad_14 : decode cX6_isRoad 14 = .ok (.ireturn, 1) := by decide +kernel
theorem dX6_refuse_0 : decode cX6_refuse 0 = .ok (.iload_n 1, 1) := by decide +kernel
theorem dX6_refuse_1 : decode cX6_refuse 1 = .ok (.bipush (-6), 2) := by decide +kernel
theorem dX6_refuse_3 : decode cX6_refuse 3 = .ok (.bipush (-2), 2) := by decide +kernel
theorem dX6_refuse_5 : decode cX6_refuse 5 = .ok (.invokestatic 57, 3) := by decide +kernel
theorem dX6_refuse_8 : decode cX6_refuse 8 = .ok (.ifCond .eq 16, 3) := by decide +kernel
theorem dX6_refuse_11 : decode cX6_refuse 11 = .ok (.aload_n 0, 1) := by decide +kernel
theorem dX6_refuse_12 : decode cX6_refuse 12 = .ok (.getfield 49, 3) := by decide +kernel
theorem dX6_refuse_15 : decode cX6_refuse 15 = .ok (.bipush (-2), 2) := by decide +kernel
theorem dX6_refuse_17 : decode cX6_refuse 17 = .ok (.iload_n 1, 1) := by decide +kernel
theorem dX6_refuse_18 : decode cX6_refuse 18 = .ok (.isub, 1) := by decide +kernel
theorem dX6_refuse_19 : decode cX6_refuse 19 = .ok (.dup2, 1) := by decide +kernel
theorem dX6_refuse_20 : decode cX6_refuse 20 = .ok (.iaload, 1) := by decide +kernel
theorem dX6_refuse_21 : decode cX6_refuse 21 = .ok (.iconst 1, 1) := by decide +kernel
theorem dX6_refuse_22 : decode cX6_refuse 22 = .ok (.iadd, 1) := by decide +kernel
theorem dX6_refuse_23 : decode cX6_refuse 23 = .ok (.iastore, 1) := by decide +kernel
theorem dX6_refuse_24 : decode cX6_refuse 24 = .ok (.iload_n 1, 1) := by decide +kernel
theorem dX6_refuse_25 : decode cX6_refuse 25 = .ok (.ireturn, 1) := by decide +kernel
theorem dX3_isEmpty_0 : decode cX3_isEmpty 0 = .ok (.aload_n 0, 1) := by decide +kernel
theorem dX3_isEmpty_1 : decode cX3_isEmpty 1 = .ok (.getfield 15, 3) := by decide +kernel
theorem dX3_isEmpty_4 : decode cX3_isEmpty 4 = .ok (.iconst (-1), 1) := by decide +kernel
theorem dX3_isEmpty_5 : decode cX3_isEmpty 5 = .ok (.if_icmp .ne 7, 3) := by decide +kernel
theorem dX3_isEmpty_8 : decode cX3_isEmpty 8 = .ok (.iconst 1, 1) := by decide +kernel
theorem dX3_isEmpty_9 : decode cX3_isEmpty 9 = .ok (.goto 4, 3) := by decide +kernel
theorem dX3_isEmpty_13 : decode cX3_isEmpty 13 = .ok (.ireturn, 1) := by decide +kernel
theorem dX3_isRow_0 : decode cX3_isRow 0 = .ok (.aload_n 0, 1) := by decide +kernel
theorem dX3_isRow_1 : decode cX3_isRow 1 = .ok (.getfield 15, 3) := by decide +kernel
theorem dX3_isRow_4 : decode cX3_isRow 4 = .ok (.ifCond .lt 15, 3) := by decide +kernel
theorem dX3_isRow_19 : decode cX3_isRow 19 = .ok (.iconst 0, 1) := by decide +kernel
theorem dX3_isRow_20 : decode cX3_isRow 20 = .ok (.ireturn, 1) := by decide +kernel
theorem dX3_isRule_0 : decode cX3_isRule 0 = .ok (.aload_n 0, 1) := by decide +kernel
theorem dX3_isRule_1 : decode cX3_isRule 1 = .ok (.getfield 15, 3) := by decide +kernel
theorem dX3_isRule_4 : decode cX3_isRule 4 = .ok (.bipush 10, 2) := by decide +kernel
theorem dX3_isRule_6 : decode cX3_isRule 6 = .ok (.if_icmp .lt 7, 3) := by decide +kernel
theorem dX3_isRule_13 : decode cX3_isRule 13 = .ok (.iconst 0, 1) := by decide +kernel
theorem dX3_isRule_14 : decode cX3_isRule 14 = .ok (.ireturn, 1) := by decide +kernel
set_option maxHeartbeats 4000000 in
set_option maxRecDepth 100000 in
theorem k_isBetween (l : Launch) (D : va_G) (k : Nat → ClassId) (v : Int32) (lo : Int32) (hi : Int32) (sz : Nat) : Met l yX6_isBetween (.code yX6_isBetween cX6_isBetween 3 (some .boolean) :: gx_T) ({ frames := 0, cells := 0, slots := 0, locals := 0 }) (gx_Pre D k [.int v, .int lo, .int hi] ([]) sz) (gx_Pi (fun r => r = 1 ∧ gx_b v lo hi = true ∨ r = 0 ∧ gx_b v lo hi = false)) 0 0 gx_No := by
  refine gx_metP (y := yX6_isBetween) (cc := cX6_isBetween) (n := 3) (ret := (some .boolean)) (av := [.int v, .int lo, .int hi]) (by decide) (Nat.le_of_ble_eq_true rfl) ?_
  intro p e s m below meth c ls C hP hD hK hS hl
  obtain ⟨hx, hb, hr, hml, hown, hT, hlk, hin⟩ := id C
  have hown : s.vm.findClass RX6 = some m.cls := hown
  have hl : lv_has ls 3 [(0, .int v), (1, .int lo), (2, .int hi)] := hl
  refine lv_iload_n hx hb dX6_isBetween_0 rfl (lv_at hl 0 rfl) ?_
  refine lv_iload_n hx hb dX6_isBetween_1 rfl (lv_at hl 1 rfl) ?_
  refine lv_icmp_lt (tgt := 14) hx hb dX6_isBetween_2 (by decide) (fun c_1 => ?_) (fun c_1 => ?_)
  · refine lv_iconst (v := 0) hx hb dX6_isBetween_14 (by decide) ?_
    exact gx_retPZ C hS rfl (Or.inr ⟨rfl, gx_bf1 c_1⟩) dX6_isBetween_15
  · refine lv_iload_n hx hb dX6_isBetween_5 rfl (lv_at hl 0 rfl) ?_
    refine lv_iload_n hx hb dX6_isBetween_6 rfl (lv_at hl 2 rfl) ?_
    refine lv_icmp_gt (tgt := 14) hx hb dX6_isBetween_7 (by decide) (fun c_2 => ?_) (fun c_2 => ?_)
    · refine lv_iconst (v := 0) hx hb dX6_isBetween_14 (by decide) ?_
      exact gx_retPZ C hS rfl (Or.inr ⟨rfl, gx_bf2 c_2⟩) dX6_isBetween_15
    · refine lv_iconst (v := 1) hx hb dX6_isBetween_10 (by decide) ?_
      refine lv_goto (tgt := 15) hx hb dX6_isBetween_11 (by decide) ?_
      exact gx_retPZ C hS rfl (Or.inl ⟨rfl, gx_bt c_1 c_2⟩) dX6_isBetween_15
set_option maxHeartbeats 4000000 in
set_option maxRecDepth 100000 in
theorem k_isShelf (l : Launch) (D : va_G) (k : Nat → ClassId) (v : Int32) (sz : Nat) : Met l yX6_isShelf (.code yX6_isShelf cX6_isShelf 1 (some .boolean) :: gx_T) ({ frames := 1, cells := 0, slots := 0, locals := 22 }) (gx_Pre D k [.int v] ([]) sz) (gx_Pi (fun r => r = 1 ∧ gx_b v 0 7 = true ∨ r = 0 ∧ gx_b v 0 7 = false)) 0 0 gx_No := by
  refine gx_metP (y := yX6_isShelf) (cc := cX6_isShelf) (n := 1) (ret := (some .boolean)) (av := [.int v]) (by decide) (Nat.le_of_ble_eq_true rfl) ?_
  intro p e s m below meth c ls C hP hD hK hS hl
  obtain ⟨hx, hb, hr, hml, hown, hT, hlk, hin⟩ := id C
  have hown : s.vm.findClass RX6 = some m.cls := hown
  have hl : lv_has ls 1 [(0, .int v)] := hl
  refine lv_iload_n hx hb dX6_isShelf_0 rfl (lv_at hl 0 rfl) ?_
  refine lv_iconst (v := 0) hx hb dX6_isShelf_1 (by decide) ?_
  refine lv_bipush (v := 7) hx hb dX6_isShelf_2 (by decide) ?_
  refine gx_pi hP hS (gx_runS (na := 3) (As := [.int v, .int 0, .int 7]) (rest := []) C hl.1 hK (gx_subP (wc := ([] : va_W)) hP [] rfl) ((hD.sub (ws' := ([] : va_W)) [] (by decide) rfl).weaken (fun _ _ _ _ => trivial)) (k_isBetween l D k v 0 7 _) gS_RX6_57 (by decide +kernel) rfl rfl ⟨Nat.le_of_ble_eq_true rfl, Nat.le_of_ble_eq_true rfl⟩ rfl rfl (Nat.le_of_ble_eq_true rfl) dX6_isShelf_4 ⟨Nat.le_of_ble_eq_true rfl, Nat.le_of_ble_eq_true rfl⟩) (fun r_2 H locs pc_1 hP hS => ?_)
  have oc_1 : r_2 = 1 ∧ gx_b v 0 7 = true ∨ r_2 = 0 ∧ gx_b v 0 7 = false := pc_1
  clear pc_1
  rcases oc_1 with ⟨rfl, c_1⟩ | ⟨rfl, c_1⟩
  · exact gx_retPZ C hS rfl (Or.inl ⟨rfl, c_1⟩) dX6_isShelf_7
  · exact gx_retPZ C hS rfl (Or.inr ⟨rfl, c_1⟩) dX6_isShelf_7
set_option maxHeartbeats 4000000 in
set_option maxRecDepth 100000 in
theorem k_isPlace (l : Launch) (D : va_G) (k : Nat → ClassId) (v : Int32) (sz : Nat) : Met l yX6_isPlace (.code yX6_isPlace cX6_isPlace 1 (some .boolean) :: gx_T) ({ frames := 1, cells := 0, slots := 0, locals := 22 }) (gx_Pre D k [.int v] ([]) sz) (gx_Pi (fun r => r = 1 ∧ gx_b v 0 7 = true ∨ r = 0 ∧ gx_b v 0 7 = false)) 0 0 gx_No := by
  refine gx_metP (y := yX6_isPlace) (cc := cX6_isPlace) (n := 1) (ret := (some .boolean)) (av := [.int v]) (by decide) (Nat.le_of_ble_eq_true rfl) ?_
  intro p e s m below meth c ls C hP hD hK hS hl
  obtain ⟨hx, hb, hr, hml, hown, hT, hlk, hin⟩ := id C
  have hown : s.vm.findClass RX6 = some m.cls := hown
  have hl : lv_has ls 1 [(0, .int v)] := hl
  refine lv_iload_n hx hb dX6_isPlace_0 rfl (lv_at hl 0 rfl) ?_
  refine lv_iconst (v := 0) hx hb dX6_isPlace_1 (by decide) ?_
  refine lv_bipush (v := 7) hx hb dX6_isPlace_2 (by decide) ?_
  refine gx_pi hP hS (gx_runS (na := 3) (As := [.int v, .int 0, .int 7]) (rest := []) C hl.1 hK (gx_subP (wc := ([] : va_W)) hP [] rfl) ((hD.sub (ws' := ([] : va_W)) [] (by decide) rfl).weaken (fun _ _ _ _ => trivial)) (k_isBetween l D k v 0 7 _) gS_RX6_57 (by decide +kernel) rfl rfl ⟨Nat.le_of_ble_eq_true rfl, Nat.le_of_ble_eq_true rfl⟩ rfl rfl (Nat.le_of_ble_eq_true rfl) dX6_isPlace_4 ⟨Nat.le_of_ble_eq_true rfl, Nat.le_of_ble_eq_true rfl⟩) (fun r_2 H locs pc_1 hP hS => ?_)
  have oc_1 : r_2 = 1 ∧ gx_b v 0 7 = true ∨ r_2 = 0 ∧ gx_b v 0 7 = false := pc_1
  clear pc_1
  rcases oc_1 with ⟨rfl, c_1⟩ | ⟨rfl, c_1⟩
  · exact gx_retPZ C hS rfl (Or.inl ⟨rfl, c_1⟩) dX6_isPlace_7
  · exact gx_retPZ C hS rfl (Or.inr ⟨rfl, c_1⟩) dX6_isPlace_7
set_option maxHeartbeats 4000000 in
set_option maxRecDepth 100000 in
theorem k_isOne (l : Launch) (D : va_G) (k : Nat → ClassId) (ad : Nat → Nat) (v : Int32) (sz : Nat) : Met l yX6_isOne (.code yX6_isOne cX6_isOne 2 (some .boolean) :: gx_T) ({ frames := 1, cells := 0, slots := 0, locals := 22 }) (gx_Pre D k [.ref (ad 0), .int v] ([((ad 0), .inr (4, [.ref (ad 1), .ref (ad 2), .ref (ad 3), .ref (ad 4), .ref (ad 5), .ref (ad 6), .ref (ad 7), .ref (ad 8), .ref (ad 9), .int 0])), ((ad 1), .inr (0, [.ref (ad 10), .ref (ad 11), .ref (ad 12), .ref (ad 13), .ref (ad 14), .ref (ad 15), .ref (ad 16), .ref (ad 17), .ref (ad 18), .int 0, .int 0, .int 0, .int 0, .int 1, .int 0, .int 0, .int 0]))]) sz) (gx_Pi (fun r => r = 0)) 0 0 gx_No := by
  refine gx_metP (y := yX6_isOne) (cc := cX6_isOne) (n := 2) (ret := (some .boolean)) (av := [.ref (ad 0), .int v]) (by decide) (Nat.le_of_ble_eq_true rfl) ?_
  intro p e s m below meth c ls C hP hD hK hS hl
  obtain ⟨hx, hb, hr, hml, hown, hT, hlk, hin⟩ := id C
  have hown : s.vm.findClass RX6 = some m.cls := hown
  have hl : lv_has ls 2 [(0, .ref (ad 0)), (1, .int v)] := hl
  refine lv_iload_n hx hb dX6_isOne_0 rfl (lv_at hl 1 rfl) ?_
  refine lv_iconst (v := 0) hx hb dX6_isOne_1 (by decide) ?_
  refine lv_aload_n hx hb dX6_isOne_2 rfl (lv_at hl 0 rfl) ?_
  refine va_get (D := D) (ci := 4) (v := .ref (ad 1)) (C := RX6) (T := TX6) (N := 10) hx hb hT iw_TX6 hown hK.1 hP 0 rfl rfl 0 (by decide) (hT _ wd_271) (fun _ h9 => h9) rfl dX6_isOne_3 ?_
  refine va_get (D := D) (ci := 0) (v := .int 0) (C := RX1) (T := TX1) (N := 17) hx hb hT iw_TX1 hown hK.1 hP 1 rfl rfl 10 (by decide) (hT _ wd_138) (fun _ h9 => h9) rfl dX6_isOne_6 ?_
  refine lv_iconst (v := 1) hx hb dX6_isOne_9 (by decide) ?_
  refine lv_isub hx hb dX6_isOne_10 ?_
  refine gx_cst (v := (-1)) (by decide) ?_
  refine gx_pi hP hS (gx_runS (na := 3) (As := [.int v, .int 0, .int (-1)]) (rest := []) C hl.1 hK (gx_subP (wc := ([] : va_W)) hP [] rfl) ((hD.sub (ws' := ([] : va_W)) [] (by decide) rfl).weaken (fun _ _ _ _ => trivial)) (k_isBetween l D k v 0 (-1) _) gS_RX6_57 (by decide +kernel) rfl rfl ⟨Nat.le_of_ble_eq_true rfl, Nat.le_of_ble_eq_true rfl⟩ rfl rfl (Nat.le_of_ble_eq_true rfl) dX6_isOne_11 ⟨Nat.le_of_ble_eq_true rfl, Nat.le_of_ble_eq_true rfl⟩) (fun r_2 H locs pc_1 hP hS => ?_)
  have oc_1 : r_2 = 1 ∧ gx_b v 0 (-1) = true ∨ r_2 = 0 ∧ gx_b v 0 (-1) = false := pc_1
  clear pc_1
  rcases oc_1 with ⟨rfl, c_1⟩ | ⟨rfl, c_1⟩
  · exact absurd c_1 (by first | decide | (rw [gx_bn]; decide) | simp [gx_bn])
  · exact gx_retPZ C hS rfl (rfl) dX6_isOne_14
set_option maxHeartbeats 4000000 in
set_option maxRecDepth 100000 in
theorem k_isRoad (l : Launch) (D : va_G) (k : Nat → ClassId) (ad : Nat → Nat) (v : Int32) (sz : Nat) : Met l yX6_isRoad (.code yX6_isRoad cX6_isRoad 2 (some .boolean) :: gx_T) ({ frames := 1, cells := 0, slots := 0, locals := 22 }) (gx_Pre D k [.ref (ad 0), .int v] ([((ad 0), .inr (4, [.ref (ad 1), .ref (ad 2), .ref (ad 3), .ref (ad 4), .ref (ad 5), .ref (ad 6), .ref (ad 7), .ref (ad 8), .ref (ad 9), .int 0])), ((ad 1), .inr (0, [.ref (ad 10), .ref (ad 11), .ref (ad 12), .ref (ad 13), .ref (ad 14), .ref (ad 15), .ref (ad 16), .ref (ad 17), .ref (ad 18), .int 0, .int 0, .int 0, .int 0, .int 1, .int 0, .int 0, .int 0]))]) sz) (gx_Pi (fun r => r = 0)) 0 0 gx_No := by
  refine gx_metP (y := yX6_isRoad) (cc := cX6_isRoad) (n := 2) (ret := (some .boolean)) (av := [.ref (ad 0), .int v]) (by decide) (Nat.le_of_ble_eq_true rfl) ?_
  intro p e s m below meth c ls C hP hD hK hS hl
  obtain ⟨hx, hb, hr, hml, hown, hT, hlk, hin⟩ := id C
  have hown : s.vm.findClass RX6 = some m.cls := hown
  have hl : lv_has ls 2 [(0, .ref (ad 0)), (1, .int v)] := hl
  refine lv_iload_n hx hb dX6_isRoad_0 rfl (lv_at hl 1 rfl) ?_
  refine lv_iconst (v := 0) hx hb dX6_isRoad_1 (by decide) ?_
  refine lv_aload_n hx hb dX6_isRoad_2 rfl (lv_at hl 0 rfl) ?_
  refine va_get (D := D) (ci := 4) (v := .ref (ad 1)) (C := RX6) (T := TX6) (N := 10) hx hb hT iw_TX6 hown hK.1 hP 0 rfl rfl 0 (by decide) (hT _ wd_271) (fun _ h9 => h9) rfl dX6_isRoad_3 ?_
  refine va_get (D := D) (ci := 0) (v := .int 0) (C := RX1) (T := TX1) (N := 17) hx hb hT iw_TX1 hown hK.1 hP 1 rfl rfl 9 (by decide) (hT _ wd_135) (fun _ h9 => h9) rfl dX6_isRoad_6 ?_
  refine lv_iconst (v := 1) hx hb dX6_isRoad_9 (by decide) ?_
  refine lv_isub hx hb dX6_isRoad_10 ?_
  refine gx_cst (v := (-1)) (by decide) ?_
  refine gx_pi hP hS (gx_runS (na := 3) (As := [.int v, .int 0, .int (-1)]) (rest := []) C hl.1 hK (gx_subP (wc := ([] : va_W)) hP [] rfl) ((hD.sub (ws' := ([] : va_W)) [] (by decide) rfl).weaken (fun _ _ _ _ => trivial)) (k_isBetween l D k v 0 (-1) _) gS_RX6_57 (by decide +kernel) rfl rfl ⟨Nat.le_of_ble_eq_true rfl, Nat.le_of_ble_eq_true rfl⟩ rfl rfl (Nat.le_of_ble_eq_true rfl) dX6_isRoad_11 ⟨Nat.le_of_ble_eq_true rfl, Nat.le_of_ble_eq_true rfl⟩) (fun r_2 H locs pc_1 hP hS => ?_)
  have oc_1 : r_2 = 1 ∧ gx_b v 0 (-1) = true ∨ r_2 = 0 ∧ gx_b v 0 (-1) = false := pc_1
  clear pc_1
  rcases oc_1 with ⟨rfl, c_1⟩ | ⟨rfl, c_1⟩
  · exact absurd c_1 (by first | decide | (rw [gx_bn]; decide) | simp [gx_bn])
  · exact gx_retPZ C hS rfl (rfl) dX6_isRoad_14
set_option maxHeartbeats 4000000 in
set_option maxRecDepth 100000 in
theorem k_refuse2 (l : Launch) (D : va_G) (k : Nat → ClassId) (ad : Nat → Nat) (sz : Nat) : Met l yX6_refuse (.code yX6_refuse cX6_refuse 2 (some .int) :: gx_T) ({ frames := 1, cells := 0, slots := 0, locals := 22 }) (gx_Pre D k [.ref (ad 0), .int (-2)] ([((ad 0), .inr (4, [.ref (ad 1), .ref (ad 2), .ref (ad 3), .ref (ad 4), .ref (ad 5), .ref (ad 6), .ref (ad 7), .ref (ad 8), .ref (ad 9), .int 0])), ((ad 9), .inl (k 0, 5, .inl (fun _ => 0)))]) sz) (gx_Qi D (fun (r : Int32) (u : Unit) => r = -2) (fun (u : Unit) => ([] : va_W)) (va_A ([((ad 0), .inr (4, [.ref (ad 1), .ref (ad 2), .ref (ad 3), .ref (ad 4), .ref (ad 5), .ref (ad 6), .ref (ad 7), .ref (ad 8), .ref (ad 9), .int 0])), ((ad 9), .inl (k 0, 5, .inl (fun _ => 0)))]) sz)) 0 0 (va_A ([((ad 0), .inr (4, [.ref (ad 1), .ref (ad 2), .ref (ad 3), .ref (ad 4), .ref (ad 5), .ref (ad 6), .ref (ad 7), .ref (ad 8), .ref (ad 9), .int 0])), ((ad 9), .inl (k 0, 5, .inl (fun _ => 0)))]) sz) := by
  refine gx_metE (Qc := fun A => gx_Qi D (fun (r : Int32) (u : Unit) => r = -2) (fun (u : Unit) => ([] : va_W)) A) (y := yX6_refuse) (cc := cX6_refuse) (n := 2) (ret := (some .int)) (av := [.ref (ad 0), .int (-2)]) (by decide) (Nat.le_of_ble_eq_true rfl) ?_
  intro p e s m below meth c A ls C hA hP hD hK hS hl
  obtain ⟨hx, hb, hr, hml, hown, hT, hlk, hin⟩ := id C
  have hown : s.vm.findClass RX6 = some m.cls := hown
  have hl : lv_has ls 2 [(0, .ref (ad 0)), (1, .int (-2))] := hl
  refine lv_iload_n hx hb dX6_refuse_0 rfl (lv_at hl 1 rfl) ?_
  refine lv_bipush (v := (-6)) hx hb dX6_refuse_1 (by decide) ?_
  refine lv_bipush (v := (-2)) hx hb dX6_refuse_3 (by decide) ?_
  refine gx_pi hP hS (gx_runS (na := 3) (As := [.int (-2), .int (-6), .int (-2)]) (rest := []) C hl.1 hK (gx_subP (wc := ([] : va_W)) hP [] rfl) ((hD.sub (ws' := ([] : va_W)) [] (by decide) rfl).weaken (fun _ _ _ _ => trivial)) (k_isBetween l D k (-2) (-6) (-2) _) gS_RX6_57 (by decide +kernel) rfl rfl ⟨Nat.le_of_ble_eq_true rfl, Nat.le_of_ble_eq_true rfl⟩ rfl rfl (Nat.le_of_ble_eq_true rfl) dX6_refuse_5 ⟨Nat.le_of_ble_eq_true rfl, Nat.le_of_ble_eq_true rfl⟩) (fun r_2 H locs pc_1 hP hS => ?_)
  have oc_1 : r_2 = 1 ∧ gx_b (-2) (-6) (-2) = true ∨ r_2 = 0 ∧ gx_b (-2) (-6) (-2) = false := pc_1
  clear pc_1
  rcases oc_1 with ⟨rfl, c_1⟩ | ⟨rfl, c_1⟩
  · refine lv_if_eq (tgt := 24) hx hb dX6_refuse_8 (by decide) (fun c_3 => absurd c_3 (by decide)) (fun c_3 => ?_)
    refine lv_aload_n hx hb dX6_refuse_11 rfl (lv_at hl 0 rfl) ?_
    refine va_get (D := D) (ci := 4) (v := .ref (ad 9)) (C := RX6) (T := TX6) (N := 10) hx hb hT iw_TX6 hown hK.1 hP 0 rfl rfl 8 (by decide) (hT _ wd_279) (fun _ h9 => h9) rfl dX6_refuse_12 ?_
    refine lv_bipush (v := (-2)) hx hb dX6_refuse_15 (by decide) ?_
    refine lv_iload_n hx hb dX6_refuse_17 rfl (lv_at hl 1 rfl) ?_
    refine lv_isub hx hb dX6_refuse_18 ?_
    refine gx_cst (v := 0) (by decide) ?_
    refine lv_dup2_11 hx hb dX6_refuse_19 rfl rfl ?_
    refine va_iald hx hb hK.1 hP 1 0 rfl rfl (gx_vin rfl) dX6_refuse_20 ?_
    refine gx_cst (v := 0) (rfl) ?_
    refine lv_iconst (v := 1) hx hb dX6_refuse_21 (by decide) ?_
    refine lv_iadd hx hb dX6_refuse_22 ?_
    refine gx_cst (v := 1) (by decide) ?_
    refine va_iast hx hb hK.1 hP hD hS 1 0 rfl rfl (gx_vin rfl) dX6_refuse_23 (fun H locs hP hD hS => ?_)
    obtain ⟨f_4, ef_4⟩ : ∃ f9, f9 = upd ((fun _ => 0) : Nat → Int32) (0 : Int32).toNatClampNeg (1 : Int32) := ⟨_, rfl⟩
    have hP : va_P D gx_cl [((ad 0), .inr (4, [.ref (ad 1), .ref (ad 2), .ref (ad 3), .ref (ad 4), .ref (ad 5), .ref (ad 6), .ref (ad 7), .ref (ad 8), .ref (ad 9), .int 0])), ((ad 9), .inl (k 0, 5, .inl f_4))] H := by subst ef_4; exact hP
    have hD : va_D A [((ad 0), .inr (4, [.ref (ad 1), .ref (ad 2), .ref (ad 3), .ref (ad 4), .ref (ad 5), .ref (ad 6), .ref (ad 7), .ref (ad 8), .ref (ad 9), .int 0])), ((ad 9), .inl (k 0, 5, .inl f_4))] := by subst ef_4; exact hD
    refine lv_iload_n hx hb dX6_refuse_24 rfl (lv_at hl 1 rfl) ?_
    exact gx_retI C (u := ()) gx_nil gx_noneD hS (rfl) dX6_refuse_25
  · exact absurd c_1 (by first | decide | (rw [gx_bn]; decide) | simp [gx_bn])
set_option maxHeartbeats 4000000 in
set_option maxRecDepth 100000 in
theorem k_refuse4 (l : Launch) (D : va_G) (k : Nat → ClassId) (ad : Nat → Nat) (sz : Nat) : Met l yX6_refuse (.code yX6_refuse cX6_refuse 2 (some .int) :: gx_T) ({ frames := 1, cells := 0, slots := 0, locals := 22 }) (gx_Pre D k [.ref (ad 0), .int (-4)] ([((ad 0), .inr (4, [.ref (ad 1), .ref (ad 2), .ref (ad 3), .ref (ad 4), .ref (ad 5), .ref (ad 6), .ref (ad 7), .ref (ad 8), .ref (ad 9), .int 0])), ((ad 9), .inl (k 0, 5, .inl (fun _ => 0)))]) sz) (gx_Qi D (fun (r : Int32) (u : Unit) => r = -4) (fun (u : Unit) => ([] : va_W)) (va_A ([((ad 0), .inr (4, [.ref (ad 1), .ref (ad 2), .ref (ad 3), .ref (ad 4), .ref (ad 5), .ref (ad 6), .ref (ad 7), .ref (ad 8), .ref (ad 9), .int 0])), ((ad 9), .inl (k 0, 5, .inl (fun _ => 0)))]) sz)) 0 0 (va_A ([((ad 0), .inr (4, [.ref (ad 1), .ref (ad 2), .ref (ad 3), .ref (ad 4), .ref (ad 5), .ref (ad 6), .ref (ad 7), .ref (ad 8), .ref (ad 9), .int 0])), ((ad 9), .inl (k 0, 5, .inl (fun _ => 0)))]) sz) := by
  refine gx_metE (Qc := fun A => gx_Qi D (fun (r : Int32) (u : Unit) => r = -4) (fun (u : Unit) => ([] : va_W)) A) (y := yX6_refuse) (cc := cX6_refuse) (n := 2) (ret := (some .int)) (av := [.ref (ad 0), .int (-4)]) (by decide) (Nat.le_of_ble_eq_true rfl) ?_
  intro p e s m below meth c A ls C hA hP hD hK hS hl
  obtain ⟨hx, hb, hr, hml, hown, hT, hlk, hin⟩ := id C
  have hown : s.vm.findClass RX6 = some m.cls := hown
  have hl : lv_has ls 2 [(0, .ref (ad 0)), (1, .int (-4))] := hl
  refine lv_iload_n hx hb dX6_refuse_0 rfl (lv_at hl 1 rfl) ?_
  refine lv_bipush (v := (-6)) hx hb dX6_refuse_1 (by decide) ?_
  refine lv_bipush (v := (-2)) hx hb dX6_refuse_3 (by decide) ?_
  refine gx_pi hP hS (gx_runS (na := 3) (As := [.int (-4), .int (-6), .int (-2)]) (rest := []) C hl.1 hK (gx_subP (wc := ([] : va_W)) hP [] rfl) ((hD.sub (ws' := ([] : va_W)) [] (by decide) rfl).weaken (fun _ _ _ _ => trivial)) (k_isBetween l D k (-4) (-6) (-2) _) gS_RX6_57 (by decide +kernel) rfl rfl ⟨Nat.le_of_ble_eq_true rfl, Nat.le_of_ble_eq_true rfl⟩ rfl rfl (Nat.le_of_ble_eq_true rfl) dX6_refuse_5 ⟨Nat.le_of_ble_eq_true rfl, Nat.le_of_ble_eq_true rfl⟩) (fun r_2 H locs pc_1 hP hS => ?_)
  have oc_1 : r_2 = 1 ∧ gx_b (-4) (-6) (-2) = true ∨ r_2 = 0 ∧ gx_b (-4) (-6) (-2) = false := pc_1
  clear pc_1
  rcases oc_1 with ⟨rfl, c_1⟩ | ⟨rfl, c_1⟩
  · refine lv_if_eq (tgt := 24) hx hb dX6_refuse_8 (by decide) (fun c_3 => absurd c_3 (by decide)) (fun c_3 => ?_)
    refine lv_aload_n hx hb dX6_refuse_11 rfl (lv_at hl 0 rfl) ?_
    refine va_get (D := D) (ci := 4) (v := .ref (ad 9)) (C := RX6) (T := TX6) (N := 10) hx hb hT iw_TX6 hown hK.1 hP 0 rfl rfl 8 (by decide) (hT _ wd_279) (fun _ h9 => h9) rfl dX6_refuse_12 ?_
    refine lv_bipush (v := (-2)) hx hb dX6_refuse_15 (by decide) ?_
    refine lv_iload_n hx hb dX6_refuse_17 rfl (lv_at hl 1 rfl) ?_
    refine lv_isub hx hb dX6_refuse_18 ?_
    refine gx_cst (v := 2) (by decide) ?_
    refine lv_dup2_11 hx hb dX6_refuse_19 rfl rfl ?_
    refine va_iald hx hb hK.1 hP 1 0 rfl rfl (gx_vin rfl) dX6_refuse_20 ?_
    refine gx_cst (v := 0) (rfl) ?_
    refine lv_iconst (v := 1) hx hb dX6_refuse_21 (by decide) ?_
    refine lv_iadd hx hb dX6_refuse_22 ?_
    refine gx_cst (v := 1) (by decide) ?_
    refine va_iast hx hb hK.1 hP hD hS 1 0 rfl rfl (gx_vin rfl) dX6_refuse_23 (fun H locs hP hD hS => ?_)
    obtain ⟨f_4, ef_4⟩ : ∃ f9, f9 = upd ((fun _ => 0) : Nat → Int32) (2 : Int32).toNatClampNeg (1 : Int32) := ⟨_, rfl⟩
    have hP : va_P D gx_cl [((ad 0), .inr (4, [.ref (ad 1), .ref (ad 2), .ref (ad 3), .ref (ad 4), .ref (ad 5), .ref (ad 6), .ref (ad 7), .ref (ad 8), .ref (ad 9), .int 0])), ((ad 9), .inl (k 0, 5, .inl f_4))] H := by subst ef_4; exact hP
    have hD : va_D A [((ad 0), .inr (4, [.ref (ad 1), .ref (ad 2), .ref (ad 3), .ref (ad 4), .ref (ad 5), .ref (ad 6), .ref (ad 7), .ref (ad 8), .ref (ad 9), .int 0])), ((ad 9), .inl (k 0, 5, .inl f_4))] := by subst ef_4; exact hD
    refine lv_iload_n hx hb dX6_refuse_24 rfl (lv_at hl 1 rfl) ?_
    exact gx_retI C (u := ()) gx_nil gx_noneD hS (rfl) dX6_refuse_25
  · exact absurd c_1 (by first | decide | (rw [gx_bn]; decide) | simp [gx_bn])
set_option maxHeartbeats 4000000 in
set_option maxRecDepth 100000 in
theorem k_refuse5 (l : Launch) (D : va_G) (k : Nat → ClassId) (ad : Nat → Nat) (sz : Nat) : Met l yX6_refuse (.code yX6_refuse cX6_refuse 2 (some .int) :: gx_T) ({ frames := 1, cells := 0, slots := 0, locals := 22 }) (gx_Pre D k [.ref (ad 0), .int (-5)] ([((ad 0), .inr (4, [.ref (ad 1), .ref (ad 2), .ref (ad 3), .ref (ad 4), .ref (ad 5), .ref (ad 6), .ref (ad 7), .ref (ad 8), .ref (ad 9), .int 0])), ((ad 9), .inl (k 0, 5, .inl (fun _ => 0)))]) sz) (gx_Qi D (fun (r : Int32) (u : Unit) => r = -5) (fun (u : Unit) => ([] : va_W)) (va_A ([((ad 0), .inr (4, [.ref (ad 1), .ref (ad 2), .ref (ad 3), .ref (ad 4), .ref (ad 5), .ref (ad 6), .ref (ad 7), .ref (ad 8), .ref (ad 9), .int 0])), ((ad 9), .inl (k 0, 5, .inl (fun _ => 0)))]) sz)) 0 0 (va_A ([((ad 0), .inr (4, [.ref (ad 1), .ref (ad 2), .ref (ad 3), .ref (ad 4), .ref (ad 5), .ref (ad 6), .ref (ad 7), .ref (ad 8), .ref (ad 9), .int 0])), ((ad 9), .inl (k 0, 5, .inl (fun _ => 0)))]) sz) := by
  refine gx_metE (Qc := fun A => gx_Qi D (fun (r : Int32) (u : Unit) => r = -5) (fun (u : Unit) => ([] : va_W)) A) (y := yX6_refuse) (cc := cX6_refuse) (n := 2) (ret := (some .int)) (av := [.ref (ad 0), .int (-5)]) (by decide) (Nat.le_of_ble_eq_true rfl) ?_
  intro p e s m below meth c A ls C hA hP hD hK hS hl
  obtain ⟨hx, hb, hr, hml, hown, hT, hlk, hin⟩ := id C
  have hown : s.vm.findClass RX6 = some m.cls := hown
  have hl : lv_has ls 2 [(0, .ref (ad 0)), (1, .int (-5))] := hl
  refine lv_iload_n hx hb dX6_refuse_0 rfl (lv_at hl 1 rfl) ?_
  refine lv_bipush (v := (-6)) hx hb dX6_refuse_1 (by decide) ?_
  refine lv_bipush (v := (-2)) hx hb dX6_refuse_3 (by decide) ?_
  refine gx_pi hP hS (gx_runS (na := 3) (As := [.int (-5), .int (-6), .int (-2)]) (rest := []) C hl.1 hK (gx_subP (wc := ([] : va_W)) hP [] rfl) ((hD.sub (ws' := ([] : va_W)) [] (by decide) rfl).weaken (fun _ _ _ _ => trivial)) (k_isBetween l D k (-5) (-6) (-2) _) gS_RX6_57 (by decide +kernel) rfl rfl ⟨Nat.le_of_ble_eq_true rfl, Nat.le_of_ble_eq_true rfl⟩ rfl rfl (Nat.le_of_ble_eq_true rfl) dX6_refuse_5 ⟨Nat.le_of_ble_eq_true rfl, Nat.le_of_ble_eq_true rfl⟩) (fun r_2 H locs pc_1 hP hS => ?_)
  have oc_1 : r_2 = 1 ∧ gx_b (-5) (-6) (-2) = true ∨ r_2 = 0 ∧ gx_b (-5) (-6) (-2) = false := pc_1
  clear pc_1
  rcases oc_1 with ⟨rfl, c_1⟩ | ⟨rfl, c_1⟩
  · refine lv_if_eq (tgt := 24) hx hb dX6_refuse_8 (by decide) (fun c_3 => absurd c_3 (by decide)) (fun c_3 => ?_)
    refine lv_aload_n hx hb dX6_refuse_11 rfl (lv_at hl 0 rfl) ?_
    refine va_get (D := D) (ci := 4) (v := .ref (ad 9)) (C := RX6) (T := TX6) (N := 10) hx hb hT iw_TX6 hown hK.1 hP 0 rfl rfl 8 (by decide) (hT _ wd_279) (fun _ h9 => h9) rfl dX6_refuse_12 ?_
    refine lv_bipush (v := (-2)) hx hb dX6_refuse_15 (by decide) ?_
    refine lv_iload_n hx hb dX6_refuse_17 rfl (lv_at hl 1 rfl) ?_
    refine lv_isub hx hb dX6_refuse_18 ?_
    refine gx_cst (v := 3) (by decide) ?_
    refine lv_dup2_11 hx hb dX6_refuse_19 rfl rfl ?_
    refine va_iald hx hb hK.1 hP 1 0 rfl rfl (gx_vin rfl) dX6_refuse_20 ?_
    refine gx_cst (v := 0) (rfl) ?_
    refine lv_iconst (v := 1) hx hb dX6_refuse_21 (by decide) ?_
    refine lv_iadd hx hb dX6_refuse_22 ?_
    refine gx_cst (v := 1) (by decide) ?_
    refine va_iast hx hb hK.1 hP hD hS 1 0 rfl rfl (gx_vin rfl) dX6_refuse_23 (fun H locs hP hD hS => ?_)
    obtain ⟨f_4, ef_4⟩ : ∃ f9, f9 = upd ((fun _ => 0) : Nat → Int32) (3 : Int32).toNatClampNeg (1 : Int32) := ⟨_, rfl⟩
    have hP : va_P D gx_cl [((ad 0), .inr (4, [.ref (ad 1), .ref (ad 2), .ref (ad 3), .ref (ad 4), .ref (ad 5), .ref (ad 6), .ref (ad 7), .ref (ad 8), .ref (ad 9), .int 0])), ((ad 9), .inl (k 0, 5, .inl f_4))] H := by subst ef_4; exact hP
    have hD : va_D A [((ad 0), .inr (4, [.ref (ad 1), .ref (ad 2), .ref (ad 3), .ref (ad 4), .ref (ad 5), .ref (ad 6), .ref (ad 7), .ref (ad 8), .ref (ad 9), .int 0])), ((ad 9), .inl (k 0, 5, .inl f_4))] := by subst ef_4; exact hD
    refine lv_iload_n hx hb dX6_refuse_24 rfl (lv_at hl 1 rfl) ?_
    exact gx_retI C (u := ()) gx_nil gx_noneD hS (rfl) dX6_refuse_25
  · exact absurd c_1 (by first | decide | (rw [gx_bn]; decide) | simp [gx_bn])
set_option maxHeartbeats 4000000 in
set_option maxRecDepth 100000 in
theorem k_isEmpty (l : Launch) (D : va_G) (k : Nat → ClassId) (h0 : Nat) (e0 : Nat) (z0 : Int32) (a0 : Int32) (sz : Nat) : Met l yX3_isEmpty (.code yX3_isEmpty cX3_isEmpty 1 (some .boolean) :: gx_T) ({ frames := 0, cells := 0, slots := 0, locals := 0 }) (gx_Pre D k [.ref h0] ([(h0, .inr (1, [.ref e0, .int z0, .int a0, .int (-1)]))]) sz) (gx_Pi (fun r => r = 1)) 0 0 gx_No := by
  refine gx_metP (y := yX3_isEmpty) (cc := cX3_isEmpty) (n := 1) (ret := (some .boolean)) (av := [.ref h0]) (by decide) (Nat.le_of_ble_eq_true rfl) ?_
  intro p e s m below meth c ls C hP hD hK hS hl
  obtain ⟨hx, hb, hr, hml, hown, hT, hlk, hin⟩ := id C
  have hown : s.vm.findClass RX3 = some m.cls := hown
  have hl : lv_has ls 1 [(0, .ref h0)] := hl
  refine lv_aload_n hx hb dX3_isEmpty_0 rfl (lv_at hl 0 rfl) ?_
  refine va_get (D := D) (ci := 1) (v := .int (-1)) (C := RX3) (T := TX3) (N := 4) hx hb hT iw_TX3 hown hK.1 hP 0 rfl rfl 3 (by decide) (hT _ wd_259) (fun _ h9 => h9) rfl dX3_isEmpty_1 ?_
  refine lv_iconst (v := (-1)) hx hb dX3_isEmpty_4 (by decide) ?_
  refine lv_icmp_ne (tgt := 12) hx hb dX3_isEmpty_5 (by decide) (fun c_1 => absurd (by decide) c_1) (fun c_1 => ?_)
  refine lv_iconst (v := 1) hx hb dX3_isEmpty_8 (by decide) ?_
  refine lv_goto (tgt := 13) hx hb dX3_isEmpty_9 (by decide) ?_
  exact gx_retPZ C hS rfl (rfl) dX3_isEmpty_13
set_option maxHeartbeats 4000000 in
set_option maxRecDepth 100000 in
theorem k_isRow (l : Launch) (D : va_G) (k : Nat → ClassId) (h0 : Nat) (e0 : Nat) (z0 : Int32) (a0 : Int32) (sz : Nat) : Met l yX3_isRow (.code yX3_isRow cX3_isRow 1 (some .boolean) :: gx_T) ({ frames := 0, cells := 0, slots := 0, locals := 0 }) (gx_Pre D k [.ref h0] ([(h0, .inr (1, [.ref e0, .int z0, .int a0, .int (-1)]))]) sz) (gx_Pi (fun r => r = 0)) 0 0 gx_No := by
  refine gx_metP (y := yX3_isRow) (cc := cX3_isRow) (n := 1) (ret := (some .boolean)) (av := [.ref h0]) (by decide) (Nat.le_of_ble_eq_true rfl) ?_
  intro p e s m below meth c ls C hP hD hK hS hl
  obtain ⟨hx, hb, hr, hml, hown, hT, hlk, hin⟩ := id C
  have hown : s.vm.findClass RX3 = some m.cls := hown
  have hl : lv_has ls 1 [(0, .ref h0)] := hl
  refine lv_aload_n hx hb dX3_isRow_0 rfl (lv_at hl 0 rfl) ?_
  refine va_get (D := D) (ci := 1) (v := .int (-1)) (C := RX3) (T := TX3) (N := 4) hx hb hT iw_TX3 hown hK.1 hP 0 rfl rfl 3 (by decide) (hT _ wd_259) (fun _ h9 => h9) rfl dX3_isRow_1 ?_
  refine lv_if_lt (tgt := 19) hx hb dX3_isRow_4 (by decide) (fun c_1 => ?_) (fun c_1 => absurd (by decide) c_1)
  refine lv_iconst (v := 0) hx hb dX3_isRow_19 (by decide) ?_
  exact gx_retPZ C hS rfl (rfl) dX3_isRow_20
set_option maxHeartbeats 4000000 in
set_option maxRecDepth 100000 in
theorem k_isRule (l : Launch) (D : va_G) (k : Nat → ClassId) (h0 : Nat) (e0 : Nat) (z0 : Int32) (a0 : Int32) (sz : Nat) : Met l yX3_isRule (.code yX3_isRule cX3_isRule 1 (some .boolean) :: gx_T) ({ frames := 0, cells := 0, slots := 0, locals := 0 }) (gx_Pre D k [.ref h0] ([(h0, .inr (1, [.ref e0, .int z0, .int a0, .int (-1)]))]) sz) (gx_Pi (fun r => r = 0)) 0 0 gx_No := by
  refine gx_metP (y := yX3_isRule) (cc := cX3_isRule) (n := 1) (ret := (some .boolean)) (av := [.ref h0]) (by decide) (Nat.le_of_ble_eq_true rfl) ?_
  intro p e s m below meth c ls C hP hD hK hS hl
  obtain ⟨hx, hb, hr, hml, hown, hT, hlk, hin⟩ := id C
  have hown : s.vm.findClass RX3 = some m.cls := hown
  have hl : lv_has ls 1 [(0, .ref h0)] := hl
  refine lv_aload_n hx hb dX3_isRule_0 rfl (lv_at hl 0 rfl) ?_
  refine va_get (D := D) (ci := 1) (v := .int (-1)) (C := RX3) (T := TX3) (N := 4) hx hb hT iw_TX3 hown hK.1 hP 0 rfl rfl 3 (by decide) (hT _ wd_259) (fun _ h9 => h9) rfl dX3_isRule_1 ?_
  refine lv_bipush (v := 10) hx hb dX3_isRule_4 (by decide) ?_
  refine lv_icmp_lt (tgt := 13) hx hb dX3_isRule_6 (by decide) (fun c_1 => ?_) (fun c_1 => absurd (by decide) c_1)
  refine lv_iconst (v := 0) hx hb dX3_isRule_13 (by decide) ?_
  exact gx_retPZ C hS rfl (rfl) dX3_isRule_14
