theorem dL_law_27 : decode code 27 = .ok (.aload_n 0, 1) := by decide +kernel
theorem dL_law_28 : decode code 28 = .ok (.iload_n 3, 1) := by decide +kernel
theorem dL_law_29 : decode code 29 = .ok (.iaload, 1) := by decide +kernel
theorem dL_law_30 : decode code 30 = .ok (.bipush 63, 2) := by decide +kernel
theorem dL_law_32 : decode code 32 = .ok (.iand, 1) := by decide +kernel
theorem dL_law_33 : decode code 33 = .ok (.tableswitch 1773 0 46 #[203, 246, 319, 382, 416, 439, 482, 515, 584, 607, 656, 679, 712, 725, 738, 771, 804, 837, 860, 883, 906, 929, 962, 975, 1008, 1061, 1084, 1127, 1170, 1223, 1256, 1279, 1312, 1335, 1368, 1411, 1454, 1497, 1530, 1573, 1596, 1629, 1668, 1701, 1724, 1737, 1750], 203) := by decide +kernel
set_option maxHeartbeats 4000000 in
set_option maxRecDepth 100000 in
theorem lc_sw {p : Program} {l : Launch} {e : Env} {s : State} {m : MethodId} {below : List Frame} {meth : Method} {c : Code} {b : Nat} {xs : Nat → Int32} {D : va_G} {k : Nat → ClassId} {A : Nat → Prop} (C0 : lc_C p s m meth c b xs D k A) (ad : Nat → Nat) (fs : Nat → Option Nat) (wn : Nat → Int32) (wk : Nat → Int32) (wt : Nat → Int32) (hm : Nat) (am : Nat → Nat) (gr : Nat → Option Nat) (gd : Nat → Option Nat) (go : Nat → Option Nat) (gl : Nat → Option Nat) (hfs : ∀ i, i < 8 → fs i = some (ad (50 + i))) (hgr : ∀ i, i < 8 → gr i = some (am (30 + i))) (hgd : ∀ i, i < 16 → gd i = some (am (40 + i))) (hgo : ∀ i, i < 6 → go i = some (am (60 + i))) (hgl : ∀ i, i < 6 → gl i = some (am (70 + i))) (H : Heap) (locs : List Loc) (ls : Array Slot) (hP : va_P D gx_cl (lw_full k ad fs wn wk wt hm am gr gd go gl) H) (hD : va_D A (lw_full k ad fs wn wk wt hm am gr gd go gl)) (hS : va_S A s.heap H locs) (hl : lv_has ls 4 [(3, .int 0), (2, .ref hm), (1, .ref (ad 0)), (0, .ref b)]) : W p l e room_1 s m #[Value.ref b] below meth c H locs 1140 19699 (lw_Z below #[Value.ref b] s) (F0 m 27 ls []) := by
  obtain ⟨C, hK, hX, hbl, hA, hA2, hbA⟩ := id C0
  obtain ⟨hx, hb, hr, hml, hown, hT, hlk, -⟩ := id C
  refine lv_aload_n hx hb dL_law_27 rfl (lv_at hl 3 rfl) ?_
  refine lv_iload_n hx hb dL_law_28 rfl (lv_at hl 0 rfl) ?_
  refine va_sld hx hb hX hbl hbA hS (gx_vin rfl) dL_law_29 ?_
  refine lv_bipush (v := 63) hx hb dL_law_30 (by decide) ?_
  refine lv_iand hx hb dL_law_32 ?_
  refine lv_topi (fun v ev => ?_)
  clear ev
  by_cases hb46 : gx_b v 0 46 = true
  · obtain ⟨j, hj, rfl⟩ := gx_nat (n := 47) hb46 (by decide) (by decide)
    match j, hj with
    | 0, _ =>
      refine gx_cst (v := 0) (by decide) ?_
      refine lv_tableIn (off := 203) (tgt := 236) hx hb dL_law_33 (by decide) (by decide) (by decide) (by decide) ?_
      exact ls_row C0 ad fs wn wk wt hm am gr gd go gl hfs hgr hgd hgo hgl H locs ls hP hD hS hl
    | 1, _ =>
      refine gx_cst (v := 1) (by decide) ?_
      refine lv_tableIn (off := 246) (tgt := 279) hx hb dL_law_33 (by decide) (by decide) (by decide) (by decide) ?_
      exact ls_set C0 ad fs wn wk wt hm am gr gd go gl hfs hgr hgd hgo hgl H locs ls hP hD hS hl
    | 2, _ =>
      refine gx_cst (v := 2) (by decide) ?_
      refine lv_tableIn (off := 319) (tgt := 352) hx hb dL_law_33 (by decide) (by decide) (by decide) (by decide) ?_
      exact ls_copy C0 ad fs wn wk wt hm am gr gd go gl hfs hgr hgd hgo hgl H locs ls hP hD hS hl
    | 3, _ =>
      refine gx_cst (v := 3) (by decide) ?_
      refine lv_tableIn (off := 382) (tgt := 415) hx hb dL_law_33 (by decide) (by decide) (by decide) (by decide) ?_
      exact ls_element C0 ad fs wn wk wt hm am gr gd go gl hfs hgr hgd hgo hgl H locs ls hP hD hS hl
    | 4, _ =>
      refine gx_cst (v := 4) (by decide) ?_
      refine lv_tableIn (off := 416) (tgt := 449) hx hb dL_law_33 (by decide) (by decide) (by decide) (by decide) ?_
      exact ls_holds C0 ad fs wn wk wt hm am gr gd go gl hfs hgr hgd hgo hgl H locs ls hP hD hS hl
    | 5, _ =>
      refine gx_cst (v := 5) (by decide) ?_
      refine lv_tableIn (off := 439) (tgt := 472) hx hb dL_law_33 (by decide) (by decide) (by decide) (by decide) ?_
      exact ls_rule C0 ad fs wn wk wt hm am gr gd go gl hfs hgr hgd hgo hgl H locs ls hP hD hS hl
    | 6, _ =>
      refine gx_cst (v := 6) (by decide) ?_
      refine lv_tableIn (off := 482) (tgt := 515) hx hb dL_law_33 (by decide) (by decide) (by decide) (by decide) ?_
      exact ls_says C0 ad fs wn wk wt hm am gr gd go gl hfs hgr hgd hgo hgl H locs ls hP hD hS hl
    | 7, _ =>
      refine gx_cst (v := 7) (by decide) ?_
      refine lv_tableIn (off := 515) (tgt := 548) hx hb dL_law_33 (by decide) (by decide) (by decide) (by decide) ?_
      exact lc_road C0 ad hm am gd gl hgd hgl H locs ls (gx_subP hP [0, 1, 6, 7, 8, 9, 10, 51, 59, 60, 71, 62, 93, 94, 95, 96, 97, 98] rfl) (hD.sub [0, 1, 6, 7, 8, 9, 10, 51, 59, 60, 71, 62, 93, 94, 95, 96, 97, 98] (by decide) rfl) hS hl
    | 8, _ =>
      refine gx_cst (v := 8) (by decide) ?_
      refine lv_tableIn (off := 584) (tgt := 617) hx hb dL_law_33 (by decide) (by decide) (by decide) (by decide) ?_
      exact lc_one C0 ad hm am go gl hgo hgl H locs ls (gx_subP hP [0, 1, 6, 11, 12, 13, 51, 59, 61, 87, 62, 93] rfl) (hD.sub [0, 1, 6, 11, 12, 13, 51, 59, 61, 87, 62, 93] (by decide) rfl) hS hl
    | 9, _ =>
      refine gx_cst (v := 9) (by decide) ?_
      refine lv_tableIn (off := 607) (tgt := 640) hx hb dL_law_33 (by decide) (by decide) (by decide) (by decide) ?_
      exact lc_shut C0 ad hm am H locs ls (gx_subP hP [0, 1, 6, 51, 59] rfl) (hD.sub [0, 1, 6, 51, 59] (by decide) rfl) hS hl
    | 10, _ =>
      refine gx_cst (v := 10) (by decide) ?_
      refine lv_tableIn (off := 656) (tgt := 689) hx hb dL_law_33 (by decide) (by decide) (by decide) (by decide) ?_
      exact lc_anew C0 ad hm am H locs ls (gx_subP hP [0, 1, 6, 51, 59] rfl) (hD.sub [0, 1, 6, 51, 59] (by decide) rfl) hS hl
    | 11, _ =>
      refine gx_cst (v := 11) (by decide) ?_
      refine lv_tableIn (off := 679) (tgt := 712) hx hb dL_law_33 (by decide) (by decide) (by decide) (by decide) ?_
      exact lc_feed C0 ad hm am H locs ls (gx_subP hP [0, 6, 4, 34, 51, 59, 58] rfl) (hD.sub [0, 6, 4, 34, 51, 59, 58] (by decide) rfl) hS hl
    | 12, _ =>
      refine gx_cst (v := 12) (by decide) ?_
      refine lv_tableIn (off := 712) (tgt := 745) hx hb dL_law_33 (by decide) (by decide) (by decide) (by decide) ?_
      exact lc_wipe C0 ad hm am H locs ls (gx_subP hP [0, 4, 51] rfl) (hD.sub [0, 4, 51] (by decide) rfl) hS hl
    | 13, _ =>
      refine gx_cst (v := 13) (by decide) ?_
      refine lv_tableIn (off := 725) (tgt := 758) hx hb dL_law_33 (by decide) (by decide) (by decide) (by decide) ?_
      exact lc_land C0 ad wn wt hm am gd go gl hgd hgo hgl H locs ls (gx_subP hP [0, 1, 3, 4, 6, 7, 8, 9, 10, 11, 12, 13, 14, 15, 25, 26, 27, 28, 29, 30, 31, 32, 33, 51, 60, 61, 62, 71, 72, 73, 74, 75, 76, 77, 78, 79, 80, 81, 82, 83, 84, 85, 86, 87, 88, 89, 90, 91, 92, 93, 94, 95, 96, 97, 98, 59] rfl) (hD.sub [0, 1, 3, 4, 6, 7, 8, 9, 10, 11, 12, 13, 14, 15, 25, 26, 27, 28, 29, 30, 31, 32, 33, 51, 60, 61, 62, 71, 72, 73, 74, 75, 76, 77, 78, 79, 80, 81, 82, 83, 84, 85, 86, 87, 88, 89, 90, 91, 92, 93, 94, 95, 96, 97, 98, 59] (by decide) rfl) hS hl
    | 14, _ =>
      refine gx_cst (v := 14) (by decide) ?_
      refine lv_tableIn (off := 738) (tgt := 771) hx hb dL_law_33 (by decide) (by decide) (by decide) (by decide) ?_
      exact lc_roadOf C0 ad hm am H locs ls (gx_subP hP [0, 1, 6, 51, 59] rfl) (hD.sub [0, 1, 6, 51, 59] (by decide) rfl) hS hl
    | 15, _ =>
      refine gx_cst (v := 15) (by decide) ?_
      refine lv_tableIn (off := 771) (tgt := 804) hx hb dL_law_33 (by decide) (by decide) (by decide) (by decide) ?_
      exact lc_oneOf C0 ad hm am H locs ls (gx_subP hP [0, 1, 6, 51, 59] rfl) (hD.sub [0, 1, 6, 51, 59] (by decide) rfl) hS hl
    | 16, _ =>
      refine gx_cst (v := 16) (by decide) ?_
      refine lv_tableIn (off := 804) (tgt := 837) hx hb dL_law_33 (by decide) (by decide) (by decide) (by decide) ?_
      exact lc_when C0 ad hm am H locs ls (gx_subP hP [0, 1, 6, 51, 59] rfl) (hD.sub [0, 1, 6, 51, 59] (by decide) rfl) hS hl
    | 17, _ =>
      refine gx_cst (v := 17) (by decide) ?_
      refine lv_tableIn (off := 837) (tgt := 870) hx hb dL_law_33 (by decide) (by decide) (by decide) (by decide) ?_
      exact lc_left C0 ad hm am H locs ls (gx_subP hP [0, 1, 6, 51, 59] rfl) (hD.sub [0, 1, 6, 51, 59] (by decide) rfl) hS hl
    | 18, _ =>
      refine gx_cst (v := 18) (by decide) ?_
      refine lv_tableIn (off := 860) (tgt := 893) hx hb dL_law_33 (by decide) (by decide) (by decide) (by decide) ?_
      exact lc_here C0 ad hm am H locs ls (gx_subP hP [0, 1, 6, 51, 59] rfl) (hD.sub [0, 1, 6, 51, 59] (by decide) rfl) hS hl
    | 19, _ =>
      refine gx_cst (v := 19) (by decide) ?_
      refine lv_tableIn (off := 883) (tgt := 916) hx hb dL_law_33 (by decide) (by decide) (by decide) (by decide) ?_
      exact lc_reach C0 ad hm am H locs ls (gx_subP hP [0, 1, 6, 51, 59] rfl) (hD.sub [0, 1, 6, 51, 59] (by decide) rfl) hS hl
    | 20, _ =>
      refine gx_cst (v := 20) (by decide) ?_
      refine lv_tableIn (off := 906) (tgt := 939) hx hb dL_law_33 (by decide) (by decide) (by decide) (by decide) ?_
      exact lc_safe C0 ad hm am H locs ls (gx_subP hP [0, 1, 6, 51, 59] rfl) (hD.sub [0, 1, 6, 51, 59] (by decide) rfl) hS hl
    | 21, _ =>
      refine gx_cst (v := 21) (by decide) ?_
      refine lv_tableIn (off := 929) (tgt := 962) hx hb dL_law_33 (by decide) (by decide) (by decide) (by decide) ?_
      exact lc_go C0 ad hm am H locs ls (gx_subP hP [0, 1, 6, 51, 59] rfl) (hD.sub [0, 1, 6, 51, 59] (by decide) rfl) hS hl
    | 22, _ =>
      refine gx_cst (v := 22) (by decide) ?_
      refine lv_tableIn (off := 962) (tgt := 995) hx hb dL_law_33 (by decide) (by decide) (by decide) (by decide) ?_
      exact lc_year C0 ad hm am H locs ls (gx_subP hP [0, 1, 51] rfl) (hD.sub [0, 1, 51] (by decide) rfl) hS hl
    | 23, _ =>
      refine gx_cst (v := 23) (by decide) ?_
      refine lv_tableIn (off := 975) (tgt := 1008) hx hb dL_law_33 (by decide) (by decide) (by decide) (by decide) ?_
      exact lc_nextQ C0 ad hm am H locs ls (gx_subP hP [0, 1, 6, 51, 59] rfl) (hD.sub [0, 1, 6, 51, 59] (by decide) rfl) hS hl
    | 24, _ =>
      refine gx_cst (v := 24) (by decide) ?_
      refine lv_tableIn (off := 1008) (tgt := 1041) hx hb dL_law_33 (by decide) (by decide) (by decide) (by decide) ?_
      exact lc_run C0 ad hm am H locs ls (gx_subP hP [0, 1, 6, 51, 59] rfl) (hD.sub [0, 1, 6, 51, 59] (by decide) rfl) hS hl
    | 25, _ =>
      refine gx_cst (v := 25) (by decide) ?_
      refine lv_tableIn (off := 1061) (tgt := 1094) hx hb dL_law_33 (by decide) (by decide) (by decide) (by decide) ?_
      exact lc_head C0 ad hm am H locs ls (gx_subP hP [0, 1, 6, 51, 59] rfl) (hD.sub [0, 1, 6, 51, 59] (by decide) rfl) hS hl
    | 26, _ =>
      refine gx_cst (v := 26) (by decide) ?_
      refine lv_tableIn (off := 1084) (tgt := 1117) hx hb dL_law_33 (by decide) (by decide) (by decide) (by decide) ?_
      exact lc_lives C0 ad hm am H locs ls (gx_subP hP [0, 1, 6, 51, 59] rfl) (hD.sub [0, 1, 6, 51, 59] (by decide) rfl) hS hl
    | 27, _ =>
      refine gx_cst (v := 27) (by decide) ?_
      refine lv_tableIn (off := 1127) (tgt := 1160) hx hb dL_law_33 (by decide) (by decide) (by decide) (by decide) ?_
      exact lc_judge C0 ad hm am H locs ls (gx_subP hP [0, 1, 6, 51, 59] rfl) (hD.sub [0, 1, 6, 51, 59] (by decide) rfl) hS hl
    | 28, _ =>
      refine gx_cst (v := 28) (by decide) ?_
      refine lv_tableIn (off := 1170) (tgt := 1203) hx hb dL_law_33 (by decide) (by decide) (by decide) (by decide) ?_
      exact lc_told C0 ad hm am H locs ls (gx_subP hP [0, 1, 6, 51, 59] rfl) (hD.sub [0, 1, 6, 51, 59] (by decide) rfl) hS hl
    | 29, _ =>
      refine gx_cst (v := 29) (by decide) ?_
      refine lv_tableIn (off := 1223) (tgt := 1256) hx hb dL_law_33 (by decide) (by decide) (by decide) (by decide) ?_
      exact lc_law C0 ad hm am H locs ls (gx_subP hP [0, 1, 6, 51, 59] rfl) (hD.sub [0, 1, 6, 51, 59] (by decide) rfl) hS hl
    | 30, _ =>
      refine gx_cst (v := 30) (by decide) ?_
      refine lv_tableIn (off := 1256) (tgt := 1289) hx hb dL_law_33 (by decide) (by decide) (by decide) (by decide) ?_
      exact lc_all C0 ad hm am H locs ls (gx_subP hP [0, 1, 6, 51, 59] rfl) (hD.sub [0, 1, 6, 51, 59] (by decide) rfl) hS hl
    | 31, _ =>
      refine gx_cst (v := 31) (by decide) ?_
      refine lv_tableIn (off := 1279) (tgt := 1312) hx hb dL_law_33 (by decide) (by decide) (by decide) (by decide) ?_
      exact lc_way C0 ad hm am H locs ls (gx_subP hP [0, 1, 6, 51, 59] rfl) (hD.sub [0, 1, 6, 51, 59] (by decide) rfl) hS hl
    | 32, _ =>
      refine gx_cst (v := 32) (by decide) ?_
      refine lv_tableIn (off := 1312) (tgt := 1345) hx hb dL_law_33 (by decide) (by decide) (by decide) (by decide) ?_
      exact lc_lacks C0 ad hm am H locs ls (gx_subP hP [0, 1, 6, 51, 59] rfl) (hD.sub [0, 1, 6, 51, 59] (by decide) rfl) hS hl
    | 33, _ =>
      refine gx_cst (v := 33) (by decide) ?_
      refine lv_tableIn (off := 1335) (tgt := 1368) hx hb dL_law_33 (by decide) (by decide) (by decide) (by decide) ?_
      exact lc_longest C0 ad hm am H locs ls (gx_subP hP [0, 1, 6, 51, 59] rfl) (hD.sub [0, 1, 6, 51, 59] (by decide) rfl) hS hl
    | 34, _ =>
      refine gx_cst (v := 34) (by decide) ?_
      refine lv_tableIn (off := 1368) (tgt := 1401) hx hb dL_law_33 (by decide) (by decide) (by decide) (by decide) ?_
      exact lc_errands C0 ad hm am H locs ls (gx_subP hP [0, 1, 6, 51, 59] rfl) (hD.sub [0, 1, 6, 51, 59] (by decide) rfl) hS hl
    | 35, _ =>
      refine gx_cst (v := 35) (by decide) ?_
      refine lv_tableIn (off := 1411) (tgt := 1444) hx hb dL_law_33 (by decide) (by decide) (by decide) (by decide) ?_
      exact lc_cut C0 ad hm am H locs ls (gx_subP hP [0, 1, 6, 51, 59] rfl) (hD.sub [0, 1, 6, 51, 59] (by decide) rfl) hS hl
    | 36, _ =>
      refine gx_cst (v := 36) (by decide) ?_
      refine lv_tableIn (off := 1454) (tgt := 1487) hx hb dL_law_33 (by decide) (by decide) (by decide) (by decide) ?_
      exact lc_meets C0 ad hm am H locs ls (gx_subP hP [0, 1, 6, 51, 59] rfl) (hD.sub [0, 1, 6, 51, 59] (by decide) rfl) hS hl
    | 37, _ =>
      refine gx_cst (v := 37) (by decide) ?_
      refine lv_tableIn (off := 1497) (tgt := 1530) hx hb dL_law_33 (by decide) (by decide) (by decide) (by decide) ?_
      exact lc_near C0 ad hm am H locs ls (gx_subP hP [0, 1, 6, 51, 59] rfl) (hD.sub [0, 1, 6, 51, 59] (by decide) rfl) hS hl
    | 38, _ =>
      refine gx_cst (v := 38) (by decide) ?_
      refine lv_tableIn (off := 1530) (tgt := 1563) hx hb dL_law_33 (by decide) (by decide) (by decide) (by decide) ?_
      exact lc_together C0 ad hm am H locs ls (gx_subP hP [0, 1, 6, 51, 59] rfl) (hD.sub [0, 1, 6, 51, 59] (by decide) rfl) hS hl
    | 39, _ =>
      refine gx_cst (v := 39) (by decide) ?_
      refine lv_tableIn (off := 1573) (tgt := 1606) hx hb dL_law_33 (by decide) (by decide) (by decide) (by decide) ?_
      exact lc_frees C0 ad hm am H locs ls (gx_subP hP [0, 1, 6, 51, 59] rfl) (hD.sub [0, 1, 6, 51, 59] (by decide) rfl) hS hl
    | 40, _ =>
      refine gx_cst (v := 40) (by decide) ?_
      refine lv_tableIn (off := 1596) (tgt := 1629) hx hb dL_law_33 (by decide) (by decide) (by decide) (by decide) ?_
      exact lc_send C0 ad hm am H locs ls (gx_subP hP [0, 1, 6, 51, 59] rfl) (hD.sub [0, 1, 6, 51, 59] (by decide) rfl) hS hl
    | 41, _ =>
      refine gx_cst (v := 41) (by decide) ?_
      refine lv_tableIn (off := 1629) (tgt := 1662) hx hb dL_law_33 (by decide) (by decide) (by decide) (by decide) ?_
      exact lc_fast C0 ad hm am H locs ls (gx_subP hP [0, 1, 51] rfl) (hD.sub [0, 1, 51] (by decide) rfl) hS hl
    | 42, _ =>
      refine gx_cst (v := 42) (by decide) ?_
      refine lv_tableIn (off := 1668) (tgt := 1701) hx hb dL_law_33 (by decide) (by decide) (by decide) (by decide) ?_
      exact lc_wander C0 ad hm am H locs ls (gx_subP hP [0, 1, 6, 51, 59] rfl) (hD.sub [0, 1, 6, 51, 59] (by decide) rfl) hS hl
    | 43, _ =>
      refine gx_cst (v := 43) (by decide) ?_
      refine lv_tableIn (off := 1701) (tgt := 1734) hx hb dL_law_33 (by decide) (by decide) (by decide) (by decide) ?_
      exact lc_seed C0 ad hm am H locs ls (gx_subP hP [0, 1, 51] rfl) (hD.sub [0, 1, 51] (by decide) rfl) hS hl
    | 44, _ =>
      refine gx_cst (v := 44) (by decide) ?_
      refine lv_tableIn (off := 1724) (tgt := 1757) hx hb dL_law_33 (by decide) (by decide) (by decide) (by decide) ?_
      exact lc_image C0 ad wn wk hm am gd go gl hgd hgo hgl H locs ls (gx_subP hP [0, 1, 2, 7, 8, 9, 10, 11, 12, 13, 14, 15, 16, 17, 18, 19, 20, 21, 22, 23, 24, 51, 60, 61, 62, 71, 72, 73, 74, 75, 76, 77, 78, 79, 80, 81, 82, 83, 84, 85, 86, 87, 88, 89, 90, 91, 92, 93, 94, 95, 96, 97, 98] rfl) (hD.sub [0, 1, 2, 7, 8, 9, 10, 11, 12, 13, 14, 15, 16, 17, 18, 19, 20, 21, 22, 23, 24, 51, 60, 61, 62, 71, 72, 73, 74, 75, 76, 77, 78, 79, 80, 81, 82, 83, 84, 85, 86, 87, 88, 89, 90, 91, 92, 93, 94, 95, 96, 97, 98] (by decide) rfl) hS hl
    | 45, _ =>
      refine gx_cst (v := 45) (by decide) ?_
      refine lv_tableIn (off := 1737) (tgt := 1770) hx hb dL_law_33 (by decide) (by decide) (by decide) (by decide) ?_
      exact lc_back C0 ad hm am H locs ls (gx_subP hP [0, 6, 51, 59] rfl) (hD.sub [0, 6, 51, 59] (by decide) rfl) hS hl
    | 46, _ =>
      refine gx_cst (v := 46) (by decide) ?_
      refine lv_tableIn (off := 1750) (tgt := 1783) hx hb dL_law_33 (by decide) (by decide) (by decide) (by decide) ?_
      exact lc_status C0 ad fs hm am hfs H locs ls (gx_subP hP [0, 1, 4, 6, 5, 35, 36, 37, 38, 39, 40, 41, 42, 51, 59, 52] rfl) (hD.sub [0, 1, 4, 6, 5, 35, 36, 37, 38, 39, 40, 41, 42, 51, 59, 52] (by decide) rfl) hS hl
    | j + 47, hj => exact absurd hj (by omega)
  · refine lv_tableOut (tgt := 1806) hx hb dL_law_33 (gx_o46 hb46) (by decide) ?_
    exact lc_next C0 hS (Nat.le_of_ble_eq_true rfl) (Nat.le_of_ble_eq_true rfl) (lv_sub hl [0, 3] rfl)
