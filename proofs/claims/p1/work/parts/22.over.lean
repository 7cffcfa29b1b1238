-- int[][] over int[][]: the loop of overAll, any number of rows
def ov_W (k : Nat → ClassId) (N K a b : Nat) (ga gb : Nat → Option Nat) (ra rb : Nat → Nat) (F G : Nat → Nat → Int32) : va_W := (a, .inl (k 3, N, .inr (.inr (.inr (.inr ga))))) :: (b, .inl (k 3, N, .inr (.inr (.inr (.inr gb))))) :: ((List.range N).map (fun i => ((ra i, .inl (k 0, K, .inl (F i))) : Nat × va_E)) ++ (List.range N).map (fun i => ((rb i, .inl (k 0, K, .inl (G i))) : Nat × va_E)))
theorem ov_a {k : Nat → ClassId} {N K a b : Nat} {ga gb : Nat → Option Nat} {ra rb : Nat → Nat} {F G : Nat → Nat → Int32} {i : Nat} (h : i < N) : (ov_W k N K a b ga gb ra rb F G)[i + 2]? = some (ra i, .inl (k 0, K, .inl (F i))) := by
  unfold ov_W
  rw [List.getElem?_cons_succ, List.getElem?_cons_succ, List.getElem?_append_left (by simpa using h), List.getElem?_map, List.getElem?_range h]
  rfl
theorem ov_b {k : Nat → ClassId} {N K a b : Nat} {ga gb : Nat → Option Nat} {ra rb : Nat → Nat} {F G : Nat → Nat → Int32} {i : Nat} (h : i < N) : (ov_W k N K a b ga gb ra rb F G)[N + i + 2]? = some (rb i, .inl (k 0, K, .inl (G i))) := by
  unfold ov_W
  rw [List.getElem?_cons_succ, List.getElem?_cons_succ, List.getElem?_append_right (by simp), List.getElem?_map]
  have e : N + i - ((List.range N).map (fun i => ((ra i, .inl (k 0, K, .inl (F i))) : Nat × va_E))).length = i := by simp
  rw [e, List.getElem?_range h]
  rfl
theorem ov_map {α : Type} {N i : Nat} (f : Nat → α) (v : α) : ((List.range N).map f).set i v = (List.range N).map (va_up f i v) := by
  apply List.ext_getElem?
  intro j
  rw [List.getElem?_set, List.getElem?_map, List.getElem?_map]
  by_cases hj : j < N
  · rw [List.getElem?_range hj]
    by_cases hij : i = j
    · subst hij
      simp [va_up, hj]
    · have hji : ¬ j = i := fun q => hij q.symm
      simp [va_up, hij, hji]
  · have hn : (List.range N)[j]? = none := List.getElem?_eq_none (by rw [List.length_range]; omega)
    rw [hn]
    by_cases hij : i = j
    · subst hij
      simp [hj]
    · simp [hij]
theorem ov_set {k : Nat → ClassId} {N K a b : Nat} {ga gb : Nat → Option Nat} {ra rb : Nat → Nat} {F G : Nat → Nat → Int32} {i : Nat} (g : Nat → Int32) : (ov_W k N K a b ga gb ra rb F G).set (N + i + 2) (rb i, .inl (k 0, K, .inl g)) = ov_W k N K a b ga gb ra rb F (va_up G i g) := by
  unfold ov_W
  rw [List.set_cons_succ, List.set_cons_succ, List.set_append_right _ _ (by simp)]
  have e : N + i - ((List.range N).map (fun i => ((ra i, .inl (k 0, K, .inl (F i))) : Nat × va_E))).length = i := by simp
  rw [e, ov_map]
  congr 3
  apply List.map_congr_left
  intro j _
  by_cases hj : j = i
  · subst hj
    simp [va_up]
  · simp [va_up, hj]
theorem dX7_overAll_0 : decode cX7_overAll 0 = .ok (.iconst 0, 1) := by decide +kernel
theorem dX7_overAll_1 : decode cX7_overAll 1 = .ok (.istore_n 2, 1) := by decide +kernel
theorem dX7_overAll_2 : decode cX7_overAll 2 = .ok (.iload_n 2, 1) := by decide +kernel
theorem dX7_overAll_3 : decode cX7_overAll 3 = .ok (.aload_n 0, 1) := by decide +kernel
theorem dX7_overAll_4 : decode cX7_overAll 4 = .ok (.arraylength, 1) := by decide +kernel
theorem dX7_overAll_5 : decode cX7_overAll 5 = .ok (.if_icmp .ge 35, 3) := by decide +kernel
theorem dX7_overAll_8 : decode cX7_overAll 8 = .ok (.iconst 0, 1) := by decide +kernel
theorem dX7_overAll_9 : decode cX7_overAll 9 = .ok (.istore_n 3, 1) := by decide +kernel
theorem dX7_overAll_10 : decode cX7_overAll 10 = .ok (.iload_n 3, 1) := by decide +kernel
theorem dX7_overAll_11 : decode cX7_overAll 11 = .ok (.aload_n 0, 1) := by decide +kernel
theorem dX7_overAll_12 : decode cX7_overAll 12 = .ok (.iload_n 2, 1) := by decide +kernel
theorem dX7_overAll_13 : decode cX7_overAll 13 = .ok (.aaload, 1) := by decide +kernel
theorem dX7_overAll_14 : decode cX7_overAll 14 = .ok (.arraylength, 1) := by decide +kernel
theorem dX7_overAll_15 : decode cX7_overAll 15 = .ok (.if_icmp .ge 19, 3) := by decide +kernel
theorem dX7_overAll_18 : decode cX7_overAll 18 = .ok (.aload_n 1, 1) := by decide +kernel
theorem dX7_overAll_19 : decode cX7_overAll 19 = .ok (.iload_n 2, 1) := by decide +kernel
theorem dX7_overAll_20 : decode cX7_overAll 20 = .ok (.aaload, 1) := by decide +kernel
theorem dX7_overAll_21 : decode cX7_overAll 21 = .ok (.iload_n 3, 1) := by decide +kernel
theorem dX7_overAll_22 : decode cX7_overAll 22 = .ok (.aload_n 0, 1) := by decide +kernel
theorem dX7_overAll_23 : decode cX7_overAll 23 = .ok (.iload_n 2, 1) := by decide +kernel
theorem dX7_overAll_24 : decode cX7_overAll 24 = .ok (.aaload, 1) := by decide +kernel
theorem dX7_overAll_25 : decode cX7_overAll 25 = .ok (.iload_n 3, 1) := by decide +kernel
theorem dX7_overAll_26 : decode cX7_overAll 26 = .ok (.iaload, 1) := by decide +kernel
theorem dX7_overAll_27 : decode cX7_overAll 27 = .ok (.iastore, 1) := by decide +kernel
theorem dX7_overAll_28 : decode cX7_overAll 28 = .ok (.iinc 3 1, 3) := by decide +kernel
theorem dX7_overAll_31 : decode cX7_overAll 31 = .ok (.goto (-21), 3) := by decide +kernel
theorem dX7_overAll_34 : decode cX7_overAll 34 = .ok (.iinc 2 1, 3) := by decide +kernel
theorem dX7_overAll_37 : decode cX7_overAll 37 = .ok (.goto (-35), 3) := by decide +kernel
theorem dX7_overAll_40 : decode cX7_overAll 40 = .ok (.return_, 1) := by decide +kernel
set_option maxHeartbeats 4000000 in
set_option maxRecDepth 100000 in
theorem kx_overAll (l : Launch) (D : va_G) (k : Nat → ClassId) (N K : Nat) (hN : N < 2 ^ 31) (hK9 : K < 2 ^ 31) (a b : Nat) (ga gb : Nat → Option Nat) (ra rb : Nat → Nat) (hga : ∀ i, i < N → ga i = some (ra i)) (hgb : ∀ i, i < N → gb i = some (rb i)) (F G : Nat → Nat → Int32) (sz : Nat) : Met l yX7_overAll (.code yX7_overAll cX7_overAll 4 none :: gx_T) ({ frames := 0, cells := 0, slots := 0, locals := 0 }) (gx_Pre D k [.ref a, .ref b] (ov_W k N K a b ga gb ra rb F G) sz) (gx_Qv D (fun (u : Nat → Nat → Int32) => True) (fun (u : Nat → Nat → Int32) => ov_W k N K a b ga gb ra rb F u) (va_A (ov_W k N K a b ga gb ra rb F G) sz)) 0 0 (va_A (ov_W k N K a b ga gb ra rb F G) sz) := by
  refine gx_metE (Qc := fun A => gx_Qv D (fun (u : Nat → Nat → Int32) => True) (fun (u : Nat → Nat → Int32) => ov_W k N K a b ga gb ra rb F u) A) (y := yX7_overAll) (cc := cX7_overAll) (n := 4) (ret := none) (av := [.ref a, .ref b]) (by decide) (Nat.le_of_ble_eq_true rfl) ?_
  intro p e s m below meth c A ls C hA hP hD hK hS hl
  obtain ⟨hx, hb, hr, hml, hown, hT, hlk, hin⟩ := id C
  have hl : lv_has ls 4 [(0, .ref a), (1, .ref b)] := hl
  have inner : ∀ (i : Nat), i < N → (∀ (G : Nat → Nat → Int32) (H : Heap) (locs : List Loc) (ls : Array Slot), va_P D gx_cl (ov_W k N K a b ga gb ra rb F G) H → va_D A (ov_W k N K a b ga gb ra rb F G) → va_S A s.heap H locs → lv_has ls 4 [(0, .ref a), (1, .ref b), (2, .int (nI i))] → W p l e ({ frames := 0, cells := 0, slots := 0, locals := 0 }) s m ([.ref a, .ref b] : List Value).toArray below meth c H locs 0 0 (MQ below (gx_Qv D (fun (u : Nat → Nat → Int32) => True) (fun (u : Nat → Nat → Int32) => ov_W k N K a b ga gb ra rb F u) A) ([.ref a, .ref b] : List Value).toArray s 0 0 A) (F0 m 34 ls [])) →
      ∀ (j q : Nat) (G : Nat → Nat → Int32) (H : Heap) (locs : List Loc) (ls : Array Slot), q + j = K → va_P D gx_cl (ov_W k N K a b ga gb ra rb F G) H → va_D A (ov_W k N K a b ga gb ra rb F G) → va_S A s.heap H locs → lv_has ls 4 [(0, .ref a), (1, .ref b), (2, .int (nI i)), (3, .int (nI q))] → W p l e ({ frames := 0, cells := 0, slots := 0, locals := 0 }) s m ([.ref a, .ref b] : List Value).toArray below meth c H locs 0 0 (MQ below (gx_Qv D (fun (u : Nat → Nat → Int32) => True) (fun (u : Nat → Nat → Int32) => ov_W k N K a b ga gb ra rb F u) A) ([.ref a, .ref b] : List Value).toArray s 0 0 A) (F0 m 10 ls []) := by
    intro i hi out j
    have ea : va_rf (ga (nI i).toNatClampNeg) = .ref (ra i) := by rw [nI_clamp (Nat.lt_trans hi hN), hga i hi]; rfl
    have eb : va_rf (gb (nI i).toNatClampNeg) = .ref (rb i) := by rw [nI_clamp (Nat.lt_trans hi hN), hgb i hi]; rfl
    induction j with
    | zero =>
      intro q G H locs ls hq hP hD hS hl
      have hq : q = K := by omega
      subst hq
      refine lv_iload_n hx hb dX7_overAll_10 rfl (lv_at hl 3 rfl) ?_
      refine lv_aload_n hx hb dX7_overAll_11 rfl (lv_at hl 0 rfl) ?_
      refine lv_iload_n hx hb dX7_overAll_12 rfl (lv_at hl 2 rfl) ?_
      refine gx_aldA hx hb hK.1 hP 0 3 rfl rfl (vp_in_nI hi hN) dX7_overAll_13 ?_
      refine gx_csr (v := .ref (ra i)) ea ?_
      refine va_alen (v := nI q) hx hb hK.1 hP (i + 2) 0 (ov_a hi) rfl rfl dX7_overAll_14 ?_
      refine lv_icmp_ge (tgt := 34) hx hb dX7_overAll_15 (by decide) (fun c9 => ?_) (fun c9 => absurd (Int32.le_refl _) c9)
      exact out G H locs ls hP hD hS (lv_sub hl [0, 1, 2] rfl)
    | succ j ih =>
      intro q G H locs ls hq hP hD hS hl
      have hlt : q < K := by omega
      refine lv_iload_n hx hb dX7_overAll_10 rfl (lv_at hl 3 rfl) ?_
      refine lv_aload_n hx hb dX7_overAll_11 rfl (lv_at hl 0 rfl) ?_
      refine lv_iload_n hx hb dX7_overAll_12 rfl (lv_at hl 2 rfl) ?_
      refine gx_aldA hx hb hK.1 hP 0 3 rfl rfl (vp_in_nI hi hN) dX7_overAll_13 ?_
      refine gx_csr (v := .ref (ra i)) ea ?_
      refine va_alen (v := nI K) hx hb hK.1 hP (i + 2) 0 (ov_a hi) rfl rfl dX7_overAll_14 ?_
      refine lv_icmp_ge (tgt := 34) hx hb dX7_overAll_15 (by decide) (fun c9 => absurd c9 (nI_ge hlt hK9)) (fun c9 => ?_)
      refine lv_aload_n hx hb dX7_overAll_18 rfl (lv_at hl 1 rfl) ?_
      refine lv_iload_n hx hb dX7_overAll_19 rfl (lv_at hl 2 rfl) ?_
      refine gx_aldA hx hb hK.1 hP 1 3 rfl rfl (vp_in_nI hi hN) dX7_overAll_20 ?_
      refine gx_csr (v := .ref (rb i)) eb ?_
      refine lv_iload_n hx hb dX7_overAll_21 rfl (lv_at hl 3 rfl) ?_
      refine lv_aload_n hx hb dX7_overAll_22 rfl (lv_at hl 0 rfl) ?_
      refine lv_iload_n hx hb dX7_overAll_23 rfl (lv_at hl 2 rfl) ?_
      refine gx_aldA hx hb hK.1 hP 0 3 rfl rfl (vp_in_nI hi hN) dX7_overAll_24 ?_
      refine gx_csr (v := .ref (ra i)) ea ?_
      refine lv_iload_n hx hb dX7_overAll_25 rfl (lv_at hl 3 rfl) ?_
      refine va_iald hx hb hK.1 hP (i + 2) 0 (ov_a hi) rfl (vp_in_nI hlt hK9) dX7_overAll_26 ?_
      refine va_iast hx hb hK.1 hP hD hS (N + i + 2) 0 (ov_b hi) rfl (vp_in_nI hlt hK9) dX7_overAll_27 (fun H locs hP hD hS => ?_)
      rw [ov_set] at hP hD
      refine lv_iinc (v := nI (q + 1)) (lv' := [(3, .int (nI (q + 1))), (0, .ref a), (1, .ref b), (2, .int (nI i))]) hx hb dX7_overAll_28 hl (k := 3) rfl (nI_1 q) (by decide) rfl (fun ls hl => ?_)
      refine lv_goto (tgt := 10) hx hb dX7_overAll_31 (by decide) ?_
      exact ih (q + 1) _ H locs ls (by omega) hP hD hS (lv_sub hl [1, 2, 3, 0] rfl)
  have outer : ∀ (j i : Nat) (G : Nat → Nat → Int32) (H : Heap) (locs : List Loc) (ls : Array Slot), i + j = N → va_P D gx_cl (ov_W k N K a b ga gb ra rb F G) H → va_D A (ov_W k N K a b ga gb ra rb F G) → va_S A s.heap H locs → lv_has ls 4 [(0, .ref a), (1, .ref b), (2, .int (nI i))] → W p l e ({ frames := 0, cells := 0, slots := 0, locals := 0 }) s m ([.ref a, .ref b] : List Value).toArray below meth c H locs 0 0 (MQ below (gx_Qv D (fun (u : Nat → Nat → Int32) => True) (fun (u : Nat → Nat → Int32) => ov_W k N K a b ga gb ra rb F u) A) ([.ref a, .ref b] : List Value).toArray s 0 0 A) (F0 m 2 ls []) := by
    intro j
    induction j with
    | zero =>
      intro i G H locs ls hi hP hD hS hl
      have hi : i = N := by omega
      subst hi
      refine lv_iload_n hx hb dX7_overAll_2 rfl (lv_at hl 2 rfl) ?_
      refine lv_aload_n hx hb dX7_overAll_3 rfl (lv_at hl 0 rfl) ?_
      refine va_alen (v := nI i) hx hb hK.1 hP 0 3 rfl rfl rfl dX7_overAll_4 ?_
      refine lv_icmp_ge (tgt := 40) hx hb dX7_overAll_5 (by decide) (fun c9 => ?_) (fun c9 => absurd (Int32.le_refl _) c9)
      exact gx_retV C (u := G) hP hD hS trivial dX7_overAll_40
    | succ j ih =>
      intro i G H locs ls hi hP hD hS hl
      have hlt : i < N := by omega
      refine lv_iload_n hx hb dX7_overAll_2 rfl (lv_at hl 2 rfl) ?_
      refine lv_aload_n hx hb dX7_overAll_3 rfl (lv_at hl 0 rfl) ?_
      refine va_alen (v := nI N) hx hb hK.1 hP 0 3 rfl rfl rfl dX7_overAll_4 ?_
      refine lv_icmp_ge (tgt := 40) hx hb dX7_overAll_5 (by decide) (fun c9 => absurd c9 (nI_ge hlt hN)) (fun c9 => ?_)
      refine lv_iconst (v := 0) hx hb dX7_overAll_8 (by decide) ?_
      refine lv_istore_n (lv' := [(3, .int 0), (0, .ref a), (1, .ref b), (2, .int (nI i))]) hx hb dX7_overAll_9 rfl hl (by decide) rfl (fun ls hl => ?_)
      refine inner i hlt (fun G H locs ls hP hD hS hl => ?_) K 0 G H locs ls (by omega) hP hD hS (lv_sub hl [1, 2, 3, 0] rfl)
      refine lv_iinc (v := nI (i + 1)) (lv' := [(2, .int (nI (i + 1))), (0, .ref a), (1, .ref b)]) hx hb dX7_overAll_34 hl (k := 2) rfl (nI_1 i) (by decide) rfl (fun ls hl => ?_)
      refine lv_goto (tgt := 2) hx hb dX7_overAll_37 (by decide) ?_
      exact ih (i + 1) G H locs ls (by omega) hP hD hS (lv_sub hl [1, 2, 0] rfl)
  refine lv_iconst (v := 0) hx hb dX7_overAll_0 (by decide) ?_
  refine lv_istore_n (lv' := [(2, .int 0), (0, .ref a), (1, .ref b)]) hx hb dX7_overAll_1 rfl hl (by decide) rfl (fun ls hl => ?_)
  exact outer N 0 G _ _ ls (by omega) hP hD hS (lv_sub hl [1, 2, 0] rfl)
