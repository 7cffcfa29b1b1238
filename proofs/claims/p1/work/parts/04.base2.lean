-- numbers, ranges, places
def gx_b (v lo hi : Int32) : Bool := decide (lo ≤ v ∧ v ≤ hi)
theorem gx_bn {v : Int32} : gx_b v 0 (-1) = false := by
  simp only [gx_b, decide_eq_false_iff_not, Int32.le_iff_toInt_le]
  intro h
  have h1 : (0 : Int32).toInt = 0 := by decide
  have h2 : (-1 : Int32).toInt = -1 := by decide
  omega
theorem gx_bt {v lo hi : Int32} (h1 : ¬ v < lo) (h2 : ¬ hi < v) : gx_b v lo hi = true := by
  simp only [gx_b, decide_eq_true_eq, Int32.le_iff_toInt_le, Int32.lt_iff_toInt_lt] at *
  omega
theorem gx_bf1 {v lo hi : Int32} (h1 : v < lo) : gx_b v lo hi = false := by
  simp only [gx_b, decide_eq_false_iff_not, Int32.le_iff_toInt_le, Int32.lt_iff_toInt_lt] at *
  omega
theorem gx_bf2 {v lo hi : Int32} (h1 : hi < v) : gx_b v lo hi = false := by
  simp only [gx_b, decide_eq_false_iff_not, Int32.le_iff_toInt_le, Int32.lt_iff_toInt_lt] at *
  omega
theorem gx_vin {i : Int32} {n : Nat} (h : decide (¬ (i < 0 ∨ n ≤ i.toNatClampNeg)) = true) : vp_in i n := (of_decide_eq_true h : ¬ (i < 0 ∨ n ≤ i.toNatClampNeg))
theorem gx_vb {v hi : Int32} {n : Nat} (h : gx_b v 0 hi = true) (h0 : hi.toInt + 1 = (n : Int)) (hn : n < 2 ^ 31) : vp_in v n := by
  simp only [gx_b, decide_eq_true_eq, Int32.le_iff_toInt_le] at h
  have h1 : (0 : Int32).toInt = 0 := by decide
  intro q
  rcases q with q | q
  · rw [Int32.lt_iff_toInt_lt] at q; omega
  · have : n ≤ v.toInt.toNat := q
    omega
/-- which of the places 0 .. 7 -/
theorem gx_8 {v : Int32} (h : gx_b v 0 7 = true) : v = 0 ∨ v = 1 ∨ v = 2 ∨ v = 3 ∨ v = 4 ∨ v = 5 ∨ v = 6 ∨ v = 7 := by
  simp only [gx_b, decide_eq_true_eq, Int32.le_iff_toInt_le] at h
  have h0 : (0 : Int32).toInt = 0 := by decide
  have h7 : (7 : Int32).toInt = 7 := by decide
  simp only [← Int32.toInt_inj]
  have h1 : (1 : Int32).toInt = 1 := by decide
  have h2 : (2 : Int32).toInt = 2 := by decide
  have h3 : (3 : Int32).toInt = 3 := by decide
  have h4 : (4 : Int32).toInt = 4 := by decide
  have h5 : (5 : Int32).toInt = 5 := by decide
  have h6 : (6 : Int32).toInt = 6 := by decide
  omega
theorem gx_out9 {x : Int32} (h0 : ¬ x = 0) (h1 : ¬ x = 1) (h2 : ¬ x = 2) (h3 : ¬ x = 3) (h4 : ¬ x = 4) (h5 : ¬ x = 5) (h6 : ¬ x = 6) (h7 : ¬ x = 7) (h8 : ¬ x = 8) : x.toInt < 0 ∨ 8 < x.toInt := by
  simp only [← Int32.toInt_inj] at *
  have e0 : (0 : Int32).toInt = 0 := by decide
  have e1 : (1 : Int32).toInt = 1 := by decide
  have e2 : (2 : Int32).toInt = 2 := by decide
  have e3 : (3 : Int32).toInt = 3 := by decide
  have e4 : (4 : Int32).toInt = 4 := by decide
  have e5 : (5 : Int32).toInt = 5 := by decide
  have e6 : (6 : Int32).toInt = 6 := by decide
  have e7 : (7 : Int32).toInt = 7 := by decide
  have e8 : (8 : Int32).toInt = 8 := by decide
  omega
section GY
variable {p : Program} {l : Launch} {e : Env} {R : Room} {s : State} {m : MethodId} {args : Array Value} {below : List Frame} {meth : Method} {c : Code} {H : Heap} {locs : List Loc} {cells slots : Nat} {Q : State → Prop}
variable {cc : ByteArray} {pc n : Nat} {ls : Array Slot} {rest : List Value} {D : va_G} {A : Nat → Prop} {k : Nat → ClassId} {ws : va_W} {y0 : MethodName} {ret : Option FieldType} {H0 : Heap}
theorem gx_newS (hexec : p.tables.exec = Jvm.exec) (hb : c.code = cc) (hT : ∀ w ∈ gx_T, w.before args s = true) {own : String} {index : Nat} (hw : Cond.classLink own index RX3 ∈ gx_T) (hown : s.vm.findClass own = some m.cls) (hK : gx_K D k s) (hP : va_P D gx_cl ws H) (hD : va_D A ws) (hS : va_S A H0 H locs) (hA : ∀ q, H0.size ≤ q → A q) {x : Int32} {N' : Nat} (hn : ¬ x < 0) (hN : x.toNatClampNeg = N') (hbytes : N' * 4 ≤ 536870912) (hcells : cells + 1 ≤ R.cells) (hslots : slots + N' ≤ R.slots) (hdg : decode cc pc = .ok (.anewarray index, 3))
    (kk : ∀ (q : Nat) (H1 : Heap), va_P D gx_cl (ws ++ [(q, .inl (k 2, N', .inr (.inr (.inr (.inr (fun _ => none))))))]) H1 → va_D A (ws ++ [(q, .inl (k 2, N', .inr (.inr (.inr (.inr (fun _ => none))))))]) → va_S A H0 H1 locs → W p l e R s m args below meth c H1 locs (cells + 1) (slots + N') Q (F0 m (pc + 3) ls (.ref q :: rest))) : W p l e R s m args below meth c H locs cells slots Q (F0 m pc ls (.int x :: rest)) := by
  refine va_newq (C := RX3) (N' := N') hexec hb hown (hT _ hw) hK.2.2.2.2.1 hK.1 hP hD hS hA hn hN hbytes hcells hslots hdg (fun q cA H1 hK1 hP1 hD1 hS1 => ?_)
  obtain ⟨_, _, _, _, _, h1⟩ := (hK1.2 5 (cA, .object RX3) rfl).2
  obtain ⟨_, _, _, _, _, h2⟩ := (hK.1.2 2 (k 2, .object RX3) rfl).2
  have h3 : cA = k 2 := Option.some.inj (h1.symm.trans h2)
  subst h3
  exact kk q H1 hP1 hD1 hS1
theorem gx_aldA (hexec : p.tables.exec = Jvm.exec) (hb : c.code = cc) {tys : List (ClassId × FieldType)} {a : Nat} (hK : va_K D gx_cl tys s) (hP : va_P D gx_cl ws H) (q0 t0 : Nat) {cA : ClassId} {ty : FieldType} {n : Nat} {f : Nat → Option Nat} (ha : ws[q0]? = some (a, .inl (cA, n, .inr (.inr (.inr (.inr f)))))) (ht : tys[t0]? = some (cA, .array ty)) {i : Int32} (hin : vp_in i n) (hdg : decode cc pc = .ok (.aaload, 1))
    (kk : W p l e R s m args below meth c H locs cells slots Q (F0 m (pc + 1) ls (va_rf (f i.toNatClampNeg) :: rest))) : W p l e R s m args below meth c H locs cells slots Q (F0 m pc ls (.int i :: .ref a :: rest)) := by
  have hlt : i.toNatClampNeg < n := Nat.not_le.mp fun q => hin (Or.inr q)
  exact W.aald (v := va_rf (f i.toNatClampNeg)) (ty := .array ty) hexec hb (hP q0 _ ha) ((hK.2 t0 _ ht).1 n (fun j => va_rf (f j))) rfl (fun q => by cases q) (by show ¬ (i < 0 ∨ (arrV _ _ _).slots.size ≤ _); rw [arrV_size]; exact hin) (by show (arrV _ _ _).slots[_]? = _; rw [arrV_read _ _ hlt]) rfl rfl hdg kk
theorem gx_retR (C : gx_C p s m args meth c cc n (some (.object "EachRoadOnceModel")) y0) {S : Type} {post : S → Prop} {w1 : S → Nat → va_W} (u : S) {va : Nat} (hP : va_P D gx_cl (w1 u va) H) (hD : va_D A (w1 u va)) (hS : va_S A s.heap H locs) (hp : post u) (hdg : decode cc pc = .ok (.areturn, 1)) : W p l e R s m args below meth c H locs cells slots (MQ below (gx_Qr D post w1 A) args s cells slots A) (F0 m pc ls [.ref va]) := by
  obtain ⟨hx, hb, hr, hml, hown, hT, hlk, -⟩ := C
  exact W.aret hx hb hr (Or.inl ⟨_, rfl⟩) (Or.inr ⟨_, rfl⟩) (fun t ht hW => ⟨⟨u, va, rfl, hp, by rw [ht]; exact hP, hD⟩, hS.F ht⟩) hS.2.2 hdg hlk
end GY
