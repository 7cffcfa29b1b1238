-- general rows: one list of words for every method, one way to begin, to call and to end a contract
/-- the words that stay over a call -/
def gx_T : List Cond := lw_tbl.filter goodWord
theorem gx_in {w : Cond} (h : w ∈ lw_tbl) (hg : goodWord w = true) : w ∈ gx_T := List.mem_filter.mpr ⟨h, hg⟩
theorem gx_good : GoodIn gx_T gx_T := fun w h => ⟨h, good_of_word (List.mem_filter.mp h).2⟩
theorem gx_gcons {w : Cond} {ws : List Cond} (h : w ∈ gx_T) (hs : GoodIn gx_T ws) : GoodIn gx_T (w :: ws) := fun v hv => (List.mem_cons.mp hv).elim (fun e => by subst e; exact gx_good _ h) (fun hh => hs v hh)
theorem gx_gV {own C : String} {i : Nat} {y : MethodName} {bytes : ByteArray} {n : Nat} {r : Option FieldType} (h1 : Cond.methodLink own i y ∈ gx_T) (h2 : Cond.instanceMethod y ∈ gx_T) (h3 : Cond.selects C y y ∈ gx_T) (h4 : Cond.initialized C ∈ gx_T) (h5 : Cond.code y bytes n r ∈ gx_T) : GoodIn gx_T (wsV own i C y (.code y bytes n r :: gx_T)) :=
  gx_gcons h1 (gx_gcons h2 (gx_gcons h3 (gx_gcons h4 (gx_gcons h5 gx_good))))
theorem gx_gS {own : String} {i : Nat} {y : MethodName} {bytes : ByteArray} {n : Nat} {r : Option FieldType} (h1 : Cond.methodLink own i y ∈ gx_T) (h2 : Cond.static y ∈ gx_T) (h4 : Cond.initialized y.cls ∈ gx_T) (h5 : Cond.code y bytes n r ∈ gx_T) : GoodIn gx_T (va_wsS own i y (.code y bytes n r :: gx_T)) :=
  gx_gcons h1 (gx_gcons h2 (gx_gcons h4 (gx_gcons h5 gx_good)))
theorem gx_gI {y : MethodName} {bytes : ByteArray} {n : Nat} {r : Option FieldType} (h5 : Cond.code y bytes n r ∈ gx_T) : GoodIn gx_T (.code y bytes n r :: gx_T) := gx_gcons h5 gx_good
abbrev gx_cl : List vw_C := [(RX1, TX1, 17), (RX3, TX3, 4), (RX4, TX4, 6), (RX5, TX5, 7), (RX6, TX6, 10), (RX7, TX7, 37)]
abbrev gx_ty (k : Nat → ClassId) : List (ClassId × FieldType) := [(k 0, .int), (k 1, .long), (k 2, .object RX3), (k 3, .array .int), (k 4, .array .long)]
def gx_strs : List (String × Nat × String) := [(RX4, 38, "road"), (RX4, 52, "one"), (RX4, 60, "gone"), (RX4, 65, "at"), (RX4, 70, "anew"), (RX4, 75, "shut"), (RX7, 194, "road"), (RX7, 208, "one"), (RX7, 209, "gone"), (RX7, 214, "at"), (RX7, 215, "anew"), (RX7, 216, "shut")]
/-- what the tables say that no word of gx_T says -/
def gx_N (U : State) : Prop := va_Nw (.methodLinkNest RX6 24 yX4_init RX6) U ∧ va_Nw (.methodLinkNest RX6 37 yX5_init RX6) U ∧ va_Nw (.methodLinkNest RX6 52 yX3_init RX6) U ∧ va_AO RX3 U ∧ (Cond.arrayOver (.array .int)).before #[] U = true ∧ (Cond.arrayOver (.array .long)).before #[] U = true ∧ ∀ q ∈ gx_strs, ∃ a : Nat, vk_R q.1 q.2.1 q.2.2 a U
theorem gx_AOA {ty : FieldType} {u U : State} (hvm : u.vm.Alike U.vm) (h : (Cond.arrayOver (.array ty)).before #[] u = true) : (Cond.arrayOver (.array ty)).before #[] U = true := by
  have hi : ∀ comp : ClassId, (U.vm.classes.findIdx? fun (x : Class) => match x.kind with | .array component _ => component == comp | _ => false) = (u.vm.classes.findIdx? fun (x : Class) => match x.kind with | .array component _ => component == comp | _ => false) := by
    intro comp
    have hbe : U.vm.bare = u.vm.bare := by first | exact hvm.bare_eq | exact hvm.bare_eq.symm
    exact (va_idx_bare U.vm comp).symm.trans ((congrArg (fun b : Vm => (b.classes.findIdx? fun (x : Class) => match x.kind with | .array component _ => component == comp | _ => false)) hbe).trans (va_idx_bare u.vm comp))
  simp only [Cond.before, Cond.holds, Cond.value, beq_iff_eq] at h ⊢
  rw [hvm.findClass, hvm.findClass]
  cases hc : u.vm.findClass (FieldType.array ty).toString with
  | none => simp [hc] at h
  | some comp =>
    simp only [hc, Option.bind_some, Option.bind_eq_some_iff, Option.map_eq_some_iff] at h ⊢
    obtain ⟨c, h1, k, h2, h3⟩ := h
    obtain ⟨k', hk', he⟩ := hvm.2.2 _ _ h2
    refine ⟨c, (hi comp).trans h1, k', hk', ?_⟩
    rw [he]
    exact h3
theorem gx_N.same {u U : State} (h : u.vm = U.vm) (hN : gx_N u) : gx_N U := by
  have ha : u.vm.Alike U.vm := by rw [h]; exact Vm.Alike.refl _
  exact ⟨hN.1.same rfl h, hN.2.1.same rfl h, hN.2.2.1.same rfl h, va_AO.moved ha hN.2.2.2.1, gx_AOA ha hN.2.2.2.2.1, gx_AOA ha hN.2.2.2.2.2.1, fun q hq => by
    obtain ⟨a, hz⟩ := hN.2.2.2.2.2.2 q hq
    exact ⟨a, hz.same h.symm⟩⟩
theorem gx_N.warm {s U : State} (hW : s.WarmedH U.vm) (hN : gx_N s) : gx_N U := ⟨hN.1.warmM hW, hN.2.1.warmM hW, hN.2.2.1.warmM hW, va_AO.moved hW.alike hN.2.2.2.1, gx_AOA hW.alike hN.2.2.2.2.1, gx_AOA hW.alike hN.2.2.2.2.2.1, fun q hq => by
    obtain ⟨a, hz⟩ := hN.2.2.2.2.2.2 q hq
    exact ⟨a, hz.warm hW⟩⟩
def gx_K (D : va_G) (k : Nat → ClassId) (U : State) : Prop := va_K D gx_cl (gx_ty k) U ∧ gx_N U
theorem gx_K.warm {D : va_G} {k : Nat → ClassId} {s U : State} (hW : s.WarmedH U.vm) (h : gx_K D k s) : gx_K D k U := ⟨va_K.moved hW.alike h.1, h.2.warm hW⟩
abbrev gx_Pre (D : va_G) (k : Nat → ClassId) (av : List Value) (ws : va_W) (sz : Nat) : Array Value → State → Prop := va_Pc av (fun U => U.heap.size = sz ∧ va_P D gx_cl ws U.heap ∧ gx_K D k U ∧ va_D (fun _ => True) ws)
theorem gx_blind {D : va_G} {k : Nat → ClassId} {av : List Value} {ws : va_W} {sz : Nat} : FrameBlind (gx_Pre D k av ws sz) := fun a U g mk q => ⟨q.1, q.2.1, q.2.2.1, ⟨va_K.moved (u := U) (U := U.calling g mk a) (Vm.Alike.refl U.vm) q.2.2.2.1.1, gx_N.same (u := U) (U := U.calling g mk a) rfl q.2.2.2.1.2⟩, q.2.2.2.2⟩
abbrev gx_Qi (D : va_G) {S : Type} (post : Int32 → S → Prop) (w1 : S → va_W) (A : Nat → Prop) : Array Value → State → Outcome → State → Prop := va_Qi post (fun u t => va_P D gx_cl (w1 u) t.heap ∧ va_D A (w1 u)) A
abbrev gx_Ql (D : va_G) {S : Type} (post : Int64 → S → Prop) (w1 : S → va_W) (A : Nat → Prop) : Array Value → State → Outcome → State → Prop := va_Ql post (fun u t => va_P D gx_cl (w1 u) t.heap ∧ va_D A (w1 u)) A
abbrev gx_Qv (D : va_G) {S : Type} (post : S → Prop) (w1 : S → va_W) (A : Nat → Prop) : Array Value → State → Outcome → State → Prop := va_Qv post (fun u t => va_P D gx_cl (w1 u) t.heap ∧ va_D A (w1 u)) A
abbrev gx_Qr (D : va_G) {S : Type} (post : S → Prop) (w1 : S → Nat → va_W) (A : Nat → Prop) : Array Value → State → Outcome → State → Prop := va_Qr post (fun u a t => va_P D gx_cl (w1 u a) t.heap ∧ va_D A (w1 u a)) A
abbrev gx_No : Nat → Prop := fun _ => False
abbrev gx_Pi (post : Int32 → Prop) : Array Value → State → Outcome → State → Prop := va_Qi (fun r (_ : Unit) => post r) (fun _ _ => True) gx_No
abbrev gx_Pl (post : Int64 → Prop) : Array Value → State → Outcome → State → Prop := va_Ql (fun r (_ : Unit) => post r) (fun _ _ => True) gx_No
/-- what a method's walk stands on -/
def gx_C (p : Program) (s : State) (m : MethodId) (args : Array Value) (meth : Method) (c : Code) (cc : ByteArray) (n : Nat) (ret : Option FieldType) (y : MethodName) : Prop := p.tables.exec = Jvm.exec ∧ c.code = cc ∧ meth.sig.returnType = ret ∧ c.maxLocals = n ∧ s.vm.findClass y.cls = some m.cls ∧ (∀ w ∈ gx_T, w.before args s = true) ∧ meth.locks = false ∧ meth.name = y.name
theorem gx_metE {l : Launch} {y : MethodName} {cc : ByteArray} {n : Nat} {ret : Option FieldType} {rm : Room} {D : va_G} {k : Nat → ClassId} {av : List Value} {ws : va_W} {sz mc ms : Nat} {Qc : (Nat → Prop) → Array Value → State → Outcome → State → Prop} (hy : plainName y.cls = true) (hn : (lg_sl av).length ≤ n)
    (body : ∀ (p : Program) (e : Env) (s : State) (m : MethodId) (below : List Frame) (meth : Method) (c : Code) (A : Nat → Prop) (ls : Array Slot), gx_C p s m av.toArray meth c cc n ret y → (∀ q, s.heap.size ≤ q → A q) → va_P D gx_cl ws s.heap → va_D A ws → gx_K D k s → va_S A s.heap s.heap [] → lv_has ls n (lv_args 0 av) →
      W p l e rm s m av.toArray below meth c s.heap [] 0 0 (MQ below (Qc A) av.toArray s mc ms A) (F0 m 0 ls [])) : Met l y (.code y cc n ret :: gx_T) rm (gx_Pre D k av ws sz) (Qc (va_A ws sz)) mc ms (va_A ws sz) := by
  refine Met.ofW (cc := cc) (maxL := n) (ret := ret) hy rfl ?_
  intro p e s m args below meth c s₁ B hml hv
  obtain ⟨rfl, hsz, hP, hK, hD0⟩ := hv
  subst hsz
  have hts := atoms_spec (ws := Cond.code y cc n ret :: gx_T) B.pre
  rw [lg_entry_eq]
  exact body p e s m below meth c _ _ ⟨B.exec, B.bytes, B.returns, hml, findClass_of_methodNamed B.named, fun w h => hts w (List.mem_cons_of_mem _ h), B.notSynchronized, (name_of_methodNamed B.named B.method).1⟩ (fun q h => Or.inr h) hP hD0.self hK va_S.rf (lv_entry av hn)
theorem gx_metP {l : Launch} {y : MethodName} {cc : ByteArray} {n : Nat} {ret : Option FieldType} {rm : Room} {D : va_G} {k : Nat → ClassId} {av : List Value} {ws : va_W} {sz : Nat} {Qc : Array Value → State → Outcome → State → Prop} (hy : plainName y.cls = true) (hn : (lg_sl av).length ≤ n)
    (body : ∀ (p : Program) (e : Env) (s : State) (m : MethodId) (below : List Frame) (meth : Method) (c : Code) (ls : Array Slot), gx_C p s m av.toArray meth c cc n ret y → va_P D gx_cl ws s.heap → va_D (fun _ => True) ws → gx_K D k s → va_S gx_No s.heap s.heap [] → lv_has ls n (lv_args 0 av) →
      W p l e rm s m av.toArray below meth c s.heap [] 0 0 (MQ below Qc av.toArray s 0 0 gx_No) (F0 m 0 ls [])) : Met l y (.code y cc n ret :: gx_T) rm (gx_Pre D k av ws sz) Qc 0 0 gx_No := by
  refine Met.ofW (cc := cc) (maxL := n) (ret := ret) hy rfl ?_
  intro p e s m args below meth c s₁ B hml hv
  obtain ⟨rfl, hsz, hP, hK, hD0⟩ := hv
  have hts := atoms_spec (ws := Cond.code y cc n ret :: gx_T) B.pre
  rw [lg_entry_eq]
  exact body p e s m below meth c _ ⟨B.exec, B.bytes, B.returns, hml, findClass_of_methodNamed B.named, fun w h => hts w (List.mem_cons_of_mem _ h), B.notSynchronized, (name_of_methodNamed B.named B.method).1⟩ hP hD0 hK va_S.rf (lv_entry av hn)
section GX
variable {p : Program} {l : Launch} {e : Env} {R : Room} {s : State} {m : MethodId} {args : Array Value} {below : List Frame} {meth : Method} {c : Code} {H : Heap} {locs : List Loc} {cells slots : Nat} {Q : State → Prop}
variable {cc : ByteArray} {pc n : Nat} {ls : Array Slot} {rest : List Value} {D : va_G} {A : Nat → Prop} {k : Nat → ClassId} {ws : va_W} {y0 : MethodName} {ret : Option FieldType} {H0 : Heap}
theorem gx_cst {x v : Int32} (h : x = v) (kk : W p l e R s m args below meth c H locs cells slots Q (F0 m pc ls (.int v :: rest))) : W p l e R s m args below meth c H locs cells slots Q (F0 m pc ls (.int x :: rest)) := by
  subst h; exact kk
theorem gx_cstl {x v : Int64} (h : x = v) (kk : W p l e R s m args below meth c H locs cells slots Q (F0 m pc ls (.long v :: rest))) : W p l e R s m args below meth c H locs cells slots Q (F0 m pc ls (.long x :: rest)) := by
  subst h; exact kk
theorem gx_csr {x v : Value} (h : x = v) (kk : W p l e R s m args below meth c H locs cells slots Q (F0 m pc ls (v :: rest))) : W p l e R s m args below meth c H locs cells slots Q (F0 m pc ls (x :: rest)) := by
  subst h; exact kk
theorem gx_retI (C : gx_C p s m args meth c cc n (some .int) y0) {S : Type} {post : Int32 → S → Prop} {w1 : S → va_W} (u : S) (hP : va_P D gx_cl (w1 u) H) (hD : va_D A (w1 u)) (hS : va_S A s.heap H locs) {v : Int32} (hp : post v u) (hdg : decode cc pc = .ok (.ireturn, 1)) : W p l e R s m args below meth c H locs cells slots (MQ below (gx_Qi D post w1 A) args s cells slots A) (F0 m pc ls [.int v]) := by
  obtain ⟨hx, hb, hr, hml, hown, hT, hlk, -⟩ := C
  exact W.iret hx hb hr (fun t ht hW => ⟨⟨v, u, rfl, hp, by rw [ht]; exact hP, hD⟩, hS.F ht⟩) hS.2.2 hdg hlk
theorem gx_retZ (C : gx_C p s m args meth c cc n (some .boolean) y0) {S : Type} {post : Int32 → S → Prop} {w1 : S → va_W} (u : S) (hP : va_P D gx_cl (w1 u) H) (hD : va_D A (w1 u)) (hS : va_S A s.heap H locs) {v : Int32} (hv : narrow .boolean (.int v) = .int v) (hp : post v u) (hdg : decode cc pc = .ok (.ireturn, 1)) : W p l e R s m args below meth c H locs cells slots (MQ below (gx_Qi D post w1 A) args s cells slots A) (F0 m pc ls [.int v]) := by
  obtain ⟨hx, hb, hr, hml, hown, hT, hlk, -⟩ := C
  exact W.zret hx hb hr hv (fun t ht hW => ⟨⟨v, u, rfl, hp, by rw [ht]; exact hP, hD⟩, hS.F ht⟩) hS.2.2 hdg hlk
theorem gx_retV (C : gx_C p s m args meth c cc n none y0) {S : Type} {post : S → Prop} {w1 : S → va_W} (u : S) (hP : va_P D gx_cl (w1 u) H) (hD : va_D A (w1 u)) (hS : va_S A s.heap H locs) (hp : post u) (hdg : decode cc pc = .ok (.return_, 1)) : W p l e R s m args below meth c H locs cells slots (MQ below (gx_Qv D post w1 A) args s cells slots A) (F0 m pc ls []) := by
  obtain ⟨hx, hb, hr, hml, hown, hT, hlk, -⟩ := C
  exact W.vret hx hb hr (fun t ht hW => ⟨⟨u, rfl, hp, by rw [ht]; exact hP, hD⟩, hS.F ht⟩) hS.2.2 hdg hlk
theorem gx_retP (C : gx_C p s m args meth c cc n (some .int) y0) {post : Int32 → Prop} (hS : va_S gx_No s.heap H locs) {v : Int32} (hp : post v) (hdg : decode cc pc = .ok (.ireturn, 1)) : W p l e R s m args below meth c H locs cells slots (MQ below (gx_Pi post) args s cells slots gx_No) (F0 m pc ls [.int v]) := by
  obtain ⟨hx, hb, hr, hml, hown, hT, hlk, -⟩ := C
  exact W.iret hx hb hr (fun t ht hW => ⟨⟨v, (), rfl, hp, trivial⟩, hS.F ht⟩) hS.2.2 hdg hlk
theorem gx_retPZ (C : gx_C p s m args meth c cc n (some .boolean) y0) {post : Int32 → Prop} (hS : va_S gx_No s.heap H locs) {v : Int32} (hv : narrow .boolean (.int v) = .int v) (hp : post v) (hdg : decode cc pc = .ok (.ireturn, 1)) : W p l e R s m args below meth c H locs cells slots (MQ below (gx_Pi post) args s cells slots gx_No) (F0 m pc ls [.int v]) := by
  obtain ⟨hx, hb, hr, hml, hown, hT, hlk, -⟩ := C
  exact W.zret hx hb hr hv (fun t ht hW => ⟨⟨v, (), rfl, hp, trivial⟩, hS.F ht⟩) hS.2.2 hdg hlk
theorem gx_retPL (C : gx_C p s m args meth c cc n (some .long) y0) {post : Int64 → Prop} (hS : va_S gx_No s.heap H locs) {v : Int64} (hp : post v) (hdg : decode cc pc = .ok (.lreturn, 1)) : W p l e R s m args below meth c H locs cells slots (MQ below (gx_Pl post) args s cells slots gx_No) (F0 m pc ls [.long v]) := by
  obtain ⟨hx, hb, hr, hml, hown, hT, hlk, -⟩ := C
  exact W.lret hx hb hr (fun t ht hW => ⟨⟨v, (), rfl, hp, trivial⟩, hS.F ht⟩) hS.2.2 hdg hlk
theorem gx_none (hP : va_P D gx_cl ws H) : va_P D gx_cl [] H := fun k q h => by simp at h
theorem gx_noneD : va_D A [] := ⟨fun i j p q h => by simp at h, fun k q h => by simp at h⟩
theorem gx_nil : va_P D gx_cl [] H := fun k q h => by simp at h
theorem gx_subP {wc : va_W} (hP : va_P D gx_cl ws H) (is : List Nat) (h : is.map (fun i => ws[i]?) = wc.map some) : va_P D gx_cl wc H := by
  intro j q hq
  have h1 : (is.map (fun i => ws[i]?))[j]? = some (some q) := by rw [h, List.getElem?_map, hq]; rfl
  rw [List.getElem?_map] at h1
  cases hi : is[j]? with
  | none => rw [hi] at h1; cases h1
  | some i => rw [hi] at h1; exact hP i q (Option.some.inj h1)
-- ===== calls: the run =====
variable {y : MethodName} {bytes : ByteArray} {maxL mc ms index na ci N : Nat} {rt : Option FieldType} {rm : Room} {Qc : Array Value → State → Outcome → State → Prop} {free : Addr → Prop} {b : Nat} {As st0 : List Value} {wc : va_W} {Cn : String} {fs : List Value} {T : u_T}
theorem gx_runV (C : gx_C p s m args meth c cc n ret y0) (hl : ls.size = n) (hK : gx_K D k s) (hPc : va_P D gx_cl wc H) (hDc : va_D (fun _ => True) wc)
    (hM : Met l y (.code y bytes maxL rt :: gx_T) rm (gx_Pre D k (.ref b :: As) wc H.size) Qc mc ms free) (hG : GoodIn gx_T (wsV y0.cls index Cn y (.code y bytes maxL rt :: gx_T)))
    (hd : y.cls = Cn ∧ y.cls ≠ "java/lang/invoke/MethodHandle" ∧ y.cls ≠ "java/lang/invoke/VarHandle" ∧ (parseMethodDescriptor y.desc).map (fun d => d.parameters.length) = some na) (hrc : rm.cells = mc) (hrs : rm.slots = ms) (hR : rm.frames + 1 ≤ R.frames ∧ 8 + (maxL + 11) + rm.locals ≤ R.locals)
    (hrec : wc[0]? = some (b, .inr (ci, fs))) (hci : gx_cl[ci]? = some (Cn, T, N)) (hna : As.length = na) (hst : st0 = As.reverse ++ .ref b :: rest) (hroom : (rest.map fun v => v.category).sum ≤ 8) (hdg : decode cc pc = .ok (.invokevirtual index, 3)) (hf : cells + mc ≤ R.cells ∧ slots + ms ≤ R.slots) :
    va_Run p l e R s m args below meth c H locs cells slots mc ms (F0 m pc ls st0) rest (Qc (Value.ref b :: As).toArray) free := by
  obtain ⟨hx, hb, hr, hml, hown, hT, hlk, -⟩ := C
  exact va_runV (As := As) (rest := rest) (C := Cn) ⟨hx, hb, hml, hown, hT⟩ hM (cwV na hT hG rfl hrc hrs hd hR) ⟨gx_blind, va_recv hK.1 hPc hci hrec, fun U hU hW => ⟨rfl, by rw [hU], by rw [hU]; exact hPc, hK.warm hW, hDc⟩⟩ rfl hna hl hst (lv_room hroom) hdg hf
theorem gx_runS (C : gx_C p s m args meth c cc n ret y0) (hl : ls.size = n) (hK : gx_K D k s) (hPc : va_P D gx_cl wc H) (hDc : va_D (fun _ => True) wc)
    (hM : Met l y (.code y bytes maxL rt :: gx_T) rm (gx_Pre D k As wc H.size) Qc mc ms free) (hG : GoodIn gx_T (va_wsS y0.cls index y (.code y bytes maxL rt :: gx_T)))
    (hd : y.cls ≠ "java/lang/invoke/MethodHandle" ∧ y.cls ≠ "java/lang/invoke/VarHandle" ∧ (parseMethodDescriptor y.desc).map (fun d => d.parameters.length) = some na) (hrc : rm.cells = mc) (hrs : rm.slots = ms) (hR : rm.frames + 1 ≤ R.frames ∧ 8 + (maxL + 11) + rm.locals ≤ R.locals)
    (hna : As.length = na) (hst : st0 = As.reverse ++ rest) (hroom : (rest.map fun v => v.category).sum ≤ 8) (hdg : decode cc pc = .ok (.invokestatic index, 3)) (hf : cells + mc ≤ R.cells ∧ slots + ms ≤ R.slots) :
    va_Run p l e R s m args below meth c H locs cells slots mc ms (F0 m pc ls st0) rest (Qc As.toArray) free := by
  obtain ⟨hx, hb, hr, hml, hown, hT, hlk, -⟩ := C
  exact va_runS (As := As) (rest := rest) ⟨hx, hb, hml, hown, hT⟩ hM (va_cwS na hT hG rfl hrc hrs hd hR) ⟨gx_blind, fun U hU hW => ⟨rfl, by rw [hU], by rw [hU]; exact hPc, hK.warm hW, hDc⟩⟩ rfl hna hl hst (lv_room hroom) hdg hf
theorem gx_runI (C : gx_C p s m args meth c cc n ret y0) (hl : ls.size = n) (hK : gx_K D k s) (hPc : va_P D gx_cl wc H) (hDc : va_D (fun _ => True) wc)
    (hM : Met l y (.code y bytes maxL none :: gx_T) rm (gx_Pre D k (.ref b :: As) wc H.size) Qc mc ms free) (hG : GoodIn gx_T (.code y bytes maxL none :: gx_T)) (hi : Cond.initialized y.cls ∈ gx_T) (hlk2 : Cond.methodLink y0.cls index y ∈ gx_T) (him : Cond.instanceMethod y ∈ gx_T) (hy1 : y.name = "<init>")
    (hd : y.cls ≠ "java/lang/invoke/MethodHandle" ∧ y.cls ≠ "java/lang/invoke/VarHandle" ∧ (parseMethodDescriptor y.desc).map (fun d => d.parameters.length) = some na) (hrc : rm.cells = mc) (hrs : rm.slots = ms) (hR : rm.frames + 1 ≤ R.frames ∧ 8 + (maxL + 11) + rm.locals ≤ R.locals)
    (hna : As.length = na) (hst : st0 = As.reverse ++ .ref b :: rest) (hroom : (rest.map fun v => v.category).sum ≤ 8) (hdg : decode cc pc = .ok (.invokespecial index, 3)) (hf : cells + mc ≤ R.cells ∧ slots + ms ≤ R.slots) :
    va_Run p l e R s m args below meth c H locs cells slots mc ms (F0 m pc ls st0) rest (Qc (Value.ref b :: As).toArray) free := by
  obtain ⟨hx, hb, hr, hml, hown, hT, hlk, -⟩ := C
  exact va_runI (As := As) (rest := rest) ⟨hx, hb, hml, hown, hT⟩ hM (cwI na hT hG rfl hrc hrs (hT _ hi) (hT _ hlk2) (hT _ him) hy1 hd hR) ⟨gx_blind, fun U hU hW => ⟨rfl, by rw [hU], by rw [hU]; exact hPc, hK.warm hW, hDc⟩⟩ rfl hna hl hst (lv_room hroom) hdg hf
theorem gx_runN (C : gx_C p s m args meth c cc n ret y0) (hl : ls.size = n) (hK : gx_K D k s) (hPc : va_P D gx_cl wc H) (hDc : va_D (fun _ => True) wc) {host : String}
    (hM : Met l y (.code y bytes maxL none :: gx_T) rm (gx_Pre D k (.ref b :: As) wc H.size) Qc mc ms free) (hG : GoodIn gx_T (.code y bytes maxL none :: gx_T)) (hi : Cond.initialized y.cls ∈ gx_T) (hlk2 : va_Nw (.methodLinkNest y0.cls index y host) s) (him : Cond.instanceMethod y ∈ gx_T) (hy1 : y.name = "<init>")
    (hd : y.cls ≠ "java/lang/invoke/MethodHandle" ∧ y.cls ≠ "java/lang/invoke/VarHandle" ∧ (parseMethodDescriptor y.desc).map (fun d => d.parameters.length) = some na) (hrc : rm.cells = mc) (hrs : rm.slots = ms) (hR : rm.frames + 1 ≤ R.frames ∧ 8 + (maxL + 11) + rm.locals ≤ R.locals)
    (hna : As.length = na) (hst : st0 = As.reverse ++ .ref b :: rest) (hroom : (rest.map fun v => v.category).sum ≤ 8) (hdg : decode cc pc = .ok (.invokespecial index, 3)) (hf : cells + mc ≤ R.cells ∧ slots + ms ≤ R.slots) :
    va_Run p l e R s m args below meth c H locs cells slots mc ms (F0 m pc ls st0) rest (Qc (Value.ref b :: As).toArray) free := by
  obtain ⟨hx, hb, hr, hml, hown, hT, hlk, -⟩ := C
  exact va_runIN (As := As) (rest := rest) ⟨hx, hb, hml, hown, hT⟩ hM ⟨va_cnB na hT hG rfl hrc hrs hlk2 (hT _ hi) hd hR, hy1, hT _ him⟩ ⟨gx_blind, fun U hU hW => ⟨rfl, by rw [hU], by rw [hU]; exact hPc, hK.warm hW, hDc⟩⟩ rfl hna hl hst (lv_room hroom) hdg hf
-- ===== calls: what goes on behind them =====
variable {a : Array Value} {wr : va_W} {isC isR : List Nat}
theorem gx_pi {post : Int32 → Prop} (hP : va_P D gx_cl ws H) (hS : va_S A H0 H locs) (hr : va_Run p l e R s m args below meth c H locs cells slots 0 0 (F0 m pc ls st0) rest (gx_Pi post a) gx_No)
    (kk : ∀ (r : Int32) (H1 : Heap) (locs1 : List Loc), post r → va_P D gx_cl ws H1 → va_S A H0 H1 locs1 → W p l e R s m args below meth c H1 locs1 cells slots Q (F0 m (pc + 3) ls (.int r :: rest))) : W p l e R s m args below meth c H locs cells slots Q (F0 m pc ls st0) :=
  va_calli hr hS (fun q _ h => h.elim) (fun q h => h.elim) (fun r u t H1 locs1 ht hvm hp hB hz hk hS1 => kk r H1 locs1 hp (hP.kept (fun i x hx => hk x.1 (hP i x hx).lt (fun h => h))) hS1)
theorem gx_pl {post : Int64 → Prop} (hP : va_P D gx_cl ws H) (hS : va_S A H0 H locs) (hr : va_Run p l e R s m args below meth c H locs cells slots 0 0 (F0 m pc ls st0) rest (gx_Pl post a) gx_No)
    (kk : ∀ (r : Int64) (H1 : Heap) (locs1 : List Loc), post r → va_P D gx_cl ws H1 → va_S A H0 H1 locs1 → W p l e R s m args below meth c H1 locs1 cells slots Q (F0 m (pc + 3) ls (.long r :: rest))) : W p l e R s m args below meth c H locs cells slots Q (F0 m pc ls st0) :=
  va_calll hr hS (fun q _ h => h.elim) (fun q h => h.elim) (fun r u t H1 locs1 ht hvm hp hB hz hk hS1 => kk r H1 locs1 hp (hP.kept (fun i x hx => hk x.1 (hP i x hx).lt (fun h => h))) hS1)
theorem gx_ei {S : Type} {post : Int32 → S → Prop} {w1 : S → va_W} (hP : va_P D gx_cl ws H) (hD : va_D A ws) (hS : va_S A H0 H locs) (hA : ∀ q, H0.size ≤ q → A q) (hC : isC.map (fun i => ws[i]?) = wc.map some) (hR : isR.map (fun i => ws[i]?) = wr.map some) (hn : va_nd isR = true) (hdis : ∀ i ∈ isR, i ∉ isC)
    (hr : va_Run p l e R s m args below meth c H locs cells slots mc ms (F0 m pc ls st0) rest (gx_Qi D post w1 (va_A wc H.size) a) (va_A wc H.size))
    (kk : ∀ (r : Int32) (u : S) (H1 : Heap) (locs1 : List Loc), post r u → va_P D gx_cl (wr ++ w1 u) H1 → va_D A (wr ++ w1 u) → va_S A H0 H1 locs1 → W p l e R s m args below meth c H1 locs1 (cells + mc) (slots + ms) Q (F0 m (pc + 3) ls (.int r :: rest))) : W p l e R s m args below meth c H locs cells slots Q (F0 m pc ls st0) := by
  have hFc := va_free (wc := wc) hD hS hA isC hC
  refine va_calli hr hS (fun q _ h => hFc q h) hFc (fun r u t H1 locs1 ht hvm hp hB hz hk hS1 => ?_)
  obtain ⟨hP1, hD1⟩ := hB
  rw [ht] at hP1
  obtain ⟨hP2, hD2⟩ := va_join hP hD isC isR hC hR hn hdis hk hFc hP1 hD1
  exact kk r u H1 locs1 hp hP2 hD2 hS1
theorem gx_ev {S : Type} {post : S → Prop} {w1 : S → va_W} (hP : va_P D gx_cl ws H) (hD : va_D A ws) (hS : va_S A H0 H locs) (hA : ∀ q, H0.size ≤ q → A q) (hC : isC.map (fun i => ws[i]?) = wc.map some) (hR : isR.map (fun i => ws[i]?) = wr.map some) (hn : va_nd isR = true) (hdis : ∀ i ∈ isR, i ∉ isC)
    (hr : va_Run p l e R s m args below meth c H locs cells slots mc ms (F0 m pc ls st0) rest (gx_Qv D post w1 (va_A wc H.size) a) (va_A wc H.size))
    (kk : ∀ (u : S) (H1 : Heap) (locs1 : List Loc), post u → va_P D gx_cl (wr ++ w1 u) H1 → va_D A (wr ++ w1 u) → va_S A H0 H1 locs1 → W p l e R s m args below meth c H1 locs1 (cells + mc) (slots + ms) Q (F0 m (pc + 3) ls (rest))) : W p l e R s m args below meth c H locs cells slots Q (F0 m pc ls st0) := by
  have hFc := va_free (wc := wc) hD hS hA isC hC
  refine va_callv hr hS (fun q _ h => hFc q h) hFc (fun u t H1 locs1 ht hvm hp hB hz hk hS1 => ?_)
  obtain ⟨hP1, hD1⟩ := hB
  rw [ht] at hP1
  obtain ⟨hP2, hD2⟩ := va_join hP hD isC isR hC hR hn hdis hk hFc hP1 hD1
  exact kk u H1 locs1 hp hP2 hD2 hS1
theorem gx_er {S : Type} {post : S → Prop} {w1 : S → Nat → va_W} (hP : va_P D gx_cl ws H) (hD : va_D A ws) (hS : va_S A H0 H locs) (hA : ∀ q, H0.size ≤ q → A q) (hC : isC.map (fun i => ws[i]?) = wc.map some) (hR : isR.map (fun i => ws[i]?) = wr.map some) (hn : va_nd isR = true) (hdis : ∀ i ∈ isR, i ∉ isC)
    (hr : va_Run p l e R s m args below meth c H locs cells slots mc ms (F0 m pc ls st0) rest (gx_Qr D post w1 (va_A wc H.size) a) (va_A wc H.size))
    (kk : ∀ (u : S) (ra : Nat) (H1 : Heap) (locs1 : List Loc), post u → va_P D gx_cl (wr ++ w1 u ra) H1 → va_D A (wr ++ w1 u ra) → va_S A H0 H1 locs1 → W p l e R s m args below meth c H1 locs1 (cells + mc) (slots + ms) Q (F0 m (pc + 3) ls (.ref ra :: rest))) : W p l e R s m args below meth c H locs cells slots Q (F0 m pc ls st0) := by
  have hFc := va_free (wc := wc) hD hS hA isC hC
  refine va_callr hr hS (fun q _ h => hFc q h) hFc (fun u ra t H1 locs1 ht hvm hp hB hz hk hS1 => ?_)
  obtain ⟨hP1, hD1⟩ := hB
  rw [ht] at hP1
  obtain ⟨hP2, hD2⟩ := va_join hP hD isC isR hC hR hn hdis hk hFc hP1 hD1
  exact kk u ra H1 locs1 hp hP2 hD2 hS1
-- ===== arrays of known classes =====
theorem gx_newI (hexec : p.tables.exec = Jvm.exec) (hb : c.code = cc) (hT : ∀ w ∈ gx_T, w.before args s = true) (hw : Cond.arrayClass .int ∈ gx_T) (hK : gx_K D k s) (hP : va_P D gx_cl ws H) (hD : va_D A ws) (hS : va_S A H0 H locs) (hA : ∀ q, H0.size ≤ q → A q) {x : Int32} {N' : Nat} (hn : ¬ x < 0) (hN : x.toNatClampNeg = N') (hbytes : N' * 4 ≤ 536870912) (hcells : cells + 1 ≤ R.cells) (hslots : slots + N' ≤ R.slots) (hdg : decode cc pc = .ok (.newarray .int, 2))
    (kk : ∀ (q : Nat) (H1 : Heap), va_P D gx_cl (ws ++ [(q, .inl (k 0, N', .inl (fun _ => 0)))]) H1 → va_D A (ws ++ [(q, .inl (k 0, N', .inl (fun _ => 0)))]) → va_S A H0 H1 locs → W p l e R s m args below meth c H1 locs (cells + 1) (slots + N') Q (F0 m (pc + 2) ls (.ref q :: rest))) : W p l e R s m args below meth c H locs cells slots Q (F0 m pc ls (.int x :: rest)) := by
  refine va_newa (atype := .int) (ty := .int) (N' := N') (a0 := (N', .inl (fun _ => 0))) hexec hb (hT _ hw) rfl hK.1 hP hD hS hA (fun cA => rfl) hn hN hbytes hcells hslots hdg (fun q cA H1 hK1 hP1 hD1 hS1 => ?_)
  have h1 : s.vm.findClass ("[" ++ FieldType.int.toString) = some cA := (hK1.2 5 (cA, .int) rfl).2
  have h2 : s.vm.findClass ("[" ++ FieldType.int.toString) = some (k 0) := (hK.1.2 0 (k 0, .int) rfl).2
  have h3 : cA = k 0 := Option.some.inj (h1.symm.trans h2)
  subst h3
  exact kk q H1 hP1 hD1 hS1
theorem gx_newJ (hexec : p.tables.exec = Jvm.exec) (hb : c.code = cc) (hT : ∀ w ∈ gx_T, w.before args s = true) (hw : Cond.arrayClass .long ∈ gx_T) (hK : gx_K D k s) (hP : va_P D gx_cl ws H) (hD : va_D A ws) (hS : va_S A H0 H locs) (hA : ∀ q, H0.size ≤ q → A q) {x : Int32} {N' : Nat} (hn : ¬ x < 0) (hN : x.toNatClampNeg = N') (hbytes : N' * 8 ≤ 536870912) (hcells : cells + 1 ≤ R.cells) (hslots : slots + N' ≤ R.slots) (hdg : decode cc pc = .ok (.newarray .long, 2))
    (kk : ∀ (q : Nat) (H1 : Heap), va_P D gx_cl (ws ++ [(q, .inl (k 1, N', .inr (.inl (fun _ => 0))))]) H1 → va_D A (ws ++ [(q, .inl (k 1, N', .inr (.inl (fun _ => 0))))]) → va_S A H0 H1 locs → W p l e R s m args below meth c H1 locs (cells + 1) (slots + N') Q (F0 m (pc + 2) ls (.ref q :: rest))) : W p l e R s m args below meth c H locs cells slots Q (F0 m pc ls (.int x :: rest)) := by
  refine va_newa (atype := .long) (ty := .long) (N' := N') (a0 := (N', .inr (.inl (fun _ => 0)))) hexec hb (hT _ hw) rfl hK.1 hP hD hS hA (fun cA => rfl) hn hN hbytes hcells hslots hdg (fun q cA H1 hK1 hP1 hD1 hS1 => ?_)
  have h1 : s.vm.findClass ("[" ++ FieldType.long.toString) = some cA := (hK1.2 5 (cA, .long) rfl).2
  have h2 : s.vm.findClass ("[" ++ FieldType.long.toString) = some (k 1) := (hK.1.2 1 (k 1, .long) rfl).2
  have h3 : cA = k 1 := Option.some.inj (h1.symm.trans h2)
  subst h3
  exact kk q H1 hP1 hD1 hS1
end GX
