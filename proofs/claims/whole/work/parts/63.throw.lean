/-! own rows for methods that throw an exception of their own, for launches without stack traces; and for a caller with one row in its table that catches it -/
theorem my_word {args a' : Array Value} {s U : State} {w : Cond} (h1 : w.onTables = true) (h2 : w.keepsFace = true) (hW : s.WarmedH U.vm) (h : w.before args s = true) : w.before a' U = true := by
  have h3 := Cond.before_shiftedFace (State.Shifted.of_warmed hW) w h2 h
  rw [Cond.onTables_vm (A' := a') (U' := U) U.vm w h1] at h3
  exact h3
def okW (w : Cond) : Bool := (w.onTables && w.keepsFace) || goodWord w
theorem my_words {args a' : Array Value} {s U : State} {L : List Cond} (h1 : L.all okW = true) (hW : s.WarmedH U.vm) (h : ∀ w ∈ L, w.before args s = true) : ∀ w ∈ L, w.before a' U = true := by
  intro w hw
  have h2 := List.all_eq_true.mp h1 w hw
  simp only [okW, Bool.or_eq_true, Bool.and_eq_true] at h2
  rcases h2 with h2 | h2
  · exact my_word h2.1 h2.2 hW (h w hw)
  · exact word_at hW (good_of_word h2) (h w hw)
/-- a static field of references: where it lies, below the address n -/
def ZL (C x d : String) (n : Nat) (U : State) (H : Heap) : Prop := ∃ (c : ClassId) (k : Class) (i : Nat) (f : Field) (a : Nat) (cell : Cell) (v : Value), U.vm.findClass C = some c ∧ U.fieldFound? C x d = some (c, k, i, f) ∧ f.isStatic = true ∧ k.statics = some a ∧ H[a]? = some cell ∧ cell.vm.isStatics = true ∧ cell.cls = c ∧ f.slot < cell.slots.size ∧ k.staticTypes[f.slot]? = some f.type ∧ cell.slots[f.slot]? = some v ∧ v.isRef = true ∧ a < n
theorem ZL.moved {C x d : String} {n : Nat} {s U : State} {H : Heap} (hvm : s.vm.Alike U.vm) (h : ZL C x d n s H) : ZL C x d n U H := by
  obtain ⟨c, k, i, f, a, cell, v, h1, h2, h3, h4, h5, h6, h7, h8, h9, h10⟩ := h
  obtain ⟨k', hi', he⟩ := State.fieldFound?_setVm hvm h2
  exact ⟨c, k', i, f, a, cell, v, by rw [hvm.findClass]; exact h1, hi', h3, by rw [he]; exact h4, h5, h6, h7, h8, by rw [he]; exact h9, h10⟩
theorem ZL.kept {C x d : String} {n : Nat} {U : State} {H H1 : Heap} (hq : ∀ a : Nat, a < n → H1[a]? = H[a]?) (h : ZL C x d n U H) : ZL C x d n U H1 := by
  obtain ⟨c, k, i, f, a, cell, v, h1, h2, h3, h4, h5, h6, h7, h8, h9, h10, h11, h12⟩ := h
  exact ⟨c, k, i, f, a, cell, v, h1, h2, h3, h4, by rw [hq a h12]; exact h5, h6, h7, h8, h9, h10, h11, h12⟩
theorem ZL.lays {C x d : String} {n : Nat} {s : State} {args : Array Value} (h : ZL C x d n s s.heap) : (Cond.laysStatic C x d).before args s = true := by
  obtain ⟨c, k, i, f, a, cell, v, h1, h2, h3, h4, h5, h6, h7, h8, h9, -⟩ := h
  show (Cond.laysStatic C x d).holds args s none s [] = true
  exact Cond.laysStatic_of h1 h2 h3 h4 h5 h6 h7 h8 h9
theorem ZL.isRef {C x d : String} {n : Nat} {s : State} {args : Array Value} (h : ZL C x d n s s.heap) : (Cond.isRef (.static C x d)).before args s = true := by
  obtain ⟨c, k, i, f, a, cell, v, h1, h2, h3, h4, h5, h6, h7, h8, h9, h10, h11, -⟩ := h
  have he : (Term.static C x d).eval args s none [] s = some v := by
    simp [Term.eval, State.fieldNamed?, h2, h3, h4, h5, h6, h10]
  simp only [Cond.before, Cond.holds, Cond.value, he]
  cases v <;> simp_all [Value.isRef]
def ZU (n : Nat) (U : State) (H : Heap) : Prop := ZL Bundle.tN "UNASSIGNED_STACK" Bundle.steD n U H ∧ ZL Bundle.tN "SUPPRESSED_SENTINEL" Bundle.listD n U H
theorem ZU.moved {n : Nat} {s U : State} {H : Heap} (hvm : s.vm.Alike U.vm) (h : ZU n s H) : ZU n U H := ⟨h.1.moved hvm, h.2.moved hvm⟩
theorem ZU.kept {n : Nat} {U : State} {H H1 : Heap} (hq : ∀ a : Nat, a < n → H1[a]? = H[a]?) (h : ZU n U H) : ZU n U H1 := ⟨h.1.kept hq, h.2.kept hq⟩
/-- the words of a throw that the tables alone decide -/
def hpW : Cond → Bool
  | .isRef _ => false
  | .laysStatic _ _ _ => false
  | _ => true
def GX (own : String) (ic : Nat) (E : String) (ns : List String) : List Cond := (Bundle.ownAtoms0 own ic E ns).filter hpW
theorem GX.all {own : String} {ic : Nat} {E : String} {ns : List String} {n : Nat} {args : Array Value} {s : State} (h : ∀ w ∈ GX own ic E ns, w.before args s = true) (hZ : ZU n s s.heap)
    (hc : (Bundle.ownAtoms0 own ic E ns).all (fun w => hpW w || decide (w = .isRef (.static Bundle.tN "UNASSIGNED_STACK" Bundle.steD)) || decide (w = .isRef (.static Bundle.tN "SUPPRESSED_SENTINEL" Bundle.listD)) || decide (w = .laysStatic Bundle.tN "UNASSIGNED_STACK" Bundle.steD) || decide (w = .laysStatic Bundle.tN "SUPPRESSED_SENTINEL" Bundle.listD)) = true) : ∀ w ∈ Bundle.ownAtoms0 own ic E ns, w.before args s = true := by
  intro w hw
  have h1 := List.all_eq_true.mp hc w hw
  simp only [Bool.or_eq_true, decide_eq_true_eq] at h1
  rcases h1 with (((h1 | h1) | h1) | h1) | h1
  · exact h w (List.mem_filter.mpr ⟨hw, h1⟩)
  · rw [h1]; exact hZ.1.isRef
  · rw [h1]; exact hZ.2.isRef
  · rw [h1]; exact hZ.1.lays
  · rw [h1]; exact hZ.2.lays
/-- a method that throws a new object of the class E and changes nothing -/
def QX (E : String) : Array Value → State → Outcome → State → Prop := fun _ st o t => ∃ (q : Addr) (ce : Cell), o = .threw q ∧ t.heap[q]? = some ce ∧ ce.vm = .none ∧ st.vm.findClass E = some ce.cls ∧ st.WarmedH t.vm ∧ st.sameButNew ({ t with vm := st.vm } : State) [] 1 6
def MX (l : Launch) (y : MethodName) (ws : List Cond) (rm : Room) (Pc : Array Value → State → Prop) (E : String) : Prop := MetFree l y (headSpec ws rm) Pc (fun _ _ _ _ _ => True) (QX E)
def XQ (below : List Frame) (E : String) (args : Array Value) (s : State) : State → Prop := fun t => ∃ o, t.status = .running ∧ Ended t below o ∧ QX E args s o t
theorem my_inX {l : Launch} {y : MethodName} {ws gw : List Cond} {rm : Room} {av : List Value} {cc : ByteArray} {maxL : Nat} {ret : Option FieldType} {E : String}
    (hy : plainName y.cls = true) (hw : ws = Cond.code y cc maxL ret :: gw) (hlen : (lg_sl av).length ≤ maxL)
    (body : ∀ (p : Program) (e : Env) (s : State) (m : MethodId) (below : List Frame) (meth : Method) (c : Code) (H : Heap) (locs : List Loc) (ls : Array Slot), p.tables.exec = Jvm.exec → c.code = cc → c.maxLocals = maxL → meth.sig.returnType = ret → (∀ w ∈ gw, w.before av.toArray s = true) → s.vm.findClass y.cls = some m.cls → meth.locks = false → c.exceptionTable.toList = [] → (∃ n, ZU n s s.heap) → va_S (fun _ => False) s.heap H locs → lv_has ls maxL (lv_args 0 av) →
      W p l e (headSpec ws rm).room s m av.toArray below meth c H locs 0 0 (XQ below E av.toArray s) (F0 m 0 ls [])) :
    MX l y ws rm (va_Pc av (fun U => ∃ n, ZU n U U.heap)) E := by
  refine MetFree.of_bodyS (code := cc) (maxLocals := maxL) (ret := ret) hy ?_ ?_
  · intro args s m h hn
    obtain ⟨meth, c, h1, h2, h3, h4, h5, h6, -, -⟩ := Cond.code_spec hn (atoms_spec (ws := ws) h _ (by rw [hw]; exact List.mem_cons_self))
    exact ⟨meth, c, h1, h2, h3, h4, h5, h6⟩
  · intro p e s m args below meth c s₁ B hml hv _
    obtain ⟨rfl, hZ⟩ := hv
    have hh0 : s₁.heap = s.heap := by rw [B.state]; rfl
    have hts : ∀ w ∈ gw, w.before av.toArray s = true := fun w h => atoms_spec (ws := ws) B.pre w (by rw [hw]; exact List.mem_cons_of_mem _ h)
    have hown : s.vm.findClass y.cls = some m.cls := findClass_of_methodNamed B.named
    have hl := lv_entry av (n := maxL) hlen
    have X0 := Stand.of_body B
    have htab : c.exceptionTable.toList = [] := by
      obtain ⟨meth9, c9, h1, h2, -, -, -, -, h7, -⟩ := Cond.code_spec B.named (atoms_spec (ws := ws) B.pre _ (by rw [hw]; exact List.mem_cons_self))
      cases Option.some.inj (X0.method.symm.trans h1)
      cases Option.some.inj (X0.code.symm.trans h2)
      simpa using h7
    obtain ⟨t, a1, o, b1, b2, b3⟩ := body p e s m below meth c s.heap [] _ B.exec B.bytes hml B.returns hts hown B.notSynchronized htab hZ va_S.rf hl s₁ hh0 X0
    rw [lg_entry_eq]
    exact ⟨t, o, a1, b1, b2, b3⟩
section MYX
variable {p : Program} {l : Launch} {e : Env} {R : Room} {s : State} {m : MethodId} {args : Array Value} {below : List Frame} {meth : Method} {c : Code} {H : Heap} {locs : List Loc} {cells slots : Nat} {Q : State → Prop}
variable {cc : ByteArray} {pc : Nat} {ls : Array Slot}
/-- 'throw new E()' -/
theorem my_throw (hexec : p.tables.exec = Jvm.exec) (hb : c.code = cc) (hl : l.stackTraces = false) {own E : String} {ns : List String} {ik ic : Nat}
    (hown : s.vm.findClass own = some m.cls) (hE : Bundle.fit E = true) (hns : ∀ x ∈ ns, Bundle.fit x = true)
    (hk : (Cond.classLink own ik E).before args s = true) (hini : (Cond.initialized E).before args s = true) (hat : ∀ w ∈ Bundle.ownAtoms0 own ic E ns, w.before args s = true)
    (hS : va_S (fun _ => False) s.heap H locs) (hsize : ls.size = c.maxLocals) (htab : c.exceptionTable.toList = [])
    (d0 : decode cc pc = .ok (.new ik, 3)) (d3 : decode cc (pc + 3) = .ok (.dup, 1)) (d4 : decode cc (pc + 4) = .ok (.invokespecial ic, 3)) (d7 : decode cc (pc + 7) = .ok (.athrow, 1))
    (hRf : ns.length + 3 < R.frames) (hRl : 13 * (ns.length + 1) + 42 ≤ R.locals) (hRc : 1 ≤ R.cells) (hRs : 6 ≤ R.slots) (hlocks : meth.locks = false) :
    W p l e R s m args below meth c H locs 0 0 (XQ below E args s) (F0 m pc ls []) := by
  intro T hT X
  have htr : e.platform.stackTraces = false := (show e.platform.stackTraces = l.stackTraces by rw [X.admits.platform]).trans hl
  have hlocs : locs = [] := by
    cases locs with
    | nil => rfl
    | cons z zs => exact (hS.2.2 z List.mem_cons_self).elim
  subst hlocs
  have hins : (Cond.instantiable E 6).before args s = true := hat _ (by simp [Bundle.ownAtoms0])
  obtain ⟨vm₁, cX, kX, hfX, hkX, -, -, X₁, st1⟩ := X.newCold hexec (own := own) (C := E) (index := ik) (n := 6) hown hk hins hini (g := F0 m pc ls []) rfl (by rw [hb]; exact d0) (by omega) (by omega)
  generalize hT1 : (T.setVm vm₁).pushCell { cls := cX, slots := kX.instanceTypes.map defaultValue, vm := .none } = T1 at X₁ st1
  have hcat : (Value.ref T.heap.size).category = 1 := rfl
  have hcellA : T1.heap[T.heap.size]? = some (freshCell cX kX) := by rw [← hT1]; exact State.heap_pushCell_size _ _
  obtain ⟨U, hsteps, hrun, hend, hW, hsame, ce, hce, hO⟩ := X₁.ctorThrow0 hexec htr (own := own) (cls := E) (names := ns) (ic := ic) hown hE hns hat (fun x hx => nomatch hx) hfX hkX hcellA (by rw [hT]; exact hS.1)
    (g := { method := m, pc := pc + 4, locals := ls, stack := .ref T.heap.size :: .ref T.heap.size :: [], locked := none }) rfl hsize rfl rfl (rest := []) rfl
    (by rw [hb]; exact d4) (by rw [hb]; exact d7) (fun x hx => by rw [htab] at hx; cases hx) hRf (by simp only [List.map_cons, List.map_nil, List.sum_cons, List.sum_nil, hcat]; show 2 * 0 + (1 + 0) + _ ≤ _; omega) hlocks
  refine ⟨U, ?_, .threw T.heap.size, hrun, hend, T.heap.size, ce, rfl, hce, hO.vm, hO.cls, hW, hsame⟩
  refine st1 _ ?_
  have d3' : decode c.code (pc + 3) = .ok (.dup, 1) := by rw [hb]; exact d3
  show Steps p.tables e below (T1.setTop { method := m, pc := pc + 3, locals := ls, stack := .ref T.heap.size :: [], locked := none }) _
  jvm_step X₁.here [X₁.here.top, hexec, d3', Value.category]
  exact hsteps
theorem my_same {t : State} {k n : Nat} (h : s.sameButNew t [] k n) : s.heap.size ≤ t.heap.size ∧ ∀ q : Nat, q < s.heap.size → t.heap[q]? = s.heap[q]? := by
  obtain ⟨-, h2, -, -, -, h6⟩ := h
  refine ⟨h2, fun q hq => ?_⟩
  obtain ⟨c9, e1, e2, e3, e4⟩ := h6 q _ (Array.getElem?_eq_getElem hq)
  have hs : c9.slots = (s.heap[q]).slots := Array.ext_getElem? fun i => e4 i (List.not_mem_nil)
  rw [hs] at e2
  rw [e1, e2, Array.getElem?_eq_getElem hq]
/-- the call's way to the callee's throw -/
theorem my_backX {U : State} {y : MethodName} {ws : List Cond} {rm : Room} {Pc : Array Value → State → Prop} {E : String} {bytes : ByteArray} {maxL len : Nat} {ret : Option FieldType} {g : JFrame} {ig : Instr} {mk : MethodId} {a : Array Value}
    (hM : MX l y ws rm Pc E) (X : Stand p l e R s m args below meth c U locs cells slots) (hg : g.method = m) (hsize : g.locals.size = c.maxLocals) (hdg : decode c.code g.pc = .ok (ig, len))
    (hWd : 2 * g.monitorRoom + (g.stack.map fun v => v.category).sum ≤ 8) (hn : U.methodNamed? y = some mk) (hPc : Pc a (U.calling g mk a)) (hws : ∀ w ∈ ws, w.before a U = true) (hcode : Cond.code y bytes maxL ret ∈ ws) (hini : (Cond.initialized y.cls).before a U = true)
    (hf : rm.frames + 1 ≤ R.frames) (hlo : 8 + (maxL + 11) + rm.locals ≤ R.locals) (hc1 : rm.cells = 1) (hs1 : rm.slots = 6) (hc : cells + 1 ≤ R.cells) (hs : slots + 6 ≤ R.slots) :
    ∃ (q : Addr) (ce : Cell) (V : State), Stand p l e R s m args below meth c V locs (cells + 1) (slots + 6) ∧ V.heap[q]? = some ce ∧ ce.vm = .none ∧ U.vm.findClass E = some ce.cls ∧ U.heap.size ≤ V.heap.size ∧ (∀ z : Nat, z < U.heap.size → V.heap[z]? = U.heap[z]?) ∧
      Steps p.tables e below (doInvoke e (U.setTop g) [] mk a).1 ((V.setTop g).pushFrame (.throwing q)) := by
  subst hg
  obtain ⟨methY, cY, hmY, hcY, -, hlY, -, -, -, -⟩ := Cond.code_spec hn (hws _ hcode)
  obtain ⟨kY, hkY, -⟩ := className_of_methodNamed hn
  have hinitY : kY.init = .initialized := Cond.initialized_spec (findClass_of_methodNamed hn) hkY hini
  have h : At U g.method c below := X.here
  have hlo' : 8 + (maxL + 11) + (headSpec ws rm).room.locals ≤ R.locals := hlo
  have happ : (headSpec ws rm).appliesLoose y e.platform (U.calling g mk a) = true :=
    Spec.appliesLoose_calling (g := g) h hdg hn hkY hinitY
      (X.room_calling (g := g) (R' := (headSpec ws rm).room) hsize hmY hcY hf (by rw [hlY]; omega) (by show cells + rm.cells ≤ _; omega) (by show slots + rm.slots ≤ _; omega)) (atoms_intro hws)
  obtain ⟨mid, hmid⟩ := h.above
  have hfr : (U.setTop g).frames = (.java g :: mid) ++ below := by rw [State.frames_setTop' g h.top, hmid]; rfl
  obtain ⟨o, t, hsteps, -, hend, hq⟩ := Steps.callFree hM p X.admits X.cas X.clock (acts := []) hfr happ hPc trivial
  rw [State.frames_setTop' g h.top] at hend
  obtain ⟨q, ce, rfl, hce, hcv, hcl, hW, hsm⟩ := hq
  have hW' : U.WarmedH t.vm := hW
  have hends : t.frames = .throwing q :: .java g :: U.frames.tail := hend
  obtain ⟨k1, k2⟩ := my_same hsm
  obtain ⟨e2, q2, q3, q4, q5, q6⟩ := hsm
  have e3 : t = ({ (U.calling g mk a).setFrames t.frames with heap := t.heap, slotsUsed := t.slotsUsed } : State).setVm t.vm := by
    have e4 : t = ({ t with vm := (U.calling g mk a).vm } : State).setVm t.vm := rfl
    exact e4.trans (congrArg (fun z : State => z.setVm t.vm) e2)
  obtain ⟨g₀, hg0⟩ := Option.isSome_iff_exists.mp h.top
  obtain ⟨r, hr⟩ := State.topJava?_eq_some.mp hg0
  have hsame : U.sameButNew ({ U with heap := t.heap, slotsUsed := t.slotsUsed } : State) [] 1 6 := by
    obtain ⟨t9, ht9, -⟩ := State.frames_cons hr
    refine ⟨?_, q2, q3, q4, q5, q6⟩
    show ({ U with heap := t.heap, slotsUsed := t.slotsUsed } : State) = { U.setFrames U.frames with heap := t.heap, slotsUsed := t.slotsUsed }
    rw [State.setFrames_self ht9]
  have hall := X.same.trans (hsame.setVm s.vm)
  rw [List.append_nil] at hall
  refine ⟨q, ce, (({ U with heap := t.heap, slotsUsed := t.slotsUsed } : State).setVm t.vm),
    ⟨X.admits, X.cas, X.clock, X.frames, X.room, X.hears, X.method, X.code, (X.here.setHeapUsed t.heap t.slotsUsed).setVm hW'.alike, X.tail, State.WarmedH.trans X.warmed hW', X.limits, X.bytes, hall⟩, hce, hcv, hcl, k1, k2, ?_⟩
  have hr' : (({ U with heap := t.heap, slotsUsed := t.slotsUsed } : State).setVm t.vm).frames = .java g₀ :: r := hr
  have hs₂ : t = ((({ U with heap := t.heap, slotsUsed := t.slotsUsed } : State).setVm t.vm).setTop g).pushFrame (.throwing q) := by
    refine e3.trans ?_
    rw [hends, State.calling_eq h.top, State.setFrames_setFrames, State.pushFrame, State.frames_setTop _ hr', State.setTop_of_frames _ hr', State.setFrames_setFrames, hr]
    rfl
  rw [← hs₂]
  exact hsteps
theorem my_find {S : State} {g : JFrame} {q : Addr} {x : ExceptionTableEntry} {k : ClassId} {ce : Cell} (hm : S.vm.method? g.method = some meth) (hc : meth.code = some c) (htab : c.exceptionTable.toList = [x]) (hx : covers x g.pc = true) (h0 : x.catchType ≠ 0)
    (hl : S.vm.ClassLinks e.platform g.method.cls x.catchType k) (hcell : S.heap[q]? = some ce) (hv : ce.vm = .none) (hk1 : ∃ z, S.vm.classes[ce.cls]? = some z) (hk2 : ∃ z, S.vm.classes[k]? = some z) (hfit : S.vm.assignable ce.cls k = true)
    (P : Handler → Bool → List Action → State → Prop) (F : Control → List Action → State → Prop) (d : Bool) (acts : List Action) : Sem.wp (findHandler g q) P F e d acts S ↔ P (.found x.handlerPc) d acts (S.setVm (S.vm.noted g.method.cls x.catchType (.cls k))) := by
  rw [Jvm.W.findHandler_eq hm hc, htab]
  simp only [covers] at hx
  obtain ⟨ha, ht⟩ := (resolveClass_links e.toSetting hl).op (op := VmOp.resolveClass g.method.cls x.catchType) rfl
  have hal : S.vm.Alike (S.vm.noted g.method.cls x.catchType (.cls k)) := (Vm.Alike.refl S.vm).noted _ _ _
  obtain ⟨z1, hz1⟩ := hk1
  obtain ⟨z2, hz2⟩ := hk2
  obtain ⟨y1, hy1, -⟩ := hal.2.2 _ _ hz1
  obtain ⟨y2, hy2, -⟩ := hal.2.2 _ _ hz2
  have hfit' : (S.vm.noted g.method.cls x.catchType (.cls k)).assignable ce.cls k = true := by rw [hal.assignable]; exact hfit
  simp [findHandler.go, hx, h0, ha, ht, hcell, hv, hy1, hy2, hfit', VmOp.dirties, VmOp.acts]
theorem my_stepX {S : State} {g : JFrame} {q : Addr} {h : Nat} {vm' : Vm} {r : List Frame} (hfind : ∀ (P : Handler → Bool → List Action → State → Prop) (F : Control → List Action → State → Prop) (d : Bool) (acts : List Action), Sem.wp (findHandler g q) P F e d acts S ↔ P (.found h) d acts (S.setVm vm')) :
    (stepThrowing e S q (.java g :: r)).1 = (S.setVm vm').setFrames (.java { g with pc := h, stack := [.ref q] } :: r) := by
  simp only [stepThrowing, searchFrame, vmDo]
  generalize hr : Sem.go _ e false [] S = res
  obtain ⟨as, rfl, ha⟩ := Sem.eq_ok_of hr (a := Handler.found h) (s' := S.setVm vm') (acts' := []) (by simp [hfind])
  rfl
/-- thrown over this frame, and caught by the one row of its table -/
theorem my_catch {T : State} (X : Stand p l e R s m args below meth c T locs cells slots) {g : JFrame} (hg : g.method = m) {x : ExceptionTableEntry} (htab : c.exceptionTable.toList = [x]) (hx : covers x g.pc = true) (h0 : x.catchType ≠ 0) {own E : String} (hown : s.vm.findClass own = some m.cls)
    (hlink : (Cond.classLink own x.catchType E).before args s = true) (hcast : (Cond.castable E E).before args s = true) {q : Addr} {ce : Cell} (hcell : T.heap[q]? = some ce) (hv : ce.vm = .none) (hcl : s.vm.findClass E = some ce.cls) :
    ∃ vm' : Vm, Stand p l e R s m args below meth c (T.setVm vm') locs cells slots ∧ ∀ target, Steps p.tables e below ((T.setVm vm').setTop { g with pc := x.handlerPc, stack := [.ref q] }) target → Steps p.tables e below ((T.setTop g).pushFrame (.throwing q)) target := by
  subst hg
  have hpl : e.platform.magicAccessors = ({} : Platform).magicAccessors := by rw [X.admits.platform]
  obtain ⟨k, hk, hl5⟩ := Cond.classLink_spec hown hlink e.platform hpl
  cases Option.some.inj (hcl.symm.trans hk)
  obtain ⟨c3, c4, h3, h4, hasg⟩ := Cond.castable_spec hcast
  cases Option.some.inj (hcl.symm.trans h3)
  cases Option.some.inj (hcl.symm.trans h4)
  obtain ⟨dk, _, _, kt, hd, _, _, _, _, hkt, _, hopen⟩ := hl5.here
  obtain ⟨kt', hkt', -⟩ := X.warmed.alike.2.2 _ _ hkt
  have hW' : s.WarmedH (T.vm.noted g.method.cls x.catchType (.cls ce.cls)) := X.warmed.noted hd hopen (State.rightAt_cls hl5)
  refine ⟨_, X.noted hW', fun target hrest => ?_⟩
  have hfind := my_find (e := e) (S := (T.setTop g).pushFrame (.throwing q)) (g := g) (q := q) (x := x) (k := ce.cls) (ce := ce) X.method' X.code htab hx h0 (X.warmed.classLinks hl5) hcell hv ⟨kt', hkt'⟩ ⟨kt', hkt'⟩ (by
    show T.vm.assignable ce.cls ce.cls = true
    rw [X.warmed.alike.assignable]; exact hasg)
  obtain ⟨hgo, hw⟩ := X.here.throwing (g := g) q
  refine Steps.head hgo hw ?_
  have hst := my_stepX (S := (T.setTop g).pushFrame (.throwing q)) (g := g) (q := q) (r := T.frames.tail) (vm' := T.vm.noted g.method.cls x.catchType (.cls ce.cls)) hfind
  rw [stepThread_throwing (frames_entered X.here.top _), hst]
  obtain ⟨g₀, hg0⟩ := Option.isSome_iff_exists.mp X.here.top
  obtain ⟨r, hr⟩ := State.topJava?_eq_some.mp hg0
  have hr' : (T.setVm (T.vm.noted g.method.cls x.catchType (.cls ce.cls))).frames = .java g₀ :: r := hr
  rw [State.setTop_of_frames _ hr'] at hrest
  have hcomm : ∀ (u : State) (v : Vm) (F G : List Frame), ((u.setFrames F).setVm v).setFrames G = (u.setVm v).setFrames G := fun u v F G => by
    have h1 : (u.setFrames F).setVm v = (u.setVm v).setFrames F := rfl
    rw [h1, State.setFrames_setFrames]
  rw [hr, List.tail_cons, State.pushFrame, hcomm, State.setTop_of_frames _ hr, hcomm]
  exact hrest
end MYX
