/-! worlds side by side: permuted, and a call whose world is the first of two -/
theorem my_Pm {D : va_G} {cl : List vw_C} {ws : va_W} {H : Heap} : va_P D cl ws H ↔ ∀ q ∈ ws, va_at D cl q H :=
  ⟨fun h q hq => by
    obtain ⟨k, hk⟩ := List.getElem?_of_mem hq
    exact h k q hk, fun h k q hk => h q (List.mem_of_getElem? hk)⟩
theorem my_Dm {A : Nat → Prop} {ws : va_W} : va_D A ws ↔ ws.Pairwise (fun p q => p.1 ≠ q.1) ∧ ∀ q ∈ ws, A q.1 := by
  constructor
  · intro h
    refine ⟨List.pairwise_iff_getElem.mpr (fun i j hi hj hij e => ?_), fun q hq => ?_⟩
    · have := h.1 i j _ _ (List.getElem?_eq_getElem hi) (List.getElem?_eq_getElem hj) e
      omega
    · obtain ⟨k, hk⟩ := List.getElem?_of_mem hq
      exact h.2 k q hk
  · intro h
    refine ⟨fun i j p q hi hj e => ?_, fun k q hk => h.2 q (List.mem_of_getElem? hk)⟩
    obtain ⟨hi1, hi2⟩ := List.getElem?_eq_some_iff.mp hi
    obtain ⟨hj1, hj2⟩ := List.getElem?_eq_some_iff.mp hj
    have hp := List.pairwise_iff_getElem.mp h.1
    rcases Nat.lt_trichotomy i j with h9 | h9 | h9
    · exact absurd (by rw [hi2, hj2]; exact e) (hp i j hi1 hj1 h9)
    · exact h9
    · exact absurd (by rw [hi2, hj2]; exact e.symm) (hp j i hj1 hi1 h9)
theorem my_pP {D : va_G} {cl : List vw_C} {ws ws' : va_W} {H : Heap} (hp : ws.Perm ws') (h : va_P D cl ws H) : va_P D cl ws' H := my_Pm.mpr (fun q hq => my_Pm.mp h q (hp.mem_iff.mpr hq))
theorem my_pD {A : Nat → Prop} {ws ws' : va_W} (hp : ws.Perm ws') (h : va_D A ws) : va_D A ws' := by
  obtain ⟨h1, h2⟩ := my_Dm.mp h
  exact my_Dm.mpr ⟨(hp.pairwise_iff (fun {x y} h9 e => h9 e.symm)).mp h1, fun q hq => h2 q (hp.mem_iff.mpr hq)⟩
theorem my_Pl {D : va_G} {cl : List vw_C} {X Y : va_W} {H : Heap} (h : va_P D cl (X ++ Y) H) : va_P D cl X H := my_Pm.mpr (fun q hq => my_Pm.mp h q (List.mem_append_left _ hq))
theorem my_Pr {D : va_G} {cl : List vw_C} {X Y : va_W} {H : Heap} (h : va_P D cl (X ++ Y) H) : va_P D cl Y H := my_Pm.mpr (fun q hq => my_Pm.mp h q (List.mem_append_right _ hq))
theorem my_Dl {A : Nat → Prop} {X Y : va_W} (h : va_D A (X ++ Y)) : va_D A X := by
  obtain ⟨h1, h2⟩ := my_Dm.mp h
  exact my_Dm.mpr ⟨(List.pairwise_append.mp h1).1, fun q hq => h2 q (List.mem_append_left _ hq)⟩
theorem my_Ax {ws : va_W} {sz : Nat} {q : Nat} : va_A ws sz q ↔ (∃ e, (q, e) ∈ ws) ∨ sz ≤ q := by
  constructor
  · rintro (⟨k, e, hk⟩ | h)
    · exact Or.inl ⟨e, List.mem_of_getElem? hk⟩
    · exact Or.inr h
  · rintro (⟨e, he⟩ | h)
    · obtain ⟨k, hk⟩ := List.getElem?_of_mem he
      exact Or.inl ⟨k, e, hk⟩
    · exact Or.inr h
theorem my_jn {D : va_G} {cl : List vw_C} {A : Nat → Prop} {X Y X' : va_W} {H H1 : Heap} (hP : va_P D cl (X ++ Y) H) (hD : va_D A (X ++ Y)) (hk : ∀ q : Nat, q < H.size → ¬ va_A X H.size q → H1[q]? = H[q]?) (hF : ∀ q, va_A X H.size q → A q) (hP1 : va_P D cl X' H1) (hD1 : va_D (va_A X H.size) X') : va_P D cl (X' ++ Y) H1 ∧ va_D A (X' ++ Y) := by
  obtain ⟨d1, d2⟩ := my_Dm.mp hD
  obtain ⟨d3, d4, d5⟩ := List.pairwise_append.mp d1
  obtain ⟨e1, e2⟩ := my_Dm.mp hD1
  have apart : ∀ q ∈ Y, q.1 < H.size ∧ ¬ va_A X H.size q.1 := by
    intro q hq
    obtain ⟨k, hk9⟩ := List.getElem?_of_mem hq
    have hl := (my_Pr hP k q hk9).lt
    refine ⟨hl, fun h => ?_⟩
    rcases my_Ax.mp h with ⟨e, he⟩ | h
    · exact d5 _ he q hq rfl
    · omega
  constructor
  · refine my_Pm.mpr (fun q hq => ?_)
    rcases List.mem_append.mp hq with h | h
    · exact my_Pm.mp hP1 q h
    · obtain ⟨g1, g2⟩ := apart q h
      exact (my_Pm.mp hP q (List.mem_append_right _ h)).kept (hk q.1 g1 g2)
  · refine my_Dm.mpr ⟨List.pairwise_append.mpr ⟨e1, d4, fun x hx y hy e => (apart y hy).2 (e ▸ e2 x hx)⟩, fun q hq => ?_⟩
    rcases List.mem_append.mp hq with h | h
    · exact hF _ (e2 q h)
    · exact d2 q (List.mem_append_right _ h)
section MYJ
variable {p : Program} {l : Launch} {e : Env} {R : Room} {s : State} {m : MethodId} {args : Array Value} {below : List Frame} {meth : Method} {c : Code} {H : Heap} {locs : List Loc} {cells slots : Nat} {Q : State → Prop}
variable {cc : ByteArray} {pc : Nat} {ls : Array Slot} {rest st0 : List Value} {a : Array Value} {cl : List vw_C} {nw : List Cond} {D : va_G} {ty : List (ClassId × FieldType)} {wd : St → va_W} {A : Nat → Prop} {H0 : Heap} {u u' : St} {Y : va_W}
theorem my_cj {r : Int32} (hr : va_Run p l e R s m args below meth c H locs cells slots 0 0 (F0 m pc ls st0) rest (QI cl D ty wd (r, u') (va_A (wd u) H.size) a) (va_A (wd u) H.size)) (hP : va_P D cl (wd u ++ Y) H) (hD : va_D A (wd u ++ Y)) (hS : va_S A H0 H locs) (hA : ∀ q, H0.size ≤ q → A q)
    (kk : ∀ (H1 : Heap) (locs1 : List Loc), va_P D cl (wd u' ++ Y) H1 → va_D A (wd u' ++ Y) → va_S A H0 H1 locs1 → W p l e R s m args below meth c H1 locs1 cells slots Q (F0 m (pc + 3) ls (.int r :: rest))) : W p l e R s m args below meth c H locs cells slots Q (F0 m pc ls st0) := by
  have hF := my_fr (my_Dl hD) hS hA
  refine va_calli hr hS (fun q _ h => hF q h) hF (fun r1 u1 t H1 locs1 ht hvm hp hB hz hk hS1 => ?_)
  obtain ⟨h1, h2⟩ := hp
  have h1 : r1 = r := h1
  have h2 : u1 = u' := h2
  subst h1
  subst h2
  obtain ⟨hP1, hK1, hD1⟩ := hB
  rw [ht] at hP1
  obtain ⟨k1, k2⟩ := my_jn hP hD hk hF hP1 hD1
  exact kk H1 locs1 k1 k2 hS1
theorem my_cjv {F : St} (hr : va_Run p l e R s m args below meth c H locs cells slots 0 0 (F0 m pc ls st0) rest (QV cl D ty wd F (va_A (wd u) H.size) a) (va_A (wd u) H.size)) (hP : va_P D cl (wd u ++ Y) H) (hD : va_D A (wd u ++ Y)) (hS : va_S A H0 H locs) (hA : ∀ q, H0.size ≤ q → A q)
    (kk : ∀ (H1 : Heap) (locs1 : List Loc), va_P D cl (wd F ++ Y) H1 → va_D A (wd F ++ Y) → va_S A H0 H1 locs1 → W p l e R s m args below meth c H1 locs1 cells slots Q (F0 m (pc + 3) ls rest)) : W p l e R s m args below meth c H locs cells slots Q (F0 m pc ls st0) := by
  have hF := my_fr (my_Dl hD) hS hA
  refine va_callv hr hS (fun q _ h => hF q h) hF (fun u1 t H1 locs1 ht hvm hp hB hz hk hS1 => ?_)
  subst hp
  obtain ⟨hP1, hK1, hD1⟩ := hB
  rw [ht] at hP1
  obtain ⟨k1, k2⟩ := my_jn hP hD hk hF hP1 hD1
  exact kk H1 locs1 k1 k2 hS1
/-- a virtual call of a method that throws, caught here -/
theorem my_callX {index : Nat} {y : MethodName} {ws : List Cond} {rm : Room} {E own C : String} {bytes : ByteArray} {maxL : Nat} {ret : Option FieldType} {b : Nat} {As : List Value} {x : ExceptionTableEntry}
    (hexec : p.tables.exec = Jvm.exec) (hb : c.code = cc) (hsize : ls.size = c.maxLocals) (hown : s.vm.findClass own = some m.cls)
    (hM : MX l y ws rm (va_Pc (.ref b :: As) (fun U => ∃ n, ZU n U U.heap)) E) (hws : ∀ w ∈ ws, w.before args s = true) (hok : ws.all okW = true) (hcode : Cond.code y bytes maxL ret ∈ ws)
    (hlink : (Cond.methodLink own index y).before args s = true) (hinst : (Cond.instanceMethod y).before args s = true) (hsel : (Cond.selects C y y).before args s = true) (hini : Cond.initialized y.cls ∈ ws)
    (hy : y.cls ≠ "java/lang/invoke/MethodHandle" ∧ y.cls ≠ "java/lang/invoke/VarHandle") (hlen : (parseMethodDescriptor y.desc).map (fun d => d.parameters.length) = some As.length)
    (hf : rm.frames + 1 ≤ R.frames) (hlo : 8 + (maxL + 11) + rm.locals ≤ R.locals) (hc1 : rm.cells = 1) (hs1 : rm.slots = 6) (hc : cells + 1 ≤ R.cells) (hs : slots + 6 ≤ R.slots)
    (hrec : ∃ cellB : Cell, H[b]? = some cellB ∧ cellB.vm.isStatics = false ∧ s.vm.findClass C = some cellB.cls) (hZ : ∃ n, ZU n s H)
    (hst : st0 = As.reverse ++ .ref b :: rest) (hWd : (rest.map fun v => v.category).sum ≤ 8) (hdg : decode cc pc = .ok (.invokevirtual index, 3))
    (htab : c.exceptionTable.toList = [x]) (hx : covers x pc = true) (h0 : x.catchType ≠ 0) (hcl : (Cond.classLink own x.catchType E).before args s = true) (hcast : (Cond.castable E E).before args s = true)
    (kk : ∀ (H1 : Heap) (q : Nat), H.size ≤ H1.size → (∀ z : Nat, z < H.size → H1[z]? = H[z]?) → W p l e R s m args below meth c H1 locs (cells + 1) (slots + 6) Q (F0 m x.handlerPc ls [.ref q])) : W p l e R s m args below meth c H locs cells slots Q (F0 m pc ls st0) := by
  intro T hT X
  subst hb
  obtain ⟨mk, methM, hnamed, hmethM, hstM, habM⟩ := Cond.instanceMethod_spec hinst
  obtain ⟨methM', cM, hmethM', -, -, -, -, -, -, hsigM⟩ := Cond.code_spec hnamed (hws _ hcode)
  cases hmethM.symm.trans hmethM'
  obtain ⟨cellB, hcB, hoB, hclB⟩ := hrec
  obtain ⟨c2, r2, m2, q1, q2, q3, q4, kP, hkP, hkPi⟩ := Cond.selects_spec hsel
  cases hclB.symm.trans q1
  cases (State.methodFound?_of_named hnamed hy).symm.trans q2
  cases hnamed.symm.trans q3
  have hselP : selectMethod e.platform s.vm cellB.cls mk = .method mk := by rw [Launch.admits_selectMethod X.admits]; exact q4
  have hn9 : As.length = methM.sig.parameters.length := by
    rw [hsigM] at hlen
    exact (Option.some.inj hlen).symm
  obtain ⟨vm₁, X₁, hstep₁⟩ := X.invokevirtual hexec hown hlink hnamed hmethM hstM hkP hkPi hy (a := b) (cell := cellB) (by rw [hT]; exact hcB)
    (fun z h => by rw [h] at hoB; cases hoB) hselP hmethM habM hkP hkPi (g := F0 m pc ls st0) rfl (argsL := As) (rest := rest) hn9 hst hdg
  have hW₁ : s.WarmedH (T.setVm vm₁).vm := X₁.warmed
  have hall := my_words (a' := (Value.ref b :: As).toArray) (U := T.setVm vm₁) hok hW₁ hws
  obtain ⟨n, hZ⟩ := hZ
  have hZ1 : ZU n (T.setVm vm₁) (T.setVm vm₁).heap := by
    have h9 : ZU n (T.setVm vm₁) H := hZ.moved hW₁.alike
    rw [← hT] at h9
    exact h9
  obtain ⟨q, ce, V, XV, hce, hcv, hcE, k1, k2, st2⟩ := my_backX (g := { F0 m pc ls st0 with stack := rest }) (a := (Value.ref b :: As).toArray) (mk := mk) (bytes := bytes) (maxL := maxL) (ret := ret) hM X₁ rfl hsize hdg (by show 2 * 0 + (rest.map fun v => v.category).sum ≤ 8; omega) (X₁.named hnamed) ⟨rfl, n, hZ1.moved (U := (T.setVm vm₁).calling _ _ _) (Vm.Alike.refl _)⟩ hall hcode (hall _ hini) hf hlo hc1 hs1 hc hs
  have hcE' : s.vm.findClass E = some ce.cls := by
    have h9 := hcE
    rw [hW₁.alike.findClass] at h9
    exact h9
  obtain ⟨vm2, X2, st3⟩ := my_catch XV (g := { F0 m pc ls st0 with stack := rest }) rfl htab hx h0 hown hcl hcast hce hcv hcE'
  obtain ⟨t, a1, b1⟩ := kk V.heap q (by rw [← hT]; exact k1) (fun z hz => by rw [← hT] at hz ⊢; exact k2 z hz) (V.setVm vm2) rfl X2
  refine ⟨t, hstep₁ _ fun acts => ?_, b1⟩
  rw [doInvoke_state]
  exact st2.trans (st3 _ a1)
end MYJ
