/-! the law's helpers: they call a method of the class, keep its answer in a cell of an array, and catch what it throws -/
def GU : List Cond := .classLink nR_L 13 nR_N :: .classLink nR_L 28 nR_I :: GV
theorem gu_ok : GU.all okW = true := by
  show (okW (.classLink nR_L 13 nR_N) && (okW (.classLink nR_L 28 nR_I) && GV.all okW)) = true
  rw [gv_ok]
  decide
theorem gu_V {w : Cond} (h : w ∈ GV) : w ∈ GU := List.mem_cons_of_mem _ (List.mem_cons_of_mem _ h)
theorem gu_W {w : Cond} (h : w ∈ GW) : w ∈ GU := gu_V (List.mem_append_left _ h)
theorem gc_N : (Cond.castable nR_N nR_N) ∈ GV := gt_N (by decide +kernel)
theorem gc_I : (Cond.castable nR_I nR_I) ∈ GV := gt_I (by decide +kernel)
def wO (o : Nat) (cO : ClassId) (f : Nat → Int64) : va_W := [(o, .inl (cO, 1, .inr (.inl f)))]
def wH (h : Nat → Nat) (o : Nat) (cA : Nat → ClassId) (u : St) (f : Nat → Int64) : va_W := wSC h cA u ++ wO o (cA 2) f
abbrev tyL (cA : Nat → ClassId) : List (ClassId × FieldType) := [(cA 0, .int), (cA 1, .int), (cA 2, .long)]
def rmH : Room := { frames := 7, cells := 1, slots := 6, locals := 160 }
def MH (l : Launch) (y : MethodName) (ws : List Cond) (D : va_G) (h : Nat → Nat) (o : Nat) (cA : Nat → ClassId) (av : List Value) (u : St) (f : Nat → Int64) (r : Int32) (u' : St) (f' : Nat → Int64) : Prop :=
  ∀ sz : Nat, Met l y ws rmH (va_Pc av (fun U => WB nwS vwCl D (tyL cA) (wH h o cA u f) sz U ∧ ∃ n, ZU n U U.heap)) (va_Qi (fun r9 (_ : Unit) => r9 = r) (fun _ t => WA vwCl D (tyL cA) (va_A (wH h o cA u f) sz) (wH h o cA u' f') t) (va_A (wH h o cA u f) sz)) 1 6 (va_A (wH h o cA u f) sz)
theorem my_inH {l : Launch} {y : MethodName} {ws gw : List Cond} {D : va_G} {h : Nat → Nat} {o : Nat} {cA : Nat → ClassId} {av : List Value} {u : St} {f : Nat → Int64} {r : Int32} {u' : St} {f' : Nat → Int64} {cc : ByteArray} {maxL : Nat} {ret : Option FieldType} {k1 k2 k3 k4 : Nat}
    (hy : plainName y.cls = true) (hw : ws = Cond.codeWith y cc maxL ret [(k1, k2, k3, k4)] :: gw) (hlen : (lg_sl av).length ≤ maxL)
    (body : ∀ (p : Program) (e : Env) (s : State) (m : MethodId) (below : List Frame) (meth : Method) (c : Code) (A : Nat → Prop) (ls : Array Slot) (x : ExceptionTableEntry), p.tables.exec = Jvm.exec → c.code = cc → c.maxLocals = maxL → meth.sig.returnType = ret → (∀ w ∈ gw, w.before av.toArray s = true) → s.vm.findClass y.cls = some m.cls → meth.locks = false → c.exceptionTable.toList = [x] → (x.startPc = k1 ∧ x.endPc = k2 ∧ x.handlerPc = k3 ∧ x.catchType = k4) → va_K D vwCl (tyL cA) s → NW nwS s → (∃ n, ZU n s s.heap) → (∀ q, s.heap.size ≤ q → A q) → va_P D vwCl (wH h o cA u f) s.heap → va_D A (wH h o cA u f) → va_S A s.heap s.heap [] → lv_has ls maxL (lv_args 0 av) →
      W p l e (headSpec ws rmH).room s m av.toArray below meth c s.heap [] 0 0 (MQ below (va_Qi (fun r9 (_ : Unit) => r9 = r) (fun _ t => WA vwCl D (tyL cA) A (wH h o cA u' f') t) A) av.toArray s 1 6 A) (F0 m 0 ls [])) :
    MH l y ws D h o cA av u f r u' f' := by
  intro sz
  refine va_MetW (hh := [(k1, k2, k3, k4)]) (cc := cc) (maxL := maxL) (ret := ret) hy hw ?_
  intro p e s m args below meth c s₁ B hml hv
  obtain ⟨rfl, ⟨hsz, hP, hK, hD0, hN⟩, hZ⟩ := hv
  have hts : ∀ w ∈ gw, w.before av.toArray s = true := fun w h => atoms_spec (ws := ws) B.pre w (by rw [hw]; exact List.mem_cons_of_mem _ h)
  have hown : s.vm.findClass y.cls = some m.cls := findClass_of_methodNamed B.named
  subst hsz
  have hD := hD0.self (sz := s.heap.size)
  have hl := lv_entry av (n := maxL) hlen
  have X0 := Stand.of_body B
  obtain ⟨m9, meth9, c9, g0, g1, g2, -, -, g5, -⟩ := Cond.codeWith_spec (atoms_spec (ws := ws) B.pre _ (by rw [hw]; exact List.mem_cons_self))
  cases Option.some.inj (B.named.symm.trans g0)
  cases Option.some.inj (X0.method.symm.trans g1)
  cases Option.some.inj (X0.code.symm.trans g2)
  rw [lg_entry_eq]
  cases ht : c.exceptionTable.toList with
  | nil => rw [ht] at g5; cases g5
  | cons x xs =>
    cases xs with
    | cons x2 xs => rw [ht] at g5; simp at g5
    | nil =>
      rw [ht] at g5
      simp at g5
      exact body p e s m below meth c (va_A (wH h o cA u f) s.heap.size) _ x B.exec B.bytes hml B.returns hts hown B.notSynchronized ht g5 hK hN hZ (fun q h => Or.inr h) hP hD va_S.rf hl
section MYH
variable {p : Program} {l : Launch} {e : Env} {R : Room} {s : State} {m : MethodId} {args : Array Value} {below : List Frame} {meth : Method} {c : Code} {H : Heap} {locs : List Loc}
theorem my_rh {cc : ByteArray} {pc : Nat} {ls : Array Slot} {D : va_G} {cl : List vw_C} {ty : List (ClassId × FieldType)} {ws : va_W} {A : Nat → Prop} {r : Int32} (hexec : p.tables.exec = Jvm.exec) (hb : c.code = cc) (hr : meth.sig.returnType = some .int) (hlocks : meth.locks = false) (hK : va_K D cl ty s) (hP : va_P D cl ws H) (hD : va_D A ws) (hS : va_S A s.heap H locs) (hdg : decode cc pc = .ok (.ireturn, 1)) :
    W p l e R s m args below meth c H locs 1 6 (MQ below (va_Qi (fun r9 (_ : Unit) => r9 = r) (fun _ t => WA cl D ty A ws t) A) args s 1 6 A) (F0 m pc ls [.int r]) :=
  W.iret hexec hb hr (fun t ht hW => ⟨⟨r, (), rfl, rfl, by rw [ht]; exact hP, va_K.moved hW.alike hK, hD⟩, hS.F ht⟩) hS.2.2 hdg hlocks
end MYH
theorem my_in01 : vp_in (0 : Int32) 1 := by
  show ¬ ((0 : Int32) < 0 ∨ 1 ≤ (0 : Int32).toNatClampNeg)
  decide
set_option maxHeartbeats 4000000 in
set_option maxRecDepth 100000 in
theorem h_put (l : Launch) (D : va_G) (h : Nat → Nat) (o : Nat) (cA : Nat → ClassId) (u : St) (f : Nat → Int64) (a1 : Int32) (a2 : Int32) (F : Int32 × St) (hq : f_S_put a1 a2 u = some F) : MH l ny_L_put (.codeWith ny_L_put nc_L_put 5 (some .int) [(0, 10, 13, 13)] :: GU) D h o cA ([.ref (h 0), .int a1, .int a2, .ref o] : List Value) u f 0 F.2 (vp_updL f 0 F.1.toInt64) := by
  refine my_inH (gw := GU) (cc := nc_L_put) (maxL := 5) (ret := (some .int)) (by decide) rfl (Nat.le_of_ble_eq_true rfl) ?_
  intro p e s m below meth c A ls x hx hb hml hr hts hown hlocks htab hxe hK hN hZ hA hP hD hS hl
  have hown : s.vm.findClass nR_L = some m.cls := hown
  have hl : lv_has ls 5 [(0, .ref (h 0)), (1, .int a1), (2, .int a2), (3, .ref o)] := hl
  have htg : ∀ w ∈ GW, w.before _ s = true := fun w h9 => hts w (gu_W h9)
  have hKi : va_K D vwCl (tyI cA) s := hK.sub [0, 1] rfl
  refine lv_aload_n hx hb nd_L_put_0 rfl (lv_at hl 3 rfl) ?_
  refine lv_iconst (v := (0 : Int32)) hx hb nd_L_put_1 (by decide) ?_
  refine lv_aload_n hx hb nd_L_put_2 rfl (lv_at hl 0 rfl) ?_
  refine lv_iload_n hx hb nd_L_put_3 rfl (lv_at hl 1 rfl) ?_
  refine lv_iload_n hx hb nd_L_put_4 rfl (lv_at hl 2 rfl) ?_
  refine my_cj (wd := wSC h cA) (u' := F.2) (r := F.1) (Y := wO o (cA 2) f) (va_runV (As := [.int a1, .int a2]) (rest := [.int 0, .ref o]) ⟨hx, hb, hml, hown, htg⟩ (c_S_put l D h cA u a1 a2 F hq _) ⟨callB_of 2 htg (gw_in gw_368) rfl rfl rfl (htg _ gw_1) (htg _ gw_365) nh_S_put ⟨Nat.le_of_ble_eq_true rfl, Nat.le_of_ble_eq_true rfl⟩, (htg _ gw_366), (htg _ gw_367)⟩ (my_preV nwOk (my_Pl hP) hKi (my_Dl hD) hN (va_recv hKi (my_Pl hP) (ci := 0) (q0 := 0) rfl rfl)) rfl rfl hl.1 rfl (lv_room (Nat.le_of_ble_eq_true rfl)) nd_L_put_5 ⟨Nat.le_of_ble_eq_true rfl, Nat.le_of_ble_eq_true rfl⟩) hP hD hS hA (fun H locs hP hD hS => ?_)
  refine lv_i2l (v := F.1.toInt64) hx hb nd_L_put_8 rfl ?_
  refine va_last hx hb hK hP hD hS 7 2 rfl rfl my_in01 nd_L_put_9 (fun H locs hP hD hS => ?_)
  have hP : va_P D vwCl (wH h o cA F.2 (vp_updL f 0 F.1.toInt64)) H := hP
  have hD : va_D A (wH h o cA F.2 (vp_updL f 0 F.1.toInt64)) := hD
  refine lv_goto (tgt := 17) hx hb nd_L_put_10 (by decide) ?_
  refine lv_iconst (v := (0 : Int32)) hx hb nd_L_put_17 (by decide) ?_
  refine W.widen (k := 1) (n := 6) (Nat.zero_le _) (Nat.zero_le _) ?_
  exact my_rh hx hb hr hlocks hK hP hD hS nd_L_put_18
set_option maxHeartbeats 4000000 in
set_option maxRecDepth 100000 in
theorem hx_put (l : Launch) (hst : l.stackTraces = false) (D : va_G) (h : Nat → Nat) (o : Nat) (cA : Nat → ClassId) (u : St) (f : Nat → Int64) (a1 : Int32) (a2 : Int32) (hq : f_S_put a1 a2 u = none) : MH l ny_L_put (.codeWith ny_L_put nc_L_put 5 (some .int) [(0, 10, 13, 13)] :: GU) D h o cA ([.ref (h 0), .int a1, .int a2, .ref o] : List Value) u f 1 u f := by
  refine my_inH (gw := GU) (cc := nc_L_put) (maxL := 5) (ret := (some .int)) (by decide) rfl (Nat.le_of_ble_eq_true rfl) ?_
  intro p e s m below meth c A ls x hx hb hml hr hts hown hlocks htab hxe hK hN hZ hA hP hD hS hl
  have hown : s.vm.findClass nR_L = some m.cls := hown
  have hl : lv_has ls 5 [(0, .ref (h 0)), (1, .int a1), (2, .int a2), (3, .ref o)] := hl
  have htg : ∀ w ∈ GW, w.before _ s = true := fun w h9 => hts w (gu_W h9)
  have hKi : va_K D vwCl (tyI cA) s := hK.sub [0, 1] rfl
  refine lv_aload_n hx hb nd_L_put_0 rfl (lv_at hl 3 rfl) ?_
  refine lv_iconst (v := (0 : Int32)) hx hb nd_L_put_1 (by decide) ?_
  refine lv_aload_n hx hb nd_L_put_2 rfl (lv_at hl 0 rfl) ?_
  refine lv_iload_n hx hb nd_L_put_3 rfl (lv_at hl 1 rfl) ?_
  refine lv_iload_n hx hb nd_L_put_4 rfl (lv_at hl 2 rfl) ?_
  obtain ⟨e1, e2, e3, e4⟩ := hxe
  refine my_callX (own := nR_L) (C := nR_S) (E := nR_N) (b := h 0) (As := [.int a1, .int a2]) (rest := [.int 0, .ref o]) (bytes := nc_S_put) (maxL := 4) (ret := some .int) (x := x) hx hb (hl.1.trans hml.symm) hown (x_S_put l hst (h 0) a1 a2 (xn_put hq)) (fun w h9 => (List.mem_cons.mp h9).elim (fun z => z ▸ htg _ gw_368) (fun z => hts w (gu_V z))) (by rw [List.all_cons, gv_ok]; decide) List.mem_cons_self (htg _ gw_365) (htg _ gw_366) (htg _ gw_367) (List.mem_cons_of_mem _ (List.mem_append_left _ gw_1)) ⟨nh_S_put.1, nh_S_put.2.1⟩ nh_S_put.2.2 (Nat.le_of_ble_eq_true rfl) (Nat.le_of_ble_eq_true rfl) rfl rfl (Nat.le_of_ble_eq_true rfl) (Nat.le_of_ble_eq_true rfl) (va_recv hKi (my_Pl hP) (ci := 0) (q0 := 0) rfl rfl) hZ rfl (Nat.le_of_ble_eq_true rfl) nd_L_put_5 htab ?_ ?_ ?_ (hts _ (gu_V gc_N)) ?_
  · unfold covers; rw [e1, e2]; rfl
  · rw [e4]; decide
  · rw [e4]; exact hts _ List.mem_cons_self
  intro H1 q k1 k2
  rw [e3]
  have hP1 : va_P D vwCl (wH h o cA u f) H1 := hP.kept (fun k z hz => k2 z.1 (va_at.lt (hP k z hz)))
  have hS1 : va_S A s.heap H1 [] := ⟨k1, fun z hz _ => k2 z hz, fun _ h9 => nomatch h9⟩
  refine lv_astore (lv' := [(4, .ref q), (0, .ref (h 0)), (1, .int a1), (2, .int a2), (3, .ref o)]) hx hb nd_L_put_13 hl (by decide) rfl (fun ls hl => ?_)
  refine lv_iconst (v := (1 : Int32)) hx hb nd_L_put_15 (by decide) ?_
  exact my_rh hx hb hr hlocks hK hP1 hD hS1 nd_L_put_16
set_option maxHeartbeats 4000000 in
set_option maxRecDepth 100000 in
theorem h_word (l : Launch) (D : va_G) (h : Nat → Nat) (o : Nat) (cA : Nat → ClassId) (u : St) (f : Nat → Int64) (a1 : Int32) (F : Int32) (hq : f_S_word a1 u = some F) : MH l ny_L_word (.codeWith ny_L_word nc_L_word 4 (some .int) [(0, 9, 12, 13)] :: GU) D h o cA ([.ref (h 0), .int a1, .ref o] : List Value) u f 0 u (vp_updL f 0 F.toInt64) := by
  refine my_inH (gw := GU) (cc := nc_L_word) (maxL := 4) (ret := (some .int)) (by decide) rfl (Nat.le_of_ble_eq_true rfl) ?_
  intro p e s m below meth c A ls x hx hb hml hr hts hown hlocks htab hxe hK hN hZ hA hP hD hS hl
  have hown : s.vm.findClass nR_L = some m.cls := hown
  have hl : lv_has ls 4 [(0, .ref (h 0)), (1, .int a1), (2, .ref o)] := hl
  have htg : ∀ w ∈ GW, w.before _ s = true := fun w h9 => hts w (gu_W h9)
  have hKi : va_K D vwCl (tyI cA) s := hK.sub [0, 1] rfl
  refine lv_aload_n hx hb nd_L_word_0 rfl (lv_at hl 2 rfl) ?_
  refine lv_iconst (v := (0 : Int32)) hx hb nd_L_word_1 (by decide) ?_
  refine lv_aload_n hx hb nd_L_word_2 rfl (lv_at hl 0 rfl) ?_
  refine lv_iload_n hx hb nd_L_word_3 rfl (lv_at hl 1 rfl) ?_
  refine my_cj (wd := wSC h cA) (u' := u) (r := F) (Y := wO o (cA 2) f) (va_runV (As := [.int a1]) (rest := [.int 0, .ref o]) ⟨hx, hb, hml, hown, htg⟩ (c_S_word l D h cA u a1 F hq _) ⟨callB_of 1 htg (gw_in gw_377) rfl rfl rfl (htg _ gw_1) (htg _ gw_374) nh_S_word ⟨Nat.le_of_ble_eq_true rfl, Nat.le_of_ble_eq_true rfl⟩, (htg _ gw_375), (htg _ gw_376)⟩ (my_preV nwOk (my_Pl hP) hKi (my_Dl hD) hN (va_recv hKi (my_Pl hP) (ci := 0) (q0 := 0) rfl rfl)) rfl rfl hl.1 rfl (lv_room (Nat.le_of_ble_eq_true rfl)) nd_L_word_4 ⟨Nat.le_of_ble_eq_true rfl, Nat.le_of_ble_eq_true rfl⟩) hP hD hS hA (fun H locs hP hD hS => ?_)
  refine lv_i2l (v := F.toInt64) hx hb nd_L_word_7 rfl ?_
  refine va_last hx hb hK hP hD hS 7 2 rfl rfl my_in01 nd_L_word_8 (fun H locs hP hD hS => ?_)
  have hP : va_P D vwCl (wH h o cA u (vp_updL f 0 F.toInt64)) H := hP
  have hD : va_D A (wH h o cA u (vp_updL f 0 F.toInt64)) := hD
  refine lv_goto (tgt := 15) hx hb nd_L_word_9 (by decide) ?_
  refine lv_iconst (v := (0 : Int32)) hx hb nd_L_word_15 (by decide) ?_
  refine W.widen (k := 1) (n := 6) (Nat.zero_le _) (Nat.zero_le _) ?_
  exact my_rh hx hb hr hlocks hK hP hD hS nd_L_word_16
set_option maxHeartbeats 4000000 in
set_option maxRecDepth 100000 in
theorem hx_word (l : Launch) (hst : l.stackTraces = false) (D : va_G) (h : Nat → Nat) (o : Nat) (cA : Nat → ClassId) (u : St) (f : Nat → Int64) (a1 : Int32) (hq : f_S_word a1 u = none) : MH l ny_L_word (.codeWith ny_L_word nc_L_word 4 (some .int) [(0, 9, 12, 13)] :: GU) D h o cA ([.ref (h 0), .int a1, .ref o] : List Value) u f 1 u f := by
  refine my_inH (gw := GU) (cc := nc_L_word) (maxL := 4) (ret := (some .int)) (by decide) rfl (Nat.le_of_ble_eq_true rfl) ?_
  intro p e s m below meth c A ls x hx hb hml hr hts hown hlocks htab hxe hK hN hZ hA hP hD hS hl
  have hown : s.vm.findClass nR_L = some m.cls := hown
  have hl : lv_has ls 4 [(0, .ref (h 0)), (1, .int a1), (2, .ref o)] := hl
  have htg : ∀ w ∈ GW, w.before _ s = true := fun w h9 => hts w (gu_W h9)
  have hKi : va_K D vwCl (tyI cA) s := hK.sub [0, 1] rfl
  refine lv_aload_n hx hb nd_L_word_0 rfl (lv_at hl 2 rfl) ?_
  refine lv_iconst (v := (0 : Int32)) hx hb nd_L_word_1 (by decide) ?_
  refine lv_aload_n hx hb nd_L_word_2 rfl (lv_at hl 0 rfl) ?_
  refine lv_iload_n hx hb nd_L_word_3 rfl (lv_at hl 1 rfl) ?_
  obtain ⟨e1, e2, e3, e4⟩ := hxe
  refine my_callX (own := nR_L) (C := nR_S) (E := nR_N) (b := h 0) (As := [.int a1]) (rest := [.int 0, .ref o]) (bytes := nc_S_word) (maxL := 2) (ret := some .int) (x := x) hx hb (hl.1.trans hml.symm) hown (x_S_word l hst (h 0) a1 (xn_word hq)) (fun w h9 => (List.mem_cons.mp h9).elim (fun z => z ▸ htg _ gw_377) (fun z => hts w (gu_V z))) (by rw [List.all_cons, gv_ok]; decide) List.mem_cons_self (htg _ gw_374) (htg _ gw_375) (htg _ gw_376) (List.mem_cons_of_mem _ (List.mem_append_left _ gw_1)) ⟨nh_S_word.1, nh_S_word.2.1⟩ nh_S_word.2.2 (Nat.le_of_ble_eq_true rfl) (Nat.le_of_ble_eq_true rfl) rfl rfl (Nat.le_of_ble_eq_true rfl) (Nat.le_of_ble_eq_true rfl) (va_recv hKi (my_Pl hP) (ci := 0) (q0 := 0) rfl rfl) hZ rfl (Nat.le_of_ble_eq_true rfl) nd_L_word_4 htab ?_ ?_ ?_ (hts _ (gu_V gc_N)) ?_
  · unfold covers; rw [e1, e2]; rfl
  · rw [e4]; decide
  · rw [e4]; exact hts _ List.mem_cons_self
  intro H1 q k1 k2
  rw [e3]
  have hP1 : va_P D vwCl (wH h o cA u f) H1 := hP.kept (fun k z hz => k2 z.1 (va_at.lt (hP k z hz)))
  have hS1 : va_S A s.heap H1 [] := ⟨k1, fun z hz _ => k2 z hz, fun _ h9 => nomatch h9⟩
  refine lv_astore_n (lv' := [(3, .ref q), (0, .ref (h 0)), (1, .int a1), (2, .ref o)]) hx hb nd_L_word_12 rfl hl (by decide) rfl (fun ls hl => ?_)
  refine lv_iconst (v := (1 : Int32)) hx hb nd_L_word_13 (by decide) ?_
  exact my_rh hx hb hr hlocks hK hP1 hD hS1 nd_L_word_14
set_option maxHeartbeats 4000000 in
set_option maxRecDepth 100000 in
theorem h_set (l : Launch) (D : va_G) (h : Nat → Nat) (o : Nat) (cA : Nat → ClassId) (u : St) (f : Nat → Int64) (a1 : Int32) (a2 : Int32) (F : Int32 × St) (hq : f_S_set a1 a2 u = some F) : MH l ny_L_set (.codeWith ny_L_set nc_L_set 5 (some .int) [(0, 10, 13, 13)] :: GU) D h o cA ([.ref (h 0), .int a1, .int a2, .ref o] : List Value) u f 0 F.2 (vp_updL f 0 F.1.toInt64) := by
  refine my_inH (gw := GU) (cc := nc_L_set) (maxL := 5) (ret := (some .int)) (by decide) rfl (Nat.le_of_ble_eq_true rfl) ?_
  intro p e s m below meth c A ls x hx hb hml hr hts hown hlocks htab hxe hK hN hZ hA hP hD hS hl
  have hown : s.vm.findClass nR_L = some m.cls := hown
  have hl : lv_has ls 5 [(0, .ref (h 0)), (1, .int a1), (2, .int a2), (3, .ref o)] := hl
  have htg : ∀ w ∈ GW, w.before _ s = true := fun w h9 => hts w (gu_W h9)
  have hKi : va_K D vwCl (tyI cA) s := hK.sub [0, 1] rfl
  refine lv_aload_n hx hb nd_L_set_0 rfl (lv_at hl 3 rfl) ?_
  refine lv_iconst (v := (0 : Int32)) hx hb nd_L_set_1 (by decide) ?_
  refine lv_aload_n hx hb nd_L_set_2 rfl (lv_at hl 0 rfl) ?_
  refine lv_iload_n hx hb nd_L_set_3 rfl (lv_at hl 1 rfl) ?_
  refine lv_iload_n hx hb nd_L_set_4 rfl (lv_at hl 2 rfl) ?_
  refine my_cj (wd := wSC h cA) (u' := F.2) (r := F.1) (Y := wO o (cA 2) f) (va_runV (As := [.int a1, .int a2]) (rest := [.int 0, .ref o]) ⟨hx, hb, hml, hown, htg⟩ (c_S_set l D h cA u a1 a2 F hq _) ⟨callB_of 2 htg (gw_in gw_383) rfl rfl rfl (htg _ gw_1) (htg _ gw_380) nh_S_set ⟨Nat.le_of_ble_eq_true rfl, Nat.le_of_ble_eq_true rfl⟩, (htg _ gw_381), (htg _ gw_382)⟩ (my_preV nwOk (my_Pl hP) hKi (my_Dl hD) hN (va_recv hKi (my_Pl hP) (ci := 0) (q0 := 0) rfl rfl)) rfl rfl hl.1 rfl (lv_room (Nat.le_of_ble_eq_true rfl)) nd_L_set_5 ⟨Nat.le_of_ble_eq_true rfl, Nat.le_of_ble_eq_true rfl⟩) hP hD hS hA (fun H locs hP hD hS => ?_)
  refine lv_i2l (v := F.1.toInt64) hx hb nd_L_set_8 rfl ?_
  refine va_last hx hb hK hP hD hS 7 2 rfl rfl my_in01 nd_L_set_9 (fun H locs hP hD hS => ?_)
  have hP : va_P D vwCl (wH h o cA F.2 (vp_updL f 0 F.1.toInt64)) H := hP
  have hD : va_D A (wH h o cA F.2 (vp_updL f 0 F.1.toInt64)) := hD
  refine lv_goto (tgt := 17) hx hb nd_L_set_10 (by decide) ?_
  refine lv_iconst (v := (0 : Int32)) hx hb nd_L_set_17 (by decide) ?_
  refine W.widen (k := 1) (n := 6) (Nat.zero_le _) (Nat.zero_le _) ?_
  exact my_rh hx hb hr hlocks hK hP hD hS nd_L_set_18
set_option maxHeartbeats 4000000 in
set_option maxRecDepth 100000 in
theorem hx_set (l : Launch) (hst : l.stackTraces = false) (D : va_G) (h : Nat → Nat) (o : Nat) (cA : Nat → ClassId) (u : St) (f : Nat → Int64) (a1 : Int32) (a2 : Int32) (hq : f_S_set a1 a2 u = none) : MH l ny_L_set (.codeWith ny_L_set nc_L_set 5 (some .int) [(0, 10, 13, 13)] :: GU) D h o cA ([.ref (h 0), .int a1, .int a2, .ref o] : List Value) u f 1 u f := by
  refine my_inH (gw := GU) (cc := nc_L_set) (maxL := 5) (ret := (some .int)) (by decide) rfl (Nat.le_of_ble_eq_true rfl) ?_
  intro p e s m below meth c A ls x hx hb hml hr hts hown hlocks htab hxe hK hN hZ hA hP hD hS hl
  have hown : s.vm.findClass nR_L = some m.cls := hown
  have hl : lv_has ls 5 [(0, .ref (h 0)), (1, .int a1), (2, .int a2), (3, .ref o)] := hl
  have htg : ∀ w ∈ GW, w.before _ s = true := fun w h9 => hts w (gu_W h9)
  have hKi : va_K D vwCl (tyI cA) s := hK.sub [0, 1] rfl
  refine lv_aload_n hx hb nd_L_set_0 rfl (lv_at hl 3 rfl) ?_
  refine lv_iconst (v := (0 : Int32)) hx hb nd_L_set_1 (by decide) ?_
  refine lv_aload_n hx hb nd_L_set_2 rfl (lv_at hl 0 rfl) ?_
  refine lv_iload_n hx hb nd_L_set_3 rfl (lv_at hl 1 rfl) ?_
  refine lv_iload_n hx hb nd_L_set_4 rfl (lv_at hl 2 rfl) ?_
  obtain ⟨e1, e2, e3, e4⟩ := hxe
  refine my_callX (own := nR_L) (C := nR_S) (E := nR_N) (b := h 0) (As := [.int a1, .int a2]) (rest := [.int 0, .ref o]) (bytes := nc_S_set) (maxL := 4) (ret := some .int) (x := x) hx hb (hl.1.trans hml.symm) hown (x_S_set l hst (h 0) a1 a2 (xn_set hq)) (fun w h9 => (List.mem_cons.mp h9).elim (fun z => z ▸ htg _ gw_383) (fun z => hts w (gu_V z))) (by rw [List.all_cons, gv_ok]; decide) List.mem_cons_self (htg _ gw_380) (htg _ gw_381) (htg _ gw_382) (List.mem_cons_of_mem _ (List.mem_append_left _ gw_1)) ⟨nh_S_set.1, nh_S_set.2.1⟩ nh_S_set.2.2 (Nat.le_of_ble_eq_true rfl) (Nat.le_of_ble_eq_true rfl) rfl rfl (Nat.le_of_ble_eq_true rfl) (Nat.le_of_ble_eq_true rfl) (va_recv hKi (my_Pl hP) (ci := 0) (q0 := 0) rfl rfl) hZ rfl (Nat.le_of_ble_eq_true rfl) nd_L_set_5 htab ?_ ?_ ?_ (hts _ (gu_V gc_N)) ?_
  · unfold covers; rw [e1, e2]; rfl
  · rw [e4]; decide
  · rw [e4]; exact hts _ List.mem_cons_self
  intro H1 q k1 k2
  rw [e3]
  have hP1 : va_P D vwCl (wH h o cA u f) H1 := hP.kept (fun k z hz => k2 z.1 (va_at.lt (hP k z hz)))
  have hS1 : va_S A s.heap H1 [] := ⟨k1, fun z hz _ => k2 z hz, fun _ h9 => nomatch h9⟩
  refine lv_astore (lv' := [(4, .ref q), (0, .ref (h 0)), (1, .int a1), (2, .int a2), (3, .ref o)]) hx hb nd_L_set_13 hl (by decide) rfl (fun ls hl => ?_)
  refine lv_iconst (v := (1 : Int32)) hx hb nd_L_set_15 (by decide) ?_
  exact my_rh hx hb hr hlocks hK hP1 hD hS1 nd_L_set_16
set_option maxHeartbeats 4000000 in
set_option maxRecDepth 100000 in
theorem h_register (l : Launch) (D : va_G) (h : Nat → Nat) (o : Nat) (cA : Nat → ClassId) (u : St) (f : Nat → Int64) (a1 : Int32) (F : Int32) (hq : f_S_register a1 u = some F) : MH l ny_L_register (.codeWith ny_L_register nc_L_register 4 (some .int) [(0, 9, 12, 13)] :: GU) D h o cA ([.ref (h 0), .int a1, .ref o] : List Value) u f 0 u (vp_updL f 0 F.toInt64) := by
  refine my_inH (gw := GU) (cc := nc_L_register) (maxL := 4) (ret := (some .int)) (by decide) rfl (Nat.le_of_ble_eq_true rfl) ?_
  intro p e s m below meth c A ls x hx hb hml hr hts hown hlocks htab hxe hK hN hZ hA hP hD hS hl
  have hown : s.vm.findClass nR_L = some m.cls := hown
  have hl : lv_has ls 4 [(0, .ref (h 0)), (1, .int a1), (2, .ref o)] := hl
  have htg : ∀ w ∈ GW, w.before _ s = true := fun w h9 => hts w (gu_W h9)
  have hKi : va_K D vwCl (tyI cA) s := hK.sub [0, 1] rfl
  refine lv_aload_n hx hb nd_L_register_0 rfl (lv_at hl 2 rfl) ?_
  refine lv_iconst (v := (0 : Int32)) hx hb nd_L_register_1 (by decide) ?_
  refine lv_aload_n hx hb nd_L_register_2 rfl (lv_at hl 0 rfl) ?_
  refine lv_iload_n hx hb nd_L_register_3 rfl (lv_at hl 1 rfl) ?_
  refine my_cj (wd := wSC h cA) (u' := u) (r := F) (Y := wO o (cA 2) f) (va_runV (As := [.int a1]) (rest := [.int 0, .ref o]) ⟨hx, hb, hml, hown, htg⟩ (c_S_register l D h cA u a1 F hq _) ⟨callB_of 1 htg (gw_in gw_389) rfl rfl rfl (htg _ gw_1) (htg _ gw_386) nh_S_register ⟨Nat.le_of_ble_eq_true rfl, Nat.le_of_ble_eq_true rfl⟩, (htg _ gw_387), (htg _ gw_388)⟩ (my_preV nwOk (my_Pl hP) hKi (my_Dl hD) hN (va_recv hKi (my_Pl hP) (ci := 0) (q0 := 0) rfl rfl)) rfl rfl hl.1 rfl (lv_room (Nat.le_of_ble_eq_true rfl)) nd_L_register_4 ⟨Nat.le_of_ble_eq_true rfl, Nat.le_of_ble_eq_true rfl⟩) hP hD hS hA (fun H locs hP hD hS => ?_)
  refine lv_i2l (v := F.toInt64) hx hb nd_L_register_7 rfl ?_
  refine va_last hx hb hK hP hD hS 7 2 rfl rfl my_in01 nd_L_register_8 (fun H locs hP hD hS => ?_)
  have hP : va_P D vwCl (wH h o cA u (vp_updL f 0 F.toInt64)) H := hP
  have hD : va_D A (wH h o cA u (vp_updL f 0 F.toInt64)) := hD
  refine lv_goto (tgt := 15) hx hb nd_L_register_9 (by decide) ?_
  refine lv_iconst (v := (0 : Int32)) hx hb nd_L_register_15 (by decide) ?_
  refine W.widen (k := 1) (n := 6) (Nat.zero_le _) (Nat.zero_le _) ?_
  exact my_rh hx hb hr hlocks hK hP hD hS nd_L_register_16
set_option maxHeartbeats 4000000 in
set_option maxRecDepth 100000 in
theorem hx_register (l : Launch) (hst : l.stackTraces = false) (D : va_G) (h : Nat → Nat) (o : Nat) (cA : Nat → ClassId) (u : St) (f : Nat → Int64) (a1 : Int32) (hq : f_S_register a1 u = none) : MH l ny_L_register (.codeWith ny_L_register nc_L_register 4 (some .int) [(0, 9, 12, 13)] :: GU) D h o cA ([.ref (h 0), .int a1, .ref o] : List Value) u f 1 u f := by
  refine my_inH (gw := GU) (cc := nc_L_register) (maxL := 4) (ret := (some .int)) (by decide) rfl (Nat.le_of_ble_eq_true rfl) ?_
  intro p e s m below meth c A ls x hx hb hml hr hts hown hlocks htab hxe hK hN hZ hA hP hD hS hl
  have hown : s.vm.findClass nR_L = some m.cls := hown
  have hl : lv_has ls 4 [(0, .ref (h 0)), (1, .int a1), (2, .ref o)] := hl
  have htg : ∀ w ∈ GW, w.before _ s = true := fun w h9 => hts w (gu_W h9)
  have hKi : va_K D vwCl (tyI cA) s := hK.sub [0, 1] rfl
  refine lv_aload_n hx hb nd_L_register_0 rfl (lv_at hl 2 rfl) ?_
  refine lv_iconst (v := (0 : Int32)) hx hb nd_L_register_1 (by decide) ?_
  refine lv_aload_n hx hb nd_L_register_2 rfl (lv_at hl 0 rfl) ?_
  refine lv_iload_n hx hb nd_L_register_3 rfl (lv_at hl 1 rfl) ?_
  obtain ⟨e1, e2, e3, e4⟩ := hxe
  refine my_callX (own := nR_L) (C := nR_S) (E := nR_N) (b := h 0) (As := [.int a1]) (rest := [.int 0, .ref o]) (bytes := nc_S_register) (maxL := 2) (ret := some .int) (x := x) hx hb (hl.1.trans hml.symm) hown (x_S_register l hst (h 0) a1 (xn_register hq)) (fun w h9 => (List.mem_cons.mp h9).elim (fun z => z ▸ htg _ gw_389) (fun z => hts w (gu_V z))) (by rw [List.all_cons, gv_ok]; decide) List.mem_cons_self (htg _ gw_386) (htg _ gw_387) (htg _ gw_388) (List.mem_cons_of_mem _ (List.mem_append_left _ gw_1)) ⟨nh_S_register.1, nh_S_register.2.1⟩ nh_S_register.2.2 (Nat.le_of_ble_eq_true rfl) (Nat.le_of_ble_eq_true rfl) rfl rfl (Nat.le_of_ble_eq_true rfl) (Nat.le_of_ble_eq_true rfl) (va_recv hKi (my_Pl hP) (ci := 0) (q0 := 0) rfl rfl) hZ rfl (Nat.le_of_ble_eq_true rfl) nd_L_register_4 htab ?_ ?_ ?_ (hts _ (gu_V gc_N)) ?_
  · unfold covers; rw [e1, e2]; rfl
  · rw [e4]; decide
  · rw [e4]; exact hts _ List.mem_cons_self
  intro H1 q k1 k2
  rw [e3]
  have hP1 : va_P D vwCl (wH h o cA u f) H1 := hP.kept (fun k z hz => k2 z.1 (va_at.lt (hP k z hz)))
  have hS1 : va_S A s.heap H1 [] := ⟨k1, fun z hz _ => k2 z hz, fun _ h9 => nomatch h9⟩
  refine lv_astore_n (lv' := [(3, .ref q), (0, .ref (h 0)), (1, .int a1), (2, .ref o)]) hx hb nd_L_register_12 rfl hl (by decide) rfl (fun ls hl => ?_)
  refine lv_iconst (v := (1 : Int32)) hx hb nd_L_register_13 (by decide) ?_
  exact my_rh hx hb hr hlocks hK hP1 hD hS1 nd_L_register_14
set_option maxHeartbeats 4000000 in
set_option maxRecDepth 100000 in
theorem h_lines (l : Launch) (D : va_G) (h : Nat → Nat) (o : Nat) (cA : Nat → ClassId) (u : St) (f : Nat → Int64) (a1 : Int32) (F : Int32 × St) (hq : f_S_lines a1 u = some F) : MH l ny_L_lines (.codeWith ny_L_lines nc_L_lines 4 (some .int) [(0, 9, 12, 28)] :: GU) D h o cA ([.ref (h 0), .int a1, .ref o] : List Value) u f 0 F.2 (vp_updL f 0 F.1.toInt64) := by
  refine my_inH (gw := GU) (cc := nc_L_lines) (maxL := 4) (ret := (some .int)) (by decide) rfl (Nat.le_of_ble_eq_true rfl) ?_
  intro p e s m below meth c A ls x hx hb hml hr hts hown hlocks htab hxe hK hN hZ hA hP hD hS hl
  have hown : s.vm.findClass nR_L = some m.cls := hown
  have hl : lv_has ls 4 [(0, .ref (h 0)), (1, .int a1), (2, .ref o)] := hl
  have htg : ∀ w ∈ GW, w.before _ s = true := fun w h9 => hts w (gu_W h9)
  have hKi : va_K D vwCl (tyI cA) s := hK.sub [0, 1] rfl
  refine lv_aload_n hx hb nd_L_lines_0 rfl (lv_at hl 2 rfl) ?_
  refine lv_iconst (v := (0 : Int32)) hx hb nd_L_lines_1 (by decide) ?_
  refine lv_aload_n hx hb nd_L_lines_2 rfl (lv_at hl 0 rfl) ?_
  refine lv_iload_n hx hb nd_L_lines_3 rfl (lv_at hl 1 rfl) ?_
  refine my_cj (wd := wSC h cA) (u' := F.2) (r := F.1) (Y := wO o (cA 2) f) (va_runV (As := [.int a1]) (rest := [.int 0, .ref o]) ⟨hx, hb, hml, hown, htg⟩ (c_S_lines l D h cA u a1 F hq _) ⟨callB_of 1 htg (gw_in gw_395) rfl rfl rfl (htg _ gw_1) (htg _ gw_392) nh_S_lines ⟨Nat.le_of_ble_eq_true rfl, Nat.le_of_ble_eq_true rfl⟩, (htg _ gw_393), (htg _ gw_394)⟩ (my_preV nwOk (my_Pl hP) hKi (my_Dl hD) hN (va_recv hKi (my_Pl hP) (ci := 0) (q0 := 0) rfl rfl)) rfl rfl hl.1 rfl (lv_room (Nat.le_of_ble_eq_true rfl)) nd_L_lines_4 ⟨Nat.le_of_ble_eq_true rfl, Nat.le_of_ble_eq_true rfl⟩) hP hD hS hA (fun H locs hP hD hS => ?_)
  refine lv_i2l (v := F.1.toInt64) hx hb nd_L_lines_7 rfl ?_
  refine va_last hx hb hK hP hD hS 7 2 rfl rfl my_in01 nd_L_lines_8 (fun H locs hP hD hS => ?_)
  have hP : va_P D vwCl (wH h o cA F.2 (vp_updL f 0 F.1.toInt64)) H := hP
  have hD : va_D A (wH h o cA F.2 (vp_updL f 0 F.1.toInt64)) := hD
  refine lv_goto (tgt := 15) hx hb nd_L_lines_9 (by decide) ?_
  refine lv_iconst (v := (0 : Int32)) hx hb nd_L_lines_15 (by decide) ?_
  refine W.widen (k := 1) (n := 6) (Nat.zero_le _) (Nat.zero_le _) ?_
  exact my_rh hx hb hr hlocks hK hP hD hS nd_L_lines_16
set_option maxHeartbeats 4000000 in
set_option maxRecDepth 100000 in
theorem hx_lines (l : Launch) (hst : l.stackTraces = false) (D : va_G) (h : Nat → Nat) (o : Nat) (cA : Nat → ClassId) (u : St) (f : Nat → Int64) (a1 : Int32) (hq : f_S_lines a1 u = none) : MH l ny_L_lines (.codeWith ny_L_lines nc_L_lines 4 (some .int) [(0, 9, 12, 28)] :: GU) D h o cA ([.ref (h 0), .int a1, .ref o] : List Value) u f 1 u f := by
  refine my_inH (gw := GU) (cc := nc_L_lines) (maxL := 4) (ret := (some .int)) (by decide) rfl (Nat.le_of_ble_eq_true rfl) ?_
  intro p e s m below meth c A ls x hx hb hml hr hts hown hlocks htab hxe hK hN hZ hA hP hD hS hl
  have hown : s.vm.findClass nR_L = some m.cls := hown
  have hl : lv_has ls 4 [(0, .ref (h 0)), (1, .int a1), (2, .ref o)] := hl
  have htg : ∀ w ∈ GW, w.before _ s = true := fun w h9 => hts w (gu_W h9)
  have hKi : va_K D vwCl (tyI cA) s := hK.sub [0, 1] rfl
  refine lv_aload_n hx hb nd_L_lines_0 rfl (lv_at hl 2 rfl) ?_
  refine lv_iconst (v := (0 : Int32)) hx hb nd_L_lines_1 (by decide) ?_
  refine lv_aload_n hx hb nd_L_lines_2 rfl (lv_at hl 0 rfl) ?_
  refine lv_iload_n hx hb nd_L_lines_3 rfl (lv_at hl 1 rfl) ?_
  obtain ⟨e1, e2, e3, e4⟩ := hxe
  refine my_callX (own := nR_L) (C := nR_S) (E := nR_I) (b := h 0) (As := [.int a1]) (rest := [.int 0, .ref o]) (bytes := nc_S_lines) (maxL := 3) (ret := some .int) (x := x) hx hb (hl.1.trans hml.symm) hown (x_S_lines l hst (h 0) a1 (xn_lines hq)) (fun w h9 => (List.mem_cons.mp h9).elim (fun z => z ▸ htg _ gw_395) (fun z => hts w (gu_V z))) (by rw [List.all_cons, gv_ok]; decide) List.mem_cons_self (htg _ gw_392) (htg _ gw_393) (htg _ gw_394) (List.mem_cons_of_mem _ (List.mem_append_left _ gw_1)) ⟨nh_S_lines.1, nh_S_lines.2.1⟩ nh_S_lines.2.2 (Nat.le_of_ble_eq_true rfl) (Nat.le_of_ble_eq_true rfl) rfl rfl (Nat.le_of_ble_eq_true rfl) (Nat.le_of_ble_eq_true rfl) (va_recv hKi (my_Pl hP) (ci := 0) (q0 := 0) rfl rfl) hZ rfl (Nat.le_of_ble_eq_true rfl) nd_L_lines_4 htab ?_ ?_ ?_ (hts _ (gu_V gc_I)) ?_
  · unfold covers; rw [e1, e2]; rfl
  · rw [e4]; decide
  · rw [e4]; exact hts _ (List.mem_cons_of_mem _ List.mem_cons_self)
  intro H1 q k1 k2
  rw [e3]
  have hP1 : va_P D vwCl (wH h o cA u f) H1 := hP.kept (fun k z hz => k2 z.1 (va_at.lt (hP k z hz)))
  have hS1 : va_S A s.heap H1 [] := ⟨k1, fun z hz _ => k2 z hz, fun _ h9 => nomatch h9⟩
  refine lv_astore_n (lv' := [(3, .ref q), (0, .ref (h 0)), (1, .int a1), (2, .ref o)]) hx hb nd_L_lines_12 rfl hl (by decide) rfl (fun ls hl => ?_)
  refine lv_iconst (v := (1 : Int32)) hx hb nd_L_lines_13 (by decide) ?_
  exact my_rh hx hb hr hlocks hK hP1 hD hS1 nd_L_lines_14
set_option maxHeartbeats 4000000 in
set_option maxRecDepth 100000 in
theorem h_run (l : Launch) (D : va_G) (h : Nat → Nat) (o : Nat) (cA : Nat → ClassId) (u : St) (f : Nat → Int64) (a1 : Int32) (F : Int32 × St) (hq : f_S_run a1 u = some (some F)) : MH l ny_L_run (.codeWith ny_L_run nc_L_run 4 (some .int) [(0, 9, 12, 28)] :: GU) D h o cA ([.ref (h 0), .int a1, .ref o] : List Value) u f 0 F.2 (vp_updL f 0 F.1.toInt64) := by
  refine my_inH (gw := GU) (cc := nc_L_run) (maxL := 4) (ret := (some .int)) (by decide) rfl (Nat.le_of_ble_eq_true rfl) ?_
  intro p e s m below meth c A ls x hx hb hml hr hts hown hlocks htab hxe hK hN hZ hA hP hD hS hl
  have hown : s.vm.findClass nR_L = some m.cls := hown
  have hl : lv_has ls 4 [(0, .ref (h 0)), (1, .int a1), (2, .ref o)] := hl
  have htg : ∀ w ∈ GW, w.before _ s = true := fun w h9 => hts w (gu_W h9)
  have hKi : va_K D vwCl (tyI cA) s := hK.sub [0, 1] rfl
  refine lv_aload_n hx hb nd_L_run_0 rfl (lv_at hl 2 rfl) ?_
  refine lv_iconst (v := (0 : Int32)) hx hb nd_L_run_1 (by decide) ?_
  refine lv_aload_n hx hb nd_L_run_2 rfl (lv_at hl 0 rfl) ?_
  refine lv_iload_n hx hb nd_L_run_3 rfl (lv_at hl 1 rfl) ?_
  refine my_cj (wd := wSC h cA) (u' := F.2) (r := F.1) (Y := wO o (cA 2) f) (va_runV (As := [.int a1]) (rest := [.int 0, .ref o]) ⟨hx, hb, hml, hown, htg⟩ (c_S_run l D h cA u a1 F hq _) ⟨callB_of 1 htg (gw_in gw_401) rfl rfl rfl (htg _ gw_1) (htg _ gw_398) nh_S_run ⟨Nat.le_of_ble_eq_true rfl, Nat.le_of_ble_eq_true rfl⟩, (htg _ gw_399), (htg _ gw_400)⟩ (my_preV nwOk (my_Pl hP) hKi (my_Dl hD) hN (va_recv hKi (my_Pl hP) (ci := 0) (q0 := 0) rfl rfl)) rfl rfl hl.1 rfl (lv_room (Nat.le_of_ble_eq_true rfl)) nd_L_run_4 ⟨Nat.le_of_ble_eq_true rfl, Nat.le_of_ble_eq_true rfl⟩) hP hD hS hA (fun H locs hP hD hS => ?_)
  refine lv_i2l (v := F.1.toInt64) hx hb nd_L_run_7 rfl ?_
  refine va_last hx hb hK hP hD hS 7 2 rfl rfl my_in01 nd_L_run_8 (fun H locs hP hD hS => ?_)
  have hP : va_P D vwCl (wH h o cA F.2 (vp_updL f 0 F.1.toInt64)) H := hP
  have hD : va_D A (wH h o cA F.2 (vp_updL f 0 F.1.toInt64)) := hD
  refine lv_goto (tgt := 15) hx hb nd_L_run_9 (by decide) ?_
  refine lv_iconst (v := (0 : Int32)) hx hb nd_L_run_15 (by decide) ?_
  refine W.widen (k := 1) (n := 6) (Nat.zero_le _) (Nat.zero_le _) ?_
  exact my_rh hx hb hr hlocks hK hP hD hS nd_L_run_16
set_option maxHeartbeats 4000000 in
set_option maxRecDepth 100000 in
theorem hx_run (l : Launch) (hst : l.stackTraces = false) (D : va_G) (h : Nat → Nat) (o : Nat) (cA : Nat → ClassId) (u : St) (f : Nat → Int64) (a1 : Int32) (hq : f_S_run a1 u = some none) : MH l ny_L_run (.codeWith ny_L_run nc_L_run 4 (some .int) [(0, 9, 12, 28)] :: GU) D h o cA ([.ref (h 0), .int a1, .ref o] : List Value) u f 1 u f := by
  refine my_inH (gw := GU) (cc := nc_L_run) (maxL := 4) (ret := (some .int)) (by decide) rfl (Nat.le_of_ble_eq_true rfl) ?_
  intro p e s m below meth c A ls x hx hb hml hr hts hown hlocks htab hxe hK hN hZ hA hP hD hS hl
  have hown : s.vm.findClass nR_L = some m.cls := hown
  have hl : lv_has ls 4 [(0, .ref (h 0)), (1, .int a1), (2, .ref o)] := hl
  have htg : ∀ w ∈ GW, w.before _ s = true := fun w h9 => hts w (gu_W h9)
  have hKi : va_K D vwCl (tyI cA) s := hK.sub [0, 1] rfl
  refine lv_aload_n hx hb nd_L_run_0 rfl (lv_at hl 2 rfl) ?_
  refine lv_iconst (v := (0 : Int32)) hx hb nd_L_run_1 (by decide) ?_
  refine lv_aload_n hx hb nd_L_run_2 rfl (lv_at hl 0 rfl) ?_
  refine lv_iload_n hx hb nd_L_run_3 rfl (lv_at hl 1 rfl) ?_
  obtain ⟨e1, e2, e3, e4⟩ := hxe
  refine my_callX (own := nR_L) (C := nR_S) (E := nR_I) (b := h 0) (As := [.int a1]) (rest := [.int 0, .ref o]) (bytes := nc_S_run) (maxL := 4) (ret := some .int) (x := x) hx hb (hl.1.trans hml.symm) hown (x_S_run l hst (h 0) a1 (xn_run hq)) (fun w h9 => (List.mem_cons.mp h9).elim (fun z => z ▸ htg _ gw_401) (fun z => hts w (gu_V z))) (by rw [List.all_cons, gv_ok]; decide) List.mem_cons_self (htg _ gw_398) (htg _ gw_399) (htg _ gw_400) (List.mem_cons_of_mem _ (List.mem_append_left _ gw_1)) ⟨nh_S_run.1, nh_S_run.2.1⟩ nh_S_run.2.2 (Nat.le_of_ble_eq_true rfl) (Nat.le_of_ble_eq_true rfl) rfl rfl (Nat.le_of_ble_eq_true rfl) (Nat.le_of_ble_eq_true rfl) (va_recv hKi (my_Pl hP) (ci := 0) (q0 := 0) rfl rfl) hZ rfl (Nat.le_of_ble_eq_true rfl) nd_L_run_4 htab ?_ ?_ ?_ (hts _ (gu_V gc_I)) ?_
  · unfold covers; rw [e1, e2]; rfl
  · rw [e4]; decide
  · rw [e4]; exact hts _ (List.mem_cons_of_mem _ List.mem_cons_self)
  intro H1 q k1 k2
  rw [e3]
  have hP1 : va_P D vwCl (wH h o cA u f) H1 := hP.kept (fun k z hz => k2 z.1 (va_at.lt (hP k z hz)))
  have hS1 : va_S A s.heap H1 [] := ⟨k1, fun z hz _ => k2 z hz, fun _ h9 => nomatch h9⟩
  refine lv_astore_n (lv' := [(3, .ref q), (0, .ref (h 0)), (1, .int a1), (2, .ref o)]) hx hb nd_L_run_12 rfl hl (by decide) rfl (fun ls hl => ?_)
  refine lv_iconst (v := (1 : Int32)) hx hb nd_L_run_13 (by decide) ?_
  exact my_rh hx hb hr hlocks hK hP1 hD hS1 nd_L_run_14
set_option maxHeartbeats 4000000 in
set_option maxRecDepth 100000 in
theorem h_look (l : Launch) (D : va_G) (h : Nat → Nat) (o : Nat) (cA : Nat → ClassId) (u : St) (f : Nat → Int64) (a1 : Int32) (F : Int32) (hq : f_S_look a1 u = some F) : MH l ny_L_look (.codeWith ny_L_look nc_L_look 4 (some .int) [(0, 9, 12, 13)] :: GU) D h o cA ([.ref (h 0), .int a1, .ref o] : List Value) u f 0 u (vp_updL f 0 F.toInt64) := by
  refine my_inH (gw := GU) (cc := nc_L_look) (maxL := 4) (ret := (some .int)) (by decide) rfl (Nat.le_of_ble_eq_true rfl) ?_
  intro p e s m below meth c A ls x hx hb hml hr hts hown hlocks htab hxe hK hN hZ hA hP hD hS hl
  have hown : s.vm.findClass nR_L = some m.cls := hown
  have hl : lv_has ls 4 [(0, .ref (h 0)), (1, .int a1), (2, .ref o)] := hl
  have htg : ∀ w ∈ GW, w.before _ s = true := fun w h9 => hts w (gu_W h9)
  have hKi : va_K D vwCl (tyI cA) s := hK.sub [0, 1] rfl
  refine lv_aload_n hx hb nd_L_look_0 rfl (lv_at hl 2 rfl) ?_
  refine lv_iconst (v := (0 : Int32)) hx hb nd_L_look_1 (by decide) ?_
  refine lv_aload_n hx hb nd_L_look_2 rfl (lv_at hl 0 rfl) ?_
  refine lv_iload_n hx hb nd_L_look_3 rfl (lv_at hl 1 rfl) ?_
  refine my_cj (wd := wSC h cA) (u' := u) (r := F) (Y := wO o (cA 2) f) (va_runV (As := [.int a1]) (rest := [.int 0, .ref o]) ⟨hx, hb, hml, hown, htg⟩ (c_S_look l D h cA u a1 F hq _) ⟨callB_of 1 htg (gw_in gw_407) rfl rfl rfl (htg _ gw_1) (htg _ gw_404) nh_S_look ⟨Nat.le_of_ble_eq_true rfl, Nat.le_of_ble_eq_true rfl⟩, (htg _ gw_405), (htg _ gw_406)⟩ (my_preV nwOk (my_Pl hP) hKi (my_Dl hD) hN (va_recv hKi (my_Pl hP) (ci := 0) (q0 := 0) rfl rfl)) rfl rfl hl.1 rfl (lv_room (Nat.le_of_ble_eq_true rfl)) nd_L_look_4 ⟨Nat.le_of_ble_eq_true rfl, Nat.le_of_ble_eq_true rfl⟩) hP hD hS hA (fun H locs hP hD hS => ?_)
  refine lv_i2l (v := F.toInt64) hx hb nd_L_look_7 rfl ?_
  refine va_last hx hb hK hP hD hS 7 2 rfl rfl my_in01 nd_L_look_8 (fun H locs hP hD hS => ?_)
  have hP : va_P D vwCl (wH h o cA u (vp_updL f 0 F.toInt64)) H := hP
  have hD : va_D A (wH h o cA u (vp_updL f 0 F.toInt64)) := hD
  refine lv_goto (tgt := 15) hx hb nd_L_look_9 (by decide) ?_
  refine lv_iconst (v := (0 : Int32)) hx hb nd_L_look_15 (by decide) ?_
  refine W.widen (k := 1) (n := 6) (Nat.zero_le _) (Nat.zero_le _) ?_
  exact my_rh hx hb hr hlocks hK hP hD hS nd_L_look_16
set_option maxHeartbeats 4000000 in
set_option maxRecDepth 100000 in
theorem hx_look (l : Launch) (hst : l.stackTraces = false) (D : va_G) (h : Nat → Nat) (o : Nat) (cA : Nat → ClassId) (u : St) (f : Nat → Int64) (a1 : Int32) (hq : f_S_look a1 u = none) : MH l ny_L_look (.codeWith ny_L_look nc_L_look 4 (some .int) [(0, 9, 12, 13)] :: GU) D h o cA ([.ref (h 0), .int a1, .ref o] : List Value) u f 1 u f := by
  refine my_inH (gw := GU) (cc := nc_L_look) (maxL := 4) (ret := (some .int)) (by decide) rfl (Nat.le_of_ble_eq_true rfl) ?_
  intro p e s m below meth c A ls x hx hb hml hr hts hown hlocks htab hxe hK hN hZ hA hP hD hS hl
  have hown : s.vm.findClass nR_L = some m.cls := hown
  have hl : lv_has ls 4 [(0, .ref (h 0)), (1, .int a1), (2, .ref o)] := hl
  have htg : ∀ w ∈ GW, w.before _ s = true := fun w h9 => hts w (gu_W h9)
  have hKi : va_K D vwCl (tyI cA) s := hK.sub [0, 1] rfl
  refine lv_aload_n hx hb nd_L_look_0 rfl (lv_at hl 2 rfl) ?_
  refine lv_iconst (v := (0 : Int32)) hx hb nd_L_look_1 (by decide) ?_
  refine lv_aload_n hx hb nd_L_look_2 rfl (lv_at hl 0 rfl) ?_
  refine lv_iload_n hx hb nd_L_look_3 rfl (lv_at hl 1 rfl) ?_
  obtain ⟨e1, e2, e3, e4⟩ := hxe
  refine my_callX (own := nR_L) (C := nR_S) (E := nR_N) (b := h 0) (As := [.int a1]) (rest := [.int 0, .ref o]) (bytes := nc_S_look) (maxL := 2) (ret := some .int) (x := x) hx hb (hl.1.trans hml.symm) hown (x_S_look l hst (h 0) a1 (xn_look hq)) (fun w h9 => (List.mem_cons.mp h9).elim (fun z => z ▸ htg _ gw_407) (fun z => hts w (gu_V z))) (by rw [List.all_cons, gv_ok]; decide) List.mem_cons_self (htg _ gw_404) (htg _ gw_405) (htg _ gw_406) (List.mem_cons_of_mem _ (List.mem_append_left _ gw_1)) ⟨nh_S_look.1, nh_S_look.2.1⟩ nh_S_look.2.2 (Nat.le_of_ble_eq_true rfl) (Nat.le_of_ble_eq_true rfl) rfl rfl (Nat.le_of_ble_eq_true rfl) (Nat.le_of_ble_eq_true rfl) (va_recv hKi (my_Pl hP) (ci := 0) (q0 := 0) rfl rfl) hZ rfl (Nat.le_of_ble_eq_true rfl) nd_L_look_4 htab ?_ ?_ ?_ (hts _ (gu_V gc_N)) ?_
  · unfold covers; rw [e1, e2]; rfl
  · rw [e4]; decide
  · rw [e4]; exact hts _ List.mem_cons_self
  intro H1 q k1 k2
  rw [e3]
  have hP1 : va_P D vwCl (wH h o cA u f) H1 := hP.kept (fun k z hz => k2 z.1 (va_at.lt (hP k z hz)))
  have hS1 : va_S A s.heap H1 [] := ⟨k1, fun z hz _ => k2 z hz, fun _ h9 => nomatch h9⟩
  refine lv_astore_n (lv' := [(3, .ref q), (0, .ref (h 0)), (1, .int a1), (2, .ref o)]) hx hb nd_L_look_12 rfl hl (by decide) rfl (fun ls hl => ?_)
  refine lv_iconst (v := (1 : Int32)) hx hb nd_L_look_13 (by decide) ?_
  exact my_rh hx hb hr hlocks hK hP1 hD hS1 nd_L_look_14
