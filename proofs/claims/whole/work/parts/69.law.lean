/-! the law, case by case -/
theorem pm_M {X Y Z : va_W} : (X ++ (Y ++ Z)).Perm (Y ++ (X ++ Z)) := List.perm_append_comm_assoc X Y Z
theorem pm_H {X Y Z : va_W} : (X ++ (Y ++ Z)).Perm ((X ++ Z) ++ Y) := by
  rw [List.append_assoc]
  exact List.Perm.append_left _ List.perm_append_comm
abbrev WW (hs hm : Nat → Nat) (o : Nat) (cS cM : Nat → ClassId) (u v : St) (f : Nat → Int64) : va_W := wSC hs cS u ++ (wMD hm cM v ++ wO o (cS 2) f)
abbrev tyW (cS cM : Nat → ClassId) : List (ClassId × FieldType) := [(cS 0, .int), (cS 1, .int), (cS 2, .long), (cM 0, .int), (cM 1, .int)]
def LF (p : Program) (l : Launch) (s : State) (m : MethodId) (c : Code) (b L : Nat) (xs : Nat → Int32) (D : va_G) (cS cM : Nat → ClassId) : Prop :=
  p.tables.exec = Jvm.exec ∧ c.code = code ∧ c.maxLocals = 7 ∧ s.vm.findClass nR_L = some m.cls ∧ (∀ w ∈ lw_tbl, w.before #[Value.ref b] s = true) ∧ va_X b L xs s s.heap ∧ b < s.heap.size ∧ va_K D vwCl (tyW cS cM) s ∧ NW nwS s ∧ ZU s.heap.size s s.heap ∧ l.stackTraces = false
theorem lg_cmp_self (x : Int64) : lg_cmp x x = 0 := by
  have h : ¬ x > x := fun h9 => absurd (Int64.lt_iff_toInt_lt.mp h9) (Int.lt_irrefl _)
  unfold lg_cmp
  rw [if_neg h, if_pos rfl]
theorem vp_upd00 {f : Nat → Int64} {x : Int64} : vp_updL f 0 x 0 = x := by
  unfold vp_updL
  simp
section MYW
variable {p : Program} {l : Launch} {e : Env} {R : Room} {s : State} {m : MethodId} {args : Array Value} {below : List Frame} {meth : Method} {c : Code} {H : Heap} {locs : List Loc} {cells slots : Nat} {Q : State → Prop}
variable {cc : ByteArray} {pc : Nat} {ls : Array Slot} {rest st0 : List Value} {a : Array Value} {D : va_G} {ty : List (ClassId × FieldType)} {A : Nat → Prop} {H0 : Heap} {X X' Y : va_W} {r : Int32}
theorem my_ch (hr : va_Run p l e R s m args below meth c H locs cells slots 1 6 (F0 m pc ls st0) rest (va_Qi (fun r9 (_ : Unit) => r9 = r) (fun _ t => WA vwCl D ty (va_A X H.size) X' t) (va_A X H.size) a) (va_A X H.size)) (hP : va_P D vwCl (X ++ Y) H) (hD : va_D A (X ++ Y)) (hS : va_S A H0 H locs) (hA : ∀ q, H0.size ≤ q → A q)
    (kk : ∀ (H1 : Heap) (locs1 : List Loc), va_P D vwCl (X' ++ Y) H1 → va_D A (X' ++ Y) → va_S A H0 H1 locs1 → W p l e R s m args below meth c H1 locs1 (cells + 1) (slots + 6) Q (F0 m (pc + 3) ls (.int r :: rest))) : W p l e R s m args below meth c H locs cells slots Q (F0 m pc ls st0) := by
  have hF := my_fr (my_Dl hD) hS hA
  refine va_calli hr hS (fun q _ h => hF q h) hF (fun r1 u1 t H1 locs1 ht hvm hp hB hz hk hS1 => ?_)
  have hp : r1 = r := hp
  subst hp
  obtain ⟨hP1, hK1, hD1⟩ := hB
  rw [ht] at hP1
  obtain ⟨k1, k2⟩ := my_jn hP hD hk hF hP1 hD1
  exact kk H1 locs1 k1 k2 hS1
theorem my_runH {y : MethodName} {ws : List Cond} {h : Nat → Nat} {o index maxL : Nat} {cA : Nat → ClassId} {av : List Value} {u u' : St} {f f' : Nat → Int64} {bytes : ByteArray} {ret : Option FieldType} {hh : List (Nat × Nat × Nat × Nat)} {own : String}
    (hexec : p.tables.exec = Jvm.exec) (hb : c.code = cc) (hsize : ls.size = c.maxLocals) (hown : s.vm.findClass own = some m.cls)
    (hM : MH l y ws D h o cA av u f r u' f') (hws : ∀ w ∈ ws, w.before args s = true) (hok : ws.all okW = true) (hcode : Cond.codeWith y bytes maxL ret hh ∈ ws) (hini : Cond.initialized y.cls ∈ ws)
    (hlink : (Cond.methodLink own index y).before args s = true) (hstat : (Cond.static y).before args s = true)
    (hy : y.cls ≠ "java/lang/invoke/MethodHandle" ∧ y.cls ≠ "java/lang/invoke/VarHandle") (hlen : (parseMethodDescriptor y.desc).map (fun d => d.parameters.length) = some av.length)
    (hf : rmH.frames + 1 ≤ R.frames) (hlo : 8 + (maxL + 11) + rmH.locals ≤ R.locals) (hc : cells + 1 ≤ R.cells) (hs : slots + 6 ≤ R.slots)
    (hK : va_K D vwCl (tyL cA) s) (hN : NW nwS s) (hZ : ∃ n, ZU n s H) (hP : va_P D vwCl (wH h o cA u f) H) (hD : va_D A (wH h o cA u f))
    (hst : st0 = av.reverse ++ rest) (hWd : (rest.map fun v => v.category).sum ≤ 8) (hdg : decode cc pc = .ok (.invokestatic index, 3)) :
    va_Run p l e R s m args below meth c H locs cells slots 1 6 (F0 m pc ls st0) rest (va_Qi (fun r9 (_ : Unit) => r9 = r) (fun _ t => WA vwCl D (tyL cA) (va_A (wH h o cA u f) H.size) (wH h o cA u' f') t) (va_A (wH h o cA u f) H.size) av.toArray) (va_A (wH h o cA u f) H.size) := by
  subst hb
  have hall : ∀ w ∈ ws, ∀ (a' : Array Value) (U : State), s.WarmedH U.vm → w.before a' U = true := fun w hw a' U hW => my_words (a' := a') (U := U) hok hW hws w hw
  have hBl : FrameBlind (va_Pc av (fun U => WB nwS vwCl D (tyL cA) (wH h o cA u f) H.size U ∧ ∃ n, ZU n U U.heap)) := fun a U g mk q => by
    obtain ⟨q0, ⟨q1, qP, qK, qD, qN⟩, n, qZ⟩ := q
    exact ⟨q0, ⟨q1, qP, va_K.moved (u := U) (U := U.calling g mk a) (Vm.Alike.refl U.vm) qK, qD, NW.same (s := U) (U := U.calling g mk a) nwOk rfl qN⟩, n, qZ.moved (U := U.calling g mk a) (Vm.Alike.refl U.vm)⟩
  have hBack := va_backW (p := p) (e := e) (below := below) (sargs := args) (R := R) (len := 3) (W := 8) (hh := hh) (bytes := bytes) (maxL := maxL) (ret := ret) (hM H.size) hBl rfl rfl hf hlo hall hcode (fun a' U hW => hall _ hini a' U hW)
  intro T hT X
  obtain ⟨m9, methM, cM, hnamed, hmethM, -, -, -, -, -, -, hsigM⟩ := Cond.codeWith_spec (hws _ hcode)
  have hstatic : methM.isStatic = true := Cond.static_spec hnamed hmethM hstat
  obtain ⟨kP, hkP, -⟩ := className_of_methodNamed hnamed
  have hinitP : kP.init = .initialized := Cond.initialized_spec (findClass_of_methodNamed hnamed) hkP (hws _ hini)
  have hn9 : av.length = methM.sig.parameters.length := by
    rw [hsigM] at hlen
    exact (Option.some.inj hlen).symm
  obtain ⟨vm₁, X₁, hstep₁⟩ := X.invokestatic hexec hown hlink hnamed hmethM hstatic hkP hinitP hy (g := F0 m pc ls st0) rfl (argsL := av) (rest := rest) hn9 hst hdg
  obtain ⟨n, hZ⟩ := hZ
  have hW₁ : s.WarmedH (T.setVm vm₁).vm := X₁.warmed
  have hheap : (T.setVm vm₁).heap = H := hT
  obtain ⟨v, ⟨U', l2, c2, s2⟩, X', ⟨g', mk, t, L, e1, e2, hq, h1, hL, h2, h3⟩, st⟩ := hBack m meth c ⟨T.setVm vm₁, locs, cells, slots⟩ { F0 m pc ls st0 with stack := rest } (.invokestatic index) m9 av.toArray X₁ rfl hsize hdg (by show 2 * 0 + (rest.map fun v => v.category).sum ≤ 8; omega) (X₁.named hnamed)
    ⟨hc, hs, rfl, ⟨by rw [hheap], by rw [hheap]; exact hP, va_K.moved hW₁.alike hK, hD.weaken (fun _ _ _ _ => trivial), NW.warm nwOk hW₁ hN⟩, n, by rw [hheap]; exact hZ.moved hW₁.alike⟩
  dsimp only [Pt.U, Pt.locs, Pt.cells, Pt.slots] at X' e1 e2 h1 h2 h3 st
  subst h1; subst h2; subst h3
  exact ⟨v, (T.setVm vm₁).calling g' mk av.toArray, t, U', L, hT, X', hL, e1, e2, hq, fun target h => hstep₁ _ fun acts => by rw [doInvoke_state]; exact st.trans h⟩
end MYW
theorem hz_put (l : Launch) (hst : l.stackTraces = false) (D : va_G) (h : Nat → Nat) (o : Nat) (cA : Nat → ClassId) (u v : St) (f : Nat → Int64) (a1 a2 : Int32) (hR : Rel u v) : ∃ (k : Int32) (u' : St) (f' : Nat → Int64) (r : Int32) (v' : St), MH l ny_L_put (.codeWith ny_L_put nc_L_put 5 (some .int) [(0, 10, 13, 13)] :: GU) D h o cA ([.ref (h 0), .int a1, .int a2, .ref o] : List Value) u f k u' f' ∧ f_D_put a1 a2 v = some (r, v') ∧ v' 0 0 = k ∧ Rel u' v' ∧ (k = 0 ∧ f' 0 = r.toInt64 ∨ k = 1) := by
  obtain ⟨r, v1, hy, hz2⟩ := e_put u v hR a1 a2
  rcases hz2 with ⟨h1, h2, h3⟩ | ⟨u1, h1, h2, h3⟩
  · exact ⟨1, u, f, r, v1, hx_put l hst D h o cA u f a1 a2 h1, hy, h2, h3, Or.inr rfl⟩
  · exact ⟨0, u1, _, r, v1, h_put l D h o cA u f a1 a2 (r, u1) h1, hy, h2, h3, Or.inl ⟨rfl, vp_upd00⟩⟩
theorem hz_word (l : Launch) (hst : l.stackTraces = false) (D : va_G) (h : Nat → Nat) (o : Nat) (cA : Nat → ClassId) (u v : St) (f : Nat → Int64) (a1 : Int32) (hR : Rel u v) : ∃ (k : Int32) (u' : St) (f' : Nat → Int64) (r : Int32) (v' : St), MH l ny_L_word (.codeWith ny_L_word nc_L_word 4 (some .int) [(0, 9, 12, 13)] :: GU) D h o cA ([.ref (h 0), .int a1, .ref o] : List Value) u f k u' f' ∧ f_D_word a1 v = some (r, v') ∧ v' 0 0 = k ∧ Rel u' v' ∧ (k = 0 ∧ f' 0 = r.toInt64 ∨ k = 1) := by
  obtain ⟨r, v1, hy, h3, hz2⟩ := e_word u v hR a1
  rcases hz2 with ⟨h1, h2⟩ | ⟨h1, h2⟩
  · exact ⟨1, u, f, r, v1, hx_word l hst D h o cA u f a1 h1, hy, h2, h3, Or.inr rfl⟩
  · exact ⟨0, u, _, r, v1, h_word l D h o cA u f a1 r h1, hy, h2, h3, Or.inl ⟨rfl, vp_upd00⟩⟩
theorem hz_set (l : Launch) (hst : l.stackTraces = false) (D : va_G) (h : Nat → Nat) (o : Nat) (cA : Nat → ClassId) (u v : St) (f : Nat → Int64) (a1 a2 : Int32) (hR : Rel u v) : ∃ (k : Int32) (u' : St) (f' : Nat → Int64) (r : Int32) (v' : St), MH l ny_L_set (.codeWith ny_L_set nc_L_set 5 (some .int) [(0, 10, 13, 13)] :: GU) D h o cA ([.ref (h 0), .int a1, .int a2, .ref o] : List Value) u f k u' f' ∧ f_D_set a1 a2 v = some (r, v') ∧ v' 0 0 = k ∧ Rel u' v' ∧ (k = 0 ∧ f' 0 = r.toInt64 ∨ k = 1) := by
  obtain ⟨r, v1, hy, hz2⟩ := e_set u v hR a1 a2
  rcases hz2 with ⟨h1, h2, h3⟩ | ⟨u1, h1, h2, h3⟩
  · exact ⟨1, u, f, r, v1, hx_set l hst D h o cA u f a1 a2 h1, hy, h2, h3, Or.inr rfl⟩
  · exact ⟨0, u1, _, r, v1, h_set l D h o cA u f a1 a2 (r, u1) h1, hy, h2, h3, Or.inl ⟨rfl, vp_upd00⟩⟩
theorem hz_register (l : Launch) (hst : l.stackTraces = false) (D : va_G) (h : Nat → Nat) (o : Nat) (cA : Nat → ClassId) (u v : St) (f : Nat → Int64) (a1 : Int32) (hR : Rel u v) : ∃ (k : Int32) (u' : St) (f' : Nat → Int64) (r : Int32) (v' : St), MH l ny_L_register (.codeWith ny_L_register nc_L_register 4 (some .int) [(0, 9, 12, 13)] :: GU) D h o cA ([.ref (h 0), .int a1, .ref o] : List Value) u f k u' f' ∧ f_D_register a1 v = some (r, v') ∧ v' 0 0 = k ∧ Rel u' v' ∧ (k = 0 ∧ f' 0 = r.toInt64 ∨ k = 1) := by
  obtain ⟨r, v1, hy, h3, hz2⟩ := e_register u v hR a1
  rcases hz2 with ⟨h1, h2⟩ | ⟨h1, h2⟩
  · exact ⟨1, u, f, r, v1, hx_register l hst D h o cA u f a1 h1, hy, h2, h3, Or.inr rfl⟩
  · exact ⟨0, u, _, r, v1, h_register l D h o cA u f a1 r h1, hy, h2, h3, Or.inl ⟨rfl, vp_upd00⟩⟩
theorem hz_lines (l : Launch) (hst : l.stackTraces = false) (D : va_G) (h : Nat → Nat) (o : Nat) (cA : Nat → ClassId) (u v : St) (f : Nat → Int64) (a1 : Int32) (hR : Rel u v) : ∃ (k : Int32) (u' : St) (f' : Nat → Int64) (r : Int32) (v' : St), MH l ny_L_lines (.codeWith ny_L_lines nc_L_lines 4 (some .int) [(0, 9, 12, 28)] :: GU) D h o cA ([.ref (h 0), .int a1, .ref o] : List Value) u f k u' f' ∧ f_D_lines a1 v = (r, v') ∧ v' 0 0 = k ∧ Rel u' v' ∧ (k = 0 ∧ f' 0 = r.toInt64 ∨ k = 1) := by
  obtain ⟨r, v1, hy, hz2⟩ := e_lines u v hR a1
  rcases hz2 with ⟨h1, h2, h3⟩ | ⟨u1, h1, h2, h3⟩
  · exact ⟨1, u, f, r, v1, hx_lines l hst D h o cA u f a1 h1, (Option.some.inj hy), h2, h3, Or.inr rfl⟩
  · exact ⟨0, u1, _, r, v1, h_lines l D h o cA u f a1 (r, u1) h1, (Option.some.inj hy), h2, h3, Or.inl ⟨rfl, vp_upd00⟩⟩
theorem hz_run (l : Launch) (hst : l.stackTraces = false) (D : va_G) (h : Nat → Nat) (o : Nat) (cA : Nat → ClassId) (u v : St) (f : Nat → Int64) (a1 : Int32) (hR : Rel u v) : ∃ (k : Int32) (u' : St) (f' : Nat → Int64) (r : Int32) (v' : St), MH l ny_L_run (.codeWith ny_L_run nc_L_run 4 (some .int) [(0, 9, 12, 28)] :: GU) D h o cA ([.ref (h 0), .int a1, .ref o] : List Value) u f k u' f' ∧ f_D_run a1 v = some (r, v') ∧ v' 0 0 = k ∧ Rel u' v' ∧ (k = 0 ∧ f' 0 = r.toInt64 ∨ k = 1) := by
  obtain ⟨z, hz, r, v1, hy, hz2⟩ := e_run u v hR a1
  rcases hz2 with ⟨h1, h2, h3⟩ | ⟨u1, h1, h2, h3⟩
  · subst h1
    exact ⟨1, u, f, r, v1, hx_run l hst D h o cA u f a1 hz, hy, h2, h3, Or.inr rfl⟩
  · subst h1
    exact ⟨0, u1, _, r, v1, h_run l D h o cA u f a1 (r, u1) hz, hy, h2, h3, Or.inl ⟨rfl, vp_upd00⟩⟩
theorem hz_look (l : Launch) (hst : l.stackTraces = false) (D : va_G) (h : Nat → Nat) (o : Nat) (cA : Nat → ClassId) (u v : St) (f : Nat → Int64) (a1 : Int32) (hR : Rel u v) : ∃ (k : Int32) (u' : St) (f' : Nat → Int64) (r : Int32) (v' : St), MH l ny_L_look (.codeWith ny_L_look nc_L_look 4 (some .int) [(0, 9, 12, 13)] :: GU) D h o cA ([.ref (h 0), .int a1, .ref o] : List Value) u f k u' f' ∧ f_D_look a1 v = (r, v') ∧ v' 0 0 = k ∧ Rel u' v' ∧ (k = 0 ∧ f' 0 = r.toInt64 ∨ k = 1) := by
  obtain ⟨r, v1, hy, h3, hz2⟩ := e_look u v hR a1
  rcases hz2 with ⟨h1, h2⟩ | ⟨h1, h2⟩
  · exact ⟨1, u, f, r, v1, hx_look l hst D h o cA u f a1 h1, (Option.some.inj hy), h2, h3, Or.inr rfl⟩
  · exact ⟨0, u, _, r, v1, h_look l D h o cA u f a1 r h1, (Option.some.inj hy), h2, h3, Or.inl ⟨rfl, vp_upd00⟩⟩
set_option maxHeartbeats 4000000 in
set_option maxRecDepth 100000 in
theorem law_reset {p : Program} {l : Launch} {e : Env} {s : State} {m : MethodId} {below : List Frame} {meth : Method} {c : Code} {b L : Nat} {xs : Nat → Int32} {D : va_G} {hs hm : Nat → Nat} {o : Nat} {cS cM : Nat → ClassId} {u v : St} {f : Nat → Int64} {H : Heap} {locs : List Loc} {cells slots : Nat} {ls : Array Slot} {i : Int32} {Q : State → Prop}
    (F9 : LF p l s m c b L xs D cS cM) (hR : Rel u v) (hP : va_P D vwCl (WW hs hm o cS cM u v f) H) (hD : va_D (fun q => s.heap.size ≤ q) (WW hs hm o cS cM u v f)) (hS : va_S (fun q => s.heap.size ≤ q) s.heap H locs) (hl : lv_has ls 7 [(4, .int i), (3, .ref o), (2, .ref (hm 0)), (1, .ref (hs 0)), (0, .ref b)]) (hi1 : vp_in (i + 1) L) (hi2 : vp_in (i + 2) L) (hc : cells + 1 ≤ 1042) (hsl : slots + 6 ≤ 13474)
    (kk : ∀ (u v : St) (f : Nat → Int64) (H : Heap) (locs : List Loc) (ls : Array Slot), Rel u v → va_P D vwCl (WW hs hm o cS cM u v f) H → va_D (fun q => s.heap.size ≤ q) (WW hs hm o cS cM u v f) → va_S (fun q => s.heap.size ≤ q) s.heap H locs → lv_has ls 7 [(4, .int i), (3, .ref o), (2, .ref (hm 0)), (1, .ref (hs 0)), (0, .ref b)] → W p l e room_1 s m #[Value.ref b] below meth c H locs (cells + 1) (slots + 6) Q (F0 m 586 ls [])) :
    W p l e room_1 s m #[Value.ref b] below meth c H locs cells slots Q (F0 m 96 ls []) := by
  obtain ⟨hx, hb, hml, hown, hts, hX, hbl, hK, hN, hZ, hst⟩ := F9
  have htg : ∀ w ∈ GW, w.before #[Value.ref b] s = true := fun w h9 => hts w (gw_t w h9)
  have hA : ∀ q, s.heap.size ≤ q → s.heap.size ≤ q := fun _ h => h
  have hbA : ¬ s.heap.size ≤ b := Nat.not_le.mpr hbl
  have hKs : va_K D vwCl (tyI cS) s := hK.sub [0, 1] rfl
  have hKm : va_K D vwCl (tyI cM) s := hK.sub [3, 4] rfl
  have hKl : va_K D vwCl (tyL cS) s := hK.sub [0, 1, 2] rfl
  obtain ⟨u1, v1, hu, hv, hR1⟩ := e_reset u v hR
  refine lv_aload_n hx hb nd_L_law_96 rfl (lv_at hl 3 rfl) ?_
  refine my_cjv (wd := wSC hs cS) (F := u1) (Y := wMD hm cM v ++ wO o (cS 2) f) (va_runV (As := []) (rest := []) ⟨hx, hb, hml, hown, htg⟩ (c_S_reset l D hs cS u u1 hu _) ⟨callB_of 0 htg (gw_in gw_84) rfl rfl rfl (htg _ gw_1) (htg _ gw_81) nh_S_reset ⟨Nat.le_of_ble_eq_true rfl, Nat.le_of_ble_eq_true rfl⟩, (htg _ gw_82), (htg _ gw_83)⟩ (my_preV nwOk (my_Pl hP) hKs (my_Dl hD) hN (va_recv hKs (my_Pl hP) (ci := 0) (q0 := 0) rfl rfl)) rfl rfl hl.1 rfl (lv_room (Nat.le_of_ble_eq_true rfl)) nd_L_law_97 ⟨by show cells + 0 ≤ 1042; omega, by show slots + 0 ≤ 13474; omega⟩) hP hD hS hA (fun H locs hP hD hS => ?_)
  have hP := my_pP pm_M hP
  have hD := my_pD pm_M hD
  refine lv_aload_n hx hb nd_L_law_100 rfl (lv_at hl 2 rfl) ?_
  refine my_cjv (wd := wMD hm cM) (F := v1) (Y := wSC hs cS (u1) ++ wO o (cS 2) f) (va_runV (As := []) (rest := []) ⟨hx, hb, hml, hown, htg⟩ (c_D_reset l D hm cM v v1 hv _) ⟨callB_of 0 htg (gw_in gw_476) rfl rfl rfl (htg _ gw_6) (htg _ gw_473) nh_D_reset ⟨Nat.le_of_ble_eq_true rfl, Nat.le_of_ble_eq_true rfl⟩, (htg _ gw_474), (htg _ gw_475)⟩ (my_preV nwOk (my_Pl hP) hKm (my_Dl hD) hN (va_recv hKm (my_Pl hP) (ci := 5) (q0 := 0) rfl rfl)) rfl rfl hl.1 rfl (lv_room (Nat.le_of_ble_eq_true rfl)) nd_L_law_101 ⟨by show cells + 0 ≤ 1042; omega, by show slots + 0 ≤ 13474; omega⟩) hP hD hS hA (fun H locs hP hD hS => ?_)
  have hP := my_pP pm_M hP
  have hD := my_pD pm_M hD
  refine lv_goto (tgt := 586) hx hb nd_L_law_104 (by decide) ?_
  refine W.widen (k := cells + 1) (n := slots + 6) (by omega) (by omega) ?_
  exact kk _ _ _ H locs ls hR1 hP hD hS hl
set_option maxHeartbeats 4000000 in
set_option maxRecDepth 100000 in
theorem law_go {p : Program} {l : Launch} {e : Env} {s : State} {m : MethodId} {below : List Frame} {meth : Method} {c : Code} {b L : Nat} {xs : Nat → Int32} {D : va_G} {hs hm : Nat → Nat} {o : Nat} {cS cM : Nat → ClassId} {u v : St} {f : Nat → Int64} {H : Heap} {locs : List Loc} {cells slots : Nat} {ls : Array Slot} {i : Int32} {Q : State → Prop}
    (F9 : LF p l s m c b L xs D cS cM) (hR : Rel u v) (hP : va_P D vwCl (WW hs hm o cS cM u v f) H) (hD : va_D (fun q => s.heap.size ≤ q) (WW hs hm o cS cM u v f)) (hS : va_S (fun q => s.heap.size ≤ q) s.heap H locs) (hl : lv_has ls 7 [(4, .int i), (3, .ref o), (2, .ref (hm 0)), (1, .ref (hs 0)), (0, .ref b)]) (hi1 : vp_in (i + 1) L) (hi2 : vp_in (i + 2) L) (hc : cells + 1 ≤ 1042) (hsl : slots + 6 ≤ 13474)
    (kk : ∀ (u v : St) (f : Nat → Int64) (H : Heap) (locs : List Loc) (ls : Array Slot), Rel u v → va_P D vwCl (WW hs hm o cS cM u v f) H → va_D (fun q => s.heap.size ≤ q) (WW hs hm o cS cM u v f) → va_S (fun q => s.heap.size ≤ q) s.heap H locs → lv_has ls 7 [(4, .int i), (3, .ref o), (2, .ref (hm 0)), (1, .ref (hs 0)), (0, .ref b)] → W p l e room_1 s m #[Value.ref b] below meth c H locs (cells + 1) (slots + 6) Q (F0 m 586 ls [])) :
    W p l e room_1 s m #[Value.ref b] below meth c H locs cells slots Q (F0 m 355 ls []) := by
  obtain ⟨hx, hb, hml, hown, hts, hX, hbl, hK, hN, hZ, hst⟩ := F9
  have htg : ∀ w ∈ GW, w.before #[Value.ref b] s = true := fun w h9 => hts w (gw_t w h9)
  have hA : ∀ q, s.heap.size ≤ q → s.heap.size ≤ q := fun _ h => h
  have hbA : ¬ s.heap.size ≤ b := Nat.not_le.mpr hbl
  have hKs : va_K D vwCl (tyI cS) s := hK.sub [0, 1] rfl
  have hKm : va_K D vwCl (tyI cM) s := hK.sub [3, 4] rfl
  have hKl : va_K D vwCl (tyL cS) s := hK.sub [0, 1, 2] rfl
  obtain ⟨hr1, hR1⟩ := e_go u v hR (xs (i + 1).toNatClampNeg)
  refine lv_aload_n hx hb nd_L_law_355 rfl (lv_at hl 3 rfl) ?_
  refine lv_aload_n hx hb nd_L_law_356 rfl (lv_at hl 4 rfl) ?_
  refine lv_iload hx hb nd_L_law_357 (lv_at hl 0 rfl) ?_
  refine lv_iconst (v := (1 : Int32)) hx hb nd_L_law_359 (by decide) ?_
  refine lv_iadd hx hb nd_L_law_360 ?_
  refine va_sld hx hb hX hbl hbA hS hi1 nd_L_law_361 ?_
  refine my_cj (wd := wSC hs cS) (u' := (f_S_go (xs (i + 1).toNatClampNeg) u).2) (r := (f_S_go (xs (i + 1).toNatClampNeg) u).1) (Y := wMD hm cM v ++ wO o (cS 2) f) (va_runV (As := [.int (xs (i + 1).toNatClampNeg)]) (rest := []) ⟨hx, hb, hml, hown, htg⟩ (c_S_go l D hs cS u (xs (i + 1).toNatClampNeg) (f_S_go (xs (i + 1).toNatClampNeg) u) rfl _) ⟨callB_of 1 htg (gw_in gw_106) rfl rfl rfl (htg _ gw_1) (htg _ gw_103) nh_S_go ⟨Nat.le_of_ble_eq_true rfl, Nat.le_of_ble_eq_true rfl⟩, (htg _ gw_104), (htg _ gw_105)⟩ (my_preV nwOk (my_Pl hP) hKs (my_Dl hD) hN (va_recv hKs (my_Pl hP) (ci := 0) (q0 := 0) rfl rfl)) rfl rfl hl.1 rfl (lv_room (Nat.le_of_ble_eq_true rfl)) nd_L_law_362 ⟨by show cells + 0 ≤ 1042; omega, by show slots + 0 ≤ 13474; omega⟩) hP hD hS hA (fun H locs hP hD hS => ?_)
  have hP := my_pP pm_M hP
  have hD := my_pD pm_M hD
  refine lv_aload_n hx hb nd_L_law_365 rfl (lv_at hl 2 rfl) ?_
  refine lv_aload_n hx hb nd_L_law_366 rfl (lv_at hl 4 rfl) ?_
  refine lv_iload hx hb nd_L_law_367 (lv_at hl 0 rfl) ?_
  refine lv_iconst (v := (1 : Int32)) hx hb nd_L_law_369 (by decide) ?_
  refine lv_iadd hx hb nd_L_law_370 ?_
  refine va_sld hx hb hX hbl hbA hS hi1 nd_L_law_371 ?_
  refine my_cj (wd := wMD hm cM) (u' := (f_D_go (xs (i + 1).toNatClampNeg) v).2) (r := (f_D_go (xs (i + 1).toNatClampNeg) v).1) (Y := wSC hs cS ((f_S_go (xs (i + 1).toNatClampNeg) u).2) ++ wO o (cS 2) f) (va_runV (As := [.int (xs (i + 1).toNatClampNeg)]) (rest := [.int ((f_S_go (xs (i + 1).toNatClampNeg) u).1)]) ⟨hx, hb, hml, hown, htg⟩ (c_D_go l D hm cM v (xs (i + 1).toNatClampNeg) (f_D_go (xs (i + 1).toNatClampNeg) v) rfl _) ⟨callB_of 1 htg (gw_in gw_511) rfl rfl rfl (htg _ gw_6) (htg _ gw_508) nh_D_go ⟨Nat.le_of_ble_eq_true rfl, Nat.le_of_ble_eq_true rfl⟩, (htg _ gw_509), (htg _ gw_510)⟩ (my_preV nwOk (my_Pl hP) hKm (my_Dl hD) hN (va_recv hKm (my_Pl hP) (ci := 5) (q0 := 0) rfl rfl)) rfl rfl hl.1 rfl (lv_room (Nat.le_of_ble_eq_true rfl)) nd_L_law_372 ⟨by show cells + 0 ≤ 1042; omega, by show slots + 0 ≤ 13474; omega⟩) hP hD hS hA (fun H locs hP hD hS => ?_)
  have hP := my_pP pm_M hP
  have hD := my_pD pm_M hD
  refine lv_icmp_eq (tgt := 586) hx hb nd_L_law_375 (by decide) (fun _ => ?_) (fun h9 => absurd hr1 h9)
  refine W.widen (k := cells + 1) (n := slots + 6) (by omega) (by omega) ?_
  exact kk _ _ _ H locs ls hR1 hP hD hS hl
set_option maxHeartbeats 4000000 in
set_option maxRecDepth 100000 in
theorem law_status {p : Program} {l : Launch} {e : Env} {s : State} {m : MethodId} {below : List Frame} {meth : Method} {c : Code} {b L : Nat} {xs : Nat → Int32} {D : va_G} {hs hm : Nat → Nat} {o : Nat} {cS cM : Nat → ClassId} {u v : St} {f : Nat → Int64} {H : Heap} {locs : List Loc} {cells slots : Nat} {ls : Array Slot} {i : Int32} {Q : State → Prop}
    (F9 : LF p l s m c b L xs D cS cM) (hR : Rel u v) (hP : va_P D vwCl (WW hs hm o cS cM u v f) H) (hD : va_D (fun q => s.heap.size ≤ q) (WW hs hm o cS cM u v f)) (hS : va_S (fun q => s.heap.size ≤ q) s.heap H locs) (hl : lv_has ls 7 [(4, .int i), (3, .ref o), (2, .ref (hm 0)), (1, .ref (hs 0)), (0, .ref b)]) (hi1 : vp_in (i + 1) L) (hi2 : vp_in (i + 2) L) (hc : cells + 1 ≤ 1042) (hsl : slots + 6 ≤ 13474)
    (kk : ∀ (u v : St) (f : Nat → Int64) (H : Heap) (locs : List Loc) (ls : Array Slot), Rel u v → va_P D vwCl (WW hs hm o cS cM u v f) H → va_D (fun q => s.heap.size ≤ q) (WW hs hm o cS cM u v f) → va_S (fun q => s.heap.size ≤ q) s.heap H locs → lv_has ls 7 [(4, .int i), (3, .ref o), (2, .ref (hm 0)), (1, .ref (hs 0)), (0, .ref b)] → W p l e room_1 s m #[Value.ref b] below meth c H locs (cells + 1) (slots + 6) Q (F0 m 586 ls [])) :
    W p l e room_1 s m #[Value.ref b] below meth c H locs cells slots Q (F0 m 380 ls []) := by
  obtain ⟨hx, hb, hml, hown, hts, hX, hbl, hK, hN, hZ, hst⟩ := F9
  have htg : ∀ w ∈ GW, w.before #[Value.ref b] s = true := fun w h9 => hts w (gw_t w h9)
  have hA : ∀ q, s.heap.size ≤ q → s.heap.size ≤ q := fun _ h => h
  have hbA : ¬ s.heap.size ≤ b := Nat.not_le.mpr hbl
  have hKs : va_K D vwCl (tyI cS) s := hK.sub [0, 1] rfl
  have hKm : va_K D vwCl (tyI cM) s := hK.sub [3, 4] rfl
  have hKl : va_K D vwCl (tyL cS) s := hK.sub [0, 1, 2] rfl
  obtain ⟨hr1, hR1⟩ := e_status u v hR (xs (i + 1).toNatClampNeg)
  refine lv_aload_n hx hb nd_L_law_380 rfl (lv_at hl 3 rfl) ?_
  refine lv_aload_n hx hb nd_L_law_381 rfl (lv_at hl 4 rfl) ?_
  refine lv_iload hx hb nd_L_law_382 (lv_at hl 0 rfl) ?_
  refine lv_iconst (v := (1 : Int32)) hx hb nd_L_law_384 (by decide) ?_
  refine lv_iadd hx hb nd_L_law_385 ?_
  refine va_sld hx hb hX hbl hbA hS hi1 nd_L_law_386 ?_
  refine my_cj (wd := wSC hs cS) (u' := (f_S_status (xs (i + 1).toNatClampNeg) u).2) (r := (f_S_status (xs (i + 1).toNatClampNeg) u).1) (Y := wMD hm cM v ++ wO o (cS 2) f) (va_runV (As := [.int (xs (i + 1).toNatClampNeg)]) (rest := []) ⟨hx, hb, hml, hown, htg⟩ (c_S_status l D hs cS u (xs (i + 1).toNatClampNeg) (f_S_status (xs (i + 1).toNatClampNeg) u) rfl _) ⟨callB_of 1 htg (gw_in gw_110) rfl rfl rfl (htg _ gw_1) (htg _ gw_107) nh_S_status ⟨Nat.le_of_ble_eq_true rfl, Nat.le_of_ble_eq_true rfl⟩, (htg _ gw_108), (htg _ gw_109)⟩ (my_preV nwOk (my_Pl hP) hKs (my_Dl hD) hN (va_recv hKs (my_Pl hP) (ci := 0) (q0 := 0) rfl rfl)) rfl rfl hl.1 rfl (lv_room (Nat.le_of_ble_eq_true rfl)) nd_L_law_387 ⟨by show cells + 0 ≤ 1042; omega, by show slots + 0 ≤ 13474; omega⟩) hP hD hS hA (fun H locs hP hD hS => ?_)
  have hP := my_pP pm_M hP
  have hD := my_pD pm_M hD
  refine lv_aload_n hx hb nd_L_law_390 rfl (lv_at hl 2 rfl) ?_
  refine lv_aload_n hx hb nd_L_law_391 rfl (lv_at hl 4 rfl) ?_
  refine lv_iload hx hb nd_L_law_392 (lv_at hl 0 rfl) ?_
  refine lv_iconst (v := (1 : Int32)) hx hb nd_L_law_394 (by decide) ?_
  refine lv_iadd hx hb nd_L_law_395 ?_
  refine va_sld hx hb hX hbl hbA hS hi1 nd_L_law_396 ?_
  refine my_cj (wd := wMD hm cM) (u' := (f_D_status (xs (i + 1).toNatClampNeg) v).2) (r := (f_D_status (xs (i + 1).toNatClampNeg) v).1) (Y := wSC hs cS ((f_S_status (xs (i + 1).toNatClampNeg) u).2) ++ wO o (cS 2) f) (va_runV (As := [.int (xs (i + 1).toNatClampNeg)]) (rest := [.int ((f_S_status (xs (i + 1).toNatClampNeg) u).1)]) ⟨hx, hb, hml, hown, htg⟩ (c_D_status l D hm cM v (xs (i + 1).toNatClampNeg) (f_D_status (xs (i + 1).toNatClampNeg) v) rfl _) ⟨callB_of 1 htg (gw_in gw_515) rfl rfl rfl (htg _ gw_6) (htg _ gw_512) nh_D_status ⟨Nat.le_of_ble_eq_true rfl, Nat.le_of_ble_eq_true rfl⟩, (htg _ gw_513), (htg _ gw_514)⟩ (my_preV nwOk (my_Pl hP) hKm (my_Dl hD) hN (va_recv hKm (my_Pl hP) (ci := 5) (q0 := 0) rfl rfl)) rfl rfl hl.1 rfl (lv_room (Nat.le_of_ble_eq_true rfl)) nd_L_law_397 ⟨by show cells + 0 ≤ 1042; omega, by show slots + 0 ≤ 13474; omega⟩) hP hD hS hA (fun H locs hP hD hS => ?_)
  have hP := my_pP pm_M hP
  have hD := my_pD pm_M hD
  refine lv_icmp_eq (tgt := 586) hx hb nd_L_law_400 (by decide) (fun _ => ?_) (fun h9 => absurd hr1 h9)
  refine W.widen (k := cells + 1) (n := slots + 6) (by omega) (by omega) ?_
  exact kk _ _ _ H locs ls hR1 hP hD hS hl
theorem es_step {v v1 : St} {r : Int32} (h : f_D_oneStep (sU v 0 0 0) = some (r, v1)) : f_D_step v = some (r, v1) := by
  unfold f_D_step
  rw [h]
  rfl
set_option maxHeartbeats 4000000 in
set_option maxRecDepth 100000 in
theorem law_step {p : Program} {l : Launch} {e : Env} {s : State} {m : MethodId} {below : List Frame} {meth : Method} {c : Code} {b L : Nat} {xs : Nat → Int32} {D : va_G} {hs hm : Nat → Nat} {o : Nat} {cS cM : Nat → ClassId} {u v : St} {f : Nat → Int64} {H : Heap} {locs : List Loc} {cells slots : Nat} {ls : Array Slot} {i : Int32} {Q : State → Prop}
    (F9 : LF p l s m c b L xs D cS cM) (hR : Rel u v) (hP : va_P D vwCl (WW hs hm o cS cM u v f) H) (hD : va_D (fun q => s.heap.size ≤ q) (WW hs hm o cS cM u v f)) (hS : va_S (fun q => s.heap.size ≤ q) s.heap H locs) (hl : lv_has ls 7 [(4, .int i), (3, .ref o), (2, .ref (hm 0)), (1, .ref (hs 0)), (0, .ref b)]) (hi1 : vp_in (i + 1) L) (hi2 : vp_in (i + 2) L) (hc : cells + 1 ≤ 1042) (hsl : slots + 6 ≤ 13474)
    (kk : ∀ (u v : St) (f : Nat → Int64) (H : Heap) (locs : List Loc) (ls : Array Slot), Rel u v → va_P D vwCl (WW hs hm o cS cM u v f) H → va_D (fun q => s.heap.size ≤ q) (WW hs hm o cS cM u v f) → va_S (fun q => s.heap.size ≤ q) s.heap H locs → lv_has ls 7 [(4, .int i), (3, .ref o), (2, .ref (hm 0)), (1, .ref (hs 0)), (0, .ref b)] → W p l e room_1 s m #[Value.ref b] below meth c H locs (cells + 1) (slots + 6) Q (F0 m 586 ls [])) :
    W p l e room_1 s m #[Value.ref b] below meth c H locs cells slots Q (F0 m 461 ls []) := by
  obtain ⟨hx, hb, hml, hown, hts, hX, hbl, hK, hN, hZ, hst⟩ := F9
  have htg : ∀ w ∈ GW, w.before #[Value.ref b] s = true := fun w h9 => hts w (gw_t w h9)
  have hA : ∀ q, s.heap.size ≤ q → s.heap.size ≤ q := fun _ h => h
  have hbA : ¬ s.heap.size ≤ b := Nat.not_le.mpr hbl
  have hKs : va_K D vwCl (tyI cS) s := hK.sub [0, 1] rfl
  have hKm : va_K D vwCl (tyI cM) s := hK.sub [3, 4] rfl
  have hKl : va_K D vwCl (tyL cS) s := hK.sub [0, 1, 2] rfl
  obtain ⟨r, u1, v1, hu, hv, hR1⟩ := e_step u (sU v 0 0 0) (rel_th u v 0 hR)
  refine lv_aload_n hx hb nd_L_law_461 rfl (lv_at hl 3 rfl) ?_
  refine my_cj (wd := wSC hs cS) (u' := u1) (r := r) (Y := wMD hm cM v ++ wO o (cS 2) f) (va_runV (As := []) (rest := []) ⟨hx, hb, hml, hown, htg⟩ (c_S_step l D hs cS u (r, u1) hu _) ⟨callB_of 0 htg (gw_in gw_120) rfl rfl rfl (htg _ gw_1) (htg _ gw_117) nh_S_step ⟨Nat.le_of_ble_eq_true rfl, Nat.le_of_ble_eq_true rfl⟩, (htg _ gw_118), (htg _ gw_119)⟩ (my_preV nwOk (my_Pl hP) hKs (my_Dl hD) hN (va_recv hKs (my_Pl hP) (ci := 0) (q0 := 0) rfl rfl)) rfl rfl hl.1 rfl (lv_room (Nat.le_of_ble_eq_true rfl)) nd_L_law_462 ⟨by show cells + 0 ≤ 1042; omega, by show slots + 0 ≤ 13474; omega⟩) hP hD hS hA (fun H locs hP hD hS => ?_)
  have hP := my_pP pm_M hP
  have hD := my_pD pm_M hD
  refine lv_aload_n hx hb nd_L_law_465 rfl (lv_at hl 2 rfl) ?_
  refine my_cj (wd := wMD hm cM) (u' := v1) (r := r) (Y := wSC hs cS (u1) ++ wO o (cS 2) f) (va_runV (As := []) (rest := [.int (r)]) ⟨hx, hb, hml, hown, htg⟩ (c_D_step l D hm cM v (r, v1) (es_step hv) _) ⟨callB_of 0 htg (gw_in gw_524) rfl rfl rfl (htg _ gw_6) (htg _ gw_521) nh_D_step ⟨Nat.le_of_ble_eq_true rfl, Nat.le_of_ble_eq_true rfl⟩, (htg _ gw_522), (htg _ gw_523)⟩ (my_preV nwOk (my_Pl hP) hKm (my_Dl hD) hN (va_recv hKm (my_Pl hP) (ci := 5) (q0 := 0) rfl rfl)) rfl rfl hl.1 rfl (lv_room (Nat.le_of_ble_eq_true rfl)) nd_L_law_466 ⟨by show cells + 0 ≤ 1042; omega, by show slots + 0 ≤ 13474; omega⟩) hP hD hS hA (fun H locs hP hD hS => ?_)
  have hP := my_pP pm_M hP
  have hD := my_pD pm_M hD
  refine lv_icmp_eq (tgt := 586) hx hb nd_L_law_469 (by decide) (fun _ => ?_) (fun h9 => absurd rfl h9)
  refine W.widen (k := cells + 1) (n := slots + 6) (by omega) (by omega) ?_
  exact kk _ _ _ H locs ls hR1 hP hD hS hl
set_option maxHeartbeats 4000000 in
set_option maxRecDepth 100000 in
theorem law_put {p : Program} {l : Launch} {e : Env} {s : State} {m : MethodId} {below : List Frame} {meth : Method} {c : Code} {b L : Nat} {xs : Nat → Int32} {D : va_G} {hs hm : Nat → Nat} {o : Nat} {cS cM : Nat → ClassId} {u v : St} {f : Nat → Int64} {H : Heap} {locs : List Loc} {cells slots : Nat} {ls : Array Slot} {i : Int32} {Q : State → Prop}
    (F9 : LF p l s m c b L xs D cS cM) (hR : Rel u v) (hP : va_P D vwCl (WW hs hm o cS cM u v f) H) (hD : va_D (fun q => s.heap.size ≤ q) (WW hs hm o cS cM u v f)) (hS : va_S (fun q => s.heap.size ≤ q) s.heap H locs) (hl : lv_has ls 7 [(4, .int i), (3, .ref o), (2, .ref (hm 0)), (1, .ref (hs 0)), (0, .ref b)]) (hi1 : vp_in (i + 1) L) (hi2 : vp_in (i + 2) L) (hc : cells + 1 ≤ 1042) (hsl : slots + 6 ≤ 13474)
    (kk : ∀ (u v : St) (f : Nat → Int64) (H : Heap) (locs : List Loc) (ls : Array Slot), Rel u v → va_P D vwCl (WW hs hm o cS cM u v f) H → va_D (fun q => s.heap.size ≤ q) (WW hs hm o cS cM u v f) → va_S (fun q => s.heap.size ≤ q) s.heap H locs → lv_has ls 7 [(4, .int i), (3, .ref o), (2, .ref (hm 0)), (1, .ref (hs 0)), (0, .ref b)] → W p l e room_1 s m #[Value.ref b] below meth c H locs (cells + 1) (slots + 6) Q (F0 m 586 ls [])) :
    W p l e room_1 s m #[Value.ref b] below meth c H locs cells slots Q (F0 m 107 ls []) := by
  obtain ⟨hx, hb, hml, hown, hts, hX, hbl, hK, hN, hZ, hst⟩ := F9
  have htg : ∀ w ∈ GW, w.before #[Value.ref b] s = true := fun w h9 => hts w (gw_t w h9)
  have hA : ∀ q, s.heap.size ≤ q → s.heap.size ≤ q := fun _ h => h
  have hbA : ¬ s.heap.size ≤ b := Nat.not_le.mpr hbl
  have hKs : va_K D vwCl (tyI cS) s := hK.sub [0, 1] rfl
  have hKm : va_K D vwCl (tyI cM) s := hK.sub [3, 4] rfl
  have hKl : va_K D vwCl (tyL cS) s := hK.sub [0, 1, 2] rfl
  obtain ⟨k, u1, f1, r, v1, hM, hv, hk, hR1, hcase⟩ := hz_put l hst D hs o cS u v f (xs (i + 1).toNatClampNeg) (xs (i + 2).toNatClampNeg) hR
  refine lv_aload_n hx hb nd_L_law_107 rfl (lv_at hl 3 rfl) ?_
  refine lv_aload_n hx hb nd_L_law_108 rfl (lv_at hl 4 rfl) ?_
  refine lv_iload hx hb nd_L_law_109 (lv_at hl 0 rfl) ?_
  refine lv_iconst (v := (1 : Int32)) hx hb nd_L_law_111 (by decide) ?_
  refine lv_iadd hx hb nd_L_law_112 ?_
  refine va_sld hx hb hX hbl hbA hS hi1 nd_L_law_113 ?_
  refine lv_aload_n hx hb nd_L_law_114 rfl (lv_at hl 4 rfl) ?_
  refine lv_iload hx hb nd_L_law_115 (lv_at hl 0 rfl) ?_
  refine lv_iconst (v := (2 : Int32)) hx hb nd_L_law_117 (by decide) ?_
  refine lv_iadd hx hb nd_L_law_118 ?_
  refine va_sld hx hb hX hbl hbA hS hi2 nd_L_law_119 ?_
  refine lv_aload_n hx hb nd_L_law_120 rfl (lv_at hl 1 rfl) ?_
  have hP := my_pP pm_H hP
  have hD := my_pD pm_H hD
  have hZ1 : ∃ n, ZU n s H := ⟨s.heap.size, hZ.kept (fun a ha => hS.2.1 a ha (Nat.not_le.mpr ha))⟩
  refine my_ch (X := wH hs o cS u f) (X' := wH hs o cS u1 f1) (Y := wMD hm cM v) (my_runH (own := nR_L) (rest := []) (bytes := nc_L_put) (maxL := 5) (ret := some .int) (hh := [(0, 10, 13, 13)]) hx hb (hl.1.trans hml.symm) hown hM (fun w h9 => (List.mem_cons.mp h9).elim (fun z => z ▸ hts _ gh_put) (fun z => hts w (gu_t w z))) (by rw [List.all_cons, gu_ok]; decide) List.mem_cons_self (List.mem_cons_of_mem _ (gu_W gw_0)) (htg _ gw_363) (htg _ gw_364) ⟨nh_L_put.1, nh_L_put.2.1⟩ nh_L_put.2.2 (Nat.le_of_ble_eq_true rfl) (Nat.le_of_ble_eq_true rfl) (by show cells + 1 ≤ 1042; omega) (by show slots + 6 ≤ 13474; omega) hKl hN hZ1 (my_Pl hP) (my_Dl hD) rfl (Nat.le_of_ble_eq_true rfl) nd_L_law_121) hP hD hS hA (fun H locs hP hD hS => ?_)
  have hP := my_pP pm_H.symm hP
  have hD := my_pD pm_H.symm hD
  refine lv_istore (lv' := [(5, .int k), (4, .int i), (3, .ref o), (2, .ref (hm 0)), (1, .ref (hs 0)), (0, .ref b)]) hx hb nd_L_law_124 hl (by decide) rfl (fun ls hl => ?_)
  have hP := my_pP pm_M hP
  have hD := my_pD pm_M hD
  refine lv_aload_n hx hb nd_L_law_126 rfl (lv_at hl 3 rfl) ?_
  refine lv_aload_n hx hb nd_L_law_127 rfl (lv_at hl 5 rfl) ?_
  refine lv_iload hx hb nd_L_law_128 (lv_at hl 1 rfl) ?_
  refine lv_iconst (v := (1 : Int32)) hx hb nd_L_law_130 (by decide) ?_
  refine lv_iadd hx hb nd_L_law_131 ?_
  refine va_sld hx hb hX hbl hbA hS hi1 nd_L_law_132 ?_
  refine lv_aload_n hx hb nd_L_law_133 rfl (lv_at hl 5 rfl) ?_
  refine lv_iload hx hb nd_L_law_134 (lv_at hl 1 rfl) ?_
  refine lv_iconst (v := (2 : Int32)) hx hb nd_L_law_136 (by decide) ?_
  refine lv_iadd hx hb nd_L_law_137 ?_
  refine va_sld hx hb hX hbl hbA hS hi2 nd_L_law_138 ?_
  refine my_cj (wd := wMD hm cM) (u' := v1) (r := r) (Y := wSC hs cS u1 ++ wO o (cS 2) f1) (va_runV (As := [.int (xs (i + 1).toNatClampNeg), .int (xs (i + 2).toNatClampNeg)]) (rest := []) ⟨hx, hb, hml, hown, htg⟩ (c_D_put l D hm cM v (xs (i + 1).toNatClampNeg) (xs (i + 2).toNatClampNeg) (r, v1) hv _) ⟨callB_of 2 htg (gw_in gw_480) rfl rfl rfl (htg _ gw_6) (htg _ gw_477) nh_D_put ⟨Nat.le_of_ble_eq_true rfl, Nat.le_of_ble_eq_true rfl⟩, (htg _ gw_478), (htg _ gw_479)⟩ (my_preV nwOk (my_Pl hP) hKm (my_Dl hD) hN (va_recv hKm (my_Pl hP) (ci := 5) (q0 := 0) rfl rfl)) rfl rfl hl.1 rfl (lv_room (Nat.le_of_ble_eq_true rfl)) nd_L_law_139 ⟨by show cells + 1 + 0 ≤ 1042; omega, by show slots + 6 + 0 ≤ 13474; omega⟩) hP hD hS hA (fun H locs hP hD hS => ?_)
  refine lv_istore (lv' := [(6, .int r), (5, .int k), (4, .int i), (3, .ref o), (2, .ref (hm 0)), (1, .ref (hs 0)), (0, .ref b)]) hx hb nd_L_law_142 hl (by decide) rfl (fun ls hl => ?_)
  refine lv_aload_n hx hb nd_L_law_144 rfl (lv_at hl 4 rfl) ?_
  refine my_cj (wd := wMD hm cM) (u' := v1) (r := v1 0 0) (Y := wSC hs cS u1 ++ wO o (cS 2) f1) (va_runV (As := []) (rest := []) ⟨hx, hb, hml, hown, htg⟩ (c_D_thrown l D hm cM v1 (v1 0 0) rfl _) ⟨callB_of 0 htg (gw_in gw_472) rfl rfl rfl (htg _ gw_6) (htg _ gw_469) nh_D_thrown ⟨Nat.le_of_ble_eq_true rfl, Nat.le_of_ble_eq_true rfl⟩, (htg _ gw_470), (htg _ gw_471)⟩ (my_preV nwOk (my_Pl hP) hKm (my_Dl hD) hN (va_recv hKm (my_Pl hP) (ci := 5) (q0 := 0) rfl rfl)) rfl rfl hl.1 rfl (lv_room (Nat.le_of_ble_eq_true rfl)) nd_L_law_145 ⟨by show cells + 1 + 0 ≤ 1042; omega, by show slots + 6 + 0 ≤ 13474; omega⟩) hP hD hS hA (fun H locs hP hD hS => ?_)
  have hP := my_pP pm_M hP
  have hD := my_pD pm_M hD
  refine lv_iload hx hb nd_L_law_148 (lv_at hl 1 rfl) ?_
  refine lv_icmp_eq (tgt := 155) hx hb nd_L_law_150 (by decide) (fun _ => ?_) (fun h9 => absurd hk h9)
  refine lv_iload hx hb nd_L_law_155 (lv_at hl 1 rfl) ?_
  refine lv_if_ne (tgt := 172) hx hb nd_L_law_157 (by decide) (fun h9 => ?_) (fun h9 => ?_)
  · refine lv_goto (tgt := 586) hx hb nd_L_law_172 (by decide) ?_
    exact kk _ _ _ H locs ls hR1 hP hD hS (lv_sub hl [2, 3, 4, 5, 6] rfl)
  have hcase := hcase.elim (fun z => z.2) (fun z => absurd (z.symm.trans h9) (by decide))
  refine lv_aload_n hx hb nd_L_law_160 rfl (lv_at hl 3 rfl) ?_
  refine lv_iconst (v := (0 : Int32)) hx hb nd_L_law_161 (by decide) ?_
  refine va_lald hx hb hK hP 10 2 rfl rfl my_in01 nd_L_law_162 ?_
  refine lv_iload hx hb nd_L_law_163 (lv_at hl 0 rfl) ?_
  refine lv_i2l (v := r.toInt64) hx hb nd_L_law_165 rfl ?_
  refine W.lcmp hx hb nd_L_law_166 ?_
  have hz0 : lg_cmp (f1 (0 : Int32).toNatClampNeg) r.toInt64 = 0 := by
    rw [show f1 (0 : Int32).toNatClampNeg = r.toInt64 from hcase]
    exact lg_cmp_self _
  refine lv_if_eq (tgt := 172) hx hb nd_L_law_167 (by decide) (fun _ => ?_) (fun h9 => absurd hz0 h9)
  refine lv_goto (tgt := 586) hx hb nd_L_law_172 (by decide) ?_
  exact kk _ _ _ H locs ls hR1 hP hD hS (lv_sub hl [2, 3, 4, 5, 6] rfl)
set_option maxHeartbeats 4000000 in
set_option maxRecDepth 100000 in
theorem law_word {p : Program} {l : Launch} {e : Env} {s : State} {m : MethodId} {below : List Frame} {meth : Method} {c : Code} {b L : Nat} {xs : Nat → Int32} {D : va_G} {hs hm : Nat → Nat} {o : Nat} {cS cM : Nat → ClassId} {u v : St} {f : Nat → Int64} {H : Heap} {locs : List Loc} {cells slots : Nat} {ls : Array Slot} {i : Int32} {Q : State → Prop}
    (F9 : LF p l s m c b L xs D cS cM) (hR : Rel u v) (hP : va_P D vwCl (WW hs hm o cS cM u v f) H) (hD : va_D (fun q => s.heap.size ≤ q) (WW hs hm o cS cM u v f)) (hS : va_S (fun q => s.heap.size ≤ q) s.heap H locs) (hl : lv_has ls 7 [(4, .int i), (3, .ref o), (2, .ref (hm 0)), (1, .ref (hs 0)), (0, .ref b)]) (hi1 : vp_in (i + 1) L) (hi2 : vp_in (i + 2) L) (hc : cells + 1 ≤ 1042) (hsl : slots + 6 ≤ 13474)
    (kk : ∀ (u v : St) (f : Nat → Int64) (H : Heap) (locs : List Loc) (ls : Array Slot), Rel u v → va_P D vwCl (WW hs hm o cS cM u v f) H → va_D (fun q => s.heap.size ≤ q) (WW hs hm o cS cM u v f) → va_S (fun q => s.heap.size ≤ q) s.heap H locs → lv_has ls 7 [(4, .int i), (3, .ref o), (2, .ref (hm 0)), (1, .ref (hs 0)), (0, .ref b)] → W p l e room_1 s m #[Value.ref b] below meth c H locs (cells + 1) (slots + 6) Q (F0 m 586 ls [])) :
    W p l e room_1 s m #[Value.ref b] below meth c H locs cells slots Q (F0 m 175 ls []) := by
  obtain ⟨hx, hb, hml, hown, hts, hX, hbl, hK, hN, hZ, hst⟩ := F9
  have htg : ∀ w ∈ GW, w.before #[Value.ref b] s = true := fun w h9 => hts w (gw_t w h9)
  have hA : ∀ q, s.heap.size ≤ q → s.heap.size ≤ q := fun _ h => h
  have hbA : ¬ s.heap.size ≤ b := Nat.not_le.mpr hbl
  have hKs : va_K D vwCl (tyI cS) s := hK.sub [0, 1] rfl
  have hKm : va_K D vwCl (tyI cM) s := hK.sub [3, 4] rfl
  have hKl : va_K D vwCl (tyL cS) s := hK.sub [0, 1, 2] rfl
  obtain ⟨k, u1, f1, r, v1, hM, hv, hk, hR1, hcase⟩ := hz_word l hst D hs o cS u v f (xs (i + 1).toNatClampNeg) hR
  refine lv_aload_n hx hb nd_L_law_175 rfl (lv_at hl 3 rfl) ?_
  refine lv_aload_n hx hb nd_L_law_176 rfl (lv_at hl 4 rfl) ?_
  refine lv_iload hx hb nd_L_law_177 (lv_at hl 0 rfl) ?_
  refine lv_iconst (v := (1 : Int32)) hx hb nd_L_law_179 (by decide) ?_
  refine lv_iadd hx hb nd_L_law_180 ?_
  refine va_sld hx hb hX hbl hbA hS hi1 nd_L_law_181 ?_
  refine lv_aload_n hx hb nd_L_law_182 rfl (lv_at hl 1 rfl) ?_
  have hP := my_pP pm_H hP
  have hD := my_pD pm_H hD
  have hZ1 : ∃ n, ZU n s H := ⟨s.heap.size, hZ.kept (fun a ha => hS.2.1 a ha (Nat.not_le.mpr ha))⟩
  refine my_ch (X := wH hs o cS u f) (X' := wH hs o cS u1 f1) (Y := wMD hm cM v) (my_runH (own := nR_L) (rest := []) (bytes := nc_L_word) (maxL := 4) (ret := some .int) (hh := [(0, 9, 12, 13)]) hx hb (hl.1.trans hml.symm) hown hM (fun w h9 => (List.mem_cons.mp h9).elim (fun z => z ▸ hts _ gh_word) (fun z => hts w (gu_t w z))) (by rw [List.all_cons, gu_ok]; decide) List.mem_cons_self (List.mem_cons_of_mem _ (gu_W gw_0)) (htg _ gw_372) (htg _ gw_373) ⟨nh_L_word.1, nh_L_word.2.1⟩ nh_L_word.2.2 (Nat.le_of_ble_eq_true rfl) (Nat.le_of_ble_eq_true rfl) (by show cells + 1 ≤ 1042; omega) (by show slots + 6 ≤ 13474; omega) hKl hN hZ1 (my_Pl hP) (my_Dl hD) rfl (Nat.le_of_ble_eq_true rfl) nd_L_law_183) hP hD hS hA (fun H locs hP hD hS => ?_)
  have hP := my_pP pm_H.symm hP
  have hD := my_pD pm_H.symm hD
  refine lv_istore (lv' := [(5, .int k), (4, .int i), (3, .ref o), (2, .ref (hm 0)), (1, .ref (hs 0)), (0, .ref b)]) hx hb nd_L_law_186 hl (by decide) rfl (fun ls hl => ?_)
  have hP := my_pP pm_M hP
  have hD := my_pD pm_M hD
  refine lv_aload_n hx hb nd_L_law_188 rfl (lv_at hl 3 rfl) ?_
  refine lv_aload_n hx hb nd_L_law_189 rfl (lv_at hl 5 rfl) ?_
  refine lv_iload hx hb nd_L_law_190 (lv_at hl 1 rfl) ?_
  refine lv_iconst (v := (1 : Int32)) hx hb nd_L_law_192 (by decide) ?_
  refine lv_iadd hx hb nd_L_law_193 ?_
  refine va_sld hx hb hX hbl hbA hS hi1 nd_L_law_194 ?_
  refine my_cj (wd := wMD hm cM) (u' := v1) (r := r) (Y := wSC hs cS u1 ++ wO o (cS 2) f1) (va_runV (As := [.int (xs (i + 1).toNatClampNeg)]) (rest := []) ⟨hx, hb, hml, hown, htg⟩ (c_D_word l D hm cM v (xs (i + 1).toNatClampNeg) (r, v1) hv _) ⟨callB_of 1 htg (gw_in gw_499) rfl rfl rfl (htg _ gw_6) (htg _ gw_496) nh_D_word ⟨Nat.le_of_ble_eq_true rfl, Nat.le_of_ble_eq_true rfl⟩, (htg _ gw_497), (htg _ gw_498)⟩ (my_preV nwOk (my_Pl hP) hKm (my_Dl hD) hN (va_recv hKm (my_Pl hP) (ci := 5) (q0 := 0) rfl rfl)) rfl rfl hl.1 rfl (lv_room (Nat.le_of_ble_eq_true rfl)) nd_L_law_195 ⟨by show cells + 1 + 0 ≤ 1042; omega, by show slots + 6 + 0 ≤ 13474; omega⟩) hP hD hS hA (fun H locs hP hD hS => ?_)
  refine lv_istore (lv' := [(6, .int r), (5, .int k), (4, .int i), (3, .ref o), (2, .ref (hm 0)), (1, .ref (hs 0)), (0, .ref b)]) hx hb nd_L_law_198 hl (by decide) rfl (fun ls hl => ?_)
  refine lv_aload_n hx hb nd_L_law_200 rfl (lv_at hl 4 rfl) ?_
  refine my_cj (wd := wMD hm cM) (u' := v1) (r := v1 0 0) (Y := wSC hs cS u1 ++ wO o (cS 2) f1) (va_runV (As := []) (rest := []) ⟨hx, hb, hml, hown, htg⟩ (c_D_thrown l D hm cM v1 (v1 0 0) rfl _) ⟨callB_of 0 htg (gw_in gw_472) rfl rfl rfl (htg _ gw_6) (htg _ gw_469) nh_D_thrown ⟨Nat.le_of_ble_eq_true rfl, Nat.le_of_ble_eq_true rfl⟩, (htg _ gw_470), (htg _ gw_471)⟩ (my_preV nwOk (my_Pl hP) hKm (my_Dl hD) hN (va_recv hKm (my_Pl hP) (ci := 5) (q0 := 0) rfl rfl)) rfl rfl hl.1 rfl (lv_room (Nat.le_of_ble_eq_true rfl)) nd_L_law_201 ⟨by show cells + 1 + 0 ≤ 1042; omega, by show slots + 6 + 0 ≤ 13474; omega⟩) hP hD hS hA (fun H locs hP hD hS => ?_)
  have hP := my_pP pm_M hP
  have hD := my_pD pm_M hD
  refine lv_iload hx hb nd_L_law_204 (lv_at hl 1 rfl) ?_
  refine lv_icmp_eq (tgt := 211) hx hb nd_L_law_206 (by decide) (fun _ => ?_) (fun h9 => absurd hk h9)
  refine lv_iload hx hb nd_L_law_211 (lv_at hl 1 rfl) ?_
  refine lv_if_ne (tgt := 228) hx hb nd_L_law_213 (by decide) (fun h9 => ?_) (fun h9 => ?_)
  · refine lv_goto (tgt := 586) hx hb nd_L_law_228 (by decide) ?_
    exact kk _ _ _ H locs ls hR1 hP hD hS (lv_sub hl [2, 3, 4, 5, 6] rfl)
  have hcase := hcase.elim (fun z => z.2) (fun z => absurd (z.symm.trans h9) (by decide))
  refine lv_aload_n hx hb nd_L_law_216 rfl (lv_at hl 3 rfl) ?_
  refine lv_iconst (v := (0 : Int32)) hx hb nd_L_law_217 (by decide) ?_
  refine va_lald hx hb hK hP 10 2 rfl rfl my_in01 nd_L_law_218 ?_
  refine lv_iload hx hb nd_L_law_219 (lv_at hl 0 rfl) ?_
  refine lv_i2l (v := r.toInt64) hx hb nd_L_law_221 rfl ?_
  refine W.lcmp hx hb nd_L_law_222 ?_
  have hz0 : lg_cmp (f1 (0 : Int32).toNatClampNeg) r.toInt64 = 0 := by
    rw [show f1 (0 : Int32).toNatClampNeg = r.toInt64 from hcase]
    exact lg_cmp_self _
  refine lv_if_eq (tgt := 228) hx hb nd_L_law_223 (by decide) (fun _ => ?_) (fun h9 => absurd hz0 h9)
  refine lv_goto (tgt := 586) hx hb nd_L_law_228 (by decide) ?_
  exact kk _ _ _ H locs ls hR1 hP hD hS (lv_sub hl [2, 3, 4, 5, 6] rfl)
set_option maxHeartbeats 4000000 in
set_option maxRecDepth 100000 in
theorem law_set {p : Program} {l : Launch} {e : Env} {s : State} {m : MethodId} {below : List Frame} {meth : Method} {c : Code} {b L : Nat} {xs : Nat → Int32} {D : va_G} {hs hm : Nat → Nat} {o : Nat} {cS cM : Nat → ClassId} {u v : St} {f : Nat → Int64} {H : Heap} {locs : List Loc} {cells slots : Nat} {ls : Array Slot} {i : Int32} {Q : State → Prop}
    (F9 : LF p l s m c b L xs D cS cM) (hR : Rel u v) (hP : va_P D vwCl (WW hs hm o cS cM u v f) H) (hD : va_D (fun q => s.heap.size ≤ q) (WW hs hm o cS cM u v f)) (hS : va_S (fun q => s.heap.size ≤ q) s.heap H locs) (hl : lv_has ls 7 [(4, .int i), (3, .ref o), (2, .ref (hm 0)), (1, .ref (hs 0)), (0, .ref b)]) (hi1 : vp_in (i + 1) L) (hi2 : vp_in (i + 2) L) (hc : cells + 1 ≤ 1042) (hsl : slots + 6 ≤ 13474)
    (kk : ∀ (u v : St) (f : Nat → Int64) (H : Heap) (locs : List Loc) (ls : Array Slot), Rel u v → va_P D vwCl (WW hs hm o cS cM u v f) H → va_D (fun q => s.heap.size ≤ q) (WW hs hm o cS cM u v f) → va_S (fun q => s.heap.size ≤ q) s.heap H locs → lv_has ls 7 [(4, .int i), (3, .ref o), (2, .ref (hm 0)), (1, .ref (hs 0)), (0, .ref b)] → W p l e room_1 s m #[Value.ref b] below meth c H locs (cells + 1) (slots + 6) Q (F0 m 586 ls [])) :
    W p l e room_1 s m #[Value.ref b] below meth c H locs cells slots Q (F0 m 231 ls []) := by
  obtain ⟨hx, hb, hml, hown, hts, hX, hbl, hK, hN, hZ, hst⟩ := F9
  have htg : ∀ w ∈ GW, w.before #[Value.ref b] s = true := fun w h9 => hts w (gw_t w h9)
  have hA : ∀ q, s.heap.size ≤ q → s.heap.size ≤ q := fun _ h => h
  have hbA : ¬ s.heap.size ≤ b := Nat.not_le.mpr hbl
  have hKs : va_K D vwCl (tyI cS) s := hK.sub [0, 1] rfl
  have hKm : va_K D vwCl (tyI cM) s := hK.sub [3, 4] rfl
  have hKl : va_K D vwCl (tyL cS) s := hK.sub [0, 1, 2] rfl
  obtain ⟨k, u1, f1, r, v1, hM, hv, hk, hR1, hcase⟩ := hz_set l hst D hs o cS u v f (xs (i + 1).toNatClampNeg) (xs (i + 2).toNatClampNeg) hR
  refine lv_aload_n hx hb nd_L_law_231 rfl (lv_at hl 3 rfl) ?_
  refine lv_aload_n hx hb nd_L_law_232 rfl (lv_at hl 4 rfl) ?_
  refine lv_iload hx hb nd_L_law_233 (lv_at hl 0 rfl) ?_
  refine lv_iconst (v := (1 : Int32)) hx hb nd_L_law_235 (by decide) ?_
  refine lv_iadd hx hb nd_L_law_236 ?_
  refine va_sld hx hb hX hbl hbA hS hi1 nd_L_law_237 ?_
  refine lv_aload_n hx hb nd_L_law_238 rfl (lv_at hl 4 rfl) ?_
  refine lv_iload hx hb nd_L_law_239 (lv_at hl 0 rfl) ?_
  refine lv_iconst (v := (2 : Int32)) hx hb nd_L_law_241 (by decide) ?_
  refine lv_iadd hx hb nd_L_law_242 ?_
  refine va_sld hx hb hX hbl hbA hS hi2 nd_L_law_243 ?_
  refine lv_aload_n hx hb nd_L_law_244 rfl (lv_at hl 1 rfl) ?_
  have hP := my_pP pm_H hP
  have hD := my_pD pm_H hD
  have hZ1 : ∃ n, ZU n s H := ⟨s.heap.size, hZ.kept (fun a ha => hS.2.1 a ha (Nat.not_le.mpr ha))⟩
  refine my_ch (X := wH hs o cS u f) (X' := wH hs o cS u1 f1) (Y := wMD hm cM v) (my_runH (own := nR_L) (rest := []) (bytes := nc_L_set) (maxL := 5) (ret := some .int) (hh := [(0, 10, 13, 13)]) hx hb (hl.1.trans hml.symm) hown hM (fun w h9 => (List.mem_cons.mp h9).elim (fun z => z ▸ hts _ gh_set) (fun z => hts w (gu_t w z))) (by rw [List.all_cons, gu_ok]; decide) List.mem_cons_self (List.mem_cons_of_mem _ (gu_W gw_0)) (htg _ gw_378) (htg _ gw_379) ⟨nh_L_set.1, nh_L_set.2.1⟩ nh_L_set.2.2 (Nat.le_of_ble_eq_true rfl) (Nat.le_of_ble_eq_true rfl) (by show cells + 1 ≤ 1042; omega) (by show slots + 6 ≤ 13474; omega) hKl hN hZ1 (my_Pl hP) (my_Dl hD) rfl (Nat.le_of_ble_eq_true rfl) nd_L_law_245) hP hD hS hA (fun H locs hP hD hS => ?_)
  have hP := my_pP pm_H.symm hP
  have hD := my_pD pm_H.symm hD
  refine lv_istore (lv' := [(5, .int k), (4, .int i), (3, .ref o), (2, .ref (hm 0)), (1, .ref (hs 0)), (0, .ref b)]) hx hb nd_L_law_248 hl (by decide) rfl (fun ls hl => ?_)
  have hP := my_pP pm_M hP
  have hD := my_pD pm_M hD
  refine lv_aload_n hx hb nd_L_law_250 rfl (lv_at hl 3 rfl) ?_
  refine lv_aload_n hx hb nd_L_law_251 rfl (lv_at hl 5 rfl) ?_
  refine lv_iload hx hb nd_L_law_252 (lv_at hl 1 rfl) ?_
  refine lv_iconst (v := (1 : Int32)) hx hb nd_L_law_254 (by decide) ?_
  refine lv_iadd hx hb nd_L_law_255 ?_
  refine va_sld hx hb hX hbl hbA hS hi1 nd_L_law_256 ?_
  refine lv_aload_n hx hb nd_L_law_257 rfl (lv_at hl 5 rfl) ?_
  refine lv_iload hx hb nd_L_law_258 (lv_at hl 1 rfl) ?_
  refine lv_iconst (v := (2 : Int32)) hx hb nd_L_law_260 (by decide) ?_
  refine lv_iadd hx hb nd_L_law_261 ?_
  refine va_sld hx hb hX hbl hbA hS hi2 nd_L_law_262 ?_
  refine my_cj (wd := wMD hm cM) (u' := v1) (r := r) (Y := wSC hs cS u1 ++ wO o (cS 2) f1) (va_runV (As := [.int (xs (i + 1).toNatClampNeg), .int (xs (i + 2).toNatClampNeg)]) (rest := []) ⟨hx, hb, hml, hown, htg⟩ (c_D_set l D hm cM v (xs (i + 1).toNatClampNeg) (xs (i + 2).toNatClampNeg) (r, v1) hv _) ⟨callB_of 2 htg (gw_in gw_503) rfl rfl rfl (htg _ gw_6) (htg _ gw_500) nh_D_set ⟨Nat.le_of_ble_eq_true rfl, Nat.le_of_ble_eq_true rfl⟩, (htg _ gw_501), (htg _ gw_502)⟩ (my_preV nwOk (my_Pl hP) hKm (my_Dl hD) hN (va_recv hKm (my_Pl hP) (ci := 5) (q0 := 0) rfl rfl)) rfl rfl hl.1 rfl (lv_room (Nat.le_of_ble_eq_true rfl)) nd_L_law_263 ⟨by show cells + 1 + 0 ≤ 1042; omega, by show slots + 6 + 0 ≤ 13474; omega⟩) hP hD hS hA (fun H locs hP hD hS => ?_)
  refine lv_istore (lv' := [(6, .int r), (5, .int k), (4, .int i), (3, .ref o), (2, .ref (hm 0)), (1, .ref (hs 0)), (0, .ref b)]) hx hb nd_L_law_266 hl (by decide) rfl (fun ls hl => ?_)
  refine lv_aload_n hx hb nd_L_law_268 rfl (lv_at hl 4 rfl) ?_
  refine my_cj (wd := wMD hm cM) (u' := v1) (r := v1 0 0) (Y := wSC hs cS u1 ++ wO o (cS 2) f1) (va_runV (As := []) (rest := []) ⟨hx, hb, hml, hown, htg⟩ (c_D_thrown l D hm cM v1 (v1 0 0) rfl _) ⟨callB_of 0 htg (gw_in gw_472) rfl rfl rfl (htg _ gw_6) (htg _ gw_469) nh_D_thrown ⟨Nat.le_of_ble_eq_true rfl, Nat.le_of_ble_eq_true rfl⟩, (htg _ gw_470), (htg _ gw_471)⟩ (my_preV nwOk (my_Pl hP) hKm (my_Dl hD) hN (va_recv hKm (my_Pl hP) (ci := 5) (q0 := 0) rfl rfl)) rfl rfl hl.1 rfl (lv_room (Nat.le_of_ble_eq_true rfl)) nd_L_law_269 ⟨by show cells + 1 + 0 ≤ 1042; omega, by show slots + 6 + 0 ≤ 13474; omega⟩) hP hD hS hA (fun H locs hP hD hS => ?_)
  have hP := my_pP pm_M hP
  have hD := my_pD pm_M hD
  refine lv_iload hx hb nd_L_law_272 (lv_at hl 1 rfl) ?_
  refine lv_icmp_eq (tgt := 279) hx hb nd_L_law_274 (by decide) (fun _ => ?_) (fun h9 => absurd hk h9)
  refine lv_iload hx hb nd_L_law_279 (lv_at hl 1 rfl) ?_
  refine lv_if_ne (tgt := 296) hx hb nd_L_law_281 (by decide) (fun h9 => ?_) (fun h9 => ?_)
  · refine lv_goto (tgt := 586) hx hb nd_L_law_296 (by decide) ?_
    exact kk _ _ _ H locs ls hR1 hP hD hS (lv_sub hl [2, 3, 4, 5, 6] rfl)
  have hcase := hcase.elim (fun z => z.2) (fun z => absurd (z.symm.trans h9) (by decide))
  refine lv_aload_n hx hb nd_L_law_284 rfl (lv_at hl 3 rfl) ?_
  refine lv_iconst (v := (0 : Int32)) hx hb nd_L_law_285 (by decide) ?_
  refine va_lald hx hb hK hP 10 2 rfl rfl my_in01 nd_L_law_286 ?_
  refine lv_iload hx hb nd_L_law_287 (lv_at hl 0 rfl) ?_
  refine lv_i2l (v := r.toInt64) hx hb nd_L_law_289 rfl ?_
  refine W.lcmp hx hb nd_L_law_290 ?_
  have hz0 : lg_cmp (f1 (0 : Int32).toNatClampNeg) r.toInt64 = 0 := by
    rw [show f1 (0 : Int32).toNatClampNeg = r.toInt64 from hcase]
    exact lg_cmp_self _
  refine lv_if_eq (tgt := 296) hx hb nd_L_law_291 (by decide) (fun _ => ?_) (fun h9 => absurd hz0 h9)
  refine lv_goto (tgt := 586) hx hb nd_L_law_296 (by decide) ?_
  exact kk _ _ _ H locs ls hR1 hP hD hS (lv_sub hl [2, 3, 4, 5, 6] rfl)
set_option maxHeartbeats 4000000 in
set_option maxRecDepth 100000 in
theorem law_register {p : Program} {l : Launch} {e : Env} {s : State} {m : MethodId} {below : List Frame} {meth : Method} {c : Code} {b L : Nat} {xs : Nat → Int32} {D : va_G} {hs hm : Nat → Nat} {o : Nat} {cS cM : Nat → ClassId} {u v : St} {f : Nat → Int64} {H : Heap} {locs : List Loc} {cells slots : Nat} {ls : Array Slot} {i : Int32} {Q : State → Prop}
    (F9 : LF p l s m c b L xs D cS cM) (hR : Rel u v) (hP : va_P D vwCl (WW hs hm o cS cM u v f) H) (hD : va_D (fun q => s.heap.size ≤ q) (WW hs hm o cS cM u v f)) (hS : va_S (fun q => s.heap.size ≤ q) s.heap H locs) (hl : lv_has ls 7 [(4, .int i), (3, .ref o), (2, .ref (hm 0)), (1, .ref (hs 0)), (0, .ref b)]) (hi1 : vp_in (i + 1) L) (hi2 : vp_in (i + 2) L) (hc : cells + 1 ≤ 1042) (hsl : slots + 6 ≤ 13474)
    (kk : ∀ (u v : St) (f : Nat → Int64) (H : Heap) (locs : List Loc) (ls : Array Slot), Rel u v → va_P D vwCl (WW hs hm o cS cM u v f) H → va_D (fun q => s.heap.size ≤ q) (WW hs hm o cS cM u v f) → va_S (fun q => s.heap.size ≤ q) s.heap H locs → lv_has ls 7 [(4, .int i), (3, .ref o), (2, .ref (hm 0)), (1, .ref (hs 0)), (0, .ref b)] → W p l e room_1 s m #[Value.ref b] below meth c H locs (cells + 1) (slots + 6) Q (F0 m 586 ls [])) :
    W p l e room_1 s m #[Value.ref b] below meth c H locs cells slots Q (F0 m 299 ls []) := by
  obtain ⟨hx, hb, hml, hown, hts, hX, hbl, hK, hN, hZ, hst⟩ := F9
  have htg : ∀ w ∈ GW, w.before #[Value.ref b] s = true := fun w h9 => hts w (gw_t w h9)
  have hA : ∀ q, s.heap.size ≤ q → s.heap.size ≤ q := fun _ h => h
  have hbA : ¬ s.heap.size ≤ b := Nat.not_le.mpr hbl
  have hKs : va_K D vwCl (tyI cS) s := hK.sub [0, 1] rfl
  have hKm : va_K D vwCl (tyI cM) s := hK.sub [3, 4] rfl
  have hKl : va_K D vwCl (tyL cS) s := hK.sub [0, 1, 2] rfl
  obtain ⟨k, u1, f1, r, v1, hM, hv, hk, hR1, hcase⟩ := hz_register l hst D hs o cS u v f (xs (i + 1).toNatClampNeg) hR
  refine lv_aload_n hx hb nd_L_law_299 rfl (lv_at hl 3 rfl) ?_
  refine lv_aload_n hx hb nd_L_law_300 rfl (lv_at hl 4 rfl) ?_
  refine lv_iload hx hb nd_L_law_301 (lv_at hl 0 rfl) ?_
  refine lv_iconst (v := (1 : Int32)) hx hb nd_L_law_303 (by decide) ?_
  refine lv_iadd hx hb nd_L_law_304 ?_
  refine va_sld hx hb hX hbl hbA hS hi1 nd_L_law_305 ?_
  refine lv_aload_n hx hb nd_L_law_306 rfl (lv_at hl 1 rfl) ?_
  have hP := my_pP pm_H hP
  have hD := my_pD pm_H hD
  have hZ1 : ∃ n, ZU n s H := ⟨s.heap.size, hZ.kept (fun a ha => hS.2.1 a ha (Nat.not_le.mpr ha))⟩
  refine my_ch (X := wH hs o cS u f) (X' := wH hs o cS u1 f1) (Y := wMD hm cM v) (my_runH (own := nR_L) (rest := []) (bytes := nc_L_register) (maxL := 4) (ret := some .int) (hh := [(0, 9, 12, 13)]) hx hb (hl.1.trans hml.symm) hown hM (fun w h9 => (List.mem_cons.mp h9).elim (fun z => z ▸ hts _ gh_register) (fun z => hts w (gu_t w z))) (by rw [List.all_cons, gu_ok]; decide) List.mem_cons_self (List.mem_cons_of_mem _ (gu_W gw_0)) (htg _ gw_384) (htg _ gw_385) ⟨nh_L_register.1, nh_L_register.2.1⟩ nh_L_register.2.2 (Nat.le_of_ble_eq_true rfl) (Nat.le_of_ble_eq_true rfl) (by show cells + 1 ≤ 1042; omega) (by show slots + 6 ≤ 13474; omega) hKl hN hZ1 (my_Pl hP) (my_Dl hD) rfl (Nat.le_of_ble_eq_true rfl) nd_L_law_307) hP hD hS hA (fun H locs hP hD hS => ?_)
  have hP := my_pP pm_H.symm hP
  have hD := my_pD pm_H.symm hD
  refine lv_istore (lv' := [(5, .int k), (4, .int i), (3, .ref o), (2, .ref (hm 0)), (1, .ref (hs 0)), (0, .ref b)]) hx hb nd_L_law_310 hl (by decide) rfl (fun ls hl => ?_)
  have hP := my_pP pm_M hP
  have hD := my_pD pm_M hD
  refine lv_aload_n hx hb nd_L_law_312 rfl (lv_at hl 3 rfl) ?_
  refine lv_aload_n hx hb nd_L_law_313 rfl (lv_at hl 5 rfl) ?_
  refine lv_iload hx hb nd_L_law_314 (lv_at hl 1 rfl) ?_
  refine lv_iconst (v := (1 : Int32)) hx hb nd_L_law_316 (by decide) ?_
  refine lv_iadd hx hb nd_L_law_317 ?_
  refine va_sld hx hb hX hbl hbA hS hi1 nd_L_law_318 ?_
  refine my_cj (wd := wMD hm cM) (u' := v1) (r := r) (Y := wSC hs cS u1 ++ wO o (cS 2) f1) (va_runV (As := [.int (xs (i + 1).toNatClampNeg)]) (rest := []) ⟨hx, hb, hml, hown, htg⟩ (c_D_register l D hm cM v (xs (i + 1).toNatClampNeg) (r, v1) hv _) ⟨callB_of 1 htg (gw_in gw_507) rfl rfl rfl (htg _ gw_6) (htg _ gw_504) nh_D_register ⟨Nat.le_of_ble_eq_true rfl, Nat.le_of_ble_eq_true rfl⟩, (htg _ gw_505), (htg _ gw_506)⟩ (my_preV nwOk (my_Pl hP) hKm (my_Dl hD) hN (va_recv hKm (my_Pl hP) (ci := 5) (q0 := 0) rfl rfl)) rfl rfl hl.1 rfl (lv_room (Nat.le_of_ble_eq_true rfl)) nd_L_law_319 ⟨by show cells + 1 + 0 ≤ 1042; omega, by show slots + 6 + 0 ≤ 13474; omega⟩) hP hD hS hA (fun H locs hP hD hS => ?_)
  refine lv_istore (lv' := [(6, .int r), (5, .int k), (4, .int i), (3, .ref o), (2, .ref (hm 0)), (1, .ref (hs 0)), (0, .ref b)]) hx hb nd_L_law_322 hl (by decide) rfl (fun ls hl => ?_)
  refine lv_aload_n hx hb nd_L_law_324 rfl (lv_at hl 4 rfl) ?_
  refine my_cj (wd := wMD hm cM) (u' := v1) (r := v1 0 0) (Y := wSC hs cS u1 ++ wO o (cS 2) f1) (va_runV (As := []) (rest := []) ⟨hx, hb, hml, hown, htg⟩ (c_D_thrown l D hm cM v1 (v1 0 0) rfl _) ⟨callB_of 0 htg (gw_in gw_472) rfl rfl rfl (htg _ gw_6) (htg _ gw_469) nh_D_thrown ⟨Nat.le_of_ble_eq_true rfl, Nat.le_of_ble_eq_true rfl⟩, (htg _ gw_470), (htg _ gw_471)⟩ (my_preV nwOk (my_Pl hP) hKm (my_Dl hD) hN (va_recv hKm (my_Pl hP) (ci := 5) (q0 := 0) rfl rfl)) rfl rfl hl.1 rfl (lv_room (Nat.le_of_ble_eq_true rfl)) nd_L_law_325 ⟨by show cells + 1 + 0 ≤ 1042; omega, by show slots + 6 + 0 ≤ 13474; omega⟩) hP hD hS hA (fun H locs hP hD hS => ?_)
  have hP := my_pP pm_M hP
  have hD := my_pD pm_M hD
  refine lv_iload hx hb nd_L_law_328 (lv_at hl 1 rfl) ?_
  refine lv_icmp_eq (tgt := 335) hx hb nd_L_law_330 (by decide) (fun _ => ?_) (fun h9 => absurd hk h9)
  refine lv_iload hx hb nd_L_law_335 (lv_at hl 1 rfl) ?_
  refine lv_if_ne (tgt := 352) hx hb nd_L_law_337 (by decide) (fun h9 => ?_) (fun h9 => ?_)
  · refine lv_goto (tgt := 586) hx hb nd_L_law_352 (by decide) ?_
    exact kk _ _ _ H locs ls hR1 hP hD hS (lv_sub hl [2, 3, 4, 5, 6] rfl)
  have hcase := hcase.elim (fun z => z.2) (fun z => absurd (z.symm.trans h9) (by decide))
  refine lv_aload_n hx hb nd_L_law_340 rfl (lv_at hl 3 rfl) ?_
  refine lv_iconst (v := (0 : Int32)) hx hb nd_L_law_341 (by decide) ?_
  refine va_lald hx hb hK hP 10 2 rfl rfl my_in01 nd_L_law_342 ?_
  refine lv_iload hx hb nd_L_law_343 (lv_at hl 0 rfl) ?_
  refine lv_i2l (v := r.toInt64) hx hb nd_L_law_345 rfl ?_
  refine W.lcmp hx hb nd_L_law_346 ?_
  have hz0 : lg_cmp (f1 (0 : Int32).toNatClampNeg) r.toInt64 = 0 := by
    rw [show f1 (0 : Int32).toNatClampNeg = r.toInt64 from hcase]
    exact lg_cmp_self _
  refine lv_if_eq (tgt := 352) hx hb nd_L_law_347 (by decide) (fun _ => ?_) (fun h9 => absurd hz0 h9)
  refine lv_goto (tgt := 586) hx hb nd_L_law_352 (by decide) ?_
  exact kk _ _ _ H locs ls hR1 hP hD hS (lv_sub hl [2, 3, 4, 5, 6] rfl)
set_option maxHeartbeats 4000000 in
set_option maxRecDepth 100000 in
theorem law_lines {p : Program} {l : Launch} {e : Env} {s : State} {m : MethodId} {below : List Frame} {meth : Method} {c : Code} {b L : Nat} {xs : Nat → Int32} {D : va_G} {hs hm : Nat → Nat} {o : Nat} {cS cM : Nat → ClassId} {u v : St} {f : Nat → Int64} {H : Heap} {locs : List Loc} {cells slots : Nat} {ls : Array Slot} {i : Int32} {Q : State → Prop}
    (F9 : LF p l s m c b L xs D cS cM) (hR : Rel u v) (hP : va_P D vwCl (WW hs hm o cS cM u v f) H) (hD : va_D (fun q => s.heap.size ≤ q) (WW hs hm o cS cM u v f)) (hS : va_S (fun q => s.heap.size ≤ q) s.heap H locs) (hl : lv_has ls 7 [(4, .int i), (3, .ref o), (2, .ref (hm 0)), (1, .ref (hs 0)), (0, .ref b)]) (hi1 : vp_in (i + 1) L) (hi2 : vp_in (i + 2) L) (hc : cells + 1 ≤ 1042) (hsl : slots + 6 ≤ 13474)
    (kk : ∀ (u v : St) (f : Nat → Int64) (H : Heap) (locs : List Loc) (ls : Array Slot), Rel u v → va_P D vwCl (WW hs hm o cS cM u v f) H → va_D (fun q => s.heap.size ≤ q) (WW hs hm o cS cM u v f) → va_S (fun q => s.heap.size ≤ q) s.heap H locs → lv_has ls 7 [(4, .int i), (3, .ref o), (2, .ref (hm 0)), (1, .ref (hs 0)), (0, .ref b)] → W p l e room_1 s m #[Value.ref b] below meth c H locs (cells + 1) (slots + 6) Q (F0 m 586 ls [])) :
    W p l e room_1 s m #[Value.ref b] below meth c H locs cells slots Q (F0 m 405 ls []) := by
  obtain ⟨hx, hb, hml, hown, hts, hX, hbl, hK, hN, hZ, hst⟩ := F9
  have htg : ∀ w ∈ GW, w.before #[Value.ref b] s = true := fun w h9 => hts w (gw_t w h9)
  have hA : ∀ q, s.heap.size ≤ q → s.heap.size ≤ q := fun _ h => h
  have hbA : ¬ s.heap.size ≤ b := Nat.not_le.mpr hbl
  have hKs : va_K D vwCl (tyI cS) s := hK.sub [0, 1] rfl
  have hKm : va_K D vwCl (tyI cM) s := hK.sub [3, 4] rfl
  have hKl : va_K D vwCl (tyL cS) s := hK.sub [0, 1, 2] rfl
  obtain ⟨k, u1, f1, r, v1, hM, hv, hk, hR1, hcase⟩ := hz_lines l hst D hs o cS u v f (xs (i + 1).toNatClampNeg) hR
  refine lv_aload_n hx hb nd_L_law_405 rfl (lv_at hl 3 rfl) ?_
  refine lv_aload_n hx hb nd_L_law_406 rfl (lv_at hl 4 rfl) ?_
  refine lv_iload hx hb nd_L_law_407 (lv_at hl 0 rfl) ?_
  refine lv_iconst (v := (1 : Int32)) hx hb nd_L_law_409 (by decide) ?_
  refine lv_iadd hx hb nd_L_law_410 ?_
  refine va_sld hx hb hX hbl hbA hS hi1 nd_L_law_411 ?_
  refine lv_aload_n hx hb nd_L_law_412 rfl (lv_at hl 1 rfl) ?_
  have hP := my_pP pm_H hP
  have hD := my_pD pm_H hD
  have hZ1 : ∃ n, ZU n s H := ⟨s.heap.size, hZ.kept (fun a ha => hS.2.1 a ha (Nat.not_le.mpr ha))⟩
  refine my_ch (X := wH hs o cS u f) (X' := wH hs o cS u1 f1) (Y := wMD hm cM v) (my_runH (own := nR_L) (rest := []) (bytes := nc_L_lines) (maxL := 4) (ret := some .int) (hh := [(0, 9, 12, 28)]) hx hb (hl.1.trans hml.symm) hown hM (fun w h9 => (List.mem_cons.mp h9).elim (fun z => z ▸ hts _ gh_lines) (fun z => hts w (gu_t w z))) (by rw [List.all_cons, gu_ok]; decide) List.mem_cons_self (List.mem_cons_of_mem _ (gu_W gw_0)) (htg _ gw_390) (htg _ gw_391) ⟨nh_L_lines.1, nh_L_lines.2.1⟩ nh_L_lines.2.2 (Nat.le_of_ble_eq_true rfl) (Nat.le_of_ble_eq_true rfl) (by show cells + 1 ≤ 1042; omega) (by show slots + 6 ≤ 13474; omega) hKl hN hZ1 (my_Pl hP) (my_Dl hD) rfl (Nat.le_of_ble_eq_true rfl) nd_L_law_413) hP hD hS hA (fun H locs hP hD hS => ?_)
  have hP := my_pP pm_H.symm hP
  have hD := my_pD pm_H.symm hD
  refine lv_istore (lv' := [(5, .int k), (4, .int i), (3, .ref o), (2, .ref (hm 0)), (1, .ref (hs 0)), (0, .ref b)]) hx hb nd_L_law_416 hl (by decide) rfl (fun ls hl => ?_)
  have hP := my_pP pm_M hP
  have hD := my_pD pm_M hD
  refine lv_aload_n hx hb nd_L_law_418 rfl (lv_at hl 3 rfl) ?_
  refine lv_aload_n hx hb nd_L_law_419 rfl (lv_at hl 5 rfl) ?_
  refine lv_iload hx hb nd_L_law_420 (lv_at hl 1 rfl) ?_
  refine lv_iconst (v := (1 : Int32)) hx hb nd_L_law_422 (by decide) ?_
  refine lv_iadd hx hb nd_L_law_423 ?_
  refine va_sld hx hb hX hbl hbA hS hi1 nd_L_law_424 ?_
  refine my_cj (wd := wMD hm cM) (u' := v1) (r := r) (Y := wSC hs cS u1 ++ wO o (cS 2) f1) (va_runV (As := [.int (xs (i + 1).toNatClampNeg)]) (rest := []) ⟨hx, hb, hml, hown, htg⟩ (c_D_lines l D hm cM v (xs (i + 1).toNatClampNeg) (r, v1) hv _) ⟨callB_of 1 htg (gw_in gw_520) rfl rfl rfl (htg _ gw_6) (htg _ gw_517) nh_D_lines ⟨Nat.le_of_ble_eq_true rfl, Nat.le_of_ble_eq_true rfl⟩, (htg _ gw_518), (htg _ gw_519)⟩ (my_preV nwOk (my_Pl hP) hKm (my_Dl hD) hN (va_recv hKm (my_Pl hP) (ci := 5) (q0 := 0) rfl rfl)) rfl rfl hl.1 rfl (lv_room (Nat.le_of_ble_eq_true rfl)) nd_L_law_425 ⟨by show cells + 1 + 0 ≤ 1042; omega, by show slots + 6 + 0 ≤ 13474; omega⟩) hP hD hS hA (fun H locs hP hD hS => ?_)
  refine lv_istore (lv' := [(6, .int r), (5, .int k), (4, .int i), (3, .ref o), (2, .ref (hm 0)), (1, .ref (hs 0)), (0, .ref b)]) hx hb nd_L_law_428 hl (by decide) rfl (fun ls hl => ?_)
  refine lv_aload_n hx hb nd_L_law_430 rfl (lv_at hl 4 rfl) ?_
  refine my_cj (wd := wMD hm cM) (u' := v1) (r := v1 0 0) (Y := wSC hs cS u1 ++ wO o (cS 2) f1) (va_runV (As := []) (rest := []) ⟨hx, hb, hml, hown, htg⟩ (c_D_thrown l D hm cM v1 (v1 0 0) rfl _) ⟨callB_of 0 htg (gw_in gw_472) rfl rfl rfl (htg _ gw_6) (htg _ gw_469) nh_D_thrown ⟨Nat.le_of_ble_eq_true rfl, Nat.le_of_ble_eq_true rfl⟩, (htg _ gw_470), (htg _ gw_471)⟩ (my_preV nwOk (my_Pl hP) hKm (my_Dl hD) hN (va_recv hKm (my_Pl hP) (ci := 5) (q0 := 0) rfl rfl)) rfl rfl hl.1 rfl (lv_room (Nat.le_of_ble_eq_true rfl)) nd_L_law_431 ⟨by show cells + 1 + 0 ≤ 1042; omega, by show slots + 6 + 0 ≤ 13474; omega⟩) hP hD hS hA (fun H locs hP hD hS => ?_)
  have hP := my_pP pm_M hP
  have hD := my_pD pm_M hD
  refine lv_iload hx hb nd_L_law_434 (lv_at hl 1 rfl) ?_
  refine lv_icmp_eq (tgt := 441) hx hb nd_L_law_436 (by decide) (fun _ => ?_) (fun h9 => absurd hk h9)
  refine lv_iload hx hb nd_L_law_441 (lv_at hl 1 rfl) ?_
  refine lv_if_ne (tgt := 458) hx hb nd_L_law_443 (by decide) (fun h9 => ?_) (fun h9 => ?_)
  · refine lv_goto (tgt := 586) hx hb nd_L_law_458 (by decide) ?_
    exact kk _ _ _ H locs ls hR1 hP hD hS (lv_sub hl [2, 3, 4, 5, 6] rfl)
  have hcase := hcase.elim (fun z => z.2) (fun z => absurd (z.symm.trans h9) (by decide))
  refine lv_aload_n hx hb nd_L_law_446 rfl (lv_at hl 3 rfl) ?_
  refine lv_iconst (v := (0 : Int32)) hx hb nd_L_law_447 (by decide) ?_
  refine va_lald hx hb hK hP 10 2 rfl rfl my_in01 nd_L_law_448 ?_
  refine lv_iload hx hb nd_L_law_449 (lv_at hl 0 rfl) ?_
  refine lv_i2l (v := r.toInt64) hx hb nd_L_law_451 rfl ?_
  refine W.lcmp hx hb nd_L_law_452 ?_
  have hz0 : lg_cmp (f1 (0 : Int32).toNatClampNeg) r.toInt64 = 0 := by
    rw [show f1 (0 : Int32).toNatClampNeg = r.toInt64 from hcase]
    exact lg_cmp_self _
  refine lv_if_eq (tgt := 458) hx hb nd_L_law_453 (by decide) (fun _ => ?_) (fun h9 => absurd hz0 h9)
  refine lv_goto (tgt := 586) hx hb nd_L_law_458 (by decide) ?_
  exact kk _ _ _ H locs ls hR1 hP hD hS (lv_sub hl [2, 3, 4, 5, 6] rfl)
set_option maxHeartbeats 4000000 in
set_option maxRecDepth 100000 in
theorem law_run {p : Program} {l : Launch} {e : Env} {s : State} {m : MethodId} {below : List Frame} {meth : Method} {c : Code} {b L : Nat} {xs : Nat → Int32} {D : va_G} {hs hm : Nat → Nat} {o : Nat} {cS cM : Nat → ClassId} {u v : St} {f : Nat → Int64} {H : Heap} {locs : List Loc} {cells slots : Nat} {ls : Array Slot} {i : Int32} {Q : State → Prop}
    (F9 : LF p l s m c b L xs D cS cM) (hR : Rel u v) (hP : va_P D vwCl (WW hs hm o cS cM u v f) H) (hD : va_D (fun q => s.heap.size ≤ q) (WW hs hm o cS cM u v f)) (hS : va_S (fun q => s.heap.size ≤ q) s.heap H locs) (hl : lv_has ls 7 [(4, .int i), (3, .ref o), (2, .ref (hm 0)), (1, .ref (hs 0)), (0, .ref b)]) (hi1 : vp_in (i + 1) L) (hi2 : vp_in (i + 2) L) (hc : cells + 1 ≤ 1042) (hsl : slots + 6 ≤ 13474)
    (kk : ∀ (u v : St) (f : Nat → Int64) (H : Heap) (locs : List Loc) (ls : Array Slot), Rel u v → va_P D vwCl (WW hs hm o cS cM u v f) H → va_D (fun q => s.heap.size ≤ q) (WW hs hm o cS cM u v f) → va_S (fun q => s.heap.size ≤ q) s.heap H locs → lv_has ls 7 [(4, .int i), (3, .ref o), (2, .ref (hm 0)), (1, .ref (hs 0)), (0, .ref b)] → W p l e room_1 s m #[Value.ref b] below meth c H locs (cells + 1) (slots + 6) Q (F0 m 586 ls [])) :
    W p l e room_1 s m #[Value.ref b] below meth c H locs cells slots Q (F0 m 474 ls []) := by
  obtain ⟨hx, hb, hml, hown, hts, hX, hbl, hK, hN, hZ, hst⟩ := F9
  have htg : ∀ w ∈ GW, w.before #[Value.ref b] s = true := fun w h9 => hts w (gw_t w h9)
  have hA : ∀ q, s.heap.size ≤ q → s.heap.size ≤ q := fun _ h => h
  have hbA : ¬ s.heap.size ≤ b := Nat.not_le.mpr hbl
  have hKs : va_K D vwCl (tyI cS) s := hK.sub [0, 1] rfl
  have hKm : va_K D vwCl (tyI cM) s := hK.sub [3, 4] rfl
  have hKl : va_K D vwCl (tyL cS) s := hK.sub [0, 1, 2] rfl
  obtain ⟨k, u1, f1, r, v1, hM, hv, hk, hR1, hcase⟩ := hz_run l hst D hs o cS u v f (xs (i + 1).toNatClampNeg) hR
  refine lv_aload_n hx hb nd_L_law_474 rfl (lv_at hl 3 rfl) ?_
  refine lv_aload_n hx hb nd_L_law_475 rfl (lv_at hl 4 rfl) ?_
  refine lv_iload hx hb nd_L_law_476 (lv_at hl 0 rfl) ?_
  refine lv_iconst (v := (1 : Int32)) hx hb nd_L_law_478 (by decide) ?_
  refine lv_iadd hx hb nd_L_law_479 ?_
  refine va_sld hx hb hX hbl hbA hS hi1 nd_L_law_480 ?_
  refine lv_aload_n hx hb nd_L_law_481 rfl (lv_at hl 1 rfl) ?_
  have hP := my_pP pm_H hP
  have hD := my_pD pm_H hD
  have hZ1 : ∃ n, ZU n s H := ⟨s.heap.size, hZ.kept (fun a ha => hS.2.1 a ha (Nat.not_le.mpr ha))⟩
  refine my_ch (X := wH hs o cS u f) (X' := wH hs o cS u1 f1) (Y := wMD hm cM v) (my_runH (own := nR_L) (rest := []) (bytes := nc_L_run) (maxL := 4) (ret := some .int) (hh := [(0, 9, 12, 28)]) hx hb (hl.1.trans hml.symm) hown hM (fun w h9 => (List.mem_cons.mp h9).elim (fun z => z ▸ hts _ gh_run) (fun z => hts w (gu_t w z))) (by rw [List.all_cons, gu_ok]; decide) List.mem_cons_self (List.mem_cons_of_mem _ (gu_W gw_0)) (htg _ gw_396) (htg _ gw_397) ⟨nh_L_run.1, nh_L_run.2.1⟩ nh_L_run.2.2 (Nat.le_of_ble_eq_true rfl) (Nat.le_of_ble_eq_true rfl) (by show cells + 1 ≤ 1042; omega) (by show slots + 6 ≤ 13474; omega) hKl hN hZ1 (my_Pl hP) (my_Dl hD) rfl (Nat.le_of_ble_eq_true rfl) nd_L_law_482) hP hD hS hA (fun H locs hP hD hS => ?_)
  have hP := my_pP pm_H.symm hP
  have hD := my_pD pm_H.symm hD
  refine lv_istore (lv' := [(5, .int k), (4, .int i), (3, .ref o), (2, .ref (hm 0)), (1, .ref (hs 0)), (0, .ref b)]) hx hb nd_L_law_485 hl (by decide) rfl (fun ls hl => ?_)
  have hP := my_pP pm_M hP
  have hD := my_pD pm_M hD
  refine lv_aload_n hx hb nd_L_law_487 rfl (lv_at hl 3 rfl) ?_
  refine lv_aload_n hx hb nd_L_law_488 rfl (lv_at hl 5 rfl) ?_
  refine lv_iload hx hb nd_L_law_489 (lv_at hl 1 rfl) ?_
  refine lv_iconst (v := (1 : Int32)) hx hb nd_L_law_491 (by decide) ?_
  refine lv_iadd hx hb nd_L_law_492 ?_
  refine va_sld hx hb hX hbl hbA hS hi1 nd_L_law_493 ?_
  refine my_cj (wd := wMD hm cM) (u' := v1) (r := r) (Y := wSC hs cS u1 ++ wO o (cS 2) f1) (va_runV (As := [.int (xs (i + 1).toNatClampNeg)]) (rest := []) ⟨hx, hb, hml, hown, htg⟩ (c_D_run l D hm cM v (xs (i + 1).toNatClampNeg) (r, v1) hv _) ⟨callB_of 1 htg (gw_in gw_644) rfl rfl rfl (htg _ gw_6) (htg _ gw_641) nh_D_run ⟨Nat.le_of_ble_eq_true rfl, Nat.le_of_ble_eq_true rfl⟩, (htg _ gw_642), (htg _ gw_643)⟩ (my_preV nwOk (my_Pl hP) hKm (my_Dl hD) hN (va_recv hKm (my_Pl hP) (ci := 5) (q0 := 0) rfl rfl)) rfl rfl hl.1 rfl (lv_room (Nat.le_of_ble_eq_true rfl)) nd_L_law_494 ⟨by show cells + 1 + 0 ≤ 1042; omega, by show slots + 6 + 0 ≤ 13474; omega⟩) hP hD hS hA (fun H locs hP hD hS => ?_)
  refine lv_istore (lv' := [(6, .int r), (5, .int k), (4, .int i), (3, .ref o), (2, .ref (hm 0)), (1, .ref (hs 0)), (0, .ref b)]) hx hb nd_L_law_497 hl (by decide) rfl (fun ls hl => ?_)
  refine lv_aload_n hx hb nd_L_law_499 rfl (lv_at hl 4 rfl) ?_
  refine my_cj (wd := wMD hm cM) (u' := v1) (r := v1 0 0) (Y := wSC hs cS u1 ++ wO o (cS 2) f1) (va_runV (As := []) (rest := []) ⟨hx, hb, hml, hown, htg⟩ (c_D_thrown l D hm cM v1 (v1 0 0) rfl _) ⟨callB_of 0 htg (gw_in gw_472) rfl rfl rfl (htg _ gw_6) (htg _ gw_469) nh_D_thrown ⟨Nat.le_of_ble_eq_true rfl, Nat.le_of_ble_eq_true rfl⟩, (htg _ gw_470), (htg _ gw_471)⟩ (my_preV nwOk (my_Pl hP) hKm (my_Dl hD) hN (va_recv hKm (my_Pl hP) (ci := 5) (q0 := 0) rfl rfl)) rfl rfl hl.1 rfl (lv_room (Nat.le_of_ble_eq_true rfl)) nd_L_law_500 ⟨by show cells + 1 + 0 ≤ 1042; omega, by show slots + 6 + 0 ≤ 13474; omega⟩) hP hD hS hA (fun H locs hP hD hS => ?_)
  have hP := my_pP pm_M hP
  have hD := my_pD pm_M hD
  refine lv_iload hx hb nd_L_law_503 (lv_at hl 1 rfl) ?_
  refine lv_icmp_eq (tgt := 510) hx hb nd_L_law_505 (by decide) (fun _ => ?_) (fun h9 => absurd hk h9)
  refine lv_iload hx hb nd_L_law_510 (lv_at hl 1 rfl) ?_
  refine lv_if_ne (tgt := 527) hx hb nd_L_law_512 (by decide) (fun h9 => ?_) (fun h9 => ?_)
  · refine lv_goto (tgt := 586) hx hb nd_L_law_527 (by decide) ?_
    exact kk _ _ _ H locs ls hR1 hP hD hS (lv_sub hl [2, 3, 4, 5, 6] rfl)
  have hcase := hcase.elim (fun z => z.2) (fun z => absurd (z.symm.trans h9) (by decide))
  refine lv_aload_n hx hb nd_L_law_515 rfl (lv_at hl 3 rfl) ?_
  refine lv_iconst (v := (0 : Int32)) hx hb nd_L_law_516 (by decide) ?_
  refine va_lald hx hb hK hP 10 2 rfl rfl my_in01 nd_L_law_517 ?_
  refine lv_iload hx hb nd_L_law_518 (lv_at hl 0 rfl) ?_
  refine lv_i2l (v := r.toInt64) hx hb nd_L_law_520 rfl ?_
  refine W.lcmp hx hb nd_L_law_521 ?_
  have hz0 : lg_cmp (f1 (0 : Int32).toNatClampNeg) r.toInt64 = 0 := by
    rw [show f1 (0 : Int32).toNatClampNeg = r.toInt64 from hcase]
    exact lg_cmp_self _
  refine lv_if_eq (tgt := 527) hx hb nd_L_law_522 (by decide) (fun _ => ?_) (fun h9 => absurd hz0 h9)
  refine lv_goto (tgt := 586) hx hb nd_L_law_527 (by decide) ?_
  exact kk _ _ _ H locs ls hR1 hP hD hS (lv_sub hl [2, 3, 4, 5, 6] rfl)
set_option maxHeartbeats 4000000 in
set_option maxRecDepth 100000 in
theorem law_look {p : Program} {l : Launch} {e : Env} {s : State} {m : MethodId} {below : List Frame} {meth : Method} {c : Code} {b L : Nat} {xs : Nat → Int32} {D : va_G} {hs hm : Nat → Nat} {o : Nat} {cS cM : Nat → ClassId} {u v : St} {f : Nat → Int64} {H : Heap} {locs : List Loc} {cells slots : Nat} {ls : Array Slot} {i : Int32} {Q : State → Prop}
    (F9 : LF p l s m c b L xs D cS cM) (hR : Rel u v) (hP : va_P D vwCl (WW hs hm o cS cM u v f) H) (hD : va_D (fun q => s.heap.size ≤ q) (WW hs hm o cS cM u v f)) (hS : va_S (fun q => s.heap.size ≤ q) s.heap H locs) (hl : lv_has ls 7 [(4, .int i), (3, .ref o), (2, .ref (hm 0)), (1, .ref (hs 0)), (0, .ref b)]) (hi1 : vp_in (i + 1) L) (hi2 : vp_in (i + 2) L) (hc : cells + 1 ≤ 1042) (hsl : slots + 6 ≤ 13474)
    (kk : ∀ (u v : St) (f : Nat → Int64) (H : Heap) (locs : List Loc) (ls : Array Slot), Rel u v → va_P D vwCl (WW hs hm o cS cM u v f) H → va_D (fun q => s.heap.size ≤ q) (WW hs hm o cS cM u v f) → va_S (fun q => s.heap.size ≤ q) s.heap H locs → lv_has ls 7 [(4, .int i), (3, .ref o), (2, .ref (hm 0)), (1, .ref (hs 0)), (0, .ref b)] → W p l e room_1 s m #[Value.ref b] below meth c H locs (cells + 1) (slots + 6) Q (F0 m 586 ls [])) :
    W p l e room_1 s m #[Value.ref b] below meth c H locs cells slots Q (F0 m 530 ls []) := by
  obtain ⟨hx, hb, hml, hown, hts, hX, hbl, hK, hN, hZ, hst⟩ := F9
  have htg : ∀ w ∈ GW, w.before #[Value.ref b] s = true := fun w h9 => hts w (gw_t w h9)
  have hA : ∀ q, s.heap.size ≤ q → s.heap.size ≤ q := fun _ h => h
  have hbA : ¬ s.heap.size ≤ b := Nat.not_le.mpr hbl
  have hKs : va_K D vwCl (tyI cS) s := hK.sub [0, 1] rfl
  have hKm : va_K D vwCl (tyI cM) s := hK.sub [3, 4] rfl
  have hKl : va_K D vwCl (tyL cS) s := hK.sub [0, 1, 2] rfl
  obtain ⟨k, u1, f1, r, v1, hM, hv, hk, hR1, hcase⟩ := hz_look l hst D hs o cS u v f (xs (i + 1).toNatClampNeg) hR
  refine lv_aload_n hx hb nd_L_law_530 rfl (lv_at hl 3 rfl) ?_
  refine lv_aload_n hx hb nd_L_law_531 rfl (lv_at hl 4 rfl) ?_
  refine lv_iload hx hb nd_L_law_532 (lv_at hl 0 rfl) ?_
  refine lv_iconst (v := (1 : Int32)) hx hb nd_L_law_534 (by decide) ?_
  refine lv_iadd hx hb nd_L_law_535 ?_
  refine va_sld hx hb hX hbl hbA hS hi1 nd_L_law_536 ?_
  refine lv_aload_n hx hb nd_L_law_537 rfl (lv_at hl 1 rfl) ?_
  have hP := my_pP pm_H hP
  have hD := my_pD pm_H hD
  have hZ1 : ∃ n, ZU n s H := ⟨s.heap.size, hZ.kept (fun a ha => hS.2.1 a ha (Nat.not_le.mpr ha))⟩
  refine my_ch (X := wH hs o cS u f) (X' := wH hs o cS u1 f1) (Y := wMD hm cM v) (my_runH (own := nR_L) (rest := []) (bytes := nc_L_look) (maxL := 4) (ret := some .int) (hh := [(0, 9, 12, 13)]) hx hb (hl.1.trans hml.symm) hown hM (fun w h9 => (List.mem_cons.mp h9).elim (fun z => z ▸ hts _ gh_look) (fun z => hts w (gu_t w z))) (by rw [List.all_cons, gu_ok]; decide) List.mem_cons_self (List.mem_cons_of_mem _ (gu_W gw_0)) (htg _ gw_402) (htg _ gw_403) ⟨nh_L_look.1, nh_L_look.2.1⟩ nh_L_look.2.2 (Nat.le_of_ble_eq_true rfl) (Nat.le_of_ble_eq_true rfl) (by show cells + 1 ≤ 1042; omega) (by show slots + 6 ≤ 13474; omega) hKl hN hZ1 (my_Pl hP) (my_Dl hD) rfl (Nat.le_of_ble_eq_true rfl) nd_L_law_538) hP hD hS hA (fun H locs hP hD hS => ?_)
  have hP := my_pP pm_H.symm hP
  have hD := my_pD pm_H.symm hD
  refine lv_istore (lv' := [(5, .int k), (4, .int i), (3, .ref o), (2, .ref (hm 0)), (1, .ref (hs 0)), (0, .ref b)]) hx hb nd_L_law_541 hl (by decide) rfl (fun ls hl => ?_)
  have hP := my_pP pm_M hP
  have hD := my_pD pm_M hD
  refine lv_aload_n hx hb nd_L_law_543 rfl (lv_at hl 3 rfl) ?_
  refine lv_aload_n hx hb nd_L_law_544 rfl (lv_at hl 5 rfl) ?_
  refine lv_iload hx hb nd_L_law_545 (lv_at hl 1 rfl) ?_
  refine lv_iconst (v := (1 : Int32)) hx hb nd_L_law_547 (by decide) ?_
  refine lv_iadd hx hb nd_L_law_548 ?_
  refine va_sld hx hb hX hbl hbA hS hi1 nd_L_law_549 ?_
  refine my_cj (wd := wMD hm cM) (u' := v1) (r := r) (Y := wSC hs cS u1 ++ wO o (cS 2) f1) (va_runV (As := [.int (xs (i + 1).toNatClampNeg)]) (rest := []) ⟨hx, hb, hml, hown, htg⟩ (c_D_look l D hm cM v (xs (i + 1).toNatClampNeg) (r, v1) hv _) ⟨callB_of 1 htg (gw_in gw_648) rfl rfl rfl (htg _ gw_6) (htg _ gw_645) nh_D_look ⟨Nat.le_of_ble_eq_true rfl, Nat.le_of_ble_eq_true rfl⟩, (htg _ gw_646), (htg _ gw_647)⟩ (my_preV nwOk (my_Pl hP) hKm (my_Dl hD) hN (va_recv hKm (my_Pl hP) (ci := 5) (q0 := 0) rfl rfl)) rfl rfl hl.1 rfl (lv_room (Nat.le_of_ble_eq_true rfl)) nd_L_law_550 ⟨by show cells + 1 + 0 ≤ 1042; omega, by show slots + 6 + 0 ≤ 13474; omega⟩) hP hD hS hA (fun H locs hP hD hS => ?_)
  refine lv_istore (lv' := [(6, .int r), (5, .int k), (4, .int i), (3, .ref o), (2, .ref (hm 0)), (1, .ref (hs 0)), (0, .ref b)]) hx hb nd_L_law_553 hl (by decide) rfl (fun ls hl => ?_)
  refine lv_aload_n hx hb nd_L_law_555 rfl (lv_at hl 4 rfl) ?_
  refine my_cj (wd := wMD hm cM) (u' := v1) (r := v1 0 0) (Y := wSC hs cS u1 ++ wO o (cS 2) f1) (va_runV (As := []) (rest := []) ⟨hx, hb, hml, hown, htg⟩ (c_D_thrown l D hm cM v1 (v1 0 0) rfl _) ⟨callB_of 0 htg (gw_in gw_472) rfl rfl rfl (htg _ gw_6) (htg _ gw_469) nh_D_thrown ⟨Nat.le_of_ble_eq_true rfl, Nat.le_of_ble_eq_true rfl⟩, (htg _ gw_470), (htg _ gw_471)⟩ (my_preV nwOk (my_Pl hP) hKm (my_Dl hD) hN (va_recv hKm (my_Pl hP) (ci := 5) (q0 := 0) rfl rfl)) rfl rfl hl.1 rfl (lv_room (Nat.le_of_ble_eq_true rfl)) nd_L_law_556 ⟨by show cells + 1 + 0 ≤ 1042; omega, by show slots + 6 + 0 ≤ 13474; omega⟩) hP hD hS hA (fun H locs hP hD hS => ?_)
  have hP := my_pP pm_M hP
  have hD := my_pD pm_M hD
  refine lv_iload hx hb nd_L_law_559 (lv_at hl 1 rfl) ?_
  refine lv_icmp_eq (tgt := 566) hx hb nd_L_law_561 (by decide) (fun _ => ?_) (fun h9 => absurd hk h9)
  refine lv_iload hx hb nd_L_law_566 (lv_at hl 1 rfl) ?_
  refine lv_if_ne (tgt := 583) hx hb nd_L_law_568 (by decide) (fun h9 => ?_) (fun h9 => ?_)
  · refine lv_goto (tgt := 586) hx hb nd_L_law_583 (by decide) ?_
    exact kk _ _ _ H locs ls hR1 hP hD hS (lv_sub hl [2, 3, 4, 5, 6] rfl)
  have hcase := hcase.elim (fun z => z.2) (fun z => absurd (z.symm.trans h9) (by decide))
  refine lv_aload_n hx hb nd_L_law_571 rfl (lv_at hl 3 rfl) ?_
  refine lv_iconst (v := (0 : Int32)) hx hb nd_L_law_572 (by decide) ?_
  refine va_lald hx hb hK hP 10 2 rfl rfl my_in01 nd_L_law_573 ?_
  refine lv_iload hx hb nd_L_law_574 (lv_at hl 0 rfl) ?_
  refine lv_i2l (v := r.toInt64) hx hb nd_L_law_576 rfl ?_
  refine W.lcmp hx hb nd_L_law_577 ?_
  have hz0 : lg_cmp (f1 (0 : Int32).toNatClampNeg) r.toInt64 = 0 := by
    rw [show f1 (0 : Int32).toNatClampNeg = r.toInt64 from hcase]
    exact lg_cmp_self _
  refine lv_if_eq (tgt := 583) hx hb nd_L_law_578 (by decide) (fun _ => ?_) (fun h9 => absurd hz0 h9)
  refine lv_goto (tgt := 586) hx hb nd_L_law_583 (by decide) ?_
  exact kk _ _ _ H locs ls hR1 hP hD hS (lv_sub hl [2, 3, 4, 5, 6] rfl)
