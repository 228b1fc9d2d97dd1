set_option maxHeartbeats 4000000 in
set_option maxRecDepth 100000 in
theorem c_D_byRegisters (l : Launch) (D : va_G) (h : Nat → Nat) (cA : Nat → ClassId) (u : St) (F : St) (hw : f_D_byRegisters u = some F) : MV nwS vwCl l ny_D_byRegisters nw_D_byRegisters ({ frames := 2, cells := 0, slots := 0, locals := 44 }) D (tyI cA) (wMD h cA) ([.ref (h 0)] : List Value) u F := by
  refine my_in (gw := GW) (cc := nc_D_byRegisters) (maxL := 2) (ret := none) (Qc := fun A => QV vwCl D (tyI cA) (wMD h cA) F A) (by decide) rfl (Nat.le_of_ble_eq_true rfl) ?_
  intro p e s m below meth c A H locs ls hx hb hml hr hts hown hlocks hK hN hA hP hD hS hl
  have hown : s.vm.findClass nR_D = some m.cls := hown
  have hl : lv_has ls 2 [(0, .ref (h 0))] := hl
  have J172 : ∀ (x1 : Int32) (u : St) (H : Heap) (locs : List Loc) (ls : Array Slot), va_P D vwCl (wMD h cA u) H → va_D A (wMD h cA u) → va_S A s.heap H locs → lv_has ls 2 [(0, .ref (h 0)), (1, .int x1)] → f_D_byRegisters_b172 x1 u = some F →
      W p l e (headSpec nw_D_byRegisters ({ frames := 2, cells := 0, slots := 0, locals := 44 })).room s m ([.ref (h 0)] : List Value).toArray below meth c H locs 0 0 (MQ below (QV vwCl D (tyI cA) (wMD h cA) F A) ([.ref (h 0)] : List Value).toArray s 0 0 A) (F0 m 172 ls []) := by
    intro x1 u H locs ls hP hD hS hl hw
    unfold f_D_byRegisters_b172 at hw
    refine lv_aload_n hx hb nd_D_byRegisters_172 rfl (lv_at hl 0 rfl) ?_
    refine lv_aload_n hx hb nd_D_byRegisters_173 rfl (lv_at hl 0 rfl) ?_
    refine va_get (D := D) (ci := 5) (v := .int (u 0 19)) (C := nR_D) (T := nT_D) (N := 28) hx hb hts nu_D hown hK hP 0 rfl rfl 19 (by decide) (hts _ gw_433) (fun _ h9 => h9) rfl nd_D_byRegisters_174 ?_
    refine va_put (D := D) (ci := 5) (v := .int (u 0 19)) (ty := .int) (C := nR_D) (T := nT_D) (N := 28) hx hb hts nu_D nt_D nto_D nn_D hown hK hP hD hS 0 rfl rfl 26 (by decide) (hts _ gw_440) (fun _ h9 => h9) rfl (by decide +kernel) rfl rfl (Nat.le_of_ble_eq_true rfl) nd_D_byRegisters_177 (fun H locs hP hD hS => ?_)
    have hP : va_P D vwCl (wMD h cA (sU u 0 26 (u 0 19))) H := hP
    have hD : va_D A (wMD h cA (sU u 0 26 (u 0 19))) := hD
    refine lv_aload_n hx hb nd_D_byRegisters_180 rfl (lv_at hl 0 rfl) ?_
    refine va_get (D := D) (ci := 5) (v := .int (u 0 21)) (C := nR_D) (T := nT_D) (N := 28) hx hb hts nu_D hown hK hP 0 rfl rfl 21 (by decide) (hts _ gw_435) (fun _ h9 => h9) rfl nd_D_byRegisters_181 ?_
    refine lv_bipush (v := (9 : Int32)) hx hb nd_D_byRegisters_184 (by decide) ?_
    refine lv_icmp_ne (tgt := 463) hx hb nd_D_byRegisters_186 (by decide) (fun h186 => ?_) (fun h186 => ?_)
    · have hw := (if_neg h186).symm.trans hw
      exact my_rv (u' := sU u 0 26 (u 0 19)) hx hb hr hlocks hK hP hD hS (Option.some.inj hw) nd_D_byRegisters_463
    have hw := (if_pos h186).symm.trans hw
    refine lv_aload_n hx hb nd_D_byRegisters_189 rfl (lv_at hl 0 rfl) ?_
    refine lv_iload_n hx hb nd_D_byRegisters_190 rfl (lv_at hl 1 rfl) ?_
    refine lv_aload_n hx hb nd_D_byRegisters_191 rfl (lv_at hl 0 rfl) ?_
    refine va_get (D := D) (ci := 5) (v := .int (u 0 3)) (C := nR_D) (T := nT_D) (N := 28) hx hb hts nu_D hown hK hP 0 rfl rfl 3 (by decide) (hts _ gw_417) (fun _ h9 => h9) rfl nd_D_byRegisters_192 ?_
    refine lv_bipush (v := (8 : Int32)) hx hb nd_D_byRegisters_195 (by decide) ?_
    refine lv_iadd hx hb nd_D_byRegisters_197 ?_
    obtain ⟨u198, hq198, hw⟩ := bnv_i hw
    refine my_cv (wd := wMD h cA) (F := u198) (va_runV (As := [.int x1, .int ((u 0 3) + (8 : Int32))]) (rest := []) ⟨hx, hb, hml, hown, hts⟩ (c_D_gives l D h cA (sU u 0 26 (u 0 19)) x1 ((u 0 3) + (8 : Int32)) u198 hq198 _) ⟨callB_of 2 hts (gw_in gw_601) rfl rfl rfl (hts _ gw_6) (hts _ gw_598) nh_D_gives ⟨Nat.le_of_ble_eq_true rfl, Nat.le_of_ble_eq_true rfl⟩, (hts _ gw_600), (hts _ gw_599)⟩ (my_preV nwOk hP hK hD hN (va_recv hK hP (ci := 5) (q0 := 0) rfl rfl)) rfl rfl hl.1 rfl (lv_room (Nat.le_of_ble_eq_true rfl)) nd_D_byRegisters_198 ⟨Nat.le_of_ble_eq_true rfl, Nat.le_of_ble_eq_true rfl⟩) hD hS hA (fun H locs hP hD hS => ?_)
    refine lv_goto (tgt := 463) hx hb nd_D_byRegisters_201 (by decide) ?_
    exact my_rv (u' := u198) hx hb hr hlocks hK hP hD hS (Option.some.inj hw) nd_D_byRegisters_463
  have J226 : ∀ (y0 : Int32) (y2 : Int32) (u : St) (H : Heap) (locs : List Loc) (ls : Array Slot), va_P D vwCl (wMD h cA u) H → va_D A (wMD h cA u) → va_S A s.heap H locs → lv_has ls 2 [] → f_D_byRegisters_b226 y0 y2 u = some F →
      W p l e (headSpec nw_D_byRegisters ({ frames := 2, cells := 0, slots := 0, locals := 44 })).room s m ([.ref (h 0)] : List Value).toArray below meth c H locs 0 0 (MQ below (QV vwCl D (tyI cA) (wMD h cA) F A) ([.ref (h 0)] : List Value).toArray s 0 0 A) (F0 m 226 ls [.int y0, .ref (h 2), .int y2, .ref (h 0)]) := by
    intro y0 y2 u H locs ls hP hD hS hl hw
    unfold f_D_byRegisters_b226 at hw
    obtain ⟨hi226, hw⟩ := inb_i hw
    refine va_iald hx hb hK hP 2 1 rfl rfl hi226 nd_D_byRegisters_226 ?_
    obtain ⟨u227, hq227, hw⟩ := bnv_i hw
    refine my_cv (wd := wMD h cA) (F := u227) (va_runV (As := [.int y2, .int ((u 2) y0.toNatClampNeg)]) (rest := []) ⟨hx, hb, hml, hown, hts⟩ (c_D_gives l D h cA u y2 ((u 2) y0.toNatClampNeg) u227 hq227 _) ⟨callB_of 2 hts (gw_in gw_601) rfl rfl rfl (hts _ gw_6) (hts _ gw_598) nh_D_gives ⟨Nat.le_of_ble_eq_true rfl, Nat.le_of_ble_eq_true rfl⟩, (hts _ gw_600), (hts _ gw_599)⟩ (my_preV nwOk hP hK hD hN (va_recv hK hP (ci := 5) (q0 := 0) rfl rfl)) rfl rfl hl.1 rfl (lv_room (Nat.le_of_ble_eq_true rfl)) nd_D_byRegisters_227 ⟨Nat.le_of_ble_eq_true rfl, Nat.le_of_ble_eq_true rfl⟩) hD hS hA (fun H locs hP hD hS => ?_)
    refine lv_goto (tgt := 463) hx hb nd_D_byRegisters_230 (by decide) ?_
    exact my_rv (u' := u227) hx hb hr hlocks hK hP hD hS (Option.some.inj hw) nd_D_byRegisters_463
  have J204 : ∀ (x1 : Int32) (u : St) (H : Heap) (locs : List Loc) (ls : Array Slot), va_P D vwCl (wMD h cA u) H → va_D A (wMD h cA u) → va_S A s.heap H locs → lv_has ls 2 [(0, .ref (h 0)), (1, .int x1)] → f_D_byRegisters_b204 x1 u = some F →
      W p l e (headSpec nw_D_byRegisters ({ frames := 2, cells := 0, slots := 0, locals := 44 })).room s m ([.ref (h 0)] : List Value).toArray below meth c H locs 0 0 (MQ below (QV vwCl D (tyI cA) (wMD h cA) F A) ([.ref (h 0)] : List Value).toArray s 0 0 A) (F0 m 204 ls []) := by
    intro x1 u H locs ls hP hD hS hl hw
    unfold f_D_byRegisters_b204 at hw
    refine lv_aload_n hx hb nd_D_byRegisters_204 rfl (lv_at hl 0 rfl) ?_
    refine lv_iload_n hx hb nd_D_byRegisters_205 rfl (lv_at hl 1 rfl) ?_
    refine lv_aload_n hx hb nd_D_byRegisters_206 rfl (lv_at hl 0 rfl) ?_
    refine va_get (D := D) (ci := 5) (v := .ref (h 2)) (C := nR_D) (T := nT_D) (N := 28) hx hb hts nu_D hown hK hP 0 rfl rfl 2 (by decide) (hts _ gw_416) (fun _ h9 => h9) rfl nd_D_byRegisters_207 ?_
    refine lv_aload_n hx hb nd_D_byRegisters_210 rfl (lv_at hl 0 rfl) ?_
    refine va_get (D := D) (ci := 5) (v := .int (u 0 21)) (C := nR_D) (T := nT_D) (N := 28) hx hb hts nu_D hown hK hP 0 rfl rfl 21 (by decide) (hts _ gw_435) (fun _ h9 => h9) rfl nd_D_byRegisters_211 ?_
    refine lv_bipush (v := (16 : Int32)) hx hb nd_D_byRegisters_214 (by decide) ?_
    refine lv_icmp_ne (tgt := 224) hx hb nd_D_byRegisters_216 (by decide) (fun h216 => ?_) (fun h216 => ?_)
    · have hw := (if_neg h216).symm.trans hw
      refine lv_bipush (v := (33 : Int32)) hx hb nd_D_byRegisters_224 (by decide) ?_
      exact J226 (33 : Int32) x1 u H locs ls hP hD hS (lv_sub hl [] rfl) hw
    have hw := (if_pos h216).symm.trans hw
    refine lv_bipush (v := (32 : Int32)) hx hb nd_D_byRegisters_219 (by decide) ?_
    refine lv_goto (tgt := 226) hx hb nd_D_byRegisters_221 (by decide) ?_
    exact J226 (32 : Int32) x1 u H locs ls hP hD hS (lv_sub hl [] rfl) hw
  have J253 : ∀ (y0 : Int32) (u : St) (H : Heap) (locs : List Loc) (ls : Array Slot), va_P D vwCl (wMD h cA u) H → va_D A (wMD h cA u) → va_S A s.heap H locs → lv_has ls 2 [(0, .ref (h 0))] → f_D_byRegisters_b253 y0 u = some F →
      W p l e (headSpec nw_D_byRegisters ({ frames := 2, cells := 0, slots := 0, locals := 44 })).room s m ([.ref (h 0)] : List Value).toArray below meth c H locs 0 0 (MQ below (QV vwCl D (tyI cA) (wMD h cA) F A) ([.ref (h 0)] : List Value).toArray s 0 0 A) (F0 m 253 ls [.int y0, .ref (h 2)]) := by
    intro y0 u H locs ls hP hD hS hl hw
    unfold f_D_byRegisters_b253 at hw
    refine lv_aload_n hx hb nd_D_byRegisters_253 rfl (lv_at hl 0 rfl) ?_
    refine va_get (D := D) (ci := 5) (v := .int (u 0 19)) (C := nR_D) (T := nT_D) (N := 28) hx hb hts nu_D hown hK hP 0 rfl rfl 19 (by decide) (hts _ gw_433) (fun _ h9 => h9) rfl nd_D_byRegisters_254 ?_
    obtain ⟨hi257, hw⟩ := inb_i hw
    refine st_MD2 hx hb hK hP hD hS hi257 nd_D_byRegisters_257 (fun H locs hP hD hS => ?_)
    have hP : va_P D vwCl (wMD h cA (sU u 2 y0.toNatClampNeg (u 0 19))) H := hP
    have hD : va_D A (wMD h cA (sU u 2 y0.toNatClampNeg (u 0 19))) := hD
    refine lv_goto (tgt := 463) hx hb nd_D_byRegisters_258 (by decide) ?_
    exact my_rv (u' := sU u 2 y0.toNatClampNeg (u 0 19)) hx hb hr hlocks hK hP hD hS (Option.some.inj hw) nd_D_byRegisters_463
  have J233 : ∀ (u : St) (H : Heap) (locs : List Loc) (ls : Array Slot), va_P D vwCl (wMD h cA u) H → va_D A (wMD h cA u) → va_S A s.heap H locs → lv_has ls 2 [(0, .ref (h 0))] → f_D_byRegisters_b233 u = some F →
      W p l e (headSpec nw_D_byRegisters ({ frames := 2, cells := 0, slots := 0, locals := 44 })).room s m ([.ref (h 0)] : List Value).toArray below meth c H locs 0 0 (MQ below (QV vwCl D (tyI cA) (wMD h cA) F A) ([.ref (h 0)] : List Value).toArray s 0 0 A) (F0 m 233 ls []) := by
    intro u H locs ls hP hD hS hl hw
    unfold f_D_byRegisters_b233 at hw
    refine lv_aload_n hx hb nd_D_byRegisters_233 rfl (lv_at hl 0 rfl) ?_
    refine va_get (D := D) (ci := 5) (v := .ref (h 2)) (C := nR_D) (T := nT_D) (N := 28) hx hb hts nu_D hown hK hP 0 rfl rfl 2 (by decide) (hts _ gw_416) (fun _ h9 => h9) rfl nd_D_byRegisters_234 ?_
    refine lv_aload_n hx hb nd_D_byRegisters_237 rfl (lv_at hl 0 rfl) ?_
    refine va_get (D := D) (ci := 5) (v := .int (u 0 21)) (C := nR_D) (T := nT_D) (N := 28) hx hb hts nu_D hown hK hP 0 rfl rfl 21 (by decide) (hts _ gw_435) (fun _ h9 => h9) rfl nd_D_byRegisters_238 ?_
    refine lv_bipush (v := (17 : Int32)) hx hb nd_D_byRegisters_241 (by decide) ?_
    refine lv_icmp_ne (tgt := 251) hx hb nd_D_byRegisters_243 (by decide) (fun h243 => ?_) (fun h243 => ?_)
    · have hw := (if_neg h243).symm.trans hw
      refine lv_bipush (v := (33 : Int32)) hx hb nd_D_byRegisters_251 (by decide) ?_
      exact J253 (33 : Int32) u H locs ls hP hD hS (lv_sub hl [0] rfl) hw
    have hw := (if_pos h243).symm.trans hw
    refine lv_bipush (v := (32 : Int32)) hx hb nd_D_byRegisters_246 (by decide) ?_
    refine lv_goto (tgt := 253) hx hb nd_D_byRegisters_248 (by decide) ?_
    exact J253 (32 : Int32) u H locs ls hP hD hS (lv_sub hl [0] rfl) hw
  have J276 : ∀ (y0 : Int32) (u : St) (H : Heap) (locs : List Loc) (ls : Array Slot), va_P D vwCl (wMD h cA u) H → va_D A (wMD h cA u) → va_S A s.heap H locs → lv_has ls 2 [] → f_D_byRegisters_b276 y0 u = some F →
      W p l e (headSpec nw_D_byRegisters ({ frames := 2, cells := 0, slots := 0, locals := 44 })).room s m ([.ref (h 0)] : List Value).toArray below meth c H locs 0 0 (MQ below (QV vwCl D (tyI cA) (wMD h cA) F A) ([.ref (h 0)] : List Value).toArray s 0 0 A) (F0 m 276 ls [.int (zb y0), .ref (h 0)]) := by
    intro y0 u H locs ls hP hD hS hl hw
    unfold f_D_byRegisters_b276 at hw
    obtain ⟨u276, hq276, hw⟩ := bnv_i hw
    refine my_cv (wd := wMD h cA) (F := u276) (va_runV (As := [.int (zb y0)]) (rest := []) ⟨hx, hb, hml, hown, hts⟩ (c_D_multiply l D h cA u y0 u276 hq276 _) ⟨callB_of 1 hts (gw_in gw_605) rfl rfl rfl (hts _ gw_6) (hts _ gw_602) nh_D_multiply ⟨Nat.le_of_ble_eq_true rfl, Nat.le_of_ble_eq_true rfl⟩, (hts _ gw_604), (hts _ gw_603)⟩ (my_preV nwOk hP hK hD hN (va_recv hK hP (ci := 5) (q0 := 0) rfl rfl)) rfl rfl hl.1 rfl (lv_room (Nat.le_of_ble_eq_true rfl)) nd_D_byRegisters_276 ⟨Nat.le_of_ble_eq_true rfl, Nat.le_of_ble_eq_true rfl⟩) hD hS hA (fun H locs hP hD hS => ?_)
    refine lv_goto (tgt := 463) hx hb nd_D_byRegisters_279 (by decide) ?_
    exact my_rv (u' := u276) hx hb hr hlocks hK hP hD hS (Option.some.inj hw) nd_D_byRegisters_463
  have J261 : ∀ (u : St) (H : Heap) (locs : List Loc) (ls : Array Slot), va_P D vwCl (wMD h cA u) H → va_D A (wMD h cA u) → va_S A s.heap H locs → lv_has ls 2 [(0, .ref (h 0))] → f_D_byRegisters_b261 u = some F →
      W p l e (headSpec nw_D_byRegisters ({ frames := 2, cells := 0, slots := 0, locals := 44 })).room s m ([.ref (h 0)] : List Value).toArray below meth c H locs 0 0 (MQ below (QV vwCl D (tyI cA) (wMD h cA) F A) ([.ref (h 0)] : List Value).toArray s 0 0 A) (F0 m 261 ls []) := by
    intro u H locs ls hP hD hS hl hw
    unfold f_D_byRegisters_b261 at hw
    refine lv_aload_n hx hb nd_D_byRegisters_261 rfl (lv_at hl 0 rfl) ?_
    refine lv_aload_n hx hb nd_D_byRegisters_262 rfl (lv_at hl 0 rfl) ?_
    refine va_get (D := D) (ci := 5) (v := .int (u 0 21)) (C := nR_D) (T := nT_D) (N := 28) hx hb hts nu_D hown hK hP 0 rfl rfl 21 (by decide) (hts _ gw_435) (fun _ h9 => h9) rfl nd_D_byRegisters_263 ?_
    refine lv_bipush (v := (24 : Int32)) hx hb nd_D_byRegisters_266 (by decide) ?_
    refine lv_icmp_ne (tgt := 275) hx hb nd_D_byRegisters_268 (by decide) (fun h268 => ?_) (fun h268 => ?_)
    · have hw := (if_neg h268).symm.trans hw
      refine lv_iconst (v := (0 : Int32)) hx hb nd_D_byRegisters_275 (by decide) ?_
      exact J276 (0 : Int32) u H locs ls hP hD hS (lv_sub hl [] rfl) hw
    have hw := (if_pos h268).symm.trans hw
    refine lv_iconst (v := (1 : Int32)) hx hb nd_D_byRegisters_271 (by decide) ?_
    refine lv_goto (tgt := 276) hx hb nd_D_byRegisters_272 (by decide) ?_
    exact J276 (1 : Int32) u H locs ls hP hD hS (lv_sub hl [] rfl) hw
  have J297 : ∀ (y0 : Int32) (u : St) (H : Heap) (locs : List Loc) (ls : Array Slot), va_P D vwCl (wMD h cA u) H → va_D A (wMD h cA u) → va_S A s.heap H locs → lv_has ls 2 [] → f_D_byRegisters_b297 y0 u = some F →
      W p l e (headSpec nw_D_byRegisters ({ frames := 2, cells := 0, slots := 0, locals := 44 })).room s m ([.ref (h 0)] : List Value).toArray below meth c H locs 0 0 (MQ below (QV vwCl D (tyI cA) (wMD h cA) F A) ([.ref (h 0)] : List Value).toArray s 0 0 A) (F0 m 297 ls [.int (zb y0), .ref (h 0)]) := by
    intro y0 u H locs ls hP hD hS hl hw
    unfold f_D_byRegisters_b297 at hw
    obtain ⟨u297, hq297, hw⟩ := obv_i hw
    refine my_cv (wd := wMD h cA) (F := u297) (va_runV (As := [.int (zb y0)]) (rest := []) ⟨hx, hb, hml, hown, hts⟩ (c_D_divide l D h cA u y0 u297 hq297 _) ⟨callB_of 1 hts (gw_in gw_610) rfl rfl rfl (hts _ gw_6) (hts _ gw_607) nh_D_divide ⟨Nat.le_of_ble_eq_true rfl, Nat.le_of_ble_eq_true rfl⟩, (hts _ gw_609), (hts _ gw_608)⟩ (my_preV nwOk hP hK hD hN (va_recv hK hP (ci := 5) (q0 := 0) rfl rfl)) rfl rfl hl.1 rfl (lv_room (Nat.le_of_ble_eq_true rfl)) nd_D_byRegisters_297 ⟨Nat.le_of_ble_eq_true rfl, Nat.le_of_ble_eq_true rfl⟩) hD hS hA (fun H locs hP hD hS => ?_)
    refine lv_goto (tgt := 463) hx hb nd_D_byRegisters_300 (by decide) ?_
    exact my_rv (u' := u297) hx hb hr hlocks hK hP hD hS (Option.some.inj hw) nd_D_byRegisters_463
  have J282 : ∀ (u : St) (H : Heap) (locs : List Loc) (ls : Array Slot), va_P D vwCl (wMD h cA u) H → va_D A (wMD h cA u) → va_S A s.heap H locs → lv_has ls 2 [(0, .ref (h 0))] → f_D_byRegisters_b282 u = some F →
      W p l e (headSpec nw_D_byRegisters ({ frames := 2, cells := 0, slots := 0, locals := 44 })).room s m ([.ref (h 0)] : List Value).toArray below meth c H locs 0 0 (MQ below (QV vwCl D (tyI cA) (wMD h cA) F A) ([.ref (h 0)] : List Value).toArray s 0 0 A) (F0 m 282 ls []) := by
    intro u H locs ls hP hD hS hl hw
    unfold f_D_byRegisters_b282 at hw
    refine lv_aload_n hx hb nd_D_byRegisters_282 rfl (lv_at hl 0 rfl) ?_
    refine lv_aload_n hx hb nd_D_byRegisters_283 rfl (lv_at hl 0 rfl) ?_
    refine va_get (D := D) (ci := 5) (v := .int (u 0 21)) (C := nR_D) (T := nT_D) (N := 28) hx hb hts nu_D hown hK hP 0 rfl rfl 21 (by decide) (hts _ gw_435) (fun _ h9 => h9) rfl nd_D_byRegisters_284 ?_
    refine lv_bipush (v := (26 : Int32)) hx hb nd_D_byRegisters_287 (by decide) ?_
    refine lv_icmp_ne (tgt := 296) hx hb nd_D_byRegisters_289 (by decide) (fun h289 => ?_) (fun h289 => ?_)
    · have hw := (if_neg h289).symm.trans hw
      refine lv_iconst (v := (0 : Int32)) hx hb nd_D_byRegisters_296 (by decide) ?_
      exact J297 (0 : Int32) u H locs ls hP hD hS (lv_sub hl [] rfl) hw
    have hw := (if_pos h289).symm.trans hw
    refine lv_iconst (v := (1 : Int32)) hx hb nd_D_byRegisters_292 (by decide) ?_
    refine lv_goto (tgt := 297) hx hb nd_D_byRegisters_293 (by decide) ?_
    exact J297 (1 : Int32) u H locs ls hP hD hS (lv_sub hl [] rfl) hw
  have J303 : ∀ (x1 : Int32) (u : St) (H : Heap) (locs : List Loc) (ls : Array Slot), va_P D vwCl (wMD h cA u) H → va_D A (wMD h cA u) → va_S A s.heap H locs → lv_has ls 2 [(0, .ref (h 0)), (1, .int x1)] → f_D_byRegisters_b303 x1 u = some F →
      W p l e (headSpec nw_D_byRegisters ({ frames := 2, cells := 0, slots := 0, locals := 44 })).room s m ([.ref (h 0)] : List Value).toArray below meth c H locs 0 0 (MQ below (QV vwCl D (tyI cA) (wMD h cA) F A) ([.ref (h 0)] : List Value).toArray s 0 0 A) (F0 m 303 ls []) := by
    intro x1 u H locs ls hP hD hS hl hw
    unfold f_D_byRegisters_b303 at hw
    refine lv_aload_n hx hb nd_D_byRegisters_303 rfl (lv_at hl 0 rfl) ?_
    refine lv_iload_n hx hb nd_D_byRegisters_304 rfl (lv_at hl 1 rfl) ?_
    refine lv_aload_n hx hb nd_D_byRegisters_305 rfl (lv_at hl 0 rfl) ?_
    refine va_get (D := D) (ci := 5) (v := .int (u 0 19)) (C := nR_D) (T := nT_D) (N := 28) hx hb hts nu_D hown hK hP 0 rfl rfl 19 (by decide) (hts _ gw_433) (fun _ h9 => h9) rfl nd_D_byRegisters_306 ?_
    refine lv_aload_n hx hb nd_D_byRegisters_309 rfl (lv_at hl 0 rfl) ?_
    refine va_get (D := D) (ci := 5) (v := .int (u 0 20)) (C := nR_D) (T := nT_D) (N := 28) hx hb hts nu_D hown hK hP 0 rfl rfl 20 (by decide) (hts _ gw_434) (fun _ h9 => h9) rfl nd_D_byRegisters_310 ?_
    refine lv_iadd hx hb nd_D_byRegisters_313 ?_
    obtain ⟨u314, hq314, hw⟩ := bnv_i hw
    refine my_cv (wd := wMD h cA) (F := u314) (va_runV (As := [.int x1, .int ((u 0 19) + (u 0 20))]) (rest := []) ⟨hx, hb, hml, hown, hts⟩ (c_D_gives l D h cA u x1 ((u 0 19) + (u 0 20)) u314 hq314 _) ⟨callB_of 2 hts (gw_in gw_601) rfl rfl rfl (hts _ gw_6) (hts _ gw_598) nh_D_gives ⟨Nat.le_of_ble_eq_true rfl, Nat.le_of_ble_eq_true rfl⟩, (hts _ gw_600), (hts _ gw_599)⟩ (my_preV nwOk hP hK hD hN (va_recv hK hP (ci := 5) (q0 := 0) rfl rfl)) rfl rfl hl.1 rfl (lv_room (Nat.le_of_ble_eq_true rfl)) nd_D_byRegisters_314 ⟨Nat.le_of_ble_eq_true rfl, Nat.le_of_ble_eq_true rfl⟩) hD hS hA (fun H locs hP hD hS => ?_)
    refine lv_goto (tgt := 463) hx hb nd_D_byRegisters_317 (by decide) ?_
    exact my_rv (u' := u314) hx hb hr hlocks hK hP hD hS (Option.some.inj hw) nd_D_byRegisters_463
  have J320 : ∀ (x1 : Int32) (u : St) (H : Heap) (locs : List Loc) (ls : Array Slot), va_P D vwCl (wMD h cA u) H → va_D A (wMD h cA u) → va_S A s.heap H locs → lv_has ls 2 [(0, .ref (h 0)), (1, .int x1)] → f_D_byRegisters_b320 x1 u = some F →
      W p l e (headSpec nw_D_byRegisters ({ frames := 2, cells := 0, slots := 0, locals := 44 })).room s m ([.ref (h 0)] : List Value).toArray below meth c H locs 0 0 (MQ below (QV vwCl D (tyI cA) (wMD h cA) F A) ([.ref (h 0)] : List Value).toArray s 0 0 A) (F0 m 320 ls []) := by
    intro x1 u H locs ls hP hD hS hl hw
    unfold f_D_byRegisters_b320 at hw
    refine lv_aload_n hx hb nd_D_byRegisters_320 rfl (lv_at hl 0 rfl) ?_
    refine lv_iload_n hx hb nd_D_byRegisters_321 rfl (lv_at hl 1 rfl) ?_
    refine lv_aload_n hx hb nd_D_byRegisters_322 rfl (lv_at hl 0 rfl) ?_
    refine va_get (D := D) (ci := 5) (v := .int (u 0 19)) (C := nR_D) (T := nT_D) (N := 28) hx hb hts nu_D hown hK hP 0 rfl rfl 19 (by decide) (hts _ gw_433) (fun _ h9 => h9) rfl nd_D_byRegisters_323 ?_
    refine lv_aload_n hx hb nd_D_byRegisters_326 rfl (lv_at hl 0 rfl) ?_
    refine va_get (D := D) (ci := 5) (v := .int (u 0 20)) (C := nR_D) (T := nT_D) (N := 28) hx hb hts nu_D hown hK hP 0 rfl rfl 20 (by decide) (hts _ gw_434) (fun _ h9 => h9) rfl nd_D_byRegisters_327 ?_
    refine lv_isub hx hb nd_D_byRegisters_330 ?_
    obtain ⟨u331, hq331, hw⟩ := bnv_i hw
    refine my_cv (wd := wMD h cA) (F := u331) (va_runV (As := [.int x1, .int ((u 0 19) - (u 0 20))]) (rest := []) ⟨hx, hb, hml, hown, hts⟩ (c_D_gives l D h cA u x1 ((u 0 19) - (u 0 20)) u331 hq331 _) ⟨callB_of 2 hts (gw_in gw_601) rfl rfl rfl (hts _ gw_6) (hts _ gw_598) nh_D_gives ⟨Nat.le_of_ble_eq_true rfl, Nat.le_of_ble_eq_true rfl⟩, (hts _ gw_600), (hts _ gw_599)⟩ (my_preV nwOk hP hK hD hN (va_recv hK hP (ci := 5) (q0 := 0) rfl rfl)) rfl rfl hl.1 rfl (lv_room (Nat.le_of_ble_eq_true rfl)) nd_D_byRegisters_331 ⟨Nat.le_of_ble_eq_true rfl, Nat.le_of_ble_eq_true rfl⟩) hD hS hA (fun H locs hP hD hS => ?_)
    refine lv_goto (tgt := 463) hx hb nd_D_byRegisters_334 (by decide) ?_
    exact my_rv (u' := u331) hx hb hr hlocks hK hP hD hS (Option.some.inj hw) nd_D_byRegisters_463
  have J425 : ∀ (y0 : Int32) (y1 : Int32) (u : St) (H : Heap) (locs : List Loc) (ls : Array Slot), va_P D vwCl (wMD h cA u) H → va_D A (wMD h cA u) → va_S A s.heap H locs → lv_has ls 2 [] → f_D_byRegisters_b425 y0 y1 u = some F →
      W p l e (headSpec nw_D_byRegisters ({ frames := 2, cells := 0, slots := 0, locals := 44 })).room s m ([.ref (h 0)] : List Value).toArray below meth c H locs 0 0 (MQ below (QV vwCl D (tyI cA) (wMD h cA) F A) ([.ref (h 0)] : List Value).toArray s 0 0 A) (F0 m 425 ls [.int y0, .int y1, .ref (h 0)]) := by
    intro y0 y1 u H locs ls hP hD hS hl hw
    unfold f_D_byRegisters_b425 at hw
    obtain ⟨u425, hq425, hw⟩ := bnv_i hw
    refine my_cv (wd := wMD h cA) (F := u425) (va_runV (As := [.int y1, .int y0]) (rest := []) ⟨hx, hb, hml, hown, hts⟩ (c_D_gives l D h cA u y1 y0 u425 hq425 _) ⟨callB_of 2 hts (gw_in gw_601) rfl rfl rfl (hts _ gw_6) (hts _ gw_598) nh_D_gives ⟨Nat.le_of_ble_eq_true rfl, Nat.le_of_ble_eq_true rfl⟩, (hts _ gw_600), (hts _ gw_599)⟩ (my_preV nwOk hP hK hD hN (va_recv hK hP (ci := 5) (q0 := 0) rfl rfl)) rfl rfl hl.1 rfl (lv_room (Nat.le_of_ble_eq_true rfl)) nd_D_byRegisters_425 ⟨Nat.le_of_ble_eq_true rfl, Nat.le_of_ble_eq_true rfl⟩) hD hS hA (fun H locs hP hD hS => ?_)
    refine lv_goto (tgt := 463) hx hb nd_D_byRegisters_428 (by decide) ?_
    exact my_rv (u' := u425) hx hb hr hlocks hK hP hD hS (Option.some.inj hw) nd_D_byRegisters_463
  have J452 : ∀ (y0 : Int32) (y1 : Int32) (u : St) (H : Heap) (locs : List Loc) (ls : Array Slot), va_P D vwCl (wMD h cA u) H → va_D A (wMD h cA u) → va_S A s.heap H locs → lv_has ls 2 [] → f_D_byRegisters_b452 y0 y1 u = some F →
      W p l e (headSpec nw_D_byRegisters ({ frames := 2, cells := 0, slots := 0, locals := 44 })).room s m ([.ref (h 0)] : List Value).toArray below meth c H locs 0 0 (MQ below (QV vwCl D (tyI cA) (wMD h cA) F A) ([.ref (h 0)] : List Value).toArray s 0 0 A) (F0 m 452 ls [.int y0, .int y1, .ref (h 0)]) := by
    intro y0 y1 u H locs ls hP hD hS hl hw
    unfold f_D_byRegisters_b452 at hw
    obtain ⟨u452, hq452, hw⟩ := bnv_i hw
    refine my_cv (wd := wMD h cA) (F := u452) (va_runV (As := [.int y1, .int y0]) (rest := []) ⟨hx, hb, hml, hown, hts⟩ (c_D_gives l D h cA u y1 y0 u452 hq452 _) ⟨callB_of 2 hts (gw_in gw_601) rfl rfl rfl (hts _ gw_6) (hts _ gw_598) nh_D_gives ⟨Nat.le_of_ble_eq_true rfl, Nat.le_of_ble_eq_true rfl⟩, (hts _ gw_600), (hts _ gw_599)⟩ (my_preV nwOk hP hK hD hN (va_recv hK hP (ci := 5) (q0 := 0) rfl rfl)) rfl rfl hl.1 rfl (lv_room (Nat.le_of_ble_eq_true rfl)) nd_D_byRegisters_452 ⟨Nat.le_of_ble_eq_true rfl, Nat.le_of_ble_eq_true rfl⟩) hD hS hA (fun H locs hP hD hS => ?_)
    refine lv_goto (tgt := 463) hx hb nd_D_byRegisters_455 (by decide) ?_
    exact my_rv (u' := u452) hx hb hr hlocks hK hP hD hS (Option.some.inj hw) nd_D_byRegisters_463
  have J458 : ∀ (x1 : Int32) (u : St) (H : Heap) (locs : List Loc) (ls : Array Slot), va_P D vwCl (wMD h cA u) H → va_D A (wMD h cA u) → va_S A s.heap H locs → lv_has ls 2 [(0, .ref (h 0)), (1, .int x1)] → f_D_byRegisters_b458 x1 u = some F →
      W p l e (headSpec nw_D_byRegisters ({ frames := 2, cells := 0, slots := 0, locals := 44 })).room s m ([.ref (h 0)] : List Value).toArray below meth c H locs 0 0 (MQ below (QV vwCl D (tyI cA) (wMD h cA) F A) ([.ref (h 0)] : List Value).toArray s 0 0 A) (F0 m 458 ls []) := by
    intro x1 u H locs ls hP hD hS hl hw
    unfold f_D_byRegisters_b458 at hw
    refine lv_aload_n hx hb nd_D_byRegisters_458 rfl (lv_at hl 0 rfl) ?_
    refine lv_iload_n hx hb nd_D_byRegisters_459 rfl (lv_at hl 1 rfl) ?_
    obtain ⟨u460, hq460, hw⟩ := bnv_i hw
    refine my_cv (wd := wMD h cA) (F := u460) (va_runV (As := [.int x1]) (rest := []) ⟨hx, hb, hml, hown, hts⟩ (c_D_shifts l D h cA u x1 u460 hq460 _) ⟨callB_of 1 hts (gw_in gw_617) rfl rfl rfl (hts _ gw_6) (hts _ gw_614) nh_D_shifts ⟨Nat.le_of_ble_eq_true rfl, Nat.le_of_ble_eq_true rfl⟩, (hts _ gw_616), (hts _ gw_615)⟩ (my_preV nwOk hP hK hD hN (va_recv hK hP (ci := 5) (q0 := 0) rfl rfl)) rfl rfl hl.1 rfl (lv_room (Nat.le_of_ble_eq_true rfl)) nd_D_byRegisters_460 ⟨Nat.le_of_ble_eq_true rfl, Nat.le_of_ble_eq_true rfl⟩) hD hS hA (fun H locs hP hD hS => ?_)
    exact my_rv (u' := u460) hx hb hr hlocks hK hP hD hS (Option.some.inj hw) nd_D_byRegisters_463
  unfold f_D_byRegisters at hw
  refine lv_aload_n hx hb nd_D_byRegisters_0 rfl (lv_at hl 0 rfl) ?_
  refine va_get (D := D) (ci := 5) (v := .int (u 0 17)) (C := nR_D) (T := nT_D) (N := 28) hx hb hts nu_D hown hK hP 0 rfl rfl 17 (by decide) (hts _ gw_431) (fun _ h9 => h9) rfl nd_D_byRegisters_1 ?_
  refine lv_bipush (v := (11 : Int32)) hx hb nd_D_byRegisters_4 (by decide) ?_
  refine lv_ishr hx hb nd_D_byRegisters_6 ?_
  refine lv_bipush (v := (31 : Int32)) hx hb nd_D_byRegisters_7 (by decide) ?_
  refine lv_iand hx hb nd_D_byRegisters_9 ?_
  refine lv_istore_n (lv' := [(1, .int (((u 0 17) >>> ((11 : Int32) &&& 31)) &&& (31 : Int32))), (0, .ref (h 0))]) hx hb nd_D_byRegisters_10 rfl hl (by decide) rfl (fun ls hl => ?_)
  refine lv_aload_n hx hb nd_D_byRegisters_11 rfl (lv_at hl 1 rfl) ?_
  refine va_get (D := D) (ci := 5) (v := .int (u 0 21)) (C := nR_D) (T := nT_D) (N := 28) hx hb hts nu_D hown hK hP 0 rfl rfl 21 (by decide) (hts _ gw_435) (fun _ h9 => h9) rfl nd_D_byRegisters_12 ?_
  rcases my_em (x := u 0 21) (8 : Int32) with h15_8 | h15_8
  · have hw := (if_pos h15_8).symm.trans hw
    refine my_swi (tgt := 172) hx hb nd_D_byRegisters_15 h15_8 (by decide) (by decide) rfl (by decide) ?_
    exact J172 (((u 0 17) >>> ((11 : Int32) &&& 31)) &&& (31 : Int32)) u H locs ls hP hD hS (lv_sub hl [1, 0] rfl) hw
  have hw := (if_neg h15_8).symm.trans hw
  rcases my_em (x := u 0 21) (9 : Int32) with h15_9 | h15_9
  · have hw := (if_pos h15_9).symm.trans hw
    refine my_swi (tgt := 172) hx hb nd_D_byRegisters_15 h15_9 (by decide) (by decide) rfl (by decide) ?_
    exact J172 (((u 0 17) >>> ((11 : Int32) &&& 31)) &&& (31 : Int32)) u H locs ls hP hD hS (lv_sub hl [1, 0] rfl) hw
  have hw := (if_neg h15_9).symm.trans hw
  rcases my_em (x := u 0 21) (16 : Int32) with h15_16 | h15_16
  · have hw := (if_pos h15_16).symm.trans hw
    refine my_swi (tgt := 204) hx hb nd_D_byRegisters_15 h15_16 (by decide) (by decide) rfl (by decide) ?_
    exact J204 (((u 0 17) >>> ((11 : Int32) &&& 31)) &&& (31 : Int32)) u H locs ls hP hD hS (lv_sub hl [1, 0] rfl) hw
  have hw := (if_neg h15_16).symm.trans hw
  rcases my_em (x := u 0 21) (17 : Int32) with h15_17 | h15_17
  · have hw := (if_pos h15_17).symm.trans hw
    refine my_swi (tgt := 233) hx hb nd_D_byRegisters_15 h15_17 (by decide) (by decide) rfl (by decide) ?_
    exact J233 u H locs ls hP hD hS (lv_sub hl [1] rfl) hw
  have hw := (if_neg h15_17).symm.trans hw
  rcases my_em (x := u 0 21) (18 : Int32) with h15_18 | h15_18
  · have hw := (if_pos h15_18).symm.trans hw
    refine my_swi (tgt := 204) hx hb nd_D_byRegisters_15 h15_18 (by decide) (by decide) rfl (by decide) ?_
    exact J204 (((u 0 17) >>> ((11 : Int32) &&& 31)) &&& (31 : Int32)) u H locs ls hP hD hS (lv_sub hl [1, 0] rfl) hw
  have hw := (if_neg h15_18).symm.trans hw
  rcases my_em (x := u 0 21) (19 : Int32) with h15_19 | h15_19
  · have hw := (if_pos h15_19).symm.trans hw
    refine my_swi (tgt := 233) hx hb nd_D_byRegisters_15 h15_19 (by decide) (by decide) rfl (by decide) ?_
    exact J233 u H locs ls hP hD hS (lv_sub hl [1] rfl) hw
  have hw := (if_neg h15_19).symm.trans hw
  rcases my_em (x := u 0 21) (24 : Int32) with h15_24 | h15_24
  · have hw := (if_pos h15_24).symm.trans hw
    refine my_swi (tgt := 261) hx hb nd_D_byRegisters_15 h15_24 (by decide) (by decide) rfl (by decide) ?_
    exact J261 u H locs ls hP hD hS (lv_sub hl [1] rfl) hw
  have hw := (if_neg h15_24).symm.trans hw
  rcases my_em (x := u 0 21) (25 : Int32) with h15_25 | h15_25
  · have hw := (if_pos h15_25).symm.trans hw
    refine my_swi (tgt := 261) hx hb nd_D_byRegisters_15 h15_25 (by decide) (by decide) rfl (by decide) ?_
    exact J261 u H locs ls hP hD hS (lv_sub hl [1] rfl) hw
  have hw := (if_neg h15_25).symm.trans hw
  rcases my_em (x := u 0 21) (26 : Int32) with h15_26 | h15_26
  · have hw := (if_pos h15_26).symm.trans hw
    refine my_swi (tgt := 282) hx hb nd_D_byRegisters_15 h15_26 (by decide) (by decide) rfl (by decide) ?_
    exact J282 u H locs ls hP hD hS (lv_sub hl [1] rfl) hw
  have hw := (if_neg h15_26).symm.trans hw
  rcases my_em (x := u 0 21) (27 : Int32) with h15_27 | h15_27
  · have hw := (if_pos h15_27).symm.trans hw
    refine my_swi (tgt := 282) hx hb nd_D_byRegisters_15 h15_27 (by decide) (by decide) rfl (by decide) ?_
    exact J282 u H locs ls hP hD hS (lv_sub hl [1] rfl) hw
  have hw := (if_neg h15_27).symm.trans hw
  rcases my_em (x := u 0 21) (32 : Int32) with h15_32 | h15_32
  · have hw := (if_pos h15_32).symm.trans hw
    refine my_swi (tgt := 303) hx hb nd_D_byRegisters_15 h15_32 (by decide) (by decide) rfl (by decide) ?_
    exact J303 (((u 0 17) >>> ((11 : Int32) &&& 31)) &&& (31 : Int32)) u H locs ls hP hD hS (lv_sub hl [1, 0] rfl) hw
  have hw := (if_neg h15_32).symm.trans hw
  rcases my_em (x := u 0 21) (33 : Int32) with h15_33 | h15_33
  · have hw := (if_pos h15_33).symm.trans hw
    refine my_swi (tgt := 303) hx hb nd_D_byRegisters_15 h15_33 (by decide) (by decide) rfl (by decide) ?_
    exact J303 (((u 0 17) >>> ((11 : Int32) &&& 31)) &&& (31 : Int32)) u H locs ls hP hD hS (lv_sub hl [1, 0] rfl) hw
  have hw := (if_neg h15_33).symm.trans hw
  rcases my_em (x := u 0 21) (34 : Int32) with h15_34 | h15_34
  · have hw := (if_pos h15_34).symm.trans hw
    refine my_swi (tgt := 320) hx hb nd_D_byRegisters_15 h15_34 (by decide) (by decide) rfl (by decide) ?_
    exact J320 (((u 0 17) >>> ((11 : Int32) &&& 31)) &&& (31 : Int32)) u H locs ls hP hD hS (lv_sub hl [1, 0] rfl) hw
  have hw := (if_neg h15_34).symm.trans hw
  rcases my_em (x := u 0 21) (35 : Int32) with h15_35 | h15_35
  · have hw := (if_pos h15_35).symm.trans hw
    refine my_swi (tgt := 320) hx hb nd_D_byRegisters_15 h15_35 (by decide) (by decide) rfl (by decide) ?_
    exact J320 (((u 0 17) >>> ((11 : Int32) &&& 31)) &&& (31 : Int32)) u H locs ls hP hD hS (lv_sub hl [1, 0] rfl) hw
  have hw := (if_neg h15_35).symm.trans hw
  rcases my_em (x := u 0 21) (36 : Int32) with h15_36 | h15_36
  · have hw := (if_pos h15_36).symm.trans hw
    refine my_swi (tgt := 337) hx hb nd_D_byRegisters_15 h15_36 (by decide) (by decide) rfl (by decide) ?_
    refine lv_aload_n hx hb nd_D_byRegisters_337 rfl (lv_at hl 1 rfl) ?_
    refine lv_iload_n hx hb nd_D_byRegisters_338 rfl (lv_at hl 0 rfl) ?_
    refine lv_aload_n hx hb nd_D_byRegisters_339 rfl (lv_at hl 1 rfl) ?_
    refine va_get (D := D) (ci := 5) (v := .int (u 0 19)) (C := nR_D) (T := nT_D) (N := 28) hx hb hts nu_D hown hK hP 0 rfl rfl 19 (by decide) (hts _ gw_433) (fun _ h9 => h9) rfl nd_D_byRegisters_340 ?_
    refine lv_aload_n hx hb nd_D_byRegisters_343 rfl (lv_at hl 1 rfl) ?_
    refine va_get (D := D) (ci := 5) (v := .int (u 0 20)) (C := nR_D) (T := nT_D) (N := 28) hx hb hts nu_D hown hK hP 0 rfl rfl 20 (by decide) (hts _ gw_434) (fun _ h9 => h9) rfl nd_D_byRegisters_344 ?_
    refine lv_iand hx hb nd_D_byRegisters_347 ?_
    obtain ⟨u348, hq348, hw⟩ := bnv_i hw
    refine my_cv (wd := wMD h cA) (F := u348) (va_runV (As := [.int (((u 0 17) >>> ((11 : Int32) &&& 31)) &&& (31 : Int32)), .int ((u 0 19) &&& (u 0 20))]) (rest := []) ⟨hx, hb, hml, hown, hts⟩ (c_D_gives l D h cA u (((u 0 17) >>> ((11 : Int32) &&& 31)) &&& (31 : Int32)) ((u 0 19) &&& (u 0 20)) u348 hq348 _) ⟨callB_of 2 hts (gw_in gw_601) rfl rfl rfl (hts _ gw_6) (hts _ gw_598) nh_D_gives ⟨Nat.le_of_ble_eq_true rfl, Nat.le_of_ble_eq_true rfl⟩, (hts _ gw_600), (hts _ gw_599)⟩ (my_preV nwOk hP hK hD hN (va_recv hK hP (ci := 5) (q0 := 0) rfl rfl)) rfl rfl hl.1 rfl (lv_room (Nat.le_of_ble_eq_true rfl)) nd_D_byRegisters_348 ⟨Nat.le_of_ble_eq_true rfl, Nat.le_of_ble_eq_true rfl⟩) hD hS hA (fun H locs hP hD hS => ?_)
    refine lv_goto (tgt := 463) hx hb nd_D_byRegisters_351 (by decide) ?_
    exact my_rv (u' := u348) hx hb hr hlocks hK hP hD hS (Option.some.inj hw) nd_D_byRegisters_463
  have hw := (if_neg h15_36).symm.trans hw
  rcases my_em (x := u 0 21) (37 : Int32) with h15_37 | h15_37
  · have hw := (if_pos h15_37).symm.trans hw
    refine my_swi (tgt := 354) hx hb nd_D_byRegisters_15 h15_37 (by decide) (by decide) rfl (by decide) ?_
    refine lv_aload_n hx hb nd_D_byRegisters_354 rfl (lv_at hl 1 rfl) ?_
    refine lv_iload_n hx hb nd_D_byRegisters_355 rfl (lv_at hl 0 rfl) ?_
    refine lv_aload_n hx hb nd_D_byRegisters_356 rfl (lv_at hl 1 rfl) ?_
    refine va_get (D := D) (ci := 5) (v := .int (u 0 19)) (C := nR_D) (T := nT_D) (N := 28) hx hb hts nu_D hown hK hP 0 rfl rfl 19 (by decide) (hts _ gw_433) (fun _ h9 => h9) rfl nd_D_byRegisters_357 ?_
    refine lv_aload_n hx hb nd_D_byRegisters_360 rfl (lv_at hl 1 rfl) ?_
    refine va_get (D := D) (ci := 5) (v := .int (u 0 20)) (C := nR_D) (T := nT_D) (N := 28) hx hb hts nu_D hown hK hP 0 rfl rfl 20 (by decide) (hts _ gw_434) (fun _ h9 => h9) rfl nd_D_byRegisters_361 ?_
    refine lv_ior hx hb nd_D_byRegisters_364 ?_
    obtain ⟨u365, hq365, hw⟩ := bnv_i hw
    refine my_cv (wd := wMD h cA) (F := u365) (va_runV (As := [.int (((u 0 17) >>> ((11 : Int32) &&& 31)) &&& (31 : Int32)), .int ((u 0 19) ||| (u 0 20))]) (rest := []) ⟨hx, hb, hml, hown, hts⟩ (c_D_gives l D h cA u (((u 0 17) >>> ((11 : Int32) &&& 31)) &&& (31 : Int32)) ((u 0 19) ||| (u 0 20)) u365 hq365 _) ⟨callB_of 2 hts (gw_in gw_601) rfl rfl rfl (hts _ gw_6) (hts _ gw_598) nh_D_gives ⟨Nat.le_of_ble_eq_true rfl, Nat.le_of_ble_eq_true rfl⟩, (hts _ gw_600), (hts _ gw_599)⟩ (my_preV nwOk hP hK hD hN (va_recv hK hP (ci := 5) (q0 := 0) rfl rfl)) rfl rfl hl.1 rfl (lv_room (Nat.le_of_ble_eq_true rfl)) nd_D_byRegisters_365 ⟨Nat.le_of_ble_eq_true rfl, Nat.le_of_ble_eq_true rfl⟩) hD hS hA (fun H locs hP hD hS => ?_)
    refine lv_goto (tgt := 463) hx hb nd_D_byRegisters_368 (by decide) ?_
    exact my_rv (u' := u365) hx hb hr hlocks hK hP hD hS (Option.some.inj hw) nd_D_byRegisters_463
  have hw := (if_neg h15_37).symm.trans hw
  rcases my_em (x := u 0 21) (38 : Int32) with h15_38 | h15_38
  · have hw := (if_pos h15_38).symm.trans hw
    refine my_swi (tgt := 371) hx hb nd_D_byRegisters_15 h15_38 (by decide) (by decide) rfl (by decide) ?_
    refine lv_aload_n hx hb nd_D_byRegisters_371 rfl (lv_at hl 1 rfl) ?_
    refine lv_iload_n hx hb nd_D_byRegisters_372 rfl (lv_at hl 0 rfl) ?_
    refine lv_aload_n hx hb nd_D_byRegisters_373 rfl (lv_at hl 1 rfl) ?_
    refine va_get (D := D) (ci := 5) (v := .int (u 0 19)) (C := nR_D) (T := nT_D) (N := 28) hx hb hts nu_D hown hK hP 0 rfl rfl 19 (by decide) (hts _ gw_433) (fun _ h9 => h9) rfl nd_D_byRegisters_374 ?_
    refine lv_aload_n hx hb nd_D_byRegisters_377 rfl (lv_at hl 1 rfl) ?_
    refine va_get (D := D) (ci := 5) (v := .int (u 0 20)) (C := nR_D) (T := nT_D) (N := 28) hx hb hts nu_D hown hK hP 0 rfl rfl 20 (by decide) (hts _ gw_434) (fun _ h9 => h9) rfl nd_D_byRegisters_378 ?_
    refine lv_ixor hx hb nd_D_byRegisters_381 ?_
    obtain ⟨u382, hq382, hw⟩ := bnv_i hw
    refine my_cv (wd := wMD h cA) (F := u382) (va_runV (As := [.int (((u 0 17) >>> ((11 : Int32) &&& 31)) &&& (31 : Int32)), .int ((u 0 19) ^^^ (u 0 20))]) (rest := []) ⟨hx, hb, hml, hown, hts⟩ (c_D_gives l D h cA u (((u 0 17) >>> ((11 : Int32) &&& 31)) &&& (31 : Int32)) ((u 0 19) ^^^ (u 0 20)) u382 hq382 _) ⟨callB_of 2 hts (gw_in gw_601) rfl rfl rfl (hts _ gw_6) (hts _ gw_598) nh_D_gives ⟨Nat.le_of_ble_eq_true rfl, Nat.le_of_ble_eq_true rfl⟩, (hts _ gw_600), (hts _ gw_599)⟩ (my_preV nwOk hP hK hD hN (va_recv hK hP (ci := 5) (q0 := 0) rfl rfl)) rfl rfl hl.1 rfl (lv_room (Nat.le_of_ble_eq_true rfl)) nd_D_byRegisters_382 ⟨Nat.le_of_ble_eq_true rfl, Nat.le_of_ble_eq_true rfl⟩) hD hS hA (fun H locs hP hD hS => ?_)
    refine lv_goto (tgt := 463) hx hb nd_D_byRegisters_385 (by decide) ?_
    exact my_rv (u' := u382) hx hb hr hlocks hK hP hD hS (Option.some.inj hw) nd_D_byRegisters_463
  have hw := (if_neg h15_38).symm.trans hw
  rcases my_em (x := u 0 21) (39 : Int32) with h15_39 | h15_39
  · have hw := (if_pos h15_39).symm.trans hw
    refine my_swi (tgt := 388) hx hb nd_D_byRegisters_15 h15_39 (by decide) (by decide) rfl (by decide) ?_
    refine lv_aload_n hx hb nd_D_byRegisters_388 rfl (lv_at hl 1 rfl) ?_
    refine lv_iload_n hx hb nd_D_byRegisters_389 rfl (lv_at hl 0 rfl) ?_
    refine lv_aload_n hx hb nd_D_byRegisters_390 rfl (lv_at hl 1 rfl) ?_
    refine va_get (D := D) (ci := 5) (v := .int (u 0 19)) (C := nR_D) (T := nT_D) (N := 28) hx hb hts nu_D hown hK hP 0 rfl rfl 19 (by decide) (hts _ gw_433) (fun _ h9 => h9) rfl nd_D_byRegisters_391 ?_
    refine lv_aload_n hx hb nd_D_byRegisters_394 rfl (lv_at hl 1 rfl) ?_
    refine va_get (D := D) (ci := 5) (v := .int (u 0 20)) (C := nR_D) (T := nT_D) (N := 28) hx hb hts nu_D hown hK hP 0 rfl rfl 20 (by decide) (hts _ gw_434) (fun _ h9 => h9) rfl nd_D_byRegisters_395 ?_
    refine lv_ior hx hb nd_D_byRegisters_398 ?_
    refine lv_iconst (v := (-1 : Int32)) hx hb nd_D_byRegisters_399 (by decide) ?_
    refine lv_ixor hx hb nd_D_byRegisters_400 ?_
    obtain ⟨u401, hq401, hw⟩ := bnv_i hw
    refine my_cv (wd := wMD h cA) (F := u401) (va_runV (As := [.int (((u 0 17) >>> ((11 : Int32) &&& 31)) &&& (31 : Int32)), .int (((u 0 19) ||| (u 0 20)) ^^^ (-1 : Int32))]) (rest := []) ⟨hx, hb, hml, hown, hts⟩ (c_D_gives l D h cA u (((u 0 17) >>> ((11 : Int32) &&& 31)) &&& (31 : Int32)) (((u 0 19) ||| (u 0 20)) ^^^ (-1 : Int32)) u401 hq401 _) ⟨callB_of 2 hts (gw_in gw_601) rfl rfl rfl (hts _ gw_6) (hts _ gw_598) nh_D_gives ⟨Nat.le_of_ble_eq_true rfl, Nat.le_of_ble_eq_true rfl⟩, (hts _ gw_600), (hts _ gw_599)⟩ (my_preV nwOk hP hK hD hN (va_recv hK hP (ci := 5) (q0 := 0) rfl rfl)) rfl rfl hl.1 rfl (lv_room (Nat.le_of_ble_eq_true rfl)) nd_D_byRegisters_401 ⟨Nat.le_of_ble_eq_true rfl, Nat.le_of_ble_eq_true rfl⟩) hD hS hA (fun H locs hP hD hS => ?_)
    refine lv_goto (tgt := 463) hx hb nd_D_byRegisters_404 (by decide) ?_
    exact my_rv (u' := u401) hx hb hr hlocks hK hP hD hS (Option.some.inj hw) nd_D_byRegisters_463
  have hw := (if_neg h15_39).symm.trans hw
  rcases my_em (x := u 0 21) (42 : Int32) with h15_42 | h15_42
  · have hw := (if_pos h15_42).symm.trans hw
    refine my_swi (tgt := 407) hx hb nd_D_byRegisters_15 h15_42 (by decide) (by decide) rfl (by decide) ?_
    refine lv_aload_n hx hb nd_D_byRegisters_407 rfl (lv_at hl 1 rfl) ?_
    refine lv_iload_n hx hb nd_D_byRegisters_408 rfl (lv_at hl 0 rfl) ?_
    refine lv_aload_n hx hb nd_D_byRegisters_409 rfl (lv_at hl 1 rfl) ?_
    refine va_get (D := D) (ci := 5) (v := .int (u 0 19)) (C := nR_D) (T := nT_D) (N := 28) hx hb hts nu_D hown hK hP 0 rfl rfl 19 (by decide) (hts _ gw_433) (fun _ h9 => h9) rfl nd_D_byRegisters_410 ?_
    refine lv_aload_n hx hb nd_D_byRegisters_413 rfl (lv_at hl 1 rfl) ?_
    refine va_get (D := D) (ci := 5) (v := .int (u 0 20)) (C := nR_D) (T := nT_D) (N := 28) hx hb hts nu_D hown hK hP 0 rfl rfl 20 (by decide) (hts _ gw_434) (fun _ h9 => h9) rfl nd_D_byRegisters_414 ?_
    refine lv_icmp_ge (tgt := 424) hx hb nd_D_byRegisters_417 (by decide) (fun h417 => ?_) (fun h417 => ?_)
    · have hw := (if_pos h417).symm.trans hw
      refine lv_iconst (v := (0 : Int32)) hx hb nd_D_byRegisters_424 (by decide) ?_
      exact J425 (0 : Int32) (((u 0 17) >>> ((11 : Int32) &&& 31)) &&& (31 : Int32)) u H locs ls hP hD hS (lv_sub hl [] rfl) hw
    have hw := (if_neg h417).symm.trans hw
    refine lv_iconst (v := (1 : Int32)) hx hb nd_D_byRegisters_420 (by decide) ?_
    refine lv_goto (tgt := 425) hx hb nd_D_byRegisters_421 (by decide) ?_
    exact J425 (1 : Int32) (((u 0 17) >>> ((11 : Int32) &&& 31)) &&& (31 : Int32)) u H locs ls hP hD hS (lv_sub hl [] rfl) hw
  have hw := (if_neg h15_42).symm.trans hw
  rcases my_em (x := u 0 21) (43 : Int32) with h15_43 | h15_43
  · have hw := (if_pos h15_43).symm.trans hw
    refine my_swi (tgt := 431) hx hb nd_D_byRegisters_15 h15_43 (by decide) (by decide) rfl (by decide) ?_
    refine lv_aload_n hx hb nd_D_byRegisters_431 rfl (lv_at hl 1 rfl) ?_
    refine lv_iload_n hx hb nd_D_byRegisters_432 rfl (lv_at hl 0 rfl) ?_
    refine lv_aload_n hx hb nd_D_byRegisters_433 rfl (lv_at hl 1 rfl) ?_
    refine va_get (D := D) (ci := 5) (v := .int (u 0 19)) (C := nR_D) (T := nT_D) (N := 28) hx hb hts nu_D hown hK hP 0 rfl rfl 19 (by decide) (hts _ gw_433) (fun _ h9 => h9) rfl nd_D_byRegisters_434 ?_
    refine lv_aload_n hx hb nd_D_byRegisters_437 rfl (lv_at hl 1 rfl) ?_
    refine va_get (D := D) (ci := 5) (v := .int (u 0 20)) (C := nR_D) (T := nT_D) (N := 28) hx hb hts nu_D hown hK hP 0 rfl rfl 20 (by decide) (hts _ gw_434) (fun _ h9 => h9) rfl nd_D_byRegisters_438 ?_
    refine my_cp (F := zb (f_D_less (u 0 19) (u 0 20))) (va_runS (As := [.int (u 0 19), .int (u 0 20)]) (rest := [.int (((u 0 17) >>> ((11 : Int32) &&& 31)) &&& (31 : Int32)), .ref (h 0)]) ⟨hx, hb, hml, hown, hts⟩ (c_D_less l (u 0 19) (u 0 20) _ rfl) ⟨callB_of 2 hts (gw_in gw_613) rfl rfl rfl (hts _ gw_6) (hts _ gw_611) nh_D_less ⟨Nat.le_of_ble_eq_true rfl, Nat.le_of_ble_eq_true rfl⟩, (hts _ gw_612)⟩ my_preP rfl rfl hl.1 rfl (lv_room (Nat.le_of_ble_eq_true rfl)) nd_D_byRegisters_441 ⟨Nat.le_of_ble_eq_true rfl, Nat.le_of_ble_eq_true rfl⟩) hP hS (fun H locs hP hS => ?_)
    refine lv_if_eq (tgt := 451) hx hb nd_D_byRegisters_444 (by decide) (fun h444 => ?_) (fun h444 => ?_)
    · have hw := (if_pos h444).symm.trans hw
      refine lv_iconst (v := (0 : Int32)) hx hb nd_D_byRegisters_451 (by decide) ?_
      exact J452 (0 : Int32) (((u 0 17) >>> ((11 : Int32) &&& 31)) &&& (31 : Int32)) u H locs ls hP hD hS (lv_sub hl [] rfl) hw
    have hw := (if_neg h444).symm.trans hw
    refine lv_iconst (v := (1 : Int32)) hx hb nd_D_byRegisters_447 (by decide) ?_
    refine lv_goto (tgt := 452) hx hb nd_D_byRegisters_448 (by decide) ?_
    exact J452 (1 : Int32) (((u 0 17) >>> ((11 : Int32) &&& 31)) &&& (31 : Int32)) u H locs ls hP hD hS (lv_sub hl [] rfl) hw
  have hw := (if_neg h15_43).symm.trans hw
  refine my_swd (tgt := 458) hx hb nd_D_byRegisters_15 (my_nec h15_8 (my_nec h15_9 (my_nec h15_16 (my_nec h15_17 (my_nec h15_18 (my_nec h15_19 (my_nec h15_24 (my_nec h15_25 (my_nec h15_26 (my_nec h15_27 (my_nec h15_32 (my_nec h15_33 (my_nec h15_34 (my_nec h15_35 (my_nec h15_36 (my_nec h15_37 (my_nec h15_38 (my_nec h15_39 (my_nec h15_42 (my_nec h15_43 my_nen)))))))))))))))))))) (by decide +kernel) (by decide) ?_
  exact J458 (((u 0 17) >>> ((11 : Int32) &&& 31)) &&& (31 : Int32)) u H locs ls hP hD hS (lv_sub hl [1, 0] rfl) hw
set_option maxHeartbeats 4000000 in
set_option maxRecDepth 100000 in
theorem c_D_branch (l : Launch) (D : va_G) (h : Nat → Nat) (cA : Nat → ClassId) (u : St) (F : St) (hw : f_D_branch u = F) : MV nwS vwCl l ny_D_branch nw_D_branch ({ frames := 1, cells := 0, slots := 0, locals := 22 }) D (tyI cA) (wMD h cA) ([.ref (h 0)] : List Value) u F := by
  refine my_in (gw := GW) (cc := nc_D_branch) (maxL := 3) (ret := none) (Qc := fun A => QV vwCl D (tyI cA) (wMD h cA) F A) (by decide) rfl (Nat.le_of_ble_eq_true rfl) ?_
  intro p e s m below meth c A H locs ls hx hb hml hr hts hown hlocks hK hN hA hP hD hS hl
  have hown : s.vm.findClass nR_D = some m.cls := hown
  have hl : lv_has ls 3 [(0, .ref (h 0))] := hl
  have J232 : ∀ (u : St) (H : Heap) (locs : List Loc) (ls : Array Slot), va_P D vwCl (wMD h cA u) H → va_D A (wMD h cA u) → va_S A s.heap H locs → lv_has ls 3 [(0, .ref (h 0))] → f_D_branch_b232 u = F →
      W p l e (headSpec nw_D_branch ({ frames := 1, cells := 0, slots := 0, locals := 22 })).room s m ([.ref (h 0)] : List Value).toArray below meth c H locs 0 0 (MQ below (QV vwCl D (tyI cA) (wMD h cA) F A) ([.ref (h 0)] : List Value).toArray s 0 0 A) (F0 m 232 ls []) := by
    intro u H locs ls hP hD hS hl hw
    unfold f_D_branch_b232 at hw
    refine lv_aload_n hx hb nd_D_branch_232 rfl (lv_at hl 0 rfl) ?_
    refine lv_bipush (v := (31 : Int32)) hx hb nd_D_branch_233 (by decide) ?_
    refine lv_aload_n hx hb nd_D_branch_235 rfl (lv_at hl 0 rfl) ?_
    refine va_get (D := D) (ci := 5) (v := .int (u 0 3)) (C := nR_D) (T := nT_D) (N := 28) hx hb hts nu_D hown hK hP 0 rfl rfl 3 (by decide) (hts _ gw_417) (fun _ h9 => h9) rfl nd_D_branch_236 ?_
    refine lv_bipush (v := (8 : Int32)) hx hb nd_D_branch_239 (by decide) ?_
    refine lv_iadd hx hb nd_D_branch_241 ?_
    obtain ⟨u242, hq242, hw⟩ := bnv_i hw
    refine my_cv (wd := wMD h cA) (F := u242) (va_runV (As := [.int (31 : Int32), .int ((u 0 3) + (8 : Int32))]) (rest := []) ⟨hx, hb, hml, hown, hts⟩ (c_D_gives l D h cA u (31 : Int32) ((u 0 3) + (8 : Int32)) u242 hq242 _) ⟨callB_of 2 hts (gw_in gw_601) rfl rfl rfl (hts _ gw_6) (hts _ gw_598) nh_D_gives ⟨Nat.le_of_ble_eq_true rfl, Nat.le_of_ble_eq_true rfl⟩, (hts _ gw_600), (hts _ gw_599)⟩ (my_preV nwOk hP hK hD hN (va_recv hK hP (ci := 5) (q0 := 0) rfl rfl)) rfl rfl hl.1 rfl (lv_room (Nat.le_of_ble_eq_true rfl)) nd_D_branch_242 ⟨Nat.le_of_ble_eq_true rfl, Nat.le_of_ble_eq_true rfl⟩) hD hS hA (fun H locs hP hD hS => ?_)
    exact my_rv (u' := u242) hx hb hr hlocks hK hP hD hS hw nd_D_branch_245
  have J210 : ∀ (x1 : Int32) (u : St) (H : Heap) (locs : List Loc) (ls : Array Slot), va_P D vwCl (wMD h cA u) H → va_D A (wMD h cA u) → va_S A s.heap H locs → lv_has ls 3 [(0, .ref (h 0)), (1, .int x1)] → f_D_branch_b210 x1 u = F →
      W p l e (headSpec nw_D_branch ({ frames := 1, cells := 0, slots := 0, locals := 22 })).room s m ([.ref (h 0)] : List Value).toArray below meth c H locs 0 0 (MQ below (QV vwCl D (tyI cA) (wMD h cA) F A) ([.ref (h 0)] : List Value).toArray s 0 0 A) (F0 m 210 ls []) := by
    intro x1 u H locs ls hP hD hS hl hw
    unfold f_D_branch_b210 at hw
    refine lv_aload_n hx hb nd_D_branch_210 rfl (lv_at hl 0 rfl) ?_
    refine va_get (D := D) (ci := 5) (v := .int (u 0 18)) (C := nR_D) (T := nT_D) (N := 28) hx hb hts nu_D hown hK hP 0 rfl rfl 18 (by decide) (hts _ gw_432) (fun _ h9 => h9) rfl nd_D_branch_211 ?_
    refine lv_iconst (v := (3 : Int32)) hx hb nd_D_branch_214 (by decide) ?_
    refine lv_icmp_eq (tgt := 232) hx hb nd_D_branch_215 (by decide) (fun h215 => ?_) (fun h215 => ?_)
    · have hw := (if_pos h215).symm.trans hw
      exact J232 u H locs ls hP hD hS (lv_sub hl [0] rfl) hw
    have hw := (if_neg h215).symm.trans hw
    refine lv_aload_n hx hb nd_D_branch_218 rfl (lv_at hl 0 rfl) ?_
    refine va_get (D := D) (ci := 5) (v := .int (u 0 18)) (C := nR_D) (T := nT_D) (N := 28) hx hb hts nu_D hown hK hP 0 rfl rfl 18 (by decide) (hts _ gw_432) (fun _ h9 => h9) rfl nd_D_branch_219 ?_
    refine lv_iconst (v := (1 : Int32)) hx hb nd_D_branch_222 (by decide) ?_
    refine lv_icmp_ne (tgt := 245) hx hb nd_D_branch_223 (by decide) (fun h223 => ?_) (fun h223 => ?_)
    · have hw := (if_neg h223).symm.trans hw
      exact my_rv (u' := u) hx hb hr hlocks hK hP hD hS hw nd_D_branch_245
    have hw := (if_pos h223).symm.trans hw
    refine lv_iload_n hx hb nd_D_branch_226 rfl (lv_at hl 1 rfl) ?_
    refine lv_bipush (v := (15 : Int32)) hx hb nd_D_branch_227 (by decide) ?_
    refine lv_icmp_le (tgt := 245) hx hb nd_D_branch_229 (by decide) (fun h229 => ?_) (fun h229 => ?_)
    · have hw := (if_pos h229).symm.trans hw
      exact my_rv (u' := u) hx hb hr hlocks hK hP hD hS hw nd_D_branch_245
    have hw := (if_neg h229).symm.trans hw
    exact J232 u H locs ls hP hD hS (lv_sub hl [0] rfl) hw
  have J189 : ∀ (x1 : Int32) (x2 : Int32) (u : St) (H : Heap) (locs : List Loc) (ls : Array Slot), va_P D vwCl (wMD h cA u) H → va_D A (wMD h cA u) → va_S A s.heap H locs → lv_has ls 3 [(0, .ref (h 0)), (1, .int x1), (2, .int x2)] → f_D_branch_b189 x1 x2 u = F →
      W p l e (headSpec nw_D_branch ({ frames := 1, cells := 0, slots := 0, locals := 22 })).room s m ([.ref (h 0)] : List Value).toArray below meth c H locs 0 0 (MQ below (QV vwCl D (tyI cA) (wMD h cA) F A) ([.ref (h 0)] : List Value).toArray s 0 0 A) (F0 m 189 ls []) := by
    intro x1 x2 u H locs ls hP hD hS hl hw
    unfold f_D_branch_b189 at hw
    refine lv_iload_n hx hb nd_D_branch_189 rfl (lv_at hl 2 rfl) ?_
    refine lv_if_eq (tgt := 210) hx hb nd_D_branch_190 (by decide) (fun h190 => ?_) (fun h190 => ?_)
    · have hw := (if_pos h190).symm.trans hw
      exact J210 x1 u H locs ls hP hD hS (lv_sub hl [0, 1] rfl) hw
    have hw := (if_neg h190).symm.trans hw
    refine lv_aload_n hx hb nd_D_branch_193 rfl (lv_at hl 0 rfl) ?_
    refine lv_aload_n hx hb nd_D_branch_194 rfl (lv_at hl 0 rfl) ?_
    refine va_get (D := D) (ci := 5) (v := .int (u 0 3)) (C := nR_D) (T := nT_D) (N := 28) hx hb hts nu_D hown hK hP 0 rfl rfl 3 (by decide) (hts _ gw_417) (fun _ h9 => h9) rfl nd_D_branch_195 ?_
    refine lv_iconst (v := (4 : Int32)) hx hb nd_D_branch_198 (by decide) ?_
    refine lv_iadd hx hb nd_D_branch_199 ?_
    refine lv_iconst (v := (4 : Int32)) hx hb nd_D_branch_200 (by decide) ?_
    refine lv_aload_n hx hb nd_D_branch_201 rfl (lv_at hl 0 rfl) ?_
    refine my_ci (wd := wMD h cA) (r := f_D_number u) (u' := u) (va_runV (As := []) (rest := [.int (4 : Int32), .int ((u 0 3) + (4 : Int32)), .ref (h 0)]) ⟨hx, hb, hml, hown, hts⟩ (c_D_number l D h cA u _ rfl _) ⟨callB_of 0 hts (gw_in gw_577) rfl rfl rfl (hts _ gw_6) (hts _ gw_574) nh_D_number ⟨Nat.le_of_ble_eq_true rfl, Nat.le_of_ble_eq_true rfl⟩, (hts _ gw_576), (hts _ gw_575)⟩ (my_preV nwOk hP hK hD hN (va_recv hK hP (ci := 5) (q0 := 0) rfl rfl)) rfl rfl hl.1 rfl (lv_room (Nat.le_of_ble_eq_true rfl)) nd_D_branch_202 ⟨Nat.le_of_ble_eq_true rfl, Nat.le_of_ble_eq_true rfl⟩) hD hS hA (fun H locs hP hD hS => ?_)
    refine lv_imul hx hb nd_D_branch_205 ?_
    refine lv_iadd hx hb nd_D_branch_206 ?_
    refine va_put (D := D) (ci := 5) (v := .int (((u 0 3) + (4 : Int32)) + ((4 : Int32) * (f_D_number u)))) (ty := .int) (C := nR_D) (T := nT_D) (N := 28) hx hb hts nu_D nt_D nto_D nn_D hown hK hP hD hS 0 rfl rfl 26 (by decide) (hts _ gw_440) (fun _ h9 => h9) rfl (by decide +kernel) rfl rfl (Nat.le_of_ble_eq_true rfl) nd_D_branch_207 (fun H locs hP hD hS => ?_)
    have hP : va_P D vwCl (wMD h cA (sU u 0 26 (((u 0 3) + (4 : Int32)) + ((4 : Int32) * (f_D_number u))))) H := hP
    have hD : va_D A (wMD h cA (sU u 0 26 (((u 0 3) + (4 : Int32)) + ((4 : Int32) * (f_D_number u))))) := hD
    exact J210 x1 (sU u 0 26 (((u 0 3) + (4 : Int32)) + ((4 : Int32) * (f_D_number u)))) H locs ls hP hD hS (lv_sub hl [0, 1] rfl) hw
  have J146 : ∀ (x1 : Int32) (y0 : Int32) (u : St) (H : Heap) (locs : List Loc) (ls : Array Slot), va_P D vwCl (wMD h cA u) H → va_D A (wMD h cA u) → va_S A s.heap H locs → lv_has ls 3 [(0, .ref (h 0)), (1, .int x1)] → f_D_branch_b146 x1 y0 u = F →
      W p l e (headSpec nw_D_branch ({ frames := 1, cells := 0, slots := 0, locals := 22 })).room s m ([.ref (h 0)] : List Value).toArray below meth c H locs 0 0 (MQ below (QV vwCl D (tyI cA) (wMD h cA) F A) ([.ref (h 0)] : List Value).toArray s 0 0 A) (F0 m 146 ls [.int y0]) := by
    intro x1 y0 u H locs ls hP hD hS hl hw
    unfold f_D_branch_b146 at hw
    refine lv_istore_n (lv' := [(2, .int y0), (0, .ref (h 0)), (1, .int x1)]) hx hb nd_D_branch_146 rfl hl (by decide) rfl (fun ls hl => ?_)
    refine lv_aload_n hx hb nd_D_branch_147 rfl (lv_at hl 1 rfl) ?_
    refine va_get (D := D) (ci := 5) (v := .int (u 0 18)) (C := nR_D) (T := nT_D) (N := 28) hx hb hts nu_D hown hK hP 0 rfl rfl 18 (by decide) (hts _ gw_432) (fun _ h9 => h9) rfl nd_D_branch_148 ?_
    refine lv_iconst (v := (4 : Int32)) hx hb nd_D_branch_151 (by decide) ?_
    refine lv_icmp_ge (tgt := 189) hx hb nd_D_branch_152 (by decide) (fun h152 => ?_) (fun h152 => ?_)
    · have hw := (if_pos h152).symm.trans hw
      exact J189 x1 y0 u H locs ls hP hD hS (lv_sub hl [1, 2, 0] rfl) hw
    have hw := (if_neg h152).symm.trans hw
    refine lv_aload_n hx hb nd_D_branch_155 rfl (lv_at hl 1 rfl) ?_
    refine va_get (D := D) (ci := 5) (v := .int (u 0 18)) (C := nR_D) (T := nT_D) (N := 28) hx hb hts nu_D hown hK hP 0 rfl rfl 18 (by decide) (hts _ gw_432) (fun _ h9 => h9) rfl nd_D_branch_156 ?_
    refine lv_iconst (v := (1 : Int32)) hx hb nd_D_branch_159 (by decide) ?_
    refine lv_icmp_le (tgt := 189) hx hb nd_D_branch_160 (by decide) (fun h160 => ?_) (fun h160 => ?_)
    · have hw := (if_pos h160).symm.trans hw
      exact J189 x1 y0 u H locs ls hP hD hS (lv_sub hl [1, 2, 0] rfl) hw
    have hw := (if_neg h160).symm.trans hw
    refine lv_aload_n hx hb nd_D_branch_163 rfl (lv_at hl 1 rfl) ?_
    refine lv_aload_n hx hb nd_D_branch_164 rfl (lv_at hl 1 rfl) ?_
    refine va_get (D := D) (ci := 5) (v := .int (u 0 3)) (C := nR_D) (T := nT_D) (N := 28) hx hb hts nu_D hown hK hP 0 rfl rfl 3 (by decide) (hts _ gw_417) (fun _ h9 => h9) rfl nd_D_branch_165 ?_
    refine lv_iconst (v := (4 : Int32)) hx hb nd_D_branch_168 (by decide) ?_
    refine lv_iadd hx hb nd_D_branch_169 ?_
    refine lv_ldc (own := nR_D) (v := (-268435456 : Int32)) hx hb hown (hts _ gw_622) nd_D_branch_170 ?_
    refine lv_iand hx hb nd_D_branch_172 ?_
    refine lv_aload_n hx hb nd_D_branch_173 rfl (lv_at hl 1 rfl) ?_
    refine va_get (D := D) (ci := 5) (v := .int (u 0 17)) (C := nR_D) (T := nT_D) (N := 28) hx hb hts nu_D hown hK hP 0 rfl rfl 17 (by decide) (hts _ gw_431) (fun _ h9 => h9) rfl nd_D_branch_174 ?_
    refine lv_ldc (own := nR_D) (v := (67108863 : Int32)) hx hb hown (hts _ gw_623) nd_D_branch_177 ?_
    refine lv_iand hx hb nd_D_branch_179 ?_
    refine lv_iconst (v := (2 : Int32)) hx hb nd_D_branch_180 (by decide) ?_
    refine lv_ishl hx hb nd_D_branch_181 ?_
    refine lv_ior hx hb nd_D_branch_182 ?_
    refine va_put (D := D) (ci := 5) (v := .int ((((u 0 3) + (4 : Int32)) &&& (-268435456 : Int32)) ||| (((u 0 17) &&& (67108863 : Int32)) <<< ((2 : Int32) &&& 31)))) (ty := .int) (C := nR_D) (T := nT_D) (N := 28) hx hb hts nu_D nt_D nto_D nn_D hown hK hP hD hS 0 rfl rfl 26 (by decide) (hts _ gw_440) (fun _ h9 => h9) rfl (by decide +kernel) rfl rfl (Nat.le_of_ble_eq_true rfl) nd_D_branch_183 (fun H locs hP hD hS => ?_)
    have hP : va_P D vwCl (wMD h cA (sU u 0 26 ((((u 0 3) + (4 : Int32)) &&& (-268435456 : Int32)) ||| (((u 0 17) &&& (67108863 : Int32)) <<< ((2 : Int32) &&& 31))))) H := hP
    have hD : va_D A (wMD h cA (sU u 0 26 ((((u 0 3) + (4 : Int32)) &&& (-268435456 : Int32)) ||| (((u 0 17) &&& (67108863 : Int32)) <<< ((2 : Int32) &&& 31))))) := hD
    refine lv_goto (tgt := 210) hx hb nd_D_branch_186 (by decide) ?_
    exact J210 x1 (sU u 0 26 ((((u 0 3) + (4 : Int32)) &&& (-268435456 : Int32)) ||| (((u 0 17) &&& (67108863 : Int32)) <<< ((2 : Int32) &&& 31)))) H locs ls hP hD hS (lv_sub hl [1, 2] rfl) hw
  unfold f_D_branch at hw
  refine lv_aload_n hx hb nd_D_branch_0 rfl (lv_at hl 0 rfl) ?_
  refine va_get (D := D) (ci := 5) (v := .int (u 0 17)) (C := nR_D) (T := nT_D) (N := 28) hx hb hts nu_D hown hK hP 0 rfl rfl 17 (by decide) (hts _ gw_431) (fun _ h9 => h9) rfl nd_D_branch_1 ?_
  refine lv_bipush (v := (16 : Int32)) hx hb nd_D_branch_4 (by decide) ?_
  refine lv_ishr hx hb nd_D_branch_6 ?_
  refine lv_bipush (v := (31 : Int32)) hx hb nd_D_branch_7 (by decide) ?_
  refine lv_iand hx hb nd_D_branch_9 ?_
  refine lv_istore_n (lv' := [(1, .int (((u 0 17) >>> ((16 : Int32) &&& 31)) &&& (31 : Int32))), (0, .ref (h 0))]) hx hb nd_D_branch_10 rfl hl (by decide) rfl (fun ls hl => ?_)
  refine lv_aload_n hx hb nd_D_branch_11 rfl (lv_at hl 1 rfl) ?_
  refine va_get (D := D) (ci := 5) (v := .int (u 0 18)) (C := nR_D) (T := nT_D) (N := 28) hx hb hts nu_D hown hK hP 0 rfl rfl 18 (by decide) (hts _ gw_432) (fun _ h9 => h9) rfl nd_D_branch_12 ?_
  refine lv_iconst (v := (4 : Int32)) hx hb nd_D_branch_15 (by decide) ?_
  refine lv_icmp_ne (tgt := 38) hx hb nd_D_branch_16 (by decide) (fun h16 => ?_) (fun h16 => ?_)
  · have hw := (if_neg h16).symm.trans hw
    refine lv_aload_n hx hb nd_D_branch_38 rfl (lv_at hl 1 rfl) ?_
    refine va_get (D := D) (ci := 5) (v := .int (u 0 18)) (C := nR_D) (T := nT_D) (N := 28) hx hb hts nu_D hown hK hP 0 rfl rfl 18 (by decide) (hts _ gw_432) (fun _ h9 => h9) rfl nd_D_branch_39 ?_
    refine lv_iconst (v := (5 : Int32)) hx hb nd_D_branch_42 (by decide) ?_
    refine lv_icmp_ne (tgt := 65) hx hb nd_D_branch_43 (by decide) (fun h43 => ?_) (fun h43 => ?_)
    · have hw := (if_neg h43).symm.trans hw
      refine lv_aload_n hx hb nd_D_branch_65 rfl (lv_at hl 1 rfl) ?_
      refine va_get (D := D) (ci := 5) (v := .int (u 0 18)) (C := nR_D) (T := nT_D) (N := 28) hx hb hts nu_D hown hK hP 0 rfl rfl 18 (by decide) (hts _ gw_432) (fun _ h9 => h9) rfl nd_D_branch_66 ?_
      refine lv_bipush (v := (6 : Int32)) hx hb nd_D_branch_69 (by decide) ?_
      refine lv_icmp_ne (tgt := 89) hx hb nd_D_branch_71 (by decide) (fun h71 => ?_) (fun h71 => ?_)
      · have hw := (if_neg h71).symm.trans hw
        refine lv_aload_n hx hb nd_D_branch_89 rfl (lv_at hl 1 rfl) ?_
        refine va_get (D := D) (ci := 5) (v := .int (u 0 18)) (C := nR_D) (T := nT_D) (N := 28) hx hb hts nu_D hown hK hP 0 rfl rfl 18 (by decide) (hts _ gw_432) (fun _ h9 => h9) rfl nd_D_branch_90 ?_
        refine lv_bipush (v := (7 : Int32)) hx hb nd_D_branch_93 (by decide) ?_
        refine lv_icmp_ne (tgt := 113) hx hb nd_D_branch_95 (by decide) (fun h95 => ?_) (fun h95 => ?_)
        · have hw := (if_neg h95).symm.trans hw
          refine lv_iload_n hx hb nd_D_branch_113 rfl (lv_at hl 0 rfl) ?_
          refine lv_iconst (v := (2 : Int32)) hx hb nd_D_branch_114 (by decide) ?_
          refine lv_irem hx hb nd_D_branch_115 (by decide) ?_
          refine lv_if_ne (tgt := 134) hx hb nd_D_branch_116 (by decide) (fun h116 => ?_) (fun h116 => ?_)
          · have hw := (if_neg h116).symm.trans hw
            refine lv_aload_n hx hb nd_D_branch_134 rfl (lv_at hl 1 rfl) ?_
            refine va_get (D := D) (ci := 5) (v := .int (u 0 19)) (C := nR_D) (T := nT_D) (N := 28) hx hb hts nu_D hown hK hP 0 rfl rfl 19 (by decide) (hts _ gw_433) (fun _ h9 => h9) rfl nd_D_branch_135 ?_
            refine lv_if_lt (tgt := 145) hx hb nd_D_branch_138 (by decide) (fun h138 => ?_) (fun h138 => ?_)
            · have hw := (if_pos h138).symm.trans hw
              refine lv_iconst (v := (0 : Int32)) hx hb nd_D_branch_145 (by decide) ?_
              exact J146 (((u 0 17) >>> ((16 : Int32) &&& 31)) &&& (31 : Int32)) (0 : Int32) u H locs ls hP hD hS (lv_sub hl [1, 0] rfl) hw
            have hw := (if_neg h138).symm.trans hw
            refine lv_iconst (v := (1 : Int32)) hx hb nd_D_branch_141 (by decide) ?_
            refine lv_goto (tgt := 146) hx hb nd_D_branch_142 (by decide) ?_
            exact J146 (((u 0 17) >>> ((16 : Int32) &&& 31)) &&& (31 : Int32)) (1 : Int32) u H locs ls hP hD hS (lv_sub hl [1, 0] rfl) hw
          have hw := (if_pos h116).symm.trans hw
          refine lv_aload_n hx hb nd_D_branch_119 rfl (lv_at hl 1 rfl) ?_
          refine va_get (D := D) (ci := 5) (v := .int (u 0 19)) (C := nR_D) (T := nT_D) (N := 28) hx hb hts nu_D hown hK hP 0 rfl rfl 19 (by decide) (hts _ gw_433) (fun _ h9 => h9) rfl nd_D_branch_120 ?_
          refine lv_if_ge (tgt := 130) hx hb nd_D_branch_123 (by decide) (fun h123 => ?_) (fun h123 => ?_)
          · have hw := (if_pos h123).symm.trans hw
            refine lv_iconst (v := (0 : Int32)) hx hb nd_D_branch_130 (by decide) ?_
            refine lv_goto (tgt := 146) hx hb nd_D_branch_131 (by decide) ?_
            exact J146 (((u 0 17) >>> ((16 : Int32) &&& 31)) &&& (31 : Int32)) (0 : Int32) u H locs ls hP hD hS (lv_sub hl [1, 0] rfl) hw
          have hw := (if_neg h123).symm.trans hw
          refine lv_iconst (v := (1 : Int32)) hx hb nd_D_branch_126 (by decide) ?_
          refine lv_goto (tgt := 146) hx hb nd_D_branch_127 (by decide) ?_
          exact J146 (((u 0 17) >>> ((16 : Int32) &&& 31)) &&& (31 : Int32)) (1 : Int32) u H locs ls hP hD hS (lv_sub hl [1, 0] rfl) hw
        have hw := (if_pos h95).symm.trans hw
        refine lv_aload_n hx hb nd_D_branch_98 rfl (lv_at hl 1 rfl) ?_
        refine va_get (D := D) (ci := 5) (v := .int (u 0 19)) (C := nR_D) (T := nT_D) (N := 28) hx hb hts nu_D hown hK hP 0 rfl rfl 19 (by decide) (hts _ gw_433) (fun _ h9 => h9) rfl nd_D_branch_99 ?_
        refine lv_if_le (tgt := 109) hx hb nd_D_branch_102 (by decide) (fun h102 => ?_) (fun h102 => ?_)
        · have hw := (if_pos h102).symm.trans hw
          refine lv_iconst (v := (0 : Int32)) hx hb nd_D_branch_109 (by decide) ?_
          refine lv_goto (tgt := 146) hx hb nd_D_branch_110 (by decide) ?_
          exact J146 (((u 0 17) >>> ((16 : Int32) &&& 31)) &&& (31 : Int32)) (0 : Int32) u H locs ls hP hD hS (lv_sub hl [1, 0] rfl) hw
        have hw := (if_neg h102).symm.trans hw
        refine lv_iconst (v := (1 : Int32)) hx hb nd_D_branch_105 (by decide) ?_
        refine lv_goto (tgt := 146) hx hb nd_D_branch_106 (by decide) ?_
        exact J146 (((u 0 17) >>> ((16 : Int32) &&& 31)) &&& (31 : Int32)) (1 : Int32) u H locs ls hP hD hS (lv_sub hl [1, 0] rfl) hw
      have hw := (if_pos h71).symm.trans hw
      refine lv_aload_n hx hb nd_D_branch_74 rfl (lv_at hl 1 rfl) ?_
      refine va_get (D := D) (ci := 5) (v := .int (u 0 19)) (C := nR_D) (T := nT_D) (N := 28) hx hb hts nu_D hown hK hP 0 rfl rfl 19 (by decide) (hts _ gw_433) (fun _ h9 => h9) rfl nd_D_branch_75 ?_
      refine lv_if_gt (tgt := 85) hx hb nd_D_branch_78 (by decide) (fun h78 => ?_) (fun h78 => ?_)
      · have hw := (if_pos h78).symm.trans hw
        refine lv_iconst (v := (0 : Int32)) hx hb nd_D_branch_85 (by decide) ?_
        refine lv_goto (tgt := 146) hx hb nd_D_branch_86 (by decide) ?_
        exact J146 (((u 0 17) >>> ((16 : Int32) &&& 31)) &&& (31 : Int32)) (0 : Int32) u H locs ls hP hD hS (lv_sub hl [1, 0] rfl) hw
      have hw := (if_neg h78).symm.trans hw
      refine lv_iconst (v := (1 : Int32)) hx hb nd_D_branch_81 (by decide) ?_
      refine lv_goto (tgt := 146) hx hb nd_D_branch_82 (by decide) ?_
      exact J146 (((u 0 17) >>> ((16 : Int32) &&& 31)) &&& (31 : Int32)) (1 : Int32) u H locs ls hP hD hS (lv_sub hl [1, 0] rfl) hw
    have hw := (if_pos h43).symm.trans hw
    refine lv_aload_n hx hb nd_D_branch_46 rfl (lv_at hl 1 rfl) ?_
    refine va_get (D := D) (ci := 5) (v := .int (u 0 19)) (C := nR_D) (T := nT_D) (N := 28) hx hb hts nu_D hown hK hP 0 rfl rfl 19 (by decide) (hts _ gw_433) (fun _ h9 => h9) rfl nd_D_branch_47 ?_
    refine lv_aload_n hx hb nd_D_branch_50 rfl (lv_at hl 1 rfl) ?_
    refine va_get (D := D) (ci := 5) (v := .int (u 0 20)) (C := nR_D) (T := nT_D) (N := 28) hx hb hts nu_D hown hK hP 0 rfl rfl 20 (by decide) (hts _ gw_434) (fun _ h9 => h9) rfl nd_D_branch_51 ?_
    refine lv_icmp_eq (tgt := 61) hx hb nd_D_branch_54 (by decide) (fun h54 => ?_) (fun h54 => ?_)
    · have hw := (if_pos h54).symm.trans hw
      refine lv_iconst (v := (0 : Int32)) hx hb nd_D_branch_61 (by decide) ?_
      refine lv_goto (tgt := 146) hx hb nd_D_branch_62 (by decide) ?_
      exact J146 (((u 0 17) >>> ((16 : Int32) &&& 31)) &&& (31 : Int32)) (0 : Int32) u H locs ls hP hD hS (lv_sub hl [1, 0] rfl) hw
    have hw := (if_neg h54).symm.trans hw
    refine lv_iconst (v := (1 : Int32)) hx hb nd_D_branch_57 (by decide) ?_
    refine lv_goto (tgt := 146) hx hb nd_D_branch_58 (by decide) ?_
    exact J146 (((u 0 17) >>> ((16 : Int32) &&& 31)) &&& (31 : Int32)) (1 : Int32) u H locs ls hP hD hS (lv_sub hl [1, 0] rfl) hw
  have hw := (if_pos h16).symm.trans hw
  refine lv_aload_n hx hb nd_D_branch_19 rfl (lv_at hl 1 rfl) ?_
  refine va_get (D := D) (ci := 5) (v := .int (u 0 19)) (C := nR_D) (T := nT_D) (N := 28) hx hb hts nu_D hown hK hP 0 rfl rfl 19 (by decide) (hts _ gw_433) (fun _ h9 => h9) rfl nd_D_branch_20 ?_
  refine lv_aload_n hx hb nd_D_branch_23 rfl (lv_at hl 1 rfl) ?_
  refine va_get (D := D) (ci := 5) (v := .int (u 0 20)) (C := nR_D) (T := nT_D) (N := 28) hx hb hts nu_D hown hK hP 0 rfl rfl 20 (by decide) (hts _ gw_434) (fun _ h9 => h9) rfl nd_D_branch_24 ?_
  refine lv_icmp_ne (tgt := 34) hx hb nd_D_branch_27 (by decide) (fun h27 => ?_) (fun h27 => ?_)
  · have hw := (if_neg h27).symm.trans hw
    refine lv_iconst (v := (0 : Int32)) hx hb nd_D_branch_34 (by decide) ?_
    refine lv_goto (tgt := 146) hx hb nd_D_branch_35 (by decide) ?_
    exact J146 (((u 0 17) >>> ((16 : Int32) &&& 31)) &&& (31 : Int32)) (0 : Int32) u H locs ls hP hD hS (lv_sub hl [1, 0] rfl) hw
  have hw := (if_pos h27).symm.trans hw
  refine lv_iconst (v := (1 : Int32)) hx hb nd_D_branch_30 (by decide) ?_
  refine lv_goto (tgt := 146) hx hb nd_D_branch_31 (by decide) ?_
  exact J146 (((u 0 17) >>> ((16 : Int32) &&& 31)) &&& (31 : Int32)) (1 : Int32) u H locs ls hP hD hS (lv_sub hl [1, 0] rfl) hw
set_option maxHeartbeats 4000000 in
set_option maxRecDepth 100000 in
theorem c_D_byNumber (l : Launch) (D : va_G) (h : Nat → Nat) (cA : Nat → ClassId) (u : St) (F : St) (hw : f_D_byNumber u = F) : MV nwS vwCl l ny_D_byNumber nw_D_byNumber ({ frames := 1, cells := 0, slots := 0, locals := 22 }) D (tyI cA) (wMD h cA) ([.ref (h 0)] : List Value) u F := by
  refine my_in (gw := GW) (cc := nc_D_byNumber) (maxL := 3) (ret := none) (Qc := fun A => QV vwCl D (tyI cA) (wMD h cA) F A) (by decide) rfl (Nat.le_of_ble_eq_true rfl) ?_
  intro p e s m below meth c A H locs ls hx hb hml hr hts hown hlocks hK hN hA hP hD hS hl
  have hown : s.vm.findClass nR_D = some m.cls := hown
  have hl : lv_has ls 3 [(0, .ref (h 0))] := hl
  have J64 : ∀ (x1 : Int32) (u : St) (H : Heap) (locs : List Loc) (ls : Array Slot), va_P D vwCl (wMD h cA u) H → va_D A (wMD h cA u) → va_S A s.heap H locs → lv_has ls 3 [(0, .ref (h 0)), (1, .int x1)] → f_D_byNumber_b64 x1 u = F →
      W p l e (headSpec nw_D_byNumber ({ frames := 1, cells := 0, slots := 0, locals := 22 })).room s m ([.ref (h 0)] : List Value).toArray below meth c H locs 0 0 (MQ below (QV vwCl D (tyI cA) (wMD h cA) F A) ([.ref (h 0)] : List Value).toArray s 0 0 A) (F0 m 64 ls []) := by
    intro x1 u H locs ls hP hD hS hl hw
    unfold f_D_byNumber_b64 at hw
    refine lv_aload_n hx hb nd_D_byNumber_64 rfl (lv_at hl 0 rfl) ?_
    refine lv_iload_n hx hb nd_D_byNumber_65 rfl (lv_at hl 1 rfl) ?_
    refine lv_aload_n hx hb nd_D_byNumber_66 rfl (lv_at hl 0 rfl) ?_
    refine va_get (D := D) (ci := 5) (v := .int (u 0 19)) (C := nR_D) (T := nT_D) (N := 28) hx hb hts nu_D hown hK hP 0 rfl rfl 19 (by decide) (hts _ gw_433) (fun _ h9 => h9) rfl nd_D_byNumber_67 ?_
    refine lv_aload_n hx hb nd_D_byNumber_70 rfl (lv_at hl 0 rfl) ?_
    refine my_ci (wd := wMD h cA) (r := f_D_number u) (u' := u) (va_runV (As := []) (rest := [.int (u 0 19), .int x1, .ref (h 0)]) ⟨hx, hb, hml, hown, hts⟩ (c_D_number l D h cA u _ rfl _) ⟨callB_of 0 hts (gw_in gw_577) rfl rfl rfl (hts _ gw_6) (hts _ gw_574) nh_D_number ⟨Nat.le_of_ble_eq_true rfl, Nat.le_of_ble_eq_true rfl⟩, (hts _ gw_576), (hts _ gw_575)⟩ (my_preV nwOk hP hK hD hN (va_recv hK hP (ci := 5) (q0 := 0) rfl rfl)) rfl rfl hl.1 rfl (lv_room (Nat.le_of_ble_eq_true rfl)) nd_D_byNumber_71 ⟨Nat.le_of_ble_eq_true rfl, Nat.le_of_ble_eq_true rfl⟩) hD hS hA (fun H locs hP hD hS => ?_)
    refine lv_iadd hx hb nd_D_byNumber_74 ?_
    obtain ⟨u75, hq75, hw⟩ := bnv_i hw
    refine my_cv (wd := wMD h cA) (F := u75) (va_runV (As := [.int x1, .int ((u 0 19) + (f_D_number u))]) (rest := []) ⟨hx, hb, hml, hown, hts⟩ (c_D_gives l D h cA u x1 ((u 0 19) + (f_D_number u)) u75 hq75 _) ⟨callB_of 2 hts (gw_in gw_601) rfl rfl rfl (hts _ gw_6) (hts _ gw_598) nh_D_gives ⟨Nat.le_of_ble_eq_true rfl, Nat.le_of_ble_eq_true rfl⟩, (hts _ gw_600), (hts _ gw_599)⟩ (my_preV nwOk hP hK hD hN (va_recv hK hP (ci := 5) (q0 := 0) rfl rfl)) rfl rfl hl.1 rfl (lv_room (Nat.le_of_ble_eq_true rfl)) nd_D_byNumber_75 ⟨Nat.le_of_ble_eq_true rfl, Nat.le_of_ble_eq_true rfl⟩) hD hS hA (fun H locs hP hD hS => ?_)
    refine lv_goto (tgt := 183) hx hb nd_D_byNumber_78 (by decide) ?_
    exact my_rv (u' := u75) hx hb hr hlocks hK hP hD hS hw nd_D_byNumber_183
  have J99 : ∀ (y0 : Int32) (y1 : Int32) (u : St) (H : Heap) (locs : List Loc) (ls : Array Slot), va_P D vwCl (wMD h cA u) H → va_D A (wMD h cA u) → va_S A s.heap H locs → lv_has ls 3 [] → f_D_byNumber_b99 y0 y1 u = F →
      W p l e (headSpec nw_D_byNumber ({ frames := 1, cells := 0, slots := 0, locals := 22 })).room s m ([.ref (h 0)] : List Value).toArray below meth c H locs 0 0 (MQ below (QV vwCl D (tyI cA) (wMD h cA) F A) ([.ref (h 0)] : List Value).toArray s 0 0 A) (F0 m 99 ls [.int y0, .int y1, .ref (h 0)]) := by
    intro y0 y1 u H locs ls hP hD hS hl hw
    unfold f_D_byNumber_b99 at hw
    obtain ⟨u99, hq99, hw⟩ := bnv_i hw
    refine my_cv (wd := wMD h cA) (F := u99) (va_runV (As := [.int y1, .int y0]) (rest := []) ⟨hx, hb, hml, hown, hts⟩ (c_D_gives l D h cA u y1 y0 u99 hq99 _) ⟨callB_of 2 hts (gw_in gw_601) rfl rfl rfl (hts _ gw_6) (hts _ gw_598) nh_D_gives ⟨Nat.le_of_ble_eq_true rfl, Nat.le_of_ble_eq_true rfl⟩, (hts _ gw_600), (hts _ gw_599)⟩ (my_preV nwOk hP hK hD hN (va_recv hK hP (ci := 5) (q0 := 0) rfl rfl)) rfl rfl hl.1 rfl (lv_room (Nat.le_of_ble_eq_true rfl)) nd_D_byNumber_99 ⟨Nat.le_of_ble_eq_true rfl, Nat.le_of_ble_eq_true rfl⟩) hD hS hA (fun H locs hP hD hS => ?_)
    refine lv_goto (tgt := 183) hx hb nd_D_byNumber_102 (by decide) ?_
    exact my_rv (u' := u99) hx hb hr hlocks hK hP hD hS hw nd_D_byNumber_183
  have J126 : ∀ (y0 : Int32) (y1 : Int32) (u : St) (H : Heap) (locs : List Loc) (ls : Array Slot), va_P D vwCl (wMD h cA u) H → va_D A (wMD h cA u) → va_S A s.heap H locs → lv_has ls 3 [] → f_D_byNumber_b126 y0 y1 u = F →
      W p l e (headSpec nw_D_byNumber ({ frames := 1, cells := 0, slots := 0, locals := 22 })).room s m ([.ref (h 0)] : List Value).toArray below meth c H locs 0 0 (MQ below (QV vwCl D (tyI cA) (wMD h cA) F A) ([.ref (h 0)] : List Value).toArray s 0 0 A) (F0 m 126 ls [.int y0, .int y1, .ref (h 0)]) := by
    intro y0 y1 u H locs ls hP hD hS hl hw
    unfold f_D_byNumber_b126 at hw
    obtain ⟨u126, hq126, hw⟩ := bnv_i hw
    refine my_cv (wd := wMD h cA) (F := u126) (va_runV (As := [.int y1, .int y0]) (rest := []) ⟨hx, hb, hml, hown, hts⟩ (c_D_gives l D h cA u y1 y0 u126 hq126 _) ⟨callB_of 2 hts (gw_in gw_601) rfl rfl rfl (hts _ gw_6) (hts _ gw_598) nh_D_gives ⟨Nat.le_of_ble_eq_true rfl, Nat.le_of_ble_eq_true rfl⟩, (hts _ gw_600), (hts _ gw_599)⟩ (my_preV nwOk hP hK hD hN (va_recv hK hP (ci := 5) (q0 := 0) rfl rfl)) rfl rfl hl.1 rfl (lv_room (Nat.le_of_ble_eq_true rfl)) nd_D_byNumber_126 ⟨Nat.le_of_ble_eq_true rfl, Nat.le_of_ble_eq_true rfl⟩) hD hS hA (fun H locs hP hD hS => ?_)
    refine lv_goto (tgt := 183) hx hb nd_D_byNumber_129 (by decide) ?_
    exact my_rv (u' := u126) hx hb hr hlocks hK hP hD hS hw nd_D_byNumber_183
  unfold f_D_byNumber at hw
  refine lv_aload_n hx hb nd_D_byNumber_0 rfl (lv_at hl 0 rfl) ?_
  refine va_get (D := D) (ci := 5) (v := .int (u 0 17)) (C := nR_D) (T := nT_D) (N := 28) hx hb hts nu_D hown hK hP 0 rfl rfl 17 (by decide) (hts _ gw_431) (fun _ h9 => h9) rfl nd_D_byNumber_1 ?_
  refine lv_bipush (v := (16 : Int32)) hx hb nd_D_byNumber_4 (by decide) ?_
  refine lv_ishr hx hb nd_D_byNumber_6 ?_
  refine lv_bipush (v := (31 : Int32)) hx hb nd_D_byNumber_7 (by decide) ?_
  refine lv_iand hx hb nd_D_byNumber_9 ?_
  refine lv_istore_n (lv' := [(1, .int (((u 0 17) >>> ((16 : Int32) &&& 31)) &&& (31 : Int32))), (0, .ref (h 0))]) hx hb nd_D_byNumber_10 rfl hl (by decide) rfl (fun ls hl => ?_)
  refine lv_aload_n hx hb nd_D_byNumber_11 rfl (lv_at hl 1 rfl) ?_
  refine va_get (D := D) (ci := 5) (v := .int (u 0 17)) (C := nR_D) (T := nT_D) (N := 28) hx hb hts nu_D hown hK hP 0 rfl rfl 17 (by decide) (hts _ gw_431) (fun _ h9 => h9) rfl nd_D_byNumber_12 ?_
  refine lv_ldc (own := nR_D) (v := (65535 : Int32)) hx hb hown (hts _ gw_628) nd_D_byNumber_15 ?_
  refine lv_iand hx hb nd_D_byNumber_17 ?_
  refine lv_istore_n (lv' := [(2, .int ((u 0 17) &&& (65535 : Int32))), (1, .int (((u 0 17) >>> ((16 : Int32) &&& 31)) &&& (31 : Int32))), (0, .ref (h 0))]) hx hb nd_D_byNumber_18 rfl hl (by decide) rfl (fun ls hl => ?_)
  refine lv_aload_n hx hb nd_D_byNumber_19 rfl (lv_at hl 2 rfl) ?_
  refine va_get (D := D) (ci := 5) (v := .int (u 0 18)) (C := nR_D) (T := nT_D) (N := 28) hx hb hts nu_D hown hK hP 0 rfl rfl 18 (by decide) (hts _ gw_432) (fun _ h9 => h9) rfl nd_D_byNumber_20 ?_
  rcases my_em (x := u 0 18) (8 : Int32) with h23_8 | h23_8
  · have hw := (if_pos h23_8).symm.trans hw
    refine my_swi (tgt := 64) hx hb nd_D_byNumber_23 h23_8 (by decide) (by decide) rfl (by decide) ?_
    exact J64 (((u 0 17) >>> ((16 : Int32) &&& 31)) &&& (31 : Int32)) u H locs ls hP hD hS (lv_sub hl [2, 1] rfl) hw
  have hw := (if_neg h23_8).symm.trans hw
  rcases my_em (x := u 0 18) (9 : Int32) with h23_9 | h23_9
  · have hw := (if_pos h23_9).symm.trans hw
    refine my_swi (tgt := 64) hx hb nd_D_byNumber_23 h23_9 (by decide) (by decide) rfl (by decide) ?_
    exact J64 (((u 0 17) >>> ((16 : Int32) &&& 31)) &&& (31 : Int32)) u H locs ls hP hD hS (lv_sub hl [2, 1] rfl) hw
  have hw := (if_neg h23_9).symm.trans hw
  rcases my_em (x := u 0 18) (10 : Int32) with h23_10 | h23_10
  · have hw := (if_pos h23_10).symm.trans hw
    refine my_swi (tgt := 81) hx hb nd_D_byNumber_23 h23_10 (by decide) (by decide) rfl (by decide) ?_
    refine lv_aload_n hx hb nd_D_byNumber_81 rfl (lv_at hl 2 rfl) ?_
    refine lv_iload_n hx hb nd_D_byNumber_82 rfl (lv_at hl 1 rfl) ?_
    refine lv_aload_n hx hb nd_D_byNumber_83 rfl (lv_at hl 2 rfl) ?_
    refine va_get (D := D) (ci := 5) (v := .int (u 0 19)) (C := nR_D) (T := nT_D) (N := 28) hx hb hts nu_D hown hK hP 0 rfl rfl 19 (by decide) (hts _ gw_433) (fun _ h9 => h9) rfl nd_D_byNumber_84 ?_
    refine lv_aload_n hx hb nd_D_byNumber_87 rfl (lv_at hl 2 rfl) ?_
    refine my_ci (wd := wMD h cA) (r := f_D_number u) (u' := u) (va_runV (As := []) (rest := [.int (u 0 19), .int (((u 0 17) >>> ((16 : Int32) &&& 31)) &&& (31 : Int32)), .ref (h 0)]) ⟨hx, hb, hml, hown, hts⟩ (c_D_number l D h cA u _ rfl _) ⟨callB_of 0 hts (gw_in gw_577) rfl rfl rfl (hts _ gw_6) (hts _ gw_574) nh_D_number ⟨Nat.le_of_ble_eq_true rfl, Nat.le_of_ble_eq_true rfl⟩, (hts _ gw_576), (hts _ gw_575)⟩ (my_preV nwOk hP hK hD hN (va_recv hK hP (ci := 5) (q0 := 0) rfl rfl)) rfl rfl hl.1 rfl (lv_room (Nat.le_of_ble_eq_true rfl)) nd_D_byNumber_88 ⟨Nat.le_of_ble_eq_true rfl, Nat.le_of_ble_eq_true rfl⟩) hD hS hA (fun H locs hP hD hS => ?_)
    refine lv_icmp_ge (tgt := 98) hx hb nd_D_byNumber_91 (by decide) (fun h91 => ?_) (fun h91 => ?_)
    · have hw := (if_pos h91).symm.trans hw
      refine lv_iconst (v := (0 : Int32)) hx hb nd_D_byNumber_98 (by decide) ?_
      exact J99 (0 : Int32) (((u 0 17) >>> ((16 : Int32) &&& 31)) &&& (31 : Int32)) u H locs ls hP hD hS (lv_sub hl [] rfl) hw
    have hw := (if_neg h91).symm.trans hw
    refine lv_iconst (v := (1 : Int32)) hx hb nd_D_byNumber_94 (by decide) ?_
    refine lv_goto (tgt := 99) hx hb nd_D_byNumber_95 (by decide) ?_
    exact J99 (1 : Int32) (((u 0 17) >>> ((16 : Int32) &&& 31)) &&& (31 : Int32)) u H locs ls hP hD hS (lv_sub hl [] rfl) hw
  have hw := (if_neg h23_10).symm.trans hw
  rcases my_em (x := u 0 18) (11 : Int32) with h23_11 | h23_11
  · have hw := (if_pos h23_11).symm.trans hw
    refine my_swi (tgt := 105) hx hb nd_D_byNumber_23 h23_11 (by decide) (by decide) rfl (by decide) ?_
    refine lv_aload_n hx hb nd_D_byNumber_105 rfl (lv_at hl 2 rfl) ?_
    refine lv_iload_n hx hb nd_D_byNumber_106 rfl (lv_at hl 1 rfl) ?_
    refine lv_aload_n hx hb nd_D_byNumber_107 rfl (lv_at hl 2 rfl) ?_
    refine va_get (D := D) (ci := 5) (v := .int (u 0 19)) (C := nR_D) (T := nT_D) (N := 28) hx hb hts nu_D hown hK hP 0 rfl rfl 19 (by decide) (hts _ gw_433) (fun _ h9 => h9) rfl nd_D_byNumber_108 ?_
    refine lv_aload_n hx hb nd_D_byNumber_111 rfl (lv_at hl 2 rfl) ?_
    refine my_ci (wd := wMD h cA) (r := f_D_number u) (u' := u) (va_runV (As := []) (rest := [.int (u 0 19), .int (((u 0 17) >>> ((16 : Int32) &&& 31)) &&& (31 : Int32)), .ref (h 0)]) ⟨hx, hb, hml, hown, hts⟩ (c_D_number l D h cA u _ rfl _) ⟨callB_of 0 hts (gw_in gw_577) rfl rfl rfl (hts _ gw_6) (hts _ gw_574) nh_D_number ⟨Nat.le_of_ble_eq_true rfl, Nat.le_of_ble_eq_true rfl⟩, (hts _ gw_576), (hts _ gw_575)⟩ (my_preV nwOk hP hK hD hN (va_recv hK hP (ci := 5) (q0 := 0) rfl rfl)) rfl rfl hl.1 rfl (lv_room (Nat.le_of_ble_eq_true rfl)) nd_D_byNumber_112 ⟨Nat.le_of_ble_eq_true rfl, Nat.le_of_ble_eq_true rfl⟩) hD hS hA (fun H locs hP hD hS => ?_)
    refine my_cp (F := zb (f_D_less (u 0 19) (f_D_number u))) (va_runS (As := [.int (u 0 19), .int (f_D_number u)]) (rest := [.int (((u 0 17) >>> ((16 : Int32) &&& 31)) &&& (31 : Int32)), .ref (h 0)]) ⟨hx, hb, hml, hown, hts⟩ (c_D_less l (u 0 19) (f_D_number u) _ rfl) ⟨callB_of 2 hts (gw_in gw_613) rfl rfl rfl (hts _ gw_6) (hts _ gw_611) nh_D_less ⟨Nat.le_of_ble_eq_true rfl, Nat.le_of_ble_eq_true rfl⟩, (hts _ gw_612)⟩ my_preP rfl rfl hl.1 rfl (lv_room (Nat.le_of_ble_eq_true rfl)) nd_D_byNumber_115 ⟨Nat.le_of_ble_eq_true rfl, Nat.le_of_ble_eq_true rfl⟩) hP hS (fun H locs hP hS => ?_)
    refine lv_if_eq (tgt := 125) hx hb nd_D_byNumber_118 (by decide) (fun h118 => ?_) (fun h118 => ?_)
    · have hw := (if_pos h118).symm.trans hw
      refine lv_iconst (v := (0 : Int32)) hx hb nd_D_byNumber_125 (by decide) ?_
      exact J126 (0 : Int32) (((u 0 17) >>> ((16 : Int32) &&& 31)) &&& (31 : Int32)) u H locs ls hP hD hS (lv_sub hl [] rfl) hw
    have hw := (if_neg h118).symm.trans hw
    refine lv_iconst (v := (1 : Int32)) hx hb nd_D_byNumber_121 (by decide) ?_
    refine lv_goto (tgt := 126) hx hb nd_D_byNumber_122 (by decide) ?_
    exact J126 (1 : Int32) (((u 0 17) >>> ((16 : Int32) &&& 31)) &&& (31 : Int32)) u H locs ls hP hD hS (lv_sub hl [] rfl) hw
  have hw := (if_neg h23_11).symm.trans hw
  rcases my_em (x := u 0 18) (12 : Int32) with h23_12 | h23_12
  · have hw := (if_pos h23_12).symm.trans hw
    refine my_swi (tgt := 132) hx hb nd_D_byNumber_23 h23_12 (by decide) (by decide) rfl (by decide) ?_
    refine lv_aload_n hx hb nd_D_byNumber_132 rfl (lv_at hl 2 rfl) ?_
    refine lv_iload_n hx hb nd_D_byNumber_133 rfl (lv_at hl 1 rfl) ?_
    refine lv_aload_n hx hb nd_D_byNumber_134 rfl (lv_at hl 2 rfl) ?_
    refine va_get (D := D) (ci := 5) (v := .int (u 0 19)) (C := nR_D) (T := nT_D) (N := 28) hx hb hts nu_D hown hK hP 0 rfl rfl 19 (by decide) (hts _ gw_433) (fun _ h9 => h9) rfl nd_D_byNumber_135 ?_
    refine lv_iload_n hx hb nd_D_byNumber_138 rfl (lv_at hl 0 rfl) ?_
    refine lv_iand hx hb nd_D_byNumber_139 ?_
    obtain ⟨u140, hq140, hw⟩ := bnv_i hw
    refine my_cv (wd := wMD h cA) (F := u140) (va_runV (As := [.int (((u 0 17) >>> ((16 : Int32) &&& 31)) &&& (31 : Int32)), .int ((u 0 19) &&& ((u 0 17) &&& (65535 : Int32)))]) (rest := []) ⟨hx, hb, hml, hown, hts⟩ (c_D_gives l D h cA u (((u 0 17) >>> ((16 : Int32) &&& 31)) &&& (31 : Int32)) ((u 0 19) &&& ((u 0 17) &&& (65535 : Int32))) u140 hq140 _) ⟨callB_of 2 hts (gw_in gw_601) rfl rfl rfl (hts _ gw_6) (hts _ gw_598) nh_D_gives ⟨Nat.le_of_ble_eq_true rfl, Nat.le_of_ble_eq_true rfl⟩, (hts _ gw_600), (hts _ gw_599)⟩ (my_preV nwOk hP hK hD hN (va_recv hK hP (ci := 5) (q0 := 0) rfl rfl)) rfl rfl hl.1 rfl (lv_room (Nat.le_of_ble_eq_true rfl)) nd_D_byNumber_140 ⟨Nat.le_of_ble_eq_true rfl, Nat.le_of_ble_eq_true rfl⟩) hD hS hA (fun H locs hP hD hS => ?_)
    refine lv_goto (tgt := 183) hx hb nd_D_byNumber_143 (by decide) ?_
    exact my_rv (u' := u140) hx hb hr hlocks hK hP hD hS hw nd_D_byNumber_183
  have hw := (if_neg h23_12).symm.trans hw
  rcases my_em (x := u 0 18) (13 : Int32) with h23_13 | h23_13
  · have hw := (if_pos h23_13).symm.trans hw
    refine my_swi (tgt := 146) hx hb nd_D_byNumber_23 h23_13 (by decide) (by decide) rfl (by decide) ?_
    refine lv_aload_n hx hb nd_D_byNumber_146 rfl (lv_at hl 2 rfl) ?_
    refine lv_iload_n hx hb nd_D_byNumber_147 rfl (lv_at hl 1 rfl) ?_
    refine lv_aload_n hx hb nd_D_byNumber_148 rfl (lv_at hl 2 rfl) ?_
    refine va_get (D := D) (ci := 5) (v := .int (u 0 19)) (C := nR_D) (T := nT_D) (N := 28) hx hb hts nu_D hown hK hP 0 rfl rfl 19 (by decide) (hts _ gw_433) (fun _ h9 => h9) rfl nd_D_byNumber_149 ?_
    refine lv_iload_n hx hb nd_D_byNumber_152 rfl (lv_at hl 0 rfl) ?_
    refine lv_ior hx hb nd_D_byNumber_153 ?_
    obtain ⟨u154, hq154, hw⟩ := bnv_i hw
    refine my_cv (wd := wMD h cA) (F := u154) (va_runV (As := [.int (((u 0 17) >>> ((16 : Int32) &&& 31)) &&& (31 : Int32)), .int ((u 0 19) ||| ((u 0 17) &&& (65535 : Int32)))]) (rest := []) ⟨hx, hb, hml, hown, hts⟩ (c_D_gives l D h cA u (((u 0 17) >>> ((16 : Int32) &&& 31)) &&& (31 : Int32)) ((u 0 19) ||| ((u 0 17) &&& (65535 : Int32))) u154 hq154 _) ⟨callB_of 2 hts (gw_in gw_601) rfl rfl rfl (hts _ gw_6) (hts _ gw_598) nh_D_gives ⟨Nat.le_of_ble_eq_true rfl, Nat.le_of_ble_eq_true rfl⟩, (hts _ gw_600), (hts _ gw_599)⟩ (my_preV nwOk hP hK hD hN (va_recv hK hP (ci := 5) (q0 := 0) rfl rfl)) rfl rfl hl.1 rfl (lv_room (Nat.le_of_ble_eq_true rfl)) nd_D_byNumber_154 ⟨Nat.le_of_ble_eq_true rfl, Nat.le_of_ble_eq_true rfl⟩) hD hS hA (fun H locs hP hD hS => ?_)
    refine lv_goto (tgt := 183) hx hb nd_D_byNumber_157 (by decide) ?_
    exact my_rv (u' := u154) hx hb hr hlocks hK hP hD hS hw nd_D_byNumber_183
  have hw := (if_neg h23_13).symm.trans hw
  rcases my_em (x := u 0 18) (14 : Int32) with h23_14 | h23_14
  · have hw := (if_pos h23_14).symm.trans hw
    refine my_swi (tgt := 160) hx hb nd_D_byNumber_23 h23_14 (by decide) (by decide) rfl (by decide) ?_
    refine lv_aload_n hx hb nd_D_byNumber_160 rfl (lv_at hl 2 rfl) ?_
    refine lv_iload_n hx hb nd_D_byNumber_161 rfl (lv_at hl 1 rfl) ?_
    refine lv_aload_n hx hb nd_D_byNumber_162 rfl (lv_at hl 2 rfl) ?_
    refine va_get (D := D) (ci := 5) (v := .int (u 0 19)) (C := nR_D) (T := nT_D) (N := 28) hx hb hts nu_D hown hK hP 0 rfl rfl 19 (by decide) (hts _ gw_433) (fun _ h9 => h9) rfl nd_D_byNumber_163 ?_
    refine lv_iload_n hx hb nd_D_byNumber_166 rfl (lv_at hl 0 rfl) ?_
    refine lv_ixor hx hb nd_D_byNumber_167 ?_
    obtain ⟨u168, hq168, hw⟩ := bnv_i hw
    refine my_cv (wd := wMD h cA) (F := u168) (va_runV (As := [.int (((u 0 17) >>> ((16 : Int32) &&& 31)) &&& (31 : Int32)), .int ((u 0 19) ^^^ ((u 0 17) &&& (65535 : Int32)))]) (rest := []) ⟨hx, hb, hml, hown, hts⟩ (c_D_gives l D h cA u (((u 0 17) >>> ((16 : Int32) &&& 31)) &&& (31 : Int32)) ((u 0 19) ^^^ ((u 0 17) &&& (65535 : Int32))) u168 hq168 _) ⟨callB_of 2 hts (gw_in gw_601) rfl rfl rfl (hts _ gw_6) (hts _ gw_598) nh_D_gives ⟨Nat.le_of_ble_eq_true rfl, Nat.le_of_ble_eq_true rfl⟩, (hts _ gw_600), (hts _ gw_599)⟩ (my_preV nwOk hP hK hD hN (va_recv hK hP (ci := 5) (q0 := 0) rfl rfl)) rfl rfl hl.1 rfl (lv_room (Nat.le_of_ble_eq_true rfl)) nd_D_byNumber_168 ⟨Nat.le_of_ble_eq_true rfl, Nat.le_of_ble_eq_true rfl⟩) hD hS hA (fun H locs hP hD hS => ?_)
    refine lv_goto (tgt := 183) hx hb nd_D_byNumber_171 (by decide) ?_
    exact my_rv (u' := u168) hx hb hr hlocks hK hP hD hS hw nd_D_byNumber_183
  have hw := (if_neg h23_14).symm.trans hw
  refine my_swd (tgt := 174) hx hb nd_D_byNumber_23 (my_nec h23_8 (my_nec h23_9 (my_nec h23_10 (my_nec h23_11 (my_nec h23_12 (my_nec h23_13 (my_nec h23_14 my_nen))))))) (by decide +kernel) (by decide) ?_
  refine lv_aload_n hx hb nd_D_byNumber_174 rfl (lv_at hl 2 rfl) ?_
  refine lv_iload_n hx hb nd_D_byNumber_175 rfl (lv_at hl 1 rfl) ?_
  refine lv_iload_n hx hb nd_D_byNumber_176 rfl (lv_at hl 0 rfl) ?_
  refine lv_bipush (v := (16 : Int32)) hx hb nd_D_byNumber_177 (by decide) ?_
  refine lv_ishl hx hb nd_D_byNumber_179 ?_
  obtain ⟨u180, hq180, hw⟩ := bnv_i hw
  refine my_cv (wd := wMD h cA) (F := u180) (va_runV (As := [.int (((u 0 17) >>> ((16 : Int32) &&& 31)) &&& (31 : Int32)), .int (((u 0 17) &&& (65535 : Int32)) <<< ((16 : Int32) &&& 31))]) (rest := []) ⟨hx, hb, hml, hown, hts⟩ (c_D_gives l D h cA u (((u 0 17) >>> ((16 : Int32) &&& 31)) &&& (31 : Int32)) (((u 0 17) &&& (65535 : Int32)) <<< ((16 : Int32) &&& 31)) u180 hq180 _) ⟨callB_of 2 hts (gw_in gw_601) rfl rfl rfl (hts _ gw_6) (hts _ gw_598) nh_D_gives ⟨Nat.le_of_ble_eq_true rfl, Nat.le_of_ble_eq_true rfl⟩, (hts _ gw_600), (hts _ gw_599)⟩ (my_preV nwOk hP hK hD hN (va_recv hK hP (ci := 5) (q0 := 0) rfl rfl)) rfl rfl hl.1 rfl (lv_room (Nat.le_of_ble_eq_true rfl)) nd_D_byNumber_180 ⟨Nat.le_of_ble_eq_true rfl, Nat.le_of_ble_eq_true rfl⟩) hD hS hA (fun H locs hP hD hS => ?_)
  exact my_rv (u' := u180) hx hb hr hlocks hK hP hD hS hw nd_D_byNumber_183
