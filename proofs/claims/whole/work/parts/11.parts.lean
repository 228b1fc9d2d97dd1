set_option maxHeartbeats 4000000 in
set_option maxRecDepth 100000 in
theorem c_R_holdLoad (l : Launch) (D : va_G) (h : Nat → Nat) (cA : Nat → ClassId) (u : St) (a1 : Int32) (a2 : Int32) (F : St) (hw : f_R_holdLoad a1 a2 u = F) : MV nwS vwCl l ny_R_holdLoad nw_R_holdLoad ({ frames := 0, cells := 0, slots := 0, locals := 0 }) D (tyI cA) (wSC h cA) ([.ref (h 3), .int a1, .int a2] : List Value) u F := by
  refine my_in (gw := GW) (cc := nc_R_holdLoad) (maxL := 3) (ret := none) (Qc := fun A => QV vwCl D (tyI cA) (wSC h cA) F A) (by decide) rfl (Nat.le_of_ble_eq_true rfl) ?_
  intro p e s m below meth c A H locs ls hx hb hml hr hts hown hlocks hK hN hA hP hD hS hl
  have hown : s.vm.findClass nR_R = some m.cls := hown
  have hl : lv_has ls 3 [(0, .ref (h 3)), (1, .int a1), (2, .int a2)] := hl
  unfold f_R_holdLoad at hw
  refine lv_aload_n hx hb nd_R_holdLoad_0 rfl (lv_at hl 0 rfl) ?_
  refine lv_iload_n hx hb nd_R_holdLoad_1 rfl (lv_at hl 1 rfl) ?_
  refine va_put (D := D) (ci := 2) (v := .int a1) (ty := .int) (C := nR_R) (T := nT_R) (N := 3) hx hb hts nu_R nt_R nto_R nn_R hown hK hP hD hS 3 rfl rfl 1 (by decide) (hts _ gw_29) (fun _ h9 => h9) rfl (by decide +kernel) rfl rfl (Nat.le_of_ble_eq_true rfl) nd_R_holdLoad_2 (fun H locs hP hD hS => ?_)
  have hP : va_P D vwCl (wSC h cA (sU u 3 1 a1)) H := hP
  have hD : va_D A (wSC h cA (sU u 3 1 a1)) := hD
  refine lv_aload_n hx hb nd_R_holdLoad_5 rfl (lv_at hl 0 rfl) ?_
  refine lv_iload_n hx hb nd_R_holdLoad_6 rfl (lv_at hl 2 rfl) ?_
  refine va_put (D := D) (ci := 2) (v := .int a2) (ty := .int) (C := nR_R) (T := nT_R) (N := 3) hx hb hts nu_R nt_R nto_R nn_R hown hK hP hD hS 3 rfl rfl 2 (by decide) (hts _ gw_30) (fun _ h9 => h9) rfl (by decide +kernel) rfl rfl (Nat.le_of_ble_eq_true rfl) nd_R_holdLoad_7 (fun H locs hP hD hS => ?_)
  have hP : va_P D vwCl (wSC h cA (sU (sU u 3 1 a1) 3 2 a2)) H := hP
  have hD : va_D A (wSC h cA (sU (sU u 3 1 a1) 3 2 a2)) := hD
  exact my_rv (u' := sU (sU u 3 1 a1) 3 2 a2) hx hb hr hlocks hK hP hD hS hw nd_R_holdLoad_10
set_option maxHeartbeats 4000000 in
set_option maxRecDepth 100000 in
theorem c_R_dropLoad (l : Launch) (D : va_G) (h : Nat → Nat) (cA : Nat → ClassId) (u : St) (F : St) (hw : f_R_dropLoad u = F) : MV nwS vwCl l ny_R_dropLoad nw_R_dropLoad ({ frames := 1, cells := 0, slots := 0, locals := 22 }) D (tyI cA) (wSC h cA) ([.ref (h 3)] : List Value) u F := by
  refine my_in (gw := GW) (cc := nc_R_dropLoad) (maxL := 1) (ret := none) (Qc := fun A => QV vwCl D (tyI cA) (wSC h cA) F A) (by decide) rfl (Nat.le_of_ble_eq_true rfl) ?_
  intro p e s m below meth c A H locs ls hx hb hml hr hts hown hlocks hK hN hA hP hD hS hl
  have hown : s.vm.findClass nR_R = some m.cls := hown
  have hl : lv_has ls 1 [(0, .ref (h 3))] := hl
  unfold f_R_dropLoad at hw
  refine lv_aload_n hx hb nd_R_dropLoad_0 rfl (lv_at hl 0 rfl) ?_
  refine lv_iconst (v := (-1 : Int32)) hx hb nd_R_dropLoad_1 (by decide) ?_
  refine lv_iconst (v := (0 : Int32)) hx hb nd_R_dropLoad_2 (by decide) ?_
  obtain ⟨u3, hq3, hw⟩ := bnv_i hw
  refine my_cv (wd := wSC h cA) (F := u3) (va_runV (As := [.int (-1 : Int32), .int (0 : Int32)]) (rest := []) ⟨hx, hb, hml, hown, hts⟩ (c_R_holdLoad l D h cA u (-1 : Int32) (0 : Int32) u3 hq3 _) ⟨callB_of 2 hts (gw_in gw_95) rfl rfl rfl (hts _ gw_3) (hts _ gw_92) nh_R_holdLoad ⟨Nat.le_of_ble_eq_true rfl, Nat.le_of_ble_eq_true rfl⟩, (hts _ gw_94), (hts _ gw_93)⟩ (my_preV nwOk hP hK hD hN (va_recv hK hP (ci := 2) (q0 := 3) rfl rfl)) rfl rfl hl.1 rfl (lv_room (Nat.le_of_ble_eq_true rfl)) nd_R_dropLoad_3 ⟨Nat.le_of_ble_eq_true rfl, Nat.le_of_ble_eq_true rfl⟩) hD hS hA (fun H locs hP hD hS => ?_)
  exact my_rv (u' := u3) hx hb hr hlocks hK hP hD hS hw nd_R_dropLoad_6
set_option maxHeartbeats 4000000 in
set_option maxRecDepth 100000 in
theorem c_R_clear (l : Launch) (D : va_G) (h : Nat → Nat) (cA : Nat → ClassId) (u : St) (F : St) (hw : f_R_clear u = some F) : MV nwS vwCl l ny_R_clear nw_R_clear ({ frames := 2, cells := 0, slots := 0, locals := 42 }) D (tyI cA) (wSC h cA) ([.ref (h 3)] : List Value) u F := by
  refine my_in (gw := GW) (cc := nc_R_clear) (maxL := 2) (ret := none) (Qc := fun A => QV vwCl D (tyI cA) (wSC h cA) F A) (by decide) rfl (Nat.le_of_ble_eq_true rfl) ?_
  intro p e s m below meth c A H locs ls hx hb hml hr hts hown hlocks hK hN hA hP hD hS hl
  have hown : s.vm.findClass nR_R = some m.cls := hown
  have hl : lv_has ls 2 [(0, .ref (h 3))] := hl
  have J2 : ∀ (n : Nat) (x1 : Int32) (u : St) (H : Heap) (locs : List Loc) (ls : Array Slot), va_P D vwCl (wSC h cA u) H → va_D A (wSC h cA u) → va_S A s.heap H locs → lv_has ls 2 [(0, .ref (h 3)), (1, .int x1)] → f_R_clear_b2 n x1 u = some F →
      W p l e (headSpec nw_R_clear ({ frames := 2, cells := 0, slots := 0, locals := 42 })).room s m ([.ref (h 3)] : List Value).toArray below meth c H locs 0 0 (MQ below (QV vwCl D (tyI cA) (wSC h cA) F A) ([.ref (h 3)] : List Value).toArray s 0 0 A) (F0 m 2 ls []) := by
    intro n
    induction n with
    | zero =>
      intro x1 u H locs ls hP hD hS hl hw
      have hw : none = some F := hw
      cases hw
    | succ n ih =>
      intro x1 u H locs ls hP hD hS hl hw
      have hw := (f_R_clear_b2_s n x1 u).symm.trans hw
      refine lv_iload_n hx hb nd_R_clear_2 rfl (lv_at hl 1 rfl) ?_
      refine lv_bipush (v := (34 : Int32)) hx hb nd_R_clear_3 (by decide) ?_
      refine lv_icmp_ge (tgt := 21) hx hb nd_R_clear_5 (by decide) (fun h5 => ?_) (fun h5 => ?_)
      · have hw := (if_pos h5).symm.trans hw
        refine lv_aload_n hx hb nd_R_clear_21 rfl (lv_at hl 0 rfl) ?_
        obtain ⟨u22, hq22, hw⟩ := bnv_i hw
        refine my_cv (wd := wSC h cA) (F := u22) (va_runV (As := []) (rest := []) ⟨hx, hb, hml, hown, hts⟩ (c_R_dropLoad l D h cA u u22 hq22 _) ⟨callB_of 0 hts (gw_in gw_91) rfl rfl rfl (hts _ gw_3) (hts _ gw_88) nh_R_dropLoad ⟨Nat.le_of_ble_eq_true rfl, Nat.le_of_ble_eq_true rfl⟩, (hts _ gw_90), (hts _ gw_89)⟩ (my_preV nwOk hP hK hD hN (va_recv hK hP (ci := 2) (q0 := 3) rfl rfl)) rfl rfl hl.1 rfl (lv_room (Nat.le_of_ble_eq_true rfl)) nd_R_clear_22 ⟨Nat.le_of_ble_eq_true rfl, Nat.le_of_ble_eq_true rfl⟩) hD hS hA (fun H locs hP hD hS => ?_)
        exact my_rv (u' := u22) hx hb hr hlocks hK hP hD hS (Option.some.inj hw) nd_R_clear_25
      have hw := (if_neg h5).symm.trans hw
      refine lv_aload_n hx hb nd_R_clear_8 rfl (lv_at hl 0 rfl) ?_
      refine va_get (D := D) (ci := 2) (v := .ref (h 4)) (C := nR_R) (T := nT_R) (N := 3) hx hb hts nu_R hown hK hP 3 rfl rfl 0 (by decide) (hts _ gw_28) (fun _ h9 => h9) rfl nd_R_clear_9 ?_
      refine lv_iload_n hx hb nd_R_clear_12 rfl (lv_at hl 1 rfl) ?_
      refine lv_iconst (v := (0 : Int32)) hx hb nd_R_clear_13 (by decide) ?_
      obtain ⟨hi14, hw⟩ := inb_i hw
      refine st_SC4 hx hb hK hP hD hS hi14 nd_R_clear_14 (fun H locs hP hD hS => ?_)
      have hP : va_P D vwCl (wSC h cA (sU u 4 x1.toNatClampNeg (0 : Int32))) H := hP
      have hD : va_D A (wSC h cA (sU u 4 x1.toNatClampNeg (0 : Int32))) := hD
      refine lv_iinc (k := 1) (v := x1 + (1 : Int32)) (lv' := [(1, .int (x1 + (1 : Int32))), (0, .ref (h 3))]) hx hb nd_R_clear_15 hl rfl rfl (by decide) rfl (fun ls hl => ?_)
      refine lv_goto (tgt := 2) hx hb nd_R_clear_18 (by decide) ?_
      exact ih (x1 + (1 : Int32)) (sU u 4 x1.toNatClampNeg (0 : Int32)) H locs ls hP hD hS (lv_sub hl [1, 0] rfl) hw
  unfold f_R_clear at hw
  refine lv_iconst (v := (0 : Int32)) hx hb nd_R_clear_0 (by decide) ?_
  refine lv_istore_n (lv' := [(1, .int (0 : Int32)), (0, .ref (h 3))]) hx hb nd_R_clear_1 rfl hl (by decide) rfl (fun ls hl => ?_)
  exact J2 fuel (0 : Int32) u H locs ls hP hD hS (lv_sub hl [1, 0] rfl) hw
set_option maxHeartbeats 4000000 in
set_option maxRecDepth 100000 in
theorem c_C_clear (l : Launch) (D : va_G) (h : Nat → Nat) (cA : Nat → ClassId) (u : St) (F : St) (hw : f_C_clear u = F) : MV nwS vwCl l ny_C_clear nw_C_clear ({ frames := 0, cells := 0, slots := 0, locals := 0 }) D (tyI cA) (wSC h cA) ([.ref (h 5)] : List Value) u F := by
  refine my_in (gw := GW) (cc := nc_C_clear) (maxL := 1) (ret := none) (Qc := fun A => QV vwCl D (tyI cA) (wSC h cA) F A) (by decide) rfl (Nat.le_of_ble_eq_true rfl) ?_
  intro p e s m below meth c A H locs ls hx hb hml hr hts hown hlocks hK hN hA hP hD hS hl
  have hown : s.vm.findClass nR_C = some m.cls := hown
  have hl : lv_has ls 1 [(0, .ref (h 5))] := hl
  unfold f_C_clear at hw
  refine lv_aload_n hx hb nd_C_clear_0 rfl (lv_at hl 0 rfl) ?_
  refine lv_iconst (v := (0 : Int32)) hx hb nd_C_clear_1 (by decide) ?_
  refine va_put (D := D) (ci := 3) (v := .int (0 : Int32)) (ty := .int) (C := nR_C) (T := nT_C) (N := 5) hx hb hts nu_C nt_C nto_C nn_C hown hK hP hD hS 5 rfl rfl 0 (by decide) (hts _ gw_39) (fun _ h9 => h9) rfl (by decide +kernel) rfl rfl (Nat.le_of_ble_eq_true rfl) nd_C_clear_2 (fun H locs hP hD hS => ?_)
  have hP : va_P D vwCl (wSC h cA (sU u 5 0 (0 : Int32))) H := hP
  have hD : va_D A (wSC h cA (sU u 5 0 (0 : Int32))) := hD
  refine lv_aload_n hx hb nd_C_clear_5 rfl (lv_at hl 0 rfl) ?_
  refine lv_iconst (v := (0 : Int32)) hx hb nd_C_clear_6 (by decide) ?_
  refine va_put (D := D) (ci := 3) (v := .int (0 : Int32)) (ty := .int) (C := nR_C) (T := nT_C) (N := 5) hx hb hts nu_C nt_C nto_C nn_C hown hK hP hD hS 5 rfl rfl 1 (by decide) (hts _ gw_40) (fun _ h9 => h9) rfl (by decide +kernel) rfl rfl (Nat.le_of_ble_eq_true rfl) nd_C_clear_7 (fun H locs hP hD hS => ?_)
  have hP : va_P D vwCl (wSC h cA (sU (sU u 5 0 (0 : Int32)) 5 1 (0 : Int32))) H := hP
  have hD : va_D A (wSC h cA (sU (sU u 5 0 (0 : Int32)) 5 1 (0 : Int32))) := hD
  refine lv_aload_n hx hb nd_C_clear_10 rfl (lv_at hl 0 rfl) ?_
  refine lv_iconst (v := (0 : Int32)) hx hb nd_C_clear_11 (by decide) ?_
  refine va_put (D := D) (ci := 3) (v := .int (0 : Int32)) (ty := .int) (C := nR_C) (T := nT_C) (N := 5) hx hb hts nu_C nt_C nto_C nn_C hown hK hP hD hS 5 rfl rfl 2 (by decide) (hts _ gw_41) (fun _ h9 => h9) rfl (by decide +kernel) rfl rfl (Nat.le_of_ble_eq_true rfl) nd_C_clear_12 (fun H locs hP hD hS => ?_)
  have hP : va_P D vwCl (wSC h cA (sU (sU (sU u 5 0 (0 : Int32)) 5 1 (0 : Int32)) 5 2 (0 : Int32))) H := hP
  have hD : va_D A (wSC h cA (sU (sU (sU u 5 0 (0 : Int32)) 5 1 (0 : Int32)) 5 2 (0 : Int32))) := hD
  refine lv_aload_n hx hb nd_C_clear_15 rfl (lv_at hl 0 rfl) ?_
  refine lv_iconst (v := (0 : Int32)) hx hb nd_C_clear_16 (by decide) ?_
  refine va_put (D := D) (ci := 3) (v := .int (0 : Int32)) (ty := .int) (C := nR_C) (T := nT_C) (N := 5) hx hb hts nu_C nt_C nto_C nn_C hown hK hP hD hS 5 rfl rfl 3 (by decide) (hts _ gw_42) (fun _ h9 => h9) rfl (by decide +kernel) rfl rfl (Nat.le_of_ble_eq_true rfl) nd_C_clear_17 (fun H locs hP hD hS => ?_)
  have hP : va_P D vwCl (wSC h cA (sU (sU (sU (sU u 5 0 (0 : Int32)) 5 1 (0 : Int32)) 5 2 (0 : Int32)) 5 3 (0 : Int32))) H := hP
  have hD : va_D A (wSC h cA (sU (sU (sU (sU u 5 0 (0 : Int32)) 5 1 (0 : Int32)) 5 2 (0 : Int32)) 5 3 (0 : Int32))) := hD
  refine lv_aload_n hx hb nd_C_clear_20 rfl (lv_at hl 0 rfl) ?_
  refine lv_iconst (v := (0 : Int32)) hx hb nd_C_clear_21 (by decide) ?_
  refine va_put (D := D) (ci := 3) (v := .int (0 : Int32)) (ty := .int) (C := nR_C) (T := nT_C) (N := 5) hx hb hts nu_C nt_C nto_C nn_C hown hK hP hD hS 5 rfl rfl 4 (by decide) (hts _ gw_43) (fun _ h9 => h9) rfl (by decide +kernel) rfl rfl (Nat.le_of_ble_eq_true rfl) nd_C_clear_22 (fun H locs hP hD hS => ?_)
  have hP : va_P D vwCl (wSC h cA (sU (sU (sU (sU (sU u 5 0 (0 : Int32)) 5 1 (0 : Int32)) 5 2 (0 : Int32)) 5 3 (0 : Int32)) 5 4 (0 : Int32))) H := hP
  have hD : va_D A (wSC h cA (sU (sU (sU (sU (sU u 5 0 (0 : Int32)) 5 1 (0 : Int32)) 5 2 (0 : Int32)) 5 3 (0 : Int32)) 5 4 (0 : Int32))) := hD
  exact my_rv (u' := sU (sU (sU (sU (sU u 5 0 (0 : Int32)) 5 1 (0 : Int32)) 5 2 (0 : Int32)) 5 3 (0 : Int32)) 5 4 (0 : Int32)) hx hb hr hlocks hK hP hD hS hw nd_C_clear_25
set_option maxHeartbeats 4000000 in
set_option maxRecDepth 100000 in
theorem c_M_wordAround (l : Launch) (D : va_G) (h : Nat → Nat) (cA : Nat → ClassId) (u : St) (a1 : Int32) (F : Int32) (hw : f_M_wordAround a1 u = F) : MI nwS vwCl l ny_M_wordAround nw_M_wordAround ({ frames := 1, cells := 0, slots := 0, locals := 20 }) D (tyI cA) (wSC h cA) ([.ref (h 1), .int a1] : List Value) u (F, u) := by
  refine my_in (gw := GW) (cc := nc_M_wordAround) (maxL := 2) (ret := (some .int)) (Qc := fun A => QI vwCl D (tyI cA) (wSC h cA) (F, u) A) (by decide) rfl (Nat.le_of_ble_eq_true rfl) ?_
  intro p e s m below meth c A H locs ls hx hb hml hr hts hown hlocks hK hN hA hP hD hS hl
  have hown : s.vm.findClass nR_M = some m.cls := hown
  have hl : lv_has ls 2 [(0, .ref (h 1)), (1, .int a1)] := hl
  unfold f_M_wordAround at hw
  refine lv_aload_n hx hb nd_M_wordAround_0 rfl (lv_at hl 0 rfl) ?_
  refine va_get (D := D) (ci := 1) (v := .ref (h 2)) (C := nR_M) (T := nT_M) (N := 1) hx hb hts nu_M hown hK hP 1 rfl rfl 0 (by decide) (hts _ gw_20) (fun _ h9 => h9) rfl nd_M_wordAround_1 ?_
  refine lv_iload_n hx hb nd_M_wordAround_4 rfl (lv_at hl 1 rfl) ?_
  refine my_cp (F := f_M_indexOf a1) (va_runS (As := [.int a1]) (rest := [.ref (h 2)]) ⟨hx, hb, hml, hown, hts⟩ (c_M_indexOf l a1 _ rfl) ⟨callB_of 1 hts (gw_in gw_169) rfl rfl rfl (hts _ gw_2) (hts _ gw_167) nh_M_indexOf ⟨Nat.le_of_ble_eq_true rfl, Nat.le_of_ble_eq_true rfl⟩, (hts _ gw_168)⟩ my_preP rfl rfl hl.1 rfl (lv_room (Nat.le_of_ble_eq_true rfl)) nd_M_wordAround_5 ⟨Nat.le_of_ble_eq_true rfl, Nat.le_of_ble_eq_true rfl⟩) hP hS (fun H locs hP hS => ?_)
  refine va_iald hx hb hK hP 2 0 rfl rfl (my_idx _) nd_M_wordAround_8 ?_
  exact my_ri (u' := u) (v := (u 2) (f_M_indexOf a1).toNatClampNeg) hx hb hr hlocks hK hP hD hS (congrArg (fun z9 => (z9, u)) hw) nd_M_wordAround_9
set_option maxHeartbeats 4000000 in
set_option maxRecDepth 100000 in
theorem c_M_replaceWord (l : Launch) (D : va_G) (h : Nat → Nat) (cA : Nat → ClassId) (u : St) (a1 : Int32) (a2 : Int32) (F : St) (hw : f_M_replaceWord a1 a2 u = F) : MV nwS vwCl l ny_M_replaceWord nw_M_replaceWord ({ frames := 1, cells := 0, slots := 0, locals := 20 }) D (tyI cA) (wSC h cA) ([.ref (h 1), .int a1, .int a2] : List Value) u F := by
  refine my_in (gw := GW) (cc := nc_M_replaceWord) (maxL := 3) (ret := none) (Qc := fun A => QV vwCl D (tyI cA) (wSC h cA) F A) (by decide) rfl (Nat.le_of_ble_eq_true rfl) ?_
  intro p e s m below meth c A H locs ls hx hb hml hr hts hown hlocks hK hN hA hP hD hS hl
  have hown : s.vm.findClass nR_M = some m.cls := hown
  have hl : lv_has ls 3 [(0, .ref (h 1)), (1, .int a1), (2, .int a2)] := hl
  unfold f_M_replaceWord at hw
  refine lv_aload_n hx hb nd_M_replaceWord_0 rfl (lv_at hl 0 rfl) ?_
  refine va_get (D := D) (ci := 1) (v := .ref (h 2)) (C := nR_M) (T := nT_M) (N := 1) hx hb hts nu_M hown hK hP 1 rfl rfl 0 (by decide) (hts _ gw_20) (fun _ h9 => h9) rfl nd_M_replaceWord_1 ?_
  refine lv_iload_n hx hb nd_M_replaceWord_4 rfl (lv_at hl 1 rfl) ?_
  refine my_cp (F := f_M_indexOf a1) (va_runS (As := [.int a1]) (rest := [.ref (h 2)]) ⟨hx, hb, hml, hown, hts⟩ (c_M_indexOf l a1 _ rfl) ⟨callB_of 1 hts (gw_in gw_169) rfl rfl rfl (hts _ gw_2) (hts _ gw_167) nh_M_indexOf ⟨Nat.le_of_ble_eq_true rfl, Nat.le_of_ble_eq_true rfl⟩, (hts _ gw_168)⟩ my_preP rfl rfl hl.1 rfl (lv_room (Nat.le_of_ble_eq_true rfl)) nd_M_replaceWord_5 ⟨Nat.le_of_ble_eq_true rfl, Nat.le_of_ble_eq_true rfl⟩) hP hS (fun H locs hP hS => ?_)
  refine lv_iload_n hx hb nd_M_replaceWord_8 rfl (lv_at hl 2 rfl) ?_
  refine st_SC2 hx hb hK hP hD hS (my_idx _) nd_M_replaceWord_9 (fun H locs hP hD hS => ?_)
  have hP : va_P D vwCl (wSC h cA (sU u 2 ((f_M_indexOf a1).toNatClampNeg) a2)) H := hP
  have hD : va_D A (wSC h cA (sU u 2 ((f_M_indexOf a1).toNatClampNeg) a2)) := hD
  exact my_rv (u' := sU u 2 ((f_M_indexOf a1).toNatClampNeg) a2) hx hb hr hlocks hK hP hD hS hw nd_M_replaceWord_10
set_option maxHeartbeats 4000000 in
set_option maxRecDepth 100000 in
theorem c_R_valueOf (l : Launch) (D : va_G) (h : Nat → Nat) (cA : Nat → ClassId) (u : St) (a1 : Int32) (F : Int32) (hw : f_R_valueOf a1 u = F) : MI nwS vwCl l ny_R_valueOf nw_R_valueOf ({ frames := 0, cells := 0, slots := 0, locals := 0 }) D (tyI cA) (wSC h cA) ([.ref (h 3), .int a1] : List Value) u (F, u) := by
  refine my_in (gw := GW) (cc := nc_R_valueOf) (maxL := 2) (ret := (some .int)) (Qc := fun A => QI vwCl D (tyI cA) (wSC h cA) (F, u) A) (by decide) rfl (Nat.le_of_ble_eq_true rfl) ?_
  intro p e s m below meth c A H locs ls hx hb hml hr hts hown hlocks hK hN hA hP hD hS hl
  have hown : s.vm.findClass nR_R = some m.cls := hown
  have hl : lv_has ls 2 [(0, .ref (h 3)), (1, .int a1)] := hl
  unfold f_R_valueOf at hw
  refine lv_iload_n hx hb nd_R_valueOf_0 rfl (lv_at hl 1 rfl) ?_
  refine lv_if_lt (tgt := 19) hx hb nd_R_valueOf_1 (by decide) (fun h1 => ?_) (fun h1 => ?_)
  · have hw := (if_pos h1).symm.trans hw
    refine lv_iconst (v := (0 : Int32)) hx hb nd_R_valueOf_19 (by decide) ?_
    exact my_ri (u' := u) (v := (0 : Int32)) hx hb hr hlocks hK hP hD hS (congrArg (fun z9 => (z9, u)) hw) nd_R_valueOf_20
  have hw := (if_neg h1).symm.trans hw
  refine lv_iload_n hx hb nd_R_valueOf_4 rfl (lv_at hl 1 rfl) ?_
  refine lv_bipush (v := (34 : Int32)) hx hb nd_R_valueOf_5 (by decide) ?_
  refine lv_icmp_ge (tgt := 19) hx hb nd_R_valueOf_7 (by decide) (fun h7 => ?_) (fun h7 => ?_)
  · have hw := (if_pos h7).symm.trans hw
    refine lv_iconst (v := (0 : Int32)) hx hb nd_R_valueOf_19 (by decide) ?_
    exact my_ri (u' := u) (v := (0 : Int32)) hx hb hr hlocks hK hP hD hS (congrArg (fun z9 => (z9, u)) hw) nd_R_valueOf_20
  have hw := (if_neg h7).symm.trans hw
  refine lv_aload_n hx hb nd_R_valueOf_10 rfl (lv_at hl 0 rfl) ?_
  refine va_get (D := D) (ci := 2) (v := .ref (h 4)) (C := nR_R) (T := nT_R) (N := 3) hx hb hts nu_R hown hK hP 3 rfl rfl 0 (by decide) (hts _ gw_28) (fun _ h9 => h9) rfl nd_R_valueOf_11 ?_
  refine lv_iload_n hx hb nd_R_valueOf_14 rfl (lv_at hl 1 rfl) ?_
  refine va_iald hx hb hK hP 4 1 rfl rfl (my_in34 h1 h7) nd_R_valueOf_15 ?_
  refine lv_goto (tgt := 20) hx hb nd_R_valueOf_16 (by decide) ?_
  exact my_ri (u' := u) (v := (u 4) a1.toNatClampNeg) hx hb hr hlocks hK hP hD hS (congrArg (fun z9 => (z9, u)) hw) nd_R_valueOf_20
set_option maxHeartbeats 4000000 in
set_option maxRecDepth 100000 in
theorem c_R_change (l : Launch) (D : va_G) (h : Nat → Nat) (cA : Nat → ClassId) (u : St) (a1 : Int32) (a2 : Int32) (F : St) (hw : f_R_change a1 a2 u = F) : MV nwS vwCl l ny_R_change nw_R_change ({ frames := 0, cells := 0, slots := 0, locals := 0 }) D (tyI cA) (wSC h cA) ([.ref (h 3), .int a1, .int a2] : List Value) u F := by
  refine my_in (gw := GW) (cc := nc_R_change) (maxL := 3) (ret := none) (Qc := fun A => QV vwCl D (tyI cA) (wSC h cA) F A) (by decide) rfl (Nat.le_of_ble_eq_true rfl) ?_
  intro p e s m below meth c A H locs ls hx hb hml hr hts hown hlocks hK hN hA hP hD hS hl
  have hown : s.vm.findClass nR_R = some m.cls := hown
  have hl : lv_has ls 3 [(0, .ref (h 3)), (1, .int a1), (2, .int a2)] := hl
  unfold f_R_change at hw
  refine lv_iload_n hx hb nd_R_change_0 rfl (lv_at hl 1 rfl) ?_
  refine lv_if_le (tgt := 17) hx hb nd_R_change_1 (by decide) (fun h1 => ?_) (fun h1 => ?_)
  · have hw := (if_pos h1).symm.trans hw
    exact my_rv (u' := u) hx hb hr hlocks hK hP hD hS hw nd_R_change_17
  have hw := (if_neg h1).symm.trans hw
  refine lv_iload_n hx hb nd_R_change_4 rfl (lv_at hl 1 rfl) ?_
  refine lv_bipush (v := (34 : Int32)) hx hb nd_R_change_5 (by decide) ?_
  refine lv_icmp_ge (tgt := 17) hx hb nd_R_change_7 (by decide) (fun h7 => ?_) (fun h7 => ?_)
  · have hw := (if_pos h7).symm.trans hw
    exact my_rv (u' := u) hx hb hr hlocks hK hP hD hS hw nd_R_change_17
  have hw := (if_neg h7).symm.trans hw
  refine lv_aload_n hx hb nd_R_change_10 rfl (lv_at hl 0 rfl) ?_
  refine va_get (D := D) (ci := 2) (v := .ref (h 4)) (C := nR_R) (T := nT_R) (N := 3) hx hb hts nu_R hown hK hP 3 rfl rfl 0 (by decide) (hts _ gw_28) (fun _ h9 => h9) rfl nd_R_change_11 ?_
  refine lv_iload_n hx hb nd_R_change_14 rfl (lv_at hl 1 rfl) ?_
  refine lv_iload_n hx hb nd_R_change_15 rfl (lv_at hl 2 rfl) ?_
  refine st_SC4 hx hb hK hP hD hS (my_in34p h1 h7) nd_R_change_16 (fun H locs hP hD hS => ?_)
  have hP : va_P D vwCl (wSC h cA (sU u 4 a1.toNatClampNeg a2)) H := hP
  have hD : va_D A (wSC h cA (sU u 4 a1.toNatClampNeg a2)) := hD
  exact my_rv (u' := sU u 4 a1.toNatClampNeg a2) hx hb hr hlocks hK hP hD hS hw nd_R_change_17
set_option maxHeartbeats 4000000 in
set_option maxRecDepth 100000 in
theorem c_C_change (l : Launch) (D : va_G) (h : Nat → Nat) (cA : Nat → ClassId) (u : St) (a1 : Int32) (a2 : Int32) (F : St) (hw : f_C_change a1 a2 u = F) : MV nwS vwCl l ny_C_change nw_C_change ({ frames := 1, cells := 0, slots := 0, locals := 22 }) D (tyI cA) (wSC h cA) ([.ref (h 5), .int a1, .int a2] : List Value) u F := by
  refine my_in (gw := GW) (cc := nc_C_change) (maxL := 3) (ret := none) (Qc := fun A => QV vwCl D (tyI cA) (wSC h cA) F A) (by decide) rfl (Nat.le_of_ble_eq_true rfl) ?_
  intro p e s m below meth c A H locs ls hx hb hml hr hts hown hlocks hK hN hA hP hD hS hl
  have hown : s.vm.findClass nR_C = some m.cls := hown
  have hl : lv_has ls 3 [(0, .ref (h 5)), (1, .int a1), (2, .int a2)] := hl
  unfold f_C_change at hw
  refine lv_iload_n hx hb nd_C_change_0 rfl (lv_at hl 1 rfl) ?_
  rcases my_em (x := a1) (12 : Int32) with h1_12 | h1_12
  · have hw := (if_pos h1_12).symm.trans hw
    refine my_swi (tgt := 28) hx hb nd_C_change_1 h1_12 (by decide) (by decide) rfl (by decide) ?_
    refine lv_aload_n hx hb nd_C_change_28 rfl (lv_at hl 0 rfl) ?_
    refine lv_iload_n hx hb nd_C_change_29 rfl (lv_at hl 2 rfl) ?_
    refine lv_ldc (own := nR_C) (v := (65343 : Int32)) hx hb hown (hts _ gw_114) nd_C_change_30 ?_
    refine lv_iand hx hb nd_C_change_32 ?_
    refine va_put (D := D) (ci := 3) (v := .int (a2 &&& (65343 : Int32))) (ty := .int) (C := nR_C) (T := nT_C) (N := 5) hx hb hts nu_C nt_C nto_C nn_C hown hK hP hD hS 5 rfl rfl 0 (by decide) (hts _ gw_39) (fun _ h9 => h9) rfl (by decide +kernel) rfl rfl (Nat.le_of_ble_eq_true rfl) nd_C_change_33 (fun H locs hP hD hS => ?_)
    have hP : va_P D vwCl (wSC h cA (sU u 5 0 (a2 &&& (65343 : Int32)))) H := hP
    have hD : va_D A (wSC h cA (sU u 5 0 (a2 &&& (65343 : Int32)))) := hD
    refine lv_goto (tgt := 65) hx hb nd_C_change_36 (by decide) ?_
    exact my_rv (u' := sU u 5 0 (a2 &&& (65343 : Int32))) hx hb hr hlocks hK hP hD hS hw nd_C_change_65
  have hw := (if_neg h1_12).symm.trans hw
  rcases my_em (x := a1) (13 : Int32) with h1_13 | h1_13
  · have hw := (if_pos h1_13).symm.trans hw
    refine my_swi (tgt := 39) hx hb nd_C_change_1 h1_13 (by decide) (by decide) rfl (by decide) ?_
    refine lv_aload_n hx hb nd_C_change_39 rfl (lv_at hl 0 rfl) ?_
    refine lv_aload_n hx hb nd_C_change_40 rfl (lv_at hl 0 rfl) ?_
    refine va_get (D := D) (ci := 3) (v := .int (u 5 1)) (C := nR_C) (T := nT_C) (N := 5) hx hb hts nu_C hown hK hP 5 rfl rfl 1 (by decide) (hts _ gw_40) (fun _ h9 => h9) rfl nd_C_change_41 ?_
    refine lv_iload_n hx hb nd_C_change_44 rfl (lv_at hl 2 rfl) ?_
    refine lv_sipush (v := (768 : Int32)) hx hb nd_C_change_45 (by decide) ?_
    refine my_cp (F := f_S_exchange (u 5 1) a2 (768 : Int32)) (va_runSN (As := [.int (u 5 1), .int a2, .int (768 : Int32)]) (rest := [.ref (h 5)]) ⟨hx, hb, hml, hown, hts⟩ (c_S_exchange l (u 5 1) a2 (768 : Int32) _ rfl) ⟨va_cnB 3 hts (gw_in gw_116) rfl rfl rfl (hN _ nm_19) (hts _ gw_1) nh_S_exchange ⟨Nat.le_of_ble_eq_true rfl, Nat.le_of_ble_eq_true rfl⟩, (hts _ gw_115), trivial⟩ my_preP rfl rfl hl.1 rfl (lv_room (Nat.le_of_ble_eq_true rfl)) nd_C_change_48 ⟨Nat.le_of_ble_eq_true rfl, Nat.le_of_ble_eq_true rfl⟩) hP hS (fun H locs hP hS => ?_)
    refine va_put (D := D) (ci := 3) (v := .int (f_S_exchange (u 5 1) a2 (768 : Int32))) (ty := .int) (C := nR_C) (T := nT_C) (N := 5) hx hb hts nu_C nt_C nto_C nn_C hown hK hP hD hS 5 rfl rfl 1 (by decide) (hts _ gw_40) (fun _ h9 => h9) rfl (by decide +kernel) rfl rfl (Nat.le_of_ble_eq_true rfl) nd_C_change_51 (fun H locs hP hD hS => ?_)
    have hP : va_P D vwCl (wSC h cA (sU u 5 1 (f_S_exchange (u 5 1) a2 (768 : Int32)))) H := hP
    have hD : va_D A (wSC h cA (sU u 5 1 (f_S_exchange (u 5 1) a2 (768 : Int32)))) := hD
    refine lv_goto (tgt := 65) hx hb nd_C_change_54 (by decide) ?_
    exact my_rv (u' := sU u 5 1 (f_S_exchange (u 5 1) a2 (768 : Int32))) hx hb hr hlocks hK hP hD hS hw nd_C_change_65
  have hw := (if_neg h1_13).symm.trans hw
  rcases my_em (x := a1) (14 : Int32) with h1_14 | h1_14
  · have hw := (if_pos h1_14).symm.trans hw
    refine my_swi (tgt := 57) hx hb nd_C_change_1 h1_14 (by decide) (by decide) rfl (by decide) ?_
    refine lv_aload_n hx hb nd_C_change_57 rfl (lv_at hl 0 rfl) ?_
    refine lv_iload_n hx hb nd_C_change_58 rfl (lv_at hl 2 rfl) ?_
    refine va_put (D := D) (ci := 3) (v := .int a2) (ty := .int) (C := nR_C) (T := nT_C) (N := 5) hx hb hts nu_C nt_C nto_C nn_C hown hK hP hD hS 5 rfl rfl 3 (by decide) (hts _ gw_42) (fun _ h9 => h9) rfl (by decide +kernel) rfl rfl (Nat.le_of_ble_eq_true rfl) nd_C_change_59 (fun H locs hP hD hS => ?_)
    have hP : va_P D vwCl (wSC h cA (sU u 5 3 a2)) H := hP
    have hD : va_D A (wSC h cA (sU u 5 3 a2)) := hD
    refine lv_goto (tgt := 65) hx hb nd_C_change_62 (by decide) ?_
    exact my_rv (u' := sU u 5 3 a2) hx hb hr hlocks hK hP hD hS hw nd_C_change_65
  have hw := (if_neg h1_14).symm.trans hw
  refine my_swd (tgt := 65) hx hb nd_C_change_1 (my_nec h1_12 (my_nec h1_13 (my_nec h1_14 my_nen))) (by decide +kernel) (by decide) ?_
  exact my_rv (u' := u) hx hb hr hlocks hK hP hD hS hw nd_C_change_65
set_option maxHeartbeats 4000000 in
set_option maxRecDepth 100000 in
theorem c_C_wholeCause (l : Launch) (D : va_G) (h : Nat → Nat) (cA : Nat → ClassId) (u : St) (F : Int32) (hw : f_C_wholeCause u = F) : MI nwS vwCl l ny_C_wholeCause nw_C_wholeCause ({ frames := 0, cells := 0, slots := 0, locals := 0 }) D (tyI cA) (wSC h cA) ([.ref (h 5)] : List Value) u (F, u) := by
  refine my_in (gw := GW) (cc := nc_C_wholeCause) (maxL := 1) (ret := (some .int)) (Qc := fun A => QI vwCl D (tyI cA) (wSC h cA) (F, u) A) (by decide) rfl (Nat.le_of_ble_eq_true rfl) ?_
  intro p e s m below meth c A H locs ls hx hb hml hr hts hown hlocks hK hN hA hP hD hS hl
  have hown : s.vm.findClass nR_C = some m.cls := hown
  have hl : lv_has ls 1 [(0, .ref (h 5))] := hl
  unfold f_C_wholeCause at hw
  refine lv_aload_n hx hb nd_C_wholeCause_0 rfl (lv_at hl 0 rfl) ?_
  refine va_get (D := D) (ci := 3) (v := .int (u 5 1)) (C := nR_C) (T := nT_C) (N := 5) hx hb hts nu_C hown hK hP 5 rfl rfl 1 (by decide) (hts _ gw_40) (fun _ h9 => h9) rfl nd_C_wholeCause_1 ?_
  refine lv_aload_n hx hb nd_C_wholeCause_4 rfl (lv_at hl 0 rfl) ?_
  refine va_get (D := D) (ci := 3) (v := .int (u 5 2)) (C := nR_C) (T := nT_C) (N := 5) hx hb hts nu_C hown hK hP 5 rfl rfl 2 (by decide) (hts _ gw_41) (fun _ h9 => h9) rfl nd_C_wholeCause_5 ?_
  refine lv_bipush (v := (10 : Int32)) hx hb nd_C_wholeCause_8 (by decide) ?_
  refine lv_ishl hx hb nd_C_wholeCause_10 ?_
  refine lv_ior hx hb nd_C_wholeCause_11 ?_
  exact my_ri (u' := u) (v := (u 5 1) ||| ((u 5 2) <<< ((10 : Int32) &&& 31))) hx hb hr hlocks hK hP hD hS (congrArg (fun z9 => (z9, u)) hw) nd_C_wholeCause_12
set_option maxHeartbeats 4000000 in
set_option maxRecDepth 100000 in
theorem c_C_interruptIsDue (l : Launch) (D : va_G) (h : Nat → Nat) (cA : Nat → ClassId) (u : St) (F : Int32) (hw : f_C_interruptIsDue u = F) : MI nwS vwCl l ny_C_interruptIsDue nw_C_interruptIsDue ({ frames := 1, cells := 0, slots := 0, locals := 20 }) D (tyI cA) (wSC h cA) ([.ref (h 5)] : List Value) u (zb F, u) := by
  refine my_in (gw := GW) (cc := nc_C_interruptIsDue) (maxL := 1) (ret := (some .boolean)) (Qc := fun A => QI vwCl D (tyI cA) (wSC h cA) (zb F, u) A) (by decide) rfl (Nat.le_of_ble_eq_true rfl) ?_
  intro p e s m below meth c A H locs ls hx hb hml hr hts hown hlocks hK hN hA hP hD hS hl
  have hown : s.vm.findClass nR_C = some m.cls := hown
  have hl : lv_has ls 1 [(0, .ref (h 5))] := hl
  unfold f_C_interruptIsDue at hw
  refine lv_aload_n hx hb nd_C_interruptIsDue_0 rfl (lv_at hl 0 rfl) ?_
  refine va_get (D := D) (ci := 3) (v := .int (u 5 0)) (C := nR_C) (T := nT_C) (N := 5) hx hb hts nu_C hown hK hP 5 rfl rfl 0 (by decide) (hts _ gw_39) (fun _ h9 => h9) rfl nd_C_interruptIsDue_1 ?_
  refine lv_iconst (v := (1 : Int32)) hx hb nd_C_interruptIsDue_4 (by decide) ?_
  refine lv_iand hx hb nd_C_interruptIsDue_5 ?_
  refine lv_if_eq (tgt := 28) hx hb nd_C_interruptIsDue_6 (by decide) (fun h6 => ?_) (fun h6 => ?_)
  · have hw := (if_pos h6).symm.trans hw
    refine lv_iconst (v := (0 : Int32)) hx hb nd_C_interruptIsDue_28 (by decide) ?_
    exact my_rzo (u' := u) (x := (0 : Int32)) hx hb hr hlocks hK hP hD hS hw rfl nd_C_interruptIsDue_29
  have hw := (if_neg h6).symm.trans hw
  refine lv_aload_n hx hb nd_C_interruptIsDue_9 rfl (lv_at hl 0 rfl) ?_
  refine my_ci (wd := wSC h cA) (r := f_C_wholeCause u) (u' := u) (va_runV (As := []) (rest := []) ⟨hx, hb, hml, hown, hts⟩ (c_C_wholeCause l D h cA u _ rfl _) ⟨callB_of 0 hts (gw_in gw_131) rfl rfl rfl (hts _ gw_4) (hts _ gw_128) nh_C_wholeCause ⟨Nat.le_of_ble_eq_true rfl, Nat.le_of_ble_eq_true rfl⟩, (hts _ gw_130), (hts _ gw_129)⟩ (my_preV nwOk hP hK hD hN (va_recv hK hP (ci := 3) (q0 := 5) rfl rfl)) rfl rfl hl.1 rfl (lv_room (Nat.le_of_ble_eq_true rfl)) nd_C_interruptIsDue_10 ⟨Nat.le_of_ble_eq_true rfl, Nat.le_of_ble_eq_true rfl⟩) hD hS hA (fun H locs hP hD hS => ?_)
  refine lv_aload_n hx hb nd_C_interruptIsDue_13 rfl (lv_at hl 0 rfl) ?_
  refine va_get (D := D) (ci := 3) (v := .int (u 5 0)) (C := nR_C) (T := nT_C) (N := 5) hx hb hts nu_C hown hK hP 5 rfl rfl 0 (by decide) (hts _ gw_39) (fun _ h9 => h9) rfl nd_C_interruptIsDue_14 ?_
  refine lv_iand hx hb nd_C_interruptIsDue_17 ?_
  refine lv_ldc (own := nR_C) (v := (65280 : Int32)) hx hb hown (hts _ gw_132) nd_C_interruptIsDue_18 ?_
  refine lv_iand hx hb nd_C_interruptIsDue_20 ?_
  refine lv_if_eq (tgt := 28) hx hb nd_C_interruptIsDue_21 (by decide) (fun h21 => ?_) (fun h21 => ?_)
  · have hw := (if_pos h21).symm.trans hw
    refine lv_iconst (v := (0 : Int32)) hx hb nd_C_interruptIsDue_28 (by decide) ?_
    exact my_rzo (u' := u) (x := (0 : Int32)) hx hb hr hlocks hK hP hD hS hw rfl nd_C_interruptIsDue_29
  have hw := (if_neg h21).symm.trans hw
  refine lv_iconst (v := (1 : Int32)) hx hb nd_C_interruptIsDue_24 (by decide) ?_
  refine lv_goto (tgt := 29) hx hb nd_C_interruptIsDue_25 (by decide) ?_
  exact my_rzo (u' := u) (x := (1 : Int32)) hx hb hr hlocks hK hP hD hS hw rfl nd_C_interruptIsDue_29
set_option maxHeartbeats 4000000 in
set_option maxRecDepth 100000 in
theorem c_R_landLoad (l : Launch) (D : va_G) (h : Nat → Nat) (cA : Nat → ClassId) (u : St) (F : St) (hw : f_R_landLoad u = F) : MV nwS vwCl l ny_R_landLoad nw_R_landLoad ({ frames := 2, cells := 0, slots := 0, locals := 42 }) D (tyI cA) (wSC h cA) ([.ref (h 3)] : List Value) u F := by
  refine my_in (gw := GW) (cc := nc_R_landLoad) (maxL := 1) (ret := none) (Qc := fun A => QV vwCl D (tyI cA) (wSC h cA) F A) (by decide) rfl (Nat.le_of_ble_eq_true rfl) ?_
  intro p e s m below meth c A H locs ls hx hb hml hr hts hown hlocks hK hN hA hP hD hS hl
  have hown : s.vm.findClass nR_R = some m.cls := hown
  have hl : lv_has ls 1 [(0, .ref (h 3))] := hl
  unfold f_R_landLoad at hw
  refine lv_aload_n hx hb nd_R_landLoad_0 rfl (lv_at hl 0 rfl) ?_
  refine lv_aload_n hx hb nd_R_landLoad_1 rfl (lv_at hl 0 rfl) ?_
  refine va_get (D := D) (ci := 2) (v := .int (u 3 1)) (C := nR_R) (T := nT_R) (N := 3) hx hb hts nu_R hown hK hP 3 rfl rfl 1 (by decide) (hts _ gw_29) (fun _ h9 => h9) rfl nd_R_landLoad_2 ?_
  refine lv_aload_n hx hb nd_R_landLoad_5 rfl (lv_at hl 0 rfl) ?_
  refine va_get (D := D) (ci := 2) (v := .int (u 3 2)) (C := nR_R) (T := nT_R) (N := 3) hx hb hts nu_R hown hK hP 3 rfl rfl 2 (by decide) (hts _ gw_30) (fun _ h9 => h9) rfl nd_R_landLoad_6 ?_
  obtain ⟨u9, hq9, hw⟩ := bnv_i hw
  refine my_cv (wd := wSC h cA) (F := u9) (va_runV (As := [.int (u 3 1), .int (u 3 2)]) (rest := []) ⟨hx, hb, hml, hown, hts⟩ (c_R_change l D h cA u (u 3 1) (u 3 2) u9 hq9 _) ⟨callB_of 2 hts (gw_in gw_143) rfl rfl rfl (hts _ gw_3) (hts _ gw_140) nh_R_change ⟨Nat.le_of_ble_eq_true rfl, Nat.le_of_ble_eq_true rfl⟩, (hts _ gw_142), (hts _ gw_141)⟩ (my_preV nwOk hP hK hD hN (va_recv hK hP (ci := 2) (q0 := 3) rfl rfl)) rfl rfl hl.1 rfl (lv_room (Nat.le_of_ble_eq_true rfl)) nd_R_landLoad_9 ⟨Nat.le_of_ble_eq_true rfl, Nat.le_of_ble_eq_true rfl⟩) hD hS hA (fun H locs hP hD hS => ?_)
  refine lv_aload_n hx hb nd_R_landLoad_12 rfl (lv_at hl 0 rfl) ?_
  obtain ⟨u13, hq13, hw⟩ := bnv_i hw
  refine my_cv (wd := wSC h cA) (F := u13) (va_runV (As := []) (rest := []) ⟨hx, hb, hml, hown, hts⟩ (c_R_dropLoad l D h cA u9 u13 hq13 _) ⟨callB_of 0 hts (gw_in gw_91) rfl rfl rfl (hts _ gw_3) (hts _ gw_88) nh_R_dropLoad ⟨Nat.le_of_ble_eq_true rfl, Nat.le_of_ble_eq_true rfl⟩, (hts _ gw_90), (hts _ gw_89)⟩ (my_preV nwOk hP hK hD hN (va_recv hK hP (ci := 2) (q0 := 3) rfl rfl)) rfl rfl hl.1 rfl (lv_room (Nat.le_of_ble_eq_true rfl)) nd_R_landLoad_13 ⟨Nat.le_of_ble_eq_true rfl, Nat.le_of_ble_eq_true rfl⟩) hD hS hA (fun H locs hP hD hS => ?_)
  exact my_rv (u' := u13) hx hb hr hlocks hK hP hD hS hw nd_R_landLoad_16
set_option maxHeartbeats 4000000 in
set_option maxRecDepth 100000 in
theorem c_C_enter (l : Launch) (D : va_G) (h : Nat → Nat) (cA : Nat → ClassId) (u : St) (a1 : Int32) (a2 : Int32) (a3 : Int32) (F : St) (hw : f_C_enter a1 a2 a3 u = F) : MV nwS vwCl l ny_C_enter nw_C_enter ({ frames := 1, cells := 0, slots := 0, locals := 22 }) D (tyI cA) (wSC h cA) ([.ref (h 5), .int a1, .int a2, .int (zb a3)] : List Value) u F := by
  refine my_in (gw := GW) (cc := nc_C_enter) (maxL := 4) (ret := none) (Qc := fun A => QV vwCl D (tyI cA) (wSC h cA) F A) (by decide) rfl (Nat.le_of_ble_eq_true rfl) ?_
  intro p e s m below meth c A H locs ls hx hb hml hr hts hown hlocks hK hN hA hP hD hS hl
  have hown : s.vm.findClass nR_C = some m.cls := hown
  have hl : lv_has ls 4 [(0, .ref (h 5)), (1, .int a1), (2, .int a2), (3, .int (zb a3))] := hl
  have J28 : ∀ (y0 : Int32) (y1 : Int32) (u : St) (H : Heap) (locs : List Loc) (ls : Array Slot), va_P D vwCl (wSC h cA u) H → va_D A (wSC h cA u) → va_S A s.heap H locs → lv_has ls 4 [(0, .ref (h 5))] → f_C_enter_b28 y0 y1 u = F →
      W p l e (headSpec nw_C_enter ({ frames := 1, cells := 0, slots := 0, locals := 22 })).room s m ([.ref (h 5), .int a1, .int a2, .int (zb a3)] : List Value).toArray below meth c H locs 0 0 (MQ below (QV vwCl D (tyI cA) (wSC h cA) F A) ([.ref (h 5), .int a1, .int a2, .int (zb a3)] : List Value).toArray s 0 0 A) (F0 m 28 ls [.int y0, .int y1, .ref (h 5)]) := by
    intro y0 y1 u H locs ls hP hD hS hl hw
    unfold f_C_enter_b28 at hw
    refine lv_ior hx hb nd_C_enter_28 ?_
    refine va_put (D := D) (ci := 3) (v := .int (y1 ||| y0)) (ty := .int) (C := nR_C) (T := nT_C) (N := 5) hx hb hts nu_C nt_C nto_C nn_C hown hK hP hD hS 5 rfl rfl 1 (by decide) (hts _ gw_40) (fun _ h9 => h9) rfl (by decide +kernel) rfl rfl (Nat.le_of_ble_eq_true rfl) nd_C_enter_29 (fun H locs hP hD hS => ?_)
    have hP : va_P D vwCl (wSC h cA (sU u 5 1 (y1 ||| y0))) H := hP
    have hD : va_D A (wSC h cA (sU u 5 1 (y1 ||| y0))) := hD
    refine lv_aload_n hx hb nd_C_enter_32 rfl (lv_at hl 0 rfl) ?_
    refine lv_aload_n hx hb nd_C_enter_33 rfl (lv_at hl 0 rfl) ?_
    refine va_get (D := D) (ci := 3) (v := .int (u 5 0)) (C := nR_C) (T := nT_C) (N := 5) hx hb hts nu_C hown hK hP 5 rfl rfl 0 (by decide) (hts _ gw_39) (fun _ h9 => h9) rfl nd_C_enter_34 ?_
    refine lv_aload_n hx hb nd_C_enter_37 rfl (lv_at hl 0 rfl) ?_
    refine va_get (D := D) (ci := 3) (v := .int (u 5 0)) (C := nR_C) (T := nT_C) (N := 5) hx hb hts nu_C hown hK hP 5 rfl rfl 0 (by decide) (hts _ gw_39) (fun _ h9 => h9) rfl nd_C_enter_38 ?_
    refine lv_iconst (v := (2 : Int32)) hx hb nd_C_enter_41 (by decide) ?_
    refine lv_ishl hx hb nd_C_enter_42 ?_
    refine lv_bipush (v := (63 : Int32)) hx hb nd_C_enter_43 (by decide) ?_
    refine my_cp (F := f_S_exchange (u 5 0) ((u 5 0) <<< ((2 : Int32) &&& 31)) (63 : Int32)) (va_runSN (As := [.int (u 5 0), .int ((u 5 0) <<< ((2 : Int32) &&& 31)), .int (63 : Int32)]) (rest := [.ref (h 5)]) ⟨hx, hb, hml, hown, hts⟩ (c_S_exchange l (u 5 0) ((u 5 0) <<< ((2 : Int32) &&& 31)) (63 : Int32) _ rfl) ⟨va_cnB 3 hts (gw_in gw_116) rfl rfl rfl (hN _ nm_19) (hts _ gw_1) nh_S_exchange ⟨Nat.le_of_ble_eq_true rfl, Nat.le_of_ble_eq_true rfl⟩, (hts _ gw_115), trivial⟩ my_preP rfl rfl hl.1 rfl (lv_room (Nat.le_of_ble_eq_true rfl)) nd_C_enter_45 ⟨Nat.le_of_ble_eq_true rfl, Nat.le_of_ble_eq_true rfl⟩) hP hS (fun H locs hP hS => ?_)
    refine va_put (D := D) (ci := 3) (v := .int (f_S_exchange (u 5 0) ((u 5 0) <<< ((2 : Int32) &&& 31)) (63 : Int32))) (ty := .int) (C := nR_C) (T := nT_C) (N := 5) hx hb hts nu_C nt_C nto_C nn_C hown hK hP hD hS 5 rfl rfl 0 (by decide) (hts _ gw_39) (fun _ h9 => h9) rfl (by decide +kernel) rfl rfl (Nat.le_of_ble_eq_true rfl) nd_C_enter_48 (fun H locs hP hD hS => ?_)
    have hP : va_P D vwCl (wSC h cA (sU (sU u 5 1 (y1 ||| y0)) 5 0 (f_S_exchange (u 5 0) ((u 5 0) <<< ((2 : Int32) &&& 31)) (63 : Int32)))) H := hP
    have hD : va_D A (wSC h cA (sU (sU u 5 1 (y1 ||| y0)) 5 0 (f_S_exchange (u 5 0) ((u 5 0) <<< ((2 : Int32) &&& 31)) (63 : Int32)))) := hD
    exact my_rv (u' := sU (sU u 5 1 (y1 ||| y0)) 5 0 (f_S_exchange (u 5 0) ((u 5 0) <<< ((2 : Int32) &&& 31)) (63 : Int32))) hx hb hr hlocks hK hP hD hS hw nd_C_enter_51
  unfold f_C_enter at hw
  refine lv_aload_n hx hb nd_C_enter_0 rfl (lv_at hl 0 rfl) ?_
  refine lv_iload_n hx hb nd_C_enter_1 rfl (lv_at hl 2 rfl) ?_
  refine va_put (D := D) (ci := 3) (v := .int a2) (ty := .int) (C := nR_C) (T := nT_C) (N := 5) hx hb hts nu_C nt_C nto_C nn_C hown hK hP hD hS 5 rfl rfl 3 (by decide) (hts _ gw_42) (fun _ h9 => h9) rfl (by decide +kernel) rfl rfl (Nat.le_of_ble_eq_true rfl) nd_C_enter_2 (fun H locs hP hD hS => ?_)
  have hP : va_P D vwCl (wSC h cA (sU u 5 3 a2)) H := hP
  have hD : va_D A (wSC h cA (sU u 5 3 a2)) := hD
  refine lv_aload_n hx hb nd_C_enter_5 rfl (lv_at hl 0 rfl) ?_
  refine lv_aload_n hx hb nd_C_enter_6 rfl (lv_at hl 0 rfl) ?_
  refine va_get (D := D) (ci := 3) (v := .int (u 5 1)) (C := nR_C) (T := nT_C) (N := 5) hx hb hts nu_C hown hK hP 5 rfl rfl 1 (by decide) (hts _ gw_40) (fun _ h9 => h9) rfl nd_C_enter_7 ?_
  refine lv_sipush (v := (768 : Int32)) hx hb nd_C_enter_10 (by decide) ?_
  refine lv_iand hx hb nd_C_enter_13 ?_
  refine lv_iload_n hx hb nd_C_enter_14 rfl (lv_at hl 1 rfl) ?_
  refine lv_iconst (v := (2 : Int32)) hx hb nd_C_enter_15 (by decide) ?_
  refine lv_ishl hx hb nd_C_enter_16 ?_
  refine lv_ior hx hb nd_C_enter_17 ?_
  refine lv_iload_n hx hb nd_C_enter_18 rfl (lv_at hl 3 rfl) ?_
  refine lv_if_eq (tgt := 27) hx hb nd_C_enter_19 (by decide) (fun h19 => ?_) (fun h19 => ?_)
  · have hw := (if_pos h19).symm.trans hw
    refine lv_iconst (v := (0 : Int32)) hx hb nd_C_enter_27 (by decide) ?_
    exact J28 (0 : Int32) (((u 5 1) &&& (768 : Int32)) ||| (a1 <<< ((2 : Int32) &&& 31))) (sU u 5 3 a2) H locs ls hP hD hS (lv_sub hl [0] rfl) hw
  have hw := (if_neg h19).symm.trans hw
  refine lv_ldc (own := nR_C) (v := (-2147483648 : Int32)) hx hb hown (hts _ gw_147) nd_C_enter_22 ?_
  refine lv_goto (tgt := 28) hx hb nd_C_enter_24 (by decide) ?_
  exact J28 (-2147483648 : Int32) (((u 5 1) &&& (768 : Int32)) ||| (a1 <<< ((2 : Int32) &&& 31))) (sU u 5 3 a2) H locs ls hP hD hS (lv_sub hl [0] rfl) hw
set_option maxHeartbeats 4000000 in
set_option maxRecDepth 100000 in
theorem c_C_isUser (l : Launch) (D : va_G) (h : Nat → Nat) (cA : Nat → ClassId) (u : St) (F : Int32) (hw : f_C_isUser u = F) : MI nwS vwCl l ny_C_isUser nw_C_isUser ({ frames := 0, cells := 0, slots := 0, locals := 0 }) D (tyI cA) (wSC h cA) ([.ref (h 5)] : List Value) u (zb F, u) := by
  refine my_in (gw := GW) (cc := nc_C_isUser) (maxL := 1) (ret := (some .boolean)) (Qc := fun A => QI vwCl D (tyI cA) (wSC h cA) (zb F, u) A) (by decide) rfl (Nat.le_of_ble_eq_true rfl) ?_
  intro p e s m below meth c A H locs ls hx hb hml hr hts hown hlocks hK hN hA hP hD hS hl
  have hown : s.vm.findClass nR_C = some m.cls := hown
  have hl : lv_has ls 1 [(0, .ref (h 5))] := hl
  unfold f_C_isUser at hw
  refine lv_aload_n hx hb nd_C_isUser_0 rfl (lv_at hl 0 rfl) ?_
  refine va_get (D := D) (ci := 3) (v := .int (u 5 0)) (C := nR_C) (T := nT_C) (N := 5) hx hb hts nu_C hown hK hP 5 rfl rfl 0 (by decide) (hts _ gw_39) (fun _ h9 => h9) rfl nd_C_isUser_1 ?_
  refine lv_iconst (v := (2 : Int32)) hx hb nd_C_isUser_4 (by decide) ?_
  refine lv_iand hx hb nd_C_isUser_5 ?_
  refine lv_if_eq (tgt := 13) hx hb nd_C_isUser_6 (by decide) (fun h6 => ?_) (fun h6 => ?_)
  · have hw := (if_pos h6).symm.trans hw
    refine lv_iconst (v := (0 : Int32)) hx hb nd_C_isUser_13 (by decide) ?_
    exact my_rzo (u' := u) (x := (0 : Int32)) hx hb hr hlocks hK hP hD hS hw rfl nd_C_isUser_14
  have hw := (if_neg h6).symm.trans hw
  refine lv_iconst (v := (1 : Int32)) hx hb nd_C_isUser_9 (by decide) ?_
  refine lv_goto (tgt := 14) hx hb nd_C_isUser_10 (by decide) ?_
  exact my_rzo (u' := u) (x := (1 : Int32)) hx hb hr hlocks hK hP hD hS hw rfl nd_C_isUser_14
set_option maxHeartbeats 4000000 in
set_option maxRecDepth 100000 in
theorem c_C_forbids (l : Launch) (D : va_G) (h : Nat → Nat) (cA : Nat → ClassId) (u : St) (a1 : Int32) (F : Int32) (hw : f_C_forbids a1 u = F) : MI nwS vwCl l ny_C_forbids nw_C_forbids ({ frames := 1, cells := 0, slots := 0, locals := 20 }) D (tyI cA) (wSC h cA) ([.ref (h 5), .int a1] : List Value) u (zb F, u) := by
  refine my_in (gw := GW) (cc := nc_C_forbids) (maxL := 2) (ret := (some .boolean)) (Qc := fun A => QI vwCl D (tyI cA) (wSC h cA) (zb F, u) A) (by decide) rfl (Nat.le_of_ble_eq_true rfl) ?_
  intro p e s m below meth c A H locs ls hx hb hml hr hts hown hlocks hK hN hA hP hD hS hl
  have hown : s.vm.findClass nR_C = some m.cls := hown
  have hl : lv_has ls 2 [(0, .ref (h 5)), (1, .int a1)] := hl
  unfold f_C_forbids at hw
  refine lv_aload_n hx hb nd_C_forbids_0 rfl (lv_at hl 0 rfl) ?_
  refine my_ci (wd := wSC h cA) (r := zb (f_C_isUser u)) (u' := u) (va_runV (As := []) (rest := []) ⟨hx, hb, hml, hown, hts⟩ (c_C_isUser l D h cA u _ rfl _) ⟨callB_of 0 hts (gw_in gw_159) rfl rfl rfl (hts _ gw_4) (hts _ gw_156) nh_C_isUser ⟨Nat.le_of_ble_eq_true rfl, Nat.le_of_ble_eq_true rfl⟩, (hts _ gw_158), (hts _ gw_157)⟩ (my_preV nwOk hP hK hD hN (va_recv hK hP (ci := 3) (q0 := 5) rfl rfl)) rfl rfl hl.1 rfl (lv_room (Nat.le_of_ble_eq_true rfl)) nd_C_forbids_1 ⟨Nat.le_of_ble_eq_true rfl, Nat.le_of_ble_eq_true rfl⟩) hD hS hA (fun H locs hP hD hS => ?_)
  refine lv_if_eq (tgt := 15) hx hb nd_C_forbids_4 (by decide) (fun h4 => ?_) (fun h4 => ?_)
  · have hw := (if_pos h4).symm.trans hw
    refine lv_iconst (v := (0 : Int32)) hx hb nd_C_forbids_15 (by decide) ?_
    exact my_rzo (u' := u) (x := (0 : Int32)) hx hb hr hlocks hK hP hD hS hw rfl nd_C_forbids_16
  have hw := (if_neg h4).symm.trans hw
  refine lv_iload_n hx hb nd_C_forbids_7 rfl (lv_at hl 1 rfl) ?_
  refine lv_if_ge (tgt := 15) hx hb nd_C_forbids_8 (by decide) (fun h8 => ?_) (fun h8 => ?_)
  · have hw := (if_pos h8).symm.trans hw
    refine lv_iconst (v := (0 : Int32)) hx hb nd_C_forbids_15 (by decide) ?_
    exact my_rzo (u' := u) (x := (0 : Int32)) hx hb hr hlocks hK hP hD hS hw rfl nd_C_forbids_16
  have hw := (if_neg h8).symm.trans hw
  refine lv_iconst (v := (1 : Int32)) hx hb nd_C_forbids_11 (by decide) ?_
  refine lv_goto (tgt := 16) hx hb nd_C_forbids_12 (by decide) ?_
  exact my_rzo (u' := u) (x := (1 : Int32)) hx hb hr hlocks hK hP hD hS hw rfl nd_C_forbids_16
set_option maxHeartbeats 4000000 in
set_option maxRecDepth 100000 in
theorem c_O_begin (l : Launch) (D : va_G) (h : Nat → Nat) (cA : Nat → ClassId) (u : St) (a1 : Int32) (F : St) (hw : f_O_begin a1 u = F) : MV nwS vwCl l ny_O_begin nw_O_begin ({ frames := 0, cells := 0, slots := 0, locals := 0 }) D (tyI cA) (wSC h cA) ([.ref (h 6), .int a1] : List Value) u F := by
  refine my_in (gw := GW) (cc := nc_O_begin) (maxL := 2) (ret := none) (Qc := fun A => QV vwCl D (tyI cA) (wSC h cA) F A) (by decide) rfl (Nat.le_of_ble_eq_true rfl) ?_
  intro p e s m below meth c A H locs ls hx hb hml hr hts hown hlocks hK hN hA hP hD hS hl
  have hown : s.vm.findClass nR_O = some m.cls := hown
  have hl : lv_has ls 2 [(0, .ref (h 6)), (1, .int a1)] := hl
  unfold f_O_begin at hw
  refine lv_aload_n hx hb nd_O_begin_0 rfl (lv_at hl 0 rfl) ?_
  refine lv_iconst (v := (-1 : Int32)) hx hb nd_O_begin_1 (by decide) ?_
  refine va_put (D := D) (ci := 4) (v := .int (-1 : Int32)) (ty := .int) (C := nR_O) (T := nT_O) (N := 5) hx hb hts nu_O nt_O nto_O nn_O hown hK hP hD hS 6 rfl rfl 0 (by decide) (hts _ gw_54) (fun _ h9 => h9) rfl (by decide +kernel) rfl rfl (Nat.le_of_ble_eq_true rfl) nd_O_begin_2 (fun H locs hP hD hS => ?_)
  have hP : va_P D vwCl (wSC h cA (sU u 6 0 (-1 : Int32))) H := hP
  have hD : va_D A (wSC h cA (sU u 6 0 (-1 : Int32))) := hD
  refine lv_aload_n hx hb nd_O_begin_5 rfl (lv_at hl 0 rfl) ?_
  refine lv_iconst (v := (0 : Int32)) hx hb nd_O_begin_6 (by decide) ?_
  refine va_put (D := D) (ci := 4) (v := .int (zb (0 : Int32))) (ty := .boolean) (C := nR_O) (T := nT_O) (N := 5) hx hb hts nu_O nt_O nto_O nn_O hown hK hP hD hS 6 rfl rfl 2 (by decide) (hts _ gw_55) (fun _ h9 => h9) rfl (by decide +kernel) (zb_n _) (zb_f _) (Nat.le_of_ble_eq_true rfl) nd_O_begin_7 (fun H locs hP hD hS => ?_)
  have hP : va_P D vwCl (wSC h cA (sU (sU u 6 0 (-1 : Int32)) 6 2 (0 : Int32))) H := hP
  have hD : va_D A (wSC h cA (sU (sU u 6 0 (-1 : Int32)) 6 2 (0 : Int32))) := hD
  refine lv_aload_n hx hb nd_O_begin_10 rfl (lv_at hl 0 rfl) ?_
  refine lv_iconst (v := (0 : Int32)) hx hb nd_O_begin_11 (by decide) ?_
  refine va_put (D := D) (ci := 4) (v := .int (zb (0 : Int32))) (ty := .boolean) (C := nR_O) (T := nT_O) (N := 5) hx hb hts nu_O nt_O nto_O nn_O hown hK hP hD hS 6 rfl rfl 3 (by decide) (hts _ gw_56) (fun _ h9 => h9) rfl (by decide +kernel) (zb_n _) (zb_f _) (Nat.le_of_ble_eq_true rfl) nd_O_begin_12 (fun H locs hP hD hS => ?_)
  have hP : va_P D vwCl (wSC h cA (sU (sU (sU u 6 0 (-1 : Int32)) 6 2 (0 : Int32)) 6 3 (0 : Int32))) H := hP
  have hD : va_D A (wSC h cA (sU (sU (sU u 6 0 (-1 : Int32)) 6 2 (0 : Int32)) 6 3 (0 : Int32))) := hD
  refine lv_aload_n hx hb nd_O_begin_15 rfl (lv_at hl 0 rfl) ?_
  refine lv_iload_n hx hb nd_O_begin_16 rfl (lv_at hl 1 rfl) ?_
  refine va_put (D := D) (ci := 4) (v := .int a1) (ty := .int) (C := nR_O) (T := nT_O) (N := 5) hx hb hts nu_O nt_O nto_O nn_O hown hK hP hD hS 6 rfl rfl 4 (by decide) (hts _ gw_57) (fun _ h9 => h9) rfl (by decide +kernel) rfl rfl (Nat.le_of_ble_eq_true rfl) nd_O_begin_17 (fun H locs hP hD hS => ?_)
  have hP : va_P D vwCl (wSC h cA (sU (sU (sU (sU u 6 0 (-1 : Int32)) 6 2 (0 : Int32)) 6 3 (0 : Int32)) 6 4 a1)) H := hP
  have hD : va_D A (wSC h cA (sU (sU (sU (sU u 6 0 (-1 : Int32)) 6 2 (0 : Int32)) 6 3 (0 : Int32)) 6 4 a1)) := hD
  exact my_rv (u' := sU (sU (sU (sU u 6 0 (-1 : Int32)) 6 2 (0 : Int32)) 6 3 (0 : Int32)) 6 4 a1) hx hb hr hlocks hK hP hD hS hw nd_O_begin_20
set_option maxHeartbeats 4000000 in
set_option maxRecDepth 100000 in
theorem c_C_valueOf (l : Launch) (D : va_G) (h : Nat → Nat) (cA : Nat → ClassId) (u : St) (a1 : Int32) (F : Int32) (hw : f_C_valueOf a1 u = F) : MI nwS vwCl l ny_C_valueOf nw_C_valueOf ({ frames := 1, cells := 0, slots := 0, locals := 20 }) D (tyI cA) (wSC h cA) ([.ref (h 5), .int a1] : List Value) u (F, u) := by
  refine my_in (gw := GW) (cc := nc_C_valueOf) (maxL := 2) (ret := (some .int)) (Qc := fun A => QI vwCl D (tyI cA) (wSC h cA) (F, u) A) (by decide) rfl (Nat.le_of_ble_eq_true rfl) ?_
  intro p e s m below meth c A H locs ls hx hb hml hr hts hown hlocks hK hN hA hP hD hS hl
  have hown : s.vm.findClass nR_C = some m.cls := hown
  have hl : lv_has ls 2 [(0, .ref (h 5)), (1, .int a1)] := hl
  unfold f_C_valueOf at hw
  refine lv_iload_n hx hb nd_C_valueOf_0 rfl (lv_at hl 1 rfl) ?_
  rcases my_em (x := a1) (8 : Int32) with h1_8 | h1_8
  · have hw := (if_pos h1_8).symm.trans hw
    refine my_swi (tgt := 59) hx hb nd_C_valueOf_1 h1_8 (by decide) (by decide) rfl (by decide) ?_
    refine lv_aload_n hx hb nd_C_valueOf_59 rfl (lv_at hl 0 rfl) ?_
    refine va_get (D := D) (ci := 3) (v := .int (u 5 4)) (C := nR_C) (T := nT_C) (N := 5) hx hb hts nu_C hown hK hP 5 rfl rfl 4 (by decide) (hts _ gw_43) (fun _ h9 => h9) rfl nd_C_valueOf_60 ?_
    exact my_ri (u' := u) (v := u 5 4) hx hb hr hlocks hK hP hD hS (congrArg (fun z9 => (z9, u)) hw) nd_C_valueOf_63
  have hw := (if_neg h1_8).symm.trans hw
  rcases my_em (x := a1) (12 : Int32) with h1_12 | h1_12
  · have hw := (if_pos h1_12).symm.trans hw
    refine my_swi (tgt := 44) hx hb nd_C_valueOf_1 h1_12 (by decide) (by decide) rfl (by decide) ?_
    refine lv_aload_n hx hb nd_C_valueOf_44 rfl (lv_at hl 0 rfl) ?_
    refine va_get (D := D) (ci := 3) (v := .int (u 5 0)) (C := nR_C) (T := nT_C) (N := 5) hx hb hts nu_C hown hK hP 5 rfl rfl 0 (by decide) (hts _ gw_39) (fun _ h9 => h9) rfl nd_C_valueOf_45 ?_
    exact my_ri (u' := u) (v := u 5 0) hx hb hr hlocks hK hP hD hS (congrArg (fun z9 => (z9, u)) hw) nd_C_valueOf_48
  have hw := (if_neg h1_12).symm.trans hw
  rcases my_em (x := a1) (13 : Int32) with h1_13 | h1_13
  · have hw := (if_pos h1_13).symm.trans hw
    refine my_swi (tgt := 49) hx hb nd_C_valueOf_1 h1_13 (by decide) (by decide) rfl (by decide) ?_
    refine lv_aload_n hx hb nd_C_valueOf_49 rfl (lv_at hl 0 rfl) ?_
    refine my_ci (wd := wSC h cA) (r := f_C_wholeCause u) (u' := u) (va_runV (As := []) (rest := []) ⟨hx, hb, hml, hown, hts⟩ (c_C_wholeCause l D h cA u _ rfl _) ⟨callB_of 0 hts (gw_in gw_131) rfl rfl rfl (hts _ gw_4) (hts _ gw_128) nh_C_wholeCause ⟨Nat.le_of_ble_eq_true rfl, Nat.le_of_ble_eq_true rfl⟩, (hts _ gw_130), (hts _ gw_129)⟩ (my_preV nwOk hP hK hD hN (va_recv hK hP (ci := 3) (q0 := 5) rfl rfl)) rfl rfl hl.1 rfl (lv_room (Nat.le_of_ble_eq_true rfl)) nd_C_valueOf_50 ⟨Nat.le_of_ble_eq_true rfl, Nat.le_of_ble_eq_true rfl⟩) hD hS hA (fun H locs hP hD hS => ?_)
    exact my_ri (u' := u) (v := f_C_wholeCause u) hx hb hr hlocks hK hP hD hS (congrArg (fun z9 => (z9, u)) hw) nd_C_valueOf_53
  have hw := (if_neg h1_13).symm.trans hw
  rcases my_em (x := a1) (14 : Int32) with h1_14 | h1_14
  · have hw := (if_pos h1_14).symm.trans hw
    refine my_swi (tgt := 54) hx hb nd_C_valueOf_1 h1_14 (by decide) (by decide) rfl (by decide) ?_
    refine lv_aload_n hx hb nd_C_valueOf_54 rfl (lv_at hl 0 rfl) ?_
    refine va_get (D := D) (ci := 3) (v := .int (u 5 3)) (C := nR_C) (T := nT_C) (N := 5) hx hb hts nu_C hown hK hP 5 rfl rfl 3 (by decide) (hts _ gw_42) (fun _ h9 => h9) rfl nd_C_valueOf_55 ?_
    exact my_ri (u' := u) (v := u 5 3) hx hb hr hlocks hK hP hD hS (congrArg (fun z9 => (z9, u)) hw) nd_C_valueOf_58
  have hw := (if_neg h1_14).symm.trans hw
  refine my_swd (tgt := 64) hx hb nd_C_valueOf_1 (my_nec h1_8 (my_nec h1_12 (my_nec h1_13 (my_nec h1_14 my_nen)))) (by decide +kernel) (by decide) ?_
  refine lv_iconst (v := (0 : Int32)) hx hb nd_C_valueOf_64 (by decide) ?_
  exact my_ri (u' := u) (v := (0 : Int32)) hx hb hr hlocks hK hP hD hS (congrArg (fun z9 => (z9, u)) hw) nd_C_valueOf_65
set_option maxHeartbeats 4000000 in
set_option maxRecDepth 100000 in
theorem c_C_leave (l : Launch) (D : va_G) (h : Nat → Nat) (cA : Nat → ClassId) (u : St) (F : St) (hw : f_C_leave u = F) : MV nwS vwCl l ny_C_leave nw_C_leave ({ frames := 1, cells := 0, slots := 0, locals := 22 }) D (tyI cA) (wSC h cA) ([.ref (h 5)] : List Value) u F := by
  refine my_in (gw := GW) (cc := nc_C_leave) (maxL := 1) (ret := none) (Qc := fun A => QV vwCl D (tyI cA) (wSC h cA) F A) (by decide) rfl (Nat.le_of_ble_eq_true rfl) ?_
  intro p e s m below meth c A H locs ls hx hb hml hr hts hown hlocks hK hN hA hP hD hS hl
  have hown : s.vm.findClass nR_C = some m.cls := hown
  have hl : lv_has ls 1 [(0, .ref (h 5))] := hl
  unfold f_C_leave at hw
  refine lv_aload_n hx hb nd_C_leave_0 rfl (lv_at hl 0 rfl) ?_
  refine lv_aload_n hx hb nd_C_leave_1 rfl (lv_at hl 0 rfl) ?_
  refine va_get (D := D) (ci := 3) (v := .int (u 5 0)) (C := nR_C) (T := nT_C) (N := 5) hx hb hts nu_C hown hK hP 5 rfl rfl 0 (by decide) (hts _ gw_39) (fun _ h9 => h9) rfl nd_C_leave_2 ?_
  refine lv_aload_n hx hb nd_C_leave_5 rfl (lv_at hl 0 rfl) ?_
  refine va_get (D := D) (ci := 3) (v := .int (u 5 0)) (C := nR_C) (T := nT_C) (N := 5) hx hb hts nu_C hown hK hP 5 rfl rfl 0 (by decide) (hts _ gw_39) (fun _ h9 => h9) rfl nd_C_leave_6 ?_
  refine lv_iconst (v := (2 : Int32)) hx hb nd_C_leave_9 (by decide) ?_
  refine lv_ishr hx hb nd_C_leave_10 ?_
  refine lv_bipush (v := (15 : Int32)) hx hb nd_C_leave_11 (by decide) ?_
  refine my_cp (F := f_S_exchange (u 5 0) ((u 5 0) >>> ((2 : Int32) &&& 31)) (15 : Int32)) (va_runSN (As := [.int (u 5 0), .int ((u 5 0) >>> ((2 : Int32) &&& 31)), .int (15 : Int32)]) (rest := [.ref (h 5)]) ⟨hx, hb, hml, hown, hts⟩ (c_S_exchange l (u 5 0) ((u 5 0) >>> ((2 : Int32) &&& 31)) (15 : Int32) _ rfl) ⟨va_cnB 3 hts (gw_in gw_116) rfl rfl rfl (hN _ nm_19) (hts _ gw_1) nh_S_exchange ⟨Nat.le_of_ble_eq_true rfl, Nat.le_of_ble_eq_true rfl⟩, (hts _ gw_115), trivial⟩ my_preP rfl rfl hl.1 rfl (lv_room (Nat.le_of_ble_eq_true rfl)) nd_C_leave_13 ⟨Nat.le_of_ble_eq_true rfl, Nat.le_of_ble_eq_true rfl⟩) hP hS (fun H locs hP hS => ?_)
  refine va_put (D := D) (ci := 3) (v := .int (f_S_exchange (u 5 0) ((u 5 0) >>> ((2 : Int32) &&& 31)) (15 : Int32))) (ty := .int) (C := nR_C) (T := nT_C) (N := 5) hx hb hts nu_C nt_C nto_C nn_C hown hK hP hD hS 5 rfl rfl 0 (by decide) (hts _ gw_39) (fun _ h9 => h9) rfl (by decide +kernel) rfl rfl (Nat.le_of_ble_eq_true rfl) nd_C_leave_16 (fun H locs hP hD hS => ?_)
  have hP : va_P D vwCl (wSC h cA (sU u 5 0 (f_S_exchange (u 5 0) ((u 5 0) >>> ((2 : Int32) &&& 31)) (15 : Int32)))) H := hP
  have hD : va_D A (wSC h cA (sU u 5 0 (f_S_exchange (u 5 0) ((u 5 0) >>> ((2 : Int32) &&& 31)) (15 : Int32)))) := hD
  exact my_rv (u' := sU u 5 0 (f_S_exchange (u 5 0) ((u 5 0) >>> ((2 : Int32) &&& 31)) (15 : Int32))) hx hb hr hlocks hK hP hD hS hw nd_C_leave_19
set_option maxHeartbeats 4000000 in
set_option maxRecDepth 100000 in
theorem c_R_latestOf (l : Launch) (D : va_G) (h : Nat → Nat) (cA : Nat → ClassId) (u : St) (a1 : Int32) (F : Int32) (hw : f_R_latestOf a1 u = F) : MI nwS vwCl l ny_R_latestOf nw_R_latestOf ({ frames := 1, cells := 0, slots := 0, locals := 21 }) D (tyI cA) (wSC h cA) ([.ref (h 3), .int a1] : List Value) u (F, u) := by
  refine my_in (gw := GW) (cc := nc_R_latestOf) (maxL := 2) (ret := (some .int)) (Qc := fun A => QI vwCl D (tyI cA) (wSC h cA) (F, u) A) (by decide) rfl (Nat.le_of_ble_eq_true rfl) ?_
  intro p e s m below meth c A H locs ls hx hb hml hr hts hown hlocks hK hN hA hP hD hS hl
  have hown : s.vm.findClass nR_R = some m.cls := hown
  have hl : lv_has ls 2 [(0, .ref (h 3)), (1, .int a1)] := hl
  unfold f_R_latestOf at hw
  refine lv_aload_n hx hb nd_R_latestOf_0 rfl (lv_at hl 0 rfl) ?_
  refine va_get (D := D) (ci := 2) (v := .int (u 3 1)) (C := nR_R) (T := nT_R) (N := 3) hx hb hts nu_R hown hK hP 3 rfl rfl 1 (by decide) (hts _ gw_29) (fun _ h9 => h9) rfl nd_R_latestOf_1 ?_
  refine lv_iload_n hx hb nd_R_latestOf_4 rfl (lv_at hl 1 rfl) ?_
  refine lv_icmp_ne (tgt := 15) hx hb nd_R_latestOf_5 (by decide) (fun h5 => ?_) (fun h5 => ?_)
  · have hw := (if_neg h5).symm.trans hw
    refine lv_aload_n hx hb nd_R_latestOf_15 rfl (lv_at hl 0 rfl) ?_
    refine lv_iload_n hx hb nd_R_latestOf_16 rfl (lv_at hl 1 rfl) ?_
    refine my_ci (wd := wSC h cA) (r := f_R_valueOf a1 u) (u' := u) (va_runV (As := [.int a1]) (rest := []) ⟨hx, hb, hml, hown, hts⟩ (c_R_valueOf l D h cA u a1 _ rfl _) ⟨callB_of 1 hts (gw_in gw_206) rfl rfl rfl (hts _ gw_3) (hts _ gw_335) nh_R_valueOf ⟨Nat.le_of_ble_eq_true rfl, Nat.le_of_ble_eq_true rfl⟩, (hts _ gw_205), (hts _ gw_204)⟩ (my_preV nwOk hP hK hD hN (va_recv hK hP (ci := 2) (q0 := 3) rfl rfl)) rfl rfl hl.1 rfl (lv_room (Nat.le_of_ble_eq_true rfl)) nd_R_latestOf_17 ⟨Nat.le_of_ble_eq_true rfl, Nat.le_of_ble_eq_true rfl⟩) hD hS hA (fun H locs hP hD hS => ?_)
    exact my_ri (u' := u) (v := f_R_valueOf a1 u) hx hb hr hlocks hK hP hD hS (congrArg (fun z9 => (z9, u)) hw) nd_R_latestOf_20
  have hw := (if_pos h5).symm.trans hw
  refine lv_aload_n hx hb nd_R_latestOf_8 rfl (lv_at hl 0 rfl) ?_
  refine va_get (D := D) (ci := 2) (v := .int (u 3 2)) (C := nR_R) (T := nT_R) (N := 3) hx hb hts nu_R hown hK hP 3 rfl rfl 2 (by decide) (hts _ gw_30) (fun _ h9 => h9) rfl nd_R_latestOf_9 ?_
  refine lv_goto (tgt := 20) hx hb nd_R_latestOf_12 (by decide) ?_
  exact my_ri (u' := u) (v := u 3 2) hx hb hr hlocks hK hP hD hS (congrArg (fun z9 => (z9, u)) hw) nd_R_latestOf_20
