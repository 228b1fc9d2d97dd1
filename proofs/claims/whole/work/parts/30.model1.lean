set_option maxHeartbeats 4000000 in
set_option maxRecDepth 100000 in
theorem c_D_thrown (l : Launch) (D : va_G) (h : Nat → Nat) (cA : Nat → ClassId) (u : St) (F : Int32) (hw : f_D_thrown u = F) : MI nwS vwCl l ny_D_thrown nw_D_thrown ({ frames := 0, cells := 0, slots := 0, locals := 0 }) D (tyI cA) (wMD h cA) ([.ref (h 0)] : List Value) u (F, u) := by
  refine my_in (gw := GW) (cc := nc_D_thrown) (maxL := 1) (ret := (some .int)) (Qc := fun A => QI vwCl D (tyI cA) (wMD h cA) (F, u) A) (by decide) rfl (Nat.le_of_ble_eq_true rfl) ?_
  intro p e s m below meth c A H locs ls hx hb hml hr hts hown hlocks hK hN hA hP hD hS hl
  have hown : s.vm.findClass nR_D = some m.cls := hown
  have hl : lv_has ls 1 [(0, .ref (h 0))] := hl
  unfold f_D_thrown at hw
  refine lv_aload_n hx hb nd_D_thrown_0 rfl (lv_at hl 0 rfl) ?_
  refine va_get (D := D) (ci := 5) (v := .int (u 0 0)) (C := nR_D) (T := nT_D) (N := 28) hx hb hts nu_D hown hK hP 0 rfl rfl 0 (by decide) (hts _ gw_414) (fun _ h9 => h9) rfl nd_D_thrown_1 ?_
  exact my_ri (u' := u) (v := u 0 0) hx hb hr hlocks hK hP hD hS (congrArg (fun z9 => (z9, u)) hw) nd_D_thrown_4
set_option maxHeartbeats 4000000 in
set_option maxRecDepth 100000 in
theorem c_D_goes (l : Launch) (D : va_G) (h : Nat → Nat) (cA : Nat → ClassId) (u : St) (a1 : Int32) (F : Int32 × St) (hw : f_D_goes a1 u = F) : MI nwS vwCl l ny_D_goes nw_D_goes ({ frames := 0, cells := 0, slots := 0, locals := 0 }) D (tyI cA) (wMD h cA) ([.ref (h 0), .int (zb a1)] : List Value) u (zb F.1, F.2) := by
  refine my_in (gw := GW) (cc := nc_D_goes) (maxL := 2) (ret := (some .boolean)) (Qc := fun A => QI vwCl D (tyI cA) (wMD h cA) (zb F.1, F.2) A) (by decide) rfl (Nat.le_of_ble_eq_true rfl) ?_
  intro p e s m below meth c A H locs ls hx hb hml hr hts hown hlocks hK hN hA hP hD hS hl
  have hown : s.vm.findClass nR_D = some m.cls := hown
  have hl : lv_has ls 2 [(0, .ref (h 0)), (1, .int (zb a1))] := hl
  unfold f_D_goes at hw
  refine lv_aload_n hx hb nd_D_goes_0 rfl (lv_at hl 0 rfl) ?_
  refine lv_iload_n hx hb nd_D_goes_1 rfl (lv_at hl 1 rfl) ?_
  refine lv_if_eq (tgt := 9) hx hb nd_D_goes_2 (by decide) (fun h2 => ?_) (fun h2 => ?_)
  · have hw := (if_pos h2).symm.trans hw
    refine lv_iconst (v := (1 : Int32)) hx hb nd_D_goes_9 (by decide) ?_
    refine va_put (D := D) (ci := 5) (v := .int (1 : Int32)) (ty := .int) (C := nR_D) (T := nT_D) (N := 28) hx hb hts nu_D nt_D nto_D nn_D hown hK hP hD hS 0 rfl rfl 0 (by decide) (hts _ gw_414) (fun _ h9 => h9) rfl (by decide +kernel) rfl rfl (Nat.le_of_ble_eq_true rfl) nd_D_goes_10 (fun H locs hP hD hS => ?_)
    have hP : va_P D vwCl (wMD h cA (sU u 0 0 (1 : Int32))) H := hP
    have hD : va_D A (wMD h cA (sU u 0 0 (1 : Int32))) := hD
    refine lv_iload_n hx hb nd_D_goes_13 rfl (lv_at hl 1 rfl) ?_
    exact my_rz (u' := sU u 0 0 (1 : Int32)) (x := a1) hx hb hr hlocks hK hP hD hS hw rfl nd_D_goes_14
  have hw := (if_neg h2).symm.trans hw
  refine lv_iconst (v := (0 : Int32)) hx hb nd_D_goes_5 (by decide) ?_
  refine lv_goto (tgt := 10) hx hb nd_D_goes_6 (by decide) ?_
  refine va_put (D := D) (ci := 5) (v := .int (0 : Int32)) (ty := .int) (C := nR_D) (T := nT_D) (N := 28) hx hb hts nu_D nt_D nto_D nn_D hown hK hP hD hS 0 rfl rfl 0 (by decide) (hts _ gw_414) (fun _ h9 => h9) rfl (by decide +kernel) rfl rfl (Nat.le_of_ble_eq_true rfl) nd_D_goes_10 (fun H locs hP hD hS => ?_)
  have hP : va_P D vwCl (wMD h cA (sU u 0 0 (0 : Int32))) H := hP
  have hD : va_D A (wMD h cA (sU u 0 0 (0 : Int32))) := hD
  refine lv_iload_n hx hb nd_D_goes_13 rfl (lv_at hl 1 rfl) ?_
  exact my_rz (u' := sU u 0 0 (0 : Int32)) (x := a1) hx hb hr hlocks hK hP hD hS hw rfl nd_D_goes_14
set_option maxHeartbeats 4000000 in
set_option maxRecDepth 100000 in
theorem c_D_reset (l : Launch) (D : va_G) (h : Nat → Nat) (cA : Nat → ClassId) (u : St) (F : St) (hw : f_D_reset u = some F) : MV nwS vwCl l ny_D_reset nw_D_reset ({ frames := 0, cells := 0, slots := 0, locals := 0 }) D (tyI cA) (wMD h cA) ([.ref (h 0)] : List Value) u F := by
  refine my_in (gw := GW) (cc := nc_D_reset) (maxL := 2) (ret := none) (Qc := fun A => QV vwCl D (tyI cA) (wMD h cA) F A) (by decide) rfl (Nat.le_of_ble_eq_true rfl) ?_
  intro p e s m below meth c A H locs ls hx hb hml hr hts hown hlocks hK hN hA hP hD hS hl
  have hown : s.vm.findClass nR_D = some m.cls := hown
  have hl : lv_has ls 2 [(0, .ref (h 0))] := hl
  have J7 : ∀ (n : Nat) (x1 : Int32) (u : St) (H : Heap) (locs : List Loc) (ls : Array Slot), va_P D vwCl (wMD h cA u) H → va_D A (wMD h cA u) → va_S A s.heap H locs → lv_has ls 2 [(0, .ref (h 0)), (1, .int x1)] → f_D_reset_b7 n x1 u = some F →
      W p l e (headSpec nw_D_reset ({ frames := 0, cells := 0, slots := 0, locals := 0 })).room s m ([.ref (h 0)] : List Value).toArray below meth c H locs 0 0 (MQ below (QV vwCl D (tyI cA) (wMD h cA) F A) ([.ref (h 0)] : List Value).toArray s 0 0 A) (F0 m 7 ls []) := by
    intro n
    induction n with
    | zero =>
      intro x1 u H locs ls hP hD hS hl hw
      have hw : none = some F := hw
      cases hw
    | succ n ih =>
      intro x1 u H locs ls hP hD hS hl hw
      have hw := (f_D_reset_b7_s n x1 u).symm.trans hw
      refine lv_iload_n hx hb nd_D_reset_7 rfl (lv_at hl 1 rfl) ?_
      refine lv_bipush (v := (34 : Int32)) hx hb nd_D_reset_8 (by decide) ?_
      refine lv_icmp_ge (tgt := 26) hx hb nd_D_reset_10 (by decide) (fun h10 => ?_) (fun h10 => ?_)
      · have hw := (if_pos h10).symm.trans hw
        refine lv_aload_n hx hb nd_D_reset_26 rfl (lv_at hl 0 rfl) ?_
        refine lv_iconst (v := (0 : Int32)) hx hb nd_D_reset_27 (by decide) ?_
        refine va_put (D := D) (ci := 5) (v := .int (0 : Int32)) (ty := .int) (C := nR_D) (T := nT_D) (N := 28) hx hb hts nu_D nt_D nto_D nn_D hown hK hP hD hS 0 rfl rfl 3 (by decide) (hts _ gw_417) (fun _ h9 => h9) rfl (by decide +kernel) rfl rfl (Nat.le_of_ble_eq_true rfl) nd_D_reset_28 (fun H locs hP hD hS => ?_)
        have hP : va_P D vwCl (wMD h cA (sU u 0 3 (0 : Int32))) H := hP
        have hD : va_D A (wMD h cA (sU u 0 3 (0 : Int32))) := hD
        refine lv_aload_n hx hb nd_D_reset_31 rfl (lv_at hl 0 rfl) ?_
        refine lv_iconst (v := (4 : Int32)) hx hb nd_D_reset_32 (by decide) ?_
        refine va_put (D := D) (ci := 5) (v := .int (4 : Int32)) (ty := .int) (C := nR_D) (T := nT_D) (N := 28) hx hb hts nu_D nt_D nto_D nn_D hown hK hP hD hS 0 rfl rfl 4 (by decide) (hts _ gw_418) (fun _ h9 => h9) rfl (by decide +kernel) rfl rfl (Nat.le_of_ble_eq_true rfl) nd_D_reset_33 (fun H locs hP hD hS => ?_)
        have hP : va_P D vwCl (wMD h cA (sU (sU u 0 3 (0 : Int32)) 0 4 (4 : Int32))) H := hP
        have hD : va_D A (wMD h cA (sU (sU u 0 3 (0 : Int32)) 0 4 (4 : Int32))) := hD
        refine lv_aload_n hx hb nd_D_reset_36 rfl (lv_at hl 0 rfl) ?_
        refine lv_iconst (v := (0 : Int32)) hx hb nd_D_reset_37 (by decide) ?_
        refine va_put (D := D) (ci := 5) (v := .int (0 : Int32)) (ty := .int) (C := nR_D) (T := nT_D) (N := 28) hx hb hts nu_D nt_D nto_D nn_D hown hK hP hD hS 0 rfl rfl 5 (by decide) (hts _ gw_419) (fun _ h9 => h9) rfl (by decide +kernel) rfl rfl (Nat.le_of_ble_eq_true rfl) nd_D_reset_38 (fun H locs hP hD hS => ?_)
        have hP : va_P D vwCl (wMD h cA (sU (sU (sU u 0 3 (0 : Int32)) 0 4 (4 : Int32)) 0 5 (0 : Int32))) H := hP
        have hD : va_D A (wMD h cA (sU (sU (sU u 0 3 (0 : Int32)) 0 4 (4 : Int32)) 0 5 (0 : Int32))) := hD
        refine lv_aload_n hx hb nd_D_reset_41 rfl (lv_at hl 0 rfl) ?_
        refine lv_iconst (v := (0 : Int32)) hx hb nd_D_reset_42 (by decide) ?_
        refine va_put (D := D) (ci := 5) (v := .int (0 : Int32)) (ty := .int) (C := nR_D) (T := nT_D) (N := 28) hx hb hts nu_D nt_D nto_D nn_D hown hK hP hD hS 0 rfl rfl 6 (by decide) (hts _ gw_420) (fun _ h9 => h9) rfl (by decide +kernel) rfl rfl (Nat.le_of_ble_eq_true rfl) nd_D_reset_43 (fun H locs hP hD hS => ?_)
        have hP : va_P D vwCl (wMD h cA (sU (sU (sU (sU u 0 3 (0 : Int32)) 0 4 (4 : Int32)) 0 5 (0 : Int32)) 0 6 (0 : Int32))) H := hP
        have hD : va_D A (wMD h cA (sU (sU (sU (sU u 0 3 (0 : Int32)) 0 4 (4 : Int32)) 0 5 (0 : Int32)) 0 6 (0 : Int32))) := hD
        refine lv_aload_n hx hb nd_D_reset_46 rfl (lv_at hl 0 rfl) ?_
        refine lv_iconst (v := (0 : Int32)) hx hb nd_D_reset_47 (by decide) ?_
        refine va_put (D := D) (ci := 5) (v := .int (0 : Int32)) (ty := .int) (C := nR_D) (T := nT_D) (N := 28) hx hb hts nu_D nt_D nto_D nn_D hown hK hP hD hS 0 rfl rfl 7 (by decide) (hts _ gw_421) (fun _ h9 => h9) rfl (by decide +kernel) rfl rfl (Nat.le_of_ble_eq_true rfl) nd_D_reset_48 (fun H locs hP hD hS => ?_)
        have hP : va_P D vwCl (wMD h cA (sU (sU (sU (sU (sU u 0 3 (0 : Int32)) 0 4 (4 : Int32)) 0 5 (0 : Int32)) 0 6 (0 : Int32)) 0 7 (0 : Int32))) H := hP
        have hD : va_D A (wMD h cA (sU (sU (sU (sU (sU u 0 3 (0 : Int32)) 0 4 (4 : Int32)) 0 5 (0 : Int32)) 0 6 (0 : Int32)) 0 7 (0 : Int32))) := hD
        refine lv_aload_n hx hb nd_D_reset_51 rfl (lv_at hl 0 rfl) ?_
        refine lv_iconst (v := (0 : Int32)) hx hb nd_D_reset_52 (by decide) ?_
        refine va_put (D := D) (ci := 5) (v := .int (0 : Int32)) (ty := .int) (C := nR_D) (T := nT_D) (N := 28) hx hb hts nu_D nt_D nto_D nn_D hown hK hP hD hS 0 rfl rfl 8 (by decide) (hts _ gw_422) (fun _ h9 => h9) rfl (by decide +kernel) rfl rfl (Nat.le_of_ble_eq_true rfl) nd_D_reset_53 (fun H locs hP hD hS => ?_)
        have hP : va_P D vwCl (wMD h cA (sU (sU (sU (sU (sU (sU u 0 3 (0 : Int32)) 0 4 (4 : Int32)) 0 5 (0 : Int32)) 0 6 (0 : Int32)) 0 7 (0 : Int32)) 0 8 (0 : Int32))) H := hP
        have hD : va_D A (wMD h cA (sU (sU (sU (sU (sU (sU u 0 3 (0 : Int32)) 0 4 (4 : Int32)) 0 5 (0 : Int32)) 0 6 (0 : Int32)) 0 7 (0 : Int32)) 0 8 (0 : Int32))) := hD
        refine lv_aload_n hx hb nd_D_reset_56 rfl (lv_at hl 0 rfl) ?_
        refine lv_iconst (v := (0 : Int32)) hx hb nd_D_reset_57 (by decide) ?_
        refine va_put (D := D) (ci := 5) (v := .int (zb (0 : Int32))) (ty := .boolean) (C := nR_D) (T := nT_D) (N := 28) hx hb hts nu_D nt_D nto_D nn_D hown hK hP hD hS 0 rfl rfl 9 (by decide) (hts _ gw_423) (fun _ h9 => h9) rfl (by decide +kernel) (zb_n _) (zb_f _) (Nat.le_of_ble_eq_true rfl) nd_D_reset_58 (fun H locs hP hD hS => ?_)
        have hP : va_P D vwCl (wMD h cA (sU (sU (sU (sU (sU (sU (sU u 0 3 (0 : Int32)) 0 4 (4 : Int32)) 0 5 (0 : Int32)) 0 6 (0 : Int32)) 0 7 (0 : Int32)) 0 8 (0 : Int32)) 0 9 (0 : Int32))) H := hP
        have hD : va_D A (wMD h cA (sU (sU (sU (sU (sU (sU (sU u 0 3 (0 : Int32)) 0 4 (4 : Int32)) 0 5 (0 : Int32)) 0 6 (0 : Int32)) 0 7 (0 : Int32)) 0 8 (0 : Int32)) 0 9 (0 : Int32))) := hD
        refine lv_aload_n hx hb nd_D_reset_61 rfl (lv_at hl 0 rfl) ?_
        refine lv_iconst (v := (0 : Int32)) hx hb nd_D_reset_62 (by decide) ?_
        refine va_put (D := D) (ci := 5) (v := .int (0 : Int32)) (ty := .int) (C := nR_D) (T := nT_D) (N := 28) hx hb hts nu_D nt_D nto_D nn_D hown hK hP hD hS 0 rfl rfl 10 (by decide) (hts _ gw_424) (fun _ h9 => h9) rfl (by decide +kernel) rfl rfl (Nat.le_of_ble_eq_true rfl) nd_D_reset_63 (fun H locs hP hD hS => ?_)
        have hP : va_P D vwCl (wMD h cA (sU (sU (sU (sU (sU (sU (sU (sU u 0 3 (0 : Int32)) 0 4 (4 : Int32)) 0 5 (0 : Int32)) 0 6 (0 : Int32)) 0 7 (0 : Int32)) 0 8 (0 : Int32)) 0 9 (0 : Int32)) 0 10 (0 : Int32))) H := hP
        have hD : va_D A (wMD h cA (sU (sU (sU (sU (sU (sU (sU (sU u 0 3 (0 : Int32)) 0 4 (4 : Int32)) 0 5 (0 : Int32)) 0 6 (0 : Int32)) 0 7 (0 : Int32)) 0 8 (0 : Int32)) 0 9 (0 : Int32)) 0 10 (0 : Int32))) := hD
        refine lv_aload_n hx hb nd_D_reset_66 rfl (lv_at hl 0 rfl) ?_
        refine lv_iconst (v := (0 : Int32)) hx hb nd_D_reset_67 (by decide) ?_
        refine va_put (D := D) (ci := 5) (v := .int (0 : Int32)) (ty := .int) (C := nR_D) (T := nT_D) (N := 28) hx hb hts nu_D nt_D nto_D nn_D hown hK hP hD hS 0 rfl rfl 11 (by decide) (hts _ gw_425) (fun _ h9 => h9) rfl (by decide +kernel) rfl rfl (Nat.le_of_ble_eq_true rfl) nd_D_reset_68 (fun H locs hP hD hS => ?_)
        have hP : va_P D vwCl (wMD h cA (sU (sU (sU (sU (sU (sU (sU (sU (sU u 0 3 (0 : Int32)) 0 4 (4 : Int32)) 0 5 (0 : Int32)) 0 6 (0 : Int32)) 0 7 (0 : Int32)) 0 8 (0 : Int32)) 0 9 (0 : Int32)) 0 10 (0 : Int32)) 0 11 (0 : Int32))) H := hP
        have hD : va_D A (wMD h cA (sU (sU (sU (sU (sU (sU (sU (sU (sU u 0 3 (0 : Int32)) 0 4 (4 : Int32)) 0 5 (0 : Int32)) 0 6 (0 : Int32)) 0 7 (0 : Int32)) 0 8 (0 : Int32)) 0 9 (0 : Int32)) 0 10 (0 : Int32)) 0 11 (0 : Int32))) := hD
        refine lv_aload_n hx hb nd_D_reset_71 rfl (lv_at hl 0 rfl) ?_
        refine lv_iconst (v := (0 : Int32)) hx hb nd_D_reset_72 (by decide) ?_
        refine va_put (D := D) (ci := 5) (v := .int (zb (0 : Int32))) (ty := .boolean) (C := nR_D) (T := nT_D) (N := 28) hx hb hts nu_D nt_D nto_D nn_D hown hK hP hD hS 0 rfl rfl 12 (by decide) (hts _ gw_426) (fun _ h9 => h9) rfl (by decide +kernel) (zb_n _) (zb_f _) (Nat.le_of_ble_eq_true rfl) nd_D_reset_73 (fun H locs hP hD hS => ?_)
        have hP : va_P D vwCl (wMD h cA (sU (sU (sU (sU (sU (sU (sU (sU (sU (sU u 0 3 (0 : Int32)) 0 4 (4 : Int32)) 0 5 (0 : Int32)) 0 6 (0 : Int32)) 0 7 (0 : Int32)) 0 8 (0 : Int32)) 0 9 (0 : Int32)) 0 10 (0 : Int32)) 0 11 (0 : Int32)) 0 12 (0 : Int32))) H := hP
        have hD : va_D A (wMD h cA (sU (sU (sU (sU (sU (sU (sU (sU (sU (sU u 0 3 (0 : Int32)) 0 4 (4 : Int32)) 0 5 (0 : Int32)) 0 6 (0 : Int32)) 0 7 (0 : Int32)) 0 8 (0 : Int32)) 0 9 (0 : Int32)) 0 10 (0 : Int32)) 0 11 (0 : Int32)) 0 12 (0 : Int32))) := hD
        refine lv_aload_n hx hb nd_D_reset_76 rfl (lv_at hl 0 rfl) ?_
        refine lv_iconst (v := (-1 : Int32)) hx hb nd_D_reset_77 (by decide) ?_
        refine va_put (D := D) (ci := 5) (v := .int (-1 : Int32)) (ty := .int) (C := nR_D) (T := nT_D) (N := 28) hx hb hts nu_D nt_D nto_D nn_D hown hK hP hD hS 0 rfl rfl 13 (by decide) (hts _ gw_427) (fun _ h9 => h9) rfl (by decide +kernel) rfl rfl (Nat.le_of_ble_eq_true rfl) nd_D_reset_78 (fun H locs hP hD hS => ?_)
        have hP : va_P D vwCl (wMD h cA (sU (sU (sU (sU (sU (sU (sU (sU (sU (sU (sU u 0 3 (0 : Int32)) 0 4 (4 : Int32)) 0 5 (0 : Int32)) 0 6 (0 : Int32)) 0 7 (0 : Int32)) 0 8 (0 : Int32)) 0 9 (0 : Int32)) 0 10 (0 : Int32)) 0 11 (0 : Int32)) 0 12 (0 : Int32)) 0 13 (-1 : Int32))) H := hP
        have hD : va_D A (wMD h cA (sU (sU (sU (sU (sU (sU (sU (sU (sU (sU (sU u 0 3 (0 : Int32)) 0 4 (4 : Int32)) 0 5 (0 : Int32)) 0 6 (0 : Int32)) 0 7 (0 : Int32)) 0 8 (0 : Int32)) 0 9 (0 : Int32)) 0 10 (0 : Int32)) 0 11 (0 : Int32)) 0 12 (0 : Int32)) 0 13 (-1 : Int32))) := hD
        refine lv_aload_n hx hb nd_D_reset_81 rfl (lv_at hl 0 rfl) ?_
        refine lv_iconst (v := (0 : Int32)) hx hb nd_D_reset_82 (by decide) ?_
        refine va_put (D := D) (ci := 5) (v := .int (0 : Int32)) (ty := .int) (C := nR_D) (T := nT_D) (N := 28) hx hb hts nu_D nt_D nto_D nn_D hown hK hP hD hS 0 rfl rfl 14 (by decide) (hts _ gw_428) (fun _ h9 => h9) rfl (by decide +kernel) rfl rfl (Nat.le_of_ble_eq_true rfl) nd_D_reset_83 (fun H locs hP hD hS => ?_)
        have hP : va_P D vwCl (wMD h cA (sU (sU (sU (sU (sU (sU (sU (sU (sU (sU (sU (sU u 0 3 (0 : Int32)) 0 4 (4 : Int32)) 0 5 (0 : Int32)) 0 6 (0 : Int32)) 0 7 (0 : Int32)) 0 8 (0 : Int32)) 0 9 (0 : Int32)) 0 10 (0 : Int32)) 0 11 (0 : Int32)) 0 12 (0 : Int32)) 0 13 (-1 : Int32)) 0 14 (0 : Int32))) H := hP
        have hD : va_D A (wMD h cA (sU (sU (sU (sU (sU (sU (sU (sU (sU (sU (sU (sU u 0 3 (0 : Int32)) 0 4 (4 : Int32)) 0 5 (0 : Int32)) 0 6 (0 : Int32)) 0 7 (0 : Int32)) 0 8 (0 : Int32)) 0 9 (0 : Int32)) 0 10 (0 : Int32)) 0 11 (0 : Int32)) 0 12 (0 : Int32)) 0 13 (-1 : Int32)) 0 14 (0 : Int32))) := hD
        refine lv_aload_n hx hb nd_D_reset_86 rfl (lv_at hl 0 rfl) ?_
        refine lv_iconst (v := (0 : Int32)) hx hb nd_D_reset_87 (by decide) ?_
        refine va_put (D := D) (ci := 5) (v := .int (0 : Int32)) (ty := .int) (C := nR_D) (T := nT_D) (N := 28) hx hb hts nu_D nt_D nto_D nn_D hown hK hP hD hS 0 rfl rfl 15 (by decide) (hts _ gw_429) (fun _ h9 => h9) rfl (by decide +kernel) rfl rfl (Nat.le_of_ble_eq_true rfl) nd_D_reset_88 (fun H locs hP hD hS => ?_)
        have hP : va_P D vwCl (wMD h cA (sU (sU (sU (sU (sU (sU (sU (sU (sU (sU (sU (sU (sU u 0 3 (0 : Int32)) 0 4 (4 : Int32)) 0 5 (0 : Int32)) 0 6 (0 : Int32)) 0 7 (0 : Int32)) 0 8 (0 : Int32)) 0 9 (0 : Int32)) 0 10 (0 : Int32)) 0 11 (0 : Int32)) 0 12 (0 : Int32)) 0 13 (-1 : Int32)) 0 14 (0 : Int32)) 0 15 (0 : Int32))) H := hP
        have hD : va_D A (wMD h cA (sU (sU (sU (sU (sU (sU (sU (sU (sU (sU (sU (sU (sU u 0 3 (0 : Int32)) 0 4 (4 : Int32)) 0 5 (0 : Int32)) 0 6 (0 : Int32)) 0 7 (0 : Int32)) 0 8 (0 : Int32)) 0 9 (0 : Int32)) 0 10 (0 : Int32)) 0 11 (0 : Int32)) 0 12 (0 : Int32)) 0 13 (-1 : Int32)) 0 14 (0 : Int32)) 0 15 (0 : Int32))) := hD
        refine lv_aload_n hx hb nd_D_reset_91 rfl (lv_at hl 0 rfl) ?_
        refine lv_iconst (v := (0 : Int32)) hx hb nd_D_reset_92 (by decide) ?_
        refine va_put (D := D) (ci := 5) (v := .int (0 : Int32)) (ty := .int) (C := nR_D) (T := nT_D) (N := 28) hx hb hts nu_D nt_D nto_D nn_D hown hK hP hD hS 0 rfl rfl 16 (by decide) (hts _ gw_430) (fun _ h9 => h9) rfl (by decide +kernel) rfl rfl (Nat.le_of_ble_eq_true rfl) nd_D_reset_93 (fun H locs hP hD hS => ?_)
        have hP : va_P D vwCl (wMD h cA (sU (sU (sU (sU (sU (sU (sU (sU (sU (sU (sU (sU (sU (sU u 0 3 (0 : Int32)) 0 4 (4 : Int32)) 0 5 (0 : Int32)) 0 6 (0 : Int32)) 0 7 (0 : Int32)) 0 8 (0 : Int32)) 0 9 (0 : Int32)) 0 10 (0 : Int32)) 0 11 (0 : Int32)) 0 12 (0 : Int32)) 0 13 (-1 : Int32)) 0 14 (0 : Int32)) 0 15 (0 : Int32)) 0 16 (0 : Int32))) H := hP
        have hD : va_D A (wMD h cA (sU (sU (sU (sU (sU (sU (sU (sU (sU (sU (sU (sU (sU (sU u 0 3 (0 : Int32)) 0 4 (4 : Int32)) 0 5 (0 : Int32)) 0 6 (0 : Int32)) 0 7 (0 : Int32)) 0 8 (0 : Int32)) 0 9 (0 : Int32)) 0 10 (0 : Int32)) 0 11 (0 : Int32)) 0 12 (0 : Int32)) 0 13 (-1 : Int32)) 0 14 (0 : Int32)) 0 15 (0 : Int32)) 0 16 (0 : Int32))) := hD
        exact my_rv (u' := sU (sU (sU (sU (sU (sU (sU (sU (sU (sU (sU (sU (sU (sU u 0 3 (0 : Int32)) 0 4 (4 : Int32)) 0 5 (0 : Int32)) 0 6 (0 : Int32)) 0 7 (0 : Int32)) 0 8 (0 : Int32)) 0 9 (0 : Int32)) 0 10 (0 : Int32)) 0 11 (0 : Int32)) 0 12 (0 : Int32)) 0 13 (-1 : Int32)) 0 14 (0 : Int32)) 0 15 (0 : Int32)) 0 16 (0 : Int32)) hx hb hr hlocks hK hP hD hS (Option.some.inj hw) nd_D_reset_96
      have hw := (if_neg h10).symm.trans hw
      refine lv_aload_n hx hb nd_D_reset_13 rfl (lv_at hl 0 rfl) ?_
      refine va_get (D := D) (ci := 5) (v := .ref (h 2)) (C := nR_D) (T := nT_D) (N := 28) hx hb hts nu_D hown hK hP 0 rfl rfl 2 (by decide) (hts _ gw_416) (fun _ h9 => h9) rfl nd_D_reset_14 ?_
      refine lv_iload_n hx hb nd_D_reset_17 rfl (lv_at hl 1 rfl) ?_
      refine lv_iconst (v := (0 : Int32)) hx hb nd_D_reset_18 (by decide) ?_
      obtain ⟨hi19, hw⟩ := inb_i hw
      refine st_MD2 hx hb hK hP hD hS hi19 nd_D_reset_19 (fun H locs hP hD hS => ?_)
      have hP : va_P D vwCl (wMD h cA (sU u 2 x1.toNatClampNeg (0 : Int32))) H := hP
      have hD : va_D A (wMD h cA (sU u 2 x1.toNatClampNeg (0 : Int32))) := hD
      refine lv_iinc (k := 1) (v := x1 + (1 : Int32)) (lv' := [(1, .int (x1 + (1 : Int32))), (0, .ref (h 0))]) hx hb nd_D_reset_20 hl rfl rfl (by decide) rfl (fun ls hl => ?_)
      refine lv_goto (tgt := 7) hx hb nd_D_reset_23 (by decide) ?_
      exact ih (x1 + (1 : Int32)) (sU u 2 x1.toNatClampNeg (0 : Int32)) H locs ls hP hD hS (lv_sub hl [1, 0] rfl) hw
  unfold f_D_reset at hw
  refine lv_aload_n hx hb nd_D_reset_0 rfl (lv_at hl 0 rfl) ?_
  refine lv_iconst (v := (0 : Int32)) hx hb nd_D_reset_1 (by decide) ?_
  refine va_put (D := D) (ci := 5) (v := .int (0 : Int32)) (ty := .int) (C := nR_D) (T := nT_D) (N := 28) hx hb hts nu_D nt_D nto_D nn_D hown hK hP hD hS 0 rfl rfl 0 (by decide) (hts _ gw_414) (fun _ h9 => h9) rfl (by decide +kernel) rfl rfl (Nat.le_of_ble_eq_true rfl) nd_D_reset_2 (fun H locs hP hD hS => ?_)
  have hP : va_P D vwCl (wMD h cA (sU u 0 0 (0 : Int32))) H := hP
  have hD : va_D A (wMD h cA (sU u 0 0 (0 : Int32))) := hD
  refine lv_iconst (v := (0 : Int32)) hx hb nd_D_reset_5 (by decide) ?_
  refine lv_istore_n (lv' := [(1, .int (0 : Int32)), (0, .ref (h 0))]) hx hb nd_D_reset_6 rfl hl (by decide) rfl (fun ls hl => ?_)
  exact J7 fuel (0 : Int32) (sU u 0 0 (0 : Int32)) H locs ls hP hD hS (lv_sub hl [1, 0] rfl) hw
set_option maxHeartbeats 4000000 in
set_option maxRecDepth 100000 in
theorem c_D_load (l : Launch) (D : va_G) (h : Nat → Nat) (cA : Nat → ClassId) (u : St) (a1 : Int32) (a2 : Int32) (F : Int32) (hw : f_D_load a1 a2 u = some F) : MI nwS vwCl l ny_D_load nw_D_load ({ frames := 0, cells := 0, slots := 0, locals := 0 }) D (tyI cA) (wMD h cA) ([.ref (h 0), .int a1, .int a2] : List Value) u (F, u) := by
  refine my_in (gw := GW) (cc := nc_D_load) (maxL := 5) (ret := (some .int)) (Qc := fun A => QI vwCl D (tyI cA) (wMD h cA) (F, u) A) (by decide) rfl (Nat.le_of_ble_eq_true rfl) ?_
  intro p e s m below meth c A H locs ls hx hb hml hr hts hown hlocks hK hN hA hP hD hS hl
  have hown : s.vm.findClass nR_D = some m.cls := hown
  have hl : lv_has ls 5 [(0, .ref (h 0)), (1, .int a1), (2, .int a2)] := hl
  have J5 : ∀ (n : Nat) (x1 : Int32) (x2 : Int32) (x3 : Int32) (x4 : Int32) (H : Heap) (locs : List Loc) (ls : Array Slot), va_P D vwCl (wMD h cA u) H → va_D A (wMD h cA u) → va_S A s.heap H locs → lv_has ls 5 [(0, .ref (h 0)), (1, .int x1), (2, .int x2), (3, .int x3), (4, .int x4)] → f_D_load_b5 n x1 x2 x3 x4 u = some F →
      W p l e (headSpec nw_D_load ({ frames := 0, cells := 0, slots := 0, locals := 0 })).room s m ([.ref (h 0), .int a1, .int a2] : List Value).toArray below meth c H locs 0 0 (MQ below (QI vwCl D (tyI cA) (wMD h cA) (F, u) A) ([.ref (h 0), .int a1, .int a2] : List Value).toArray s 0 0 A) (F0 m 5 ls []) := by
    intro n
    induction n with
    | zero =>
      intro x1 x2 x3 x4 H locs ls hP hD hS hl hw
      have hw : none = some F := hw
      cases hw
    | succ n ih =>
      intro x1 x2 x3 x4 H locs ls hP hD hS hl hw
      have hw := (f_D_load_b5_s n x1 x2 x3 x4 u).symm.trans hw
      refine lv_iload hx hb nd_D_load_5 (lv_at hl 4 rfl) ?_
      refine lv_iload_n hx hb nd_D_load_7 rfl (lv_at hl 2 rfl) ?_
      refine lv_icmp_ge (tgt := 32) hx hb nd_D_load_8 (by decide) (fun h8 => ?_) (fun h8 => ?_)
      · have hw := (if_pos h8).symm.trans hw
        refine lv_iload_n hx hb nd_D_load_32 rfl (lv_at hl 3 rfl) ?_
        exact my_ri (u' := u) (v := x3) hx hb hr hlocks hK hP hD hS (congrArg (fun z9 => (z9, u)) (Option.some.inj hw)) nd_D_load_33
      have hw := (if_neg h8).symm.trans hw
      refine lv_iload_n hx hb nd_D_load_11 rfl (lv_at hl 3 rfl) ?_
      refine lv_bipush (v := (8 : Int32)) hx hb nd_D_load_12 (by decide) ?_
      refine lv_ishl hx hb nd_D_load_14 ?_
      refine lv_aload_n hx hb nd_D_load_15 rfl (lv_at hl 0 rfl) ?_
      refine va_get (D := D) (ci := 5) (v := .ref (h 1)) (C := nR_D) (T := nT_D) (N := 28) hx hb hts nu_D hown hK hP 0 rfl rfl 1 (by decide) (hts _ gw_415) (fun _ h9 => h9) rfl nd_D_load_16 ?_
      refine lv_iload_n hx hb nd_D_load_19 rfl (lv_at hl 1 rfl) ?_
      refine lv_iload hx hb nd_D_load_20 (lv_at hl 4 rfl) ?_
      refine lv_iadd hx hb nd_D_load_22 ?_
      obtain ⟨hi23, hw⟩ := inb_i hw
      refine va_iald hx hb hK hP 1 0 rfl rfl hi23 nd_D_load_23 ?_
      refine lv_ior hx hb nd_D_load_24 ?_
      refine lv_istore_n (lv' := [(3, .int ((x3 <<< ((8 : Int32) &&& 31)) ||| ((u 1) (x1 + x4).toNatClampNeg))), (0, .ref (h 0)), (1, .int x1), (2, .int x2), (4, .int x4)]) hx hb nd_D_load_25 rfl hl (by decide) rfl (fun ls hl => ?_)
      refine lv_iinc (k := 4) (v := x4 + (1 : Int32)) (lv' := [(4, .int (x4 + (1 : Int32))), (3, .int ((x3 <<< ((8 : Int32) &&& 31)) ||| ((u 1) (x1 + x4).toNatClampNeg))), (0, .ref (h 0)), (1, .int x1), (2, .int x2)]) hx hb nd_D_load_26 hl rfl rfl (by decide) rfl (fun ls hl => ?_)
      refine lv_goto (tgt := 5) hx hb nd_D_load_29 (by decide) ?_
      exact ih x1 x2 ((x3 <<< ((8 : Int32) &&& 31)) ||| ((u 1) (x1 + x4).toNatClampNeg)) (x4 + (1 : Int32)) H locs ls hP hD hS (lv_sub hl [2, 3, 4, 1, 0] rfl) hw
  unfold f_D_load at hw
  refine lv_iconst (v := (0 : Int32)) hx hb nd_D_load_0 (by decide) ?_
  refine lv_istore_n (lv' := [(3, .int (0 : Int32)), (0, .ref (h 0)), (1, .int a1), (2, .int a2)]) hx hb nd_D_load_1 rfl hl (by decide) rfl (fun ls hl => ?_)
  refine lv_iconst (v := (0 : Int32)) hx hb nd_D_load_2 (by decide) ?_
  refine lv_istore (lv' := [(4, .int (0 : Int32)), (3, .int (0 : Int32)), (0, .ref (h 0)), (1, .int a1), (2, .int a2)]) hx hb nd_D_load_3 hl (by decide) rfl (fun ls hl => ?_)
  exact J5 fuel a1 a2 (0 : Int32) (0 : Int32) H locs ls hP hD hS (lv_sub hl [2, 3, 4, 1, 0] rfl) hw
set_option maxHeartbeats 4000000 in
set_option maxRecDepth 100000 in
theorem c_D_store (l : Launch) (D : va_G) (h : Nat → Nat) (cA : Nat → ClassId) (u : St) (a1 : Int32) (a2 : Int32) (a3 : Int32) (F : St) (hw : f_D_store a1 a2 a3 u = some F) : MV nwS vwCl l ny_D_store nw_D_store ({ frames := 0, cells := 0, slots := 0, locals := 0 }) D (tyI cA) (wMD h cA) ([.ref (h 0), .int a1, .int a2, .int a3] : List Value) u F := by
  refine my_in (gw := GW) (cc := nc_D_store) (maxL := 5) (ret := none) (Qc := fun A => QV vwCl D (tyI cA) (wMD h cA) F A) (by decide) rfl (Nat.le_of_ble_eq_true rfl) ?_
  intro p e s m below meth c A H locs ls hx hb hml hr hts hown hlocks hK hN hA hP hD hS hl
  have hown : s.vm.findClass nR_D = some m.cls := hown
  have hl : lv_has ls 5 [(0, .ref (h 0)), (1, .int a1), (2, .int a2), (3, .int a3)] := hl
  have J3 : ∀ (n : Nat) (x1 : Int32) (x2 : Int32) (x3 : Int32) (x4 : Int32) (u : St) (H : Heap) (locs : List Loc) (ls : Array Slot), va_P D vwCl (wMD h cA u) H → va_D A (wMD h cA u) → va_S A s.heap H locs → lv_has ls 5 [(0, .ref (h 0)), (1, .int x1), (2, .int x2), (3, .int x3), (4, .int x4)] → f_D_store_b3 n x1 x2 x3 x4 u = some F →
      W p l e (headSpec nw_D_store ({ frames := 0, cells := 0, slots := 0, locals := 0 })).room s m ([.ref (h 0), .int a1, .int a2, .int a3] : List Value).toArray below meth c H locs 0 0 (MQ below (QV vwCl D (tyI cA) (wMD h cA) F A) ([.ref (h 0), .int a1, .int a2, .int a3] : List Value).toArray s 0 0 A) (F0 m 3 ls []) := by
    intro n
    induction n with
    | zero =>
      intro x1 x2 x3 x4 u H locs ls hP hD hS hl hw
      have hw : none = some F := hw
      cases hw
    | succ n ih =>
      intro x1 x2 x3 x4 u H locs ls hP hD hS hl hw
      have hw := (f_D_store_b3_s n x1 x2 x3 x4 u).symm.trans hw
      refine lv_iload hx hb nd_D_store_3 (lv_at hl 4 rfl) ?_
      refine lv_iload_n hx hb nd_D_store_5 rfl (lv_at hl 2 rfl) ?_
      refine lv_icmp_ge (tgt := 39) hx hb nd_D_store_6 (by decide) (fun h6 => ?_) (fun h6 => ?_)
      · have hw := (if_pos h6).symm.trans hw
        exact my_rv (u' := u) hx hb hr hlocks hK hP hD hS (Option.some.inj hw) nd_D_store_39
      have hw := (if_neg h6).symm.trans hw
      refine lv_aload_n hx hb nd_D_store_9 rfl (lv_at hl 0 rfl) ?_
      refine va_get (D := D) (ci := 5) (v := .ref (h 1)) (C := nR_D) (T := nT_D) (N := 28) hx hb hts nu_D hown hK hP 0 rfl rfl 1 (by decide) (hts _ gw_415) (fun _ h9 => h9) rfl nd_D_store_10 ?_
      refine lv_iload_n hx hb nd_D_store_13 rfl (lv_at hl 1 rfl) ?_
      refine lv_iload hx hb nd_D_store_14 (lv_at hl 4 rfl) ?_
      refine lv_iadd hx hb nd_D_store_16 ?_
      refine lv_iload_n hx hb nd_D_store_17 rfl (lv_at hl 3 rfl) ?_
      refine lv_bipush (v := (8 : Int32)) hx hb nd_D_store_18 (by decide) ?_
      refine lv_iload_n hx hb nd_D_store_20 rfl (lv_at hl 2 rfl) ?_
      refine lv_iconst (v := (1 : Int32)) hx hb nd_D_store_21 (by decide) ?_
      refine lv_isub hx hb nd_D_store_22 ?_
      refine lv_iload hx hb nd_D_store_23 (lv_at hl 4 rfl) ?_
      refine lv_isub hx hb nd_D_store_25 ?_
      refine lv_imul hx hb nd_D_store_26 ?_
      refine lv_ishr hx hb nd_D_store_27 ?_
      refine lv_sipush (v := (255 : Int32)) hx hb nd_D_store_28 (by decide) ?_
      refine lv_iand hx hb nd_D_store_31 ?_
      obtain ⟨hi32, hw⟩ := inb_i hw
      refine st_MD1 hx hb hK hP hD hS hi32 nd_D_store_32 (fun H locs hP hD hS => ?_)
      have hP : va_P D vwCl (wMD h cA (sU u 1 ((x1 + x4).toNatClampNeg) ((x3 >>> (((8 : Int32) * ((x2 - (1 : Int32)) - x4)) &&& 31)) &&& (255 : Int32)))) H := hP
      have hD : va_D A (wMD h cA (sU u 1 ((x1 + x4).toNatClampNeg) ((x3 >>> (((8 : Int32) * ((x2 - (1 : Int32)) - x4)) &&& 31)) &&& (255 : Int32)))) := hD
      refine lv_iinc (k := 4) (v := x4 + (1 : Int32)) (lv' := [(4, .int (x4 + (1 : Int32))), (0, .ref (h 0)), (1, .int x1), (2, .int x2), (3, .int x3)]) hx hb nd_D_store_33 hl rfl rfl (by decide) rfl (fun ls hl => ?_)
      refine lv_goto (tgt := 3) hx hb nd_D_store_36 (by decide) ?_
      exact ih x1 x2 x3 (x4 + (1 : Int32)) (sU u 1 ((x1 + x4).toNatClampNeg) ((x3 >>> (((8 : Int32) * ((x2 - (1 : Int32)) - x4)) &&& 31)) &&& (255 : Int32))) H locs ls hP hD hS (lv_sub hl [1, 2, 3, 4, 0] rfl) hw
  unfold f_D_store at hw
  refine lv_iconst (v := (0 : Int32)) hx hb nd_D_store_0 (by decide) ?_
  refine lv_istore (lv' := [(4, .int (0 : Int32)), (0, .ref (h 0)), (1, .int a1), (2, .int a2), (3, .int a3)]) hx hb nd_D_store_1 hl (by decide) rfl (fun ls hl => ?_)
  exact J3 fuel a1 a2 a3 (0 : Int32) u H locs ls hP hD hS (lv_sub hl [1, 2, 3, 4, 0] rfl) hw
set_option maxHeartbeats 4000000 in
set_option maxRecDepth 100000 in
theorem c_D_isWord (l : Launch) (a1 : Int32) (F : Int32) (hw : f_D_isWord a1 = F) : MP l ny_D_isWord nw_D_isWord ({ frames := 0, cells := 0, slots := 0, locals := 0 }) ([.int a1] : List Value) (zb F) := by
  unfold MP
  refine my_inP (gw := GW) (cc := nc_D_isWord) (maxL := 1) (ret := (some .boolean)) (by decide) rfl (Nat.le_of_ble_eq_true rfl) ?_
  intro p e s m below meth c H locs ls hx hb hml hr hts hown hlocks hS hl
  have hown : s.vm.findClass nR_D = some m.cls := hown
  have hl : lv_has ls 1 [(0, .int a1)] := hl
  unfold f_D_isWord at hw
  refine lv_iload_n hx hb nd_D_isWord_0 rfl (lv_at hl 0 rfl) ?_
  refine lv_if_lt (tgt := 21) hx hb nd_D_isWord_1 (by decide) (fun h1 => ?_) (fun h1 => ?_)
  · have hw := (if_pos h1).symm.trans hw
    refine lv_iconst (v := (0 : Int32)) hx hb nd_D_isWord_21 (by decide) ?_
    exact my_rpz hx hb hr hlocks hS hw rfl nd_D_isWord_22
  have hw := (if_neg h1).symm.trans hw
  refine lv_iload_n hx hb nd_D_isWord_4 rfl (lv_at hl 0 rfl) ?_
  refine lv_sipush (v := (4092 : Int32)) hx hb nd_D_isWord_5 (by decide) ?_
  refine lv_icmp_gt (tgt := 21) hx hb nd_D_isWord_8 (by decide) (fun h8 => ?_) (fun h8 => ?_)
  · have hw := (if_pos h8).symm.trans hw
    refine lv_iconst (v := (0 : Int32)) hx hb nd_D_isWord_21 (by decide) ?_
    exact my_rpz hx hb hr hlocks hS hw rfl nd_D_isWord_22
  have hw := (if_neg h8).symm.trans hw
  refine lv_iload_n hx hb nd_D_isWord_11 rfl (lv_at hl 0 rfl) ?_
  refine lv_iconst (v := (4 : Int32)) hx hb nd_D_isWord_12 (by decide) ?_
  refine lv_irem hx hb nd_D_isWord_13 (by decide) ?_
  refine lv_if_ne (tgt := 21) hx hb nd_D_isWord_14 (by decide) (fun h14 => ?_) (fun h14 => ?_)
  · have hw := (if_neg h14).symm.trans hw
    refine lv_iconst (v := (0 : Int32)) hx hb nd_D_isWord_21 (by decide) ?_
    exact my_rpz hx hb hr hlocks hS hw rfl nd_D_isWord_22
  have hw := (if_pos h14).symm.trans hw
  refine lv_iconst (v := (1 : Int32)) hx hb nd_D_isWord_17 (by decide) ?_
  refine lv_goto (tgt := 22) hx hb nd_D_isWord_18 (by decide) ?_
  exact my_rpz hx hb hr hlocks hS hw rfl nd_D_isWord_22
set_option maxHeartbeats 4000000 in
set_option maxRecDepth 100000 in
theorem c_D_put (l : Launch) (D : va_G) (h : Nat → Nat) (cA : Nat → ClassId) (u : St) (a1 : Int32) (a2 : Int32) (F : Int32 × St) (hw : f_D_put a1 a2 u = some F) : MI nwS vwCl l ny_D_put nw_D_put ({ frames := 1, cells := 0, slots := 0, locals := 24 }) D (tyI cA) (wMD h cA) ([.ref (h 0), .int a1, .int a2] : List Value) u F := by
  refine my_in (gw := GW) (cc := nc_D_put) (maxL := 4) (ret := (some .int)) (Qc := fun A => QI vwCl D (tyI cA) (wMD h cA) F A) (by decide) rfl (Nat.le_of_ble_eq_true rfl) ?_
  intro p e s m below meth c A H locs ls hx hb hml hr hts hown hlocks hK hN hA hP hD hS hl
  have hown : s.vm.findClass nR_D = some m.cls := hown
  have hl : lv_has ls 4 [(0, .ref (h 0)), (1, .int a1), (2, .int a2)] := hl
  unfold f_D_put at hw
  refine lv_aload_n hx hb nd_D_put_0 rfl (lv_at hl 0 rfl) ?_
  refine lv_iload_n hx hb nd_D_put_1 rfl (lv_at hl 1 rfl) ?_
  refine my_cp (F := zb (f_D_isWord a1)) (va_runS (As := [.int a1]) (rest := [.ref (h 0)]) ⟨hx, hb, hml, hown, hts⟩ (c_D_isWord l a1 _ rfl) ⟨callB_of 1 hts (gw_in gw_483) rfl rfl rfl (hts _ gw_6) (hts _ gw_481) nh_D_isWord ⟨Nat.le_of_ble_eq_true rfl, Nat.le_of_ble_eq_true rfl⟩, (hts _ gw_482)⟩ my_preP rfl rfl hl.1 rfl (lv_room (Nat.le_of_ble_eq_true rfl)) nd_D_put_2 ⟨Nat.le_of_ble_eq_true rfl, Nat.le_of_ble_eq_true rfl⟩) hP hS (fun H locs hP hS => ?_)
  obtain ⟨r5, u5, hq5, hw⟩ := bnd_i hw
  refine my_ci (wd := wMD h cA) (r := zb r5) (u' := u5) (va_runV (As := [.int (zb (f_D_isWord a1))]) (rest := []) ⟨hx, hb, hml, hown, hts⟩ (c_D_goes l D h cA u (f_D_isWord a1) (r5, u5) hq5 _) ⟨callB_of 1 hts (gw_in gw_487) rfl rfl rfl (hts _ gw_6) (hts _ gw_484) nh_D_goes ⟨Nat.le_of_ble_eq_true rfl, Nat.le_of_ble_eq_true rfl⟩, (hts _ gw_486), (hts _ gw_485)⟩ (my_preV nwOk hP hK hD hN (va_recv hK hP (ci := 5) (q0 := 0) rfl rfl)) rfl rfl hl.1 rfl (lv_room (Nat.le_of_ble_eq_true rfl)) nd_D_put_5 ⟨Nat.le_of_ble_eq_true rfl, Nat.le_of_ble_eq_true rfl⟩) hD hS hA (fun H locs hP hD hS => ?_)
  refine lv_if_ne (tgt := 13) hx hb nd_D_put_8 (by decide) (fun h8 => ?_) (fun h8 => ?_)
  · have hw := (if_neg h8).symm.trans hw
    refine lv_aload_n hx hb nd_D_put_13 rfl (lv_at hl 0 rfl) ?_
    refine lv_iload_n hx hb nd_D_put_14 rfl (lv_at hl 1 rfl) ?_
    refine lv_iconst (v := (4 : Int32)) hx hb nd_D_put_15 (by decide) ?_
    obtain ⟨r16, hq16, hw⟩ := obv_i hw
    refine my_ci (wd := wMD h cA) (r := r16) (u' := u5) (va_runV (As := [.int a1, .int (4 : Int32)]) (rest := []) ⟨hx, hb, hml, hown, hts⟩ (c_D_load l D h cA u5 a1 (4 : Int32) r16 hq16 _) ⟨callB_of 2 hts (gw_in gw_491) rfl rfl rfl (hts _ gw_6) (hts _ gw_488) nh_D_load ⟨Nat.le_of_ble_eq_true rfl, Nat.le_of_ble_eq_true rfl⟩, (hts _ gw_490), (hts _ gw_489)⟩ (my_preV nwOk hP hK hD hN (va_recv hK hP (ci := 5) (q0 := 0) rfl rfl)) rfl rfl hl.1 rfl (lv_room (Nat.le_of_ble_eq_true rfl)) nd_D_put_16 ⟨Nat.le_of_ble_eq_true rfl, Nat.le_of_ble_eq_true rfl⟩) hD hS hA (fun H locs hP hD hS => ?_)
    refine lv_istore_n (lv' := [(3, .int r16), (0, .ref (h 0)), (1, .int a1), (2, .int a2)]) hx hb nd_D_put_19 rfl hl (by decide) rfl (fun ls hl => ?_)
    refine lv_aload_n hx hb nd_D_put_20 rfl (lv_at hl 1 rfl) ?_
    refine lv_iload_n hx hb nd_D_put_21 rfl (lv_at hl 2 rfl) ?_
    refine lv_iconst (v := (4 : Int32)) hx hb nd_D_put_22 (by decide) ?_
    refine lv_iload_n hx hb nd_D_put_23 rfl (lv_at hl 3 rfl) ?_
    obtain ⟨u24, hq24, hw⟩ := obv_i hw
    refine my_cv (wd := wMD h cA) (F := u24) (va_runV (As := [.int a1, .int (4 : Int32), .int a2]) (rest := []) ⟨hx, hb, hml, hown, hts⟩ (c_D_store l D h cA u5 a1 (4 : Int32) a2 u24 hq24 _) ⟨callB_of 3 hts (gw_in gw_495) rfl rfl rfl (hts _ gw_6) (hts _ gw_492) nh_D_store ⟨Nat.le_of_ble_eq_true rfl, Nat.le_of_ble_eq_true rfl⟩, (hts _ gw_494), (hts _ gw_493)⟩ (my_preV nwOk hP hK hD hN (va_recv hK hP (ci := 5) (q0 := 0) rfl rfl)) rfl rfl hl.1 rfl (lv_room (Nat.le_of_ble_eq_true rfl)) nd_D_put_24 ⟨Nat.le_of_ble_eq_true rfl, Nat.le_of_ble_eq_true rfl⟩) hD hS hA (fun H locs hP hD hS => ?_)
    refine lv_iload_n hx hb nd_D_put_27 rfl (lv_at hl 0 rfl) ?_
    exact my_ri (u' := u24) (v := r16) hx hb hr hlocks hK hP hD hS (Option.some.inj hw) nd_D_put_28
  have hw := (if_pos h8).symm.trans hw
  refine lv_iconst (v := (0 : Int32)) hx hb nd_D_put_11 (by decide) ?_
  exact my_ri (u' := u5) (v := (0 : Int32)) hx hb hr hlocks hK hP hD hS (Option.some.inj hw) nd_D_put_12
set_option maxHeartbeats 4000000 in
set_option maxRecDepth 100000 in
theorem c_D_word (l : Launch) (D : va_G) (h : Nat → Nat) (cA : Nat → ClassId) (u : St) (a1 : Int32) (F : Int32 × St) (hw : f_D_word a1 u = some F) : MI nwS vwCl l ny_D_word nw_D_word ({ frames := 1, cells := 0, slots := 0, locals := 24 }) D (tyI cA) (wMD h cA) ([.ref (h 0), .int a1] : List Value) u F := by
  refine my_in (gw := GW) (cc := nc_D_word) (maxL := 2) (ret := (some .int)) (Qc := fun A => QI vwCl D (tyI cA) (wMD h cA) F A) (by decide) rfl (Nat.le_of_ble_eq_true rfl) ?_
  intro p e s m below meth c A H locs ls hx hb hml hr hts hown hlocks hK hN hA hP hD hS hl
  have hown : s.vm.findClass nR_D = some m.cls := hown
  have hl : lv_has ls 2 [(0, .ref (h 0)), (1, .int a1)] := hl
  unfold f_D_word at hw
  refine lv_aload_n hx hb nd_D_word_0 rfl (lv_at hl 0 rfl) ?_
  refine lv_iload_n hx hb nd_D_word_1 rfl (lv_at hl 1 rfl) ?_
  refine my_cp (F := zb (f_D_isWord a1)) (va_runS (As := [.int a1]) (rest := [.ref (h 0)]) ⟨hx, hb, hml, hown, hts⟩ (c_D_isWord l a1 _ rfl) ⟨callB_of 1 hts (gw_in gw_483) rfl rfl rfl (hts _ gw_6) (hts _ gw_481) nh_D_isWord ⟨Nat.le_of_ble_eq_true rfl, Nat.le_of_ble_eq_true rfl⟩, (hts _ gw_482)⟩ my_preP rfl rfl hl.1 rfl (lv_room (Nat.le_of_ble_eq_true rfl)) nd_D_word_2 ⟨Nat.le_of_ble_eq_true rfl, Nat.le_of_ble_eq_true rfl⟩) hP hS (fun H locs hP hS => ?_)
  obtain ⟨r5, u5, hq5, hw⟩ := bnd_i hw
  refine my_ci (wd := wMD h cA) (r := zb r5) (u' := u5) (va_runV (As := [.int (zb (f_D_isWord a1))]) (rest := []) ⟨hx, hb, hml, hown, hts⟩ (c_D_goes l D h cA u (f_D_isWord a1) (r5, u5) hq5 _) ⟨callB_of 1 hts (gw_in gw_487) rfl rfl rfl (hts _ gw_6) (hts _ gw_484) nh_D_goes ⟨Nat.le_of_ble_eq_true rfl, Nat.le_of_ble_eq_true rfl⟩, (hts _ gw_486), (hts _ gw_485)⟩ (my_preV nwOk hP hK hD hN (va_recv hK hP (ci := 5) (q0 := 0) rfl rfl)) rfl rfl hl.1 rfl (lv_room (Nat.le_of_ble_eq_true rfl)) nd_D_word_5 ⟨Nat.le_of_ble_eq_true rfl, Nat.le_of_ble_eq_true rfl⟩) hD hS hA (fun H locs hP hD hS => ?_)
  refine lv_if_eq (tgt := 20) hx hb nd_D_word_8 (by decide) (fun h8 => ?_) (fun h8 => ?_)
  · have hw := (if_pos h8).symm.trans hw
    refine lv_iconst (v := (0 : Int32)) hx hb nd_D_word_20 (by decide) ?_
    exact my_ri (u' := u5) (v := (0 : Int32)) hx hb hr hlocks hK hP hD hS (Option.some.inj hw) nd_D_word_21
  have hw := (if_neg h8).symm.trans hw
  refine lv_aload_n hx hb nd_D_word_11 rfl (lv_at hl 0 rfl) ?_
  refine lv_iload_n hx hb nd_D_word_12 rfl (lv_at hl 1 rfl) ?_
  refine lv_iconst (v := (4 : Int32)) hx hb nd_D_word_13 (by decide) ?_
  obtain ⟨r14, hq14, hw⟩ := obv_i hw
  refine my_ci (wd := wMD h cA) (r := r14) (u' := u5) (va_runV (As := [.int a1, .int (4 : Int32)]) (rest := []) ⟨hx, hb, hml, hown, hts⟩ (c_D_load l D h cA u5 a1 (4 : Int32) r14 hq14 _) ⟨callB_of 2 hts (gw_in gw_491) rfl rfl rfl (hts _ gw_6) (hts _ gw_488) nh_D_load ⟨Nat.le_of_ble_eq_true rfl, Nat.le_of_ble_eq_true rfl⟩, (hts _ gw_490), (hts _ gw_489)⟩ (my_preV nwOk hP hK hD hN (va_recv hK hP (ci := 5) (q0 := 0) rfl rfl)) rfl rfl hl.1 rfl (lv_room (Nat.le_of_ble_eq_true rfl)) nd_D_word_14 ⟨Nat.le_of_ble_eq_true rfl, Nat.le_of_ble_eq_true rfl⟩) hD hS hA (fun H locs hP hD hS => ?_)
  refine lv_goto (tgt := 21) hx hb nd_D_word_17 (by decide) ?_
  exact my_ri (u' := u5) (v := r14) hx hb hr hlocks hK hP hD hS (Option.some.inj hw) nd_D_word_21
set_option maxHeartbeats 4000000 in
set_option maxRecDepth 100000 in
theorem c_D_set (l : Launch) (D : va_G) (h : Nat → Nat) (cA : Nat → ClassId) (u : St) (a1 : Int32) (a2 : Int32) (F : Int32 × St) (hw : f_D_set a1 a2 u = some F) : MI nwS vwCl l ny_D_set nw_D_set ({ frames := 1, cells := 0, slots := 0, locals := 21 }) D (tyI cA) (wMD h cA) ([.ref (h 0), .int a1, .int a2] : List Value) u F := by
  refine my_in (gw := GW) (cc := nc_D_set) (maxL := 4) (ret := (some .int)) (Qc := fun A => QI vwCl D (tyI cA) (wMD h cA) F A) (by decide) rfl (Nat.le_of_ble_eq_true rfl) ?_
  intro p e s m below meth c A H locs ls hx hb hml hr hts hown hlocks hK hN hA hP hD hS hl
  have hown : s.vm.findClass nR_D = some m.cls := hown
  have hl : lv_has ls 4 [(0, .ref (h 0)), (1, .int a1), (2, .int a2)] := hl
  have J16 : ∀ (x1 : Int32) (x2 : Int32) (y0 : Int32) (u : St) (H : Heap) (locs : List Loc) (ls : Array Slot), va_P D vwCl (wMD h cA u) H → va_D A (wMD h cA u) → va_S A s.heap H locs → lv_has ls 4 [(0, .ref (h 0)), (1, .int x1), (2, .int x2)] → f_D_set_b16 x1 x2 y0 u = some F →
      W p l e (headSpec nw_D_set ({ frames := 1, cells := 0, slots := 0, locals := 21 })).room s m ([.ref (h 0), .int a1, .int a2] : List Value).toArray below meth c H locs 0 0 (MQ below (QI vwCl D (tyI cA) (wMD h cA) F A) ([.ref (h 0), .int a1, .int a2] : List Value).toArray s 0 0 A) (F0 m 16 ls [.int (zb y0), .ref (h 0)]) := by
    intro x1 x2 y0 u H locs ls hP hD hS hl hw
    unfold f_D_set_b16 at hw
    obtain ⟨r16, u16, hq16, hw⟩ := bnd_i hw
    refine my_ci (wd := wMD h cA) (r := zb r16) (u' := u16) (va_runV (As := [.int (zb y0)]) (rest := []) ⟨hx, hb, hml, hown, hts⟩ (c_D_goes l D h cA u y0 (r16, u16) hq16 _) ⟨callB_of 1 hts (gw_in gw_487) rfl rfl rfl (hts _ gw_6) (hts _ gw_484) nh_D_goes ⟨Nat.le_of_ble_eq_true rfl, Nat.le_of_ble_eq_true rfl⟩, (hts _ gw_486), (hts _ gw_485)⟩ (my_preV nwOk hP hK hD hN (va_recv hK hP (ci := 5) (q0 := 0) rfl rfl)) rfl rfl hl.1 rfl (lv_room (Nat.le_of_ble_eq_true rfl)) nd_D_set_16 ⟨Nat.le_of_ble_eq_true rfl, Nat.le_of_ble_eq_true rfl⟩) hD hS hA (fun H locs hP hD hS => ?_)
    refine lv_if_ne (tgt := 24) hx hb nd_D_set_19 (by decide) (fun h19 => ?_) (fun h19 => ?_)
    · have hw := (if_neg h19).symm.trans hw
      refine lv_aload_n hx hb nd_D_set_24 rfl (lv_at hl 0 rfl) ?_
      refine va_get (D := D) (ci := 5) (v := .ref (h 2)) (C := nR_D) (T := nT_D) (N := 28) hx hb hts nu_D hown hK hP 0 rfl rfl 2 (by decide) (hts _ gw_416) (fun _ h9 => h9) rfl nd_D_set_25 ?_
      refine lv_iload_n hx hb nd_D_set_28 rfl (lv_at hl 1 rfl) ?_
      obtain ⟨hi29, hw⟩ := inb_i hw
      refine va_iald hx hb hK hP 2 1 rfl rfl hi29 nd_D_set_29 ?_
      refine lv_istore_n (lv' := [(3, .int ((u16 2) x1.toNatClampNeg)), (0, .ref (h 0)), (1, .int x1), (2, .int x2)]) hx hb nd_D_set_30 rfl hl (by decide) rfl (fun ls hl => ?_)
      refine lv_aload_n hx hb nd_D_set_31 rfl (lv_at hl 1 rfl) ?_
      refine va_get (D := D) (ci := 5) (v := .ref (h 2)) (C := nR_D) (T := nT_D) (N := 28) hx hb hts nu_D hown hK hP 0 rfl rfl 2 (by decide) (hts _ gw_416) (fun _ h9 => h9) rfl nd_D_set_32 ?_
      refine lv_iload_n hx hb nd_D_set_35 rfl (lv_at hl 2 rfl) ?_
      refine lv_iload_n hx hb nd_D_set_36 rfl (lv_at hl 2 rfl) ?_
      refine lv_if_ne (tgt := 44) hx hb nd_D_set_37 (by decide) (fun h37 => ?_) (fun h37 => ?_)
      · have hw := (if_neg h37).symm.trans hw
        refine lv_iload_n hx hb nd_D_set_44 rfl (lv_at hl 3 rfl) ?_
        obtain ⟨hi45, hw⟩ := inb_i hw
        refine st_MD2 hx hb hK hP hD hS hi45 nd_D_set_45 (fun H locs hP hD hS => ?_)
        have hP : va_P D vwCl (wMD h cA (sU u16 2 x1.toNatClampNeg x2)) H := hP
        have hD : va_D A (wMD h cA (sU u16 2 x1.toNatClampNeg x2)) := hD
        refine lv_iload_n hx hb nd_D_set_46 rfl (lv_at hl 0 rfl) ?_
        exact my_ri (u' := sU u16 2 x1.toNatClampNeg x2) (v := (u16 2) x1.toNatClampNeg) hx hb hr hlocks hK hP hD hS (Option.some.inj hw) nd_D_set_47
      have hw := (if_pos h37).symm.trans hw
      refine lv_iconst (v := (0 : Int32)) hx hb nd_D_set_40 (by decide) ?_
      refine lv_goto (tgt := 45) hx hb nd_D_set_41 (by decide) ?_
      obtain ⟨hi45, hw⟩ := inb_i hw
      refine st_MD2 hx hb hK hP hD hS hi45 nd_D_set_45 (fun H locs hP hD hS => ?_)
      have hP : va_P D vwCl (wMD h cA (sU u16 2 x1.toNatClampNeg (0 : Int32))) H := hP
      have hD : va_D A (wMD h cA (sU u16 2 x1.toNatClampNeg (0 : Int32))) := hD
      refine lv_iload_n hx hb nd_D_set_46 rfl (lv_at hl 0 rfl) ?_
      exact my_ri (u' := sU u16 2 x1.toNatClampNeg (0 : Int32)) (v := (u16 2) x1.toNatClampNeg) hx hb hr hlocks hK hP hD hS (Option.some.inj hw) nd_D_set_47
    have hw := (if_pos h19).symm.trans hw
    refine lv_iconst (v := (0 : Int32)) hx hb nd_D_set_22 (by decide) ?_
    exact my_ri (u' := u16) (v := (0 : Int32)) hx hb hr hlocks hK hP hD hS (Option.some.inj hw) nd_D_set_23
  have J15 : ∀ (x1 : Int32) (x2 : Int32) (u : St) (H : Heap) (locs : List Loc) (ls : Array Slot), va_P D vwCl (wMD h cA u) H → va_D A (wMD h cA u) → va_S A s.heap H locs → lv_has ls 4 [(0, .ref (h 0)), (1, .int x1), (2, .int x2)] → f_D_set_b15 x1 x2 u = some F →
      W p l e (headSpec nw_D_set ({ frames := 1, cells := 0, slots := 0, locals := 21 })).room s m ([.ref (h 0), .int a1, .int a2] : List Value).toArray below meth c H locs 0 0 (MQ below (QI vwCl D (tyI cA) (wMD h cA) F A) ([.ref (h 0), .int a1, .int a2] : List Value).toArray s 0 0 A) (F0 m 15 ls [.ref (h 0)]) := by
    intro x1 x2 u H locs ls hP hD hS hl hw
    unfold f_D_set_b15 at hw
    refine lv_iconst (v := (0 : Int32)) hx hb nd_D_set_15 (by decide) ?_
    exact J16 x1 x2 (0 : Int32) u H locs ls hP hD hS (lv_sub hl [0, 1, 2] rfl) hw
  unfold f_D_set at hw
  refine lv_aload_n hx hb nd_D_set_0 rfl (lv_at hl 0 rfl) ?_
  refine lv_iload_n hx hb nd_D_set_1 rfl (lv_at hl 1 rfl) ?_
  refine lv_if_lt (tgt := 15) hx hb nd_D_set_2 (by decide) (fun h2 => ?_) (fun h2 => ?_)
  · have hw := (if_pos h2).symm.trans hw
    exact J15 a1 a2 u H locs ls hP hD hS (lv_sub hl [0, 1, 2] rfl) hw
  have hw := (if_neg h2).symm.trans hw
  refine lv_iload_n hx hb nd_D_set_5 rfl (lv_at hl 1 rfl) ?_
  refine lv_bipush (v := (34 : Int32)) hx hb nd_D_set_6 (by decide) ?_
  refine lv_icmp_ge (tgt := 15) hx hb nd_D_set_8 (by decide) (fun h8 => ?_) (fun h8 => ?_)
  · have hw := (if_pos h8).symm.trans hw
    exact J15 a1 a2 u H locs ls hP hD hS (lv_sub hl [0, 1, 2] rfl) hw
  have hw := (if_neg h8).symm.trans hw
  refine lv_iconst (v := (1 : Int32)) hx hb nd_D_set_11 (by decide) ?_
  refine lv_goto (tgt := 16) hx hb nd_D_set_12 (by decide) ?_
  exact J16 a1 a2 (1 : Int32) u H locs ls hP hD hS (lv_sub hl [0, 1, 2] rfl) hw
set_option maxHeartbeats 4000000 in
set_option maxRecDepth 100000 in
theorem c_D_register (l : Launch) (D : va_G) (h : Nat → Nat) (cA : Nat → ClassId) (u : St) (a1 : Int32) (F : Int32 × St) (hw : f_D_register a1 u = some F) : MI nwS vwCl l ny_D_register nw_D_register ({ frames := 1, cells := 0, slots := 0, locals := 21 }) D (tyI cA) (wMD h cA) ([.ref (h 0), .int a1] : List Value) u F := by
  refine my_in (gw := GW) (cc := nc_D_register) (maxL := 2) (ret := (some .int)) (Qc := fun A => QI vwCl D (tyI cA) (wMD h cA) F A) (by decide) rfl (Nat.le_of_ble_eq_true rfl) ?_
  intro p e s m below meth c A H locs ls hx hb hml hr hts hown hlocks hK hN hA hP hD hS hl
  have hown : s.vm.findClass nR_D = some m.cls := hown
  have hl : lv_has ls 2 [(0, .ref (h 0)), (1, .int a1)] := hl
  have J16 : ∀ (x1 : Int32) (y0 : Int32) (u : St) (H : Heap) (locs : List Loc) (ls : Array Slot), va_P D vwCl (wMD h cA u) H → va_D A (wMD h cA u) → va_S A s.heap H locs → lv_has ls 2 [(0, .ref (h 0)), (1, .int x1)] → f_D_register_b16 x1 y0 u = some F →
      W p l e (headSpec nw_D_register ({ frames := 1, cells := 0, slots := 0, locals := 21 })).room s m ([.ref (h 0), .int a1] : List Value).toArray below meth c H locs 0 0 (MQ below (QI vwCl D (tyI cA) (wMD h cA) F A) ([.ref (h 0), .int a1] : List Value).toArray s 0 0 A) (F0 m 16 ls [.int (zb y0), .ref (h 0)]) := by
    intro x1 y0 u H locs ls hP hD hS hl hw
    unfold f_D_register_b16 at hw
    obtain ⟨r16, u16, hq16, hw⟩ := bnd_i hw
    refine my_ci (wd := wMD h cA) (r := zb r16) (u' := u16) (va_runV (As := [.int (zb y0)]) (rest := []) ⟨hx, hb, hml, hown, hts⟩ (c_D_goes l D h cA u y0 (r16, u16) hq16 _) ⟨callB_of 1 hts (gw_in gw_487) rfl rfl rfl (hts _ gw_6) (hts _ gw_484) nh_D_goes ⟨Nat.le_of_ble_eq_true rfl, Nat.le_of_ble_eq_true rfl⟩, (hts _ gw_486), (hts _ gw_485)⟩ (my_preV nwOk hP hK hD hN (va_recv hK hP (ci := 5) (q0 := 0) rfl rfl)) rfl rfl hl.1 rfl (lv_room (Nat.le_of_ble_eq_true rfl)) nd_D_register_16 ⟨Nat.le_of_ble_eq_true rfl, Nat.le_of_ble_eq_true rfl⟩) hD hS hA (fun H locs hP hD hS => ?_)
    refine lv_if_eq (tgt := 31) hx hb nd_D_register_19 (by decide) (fun h19 => ?_) (fun h19 => ?_)
    · have hw := (if_pos h19).symm.trans hw
      refine lv_iconst (v := (0 : Int32)) hx hb nd_D_register_31 (by decide) ?_
      exact my_ri (u' := u16) (v := (0 : Int32)) hx hb hr hlocks hK hP hD hS (Option.some.inj hw) nd_D_register_32
    have hw := (if_neg h19).symm.trans hw
    refine lv_aload_n hx hb nd_D_register_22 rfl (lv_at hl 0 rfl) ?_
    refine va_get (D := D) (ci := 5) (v := .ref (h 2)) (C := nR_D) (T := nT_D) (N := 28) hx hb hts nu_D hown hK hP 0 rfl rfl 2 (by decide) (hts _ gw_416) (fun _ h9 => h9) rfl nd_D_register_23 ?_
    refine lv_iload_n hx hb nd_D_register_26 rfl (lv_at hl 1 rfl) ?_
    obtain ⟨hi27, hw⟩ := inb_i hw
    refine va_iald hx hb hK hP 2 1 rfl rfl hi27 nd_D_register_27 ?_
    refine lv_goto (tgt := 32) hx hb nd_D_register_28 (by decide) ?_
    exact my_ri (u' := u16) (v := (u16 2) x1.toNatClampNeg) hx hb hr hlocks hK hP hD hS (Option.some.inj hw) nd_D_register_32
  have J15 : ∀ (x1 : Int32) (u : St) (H : Heap) (locs : List Loc) (ls : Array Slot), va_P D vwCl (wMD h cA u) H → va_D A (wMD h cA u) → va_S A s.heap H locs → lv_has ls 2 [(0, .ref (h 0)), (1, .int x1)] → f_D_register_b15 x1 u = some F →
      W p l e (headSpec nw_D_register ({ frames := 1, cells := 0, slots := 0, locals := 21 })).room s m ([.ref (h 0), .int a1] : List Value).toArray below meth c H locs 0 0 (MQ below (QI vwCl D (tyI cA) (wMD h cA) F A) ([.ref (h 0), .int a1] : List Value).toArray s 0 0 A) (F0 m 15 ls [.ref (h 0)]) := by
    intro x1 u H locs ls hP hD hS hl hw
    unfold f_D_register_b15 at hw
    refine lv_iconst (v := (0 : Int32)) hx hb nd_D_register_15 (by decide) ?_
    exact J16 x1 (0 : Int32) u H locs ls hP hD hS (lv_sub hl [0, 1] rfl) hw
  unfold f_D_register at hw
  refine lv_aload_n hx hb nd_D_register_0 rfl (lv_at hl 0 rfl) ?_
  refine lv_iload_n hx hb nd_D_register_1 rfl (lv_at hl 1 rfl) ?_
  refine lv_if_lt (tgt := 15) hx hb nd_D_register_2 (by decide) (fun h2 => ?_) (fun h2 => ?_)
  · have hw := (if_pos h2).symm.trans hw
    exact J15 a1 u H locs ls hP hD hS (lv_sub hl [0, 1] rfl) hw
  have hw := (if_neg h2).symm.trans hw
  refine lv_iload_n hx hb nd_D_register_5 rfl (lv_at hl 1 rfl) ?_
  refine lv_bipush (v := (34 : Int32)) hx hb nd_D_register_6 (by decide) ?_
  refine lv_icmp_ge (tgt := 15) hx hb nd_D_register_8 (by decide) (fun h8 => ?_) (fun h8 => ?_)
  · have hw := (if_pos h8).symm.trans hw
    exact J15 a1 u H locs ls hP hD hS (lv_sub hl [0, 1] rfl) hw
  have hw := (if_neg h8).symm.trans hw
  refine lv_iconst (v := (1 : Int32)) hx hb nd_D_register_11 (by decide) ?_
  refine lv_goto (tgt := 16) hx hb nd_D_register_12 (by decide) ?_
  exact J16 a1 (1 : Int32) u H locs ls hP hD hS (lv_sub hl [0, 1] rfl) hw
set_option maxHeartbeats 4000000 in
set_option maxRecDepth 100000 in
theorem c_D_go (l : Launch) (D : va_G) (h : Nat → Nat) (cA : Nat → ClassId) (u : St) (a1 : Int32) (F : Int32 × St) (hw : f_D_go a1 u = F) : MI nwS vwCl l ny_D_go nw_D_go ({ frames := 0, cells := 0, slots := 0, locals := 0 }) D (tyI cA) (wMD h cA) ([.ref (h 0), .int a1] : List Value) u F := by
  refine my_in (gw := GW) (cc := nc_D_go) (maxL := 3) (ret := (some .int)) (Qc := fun A => QI vwCl D (tyI cA) (wMD h cA) F A) (by decide) rfl (Nat.le_of_ble_eq_true rfl) ?_
  intro p e s m below meth c A H locs ls hx hb hml hr hts hown hlocks hK hN hA hP hD hS hl
  have hown : s.vm.findClass nR_D = some m.cls := hown
  have hl : lv_has ls 3 [(0, .ref (h 0)), (1, .int a1)] := hl
  unfold f_D_go at hw
  refine lv_aload_n hx hb nd_D_go_0 rfl (lv_at hl 0 rfl) ?_
  refine lv_iconst (v := (0 : Int32)) hx hb nd_D_go_1 (by decide) ?_
  refine va_put (D := D) (ci := 5) (v := .int (0 : Int32)) (ty := .int) (C := nR_D) (T := nT_D) (N := 28) hx hb hts nu_D nt_D nto_D nn_D hown hK hP hD hS 0 rfl rfl 0 (by decide) (hts _ gw_414) (fun _ h9 => h9) rfl (by decide +kernel) rfl rfl (Nat.le_of_ble_eq_true rfl) nd_D_go_2 (fun H locs hP hD hS => ?_)
  have hP : va_P D vwCl (wMD h cA (sU u 0 0 (0 : Int32))) H := hP
  have hD : va_D A (wMD h cA (sU u 0 0 (0 : Int32))) := hD
  refine lv_aload_n hx hb nd_D_go_5 rfl (lv_at hl 0 rfl) ?_
  refine va_get (D := D) (ci := 5) (v := .int (u 0 3)) (C := nR_D) (T := nT_D) (N := 28) hx hb hts nu_D hown hK hP 0 rfl rfl 3 (by decide) (hts _ gw_417) (fun _ h9 => h9) rfl nd_D_go_6 ?_
  refine lv_istore_n (lv' := [(2, .int (u 0 3)), (0, .ref (h 0)), (1, .int a1)]) hx hb nd_D_go_9 rfl hl (by decide) rfl (fun ls hl => ?_)
  refine lv_aload_n hx hb nd_D_go_10 rfl (lv_at hl 1 rfl) ?_
  refine lv_iload_n hx hb nd_D_go_11 rfl (lv_at hl 2 rfl) ?_
  refine va_put (D := D) (ci := 5) (v := .int a1) (ty := .int) (C := nR_D) (T := nT_D) (N := 28) hx hb hts nu_D nt_D nto_D nn_D hown hK hP hD hS 0 rfl rfl 3 (by decide) (hts _ gw_417) (fun _ h9 => h9) rfl (by decide +kernel) rfl rfl (Nat.le_of_ble_eq_true rfl) nd_D_go_12 (fun H locs hP hD hS => ?_)
  have hP : va_P D vwCl (wMD h cA (sU (sU u 0 0 (0 : Int32)) 0 3 a1)) H := hP
  have hD : va_D A (wMD h cA (sU (sU u 0 0 (0 : Int32)) 0 3 a1)) := hD
  refine lv_aload_n hx hb nd_D_go_15 rfl (lv_at hl 1 rfl) ?_
  refine lv_iload_n hx hb nd_D_go_16 rfl (lv_at hl 2 rfl) ?_
  refine lv_iconst (v := (4 : Int32)) hx hb nd_D_go_17 (by decide) ?_
  refine lv_iadd hx hb nd_D_go_18 ?_
  refine va_put (D := D) (ci := 5) (v := .int (a1 + (4 : Int32))) (ty := .int) (C := nR_D) (T := nT_D) (N := 28) hx hb hts nu_D nt_D nto_D nn_D hown hK hP hD hS 0 rfl rfl 4 (by decide) (hts _ gw_418) (fun _ h9 => h9) rfl (by decide +kernel) rfl rfl (Nat.le_of_ble_eq_true rfl) nd_D_go_19 (fun H locs hP hD hS => ?_)
  have hP : va_P D vwCl (wMD h cA (sU (sU (sU u 0 0 (0 : Int32)) 0 3 a1) 0 4 (a1 + (4 : Int32)))) H := hP
  have hD : va_D A (wMD h cA (sU (sU (sU u 0 0 (0 : Int32)) 0 3 a1) 0 4 (a1 + (4 : Int32)))) := hD
  refine lv_aload_n hx hb nd_D_go_22 rfl (lv_at hl 1 rfl) ?_
  refine lv_iconst (v := (0 : Int32)) hx hb nd_D_go_23 (by decide) ?_
  refine va_put (D := D) (ci := 5) (v := .int (zb (0 : Int32))) (ty := .boolean) (C := nR_D) (T := nT_D) (N := 28) hx hb hts nu_D nt_D nto_D nn_D hown hK hP hD hS 0 rfl rfl 12 (by decide) (hts _ gw_426) (fun _ h9 => h9) rfl (by decide +kernel) (zb_n _) (zb_f _) (Nat.le_of_ble_eq_true rfl) nd_D_go_24 (fun H locs hP hD hS => ?_)
  have hP : va_P D vwCl (wMD h cA (sU (sU (sU (sU u 0 0 (0 : Int32)) 0 3 a1) 0 4 (a1 + (4 : Int32))) 0 12 (0 : Int32))) H := hP
  have hD : va_D A (wMD h cA (sU (sU (sU (sU u 0 0 (0 : Int32)) 0 3 a1) 0 4 (a1 + (4 : Int32))) 0 12 (0 : Int32))) := hD
  refine lv_aload_n hx hb nd_D_go_27 rfl (lv_at hl 1 rfl) ?_
  refine lv_iconst (v := (-1 : Int32)) hx hb nd_D_go_28 (by decide) ?_
  refine va_put (D := D) (ci := 5) (v := .int (-1 : Int32)) (ty := .int) (C := nR_D) (T := nT_D) (N := 28) hx hb hts nu_D nt_D nto_D nn_D hown hK hP hD hS 0 rfl rfl 13 (by decide) (hts _ gw_427) (fun _ h9 => h9) rfl (by decide +kernel) rfl rfl (Nat.le_of_ble_eq_true rfl) nd_D_go_29 (fun H locs hP hD hS => ?_)
  have hP : va_P D vwCl (wMD h cA (sU (sU (sU (sU (sU u 0 0 (0 : Int32)) 0 3 a1) 0 4 (a1 + (4 : Int32))) 0 12 (0 : Int32)) 0 13 (-1 : Int32))) H := hP
  have hD : va_D A (wMD h cA (sU (sU (sU (sU (sU u 0 0 (0 : Int32)) 0 3 a1) 0 4 (a1 + (4 : Int32))) 0 12 (0 : Int32)) 0 13 (-1 : Int32))) := hD
  refine lv_aload_n hx hb nd_D_go_32 rfl (lv_at hl 1 rfl) ?_
  refine lv_iconst (v := (0 : Int32)) hx hb nd_D_go_33 (by decide) ?_
  refine va_put (D := D) (ci := 5) (v := .int (0 : Int32)) (ty := .int) (C := nR_D) (T := nT_D) (N := 28) hx hb hts nu_D nt_D nto_D nn_D hown hK hP hD hS 0 rfl rfl 14 (by decide) (hts _ gw_428) (fun _ h9 => h9) rfl (by decide +kernel) rfl rfl (Nat.le_of_ble_eq_true rfl) nd_D_go_34 (fun H locs hP hD hS => ?_)
  have hP : va_P D vwCl (wMD h cA (sU (sU (sU (sU (sU (sU u 0 0 (0 : Int32)) 0 3 a1) 0 4 (a1 + (4 : Int32))) 0 12 (0 : Int32)) 0 13 (-1 : Int32)) 0 14 (0 : Int32))) H := hP
  have hD : va_D A (wMD h cA (sU (sU (sU (sU (sU (sU u 0 0 (0 : Int32)) 0 3 a1) 0 4 (a1 + (4 : Int32))) 0 12 (0 : Int32)) 0 13 (-1 : Int32)) 0 14 (0 : Int32))) := hD
  refine lv_iload_n hx hb nd_D_go_37 rfl (lv_at hl 0 rfl) ?_
  exact my_ri (u' := sU (sU (sU (sU (sU (sU u 0 0 (0 : Int32)) 0 3 a1) 0 4 (a1 + (4 : Int32))) 0 12 (0 : Int32)) 0 13 (-1 : Int32)) 0 14 (0 : Int32)) (v := u 0 3) hx hb hr hlocks hK hP hD hS hw nd_D_go_38
set_option maxHeartbeats 4000000 in
set_option maxRecDepth 100000 in
theorem c_D_status (l : Launch) (D : va_G) (h : Nat → Nat) (cA : Nat → ClassId) (u : St) (a1 : Int32) (F : Int32 × St) (hw : f_D_status a1 u = F) : MI nwS vwCl l ny_D_status nw_D_status ({ frames := 0, cells := 0, slots := 0, locals := 0 }) D (tyI cA) (wMD h cA) ([.ref (h 0), .int a1] : List Value) u F := by
  refine my_in (gw := GW) (cc := nc_D_status) (maxL := 3) (ret := (some .int)) (Qc := fun A => QI vwCl D (tyI cA) (wMD h cA) F A) (by decide) rfl (Nat.le_of_ble_eq_true rfl) ?_
  intro p e s m below meth c A H locs ls hx hb hml hr hts hown hlocks hK hN hA hP hD hS hl
  have hown : s.vm.findClass nR_D = some m.cls := hown
  have hl : lv_has ls 3 [(0, .ref (h 0)), (1, .int a1)] := hl
  unfold f_D_status at hw
  refine lv_aload_n hx hb nd_D_status_0 rfl (lv_at hl 0 rfl) ?_
  refine lv_iconst (v := (0 : Int32)) hx hb nd_D_status_1 (by decide) ?_
  refine va_put (D := D) (ci := 5) (v := .int (0 : Int32)) (ty := .int) (C := nR_D) (T := nT_D) (N := 28) hx hb hts nu_D nt_D nto_D nn_D hown hK hP hD hS 0 rfl rfl 0 (by decide) (hts _ gw_414) (fun _ h9 => h9) rfl (by decide +kernel) rfl rfl (Nat.le_of_ble_eq_true rfl) nd_D_status_2 (fun H locs hP hD hS => ?_)
  have hP : va_P D vwCl (wMD h cA (sU u 0 0 (0 : Int32))) H := hP
  have hD : va_D A (wMD h cA (sU u 0 0 (0 : Int32))) := hD
  refine lv_aload_n hx hb nd_D_status_5 rfl (lv_at hl 0 rfl) ?_
  refine va_get (D := D) (ci := 5) (v := .int (u 0 5)) (C := nR_D) (T := nT_D) (N := 28) hx hb hts nu_D hown hK hP 0 rfl rfl 5 (by decide) (hts _ gw_419) (fun _ h9 => h9) rfl nd_D_status_6 ?_
  refine lv_istore_n (lv' := [(2, .int (u 0 5)), (0, .ref (h 0)), (1, .int a1)]) hx hb nd_D_status_9 rfl hl (by decide) rfl (fun ls hl => ?_)
  refine lv_aload_n hx hb nd_D_status_10 rfl (lv_at hl 1 rfl) ?_
  refine lv_iload_n hx hb nd_D_status_11 rfl (lv_at hl 2 rfl) ?_
  refine lv_ldc (own := nR_D) (v := (65343 : Int32)) hx hb hown (hts _ gw_516) nd_D_status_12 ?_
  refine lv_iand hx hb nd_D_status_14 ?_
  refine va_put (D := D) (ci := 5) (v := .int (a1 &&& (65343 : Int32))) (ty := .int) (C := nR_D) (T := nT_D) (N := 28) hx hb hts nu_D nt_D nto_D nn_D hown hK hP hD hS 0 rfl rfl 5 (by decide) (hts _ gw_419) (fun _ h9 => h9) rfl (by decide +kernel) rfl rfl (Nat.le_of_ble_eq_true rfl) nd_D_status_15 (fun H locs hP hD hS => ?_)
  have hP : va_P D vwCl (wMD h cA (sU (sU u 0 0 (0 : Int32)) 0 5 (a1 &&& (65343 : Int32)))) H := hP
  have hD : va_D A (wMD h cA (sU (sU u 0 0 (0 : Int32)) 0 5 (a1 &&& (65343 : Int32)))) := hD
  refine lv_iload_n hx hb nd_D_status_18 rfl (lv_at hl 0 rfl) ?_
  exact my_ri (u' := sU (sU u 0 0 (0 : Int32)) 0 5 (a1 &&& (65343 : Int32))) (v := u 0 5) hx hb hr hlocks hK hP hD hS hw nd_D_status_19
set_option maxHeartbeats 4000000 in
set_option maxRecDepth 100000 in
theorem c_D_lines (l : Launch) (D : va_G) (h : Nat → Nat) (cA : Nat → ClassId) (u : St) (a1 : Int32) (F : Int32 × St) (hw : f_D_lines a1 u = F) : MI nwS vwCl l ny_D_lines nw_D_lines ({ frames := 1, cells := 0, slots := 0, locals := 21 }) D (tyI cA) (wMD h cA) ([.ref (h 0), .int a1] : List Value) u F := by
  refine my_in (gw := GW) (cc := nc_D_lines) (maxL := 3) (ret := (some .int)) (Qc := fun A => QI vwCl D (tyI cA) (wMD h cA) F A) (by decide) rfl (Nat.le_of_ble_eq_true rfl) ?_
  intro p e s m below meth c A H locs ls hx hb hml hr hts hown hlocks hK hN hA hP hD hS hl
  have hown : s.vm.findClass nR_D = some m.cls := hown
  have hl : lv_has ls 3 [(0, .ref (h 0)), (1, .int a1)] := hl
  have J16 : ∀ (x1 : Int32) (y0 : Int32) (u : St) (H : Heap) (locs : List Loc) (ls : Array Slot), va_P D vwCl (wMD h cA u) H → va_D A (wMD h cA u) → va_S A s.heap H locs → lv_has ls 3 [(0, .ref (h 0)), (1, .int x1)] → f_D_lines_b16 x1 y0 u = F →
      W p l e (headSpec nw_D_lines ({ frames := 1, cells := 0, slots := 0, locals := 21 })).room s m ([.ref (h 0), .int a1] : List Value).toArray below meth c H locs 0 0 (MQ below (QI vwCl D (tyI cA) (wMD h cA) F A) ([.ref (h 0), .int a1] : List Value).toArray s 0 0 A) (F0 m 16 ls [.int (zb y0), .ref (h 0)]) := by
    intro x1 y0 u H locs ls hP hD hS hl hw
    unfold f_D_lines_b16 at hw
    obtain ⟨r16, u16, hq16, hw⟩ := bnd_i hw
    refine my_ci (wd := wMD h cA) (r := zb r16) (u' := u16) (va_runV (As := [.int (zb y0)]) (rest := []) ⟨hx, hb, hml, hown, hts⟩ (c_D_goes l D h cA u y0 (r16, u16) hq16 _) ⟨callB_of 1 hts (gw_in gw_487) rfl rfl rfl (hts _ gw_6) (hts _ gw_484) nh_D_goes ⟨Nat.le_of_ble_eq_true rfl, Nat.le_of_ble_eq_true rfl⟩, (hts _ gw_486), (hts _ gw_485)⟩ (my_preV nwOk hP hK hD hN (va_recv hK hP (ci := 5) (q0 := 0) rfl rfl)) rfl rfl hl.1 rfl (lv_room (Nat.le_of_ble_eq_true rfl)) nd_D_lines_16 ⟨Nat.le_of_ble_eq_true rfl, Nat.le_of_ble_eq_true rfl⟩) hD hS hA (fun H locs hP hD hS => ?_)
    refine lv_if_ne (tgt := 24) hx hb nd_D_lines_19 (by decide) (fun h19 => ?_) (fun h19 => ?_)
    · have hw := (if_neg h19).symm.trans hw
      refine lv_aload_n hx hb nd_D_lines_24 rfl (lv_at hl 0 rfl) ?_
      refine va_get (D := D) (ci := 5) (v := .int (u16 0 8)) (C := nR_D) (T := nT_D) (N := 28) hx hb hts nu_D hown hK hP 0 rfl rfl 8 (by decide) (hts _ gw_422) (fun _ h9 => h9) rfl nd_D_lines_25 ?_
      refine lv_istore_n (lv' := [(2, .int (u16 0 8)), (0, .ref (h 0)), (1, .int x1)]) hx hb nd_D_lines_28 rfl hl (by decide) rfl (fun ls hl => ?_)
      refine lv_aload_n hx hb nd_D_lines_29 rfl (lv_at hl 1 rfl) ?_
      refine lv_iload_n hx hb nd_D_lines_30 rfl (lv_at hl 2 rfl) ?_
      refine va_put (D := D) (ci := 5) (v := .int x1) (ty := .int) (C := nR_D) (T := nT_D) (N := 28) hx hb hts nu_D nt_D nto_D nn_D hown hK hP hD hS 0 rfl rfl 8 (by decide) (hts _ gw_422) (fun _ h9 => h9) rfl (by decide +kernel) rfl rfl (Nat.le_of_ble_eq_true rfl) nd_D_lines_31 (fun H locs hP hD hS => ?_)
      have hP : va_P D vwCl (wMD h cA (sU u16 0 8 x1)) H := hP
      have hD : va_D A (wMD h cA (sU u16 0 8 x1)) := hD
      refine lv_iload_n hx hb nd_D_lines_34 rfl (lv_at hl 0 rfl) ?_
      exact my_ri (u' := sU u16 0 8 x1) (v := u16 0 8) hx hb hr hlocks hK hP hD hS hw nd_D_lines_35
    have hw := (if_pos h19).symm.trans hw
    refine lv_iconst (v := (0 : Int32)) hx hb nd_D_lines_22 (by decide) ?_
    exact my_ri (u' := u16) (v := (0 : Int32)) hx hb hr hlocks hK hP hD hS hw nd_D_lines_23
  have J15 : ∀ (x1 : Int32) (u : St) (H : Heap) (locs : List Loc) (ls : Array Slot), va_P D vwCl (wMD h cA u) H → va_D A (wMD h cA u) → va_S A s.heap H locs → lv_has ls 3 [(0, .ref (h 0)), (1, .int x1)] → f_D_lines_b15 x1 u = F →
      W p l e (headSpec nw_D_lines ({ frames := 1, cells := 0, slots := 0, locals := 21 })).room s m ([.ref (h 0), .int a1] : List Value).toArray below meth c H locs 0 0 (MQ below (QI vwCl D (tyI cA) (wMD h cA) F A) ([.ref (h 0), .int a1] : List Value).toArray s 0 0 A) (F0 m 15 ls [.ref (h 0)]) := by
    intro x1 u H locs ls hP hD hS hl hw
    unfold f_D_lines_b15 at hw
    refine lv_iconst (v := (0 : Int32)) hx hb nd_D_lines_15 (by decide) ?_
    exact J16 x1 (0 : Int32) u H locs ls hP hD hS (lv_sub hl [0, 1] rfl) hw
  unfold f_D_lines at hw
  refine lv_aload_n hx hb nd_D_lines_0 rfl (lv_at hl 0 rfl) ?_
  refine lv_iload_n hx hb nd_D_lines_1 rfl (lv_at hl 1 rfl) ?_
  refine lv_if_lt (tgt := 15) hx hb nd_D_lines_2 (by decide) (fun h2 => ?_) (fun h2 => ?_)
  · have hw := (if_pos h2).symm.trans hw
    exact J15 a1 u H locs ls hP hD hS (lv_sub hl [0, 1] rfl) hw
  have hw := (if_neg h2).symm.trans hw
  refine lv_iload_n hx hb nd_D_lines_5 rfl (lv_at hl 1 rfl) ?_
  refine lv_bipush (v := (63 : Int32)) hx hb nd_D_lines_6 (by decide) ?_
  refine lv_icmp_gt (tgt := 15) hx hb nd_D_lines_8 (by decide) (fun h8 => ?_) (fun h8 => ?_)
  · have hw := (if_pos h8).symm.trans hw
    exact J15 a1 u H locs ls hP hD hS (lv_sub hl [0, 1] rfl) hw
  have hw := (if_neg h8).symm.trans hw
  refine lv_iconst (v := (1 : Int32)) hx hb nd_D_lines_11 (by decide) ?_
  refine lv_goto (tgt := 16) hx hb nd_D_lines_12 (by decide) ?_
  exact J16 a1 (1 : Int32) u H locs ls hP hD hS (lv_sub hl [0, 1] rfl) hw
set_option maxHeartbeats 4000000 in
set_option maxRecDepth 100000 in
theorem c_D_cause (l : Launch) (D : va_G) (h : Nat → Nat) (cA : Nat → ClassId) (u : St) (F : Int32) (hw : f_D_cause u = F) : MI nwS vwCl l ny_D_cause nw_D_cause ({ frames := 0, cells := 0, slots := 0, locals := 0 }) D (tyI cA) (wMD h cA) ([.ref (h 0)] : List Value) u (F, u) := by
  refine my_in (gw := GW) (cc := nc_D_cause) (maxL := 1) (ret := (some .int)) (Qc := fun A => QI vwCl D (tyI cA) (wMD h cA) (F, u) A) (by decide) rfl (Nat.le_of_ble_eq_true rfl) ?_
  intro p e s m below meth c A H locs ls hx hb hml hr hts hown hlocks hK hN hA hP hD hS hl
  have hown : s.vm.findClass nR_D = some m.cls := hown
  have hl : lv_has ls 1 [(0, .ref (h 0))] := hl
  unfold f_D_cause at hw
  refine lv_aload_n hx hb nd_D_cause_0 rfl (lv_at hl 0 rfl) ?_
  refine va_get (D := D) (ci := 5) (v := .int (u 0 6)) (C := nR_D) (T := nT_D) (N := 28) hx hb hts nu_D hown hK hP 0 rfl rfl 6 (by decide) (hts _ gw_420) (fun _ h9 => h9) rfl nd_D_cause_1 ?_
  refine lv_iconst (v := (2 : Int32)) hx hb nd_D_cause_4 (by decide) ?_
  refine lv_ishl hx hb nd_D_cause_5 ?_
  refine lv_aload_n hx hb nd_D_cause_6 rfl (lv_at hl 0 rfl) ?_
  refine va_get (D := D) (ci := 5) (v := .int (u 0 7)) (C := nR_D) (T := nT_D) (N := 28) hx hb hts nu_D hown hK hP 0 rfl rfl 7 (by decide) (hts _ gw_421) (fun _ h9 => h9) rfl nd_D_cause_7 ?_
  refine lv_bipush (v := (8 : Int32)) hx hb nd_D_cause_10 (by decide) ?_
  refine lv_ishl hx hb nd_D_cause_12 ?_
  refine lv_ior hx hb nd_D_cause_13 ?_
  refine lv_aload_n hx hb nd_D_cause_14 rfl (lv_at hl 0 rfl) ?_
  refine va_get (D := D) (ci := 5) (v := .int (u 0 8)) (C := nR_D) (T := nT_D) (N := 28) hx hb hts nu_D hown hK hP 0 rfl rfl 8 (by decide) (hts _ gw_422) (fun _ h9 => h9) rfl nd_D_cause_15 ?_
  refine lv_bipush (v := (10 : Int32)) hx hb nd_D_cause_18 (by decide) ?_
  refine lv_ishl hx hb nd_D_cause_20 ?_
  refine lv_ior hx hb nd_D_cause_21 ?_
  refine lv_aload_n hx hb nd_D_cause_22 rfl (lv_at hl 0 rfl) ?_
  refine va_get (D := D) (ci := 5) (v := .int (zb (u 0 9))) (C := nR_D) (T := nT_D) (N := 28) hx hb hts nu_D hown hK hP 0 rfl rfl 9 (by decide) (hts _ gw_423) (fun _ h9 => h9) rfl nd_D_cause_23 ?_
  refine lv_if_eq (tgt := 34) hx hb nd_D_cause_26 (by decide) (fun h26 => ?_) (fun h26 => ?_)
  · have hw := (if_pos h26).symm.trans hw
    refine lv_iconst (v := (0 : Int32)) hx hb nd_D_cause_34 (by decide) ?_
    refine lv_ior hx hb nd_D_cause_35 ?_
    exact my_ri (u' := u) (v := ((((u 0 6) <<< ((2 : Int32) &&& 31)) ||| ((u 0 7) <<< ((8 : Int32) &&& 31))) ||| ((u 0 8) <<< ((10 : Int32) &&& 31))) ||| (0 : Int32)) hx hb hr hlocks hK hP hD hS (congrArg (fun z9 => (z9, u)) hw) nd_D_cause_36
  have hw := (if_neg h26).symm.trans hw
  refine lv_ldc (own := nR_D) (v := (-2147483648 : Int32)) hx hb hown (hts _ gw_533) nd_D_cause_29 ?_
  refine lv_goto (tgt := 35) hx hb nd_D_cause_31 (by decide) ?_
  refine lv_ior hx hb nd_D_cause_35 ?_
  exact my_ri (u' := u) (v := ((((u 0 6) <<< ((2 : Int32) &&& 31)) ||| ((u 0 7) <<< ((8 : Int32) &&& 31))) ||| ((u 0 8) <<< ((10 : Int32) &&& 31))) ||| (-2147483648 : Int32)) hx hb hr hlocks hK hP hD hS (congrArg (fun z9 => (z9, u)) hw) nd_D_cause_36
set_option maxHeartbeats 4000000 in
set_option maxRecDepth 100000 in
theorem c_D_user (l : Launch) (D : va_G) (h : Nat → Nat) (cA : Nat → ClassId) (u : St) (F : Int32) (hw : f_D_user u = F) : MI nwS vwCl l ny_D_user nw_D_user ({ frames := 0, cells := 0, slots := 0, locals := 0 }) D (tyI cA) (wMD h cA) ([.ref (h 0)] : List Value) u (zb F, u) := by
  refine my_in (gw := GW) (cc := nc_D_user) (maxL := 1) (ret := (some .boolean)) (Qc := fun A => QI vwCl D (tyI cA) (wMD h cA) (zb F, u) A) (by decide) rfl (Nat.le_of_ble_eq_true rfl) ?_
  intro p e s m below meth c A H locs ls hx hb hml hr hts hown hlocks hK hN hA hP hD hS hl
  have hown : s.vm.findClass nR_D = some m.cls := hown
  have hl : lv_has ls 1 [(0, .ref (h 0))] := hl
  unfold f_D_user at hw
  refine lv_aload_n hx hb nd_D_user_0 rfl (lv_at hl 0 rfl) ?_
  refine va_get (D := D) (ci := 5) (v := .int (u 0 5)) (C := nR_D) (T := nT_D) (N := 28) hx hb hts nu_D hown hK hP 0 rfl rfl 5 (by decide) (hts _ gw_419) (fun _ h9 => h9) rfl nd_D_user_1 ?_
  refine lv_iconst (v := (1 : Int32)) hx hb nd_D_user_4 (by decide) ?_
  refine lv_ishr hx hb nd_D_user_5 ?_
  refine lv_iconst (v := (1 : Int32)) hx hb nd_D_user_6 (by decide) ?_
  refine lv_iand hx hb nd_D_user_7 ?_
  refine lv_iconst (v := (1 : Int32)) hx hb nd_D_user_8 (by decide) ?_
  refine lv_icmp_ne (tgt := 16) hx hb nd_D_user_9 (by decide) (fun h9 => ?_) (fun h9 => ?_)
  · have hw := (if_neg h9).symm.trans hw
    refine lv_iconst (v := (0 : Int32)) hx hb nd_D_user_16 (by decide) ?_
    exact my_rzo (u' := u) (x := (0 : Int32)) hx hb hr hlocks hK hP hD hS hw rfl nd_D_user_17
  have hw := (if_pos h9).symm.trans hw
  refine lv_iconst (v := (1 : Int32)) hx hb nd_D_user_12 (by decide) ?_
  refine lv_goto (tgt := 17) hx hb nd_D_user_13 (by decide) ?_
  exact my_rzo (u' := u) (x := (1 : Int32)) hx hb hr hlocks hK hP hD hS hw rfl nd_D_user_17
set_option maxHeartbeats 4000000 in
set_option maxRecDepth 100000 in
theorem c_D_exact (l : Launch) (a1 : Int64) (F : Int32) (hw : f_D_exact a1 = F) : MP l ny_D_exact nw_D_exact ({ frames := 0, cells := 0, slots := 0, locals := 0 }) ([.long a1] : List Value) (zb F) := by
  unfold MP
  refine my_inP (gw := GW) (cc := nc_D_exact) (maxL := 2) (ret := (some .boolean)) (by decide) rfl (Nat.le_of_ble_eq_true rfl) ?_
  intro p e s m below meth c H locs ls hx hb hml hr hts hown hlocks hS hl
  have hown : s.vm.findClass nR_D = some m.cls := hown
  have hl : lv_has ls 2 [(0, .long a1)] := hl
  unfold f_D_exact at hw
  refine lv_lload_n hx hb nd_D_exact_0 rfl (lv_at hl 0 rfl) ?_
  refine lv_lload_n hx hb nd_D_exact_1 rfl (lv_at hl 0 rfl) ?_
  refine lv_l2i (v := a1.toInt32) hx hb nd_D_exact_2 rfl ?_
  refine lv_i2l (v := a1.toInt32.toInt64) hx hb nd_D_exact_3 rfl ?_
  refine W.lcmp hx hb nd_D_exact_4 ?_
  refine lv_if_ne (tgt := 12) hx hb nd_D_exact_5 (by decide) (fun h5 => ?_) (fun h5 => ?_)
  · have hw := (if_neg h5).symm.trans hw
    refine lv_iconst (v := (0 : Int32)) hx hb nd_D_exact_12 (by decide) ?_
    exact my_rpz hx hb hr hlocks hS hw rfl nd_D_exact_13
  have hw := (if_pos h5).symm.trans hw
  refine lv_iconst (v := (1 : Int32)) hx hb nd_D_exact_8 (by decide) ?_
  refine lv_goto (tgt := 13) hx hb nd_D_exact_9 (by decide) ?_
  exact my_rpz hx hb hr hlocks hS hw rfl nd_D_exact_13
set_option maxHeartbeats 4000000 in
set_option maxRecDepth 100000 in
theorem c_D_inMemory (l : Launch) (a1 : Int32) (a2 : Int32) (F : Int32) (hw : f_D_inMemory a1 a2 = F) : MP l ny_D_inMemory nw_D_inMemory ({ frames := 0, cells := 0, slots := 0, locals := 0 }) ([.int a1, .int a2] : List Value) (zb F) := by
  unfold MP
  refine my_inP (gw := GW) (cc := nc_D_inMemory) (maxL := 3) (ret := (some .boolean)) (by decide) rfl (Nat.le_of_ble_eq_true rfl) ?_
  intro p e s m below meth c H locs ls hx hb hml hr hts hown hlocks hS hl
  have hown : s.vm.findClass nR_D = some m.cls := hown
  have hl : lv_has ls 3 [(0, .int a1), (1, .int a2)] := hl
  unfold f_D_inMemory at hw
  refine lv_iload_n hx hb nd_D_inMemory_0 rfl (lv_at hl 0 rfl) ?_
  refine lv_ldc (own := nR_D) (v := (536870911 : Int32)) hx hb hown (hts _ gw_554) nd_D_inMemory_1 ?_
  refine lv_iand hx hb nd_D_inMemory_3 ?_
  refine lv_istore_n (lv' := [(2, .int (a1 &&& (536870911 : Int32))), (0, .int a1), (1, .int a2)]) hx hb nd_D_inMemory_4 rfl hl (by decide) rfl (fun ls hl => ?_)
  refine lv_iload_n hx hb nd_D_inMemory_5 rfl (lv_at hl 0 rfl) ?_
  refine lv_sipush (v := (4096 : Int32)) hx hb nd_D_inMemory_6 (by decide) ?_
  refine lv_iload_n hx hb nd_D_inMemory_9 rfl (lv_at hl 2 rfl) ?_
  refine lv_isub hx hb nd_D_inMemory_10 ?_
  refine lv_icmp_gt (tgt := 18) hx hb nd_D_inMemory_11 (by decide) (fun h11 => ?_) (fun h11 => ?_)
  · have hw := (if_pos h11).symm.trans hw
    refine lv_iconst (v := (0 : Int32)) hx hb nd_D_inMemory_18 (by decide) ?_
    exact my_rpz hx hb hr hlocks hS hw rfl nd_D_inMemory_19
  have hw := (if_neg h11).symm.trans hw
  refine lv_iconst (v := (1 : Int32)) hx hb nd_D_inMemory_14 (by decide) ?_
  refine lv_goto (tgt := 19) hx hb nd_D_inMemory_15 (by decide) ?_
  exact my_rpz hx hb hr hlocks hS hw rfl nd_D_inMemory_19
set_option maxHeartbeats 4000000 in
set_option maxRecDepth 100000 in
theorem c_D_less (l : Launch) (a1 : Int32) (a2 : Int32) (F : Int32) (hw : f_D_less a1 a2 = F) : MP l ny_D_less nw_D_less ({ frames := 0, cells := 0, slots := 0, locals := 0 }) ([.int a1, .int a2] : List Value) (zb F) := by
  unfold MP
  refine my_inP (gw := GW) (cc := nc_D_less) (maxL := 2) (ret := (some .boolean)) (by decide) rfl (Nat.le_of_ble_eq_true rfl) ?_
  intro p e s m below meth c H locs ls hx hb hml hr hts hown hlocks hS hl
  have hown : s.vm.findClass nR_D = some m.cls := hown
  have hl : lv_has ls 2 [(0, .int a1), (1, .int a2)] := hl
  unfold f_D_less at hw
  refine lv_iload_n hx hb nd_D_less_0 rfl (lv_at hl 0 rfl) ?_
  refine lv_ldc (own := nR_D) (v := (-2147483648 : Int32)) hx hb hown (hts _ gw_533) nd_D_less_1 ?_
  refine lv_iadd hx hb nd_D_less_3 ?_
  refine lv_iload_n hx hb nd_D_less_4 rfl (lv_at hl 1 rfl) ?_
  refine lv_ldc (own := nR_D) (v := (-2147483648 : Int32)) hx hb hown (hts _ gw_533) nd_D_less_5 ?_
  refine lv_iadd hx hb nd_D_less_7 ?_
  refine lv_icmp_ge (tgt := 15) hx hb nd_D_less_8 (by decide) (fun h8 => ?_) (fun h8 => ?_)
  · have hw := (if_pos h8).symm.trans hw
    refine lv_iconst (v := (0 : Int32)) hx hb nd_D_less_15 (by decide) ?_
    exact my_rpz hx hb hr hlocks hS hw rfl nd_D_less_16
  have hw := (if_neg h8).symm.trans hw
  refine lv_iconst (v := (1 : Int32)) hx hb nd_D_less_11 (by decide) ?_
  refine lv_goto (tgt := 16) hx hb nd_D_less_12 (by decide) ?_
  exact my_rpz hx hb hr hlocks hS hw rfl nd_D_less_16
set_option maxHeartbeats 4000000 in
set_option maxRecDepth 100000 in
theorem c_D_look (l : Launch) (D : va_G) (h : Nat → Nat) (cA : Nat → ClassId) (u : St) (a1 : Int32) (F : Int32 × St) (hw : f_D_look a1 u = F) : MI nwS vwCl l ny_D_look nw_D_look ({ frames := 1, cells := 0, slots := 0, locals := 21 }) D (tyI cA) (wMD h cA) ([.ref (h 0), .int a1] : List Value) u F := by
  refine my_in (gw := GW) (cc := nc_D_look) (maxL := 2) (ret := (some .int)) (Qc := fun A => QI vwCl D (tyI cA) (wMD h cA) F A) (by decide) rfl (Nat.le_of_ble_eq_true rfl) ?_
  intro p e s m below meth c A H locs ls hx hb hml hr hts hown hlocks hK hN hA hP hD hS hl
  have hown : s.vm.findClass nR_D = some m.cls := hown
  have hl : lv_has ls 2 [(0, .ref (h 0)), (1, .int a1)] := hl
  have J16 : ∀ (x1 : Int32) (y0 : Int32) (u : St) (H : Heap) (locs : List Loc) (ls : Array Slot), va_P D vwCl (wMD h cA u) H → va_D A (wMD h cA u) → va_S A s.heap H locs → lv_has ls 2 [(0, .ref (h 0)), (1, .int x1)] → f_D_look_b16 x1 y0 u = F →
      W p l e (headSpec nw_D_look ({ frames := 1, cells := 0, slots := 0, locals := 21 })).room s m ([.ref (h 0), .int a1] : List Value).toArray below meth c H locs 0 0 (MQ below (QI vwCl D (tyI cA) (wMD h cA) F A) ([.ref (h 0), .int a1] : List Value).toArray s 0 0 A) (F0 m 16 ls [.int (zb y0), .ref (h 0)]) := by
    intro x1 y0 u H locs ls hP hD hS hl hw
    unfold f_D_look_b16 at hw
    obtain ⟨r16, u16, hq16, hw⟩ := bnd_i hw
    refine my_ci (wd := wMD h cA) (r := zb r16) (u' := u16) (va_runV (As := [.int (zb y0)]) (rest := []) ⟨hx, hb, hml, hown, hts⟩ (c_D_goes l D h cA u y0 (r16, u16) hq16 _) ⟨callB_of 1 hts (gw_in gw_487) rfl rfl rfl (hts _ gw_6) (hts _ gw_484) nh_D_goes ⟨Nat.le_of_ble_eq_true rfl, Nat.le_of_ble_eq_true rfl⟩, (hts _ gw_486), (hts _ gw_485)⟩ (my_preV nwOk hP hK hD hN (va_recv hK hP (ci := 5) (q0 := 0) rfl rfl)) rfl rfl hl.1 rfl (lv_room (Nat.le_of_ble_eq_true rfl)) nd_D_look_16 ⟨Nat.le_of_ble_eq_true rfl, Nat.le_of_ble_eq_true rfl⟩) hD hS hA (fun H locs hP hD hS => ?_)
    refine lv_if_ne (tgt := 24) hx hb nd_D_look_19 (by decide) (fun h19 => ?_) (fun h19 => ?_)
    · have hw := (if_neg h19).symm.trans hw
      refine lv_iload_n hx hb nd_D_look_24 rfl (lv_at hl 1 rfl) ?_
      rcases my_em (x := x1) (0 : Int32) with h25_0 | h25_0
      · have hw := (if_pos h25_0).symm.trans hw
        refine my_swi (tgt := 80) hx hb nd_D_look_25 h25_0 (by decide) (by decide) rfl (by decide) ?_
        refine lv_aload_n hx hb nd_D_look_80 rfl (lv_at hl 0 rfl) ?_
        refine va_get (D := D) (ci := 5) (v := .int (u16 0 3)) (C := nR_D) (T := nT_D) (N := 28) hx hb hts nu_D hown hK hP 0 rfl rfl 3 (by decide) (hts _ gw_417) (fun _ h9 => h9) rfl nd_D_look_81 ?_
        exact my_ri (u' := u16) (v := u16 0 3) hx hb hr hlocks hK hP hD hS hw nd_D_look_84
      have hw := (if_neg h25_0).symm.trans hw
      rcases my_em (x := x1) (1 : Int32) with h25_1 | h25_1
      · have hw := (if_pos h25_1).symm.trans hw
        refine my_swi (tgt := 85) hx hb nd_D_look_25 h25_1 (by decide) (by decide) rfl (by decide) ?_
        refine lv_aload_n hx hb nd_D_look_85 rfl (lv_at hl 0 rfl) ?_
        refine va_get (D := D) (ci := 5) (v := .int (u16 0 4)) (C := nR_D) (T := nT_D) (N := 28) hx hb hts nu_D hown hK hP 0 rfl rfl 4 (by decide) (hts _ gw_418) (fun _ h9 => h9) rfl nd_D_look_86 ?_
        exact my_ri (u' := u16) (v := u16 0 4) hx hb hr hlocks hK hP hD hS hw nd_D_look_89
      have hw := (if_neg h25_1).symm.trans hw
      rcases my_em (x := x1) (2 : Int32) with h25_2 | h25_2
      · have hw := (if_pos h25_2).symm.trans hw
        refine my_swi (tgt := 90) hx hb nd_D_look_25 h25_2 (by decide) (by decide) rfl (by decide) ?_
        refine lv_aload_n hx hb nd_D_look_90 rfl (lv_at hl 0 rfl) ?_
        refine va_get (D := D) (ci := 5) (v := .int (u16 0 5)) (C := nR_D) (T := nT_D) (N := 28) hx hb hts nu_D hown hK hP 0 rfl rfl 5 (by decide) (hts _ gw_419) (fun _ h9 => h9) rfl nd_D_look_91 ?_
        exact my_ri (u' := u16) (v := u16 0 5) hx hb hr hlocks hK hP hD hS hw nd_D_look_94
      have hw := (if_neg h25_2).symm.trans hw
      rcases my_em (x := x1) (3 : Int32) with h25_3 | h25_3
      · have hw := (if_pos h25_3).symm.trans hw
        refine my_swi (tgt := 95) hx hb nd_D_look_25 h25_3 (by decide) (by decide) rfl (by decide) ?_
        refine lv_aload_n hx hb nd_D_look_95 rfl (lv_at hl 0 rfl) ?_
        refine my_ci (wd := wMD h cA) (r := f_D_cause u16) (u' := u16) (va_runV (As := []) (rest := []) ⟨hx, hb, hml, hown, hts⟩ (c_D_cause l D h cA u16 _ rfl _) ⟨callB_of 0 hts (gw_in gw_532) rfl rfl rfl (hts _ gw_6) (hts _ gw_529) nh_D_cause ⟨Nat.le_of_ble_eq_true rfl, Nat.le_of_ble_eq_true rfl⟩, (hts _ gw_531), (hts _ gw_530)⟩ (my_preV nwOk hP hK hD hN (va_recv hK hP (ci := 5) (q0 := 0) rfl rfl)) rfl rfl hl.1 rfl (lv_room (Nat.le_of_ble_eq_true rfl)) nd_D_look_96 ⟨Nat.le_of_ble_eq_true rfl, Nat.le_of_ble_eq_true rfl⟩) hD hS hA (fun H locs hP hD hS => ?_)
        exact my_ri (u' := u16) (v := f_D_cause u16) hx hb hr hlocks hK hP hD hS hw nd_D_look_99
      have hw := (if_neg h25_3).symm.trans hw
      rcases my_em (x := x1) (4 : Int32) with h25_4 | h25_4
      · have hw := (if_pos h25_4).symm.trans hw
        refine my_swi (tgt := 100) hx hb nd_D_look_25 h25_4 (by decide) (by decide) rfl (by decide) ?_
        refine lv_aload_n hx hb nd_D_look_100 rfl (lv_at hl 0 rfl) ?_
        refine va_get (D := D) (ci := 5) (v := .int (u16 0 10)) (C := nR_D) (T := nT_D) (N := 28) hx hb hts nu_D hown hK hP 0 rfl rfl 10 (by decide) (hts _ gw_424) (fun _ h9 => h9) rfl nd_D_look_101 ?_
        exact my_ri (u' := u16) (v := u16 0 10) hx hb hr hlocks hK hP hD hS hw nd_D_look_104
      have hw := (if_neg h25_4).symm.trans hw
      rcases my_em (x := x1) (5 : Int32) with h25_5 | h25_5
      · have hw := (if_pos h25_5).symm.trans hw
        refine my_swi (tgt := 105) hx hb nd_D_look_25 h25_5 (by decide) (by decide) rfl (by decide) ?_
        refine lv_aload_n hx hb nd_D_look_105 rfl (lv_at hl 0 rfl) ?_
        refine va_get (D := D) (ci := 5) (v := .int (u16 0 11)) (C := nR_D) (T := nT_D) (N := 28) hx hb hts nu_D hown hK hP 0 rfl rfl 11 (by decide) (hts _ gw_425) (fun _ h9 => h9) rfl nd_D_look_106 ?_
        exact my_ri (u' := u16) (v := u16 0 11) hx hb hr hlocks hK hP hD hS hw nd_D_look_109
      have hw := (if_neg h25_5).symm.trans hw
      rcases my_em (x := x1) (6 : Int32) with h25_6 | h25_6
      · have hw := (if_pos h25_6).symm.trans hw
        refine my_swi (tgt := 110) hx hb nd_D_look_25 h25_6 (by decide) (by decide) rfl (by decide) ?_
        refine lv_aload_n hx hb nd_D_look_110 rfl (lv_at hl 0 rfl) ?_
        refine va_get (D := D) (ci := 5) (v := .int (zb (u16 0 12))) (C := nR_D) (T := nT_D) (N := 28) hx hb hts nu_D hown hK hP 0 rfl rfl 12 (by decide) (hts _ gw_426) (fun _ h9 => h9) rfl nd_D_look_111 ?_
        refine lv_if_eq (tgt := 121) hx hb nd_D_look_114 (by decide) (fun h114 => ?_) (fun h114 => ?_)
        · have hw := (if_pos h114).symm.trans hw
          refine lv_iconst (v := (0 : Int32)) hx hb nd_D_look_121 (by decide) ?_
          exact my_ri (u' := u16) (v := (0 : Int32)) hx hb hr hlocks hK hP hD hS hw nd_D_look_122
        have hw := (if_neg h114).symm.trans hw
        refine lv_iconst (v := (1 : Int32)) hx hb nd_D_look_117 (by decide) ?_
        refine lv_goto (tgt := 122) hx hb nd_D_look_118 (by decide) ?_
        exact my_ri (u' := u16) (v := (1 : Int32)) hx hb hr hlocks hK hP hD hS hw nd_D_look_122
      have hw := (if_neg h25_6).symm.trans hw
      rcases my_em (x := x1) (7 : Int32) with h25_7 | h25_7
      · have hw := (if_pos h25_7).symm.trans hw
        refine my_swi (tgt := 123) hx hb nd_D_look_25 h25_7 (by decide) (by decide) rfl (by decide) ?_
        refine lv_aload_n hx hb nd_D_look_123 rfl (lv_at hl 0 rfl) ?_
        refine va_get (D := D) (ci := 5) (v := .int (u16 0 13)) (C := nR_D) (T := nT_D) (N := 28) hx hb hts nu_D hown hK hP 0 rfl rfl 13 (by decide) (hts _ gw_427) (fun _ h9 => h9) rfl nd_D_look_124 ?_
        exact my_ri (u' := u16) (v := u16 0 13) hx hb hr hlocks hK hP hD hS hw nd_D_look_127
      have hw := (if_neg h25_7).symm.trans hw
      rcases my_em (x := x1) (8 : Int32) with h25_8 | h25_8
      · have hw := (if_pos h25_8).symm.trans hw
        refine my_swi (tgt := 128) hx hb nd_D_look_25 h25_8 (by decide) (by decide) rfl (by decide) ?_
        refine lv_aload_n hx hb nd_D_look_128 rfl (lv_at hl 0 rfl) ?_
        refine va_get (D := D) (ci := 5) (v := .int (u16 0 14)) (C := nR_D) (T := nT_D) (N := 28) hx hb hts nu_D hown hK hP 0 rfl rfl 14 (by decide) (hts _ gw_428) (fun _ h9 => h9) rfl nd_D_look_129 ?_
        exact my_ri (u' := u16) (v := u16 0 14) hx hb hr hlocks hK hP hD hS hw nd_D_look_132
      have hw := (if_neg h25_8).symm.trans hw
      rcases my_em (x := x1) (9 : Int32) with h25_9 | h25_9
      · have hw := (if_pos h25_9).symm.trans hw
        refine my_swi (tgt := 133) hx hb nd_D_look_25 h25_9 (by decide) (by decide) rfl (by decide) ?_
        refine lv_aload_n hx hb nd_D_look_133 rfl (lv_at hl 0 rfl) ?_
        refine va_get (D := D) (ci := 5) (v := .int (u16 0 15)) (C := nR_D) (T := nT_D) (N := 28) hx hb hts nu_D hown hK hP 0 rfl rfl 15 (by decide) (hts _ gw_429) (fun _ h9 => h9) rfl nd_D_look_134 ?_
        exact my_ri (u' := u16) (v := u16 0 15) hx hb hr hlocks hK hP hD hS hw nd_D_look_137
      have hw := (if_neg h25_9).symm.trans hw
      refine my_swd (tgt := 138) hx hb nd_D_look_25 (my_nec h25_0 (my_nec h25_1 (my_nec h25_2 (my_nec h25_3 (my_nec h25_4 (my_nec h25_5 (my_nec h25_6 (my_nec h25_7 (my_nec h25_8 (my_nec h25_9 my_nen)))))))))) (by decide +kernel) (by decide) ?_
      refine lv_aload_n hx hb nd_D_look_138 rfl (lv_at hl 0 rfl) ?_
      refine va_get (D := D) (ci := 5) (v := .int (u16 0 16)) (C := nR_D) (T := nT_D) (N := 28) hx hb hts nu_D hown hK hP 0 rfl rfl 16 (by decide) (hts _ gw_430) (fun _ h9 => h9) rfl nd_D_look_139 ?_
      exact my_ri (u' := u16) (v := u16 0 16) hx hb hr hlocks hK hP hD hS hw nd_D_look_142
    have hw := (if_pos h19).symm.trans hw
    refine lv_iconst (v := (0 : Int32)) hx hb nd_D_look_22 (by decide) ?_
    exact my_ri (u' := u16) (v := (0 : Int32)) hx hb hr hlocks hK hP hD hS hw nd_D_look_23
  have J15 : ∀ (x1 : Int32) (u : St) (H : Heap) (locs : List Loc) (ls : Array Slot), va_P D vwCl (wMD h cA u) H → va_D A (wMD h cA u) → va_S A s.heap H locs → lv_has ls 2 [(0, .ref (h 0)), (1, .int x1)] → f_D_look_b15 x1 u = F →
      W p l e (headSpec nw_D_look ({ frames := 1, cells := 0, slots := 0, locals := 21 })).room s m ([.ref (h 0), .int a1] : List Value).toArray below meth c H locs 0 0 (MQ below (QI vwCl D (tyI cA) (wMD h cA) F A) ([.ref (h 0), .int a1] : List Value).toArray s 0 0 A) (F0 m 15 ls [.ref (h 0)]) := by
    intro x1 u H locs ls hP hD hS hl hw
    unfold f_D_look_b15 at hw
    refine lv_iconst (v := (0 : Int32)) hx hb nd_D_look_15 (by decide) ?_
    exact J16 x1 (0 : Int32) u H locs ls hP hD hS (lv_sub hl [0, 1] rfl) hw
  unfold f_D_look at hw
  refine lv_aload_n hx hb nd_D_look_0 rfl (lv_at hl 0 rfl) ?_
  refine lv_iload_n hx hb nd_D_look_1 rfl (lv_at hl 1 rfl) ?_
  refine lv_if_lt (tgt := 15) hx hb nd_D_look_2 (by decide) (fun h2 => ?_) (fun h2 => ?_)
  · have hw := (if_pos h2).symm.trans hw
    exact J15 a1 u H locs ls hP hD hS (lv_sub hl [0, 1] rfl) hw
  have hw := (if_neg h2).symm.trans hw
  refine lv_iload_n hx hb nd_D_look_5 rfl (lv_at hl 1 rfl) ?_
  refine lv_bipush (v := (10 : Int32)) hx hb nd_D_look_6 (by decide) ?_
  refine lv_icmp_gt (tgt := 15) hx hb nd_D_look_8 (by decide) (fun h8 => ?_) (fun h8 => ?_)
  · have hw := (if_pos h8).symm.trans hw
    exact J15 a1 u H locs ls hP hD hS (lv_sub hl [0, 1] rfl) hw
  have hw := (if_neg h8).symm.trans hw
  refine lv_iconst (v := (1 : Int32)) hx hb nd_D_look_11 (by decide) ?_
  refine lv_goto (tgt := 16) hx hb nd_D_look_12 (by decide) ?_
  exact J16 a1 (1 : Int32) u H locs ls hP hD hS (lv_sub hl [0, 1] rfl) hw
