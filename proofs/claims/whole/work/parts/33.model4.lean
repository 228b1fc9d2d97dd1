set_option maxHeartbeats 4000000 in
set_option maxRecDepth 100000 in
theorem c_D_control (l : Launch) (D : va_G) (h : Nat → Nat) (cA : Nat → ClassId) (u : St) (F : St) (hw : f_D_control u = F) : MV nwS vwCl l ny_D_control nw_D_control ({ frames := 1, cells := 0, slots := 0, locals := 20 }) D (tyI cA) (wMD h cA) ([.ref (h 0)] : List Value) u F := by
  refine my_in (gw := GW) (cc := nc_D_control) (maxL := 3) (ret := none) (Qc := fun A => QV vwCl D (tyI cA) (wMD h cA) F A) (by decide) rfl (Nat.le_of_ble_eq_true rfl) ?_
  intro p e s m below meth c A H locs ls hx hb hml hr hts hown hlocks hK hN hA hP hD hS hl
  have hown : s.vm.findClass nR_D = some m.cls := hown
  have hl : lv_has ls 3 [(0, .ref (h 0))] := hl
  unfold f_D_control at hw
  refine lv_aload_n hx hb nd_D_control_0 rfl (lv_at hl 0 rfl) ?_
  refine va_get (D := D) (ci := 5) (v := .int (u 0 17)) (C := nR_D) (T := nT_D) (N := 28) hx hb hts nu_D hown hK hP 0 rfl rfl 17 (by decide) (hts _ gw_431) (fun _ h9 => h9) rfl nd_D_control_1 ?_
  refine lv_bipush (v := (21 : Int32)) hx hb nd_D_control_4 (by decide) ?_
  refine lv_ishr hx hb nd_D_control_6 ?_
  refine lv_bipush (v := (31 : Int32)) hx hb nd_D_control_7 (by decide) ?_
  refine lv_iand hx hb nd_D_control_9 ?_
  refine lv_istore_n (lv' := [(1, .int (((u 0 17) >>> ((21 : Int32) &&& 31)) &&& (31 : Int32))), (0, .ref (h 0))]) hx hb nd_D_control_10 rfl hl (by decide) rfl (fun ls hl => ?_)
  refine lv_aload_n hx hb nd_D_control_11 rfl (lv_at hl 1 rfl) ?_
  refine va_get (D := D) (ci := 5) (v := .int (u 0 17)) (C := nR_D) (T := nT_D) (N := 28) hx hb hts nu_D hown hK hP 0 rfl rfl 17 (by decide) (hts _ gw_431) (fun _ h9 => h9) rfl nd_D_control_12 ?_
  refine lv_bipush (v := (11 : Int32)) hx hb nd_D_control_15 (by decide) ?_
  refine lv_ishr hx hb nd_D_control_17 ?_
  refine lv_bipush (v := (31 : Int32)) hx hb nd_D_control_18 (by decide) ?_
  refine lv_iand hx hb nd_D_control_20 ?_
  refine lv_istore_n (lv' := [(2, .int (((u 0 17) >>> ((11 : Int32) &&& 31)) &&& (31 : Int32))), (1, .int (((u 0 17) >>> ((21 : Int32) &&& 31)) &&& (31 : Int32))), (0, .ref (h 0))]) hx hb nd_D_control_21 rfl hl (by decide) rfl (fun ls hl => ?_)
  refine lv_iload_n hx hb nd_D_control_22 rfl (lv_at hl 1 rfl) ?_
  refine lv_if_ne (tgt := 100) hx hb nd_D_control_23 (by decide) (fun h23 => ?_) (fun h23 => ?_)
  · have hw := (if_neg h23).symm.trans hw
    refine lv_iload_n hx hb nd_D_control_100 rfl (lv_at hl 1 rfl) ?_
    refine lv_bipush (v := (16 : Int32)) hx hb nd_D_control_101 (by decide) ?_
    refine lv_icmp_ne (tgt := 130) hx hb nd_D_control_103 (by decide) (fun h103 => ?_) (fun h103 => ?_)
    · have hw := (if_neg h103).symm.trans hw
      refine lv_iload_n hx hb nd_D_control_130 rfl (lv_at hl 0 rfl) ?_
      refine lv_bipush (v := (12 : Int32)) hx hb nd_D_control_131 (by decide) ?_
      refine lv_icmp_ne (tgt := 150) hx hb nd_D_control_133 (by decide) (fun h133 => ?_) (fun h133 => ?_)
      · have hw := (if_neg h133).symm.trans hw
        refine lv_iload_n hx hb nd_D_control_150 rfl (lv_at hl 0 rfl) ?_
        refine lv_bipush (v := (13 : Int32)) hx hb nd_D_control_151 (by decide) ?_
        refine lv_icmp_ne (tgt := 172) hx hb nd_D_control_153 (by decide) (fun h153 => ?_) (fun h153 => ?_)
        · have hw := (if_neg h153).symm.trans hw
          refine lv_iload_n hx hb nd_D_control_172 rfl (lv_at hl 0 rfl) ?_
          refine lv_bipush (v := (14 : Int32)) hx hb nd_D_control_173 (by decide) ?_
          refine lv_icmp_ne (tgt := 186) hx hb nd_D_control_175 (by decide) (fun h175 => ?_) (fun h175 => ?_)
          · have hw := (if_neg h175).symm.trans hw
            exact my_rv (u' := u) hx hb hr hlocks hK hP hD hS hw nd_D_control_186
          have hw := (if_pos h175).symm.trans hw
          refine lv_aload_n hx hb nd_D_control_178 rfl (lv_at hl 2 rfl) ?_
          refine lv_aload_n hx hb nd_D_control_179 rfl (lv_at hl 2 rfl) ?_
          refine va_get (D := D) (ci := 5) (v := .int (u 0 20)) (C := nR_D) (T := nT_D) (N := 28) hx hb hts nu_D hown hK hP 0 rfl rfl 20 (by decide) (hts _ gw_434) (fun _ h9 => h9) rfl nd_D_control_180 ?_
          refine va_put (D := D) (ci := 5) (v := .int (u 0 20)) (ty := .int) (C := nR_D) (T := nT_D) (N := 28) hx hb hts nu_D nt_D nto_D nn_D hown hK hP hD hS 0 rfl rfl 10 (by decide) (hts _ gw_424) (fun _ h9 => h9) rfl (by decide +kernel) rfl rfl (Nat.le_of_ble_eq_true rfl) nd_D_control_183 (fun H locs hP hD hS => ?_)
          have hP : va_P D vwCl (wMD h cA (sU u 0 10 (u 0 20))) H := hP
          have hD : va_D A (wMD h cA (sU u 0 10 (u 0 20))) := hD
          exact my_rv (u' := sU u 0 10 (u 0 20)) hx hb hr hlocks hK hP hD hS hw nd_D_control_186
        have hw := (if_pos h153).symm.trans hw
        refine lv_aload_n hx hb nd_D_control_156 rfl (lv_at hl 2 rfl) ?_
        refine lv_aload_n hx hb nd_D_control_157 rfl (lv_at hl 2 rfl) ?_
        refine va_get (D := D) (ci := 5) (v := .int (u 0 20)) (C := nR_D) (T := nT_D) (N := 28) hx hb hts nu_D hown hK hP 0 rfl rfl 20 (by decide) (hts _ gw_434) (fun _ h9 => h9) rfl nd_D_control_158 ?_
        refine lv_bipush (v := (8 : Int32)) hx hb nd_D_control_161 (by decide) ?_
        refine lv_ishr hx hb nd_D_control_163 ?_
        refine lv_iconst (v := (3 : Int32)) hx hb nd_D_control_164 (by decide) ?_
        refine lv_iand hx hb nd_D_control_165 ?_
        refine va_put (D := D) (ci := 5) (v := .int (((u 0 20) >>> ((8 : Int32) &&& 31)) &&& (3 : Int32))) (ty := .int) (C := nR_D) (T := nT_D) (N := 28) hx hb hts nu_D nt_D nto_D nn_D hown hK hP hD hS 0 rfl rfl 7 (by decide) (hts _ gw_421) (fun _ h9 => h9) rfl (by decide +kernel) rfl rfl (Nat.le_of_ble_eq_true rfl) nd_D_control_166 (fun H locs hP hD hS => ?_)
        have hP : va_P D vwCl (wMD h cA (sU u 0 7 (((u 0 20) >>> ((8 : Int32) &&& 31)) &&& (3 : Int32)))) H := hP
        have hD : va_D A (wMD h cA (sU u 0 7 (((u 0 20) >>> ((8 : Int32) &&& 31)) &&& (3 : Int32)))) := hD
        refine lv_goto (tgt := 186) hx hb nd_D_control_169 (by decide) ?_
        exact my_rv (u' := sU u 0 7 (((u 0 20) >>> ((8 : Int32) &&& 31)) &&& (3 : Int32))) hx hb hr hlocks hK hP hD hS hw nd_D_control_186
      have hw := (if_pos h133).symm.trans hw
      refine lv_aload_n hx hb nd_D_control_136 rfl (lv_at hl 2 rfl) ?_
      refine lv_aload_n hx hb nd_D_control_137 rfl (lv_at hl 2 rfl) ?_
      refine va_get (D := D) (ci := 5) (v := .int (u 0 20)) (C := nR_D) (T := nT_D) (N := 28) hx hb hts nu_D hown hK hP 0 rfl rfl 20 (by decide) (hts _ gw_434) (fun _ h9 => h9) rfl nd_D_control_138 ?_
      refine lv_ldc (own := nR_D) (v := (65343 : Int32)) hx hb hown (hts _ gw_516) nd_D_control_141 ?_
      refine lv_iand hx hb nd_D_control_143 ?_
      refine va_put (D := D) (ci := 5) (v := .int ((u 0 20) &&& (65343 : Int32))) (ty := .int) (C := nR_D) (T := nT_D) (N := 28) hx hb hts nu_D nt_D nto_D nn_D hown hK hP hD hS 0 rfl rfl 5 (by decide) (hts _ gw_419) (fun _ h9 => h9) rfl (by decide +kernel) rfl rfl (Nat.le_of_ble_eq_true rfl) nd_D_control_144 (fun H locs hP hD hS => ?_)
      have hP : va_P D vwCl (wMD h cA (sU u 0 5 ((u 0 20) &&& (65343 : Int32)))) H := hP
      have hD : va_D A (wMD h cA (sU u 0 5 ((u 0 20) &&& (65343 : Int32)))) := hD
      refine lv_goto (tgt := 186) hx hb nd_D_control_147 (by decide) ?_
      exact my_rv (u' := sU u 0 5 ((u 0 20) &&& (65343 : Int32))) hx hb hr hlocks hK hP hD hS hw nd_D_control_186
    have hw := (if_pos h103).symm.trans hw
    refine lv_aload_n hx hb nd_D_control_106 rfl (lv_at hl 2 rfl) ?_
    refine lv_aload_n hx hb nd_D_control_107 rfl (lv_at hl 2 rfl) ?_
    refine va_get (D := D) (ci := 5) (v := .int (u 0 5)) (C := nR_D) (T := nT_D) (N := 28) hx hb hts nu_D hown hK hP 0 rfl rfl 5 (by decide) (hts _ gw_419) (fun _ h9 => h9) rfl nd_D_control_108 ?_
    refine lv_bipush (v := (-16 : Int32)) hx hb nd_D_control_111 (by decide) ?_
    refine lv_iand hx hb nd_D_control_113 ?_
    refine lv_aload_n hx hb nd_D_control_114 rfl (lv_at hl 2 rfl) ?_
    refine va_get (D := D) (ci := 5) (v := .int (u 0 5)) (C := nR_D) (T := nT_D) (N := 28) hx hb hts nu_D hown hK hP 0 rfl rfl 5 (by decide) (hts _ gw_419) (fun _ h9 => h9) rfl nd_D_control_115 ?_
    refine lv_iconst (v := (2 : Int32)) hx hb nd_D_control_118 (by decide) ?_
    refine lv_ishr hx hb nd_D_control_119 ?_
    refine lv_bipush (v := (15 : Int32)) hx hb nd_D_control_120 (by decide) ?_
    refine lv_iand hx hb nd_D_control_122 ?_
    refine lv_ior hx hb nd_D_control_123 ?_
    refine va_put (D := D) (ci := 5) (v := .int (((u 0 5) &&& (-16 : Int32)) ||| (((u 0 5) >>> ((2 : Int32) &&& 31)) &&& (15 : Int32)))) (ty := .int) (C := nR_D) (T := nT_D) (N := 28) hx hb hts nu_D nt_D nto_D nn_D hown hK hP hD hS 0 rfl rfl 5 (by decide) (hts _ gw_419) (fun _ h9 => h9) rfl (by decide +kernel) rfl rfl (Nat.le_of_ble_eq_true rfl) nd_D_control_124 (fun H locs hP hD hS => ?_)
    have hP : va_P D vwCl (wMD h cA (sU u 0 5 (((u 0 5) &&& (-16 : Int32)) ||| (((u 0 5) >>> ((2 : Int32) &&& 31)) &&& (15 : Int32))))) H := hP
    have hD : va_D A (wMD h cA (sU u 0 5 (((u 0 5) &&& (-16 : Int32)) ||| (((u 0 5) >>> ((2 : Int32) &&& 31)) &&& (15 : Int32))))) := hD
    refine lv_goto (tgt := 186) hx hb nd_D_control_127 (by decide) ?_
    exact my_rv (u' := sU u 0 5 (((u 0 5) &&& (-16 : Int32)) ||| (((u 0 5) >>> ((2 : Int32) &&& 31)) &&& (15 : Int32)))) hx hb hr hlocks hK hP hD hS hw nd_D_control_186
  have hw := (if_pos h23).symm.trans hw
  refine lv_aload_n hx hb nd_D_control_26 rfl (lv_at hl 2 rfl) ?_
  refine lv_aload_n hx hb nd_D_control_27 rfl (lv_at hl 2 rfl) ?_
  refine va_get (D := D) (ci := 5) (v := .int (u 0 17)) (C := nR_D) (T := nT_D) (N := 28) hx hb hts nu_D hown hK hP 0 rfl rfl 17 (by decide) (hts _ gw_431) (fun _ h9 => h9) rfl nd_D_control_28 ?_
  refine lv_bipush (v := (16 : Int32)) hx hb nd_D_control_31 (by decide) ?_
  refine lv_ishr hx hb nd_D_control_33 ?_
  refine lv_bipush (v := (31 : Int32)) hx hb nd_D_control_34 (by decide) ?_
  refine lv_iand hx hb nd_D_control_36 ?_
  refine va_put (D := D) (ci := 5) (v := .int (((u 0 17) >>> ((16 : Int32) &&& 31)) &&& (31 : Int32))) (ty := .int) (C := nR_D) (T := nT_D) (N := 28) hx hb hts nu_D nt_D nto_D nn_D hown hK hP hD hS 0 rfl rfl 24 (by decide) (hts _ gw_438) (fun _ h9 => h9) rfl (by decide +kernel) rfl rfl (Nat.le_of_ble_eq_true rfl) nd_D_control_37 (fun H locs hP hD hS => ?_)
  have hP : va_P D vwCl (wMD h cA (sU u 0 24 (((u 0 17) >>> ((16 : Int32) &&& 31)) &&& (31 : Int32)))) H := hP
  have hD : va_D A (wMD h cA (sU u 0 24 (((u 0 17) >>> ((16 : Int32) &&& 31)) &&& (31 : Int32)))) := hD
  refine lv_aload_n hx hb nd_D_control_40 rfl (lv_at hl 2 rfl) ?_
  refine lv_iload_n hx hb nd_D_control_41 rfl (lv_at hl 0 rfl) ?_
  refine lv_bipush (v := (12 : Int32)) hx hb nd_D_control_42 (by decide) ?_
  refine lv_icmp_ne (tgt := 54) hx hb nd_D_control_44 (by decide) (fun h44 => ?_) (fun h44 => ?_)
  · have hw := (if_neg h44).symm.trans hw
    refine lv_iload_n hx hb nd_D_control_54 rfl (lv_at hl 0 rfl) ?_
    refine lv_bipush (v := (13 : Int32)) hx hb nd_D_control_55 (by decide) ?_
    refine lv_icmp_ne (tgt := 67) hx hb nd_D_control_57 (by decide) (fun h57 => ?_) (fun h57 => ?_)
    · have hw := (if_neg h57).symm.trans hw
      refine lv_iload_n hx hb nd_D_control_67 rfl (lv_at hl 0 rfl) ?_
      refine lv_bipush (v := (14 : Int32)) hx hb nd_D_control_68 (by decide) ?_
      refine lv_icmp_ne (tgt := 80) hx hb nd_D_control_70 (by decide) (fun h70 => ?_) (fun h70 => ?_)
      · have hw := (if_neg h70).symm.trans hw
        refine lv_iload_n hx hb nd_D_control_80 rfl (lv_at hl 0 rfl) ?_
        refine lv_bipush (v := (8 : Int32)) hx hb nd_D_control_81 (by decide) ?_
        refine lv_icmp_ne (tgt := 93) hx hb nd_D_control_83 (by decide) (fun h83 => ?_) (fun h83 => ?_)
        · have hw := (if_neg h83).symm.trans hw
          refine lv_iconst (v := (0 : Int32)) hx hb nd_D_control_93 (by decide) ?_
          refine va_put (D := D) (ci := 5) (v := .int (0 : Int32)) (ty := .int) (C := nR_D) (T := nT_D) (N := 28) hx hb hts nu_D nt_D nto_D nn_D hown hK hP hD hS 0 rfl rfl 25 (by decide) (hts _ gw_439) (fun _ h9 => h9) rfl (by decide +kernel) rfl rfl (Nat.le_of_ble_eq_true rfl) nd_D_control_94 (fun H locs hP hD hS => ?_)
          have hP : va_P D vwCl (wMD h cA (sU (sU u 0 24 (((u 0 17) >>> ((16 : Int32) &&& 31)) &&& (31 : Int32))) 0 25 (0 : Int32))) H := hP
          have hD : va_D A (wMD h cA (sU (sU u 0 24 (((u 0 17) >>> ((16 : Int32) &&& 31)) &&& (31 : Int32))) 0 25 (0 : Int32))) := hD
          refine lv_goto (tgt := 186) hx hb nd_D_control_97 (by decide) ?_
          exact my_rv (u' := sU (sU u 0 24 (((u 0 17) >>> ((16 : Int32) &&& 31)) &&& (31 : Int32))) 0 25 (0 : Int32)) hx hb hr hlocks hK hP hD hS hw nd_D_control_186
        have hw := (if_pos h83).symm.trans hw
        refine lv_aload_n hx hb nd_D_control_86 rfl (lv_at hl 2 rfl) ?_
        refine va_get (D := D) (ci := 5) (v := .int (u 0 11)) (C := nR_D) (T := nT_D) (N := 28) hx hb hts nu_D hown hK hP 0 rfl rfl 11 (by decide) (hts _ gw_425) (fun _ h9 => h9) rfl nd_D_control_87 ?_
        refine lv_goto (tgt := 94) hx hb nd_D_control_90 (by decide) ?_
        refine va_put (D := D) (ci := 5) (v := .int (u 0 11)) (ty := .int) (C := nR_D) (T := nT_D) (N := 28) hx hb hts nu_D nt_D nto_D nn_D hown hK hP hD hS 0 rfl rfl 25 (by decide) (hts _ gw_439) (fun _ h9 => h9) rfl (by decide +kernel) rfl rfl (Nat.le_of_ble_eq_true rfl) nd_D_control_94 (fun H locs hP hD hS => ?_)
        have hP : va_P D vwCl (wMD h cA (sU (sU u 0 24 (((u 0 17) >>> ((16 : Int32) &&& 31)) &&& (31 : Int32))) 0 25 (u 0 11))) H := hP
        have hD : va_D A (wMD h cA (sU (sU u 0 24 (((u 0 17) >>> ((16 : Int32) &&& 31)) &&& (31 : Int32))) 0 25 (u 0 11))) := hD
        refine lv_goto (tgt := 186) hx hb nd_D_control_97 (by decide) ?_
        exact my_rv (u' := sU (sU u 0 24 (((u 0 17) >>> ((16 : Int32) &&& 31)) &&& (31 : Int32))) 0 25 (u 0 11)) hx hb hr hlocks hK hP hD hS hw nd_D_control_186
      have hw := (if_pos h70).symm.trans hw
      refine lv_aload_n hx hb nd_D_control_73 rfl (lv_at hl 2 rfl) ?_
      refine va_get (D := D) (ci := 5) (v := .int (u 0 10)) (C := nR_D) (T := nT_D) (N := 28) hx hb hts nu_D hown hK hP 0 rfl rfl 10 (by decide) (hts _ gw_424) (fun _ h9 => h9) rfl nd_D_control_74 ?_
      refine lv_goto (tgt := 94) hx hb nd_D_control_77 (by decide) ?_
      refine va_put (D := D) (ci := 5) (v := .int (u 0 10)) (ty := .int) (C := nR_D) (T := nT_D) (N := 28) hx hb hts nu_D nt_D nto_D nn_D hown hK hP hD hS 0 rfl rfl 25 (by decide) (hts _ gw_439) (fun _ h9 => h9) rfl (by decide +kernel) rfl rfl (Nat.le_of_ble_eq_true rfl) nd_D_control_94 (fun H locs hP hD hS => ?_)
      have hP : va_P D vwCl (wMD h cA (sU (sU u 0 24 (((u 0 17) >>> ((16 : Int32) &&& 31)) &&& (31 : Int32))) 0 25 (u 0 10))) H := hP
      have hD : va_D A (wMD h cA (sU (sU u 0 24 (((u 0 17) >>> ((16 : Int32) &&& 31)) &&& (31 : Int32))) 0 25 (u 0 10))) := hD
      refine lv_goto (tgt := 186) hx hb nd_D_control_97 (by decide) ?_
      exact my_rv (u' := sU (sU u 0 24 (((u 0 17) >>> ((16 : Int32) &&& 31)) &&& (31 : Int32))) 0 25 (u 0 10)) hx hb hr hlocks hK hP hD hS hw nd_D_control_186
    have hw := (if_pos h57).symm.trans hw
    refine lv_aload_n hx hb nd_D_control_60 rfl (lv_at hl 2 rfl) ?_
    refine my_ci (wd := wMD h cA) (r := f_D_cause (sU u 0 24 (((u 0 17) >>> ((16 : Int32) &&& 31)) &&& (31 : Int32)))) (u' := sU u 0 24 (((u 0 17) >>> ((16 : Int32) &&& 31)) &&& (31 : Int32))) (va_runV (As := []) (rest := [.ref (h 0)]) ⟨hx, hb, hml, hown, hts⟩ (c_D_cause l D h cA (sU u 0 24 (((u 0 17) >>> ((16 : Int32) &&& 31)) &&& (31 : Int32))) _ rfl _) ⟨callB_of 0 hts (gw_in gw_532) rfl rfl rfl (hts _ gw_6) (hts _ gw_529) nh_D_cause ⟨Nat.le_of_ble_eq_true rfl, Nat.le_of_ble_eq_true rfl⟩, (hts _ gw_531), (hts _ gw_530)⟩ (my_preV nwOk hP hK hD hN (va_recv hK hP (ci := 5) (q0 := 0) rfl rfl)) rfl rfl hl.1 rfl (lv_room (Nat.le_of_ble_eq_true rfl)) nd_D_control_61 ⟨Nat.le_of_ble_eq_true rfl, Nat.le_of_ble_eq_true rfl⟩) hD hS hA (fun H locs hP hD hS => ?_)
    refine lv_goto (tgt := 94) hx hb nd_D_control_64 (by decide) ?_
    refine va_put (D := D) (ci := 5) (v := .int (f_D_cause (sU u 0 24 (((u 0 17) >>> ((16 : Int32) &&& 31)) &&& (31 : Int32))))) (ty := .int) (C := nR_D) (T := nT_D) (N := 28) hx hb hts nu_D nt_D nto_D nn_D hown hK hP hD hS 0 rfl rfl 25 (by decide) (hts _ gw_439) (fun _ h9 => h9) rfl (by decide +kernel) rfl rfl (Nat.le_of_ble_eq_true rfl) nd_D_control_94 (fun H locs hP hD hS => ?_)
    have hP : va_P D vwCl (wMD h cA (sU (sU u 0 24 (((u 0 17) >>> ((16 : Int32) &&& 31)) &&& (31 : Int32))) 0 25 (f_D_cause (sU u 0 24 (((u 0 17) >>> ((16 : Int32) &&& 31)) &&& (31 : Int32)))))) H := hP
    have hD : va_D A (wMD h cA (sU (sU u 0 24 (((u 0 17) >>> ((16 : Int32) &&& 31)) &&& (31 : Int32))) 0 25 (f_D_cause (sU u 0 24 (((u 0 17) >>> ((16 : Int32) &&& 31)) &&& (31 : Int32)))))) := hD
    refine lv_goto (tgt := 186) hx hb nd_D_control_97 (by decide) ?_
    exact my_rv (u' := sU (sU u 0 24 (((u 0 17) >>> ((16 : Int32) &&& 31)) &&& (31 : Int32))) 0 25 (f_D_cause (sU u 0 24 (((u 0 17) >>> ((16 : Int32) &&& 31)) &&& (31 : Int32))))) hx hb hr hlocks hK hP hD hS hw nd_D_control_186
  have hw := (if_pos h44).symm.trans hw
  refine lv_aload_n hx hb nd_D_control_47 rfl (lv_at hl 2 rfl) ?_
  refine va_get (D := D) (ci := 5) (v := .int (u 0 5)) (C := nR_D) (T := nT_D) (N := 28) hx hb hts nu_D hown hK hP 0 rfl rfl 5 (by decide) (hts _ gw_419) (fun _ h9 => h9) rfl nd_D_control_48 ?_
  refine lv_goto (tgt := 94) hx hb nd_D_control_51 (by decide) ?_
  refine va_put (D := D) (ci := 5) (v := .int (u 0 5)) (ty := .int) (C := nR_D) (T := nT_D) (N := 28) hx hb hts nu_D nt_D nto_D nn_D hown hK hP hD hS 0 rfl rfl 25 (by decide) (hts _ gw_439) (fun _ h9 => h9) rfl (by decide +kernel) rfl rfl (Nat.le_of_ble_eq_true rfl) nd_D_control_94 (fun H locs hP hD hS => ?_)
  have hP : va_P D vwCl (wMD h cA (sU (sU u 0 24 (((u 0 17) >>> ((16 : Int32) &&& 31)) &&& (31 : Int32))) 0 25 (u 0 5))) H := hP
  have hD : va_D A (wMD h cA (sU (sU u 0 24 (((u 0 17) >>> ((16 : Int32) &&& 31)) &&& (31 : Int32))) 0 25 (u 0 5))) := hD
  refine lv_goto (tgt := 186) hx hb nd_D_control_97 (by decide) ?_
  exact my_rv (u' := sU (sU u 0 24 (((u 0 17) >>> ((16 : Int32) &&& 31)) &&& (31 : Int32))) 0 25 (u 0 5)) hx hb hr hlocks hK hP hD hS hw nd_D_control_186
set_option maxHeartbeats 4000000 in
set_option maxRecDepth 100000 in
theorem c_D_part (l : Launch) (D : va_G) (h : Nat → Nat) (cA : Nat → ClassId) (u : St) (a1 : Int32) (F : St) (hw : f_D_part a1 u = some F) : MV nwS vwCl l ny_D_part nw_D_part ({ frames := 1, cells := 0, slots := 0, locals := 24 }) D (tyI cA) (wMD h cA) ([.ref (h 0), .int a1] : List Value) u F := by
  refine my_in (gw := GW) (cc := nc_D_part) (maxL := 8) (ret := none) (Qc := fun A => QV vwCl D (tyI cA) (wMD h cA) F A) (by decide) rfl (Nat.le_of_ble_eq_true rfl) ?_
  intro p e s m below meth c A H locs ls hx hb hml hr hts hown hlocks hK hN hA hP hD hS hl
  have hown : s.vm.findClass nR_D = some m.cls := hown
  have hl : lv_has ls 8 [(0, .ref (h 0)), (1, .int a1)] := hl
  have J88 : ∀ (x2 : Int32) (x3 : Int32) (x4 : Int32) (x5 : Int32) (x6 : Int32) (y0 : Int32) (u : St) (H : Heap) (locs : List Loc) (ls : Array Slot), va_P D vwCl (wMD h cA u) H → va_D A (wMD h cA u) → va_S A s.heap H locs → lv_has ls 8 [(0, .ref (h 0)), (2, .int x2), (3, .int x3), (4, .int x4), (5, .int x5), (6, .int x6)] → f_D_part_b88 x2 x3 x4 x5 x6 y0 u = some F →
      W p l e (headSpec nw_D_part ({ frames := 1, cells := 0, slots := 0, locals := 24 })).room s m ([.ref (h 0), .int a1] : List Value).toArray below meth c H locs 0 0 (MQ below (QV vwCl D (tyI cA) (wMD h cA) F A) ([.ref (h 0), .int a1] : List Value).toArray s 0 0 A) (F0 m 88 ls [.int y0]) := by
    intro x2 x3 x4 x5 x6 y0 u H locs ls hP hD hS hl hw
    unfold f_D_part_b88 at hw
    refine lv_istore (lv' := [(7, .int y0), (0, .ref (h 0)), (2, .int x2), (3, .int x3), (4, .int x4), (5, .int x5), (6, .int x6)]) hx hb nd_D_part_88 hl (by decide) rfl (fun ls hl => ?_)
    refine lv_aload_n hx hb nd_D_part_90 rfl (lv_at hl 1 rfl) ?_
    refine va_get (D := D) (ci := 5) (v := .int (u 0 18)) (C := nR_D) (T := nT_D) (N := 28) hx hb hts nu_D hown hK hP 0 rfl rfl 18 (by decide) (hts _ gw_432) (fun _ h9 => h9) rfl nd_D_part_91 ?_
    refine lv_bipush (v := (34 : Int32)) hx hb nd_D_part_94 (by decide) ?_
    refine lv_icmp_ne (tgt := 136) hx hb nd_D_part_96 (by decide) (fun h96 => ?_) (fun h96 => ?_)
    · have hw := (if_neg h96).symm.trans hw
      refine lv_aload_n hx hb nd_D_part_136 rfl (lv_at hl 1 rfl) ?_
      refine va_get (D := D) (ci := 5) (v := .int (u 0 18)) (C := nR_D) (T := nT_D) (N := 28) hx hb hts nu_D hown hK hP 0 rfl rfl 18 (by decide) (hts _ gw_432) (fun _ h9 => h9) rfl nd_D_part_137 ?_
      refine lv_bipush (v := (38 : Int32)) hx hb nd_D_part_140 (by decide) ?_
      refine lv_icmp_ne (tgt := 183) hx hb nd_D_part_142 (by decide) (fun h142 => ?_) (fun h142 => ?_)
      · have hw := (if_neg h142).symm.trans hw
        refine lv_aload_n hx hb nd_D_part_183 rfl (lv_at hl 1 rfl) ?_
        refine va_get (D := D) (ci := 5) (v := .int (u 0 18)) (C := nR_D) (T := nT_D) (N := 28) hx hb hts nu_D hown hK hP 0 rfl rfl 18 (by decide) (hts _ gw_432) (fun _ h9 => h9) rfl nd_D_part_184 ?_
        refine lv_bipush (v := (42 : Int32)) hx hb nd_D_part_187 (by decide) ?_
        refine lv_icmp_ne (tgt := 214) hx hb nd_D_part_189 (by decide) (fun h189 => ?_) (fun h189 => ?_)
        · have hw := (if_neg h189).symm.trans hw
          refine lv_aload_n hx hb nd_D_part_214 rfl (lv_at hl 1 rfl) ?_
          refine lv_iload_n hx hb nd_D_part_215 rfl (lv_at hl 3 rfl) ?_
          refine lv_iload hx hb nd_D_part_216 (lv_at hl 4 rfl) ?_
          refine lv_iconst (v := (1 : Int32)) hx hb nd_D_part_218 (by decide) ?_
          refine lv_iadd hx hb nd_D_part_219 ?_
          refine lv_aload_n hx hb nd_D_part_220 rfl (lv_at hl 1 rfl) ?_
          refine va_get (D := D) (ci := 5) (v := .int (u 0 20)) (C := nR_D) (T := nT_D) (N := 28) hx hb hts nu_D hown hK hP 0 rfl rfl 20 (by decide) (hts _ gw_434) (fun _ h9 => h9) rfl nd_D_part_221 ?_
          obtain ⟨u224, hq224, hw⟩ := obv_i hw
          refine my_cv (wd := wMD h cA) (F := u224) (va_runV (As := [.int x3, .int (x4 + (1 : Int32)), .int (u 0 20)]) (rest := []) ⟨hx, hb, hml, hown, hts⟩ (c_D_store l D h cA u x3 (x4 + (1 : Int32)) (u 0 20) u224 hq224 _) ⟨callB_of 3 hts (gw_in gw_495) rfl rfl rfl (hts _ gw_6) (hts _ gw_492) nh_D_store ⟨Nat.le_of_ble_eq_true rfl, Nat.le_of_ble_eq_true rfl⟩, (hts _ gw_494), (hts _ gw_493)⟩ (my_preV nwOk hP hK hD hN (va_recv hK hP (ci := 5) (q0 := 0) rfl rfl)) rfl rfl hl.1 rfl (lv_room (Nat.le_of_ble_eq_true rfl)) nd_D_part_224 ⟨Nat.le_of_ble_eq_true rfl, Nat.le_of_ble_eq_true rfl⟩) hD hS hA (fun H locs hP hD hS => ?_)
          exact my_rv (u' := u224) hx hb hr hlocks hK hP hD hS (Option.some.inj hw) nd_D_part_227
        have hw := (if_pos h189).symm.trans hw
        refine lv_aload_n hx hb nd_D_part_192 rfl (lv_at hl 1 rfl) ?_
        refine lv_iload_n hx hb nd_D_part_193 rfl (lv_at hl 3 rfl) ?_
        refine lv_iload hx hb nd_D_part_194 (lv_at hl 4 rfl) ?_
        refine lv_iadd hx hb nd_D_part_196 ?_
        refine lv_iconst (v := (4 : Int32)) hx hb nd_D_part_197 (by decide) ?_
        refine lv_iload hx hb nd_D_part_198 (lv_at hl 4 rfl) ?_
        refine lv_isub hx hb nd_D_part_200 ?_
        refine lv_aload_n hx hb nd_D_part_201 rfl (lv_at hl 1 rfl) ?_
        refine va_get (D := D) (ci := 5) (v := .int (u 0 20)) (C := nR_D) (T := nT_D) (N := 28) hx hb hts nu_D hown hK hP 0 rfl rfl 20 (by decide) (hts _ gw_434) (fun _ h9 => h9) rfl nd_D_part_202 ?_
        refine lv_iload hx hb nd_D_part_205 (lv_at hl 0 rfl) ?_
        refine lv_iushr (v := ush (u 0 20) y0) hx hb nd_D_part_207 rfl ?_
        obtain ⟨u208, hq208, hw⟩ := obv_i hw
        refine my_cv (wd := wMD h cA) (F := u208) (va_runV (As := [.int (x3 + x4), .int ((4 : Int32) - x4), .int (ush (u 0 20) y0)]) (rest := []) ⟨hx, hb, hml, hown, hts⟩ (c_D_store l D h cA u (x3 + x4) ((4 : Int32) - x4) (ush (u 0 20) y0) u208 hq208 _) ⟨callB_of 3 hts (gw_in gw_495) rfl rfl rfl (hts _ gw_6) (hts _ gw_492) nh_D_store ⟨Nat.le_of_ble_eq_true rfl, Nat.le_of_ble_eq_true rfl⟩, (hts _ gw_494), (hts _ gw_493)⟩ (my_preV nwOk hP hK hD hN (va_recv hK hP (ci := 5) (q0 := 0) rfl rfl)) rfl rfl hl.1 rfl (lv_room (Nat.le_of_ble_eq_true rfl)) nd_D_part_208 ⟨Nat.le_of_ble_eq_true rfl, Nat.le_of_ble_eq_true rfl⟩) hD hS hA (fun H locs hP hD hS => ?_)
        refine lv_goto (tgt := 227) hx hb nd_D_part_211 (by decide) ?_
        exact my_rv (u' := u208) hx hb hr hlocks hK hP hD hS (Option.some.inj hw) nd_D_part_227
      have hw := (if_pos h142).symm.trans hw
      refine lv_aload_n hx hb nd_D_part_145 rfl (lv_at hl 1 rfl) ?_
      refine lv_iload_n hx hb nd_D_part_146 rfl (lv_at hl 2 rfl) ?_
      refine va_put (D := D) (ci := 5) (v := .int x2) (ty := .int) (C := nR_D) (T := nT_D) (N := 28) hx hb hts nu_D nt_D nto_D nn_D hown hK hP hD hS 0 rfl rfl 24 (by decide) (hts _ gw_438) (fun _ h9 => h9) rfl (by decide +kernel) rfl rfl (Nat.le_of_ble_eq_true rfl) nd_D_part_147 (fun H locs hP hD hS => ?_)
      have hP : va_P D vwCl (wMD h cA (sU u 0 24 x2)) H := hP
      have hD : va_D A (wMD h cA (sU u 0 24 x2)) := hD
      refine lv_aload_n hx hb nd_D_part_150 rfl (lv_at hl 1 rfl) ?_
      refine lv_iload hx hb nd_D_part_151 (lv_at hl 0 rfl) ?_
      refine lv_if_ne (tgt := 161) hx hb nd_D_part_153 (by decide) (fun h153 => ?_) (fun h153 => ?_)
      · have hw := (if_neg h153).symm.trans hw
        refine lv_iload hx hb nd_D_part_161 (lv_at hl 6 rfl) ?_
        refine lv_iload hx hb nd_D_part_163 (lv_at hl 0 rfl) ?_
        refine lv_iushr (v := ush x6 y0) hx hb nd_D_part_165 rfl ?_
        refine lv_iload hx hb nd_D_part_166 (lv_at hl 5 rfl) ?_
        refine lv_iconst (v := (-1 : Int32)) hx hb nd_D_part_168 (by decide) ?_
        refine lv_bipush (v := (32 : Int32)) hx hb nd_D_part_169 (by decide) ?_
        refine lv_iload hx hb nd_D_part_171 (lv_at hl 0 rfl) ?_
        refine lv_isub hx hb nd_D_part_173 ?_
        refine lv_ishl hx hb nd_D_part_174 ?_
        refine lv_iand hx hb nd_D_part_175 ?_
        refine lv_ior hx hb nd_D_part_176 ?_
        refine va_put (D := D) (ci := 5) (v := .int ((ush x6 y0) ||| (x5 &&& ((-1 : Int32) <<< (((32 : Int32) - y0) &&& 31))))) (ty := .int) (C := nR_D) (T := nT_D) (N := 28) hx hb hts nu_D nt_D nto_D nn_D hown hK hP hD hS 0 rfl rfl 25 (by decide) (hts _ gw_439) (fun _ h9 => h9) rfl (by decide +kernel) rfl rfl (Nat.le_of_ble_eq_true rfl) nd_D_part_177 (fun H locs hP hD hS => ?_)
        have hP : va_P D vwCl (wMD h cA (sU (sU u 0 24 x2) 0 25 ((ush x6 y0) ||| (x5 &&& ((-1 : Int32) <<< (((32 : Int32) - y0) &&& 31)))))) H := hP
        have hD : va_D A (wMD h cA (sU (sU u 0 24 x2) 0 25 ((ush x6 y0) ||| (x5 &&& ((-1 : Int32) <<< (((32 : Int32) - y0) &&& 31)))))) := hD
        refine lv_goto (tgt := 227) hx hb nd_D_part_180 (by decide) ?_
        exact my_rv (u' := sU (sU u 0 24 x2) 0 25 ((ush x6 y0) ||| (x5 &&& ((-1 : Int32) <<< (((32 : Int32) - y0) &&& 31))))) hx hb hr hlocks hK hP hD hS (Option.some.inj hw) nd_D_part_227
      have hw := (if_pos h153).symm.trans hw
      refine lv_iload hx hb nd_D_part_156 (lv_at hl 6 rfl) ?_
      refine lv_goto (tgt := 177) hx hb nd_D_part_158 (by decide) ?_
      refine va_put (D := D) (ci := 5) (v := .int x6) (ty := .int) (C := nR_D) (T := nT_D) (N := 28) hx hb hts nu_D nt_D nto_D nn_D hown hK hP hD hS 0 rfl rfl 25 (by decide) (hts _ gw_439) (fun _ h9 => h9) rfl (by decide +kernel) rfl rfl (Nat.le_of_ble_eq_true rfl) nd_D_part_177 (fun H locs hP hD hS => ?_)
      have hP : va_P D vwCl (wMD h cA (sU (sU u 0 24 x2) 0 25 x6)) H := hP
      have hD : va_D A (wMD h cA (sU (sU u 0 24 x2) 0 25 x6)) := hD
      refine lv_goto (tgt := 227) hx hb nd_D_part_180 (by decide) ?_
      exact my_rv (u' := sU (sU u 0 24 x2) 0 25 x6) hx hb hr hlocks hK hP hD hS (Option.some.inj hw) nd_D_part_227
    have hw := (if_pos h96).symm.trans hw
    refine lv_aload_n hx hb nd_D_part_99 rfl (lv_at hl 1 rfl) ?_
    refine lv_iload_n hx hb nd_D_part_100 rfl (lv_at hl 2 rfl) ?_
    refine va_put (D := D) (ci := 5) (v := .int x2) (ty := .int) (C := nR_D) (T := nT_D) (N := 28) hx hb hts nu_D nt_D nto_D nn_D hown hK hP hD hS 0 rfl rfl 24 (by decide) (hts _ gw_438) (fun _ h9 => h9) rfl (by decide +kernel) rfl rfl (Nat.le_of_ble_eq_true rfl) nd_D_part_101 (fun H locs hP hD hS => ?_)
    have hP : va_P D vwCl (wMD h cA (sU u 0 24 x2)) H := hP
    have hD : va_D A (wMD h cA (sU u 0 24 x2)) := hD
    refine lv_aload_n hx hb nd_D_part_104 rfl (lv_at hl 1 rfl) ?_
    refine lv_iload hx hb nd_D_part_105 (lv_at hl 0 rfl) ?_
    refine lv_if_ne (tgt := 115) hx hb nd_D_part_107 (by decide) (fun h107 => ?_) (fun h107 => ?_)
    · have hw := (if_neg h107).symm.trans hw
      refine lv_iload hx hb nd_D_part_115 (lv_at hl 6 rfl) ?_
      refine lv_iload hx hb nd_D_part_117 (lv_at hl 0 rfl) ?_
      refine lv_ishl hx hb nd_D_part_119 ?_
      refine lv_iload hx hb nd_D_part_120 (lv_at hl 5 rfl) ?_
      refine lv_iconst (v := (1 : Int32)) hx hb nd_D_part_122 (by decide) ?_
      refine lv_iload hx hb nd_D_part_123 (lv_at hl 0 rfl) ?_
      refine lv_ishl hx hb nd_D_part_125 ?_
      refine lv_iconst (v := (1 : Int32)) hx hb nd_D_part_126 (by decide) ?_
      refine lv_isub hx hb nd_D_part_127 ?_
      refine lv_iand hx hb nd_D_part_128 ?_
      refine lv_ior hx hb nd_D_part_129 ?_
      refine va_put (D := D) (ci := 5) (v := .int ((x6 <<< (y0 &&& 31)) ||| (x5 &&& (((1 : Int32) <<< (y0 &&& 31)) - (1 : Int32))))) (ty := .int) (C := nR_D) (T := nT_D) (N := 28) hx hb hts nu_D nt_D nto_D nn_D hown hK hP hD hS 0 rfl rfl 25 (by decide) (hts _ gw_439) (fun _ h9 => h9) rfl (by decide +kernel) rfl rfl (Nat.le_of_ble_eq_true rfl) nd_D_part_130 (fun H locs hP hD hS => ?_)
      have hP : va_P D vwCl (wMD h cA (sU (sU u 0 24 x2) 0 25 ((x6 <<< (y0 &&& 31)) ||| (x5 &&& (((1 : Int32) <<< (y0 &&& 31)) - (1 : Int32)))))) H := hP
      have hD : va_D A (wMD h cA (sU (sU u 0 24 x2) 0 25 ((x6 <<< (y0 &&& 31)) ||| (x5 &&& (((1 : Int32) <<< (y0 &&& 31)) - (1 : Int32)))))) := hD
      refine lv_goto (tgt := 227) hx hb nd_D_part_133 (by decide) ?_
      exact my_rv (u' := sU (sU u 0 24 x2) 0 25 ((x6 <<< (y0 &&& 31)) ||| (x5 &&& (((1 : Int32) <<< (y0 &&& 31)) - (1 : Int32))))) hx hb hr hlocks hK hP hD hS (Option.some.inj hw) nd_D_part_227
    have hw := (if_pos h107).symm.trans hw
    refine lv_iload hx hb nd_D_part_110 (lv_at hl 6 rfl) ?_
    refine lv_goto (tgt := 130) hx hb nd_D_part_112 (by decide) ?_
    refine va_put (D := D) (ci := 5) (v := .int x6) (ty := .int) (C := nR_D) (T := nT_D) (N := 28) hx hb hts nu_D nt_D nto_D nn_D hown hK hP hD hS 0 rfl rfl 25 (by decide) (hts _ gw_439) (fun _ h9 => h9) rfl (by decide +kernel) rfl rfl (Nat.le_of_ble_eq_true rfl) nd_D_part_130 (fun H locs hP hD hS => ?_)
    have hP : va_P D vwCl (wMD h cA (sU (sU u 0 24 x2) 0 25 x6)) H := hP
    have hD : va_D A (wMD h cA (sU (sU u 0 24 x2) 0 25 x6)) := hD
    refine lv_goto (tgt := 227) hx hb nd_D_part_133 (by decide) ?_
    exact my_rv (u' := sU (sU u 0 24 x2) 0 25 x6) hx hb hr hlocks hK hP hD hS (Option.some.inj hw) nd_D_part_227
  have J73 : ∀ (x2 : Int32) (x3 : Int32) (x4 : Int32) (x5 : Int32) (x6 : Int32) (u : St) (H : Heap) (locs : List Loc) (ls : Array Slot), va_P D vwCl (wMD h cA u) H → va_D A (wMD h cA u) → va_S A s.heap H locs → lv_has ls 8 [(0, .ref (h 0)), (2, .int x2), (3, .int x3), (4, .int x4), (5, .int x5), (6, .int x6)] → f_D_part_b73 x2 x3 x4 x5 x6 u = some F →
      W p l e (headSpec nw_D_part ({ frames := 1, cells := 0, slots := 0, locals := 24 })).room s m ([.ref (h 0), .int a1] : List Value).toArray below meth c H locs 0 0 (MQ below (QV vwCl D (tyI cA) (wMD h cA) F A) ([.ref (h 0), .int a1] : List Value).toArray s 0 0 A) (F0 m 73 ls []) := by
    intro x2 x3 x4 x5 x6 u H locs ls hP hD hS hl hw
    unfold f_D_part_b73 at hw
    refine lv_bipush (v := (8 : Int32)) hx hb nd_D_part_73 (by decide) ?_
    refine lv_iload hx hb nd_D_part_75 (lv_at hl 3 rfl) ?_
    refine lv_imul hx hb nd_D_part_77 ?_
    refine lv_goto (tgt := 88) hx hb nd_D_part_78 (by decide) ?_
    exact J88 x2 x3 x4 x5 x6 ((8 : Int32) * x4) u H locs ls hP hD hS (lv_sub hl [0, 1, 2, 3, 4, 5] rfl) hw
  have J45 : ∀ (x2 : Int32) (x3 : Int32) (x4 : Int32) (y0 : Int32) (u : St) (H : Heap) (locs : List Loc) (ls : Array Slot), va_P D vwCl (wMD h cA u) H → va_D A (wMD h cA u) → va_S A s.heap H locs → lv_has ls 8 [(0, .ref (h 0)), (2, .int x2), (3, .int x3), (4, .int x4)] → f_D_part_b45 x2 x3 x4 y0 u = some F →
      W p l e (headSpec nw_D_part ({ frames := 1, cells := 0, slots := 0, locals := 24 })).room s m ([.ref (h 0), .int a1] : List Value).toArray below meth c H locs 0 0 (MQ below (QV vwCl D (tyI cA) (wMD h cA) F A) ([.ref (h 0), .int a1] : List Value).toArray s 0 0 A) (F0 m 45 ls [.int y0]) := by
    intro x2 x3 x4 y0 u H locs ls hP hD hS hl hw
    unfold f_D_part_b45 at hw
    refine lv_istore (lv' := [(5, .int y0), (0, .ref (h 0)), (2, .int x2), (3, .int x3), (4, .int x4)]) hx hb nd_D_part_45 hl (by decide) rfl (fun ls hl => ?_)
    refine lv_aload_n hx hb nd_D_part_47 rfl (lv_at hl 1 rfl) ?_
    refine lv_iload_n hx hb nd_D_part_48 rfl (lv_at hl 3 rfl) ?_
    refine lv_iconst (v := (4 : Int32)) hx hb nd_D_part_49 (by decide) ?_
    obtain ⟨r50, hq50, hw⟩ := obv_i hw
    refine my_ci (wd := wMD h cA) (r := r50) (u' := u) (va_runV (As := [.int x3, .int (4 : Int32)]) (rest := []) ⟨hx, hb, hml, hown, hts⟩ (c_D_load l D h cA u x3 (4 : Int32) r50 hq50 _) ⟨callB_of 2 hts (gw_in gw_491) rfl rfl rfl (hts _ gw_6) (hts _ gw_488) nh_D_load ⟨Nat.le_of_ble_eq_true rfl, Nat.le_of_ble_eq_true rfl⟩, (hts _ gw_490), (hts _ gw_489)⟩ (my_preV nwOk hP hK hD hN (va_recv hK hP (ci := 5) (q0 := 0) rfl rfl)) rfl rfl hl.1 rfl (lv_room (Nat.le_of_ble_eq_true rfl)) nd_D_part_50 ⟨Nat.le_of_ble_eq_true rfl, Nat.le_of_ble_eq_true rfl⟩) hD hS hA (fun H locs hP hD hS => ?_)
    refine lv_istore (lv' := [(6, .int r50), (5, .int y0), (0, .ref (h 0)), (2, .int x2), (3, .int x3), (4, .int x4)]) hx hb nd_D_part_53 hl (by decide) rfl (fun ls hl => ?_)
    refine lv_aload_n hx hb nd_D_part_55 rfl (lv_at hl 2 rfl) ?_
    refine va_get (D := D) (ci := 5) (v := .int (u 0 18)) (C := nR_D) (T := nT_D) (N := 28) hx hb hts nu_D hown hK hP 0 rfl rfl 18 (by decide) (hts _ gw_432) (fun _ h9 => h9) rfl nd_D_part_56 ?_
    refine lv_bipush (v := (34 : Int32)) hx hb nd_D_part_59 (by decide) ?_
    refine lv_icmp_eq (tgt := 73) hx hb nd_D_part_61 (by decide) (fun h61 => ?_) (fun h61 => ?_)
    · have hw := (if_pos h61).symm.trans hw
      exact J73 x2 x3 x4 y0 r50 u H locs ls hP hD hS (lv_sub hl [2, 3, 4, 5, 1, 0] rfl) hw
    have hw := (if_neg h61).symm.trans hw
    refine lv_aload_n hx hb nd_D_part_64 rfl (lv_at hl 2 rfl) ?_
    refine va_get (D := D) (ci := 5) (v := .int (u 0 18)) (C := nR_D) (T := nT_D) (N := 28) hx hb hts nu_D hown hK hP 0 rfl rfl 18 (by decide) (hts _ gw_432) (fun _ h9 => h9) rfl nd_D_part_65 ?_
    refine lv_bipush (v := (42 : Int32)) hx hb nd_D_part_68 (by decide) ?_
    refine lv_icmp_ne (tgt := 81) hx hb nd_D_part_70 (by decide) (fun h70 => ?_) (fun h70 => ?_)
    · have hw := (if_neg h70).symm.trans hw
      refine lv_bipush (v := (8 : Int32)) hx hb nd_D_part_81 (by decide) ?_
      refine lv_iconst (v := (3 : Int32)) hx hb nd_D_part_83 (by decide) ?_
      refine lv_iload hx hb nd_D_part_84 (lv_at hl 5 rfl) ?_
      refine lv_isub hx hb nd_D_part_86 ?_
      refine lv_imul hx hb nd_D_part_87 ?_
      exact J88 x2 x3 x4 y0 r50 ((8 : Int32) * ((3 : Int32) - x4)) u H locs ls hP hD hS (lv_sub hl [2, 3, 4, 5, 1, 0] rfl) hw
    have hw := (if_pos h70).symm.trans hw
    exact J73 x2 x3 x4 y0 r50 u H locs ls hP hD hS (lv_sub hl [2, 3, 4, 5, 1, 0] rfl) hw
  unfold f_D_part at hw
  refine lv_aload_n hx hb nd_D_part_0 rfl (lv_at hl 0 rfl) ?_
  refine va_get (D := D) (ci := 5) (v := .int (u 0 17)) (C := nR_D) (T := nT_D) (N := 28) hx hb hts nu_D hown hK hP 0 rfl rfl 17 (by decide) (hts _ gw_431) (fun _ h9 => h9) rfl nd_D_part_1 ?_
  refine lv_bipush (v := (16 : Int32)) hx hb nd_D_part_4 (by decide) ?_
  refine lv_ishr hx hb nd_D_part_6 ?_
  refine lv_bipush (v := (31 : Int32)) hx hb nd_D_part_7 (by decide) ?_
  refine lv_iand hx hb nd_D_part_9 ?_
  refine lv_istore_n (lv' := [(2, .int (((u 0 17) >>> ((16 : Int32) &&& 31)) &&& (31 : Int32))), (0, .ref (h 0)), (1, .int a1)]) hx hb nd_D_part_10 rfl hl (by decide) rfl (fun ls hl => ?_)
  refine lv_iload_n hx hb nd_D_part_11 rfl (lv_at hl 2 rfl) ?_
  refine lv_ldc (own := nR_D) (v := (536870911 : Int32)) hx hb hown (hts _ gw_554) nd_D_part_12 ?_
  refine lv_iand hx hb nd_D_part_14 ?_
  refine lv_bipush (v := (-4 : Int32)) hx hb nd_D_part_15 (by decide) ?_
  refine lv_iand hx hb nd_D_part_17 ?_
  refine lv_istore_n (lv' := [(3, .int ((a1 &&& (536870911 : Int32)) &&& (-4 : Int32))), (2, .int (((u 0 17) >>> ((16 : Int32) &&& 31)) &&& (31 : Int32))), (0, .ref (h 0)), (1, .int a1)]) hx hb nd_D_part_18 rfl hl (by decide) rfl (fun ls hl => ?_)
  refine lv_iload_n hx hb nd_D_part_19 rfl (lv_at hl 3 rfl) ?_
  refine lv_iconst (v := (3 : Int32)) hx hb nd_D_part_20 (by decide) ?_
  refine lv_iand hx hb nd_D_part_21 ?_
  refine lv_istore (lv' := [(4, .int (a1 &&& (3 : Int32))), (3, .int ((a1 &&& (536870911 : Int32)) &&& (-4 : Int32))), (2, .int (((u 0 17) >>> ((16 : Int32) &&& 31)) &&& (31 : Int32))), (0, .ref (h 0)), (1, .int a1)]) hx hb nd_D_part_22 hl (by decide) rfl (fun ls hl => ?_)
  refine lv_aload_n hx hb nd_D_part_24 rfl (lv_at hl 3 rfl) ?_
  refine va_get (D := D) (ci := 5) (v := .int (u 0 13)) (C := nR_D) (T := nT_D) (N := 28) hx hb hts nu_D hown hK hP 0 rfl rfl 13 (by decide) (hts _ gw_427) (fun _ h9 => h9) rfl nd_D_part_25 ?_
  refine lv_iload_n hx hb nd_D_part_28 rfl (lv_at hl 2 rfl) ?_
  refine lv_icmp_ne (tgt := 39) hx hb nd_D_part_29 (by decide) (fun h29 => ?_) (fun h29 => ?_)
  · have hw := (if_neg h29).symm.trans hw
    refine lv_aload_n hx hb nd_D_part_39 rfl (lv_at hl 3 rfl) ?_
    refine va_get (D := D) (ci := 5) (v := .ref (h 2)) (C := nR_D) (T := nT_D) (N := 28) hx hb hts nu_D hown hK hP 0 rfl rfl 2 (by decide) (hts _ gw_416) (fun _ h9 => h9) rfl nd_D_part_40 ?_
    refine lv_iload_n hx hb nd_D_part_43 rfl (lv_at hl 2 rfl) ?_
    obtain ⟨hi44, hw⟩ := inb_i hw
    refine va_iald hx hb hK hP 2 1 rfl rfl hi44 nd_D_part_44 ?_
    exact J45 (((u 0 17) >>> ((16 : Int32) &&& 31)) &&& (31 : Int32)) ((a1 &&& (536870911 : Int32)) &&& (-4 : Int32)) (a1 &&& (3 : Int32)) ((u 2) (((u 0 17) >>> ((16 : Int32) &&& 31)) &&& (31 : Int32)).toNatClampNeg) u H locs ls hP hD hS (lv_sub hl [3, 2, 1, 0] rfl) hw
  have hw := (if_pos h29).symm.trans hw
  refine lv_aload_n hx hb nd_D_part_32 rfl (lv_at hl 3 rfl) ?_
  refine va_get (D := D) (ci := 5) (v := .int (u 0 14)) (C := nR_D) (T := nT_D) (N := 28) hx hb hts nu_D hown hK hP 0 rfl rfl 14 (by decide) (hts _ gw_428) (fun _ h9 => h9) rfl nd_D_part_33 ?_
  refine lv_goto (tgt := 45) hx hb nd_D_part_36 (by decide) ?_
  exact J45 (((u 0 17) >>> ((16 : Int32) &&& 31)) &&& (31 : Int32)) ((a1 &&& (536870911 : Int32)) &&& (-4 : Int32)) (a1 &&& (3 : Int32)) (u 0 14) u H locs ls hP hD hS (lv_sub hl [3, 2, 1, 0] rfl) hw
set_option maxHeartbeats 4000000 in
set_option maxRecDepth 100000 in
theorem c_D_memory (l : Launch) (D : va_G) (h : Nat → Nat) (cA : Nat → ClassId) (u : St) (F : St) (hw : f_D_memory u = some F) : MV nwS vwCl l ny_D_memory nw_D_memory ({ frames := 2, cells := 0, slots := 0, locals := 51 }) D (tyI cA) (wMD h cA) ([.ref (h 0)] : List Value) u F := by
  refine my_in (gw := GW) (cc := nc_D_memory) (maxL := 5) (ret := none) (Qc := fun A => QV vwCl D (tyI cA) (wMD h cA) F A) (by decide) rfl (Nat.le_of_ble_eq_true rfl) ?_
  intro p e s m below meth c A H locs ls hx hb hml hr hts hown hlocks hK hN hA hP hD hS hl
  have hown : s.vm.findClass nR_D = some m.cls := hown
  have hl : lv_has ls 5 [(0, .ref (h 0))] := hl
  unfold f_D_memory at hw
  refine lv_aload_n hx hb nd_D_memory_0 rfl (lv_at hl 0 rfl) ?_
  refine va_get (D := D) (ci := 5) (v := .int (u 0 19)) (C := nR_D) (T := nT_D) (N := 28) hx hb hts nu_D hown hK hP 0 rfl rfl 19 (by decide) (hts _ gw_433) (fun _ h9 => h9) rfl nd_D_memory_1 ?_
  refine lv_aload_n hx hb nd_D_memory_4 rfl (lv_at hl 0 rfl) ?_
  refine my_ci (wd := wMD h cA) (r := f_D_number u) (u' := u) (va_runV (As := []) (rest := [.int (u 0 19)]) ⟨hx, hb, hml, hown, hts⟩ (c_D_number l D h cA u _ rfl _) ⟨callB_of 0 hts (gw_in gw_577) rfl rfl rfl (hts _ gw_6) (hts _ gw_574) nh_D_number ⟨Nat.le_of_ble_eq_true rfl, Nat.le_of_ble_eq_true rfl⟩, (hts _ gw_576), (hts _ gw_575)⟩ (my_preV nwOk hP hK hD hN (va_recv hK hP (ci := 5) (q0 := 0) rfl rfl)) rfl rfl hl.1 rfl (lv_room (Nat.le_of_ble_eq_true rfl)) nd_D_memory_5 ⟨Nat.le_of_ble_eq_true rfl, Nat.le_of_ble_eq_true rfl⟩) hD hS hA (fun H locs hP hD hS => ?_)
  refine lv_iadd hx hb nd_D_memory_8 ?_
  refine lv_istore_n (lv' := [(1, .int ((u 0 19) + (f_D_number u))), (0, .ref (h 0))]) hx hb nd_D_memory_9 rfl hl (by decide) rfl (fun ls hl => ?_)
  refine lv_aload_n hx hb nd_D_memory_10 rfl (lv_at hl 1 rfl) ?_
  refine my_ci (wd := wMD h cA) (r := zb (f_D_isPart u)) (u' := u) (va_runV (As := []) (rest := []) ⟨hx, hb, hml, hown, hts⟩ (c_D_isPart l D h cA u _ rfl _) ⟨callB_of 0 hts (gw_in gw_585) rfl rfl rfl (hts _ gw_6) (hts _ gw_582) nh_D_isPart ⟨Nat.le_of_ble_eq_true rfl, Nat.le_of_ble_eq_true rfl⟩, (hts _ gw_584), (hts _ gw_583)⟩ (my_preV nwOk hP hK hD hN (va_recv hK hP (ci := 5) (q0 := 0) rfl rfl)) rfl rfl hl.1 rfl (lv_room (Nat.le_of_ble_eq_true rfl)) nd_D_memory_11 ⟨Nat.le_of_ble_eq_true rfl, Nat.le_of_ble_eq_true rfl⟩) hD hS hA (fun H locs hP hD hS => ?_)
  refine lv_if_eq (tgt := 23) hx hb nd_D_memory_14 (by decide) (fun h14 => ?_) (fun h14 => ?_)
  · have hw := (if_pos h14).symm.trans hw
    refine lv_iload_n hx hb nd_D_memory_23 rfl (lv_at hl 0 rfl) ?_
    refine lv_ldc (own := nR_D) (v := (536870911 : Int32)) hx hb hown (hts _ gw_554) nd_D_memory_24 ?_
    refine lv_iand hx hb nd_D_memory_26 ?_
    refine lv_istore_n (lv' := [(2, .int (((u 0 19) + (f_D_number u)) &&& (536870911 : Int32))), (1, .int ((u 0 19) + (f_D_number u))), (0, .ref (h 0))]) hx hb nd_D_memory_27 rfl hl (by decide) rfl (fun ls hl => ?_)
    refine lv_aload_n hx hb nd_D_memory_28 rfl (lv_at hl 2 rfl) ?_
    refine my_ci (wd := wMD h cA) (r := f_D_moved u) (u' := u) (va_runV (As := []) (rest := []) ⟨hx, hb, hml, hown, hts⟩ (c_D_moved l D h cA u _ rfl _) ⟨callB_of 0 hts (gw_in gw_589) rfl rfl rfl (hts _ gw_6) (hts _ gw_586) nh_D_moved ⟨Nat.le_of_ble_eq_true rfl, Nat.le_of_ble_eq_true rfl⟩, (hts _ gw_588), (hts _ gw_587)⟩ (my_preV nwOk hP hK hD hN (va_recv hK hP (ci := 5) (q0 := 0) rfl rfl)) rfl rfl hl.1 rfl (lv_room (Nat.le_of_ble_eq_true rfl)) nd_D_memory_29 ⟨Nat.le_of_ble_eq_true rfl, Nat.le_of_ble_eq_true rfl⟩) hD hS hA (fun H locs hP hD hS => ?_)
    refine lv_istore_n (lv' := [(3, .int (f_D_moved u)), (2, .int (((u 0 19) + (f_D_number u)) &&& (536870911 : Int32))), (1, .int ((u 0 19) + (f_D_number u))), (0, .ref (h 0))]) hx hb nd_D_memory_32 rfl hl (by decide) rfl (fun ls hl => ?_)
    refine lv_aload_n hx hb nd_D_memory_33 rfl (lv_at hl 3 rfl) ?_
    refine va_get (D := D) (ci := 5) (v := .int (u 0 18)) (C := nR_D) (T := nT_D) (N := 28) hx hb hts nu_D hown hK hP 0 rfl rfl 18 (by decide) (hts _ gw_432) (fun _ h9 => h9) rfl nd_D_memory_34 ?_
    refine lv_bipush (v := (40 : Int32)) hx hb nd_D_memory_37 (by decide) ?_
    refine lv_icmp_lt (tgt := 53) hx hb nd_D_memory_39 (by decide) (fun h39 => ?_) (fun h39 => ?_)
    · have hw := (if_pos h39).symm.trans hw
      refine lv_aload_n hx hb nd_D_memory_53 rfl (lv_at hl 3 rfl) ?_
      refine lv_iload_n hx hb nd_D_memory_54 rfl (lv_at hl 1 rfl) ?_
      refine lv_iload_n hx hb nd_D_memory_55 rfl (lv_at hl 0 rfl) ?_
      obtain ⟨r56, hq56, hw⟩ := obv_i hw
      refine my_ci (wd := wMD h cA) (r := r56) (u' := u) (va_runV (As := [.int (((u 0 19) + (f_D_number u)) &&& (536870911 : Int32)), .int (f_D_moved u)]) (rest := []) ⟨hx, hb, hml, hown, hts⟩ (c_D_load l D h cA u (((u 0 19) + (f_D_number u)) &&& (536870911 : Int32)) (f_D_moved u) r56 hq56 _) ⟨callB_of 2 hts (gw_in gw_491) rfl rfl rfl (hts _ gw_6) (hts _ gw_488) nh_D_load ⟨Nat.le_of_ble_eq_true rfl, Nat.le_of_ble_eq_true rfl⟩, (hts _ gw_490), (hts _ gw_489)⟩ (my_preV nwOk hP hK hD hN (va_recv hK hP (ci := 5) (q0 := 0) rfl rfl)) rfl rfl hl.1 rfl (lv_room (Nat.le_of_ble_eq_true rfl)) nd_D_memory_56 ⟨Nat.le_of_ble_eq_true rfl, Nat.le_of_ble_eq_true rfl⟩) hD hS hA (fun H locs hP hD hS => ?_)
      refine lv_istore (lv' := [(4, .int r56), (3, .int (f_D_moved u)), (2, .int (((u 0 19) + (f_D_number u)) &&& (536870911 : Int32))), (1, .int ((u 0 19) + (f_D_number u))), (0, .ref (h 0))]) hx hb nd_D_memory_59 hl (by decide) rfl (fun ls hl => ?_)
      refine lv_aload_n hx hb nd_D_memory_61 rfl (lv_at hl 4 rfl) ?_
      refine lv_aload_n hx hb nd_D_memory_62 rfl (lv_at hl 4 rfl) ?_
      refine va_get (D := D) (ci := 5) (v := .int (u 0 17)) (C := nR_D) (T := nT_D) (N := 28) hx hb hts nu_D hown hK hP 0 rfl rfl 17 (by decide) (hts _ gw_431) (fun _ h9 => h9) rfl nd_D_memory_63 ?_
      refine lv_bipush (v := (16 : Int32)) hx hb nd_D_memory_66 (by decide) ?_
      refine lv_ishr hx hb nd_D_memory_68 ?_
      refine lv_bipush (v := (31 : Int32)) hx hb nd_D_memory_69 (by decide) ?_
      refine lv_iand hx hb nd_D_memory_71 ?_
      refine va_put (D := D) (ci := 5) (v := .int (((u 0 17) >>> ((16 : Int32) &&& 31)) &&& (31 : Int32))) (ty := .int) (C := nR_D) (T := nT_D) (N := 28) hx hb hts nu_D nt_D nto_D nn_D hown hK hP hD hS 0 rfl rfl 24 (by decide) (hts _ gw_438) (fun _ h9 => h9) rfl (by decide +kernel) rfl rfl (Nat.le_of_ble_eq_true rfl) nd_D_memory_72 (fun H locs hP hD hS => ?_)
      have hP : va_P D vwCl (wMD h cA (sU u 0 24 (((u 0 17) >>> ((16 : Int32) &&& 31)) &&& (31 : Int32)))) H := hP
      have hD : va_D A (wMD h cA (sU u 0 24 (((u 0 17) >>> ((16 : Int32) &&& 31)) &&& (31 : Int32)))) := hD
      refine lv_aload_n hx hb nd_D_memory_75 rfl (lv_at hl 4 rfl) ?_
      refine lv_aload_n hx hb nd_D_memory_76 rfl (lv_at hl 4 rfl) ?_
      refine va_get (D := D) (ci := 5) (v := .int (u 0 18)) (C := nR_D) (T := nT_D) (N := 28) hx hb hts nu_D hown hK hP 0 rfl rfl 18 (by decide) (hts _ gw_432) (fun _ h9 => h9) rfl nd_D_memory_77 ?_
      refine lv_bipush (v := (32 : Int32)) hx hb nd_D_memory_80 (by decide) ?_
      refine lv_icmp_ne (tgt := 96) hx hb nd_D_memory_82 (by decide) (fun h82 => ?_) (fun h82 => ?_)
      · have hw := (if_neg h82).symm.trans hw
        refine lv_aload_n hx hb nd_D_memory_96 rfl (lv_at hl 4 rfl) ?_
        refine va_get (D := D) (ci := 5) (v := .int (u 0 18)) (C := nR_D) (T := nT_D) (N := 28) hx hb hts nu_D hown hK hP 0 rfl rfl 18 (by decide) (hts _ gw_432) (fun _ h9 => h9) rfl nd_D_memory_97 ?_
        refine lv_bipush (v := (33 : Int32)) hx hb nd_D_memory_100 (by decide) ?_
        refine lv_icmp_ne (tgt := 116) hx hb nd_D_memory_102 (by decide) (fun h102 => ?_) (fun h102 => ?_)
        · have hw := (if_neg h102).symm.trans hw
          refine lv_iload hx hb nd_D_memory_116 (lv_at hl 0 rfl) ?_
          refine va_put (D := D) (ci := 5) (v := .int r56) (ty := .int) (C := nR_D) (T := nT_D) (N := 28) hx hb hts nu_D nt_D nto_D nn_D hown hK hP hD hS 0 rfl rfl 25 (by decide) (hts _ gw_439) (fun _ h9 => h9) rfl (by decide +kernel) rfl rfl (Nat.le_of_ble_eq_true rfl) nd_D_memory_118 (fun H locs hP hD hS => ?_)
          have hP : va_P D vwCl (wMD h cA (sU (sU u 0 24 (((u 0 17) >>> ((16 : Int32) &&& 31)) &&& (31 : Int32))) 0 25 r56)) H := hP
          have hD : va_D A (wMD h cA (sU (sU u 0 24 (((u 0 17) >>> ((16 : Int32) &&& 31)) &&& (31 : Int32))) 0 25 r56)) := hD
          exact my_rv (u' := sU (sU u 0 24 (((u 0 17) >>> ((16 : Int32) &&& 31)) &&& (31 : Int32))) 0 25 r56) hx hb hr hlocks hK hP hD hS (Option.some.inj hw) nd_D_memory_121
        have hw := (if_pos h102).symm.trans hw
        refine lv_iload hx hb nd_D_memory_105 (lv_at hl 0 rfl) ?_
        refine lv_bipush (v := (16 : Int32)) hx hb nd_D_memory_107 (by decide) ?_
        refine lv_ishl hx hb nd_D_memory_109 ?_
        refine lv_bipush (v := (16 : Int32)) hx hb nd_D_memory_110 (by decide) ?_
        refine lv_ishr hx hb nd_D_memory_112 ?_
        refine lv_goto (tgt := 118) hx hb nd_D_memory_113 (by decide) ?_
        refine va_put (D := D) (ci := 5) (v := .int ((r56 <<< ((16 : Int32) &&& 31)) >>> ((16 : Int32) &&& 31))) (ty := .int) (C := nR_D) (T := nT_D) (N := 28) hx hb hts nu_D nt_D nto_D nn_D hown hK hP hD hS 0 rfl rfl 25 (by decide) (hts _ gw_439) (fun _ h9 => h9) rfl (by decide +kernel) rfl rfl (Nat.le_of_ble_eq_true rfl) nd_D_memory_118 (fun H locs hP hD hS => ?_)
        have hP : va_P D vwCl (wMD h cA (sU (sU u 0 24 (((u 0 17) >>> ((16 : Int32) &&& 31)) &&& (31 : Int32))) 0 25 ((r56 <<< ((16 : Int32) &&& 31)) >>> ((16 : Int32) &&& 31)))) H := hP
        have hD : va_D A (wMD h cA (sU (sU u 0 24 (((u 0 17) >>> ((16 : Int32) &&& 31)) &&& (31 : Int32))) 0 25 ((r56 <<< ((16 : Int32) &&& 31)) >>> ((16 : Int32) &&& 31)))) := hD
        exact my_rv (u' := sU (sU u 0 24 (((u 0 17) >>> ((16 : Int32) &&& 31)) &&& (31 : Int32))) 0 25 ((r56 <<< ((16 : Int32) &&& 31)) >>> ((16 : Int32) &&& 31))) hx hb hr hlocks hK hP hD hS (Option.some.inj hw) nd_D_memory_121
      have hw := (if_pos h82).symm.trans hw
      refine lv_iload hx hb nd_D_memory_85 (lv_at hl 0 rfl) ?_
      refine lv_bipush (v := (24 : Int32)) hx hb nd_D_memory_87 (by decide) ?_
      refine lv_ishl hx hb nd_D_memory_89 ?_
      refine lv_bipush (v := (24 : Int32)) hx hb nd_D_memory_90 (by decide) ?_
      refine lv_ishr hx hb nd_D_memory_92 ?_
      refine lv_goto (tgt := 118) hx hb nd_D_memory_93 (by decide) ?_
      refine va_put (D := D) (ci := 5) (v := .int ((r56 <<< ((24 : Int32) &&& 31)) >>> ((24 : Int32) &&& 31))) (ty := .int) (C := nR_D) (T := nT_D) (N := 28) hx hb hts nu_D nt_D nto_D nn_D hown hK hP hD hS 0 rfl rfl 25 (by decide) (hts _ gw_439) (fun _ h9 => h9) rfl (by decide +kernel) rfl rfl (Nat.le_of_ble_eq_true rfl) nd_D_memory_118 (fun H locs hP hD hS => ?_)
      have hP : va_P D vwCl (wMD h cA (sU (sU u 0 24 (((u 0 17) >>> ((16 : Int32) &&& 31)) &&& (31 : Int32))) 0 25 ((r56 <<< ((24 : Int32) &&& 31)) >>> ((24 : Int32) &&& 31)))) H := hP
      have hD : va_D A (wMD h cA (sU (sU u 0 24 (((u 0 17) >>> ((16 : Int32) &&& 31)) &&& (31 : Int32))) 0 25 ((r56 <<< ((24 : Int32) &&& 31)) >>> ((24 : Int32) &&& 31)))) := hD
      exact my_rv (u' := sU (sU u 0 24 (((u 0 17) >>> ((16 : Int32) &&& 31)) &&& (31 : Int32))) 0 25 ((r56 <<< ((24 : Int32) &&& 31)) >>> ((24 : Int32) &&& 31))) hx hb hr hlocks hK hP hD hS (Option.some.inj hw) nd_D_memory_121
    have hw := (if_neg h39).symm.trans hw
    refine lv_aload_n hx hb nd_D_memory_42 rfl (lv_at hl 3 rfl) ?_
    refine lv_iload_n hx hb nd_D_memory_43 rfl (lv_at hl 1 rfl) ?_
    refine lv_iload_n hx hb nd_D_memory_44 rfl (lv_at hl 0 rfl) ?_
    refine lv_aload_n hx hb nd_D_memory_45 rfl (lv_at hl 3 rfl) ?_
    refine va_get (D := D) (ci := 5) (v := .int (u 0 20)) (C := nR_D) (T := nT_D) (N := 28) hx hb hts nu_D hown hK hP 0 rfl rfl 20 (by decide) (hts _ gw_434) (fun _ h9 => h9) rfl nd_D_memory_46 ?_
    obtain ⟨u49, hq49, hw⟩ := obv_i hw
    refine my_cv (wd := wMD h cA) (F := u49) (va_runV (As := [.int (((u 0 19) + (f_D_number u)) &&& (536870911 : Int32)), .int (f_D_moved u), .int (u 0 20)]) (rest := []) ⟨hx, hb, hml, hown, hts⟩ (c_D_store l D h cA u (((u 0 19) + (f_D_number u)) &&& (536870911 : Int32)) (f_D_moved u) (u 0 20) u49 hq49 _) ⟨callB_of 3 hts (gw_in gw_495) rfl rfl rfl (hts _ gw_6) (hts _ gw_492) nh_D_store ⟨Nat.le_of_ble_eq_true rfl, Nat.le_of_ble_eq_true rfl⟩, (hts _ gw_494), (hts _ gw_493)⟩ (my_preV nwOk hP hK hD hN (va_recv hK hP (ci := 5) (q0 := 0) rfl rfl)) rfl rfl hl.1 rfl (lv_room (Nat.le_of_ble_eq_true rfl)) nd_D_memory_49 ⟨Nat.le_of_ble_eq_true rfl, Nat.le_of_ble_eq_true rfl⟩) hD hS hA (fun H locs hP hD hS => ?_)
    exact my_rv (u' := u49) hx hb hr hlocks hK hP hD hS (Option.some.inj hw) nd_D_memory_52
  have hw := (if_neg h14).symm.trans hw
  refine lv_aload_n hx hb nd_D_memory_17 rfl (lv_at hl 1 rfl) ?_
  refine lv_iload_n hx hb nd_D_memory_18 rfl (lv_at hl 0 rfl) ?_
  obtain ⟨u19, hq19, hw⟩ := obv_i hw
  refine my_cv (wd := wMD h cA) (F := u19) (va_runV (As := [.int ((u 0 19) + (f_D_number u))]) (rest := []) ⟨hx, hb, hml, hown, hts⟩ (c_D_part l D h cA u ((u 0 19) + (f_D_number u)) u19 hq19 _) ⟨callB_of 1 hts (gw_in gw_640) rfl rfl rfl (hts _ gw_6) (hts _ gw_637) nh_D_part ⟨Nat.le_of_ble_eq_true rfl, Nat.le_of_ble_eq_true rfl⟩, (hts _ gw_639), (hts _ gw_638)⟩ (my_preV nwOk hP hK hD hN (va_recv hK hP (ci := 5) (q0 := 0) rfl rfl)) rfl rfl hl.1 rfl (lv_room (Nat.le_of_ble_eq_true rfl)) nd_D_memory_19 ⟨Nat.le_of_ble_eq_true rfl, Nat.le_of_ble_eq_true rfl⟩) hD hS hA (fun H locs hP hD hS => ?_)
  exact my_rv (u' := u19) hx hb hr hlocks hK hP hD hS (Option.some.inj hw) nd_D_memory_22
set_option maxHeartbeats 4000000 in
set_option maxRecDepth 100000 in
theorem c_D_act (l : Launch) (D : va_G) (h : Nat → Nat) (cA : Nat → ClassId) (u : St) (F : St) (hw : f_D_act u = some F) : MV nwS vwCl l ny_D_act nw_D_act ({ frames := 3, cells := 0, slots := 0, locals := 75 }) D (tyI cA) (wMD h cA) ([.ref (h 0)] : List Value) u F := by
  refine my_in (gw := GW) (cc := nc_D_act) (maxL := 1) (ret := none) (Qc := fun A => QV vwCl D (tyI cA) (wMD h cA) F A) (by decide) rfl (Nat.le_of_ble_eq_true rfl) ?_
  intro p e s m below meth c A H locs ls hx hb hml hr hts hown hlocks hK hN hA hP hD hS hl
  have hown : s.vm.findClass nR_D = some m.cls := hown
  have hl : lv_has ls 1 [(0, .ref (h 0))] := hl
  unfold f_D_act at hw
  refine lv_aload_n hx hb nd_D_act_0 rfl (lv_at hl 0 rfl) ?_
  refine va_get (D := D) (ci := 5) (v := .int (u 0 18)) (C := nR_D) (T := nT_D) (N := 28) hx hb hts nu_D hown hK hP 0 rfl rfl 18 (by decide) (hts _ gw_432) (fun _ h9 => h9) rfl nd_D_act_1 ?_
  refine lv_if_ne (tgt := 14) hx hb nd_D_act_4 (by decide) (fun h4 => ?_) (fun h4 => ?_)
  · have hw := (if_neg h4).symm.trans hw
    refine lv_aload_n hx hb nd_D_act_14 rfl (lv_at hl 0 rfl) ?_
    refine va_get (D := D) (ci := 5) (v := .int (u 0 18)) (C := nR_D) (T := nT_D) (N := 28) hx hb hts nu_D hown hK hP 0 rfl rfl 18 (by decide) (hts _ gw_432) (fun _ h9 => h9) rfl nd_D_act_15 ?_
    refine lv_bipush (v := (8 : Int32)) hx hb nd_D_act_18 (by decide) ?_
    refine lv_icmp_ge (tgt := 30) hx hb nd_D_act_20 (by decide) (fun h20 => ?_) (fun h20 => ?_)
    · have hw := (if_pos h20).symm.trans hw
      refine lv_aload_n hx hb nd_D_act_30 rfl (lv_at hl 0 rfl) ?_
      refine va_get (D := D) (ci := 5) (v := .int (u 0 18)) (C := nR_D) (T := nT_D) (N := 28) hx hb hts nu_D hown hK hP 0 rfl rfl 18 (by decide) (hts _ gw_432) (fun _ h9 => h9) rfl nd_D_act_31 ?_
      refine lv_bipush (v := (16 : Int32)) hx hb nd_D_act_34 (by decide) ?_
      refine lv_icmp_ge (tgt := 46) hx hb nd_D_act_36 (by decide) (fun h36 => ?_) (fun h36 => ?_)
      · have hw := (if_pos h36).symm.trans hw
        refine lv_aload_n hx hb nd_D_act_46 rfl (lv_at hl 0 rfl) ?_
        refine va_get (D := D) (ci := 5) (v := .int (u 0 18)) (C := nR_D) (T := nT_D) (N := 28) hx hb hts nu_D hown hK hP 0 rfl rfl 18 (by decide) (hts _ gw_432) (fun _ h9 => h9) rfl nd_D_act_47 ?_
        refine lv_bipush (v := (16 : Int32)) hx hb nd_D_act_50 (by decide) ?_
        refine lv_icmp_ne (tgt := 62) hx hb nd_D_act_52 (by decide) (fun h52 => ?_) (fun h52 => ?_)
        · have hw := (if_neg h52).symm.trans hw
          refine lv_aload_n hx hb nd_D_act_62 rfl (lv_at hl 0 rfl) ?_
          obtain ⟨u63, hq63, hw⟩ := obv_i hw
          refine my_cv (wd := wMD h cA) (F := u63) (va_runV (As := []) (rest := []) ⟨hx, hb, hml, hown, hts⟩ (c_D_memory l D h cA u u63 hq63 _) ⟨callB_of 0 hts (gw_in gw_636) rfl rfl rfl (hts _ gw_6) (hts _ gw_633) nh_D_memory ⟨Nat.le_of_ble_eq_true rfl, Nat.le_of_ble_eq_true rfl⟩, (hts _ gw_635), (hts _ gw_634)⟩ (my_preV nwOk hP hK hD hN (va_recv hK hP (ci := 5) (q0 := 0) rfl rfl)) rfl rfl hl.1 rfl (lv_room (Nat.le_of_ble_eq_true rfl)) nd_D_act_63 ⟨Nat.le_of_ble_eq_true rfl, Nat.le_of_ble_eq_true rfl⟩) hD hS hA (fun H locs hP hD hS => ?_)
          exact my_rv (u' := u63) hx hb hr hlocks hK hP hD hS (Option.some.inj hw) nd_D_act_66
        have hw := (if_pos h52).symm.trans hw
        refine lv_aload_n hx hb nd_D_act_55 rfl (lv_at hl 0 rfl) ?_
        obtain ⟨u56, hq56, hw⟩ := bnv_i hw
        refine my_cv (wd := wMD h cA) (F := u56) (va_runV (As := []) (rest := []) ⟨hx, hb, hml, hown, hts⟩ (c_D_control l D h cA u u56 hq56 _) ⟨callB_of 0 hts (gw_in gw_632) rfl rfl rfl (hts _ gw_6) (hts _ gw_629) nh_D_control ⟨Nat.le_of_ble_eq_true rfl, Nat.le_of_ble_eq_true rfl⟩, (hts _ gw_631), (hts _ gw_630)⟩ (my_preV nwOk hP hK hD hN (va_recv hK hP (ci := 5) (q0 := 0) rfl rfl)) rfl rfl hl.1 rfl (lv_room (Nat.le_of_ble_eq_true rfl)) nd_D_act_56 ⟨Nat.le_of_ble_eq_true rfl, Nat.le_of_ble_eq_true rfl⟩) hD hS hA (fun H locs hP hD hS => ?_)
        refine lv_goto (tgt := 66) hx hb nd_D_act_59 (by decide) ?_
        exact my_rv (u' := u56) hx hb hr hlocks hK hP hD hS (Option.some.inj hw) nd_D_act_66
      have hw := (if_neg h36).symm.trans hw
      refine lv_aload_n hx hb nd_D_act_39 rfl (lv_at hl 0 rfl) ?_
      obtain ⟨u40, hq40, hw⟩ := bnv_i hw
      refine my_cv (wd := wMD h cA) (F := u40) (va_runV (As := []) (rest := []) ⟨hx, hb, hml, hown, hts⟩ (c_D_byNumber l D h cA u u40 hq40 _) ⟨callB_of 0 hts (gw_in gw_627) rfl rfl rfl (hts _ gw_6) (hts _ gw_624) nh_D_byNumber ⟨Nat.le_of_ble_eq_true rfl, Nat.le_of_ble_eq_true rfl⟩, (hts _ gw_626), (hts _ gw_625)⟩ (my_preV nwOk hP hK hD hN (va_recv hK hP (ci := 5) (q0 := 0) rfl rfl)) rfl rfl hl.1 rfl (lv_room (Nat.le_of_ble_eq_true rfl)) nd_D_act_40 ⟨Nat.le_of_ble_eq_true rfl, Nat.le_of_ble_eq_true rfl⟩) hD hS hA (fun H locs hP hD hS => ?_)
      refine lv_goto (tgt := 66) hx hb nd_D_act_43 (by decide) ?_
      exact my_rv (u' := u40) hx hb hr hlocks hK hP hD hS (Option.some.inj hw) nd_D_act_66
    have hw := (if_neg h20).symm.trans hw
    refine lv_aload_n hx hb nd_D_act_23 rfl (lv_at hl 0 rfl) ?_
    obtain ⟨u24, hq24, hw⟩ := bnv_i hw
    refine my_cv (wd := wMD h cA) (F := u24) (va_runV (As := []) (rest := []) ⟨hx, hb, hml, hown, hts⟩ (c_D_branch l D h cA u u24 hq24 _) ⟨callB_of 0 hts (gw_in gw_621) rfl rfl rfl (hts _ gw_6) (hts _ gw_618) nh_D_branch ⟨Nat.le_of_ble_eq_true rfl, Nat.le_of_ble_eq_true rfl⟩, (hts _ gw_620), (hts _ gw_619)⟩ (my_preV nwOk hP hK hD hN (va_recv hK hP (ci := 5) (q0 := 0) rfl rfl)) rfl rfl hl.1 rfl (lv_room (Nat.le_of_ble_eq_true rfl)) nd_D_act_24 ⟨Nat.le_of_ble_eq_true rfl, Nat.le_of_ble_eq_true rfl⟩) hD hS hA (fun H locs hP hD hS => ?_)
    refine lv_goto (tgt := 66) hx hb nd_D_act_27 (by decide) ?_
    exact my_rv (u' := u24) hx hb hr hlocks hK hP hD hS (Option.some.inj hw) nd_D_act_66
  have hw := (if_pos h4).symm.trans hw
  refine lv_aload_n hx hb nd_D_act_7 rfl (lv_at hl 0 rfl) ?_
  obtain ⟨u8, hq8, hw⟩ := obv_i hw
  refine my_cv (wd := wMD h cA) (F := u8) (va_runV (As := []) (rest := []) ⟨hx, hb, hml, hown, hts⟩ (c_D_byRegisters l D h cA u u8 hq8 _) ⟨callB_of 0 hts (gw_in gw_597) rfl rfl rfl (hts _ gw_6) (hts _ gw_594) nh_D_byRegisters ⟨Nat.le_of_ble_eq_true rfl, Nat.le_of_ble_eq_true rfl⟩, (hts _ gw_596), (hts _ gw_595)⟩ (my_preV nwOk hP hK hD hN (va_recv hK hP (ci := 5) (q0 := 0) rfl rfl)) rfl rfl hl.1 rfl (lv_room (Nat.le_of_ble_eq_true rfl)) nd_D_act_8 ⟨Nat.le_of_ble_eq_true rfl, Nat.le_of_ble_eq_true rfl⟩) hD hS hA (fun H locs hP hD hS => ?_)
  refine lv_goto (tgt := 66) hx hb nd_D_act_11 (by decide) ?_
  exact my_rv (u' := u8) hx hb hr hlocks hK hP hD hS (Option.some.inj hw) nd_D_act_66
set_option maxHeartbeats 4000000 in
set_option maxRecDepth 100000 in
theorem c_D_settle (l : Launch) (D : va_G) (h : Nat → Nat) (cA : Nat → ClassId) (u : St) (F : St) (hw : f_D_settle u = some F) : MV nwS vwCl l ny_D_settle nw_D_settle ({ frames := 0, cells := 0, slots := 0, locals := 0 }) D (tyI cA) (wMD h cA) ([.ref (h 0)] : List Value) u F := by
  refine my_in (gw := GW) (cc := nc_D_settle) (maxL := 1) (ret := none) (Qc := fun A => QV vwCl D (tyI cA) (wMD h cA) F A) (by decide) rfl (Nat.le_of_ble_eq_true rfl) ?_
  intro p e s m below meth c A H locs ls hx hb hml hr hts hown hlocks hK hN hA hP hD hS hl
  have hown : s.vm.findClass nR_D = some m.cls := hown
  have hl : lv_has ls 1 [(0, .ref (h 0))] := hl
  have J20 : ∀ (u : St) (H : Heap) (locs : List Loc) (ls : Array Slot), va_P D vwCl (wMD h cA u) H → va_D A (wMD h cA u) → va_S A s.heap H locs → lv_has ls 1 [(0, .ref (h 0))] → f_D_settle_b20 u = some F →
      W p l e (headSpec nw_D_settle ({ frames := 0, cells := 0, slots := 0, locals := 0 })).room s m ([.ref (h 0)] : List Value).toArray below meth c H locs 0 0 (MQ below (QV vwCl D (tyI cA) (wMD h cA) F A) ([.ref (h 0)] : List Value).toArray s 0 0 A) (F0 m 20 ls []) := by
    intro u H locs ls hP hD hS hl hw
    unfold f_D_settle_b20 at hw
    refine lv_aload_n hx hb nd_D_settle_20 rfl (lv_at hl 0 rfl) ?_
    refine lv_iconst (v := (-1 : Int32)) hx hb nd_D_settle_21 (by decide) ?_
    refine va_put (D := D) (ci := 5) (v := .int (-1 : Int32)) (ty := .int) (C := nR_D) (T := nT_D) (N := 28) hx hb hts nu_D nt_D nto_D nn_D hown hK hP hD hS 0 rfl rfl 13 (by decide) (hts _ gw_427) (fun _ h9 => h9) rfl (by decide +kernel) rfl rfl (Nat.le_of_ble_eq_true rfl) nd_D_settle_22 (fun H locs hP hD hS => ?_)
    have hP : va_P D vwCl (wMD h cA (sU u 0 13 (-1 : Int32))) H := hP
    have hD : va_D A (wMD h cA (sU u 0 13 (-1 : Int32))) := hD
    refine lv_aload_n hx hb nd_D_settle_25 rfl (lv_at hl 0 rfl) ?_
    refine lv_iconst (v := (0 : Int32)) hx hb nd_D_settle_26 (by decide) ?_
    refine va_put (D := D) (ci := 5) (v := .int (0 : Int32)) (ty := .int) (C := nR_D) (T := nT_D) (N := 28) hx hb hts nu_D nt_D nto_D nn_D hown hK hP hD hS 0 rfl rfl 14 (by decide) (hts _ gw_428) (fun _ h9 => h9) rfl (by decide +kernel) rfl rfl (Nat.le_of_ble_eq_true rfl) nd_D_settle_27 (fun H locs hP hD hS => ?_)
    have hP : va_P D vwCl (wMD h cA (sU (sU u 0 13 (-1 : Int32)) 0 14 (0 : Int32))) H := hP
    have hD : va_D A (wMD h cA (sU (sU u 0 13 (-1 : Int32)) 0 14 (0 : Int32))) := hD
    exact my_rv (u' := sU (sU u 0 13 (-1 : Int32)) 0 14 (0 : Int32)) hx hb hr hlocks hK hP hD hS (Option.some.inj hw) nd_D_settle_30
  unfold f_D_settle at hw
  refine lv_aload_n hx hb nd_D_settle_0 rfl (lv_at hl 0 rfl) ?_
  refine va_get (D := D) (ci := 5) (v := .int (u 0 13)) (C := nR_D) (T := nT_D) (N := 28) hx hb hts nu_D hown hK hP 0 rfl rfl 13 (by decide) (hts _ gw_427) (fun _ h9 => h9) rfl nd_D_settle_1 ?_
  refine lv_if_le (tgt := 20) hx hb nd_D_settle_4 (by decide) (fun h4 => ?_) (fun h4 => ?_)
  · have hw := (if_pos h4).symm.trans hw
    exact J20 u H locs ls hP hD hS (lv_sub hl [0] rfl) hw
  have hw := (if_neg h4).symm.trans hw
  refine lv_aload_n hx hb nd_D_settle_7 rfl (lv_at hl 0 rfl) ?_
  refine va_get (D := D) (ci := 5) (v := .ref (h 2)) (C := nR_D) (T := nT_D) (N := 28) hx hb hts nu_D hown hK hP 0 rfl rfl 2 (by decide) (hts _ gw_416) (fun _ h9 => h9) rfl nd_D_settle_8 ?_
  refine lv_aload_n hx hb nd_D_settle_11 rfl (lv_at hl 0 rfl) ?_
  refine va_get (D := D) (ci := 5) (v := .int (u 0 13)) (C := nR_D) (T := nT_D) (N := 28) hx hb hts nu_D hown hK hP 0 rfl rfl 13 (by decide) (hts _ gw_427) (fun _ h9 => h9) rfl nd_D_settle_12 ?_
  refine lv_aload_n hx hb nd_D_settle_15 rfl (lv_at hl 0 rfl) ?_
  refine va_get (D := D) (ci := 5) (v := .int (u 0 14)) (C := nR_D) (T := nT_D) (N := 28) hx hb hts nu_D hown hK hP 0 rfl rfl 14 (by decide) (hts _ gw_428) (fun _ h9 => h9) rfl nd_D_settle_16 ?_
  obtain ⟨hi19, hw⟩ := inb_i hw
  refine st_MD2 hx hb hK hP hD hS hi19 nd_D_settle_19 (fun H locs hP hD hS => ?_)
  have hP : va_P D vwCl (wMD h cA (sU u 2 ((u 0 13).toNatClampNeg) (u 0 14))) H := hP
  have hD : va_D A (wMD h cA (sU u 2 ((u 0 13).toNatClampNeg) (u 0 14))) := hD
  exact J20 (sU u 2 ((u 0 13).toNatClampNeg) (u 0 14)) H locs ls hP hD hS (lv_sub hl [0] rfl) hw
set_option maxHeartbeats 4000000 in
set_option maxRecDepth 100000 in
theorem c_D_except (l : Launch) (D : va_G) (h : Nat → Nat) (cA : Nat → ClassId) (u : St) (a1 : Int32) (F : St) (hw : f_D_except a1 u = some F) : MV nwS vwCl l ny_D_except nw_D_except ({ frames := 1, cells := 0, slots := 0, locals := 20 }) D (tyI cA) (wMD h cA) ([.ref (h 0), .int a1] : List Value) u F := by
  refine my_in (gw := GW) (cc := nc_D_except) (maxL := 2) (ret := none) (Qc := fun A => QV vwCl D (tyI cA) (wMD h cA) F A) (by decide) rfl (Nat.le_of_ble_eq_true rfl) ?_
  intro p e s m below meth c A H locs ls hx hb hml hr hts hown hlocks hK hN hA hP hD hS hl
  have hown : s.vm.findClass nR_D = some m.cls := hown
  have hl : lv_has ls 2 [(0, .ref (h 0)), (1, .int a1)] := hl
  have J21 : ∀ (x1 : Int32) (y0 : Int32) (u : St) (H : Heap) (locs : List Loc) (ls : Array Slot), va_P D vwCl (wMD h cA u) H → va_D A (wMD h cA u) → va_S A s.heap H locs → lv_has ls 2 [(0, .ref (h 0)), (1, .int x1)] → f_D_except_b21 x1 y0 u = some F →
      W p l e (headSpec nw_D_except ({ frames := 1, cells := 0, slots := 0, locals := 20 })).room s m ([.ref (h 0), .int a1] : List Value).toArray below meth c H locs 0 0 (MQ below (QV vwCl D (tyI cA) (wMD h cA) F A) ([.ref (h 0), .int a1] : List Value).toArray s 0 0 A) (F0 m 21 ls [.int y0, .ref (h 0)]) := by
    intro x1 y0 u H locs ls hP hD hS hl hw
    unfold f_D_except_b21 at hw
    refine va_put (D := D) (ci := 5) (v := .int y0) (ty := .int) (C := nR_D) (T := nT_D) (N := 28) hx hb hts nu_D nt_D nto_D nn_D hown hK hP hD hS 0 rfl rfl 10 (by decide) (hts _ gw_424) (fun _ h9 => h9) rfl (by decide +kernel) rfl rfl (Nat.le_of_ble_eq_true rfl) nd_D_except_21 (fun H locs hP hD hS => ?_)
    have hP : va_P D vwCl (wMD h cA (sU u 0 10 y0)) H := hP
    have hD : va_D A (wMD h cA (sU u 0 10 y0)) := hD
    refine lv_aload_n hx hb nd_D_except_24 rfl (lv_at hl 0 rfl) ?_
    refine lv_aload_n hx hb nd_D_except_25 rfl (lv_at hl 0 rfl) ?_
    refine va_get (D := D) (ci := 5) (v := .int (zb (u 0 12))) (C := nR_D) (T := nT_D) (N := 28) hx hb hts nu_D hown hK hP 0 rfl rfl 12 (by decide) (hts _ gw_426) (fun _ h9 => h9) rfl nd_D_except_26 ?_
    refine va_put (D := D) (ci := 5) (v := .int (zb (u 0 12))) (ty := .boolean) (C := nR_D) (T := nT_D) (N := 28) hx hb hts nu_D nt_D nto_D nn_D hown hK hP hD hS 0 rfl rfl 9 (by decide) (hts _ gw_423) (fun _ h9 => h9) rfl (by decide +kernel) (zb_n _) (zb_f _) (Nat.le_of_ble_eq_true rfl) nd_D_except_29 (fun H locs hP hD hS => ?_)
    have hP : va_P D vwCl (wMD h cA (sU (sU u 0 10 y0) 0 9 (u 0 12))) H := hP
    have hD : va_D A (wMD h cA (sU (sU u 0 10 y0) 0 9 (u 0 12))) := hD
    refine lv_aload_n hx hb nd_D_except_32 rfl (lv_at hl 0 rfl) ?_
    refine lv_iload_n hx hb nd_D_except_33 rfl (lv_at hl 1 rfl) ?_
    refine va_put (D := D) (ci := 5) (v := .int x1) (ty := .int) (C := nR_D) (T := nT_D) (N := 28) hx hb hts nu_D nt_D nto_D nn_D hown hK hP hD hS 0 rfl rfl 6 (by decide) (hts _ gw_420) (fun _ h9 => h9) rfl (by decide +kernel) rfl rfl (Nat.le_of_ble_eq_true rfl) nd_D_except_34 (fun H locs hP hD hS => ?_)
    have hP : va_P D vwCl (wMD h cA (sU (sU (sU u 0 10 y0) 0 9 (u 0 12)) 0 6 x1)) H := hP
    have hD : va_D A (wMD h cA (sU (sU (sU u 0 10 y0) 0 9 (u 0 12)) 0 6 x1)) := hD
    refine lv_aload_n hx hb nd_D_except_37 rfl (lv_at hl 0 rfl) ?_
    refine lv_aload_n hx hb nd_D_except_38 rfl (lv_at hl 0 rfl) ?_
    refine va_get (D := D) (ci := 5) (v := .int (u 0 5)) (C := nR_D) (T := nT_D) (N := 28) hx hb hts nu_D hown hK hP 0 rfl rfl 5 (by decide) (hts _ gw_419) (fun _ h9 => h9) rfl nd_D_except_39 ?_
    refine lv_bipush (v := (-64 : Int32)) hx hb nd_D_except_42 (by decide) ?_
    refine lv_iand hx hb nd_D_except_44 ?_
    refine lv_aload_n hx hb nd_D_except_45 rfl (lv_at hl 0 rfl) ?_
    refine va_get (D := D) (ci := 5) (v := .int (u 0 5)) (C := nR_D) (T := nT_D) (N := 28) hx hb hts nu_D hown hK hP 0 rfl rfl 5 (by decide) (hts _ gw_419) (fun _ h9 => h9) rfl nd_D_except_46 ?_
    refine lv_iconst (v := (2 : Int32)) hx hb nd_D_except_49 (by decide) ?_
    refine lv_ishl hx hb nd_D_except_50 ?_
    refine lv_bipush (v := (60 : Int32)) hx hb nd_D_except_51 (by decide) ?_
    refine lv_iand hx hb nd_D_except_53 ?_
    refine lv_ior hx hb nd_D_except_54 ?_
    refine va_put (D := D) (ci := 5) (v := .int (((u 0 5) &&& (-64 : Int32)) ||| (((u 0 5) <<< ((2 : Int32) &&& 31)) &&& (60 : Int32)))) (ty := .int) (C := nR_D) (T := nT_D) (N := 28) hx hb hts nu_D nt_D nto_D nn_D hown hK hP hD hS 0 rfl rfl 5 (by decide) (hts _ gw_419) (fun _ h9 => h9) rfl (by decide +kernel) rfl rfl (Nat.le_of_ble_eq_true rfl) nd_D_except_55 (fun H locs hP hD hS => ?_)
    have hP : va_P D vwCl (wMD h cA (sU (sU (sU (sU u 0 10 y0) 0 9 (u 0 12)) 0 6 x1) 0 5 (((u 0 5) &&& (-64 : Int32)) ||| (((u 0 5) <<< ((2 : Int32) &&& 31)) &&& (60 : Int32))))) H := hP
    have hD : va_D A (wMD h cA (sU (sU (sU (sU u 0 10 y0) 0 9 (u 0 12)) 0 6 x1) 0 5 (((u 0 5) &&& (-64 : Int32)) ||| (((u 0 5) <<< ((2 : Int32) &&& 31)) &&& (60 : Int32))))) := hD
    refine lv_aload_n hx hb nd_D_except_58 rfl (lv_at hl 0 rfl) ?_
    refine lv_ldc (own := nR_D) (v := (-2147483520 : Int32)) hx hb hown (hts _ gw_538) nd_D_except_59 ?_
    refine va_put (D := D) (ci := 5) (v := .int (-2147483520 : Int32)) (ty := .int) (C := nR_D) (T := nT_D) (N := 28) hx hb hts nu_D nt_D nto_D nn_D hown hK hP hD hS 0 rfl rfl 3 (by decide) (hts _ gw_417) (fun _ h9 => h9) rfl (by decide +kernel) rfl rfl (Nat.le_of_ble_eq_true rfl) nd_D_except_61 (fun H locs hP hD hS => ?_)
    have hP : va_P D vwCl (wMD h cA (sU (sU (sU (sU (sU u 0 10 y0) 0 9 (u 0 12)) 0 6 x1) 0 5 (((u 0 5) &&& (-64 : Int32)) ||| (((u 0 5) <<< ((2 : Int32) &&& 31)) &&& (60 : Int32)))) 0 3 (-2147483520 : Int32))) H := hP
    have hD : va_D A (wMD h cA (sU (sU (sU (sU (sU u 0 10 y0) 0 9 (u 0 12)) 0 6 x1) 0 5 (((u 0 5) &&& (-64 : Int32)) ||| (((u 0 5) <<< ((2 : Int32) &&& 31)) &&& (60 : Int32)))) 0 3 (-2147483520 : Int32))) := hD
    refine lv_aload_n hx hb nd_D_except_64 rfl (lv_at hl 0 rfl) ?_
    refine lv_aload_n hx hb nd_D_except_65 rfl (lv_at hl 0 rfl) ?_
    refine va_get (D := D) (ci := 5) (v := .int (-2147483520 : Int32)) (C := nR_D) (T := nT_D) (N := 28) hx hb hts nu_D hown hK hP 0 rfl rfl 3 (by decide) (hts _ gw_417) (fun _ h9 => h9) rfl nd_D_except_66 ?_
    refine lv_iconst (v := (4 : Int32)) hx hb nd_D_except_69 (by decide) ?_
    refine lv_iadd hx hb nd_D_except_70 ?_
    refine va_put (D := D) (ci := 5) (v := .int ((-2147483520 : Int32) + (4 : Int32))) (ty := .int) (C := nR_D) (T := nT_D) (N := 28) hx hb hts nu_D nt_D nto_D nn_D hown hK hP hD hS 0 rfl rfl 4 (by decide) (hts _ gw_418) (fun _ h9 => h9) rfl (by decide +kernel) rfl rfl (Nat.le_of_ble_eq_true rfl) nd_D_except_71 (fun H locs hP hD hS => ?_)
    have hP : va_P D vwCl (wMD h cA (sU (sU (sU (sU (sU (sU u 0 10 y0) 0 9 (u 0 12)) 0 6 x1) 0 5 (((u 0 5) &&& (-64 : Int32)) ||| (((u 0 5) <<< ((2 : Int32) &&& 31)) &&& (60 : Int32)))) 0 3 (-2147483520 : Int32)) 0 4 ((-2147483520 : Int32) + (4 : Int32)))) H := hP
    have hD : va_D A (wMD h cA (sU (sU (sU (sU (sU (sU u 0 10 y0) 0 9 (u 0 12)) 0 6 x1) 0 5 (((u 0 5) &&& (-64 : Int32)) ||| (((u 0 5) <<< ((2 : Int32) &&& 31)) &&& (60 : Int32)))) 0 3 (-2147483520 : Int32)) 0 4 ((-2147483520 : Int32) + (4 : Int32)))) := hD
    refine lv_aload_n hx hb nd_D_except_74 rfl (lv_at hl 0 rfl) ?_
    refine lv_iconst (v := (0 : Int32)) hx hb nd_D_except_75 (by decide) ?_
    refine va_put (D := D) (ci := 5) (v := .int (zb (0 : Int32))) (ty := .boolean) (C := nR_D) (T := nT_D) (N := 28) hx hb hts nu_D nt_D nto_D nn_D hown hK hP hD hS 0 rfl rfl 12 (by decide) (hts _ gw_426) (fun _ h9 => h9) rfl (by decide +kernel) (zb_n _) (zb_f _) (Nat.le_of_ble_eq_true rfl) nd_D_except_76 (fun H locs hP hD hS => ?_)
    have hP : va_P D vwCl (wMD h cA (sU (sU (sU (sU (sU (sU (sU u 0 10 y0) 0 9 (u 0 12)) 0 6 x1) 0 5 (((u 0 5) &&& (-64 : Int32)) ||| (((u 0 5) <<< ((2 : Int32) &&& 31)) &&& (60 : Int32)))) 0 3 (-2147483520 : Int32)) 0 4 ((-2147483520 : Int32) + (4 : Int32))) 0 12 (0 : Int32))) H := hP
    have hD : va_D A (wMD h cA (sU (sU (sU (sU (sU (sU (sU u 0 10 y0) 0 9 (u 0 12)) 0 6 x1) 0 5 (((u 0 5) &&& (-64 : Int32)) ||| (((u 0 5) <<< ((2 : Int32) &&& 31)) &&& (60 : Int32)))) 0 3 (-2147483520 : Int32)) 0 4 ((-2147483520 : Int32) + (4 : Int32))) 0 12 (0 : Int32))) := hD
    refine lv_aload_n hx hb nd_D_except_79 rfl (lv_at hl 0 rfl) ?_
    refine lv_dup hx hb nd_D_except_80 rfl ?_
    refine va_get (D := D) (ci := 5) (v := .int (u 0 16)) (C := nR_D) (T := nT_D) (N := 28) hx hb hts nu_D hown hK hP 0 rfl rfl 16 (by decide) (hts _ gw_430) (fun _ h9 => h9) rfl nd_D_except_81 ?_
    refine lv_iconst (v := (1 : Int32)) hx hb nd_D_except_84 (by decide) ?_
    refine lv_iadd hx hb nd_D_except_85 ?_
    refine va_put (D := D) (ci := 5) (v := .int ((u 0 16) + (1 : Int32))) (ty := .int) (C := nR_D) (T := nT_D) (N := 28) hx hb hts nu_D nt_D nto_D nn_D hown hK hP hD hS 0 rfl rfl 16 (by decide) (hts _ gw_430) (fun _ h9 => h9) rfl (by decide +kernel) rfl rfl (Nat.le_of_ble_eq_true rfl) nd_D_except_86 (fun H locs hP hD hS => ?_)
    have hP : va_P D vwCl (wMD h cA (sU (sU (sU (sU (sU (sU (sU (sU u 0 10 y0) 0 9 (u 0 12)) 0 6 x1) 0 5 (((u 0 5) &&& (-64 : Int32)) ||| (((u 0 5) <<< ((2 : Int32) &&& 31)) &&& (60 : Int32)))) 0 3 (-2147483520 : Int32)) 0 4 ((-2147483520 : Int32) + (4 : Int32))) 0 12 (0 : Int32)) 0 16 ((u 0 16) + (1 : Int32)))) H := hP
    have hD : va_D A (wMD h cA (sU (sU (sU (sU (sU (sU (sU (sU u 0 10 y0) 0 9 (u 0 12)) 0 6 x1) 0 5 (((u 0 5) &&& (-64 : Int32)) ||| (((u 0 5) <<< ((2 : Int32) &&& 31)) &&& (60 : Int32)))) 0 3 (-2147483520 : Int32)) 0 4 ((-2147483520 : Int32) + (4 : Int32))) 0 12 (0 : Int32)) 0 16 ((u 0 16) + (1 : Int32)))) := hD
    refine lv_aload_n hx hb nd_D_except_89 rfl (lv_at hl 0 rfl) ?_
    obtain ⟨u90, hq90, hw⟩ := obv_i hw
    refine my_cv (wd := wMD h cA) (F := u90) (va_runV (As := []) (rest := []) ⟨hx, hb, hml, hown, hts⟩ (c_D_settle l D h cA (sU (sU (sU (sU (sU (sU (sU (sU u 0 10 y0) 0 9 (u 0 12)) 0 6 x1) 0 5 (((u 0 5) &&& (-64 : Int32)) ||| (((u 0 5) <<< ((2 : Int32) &&& 31)) &&& (60 : Int32)))) 0 3 (-2147483520 : Int32)) 0 4 ((-2147483520 : Int32) + (4 : Int32))) 0 12 (0 : Int32)) 0 16 ((u 0 16) + (1 : Int32))) u90 hq90 _) ⟨callB_of 0 hts (gw_in gw_542) rfl rfl rfl (hts _ gw_6) (hts _ gw_539) nh_D_settle ⟨Nat.le_of_ble_eq_true rfl, Nat.le_of_ble_eq_true rfl⟩, (hts _ gw_541), (hts _ gw_540)⟩ (my_preV nwOk hP hK hD hN (va_recv hK hP (ci := 5) (q0 := 0) rfl rfl)) rfl rfl hl.1 rfl (lv_room (Nat.le_of_ble_eq_true rfl)) nd_D_except_90 ⟨Nat.le_of_ble_eq_true rfl, Nat.le_of_ble_eq_true rfl⟩) hD hS hA (fun H locs hP hD hS => ?_)
    exact my_rv (u' := u90) hx hb hr hlocks hK hP hD hS (Option.some.inj hw) nd_D_except_93
  unfold f_D_except at hw
  refine lv_aload_n hx hb nd_D_except_0 rfl (lv_at hl 0 rfl) ?_
  refine lv_aload_n hx hb nd_D_except_1 rfl (lv_at hl 0 rfl) ?_
  refine va_get (D := D) (ci := 5) (v := .int (zb (u 0 12))) (C := nR_D) (T := nT_D) (N := 28) hx hb hts nu_D hown hK hP 0 rfl rfl 12 (by decide) (hts _ gw_426) (fun _ h9 => h9) rfl nd_D_except_2 ?_
  refine lv_if_eq (tgt := 17) hx hb nd_D_except_5 (by decide) (fun h5 => ?_) (fun h5 => ?_)
  · have hw := (if_pos h5).symm.trans hw
    refine lv_aload_n hx hb nd_D_except_17 rfl (lv_at hl 0 rfl) ?_
    refine va_get (D := D) (ci := 5) (v := .int (u 0 3)) (C := nR_D) (T := nT_D) (N := 28) hx hb hts nu_D hown hK hP 0 rfl rfl 3 (by decide) (hts _ gw_417) (fun _ h9 => h9) rfl nd_D_except_18 ?_
    exact J21 a1 (u 0 3) u H locs ls hP hD hS (lv_sub hl [0, 1] rfl) hw
  have hw := (if_neg h5).symm.trans hw
  refine lv_aload_n hx hb nd_D_except_8 rfl (lv_at hl 0 rfl) ?_
  refine va_get (D := D) (ci := 5) (v := .int (u 0 3)) (C := nR_D) (T := nT_D) (N := 28) hx hb hts nu_D hown hK hP 0 rfl rfl 3 (by decide) (hts _ gw_417) (fun _ h9 => h9) rfl nd_D_except_9 ?_
  refine lv_iconst (v := (4 : Int32)) hx hb nd_D_except_12 (by decide) ?_
  refine lv_isub hx hb nd_D_except_13 ?_
  refine lv_goto (tgt := 21) hx hb nd_D_except_14 (by decide) ?_
  exact J21 a1 ((u 0 3) - (4 : Int32)) u H locs ls hP hD hS (lv_sub hl [0, 1] rfl) hw
set_option maxHeartbeats 4000000 in
set_option maxRecDepth 100000 in
theorem c_D_fetch (l : Launch) (D : va_G) (h : Nat → Nat) (cA : Nat → ClassId) (u : St) (F : Int32 × St) (hw : f_D_fetch u = F) : MI nwS vwCl l ny_D_fetch nw_D_fetch ({ frames := 1, cells := 0, slots := 0, locals := 22 }) D (tyI cA) (wMD h cA) ([.ref (h 0)] : List Value) u F := by
  refine my_in (gw := GW) (cc := nc_D_fetch) (maxL := 1) (ret := (some .int)) (Qc := fun A => QI vwCl D (tyI cA) (wMD h cA) F A) (by decide) rfl (Nat.le_of_ble_eq_true rfl) ?_
  intro p e s m below meth c A H locs ls hx hb hml hr hts hown hlocks hK hN hA hP hD hS hl
  have hown : s.vm.findClass nR_D = some m.cls := hown
  have hl : lv_has ls 1 [(0, .ref (h 0))] := hl
  have J23 : ∀ (u : St) (H : Heap) (locs : List Loc) (ls : Array Slot), va_P D vwCl (wMD h cA u) H → va_D A (wMD h cA u) → va_S A s.heap H locs → lv_has ls 1 [(0, .ref (h 0))] → f_D_fetch_b23 u = F →
      W p l e (headSpec nw_D_fetch ({ frames := 1, cells := 0, slots := 0, locals := 22 })).room s m ([.ref (h 0)] : List Value).toArray below meth c H locs 0 0 (MQ below (QI vwCl D (tyI cA) (wMD h cA) F A) ([.ref (h 0)] : List Value).toArray s 0 0 A) (F0 m 23 ls []) := by
    intro u H locs ls hP hD hS hl hw
    unfold f_D_fetch_b23 at hw
    refine lv_aload_n hx hb nd_D_fetch_23 rfl (lv_at hl 0 rfl) ?_
    refine lv_aload_n hx hb nd_D_fetch_24 rfl (lv_at hl 0 rfl) ?_
    refine va_get (D := D) (ci := 5) (v := .int (u 0 3)) (C := nR_D) (T := nT_D) (N := 28) hx hb hts nu_D hown hK hP 0 rfl rfl 3 (by decide) (hts _ gw_417) (fun _ h9 => h9) rfl nd_D_fetch_25 ?_
    refine va_put (D := D) (ci := 5) (v := .int (u 0 3)) (ty := .int) (C := nR_D) (T := nT_D) (N := 28) hx hb hts nu_D nt_D nto_D nn_D hown hK hP hD hS 0 rfl rfl 11 (by decide) (hts _ gw_425) (fun _ h9 => h9) rfl (by decide +kernel) rfl rfl (Nat.le_of_ble_eq_true rfl) nd_D_fetch_28 (fun H locs hP hD hS => ?_)
    have hP : va_P D vwCl (wMD h cA (sU u 0 11 (u 0 3))) H := hP
    have hD : va_D A (wMD h cA (sU u 0 11 (u 0 3))) := hD
    refine lv_iconst (v := (4 : Int32)) hx hb nd_D_fetch_31 (by decide) ?_
    exact my_ri (u' := sU u 0 11 (u 0 3)) (v := (4 : Int32)) hx hb hr hlocks hK hP hD hS hw nd_D_fetch_32
  have J33 : ∀ (u : St) (H : Heap) (locs : List Loc) (ls : Array Slot), va_P D vwCl (wMD h cA u) H → va_D A (wMD h cA u) → va_S A s.heap H locs → lv_has ls 1 [(0, .ref (h 0))] → f_D_fetch_b33 u = F →
      W p l e (headSpec nw_D_fetch ({ frames := 1, cells := 0, slots := 0, locals := 22 })).room s m ([.ref (h 0)] : List Value).toArray below meth c H locs 0 0 (MQ below (QI vwCl D (tyI cA) (wMD h cA) F A) ([.ref (h 0)] : List Value).toArray s 0 0 A) (F0 m 33 ls []) := by
    intro u H locs ls hP hD hS hl hw
    unfold f_D_fetch_b33 at hw
    refine lv_aload_n hx hb nd_D_fetch_33 rfl (lv_at hl 0 rfl) ?_
    refine va_get (D := D) (ci := 5) (v := .int (u 0 3)) (C := nR_D) (T := nT_D) (N := 28) hx hb hts nu_D hown hK hP 0 rfl rfl 3 (by decide) (hts _ gw_417) (fun _ h9 => h9) rfl nd_D_fetch_34 ?_
    refine lv_iconst (v := (4 : Int32)) hx hb nd_D_fetch_37 (by decide) ?_
    refine my_cp (F := zb (f_D_inMemory (u 0 3) (4 : Int32))) (va_runS (As := [.int (u 0 3), .int (4 : Int32)]) (rest := []) ⟨hx, hb, hml, hown, hts⟩ (c_D_inMemory l (u 0 3) (4 : Int32) _ rfl) ⟨callB_of 2 hts (gw_in gw_553) rfl rfl rfl (hts _ gw_6) (hts _ gw_551) nh_D_inMemory ⟨Nat.le_of_ble_eq_true rfl, Nat.le_of_ble_eq_true rfl⟩, (hts _ gw_552)⟩ my_preP rfl rfl hl.1 rfl (lv_room (Nat.le_of_ble_eq_true rfl)) nd_D_fetch_38 ⟨Nat.le_of_ble_eq_true rfl, Nat.le_of_ble_eq_true rfl⟩) hP hS (fun H locs hP hS => ?_)
    refine lv_if_eq (tgt := 48) hx hb nd_D_fetch_41 (by decide) (fun h41 => ?_) (fun h41 => ?_)
    · have hw := (if_pos h41).symm.trans hw
      refine lv_bipush (v := (6 : Int32)) hx hb nd_D_fetch_48 (by decide) ?_
      exact my_ri (u' := u) (v := (6 : Int32)) hx hb hr hlocks hK hP hD hS hw nd_D_fetch_50
    have hw := (if_neg h41).symm.trans hw
    refine lv_iconst (v := (0 : Int32)) hx hb nd_D_fetch_44 (by decide) ?_
    refine lv_goto (tgt := 50) hx hb nd_D_fetch_45 (by decide) ?_
    exact my_ri (u' := u) (v := (0 : Int32)) hx hb hr hlocks hK hP hD hS hw nd_D_fetch_50
  unfold f_D_fetch at hw
  refine lv_aload_n hx hb nd_D_fetch_0 rfl (lv_at hl 0 rfl) ?_
  refine va_get (D := D) (ci := 5) (v := .int (u 0 3)) (C := nR_D) (T := nT_D) (N := 28) hx hb hts nu_D hown hK hP 0 rfl rfl 3 (by decide) (hts _ gw_417) (fun _ h9 => h9) rfl nd_D_fetch_1 ?_
  refine lv_iconst (v := (3 : Int32)) hx hb nd_D_fetch_4 (by decide) ?_
  refine lv_iand hx hb nd_D_fetch_5 ?_
  refine lv_if_ne (tgt := 23) hx hb nd_D_fetch_6 (by decide) (fun h6 => ?_) (fun h6 => ?_)
  · have hw := (if_neg h6).symm.trans hw
    exact J23 u H locs ls hP hD hS (lv_sub hl [0] rfl) hw
  have hw := (if_pos h6).symm.trans hw
  refine lv_aload_n hx hb nd_D_fetch_9 rfl (lv_at hl 0 rfl) ?_
  refine va_get (D := D) (ci := 5) (v := .int (u 0 3)) (C := nR_D) (T := nT_D) (N := 28) hx hb hts nu_D hown hK hP 0 rfl rfl 3 (by decide) (hts _ gw_417) (fun _ h9 => h9) rfl nd_D_fetch_10 ?_
  refine lv_if_ge (tgt := 33) hx hb nd_D_fetch_13 (by decide) (fun h13 => ?_) (fun h13 => ?_)
  · have hw := (if_pos h13).symm.trans hw
    exact J33 u H locs ls hP hD hS (lv_sub hl [0] rfl) hw
  have hw := (if_neg h13).symm.trans hw
  refine lv_aload_n hx hb nd_D_fetch_16 rfl (lv_at hl 0 rfl) ?_
  refine my_ci (wd := wMD h cA) (r := zb (f_D_user u)) (u' := u) (va_runV (As := []) (rest := []) ⟨hx, hb, hml, hown, hts⟩ (c_D_user l D h cA u _ rfl _) ⟨callB_of 0 hts (gw_in gw_550) rfl rfl rfl (hts _ gw_6) (hts _ gw_547) nh_D_user ⟨Nat.le_of_ble_eq_true rfl, Nat.le_of_ble_eq_true rfl⟩, (hts _ gw_549), (hts _ gw_548)⟩ (my_preV nwOk hP hK hD hN (va_recv hK hP (ci := 5) (q0 := 0) rfl rfl)) rfl rfl hl.1 rfl (lv_room (Nat.le_of_ble_eq_true rfl)) nd_D_fetch_17 ⟨Nat.le_of_ble_eq_true rfl, Nat.le_of_ble_eq_true rfl⟩) hD hS hA (fun H locs hP hD hS => ?_)
  refine lv_if_eq (tgt := 33) hx hb nd_D_fetch_20 (by decide) (fun h20 => ?_) (fun h20 => ?_)
  · have hw := (if_pos h20).symm.trans hw
    exact J33 u H locs ls hP hD hS (lv_sub hl [0] rfl) hw
  have hw := (if_neg h20).symm.trans hw
  exact J23 u H locs ls hP hD hS (lv_sub hl [0] rfl) hw
set_option maxHeartbeats 4000000 in
set_option maxRecDepth 100000 in
theorem c_D_read (l : Launch) (D : va_G) (h : Nat → Nat) (cA : Nat → ClassId) (u : St) (F : St) (hw : f_D_read u = some F) : MV nwS vwCl l ny_D_read nw_D_read ({ frames := 1, cells := 0, slots := 0, locals := 24 }) D (tyI cA) (wMD h cA) ([.ref (h 0)] : List Value) u F := by
  refine my_in (gw := GW) (cc := nc_D_read) (maxL := 1) (ret := none) (Qc := fun A => QV vwCl D (tyI cA) (wMD h cA) F A) (by decide) rfl (Nat.le_of_ble_eq_true rfl) ?_
  intro p e s m below meth c A H locs ls hx hb hml hr hts hown hlocks hK hN hA hP hD hS hl
  have hown : s.vm.findClass nR_D = some m.cls := hown
  have hl : lv_has ls 1 [(0, .ref (h 0))] := hl
  unfold f_D_read at hw
  refine lv_aload_n hx hb nd_D_read_0 rfl (lv_at hl 0 rfl) ?_
  refine lv_aload_n hx hb nd_D_read_1 rfl (lv_at hl 0 rfl) ?_
  refine lv_aload_n hx hb nd_D_read_2 rfl (lv_at hl 0 rfl) ?_
  refine va_get (D := D) (ci := 5) (v := .int (u 0 3)) (C := nR_D) (T := nT_D) (N := 28) hx hb hts nu_D hown hK hP 0 rfl rfl 3 (by decide) (hts _ gw_417) (fun _ h9 => h9) rfl nd_D_read_3 ?_
  refine lv_ldc (own := nR_D) (v := (536870911 : Int32)) hx hb hown (hts _ gw_554) nd_D_read_6 ?_
  refine lv_iand hx hb nd_D_read_8 ?_
  refine lv_iconst (v := (4 : Int32)) hx hb nd_D_read_9 (by decide) ?_
  obtain ⟨r10, hq10, hw⟩ := obv_i hw
  refine my_ci (wd := wMD h cA) (r := r10) (u' := u) (va_runV (As := [.int ((u 0 3) &&& (536870911 : Int32)), .int (4 : Int32)]) (rest := [.ref (h 0)]) ⟨hx, hb, hml, hown, hts⟩ (c_D_load l D h cA u ((u 0 3) &&& (536870911 : Int32)) (4 : Int32) r10 hq10 _) ⟨callB_of 2 hts (gw_in gw_491) rfl rfl rfl (hts _ gw_6) (hts _ gw_488) nh_D_load ⟨Nat.le_of_ble_eq_true rfl, Nat.le_of_ble_eq_true rfl⟩, (hts _ gw_490), (hts _ gw_489)⟩ (my_preV nwOk hP hK hD hN (va_recv hK hP (ci := 5) (q0 := 0) rfl rfl)) rfl rfl hl.1 rfl (lv_room (Nat.le_of_ble_eq_true rfl)) nd_D_read_10 ⟨Nat.le_of_ble_eq_true rfl, Nat.le_of_ble_eq_true rfl⟩) hD hS hA (fun H locs hP hD hS => ?_)
  obtain ⟨v13, hv13, hw⟩ := bnv_i hw
  refine va_put (D := D) (ci := 5) (v := .int r10) (ty := .int) (C := nR_D) (T := nT_D) (N := 28) hx hb hts nu_D nt_D nto_D nn_D hown hK hP hD hS 0 rfl rfl 17 (by decide) (hts _ gw_431) (fun _ h9 => h9) rfl (by decide +kernel) rfl rfl (Nat.le_of_ble_eq_true rfl) nd_D_read_13 (fun H locs hP hD hS => ?_)
  have hP : va_P D vwCl (wMD h cA (sU u 0 17 r10)) H := hP
  have hD : va_D A (wMD h cA (sU u 0 17 r10)) := hD
  rw [hv13] at hP hD
  refine lv_aload_n hx hb nd_D_read_16 rfl (lv_at hl 0 rfl) ?_
  refine lv_aload_n hx hb nd_D_read_17 rfl (lv_at hl 0 rfl) ?_
  refine va_get (D := D) (ci := 5) (v := .int (v13 0 17)) (C := nR_D) (T := nT_D) (N := 28) hx hb hts nu_D hown hK hP 0 rfl rfl 17 (by decide) (hts _ gw_431) (fun _ h9 => h9) rfl nd_D_read_18 ?_
  refine lv_bipush (v := (26 : Int32)) hx hb nd_D_read_21 (by decide) ?_
  refine lv_iushr (v := ush (v13 0 17) (26 : Int32)) hx hb nd_D_read_23 rfl ?_
  obtain ⟨v24, hv24, hw⟩ := bnv_i hw
  refine va_put (D := D) (ci := 5) (v := .int (ush (v13 0 17) (26 : Int32))) (ty := .int) (C := nR_D) (T := nT_D) (N := 28) hx hb hts nu_D nt_D nto_D nn_D hown hK hP hD hS 0 rfl rfl 18 (by decide) (hts _ gw_432) (fun _ h9 => h9) rfl (by decide +kernel) rfl rfl (Nat.le_of_ble_eq_true rfl) nd_D_read_24 (fun H locs hP hD hS => ?_)
  have hP : va_P D vwCl (wMD h cA (sU v13 0 18 (ush (v13 0 17) (26 : Int32)))) H := hP
  have hD : va_D A (wMD h cA (sU v13 0 18 (ush (v13 0 17) (26 : Int32)))) := hD
  rw [hv24] at hP hD
  refine lv_aload_n hx hb nd_D_read_27 rfl (lv_at hl 0 rfl) ?_
  refine lv_aload_n hx hb nd_D_read_28 rfl (lv_at hl 0 rfl) ?_
  refine va_get (D := D) (ci := 5) (v := .ref (h 2)) (C := nR_D) (T := nT_D) (N := 28) hx hb hts nu_D hown hK hP 0 rfl rfl 2 (by decide) (hts _ gw_416) (fun _ h9 => h9) rfl nd_D_read_29 ?_
  refine lv_aload_n hx hb nd_D_read_32 rfl (lv_at hl 0 rfl) ?_
  refine va_get (D := D) (ci := 5) (v := .int (v24 0 17)) (C := nR_D) (T := nT_D) (N := 28) hx hb hts nu_D hown hK hP 0 rfl rfl 17 (by decide) (hts _ gw_431) (fun _ h9 => h9) rfl nd_D_read_33 ?_
  refine lv_bipush (v := (21 : Int32)) hx hb nd_D_read_36 (by decide) ?_
  refine lv_ishr hx hb nd_D_read_38 ?_
  refine lv_bipush (v := (31 : Int32)) hx hb nd_D_read_39 (by decide) ?_
  refine lv_iand hx hb nd_D_read_41 ?_
  refine va_iald hx hb hK hP 2 1 rfl rfl (my_and31 _) nd_D_read_42 ?_
  obtain ⟨v43, hv43, hw⟩ := bnv_i hw
  refine va_put (D := D) (ci := 5) (v := .int ((v24 2) (((v24 0 17) >>> ((21 : Int32) &&& 31)) &&& (31 : Int32)).toNatClampNeg)) (ty := .int) (C := nR_D) (T := nT_D) (N := 28) hx hb hts nu_D nt_D nto_D nn_D hown hK hP hD hS 0 rfl rfl 19 (by decide) (hts _ gw_433) (fun _ h9 => h9) rfl (by decide +kernel) rfl rfl (Nat.le_of_ble_eq_true rfl) nd_D_read_43 (fun H locs hP hD hS => ?_)
  have hP : va_P D vwCl (wMD h cA (sU v24 0 19 ((v24 2) (((v24 0 17) >>> ((21 : Int32) &&& 31)) &&& (31 : Int32)).toNatClampNeg))) H := hP
  have hD : va_D A (wMD h cA (sU v24 0 19 ((v24 2) (((v24 0 17) >>> ((21 : Int32) &&& 31)) &&& (31 : Int32)).toNatClampNeg))) := hD
  rw [hv43] at hP hD
  refine lv_aload_n hx hb nd_D_read_46 rfl (lv_at hl 0 rfl) ?_
  refine lv_aload_n hx hb nd_D_read_47 rfl (lv_at hl 0 rfl) ?_
  refine va_get (D := D) (ci := 5) (v := .ref (h 2)) (C := nR_D) (T := nT_D) (N := 28) hx hb hts nu_D hown hK hP 0 rfl rfl 2 (by decide) (hts _ gw_416) (fun _ h9 => h9) rfl nd_D_read_48 ?_
  refine lv_aload_n hx hb nd_D_read_51 rfl (lv_at hl 0 rfl) ?_
  refine va_get (D := D) (ci := 5) (v := .int (v43 0 17)) (C := nR_D) (T := nT_D) (N := 28) hx hb hts nu_D hown hK hP 0 rfl rfl 17 (by decide) (hts _ gw_431) (fun _ h9 => h9) rfl nd_D_read_52 ?_
  refine lv_bipush (v := (16 : Int32)) hx hb nd_D_read_55 (by decide) ?_
  refine lv_ishr hx hb nd_D_read_57 ?_
  refine lv_bipush (v := (31 : Int32)) hx hb nd_D_read_58 (by decide) ?_
  refine lv_iand hx hb nd_D_read_60 ?_
  refine va_iald hx hb hK hP 2 1 rfl rfl (my_and31 _) nd_D_read_61 ?_
  obtain ⟨v62, hv62, hw⟩ := bnv_i hw
  refine va_put (D := D) (ci := 5) (v := .int ((v43 2) (((v43 0 17) >>> ((16 : Int32) &&& 31)) &&& (31 : Int32)).toNatClampNeg)) (ty := .int) (C := nR_D) (T := nT_D) (N := 28) hx hb hts nu_D nt_D nto_D nn_D hown hK hP hD hS 0 rfl rfl 20 (by decide) (hts _ gw_434) (fun _ h9 => h9) rfl (by decide +kernel) rfl rfl (Nat.le_of_ble_eq_true rfl) nd_D_read_62 (fun H locs hP hD hS => ?_)
  have hP : va_P D vwCl (wMD h cA (sU v43 0 20 ((v43 2) (((v43 0 17) >>> ((16 : Int32) &&& 31)) &&& (31 : Int32)).toNatClampNeg))) H := hP
  have hD : va_D A (wMD h cA (sU v43 0 20 ((v43 2) (((v43 0 17) >>> ((16 : Int32) &&& 31)) &&& (31 : Int32)).toNatClampNeg))) := hD
  rw [hv62] at hP hD
  refine lv_aload_n hx hb nd_D_read_65 rfl (lv_at hl 0 rfl) ?_
  refine lv_aload_n hx hb nd_D_read_66 rfl (lv_at hl 0 rfl) ?_
  refine va_get (D := D) (ci := 5) (v := .int (v62 0 17)) (C := nR_D) (T := nT_D) (N := 28) hx hb hts nu_D hown hK hP 0 rfl rfl 17 (by decide) (hts _ gw_431) (fun _ h9 => h9) rfl nd_D_read_67 ?_
  refine lv_bipush (v := (63 : Int32)) hx hb nd_D_read_70 (by decide) ?_
  refine lv_iand hx hb nd_D_read_72 ?_
  obtain ⟨v73, hv73, hw⟩ := bnv_i hw
  refine va_put (D := D) (ci := 5) (v := .int ((v62 0 17) &&& (63 : Int32))) (ty := .int) (C := nR_D) (T := nT_D) (N := 28) hx hb hts nu_D nt_D nto_D nn_D hown hK hP hD hS 0 rfl rfl 21 (by decide) (hts _ gw_435) (fun _ h9 => h9) rfl (by decide +kernel) rfl rfl (Nat.le_of_ble_eq_true rfl) nd_D_read_73 (fun H locs hP hD hS => ?_)
  have hP : va_P D vwCl (wMD h cA (sU v62 0 21 ((v62 0 17) &&& (63 : Int32)))) H := hP
  have hD : va_D A (wMD h cA (sU v62 0 21 ((v62 0 17) &&& (63 : Int32)))) := hD
  rw [hv73] at hP hD
  refine lv_aload_n hx hb nd_D_read_76 rfl (lv_at hl 0 rfl) ?_
  refine lv_iconst (v := (-1 : Int32)) hx hb nd_D_read_77 (by decide) ?_
  obtain ⟨v78, hv78, hw⟩ := bnv_i hw
  refine va_put (D := D) (ci := 5) (v := .int (-1 : Int32)) (ty := .int) (C := nR_D) (T := nT_D) (N := 28) hx hb hts nu_D nt_D nto_D nn_D hown hK hP hD hS 0 rfl rfl 22 (by decide) (hts _ gw_436) (fun _ h9 => h9) rfl (by decide +kernel) rfl rfl (Nat.le_of_ble_eq_true rfl) nd_D_read_78 (fun H locs hP hD hS => ?_)
  have hP : va_P D vwCl (wMD h cA (sU v73 0 22 (-1 : Int32))) H := hP
  have hD : va_D A (wMD h cA (sU v73 0 22 (-1 : Int32))) := hD
  rw [hv78] at hP hD
  refine lv_aload_n hx hb nd_D_read_81 rfl (lv_at hl 0 rfl) ?_
  refine lv_iconst (v := (-1 : Int32)) hx hb nd_D_read_82 (by decide) ?_
  obtain ⟨v83, hv83, hw⟩ := bnv_i hw
  refine va_put (D := D) (ci := 5) (v := .int (-1 : Int32)) (ty := .int) (C := nR_D) (T := nT_D) (N := 28) hx hb hts nu_D nt_D nto_D nn_D hown hK hP hD hS 0 rfl rfl 24 (by decide) (hts _ gw_438) (fun _ h9 => h9) rfl (by decide +kernel) rfl rfl (Nat.le_of_ble_eq_true rfl) nd_D_read_83 (fun H locs hP hD hS => ?_)
  have hP : va_P D vwCl (wMD h cA (sU v78 0 24 (-1 : Int32))) H := hP
  have hD : va_D A (wMD h cA (sU v78 0 24 (-1 : Int32))) := hD
  rw [hv83] at hP hD
  refine lv_aload_n hx hb nd_D_read_86 rfl (lv_at hl 0 rfl) ?_
  refine lv_iconst (v := (0 : Int32)) hx hb nd_D_read_87 (by decide) ?_
  obtain ⟨v88, hv88, hw⟩ := bnv_i hw
  refine va_put (D := D) (ci := 5) (v := .int (0 : Int32)) (ty := .int) (C := nR_D) (T := nT_D) (N := 28) hx hb hts nu_D nt_D nto_D nn_D hown hK hP hD hS 0 rfl rfl 25 (by decide) (hts _ gw_439) (fun _ h9 => h9) rfl (by decide +kernel) rfl rfl (Nat.le_of_ble_eq_true rfl) nd_D_read_88 (fun H locs hP hD hS => ?_)
  have hP : va_P D vwCl (wMD h cA (sU v83 0 25 (0 : Int32))) H := hP
  have hD : va_D A (wMD h cA (sU v83 0 25 (0 : Int32))) := hD
  rw [hv88] at hP hD
  refine lv_aload_n hx hb nd_D_read_91 rfl (lv_at hl 0 rfl) ?_
  refine lv_aload_n hx hb nd_D_read_92 rfl (lv_at hl 0 rfl) ?_
  refine va_get (D := D) (ci := 5) (v := .int (v88 0 4)) (C := nR_D) (T := nT_D) (N := 28) hx hb hts nu_D hown hK hP 0 rfl rfl 4 (by decide) (hts _ gw_418) (fun _ h9 => h9) rfl nd_D_read_93 ?_
  refine lv_iconst (v := (4 : Int32)) hx hb nd_D_read_96 (by decide) ?_
  refine lv_iadd hx hb nd_D_read_97 ?_
  obtain ⟨v98, hv98, hw⟩ := bnv_i hw
  refine va_put (D := D) (ci := 5) (v := .int ((v88 0 4) + (4 : Int32))) (ty := .int) (C := nR_D) (T := nT_D) (N := 28) hx hb hts nu_D nt_D nto_D nn_D hown hK hP hD hS 0 rfl rfl 26 (by decide) (hts _ gw_440) (fun _ h9 => h9) rfl (by decide +kernel) rfl rfl (Nat.le_of_ble_eq_true rfl) nd_D_read_98 (fun H locs hP hD hS => ?_)
  have hP : va_P D vwCl (wMD h cA (sU v88 0 26 ((v88 0 4) + (4 : Int32)))) H := hP
  have hD : va_D A (wMD h cA (sU v88 0 26 ((v88 0 4) + (4 : Int32)))) := hD
  rw [hv98] at hP hD
  exact my_rv (u' := v98) hx hb hr hlocks hK hP hD hS (Option.some.inj hw) nd_D_read_101
set_option maxHeartbeats 4000000 in
set_option maxRecDepth 100000 in
theorem c_D_oneStep (l : Launch) (D : va_G) (h : Nat → Nat) (cA : Nat → ClassId) (u : St) (F : Int32 × St) (hw : f_D_oneStep u = some F) : MI nwS vwCl l ny_D_oneStep nw_D_oneStep ({ frames := 4, cells := 0, slots := 0, locals := 95 }) D (tyI cA) (wMD h cA) ([.ref (h 0)] : List Value) u F := by
  refine my_in (gw := GW) (cc := nc_D_oneStep) (maxL := 2) (ret := (some .int)) (Qc := fun A => QI vwCl D (tyI cA) (wMD h cA) F A) (by decide) rfl (Nat.le_of_ble_eq_true rfl) ?_
  intro p e s m below meth c A H locs ls hx hb hml hr hts hown hlocks hK hN hA hP hD hS hl
  have hown : s.vm.findClass nR_D = some m.cls := hown
  have hl : lv_has ls 2 [(0, .ref (h 0))] := hl
  have J106 : ∀ (u : St) (H : Heap) (locs : List Loc) (ls : Array Slot), va_P D vwCl (wMD h cA u) H → va_D A (wMD h cA u) → va_S A s.heap H locs → lv_has ls 2 [(0, .ref (h 0))] → f_D_oneStep_b106 u = some F →
      W p l e (headSpec nw_D_oneStep ({ frames := 4, cells := 0, slots := 0, locals := 95 })).room s m ([.ref (h 0)] : List Value).toArray below meth c H locs 0 0 (MQ below (QI vwCl D (tyI cA) (wMD h cA) F A) ([.ref (h 0)] : List Value).toArray s 0 0 A) (F0 m 106 ls []) := by
    intro u H locs ls hP hD hS hl hw
    unfold f_D_oneStep_b106 at hw
    refine lv_aload_n hx hb nd_D_oneStep_106 rfl (lv_at hl 0 rfl) ?_
    refine lv_aload_n hx hb nd_D_oneStep_107 rfl (lv_at hl 0 rfl) ?_
    refine va_get (D := D) (ci := 5) (v := .int (u 0 24)) (C := nR_D) (T := nT_D) (N := 28) hx hb hts nu_D hown hK hP 0 rfl rfl 24 (by decide) (hts _ gw_438) (fun _ h9 => h9) rfl nd_D_oneStep_108 ?_
    refine va_put (D := D) (ci := 5) (v := .int (u 0 24)) (ty := .int) (C := nR_D) (T := nT_D) (N := 28) hx hb hts nu_D nt_D nto_D nn_D hown hK hP hD hS 0 rfl rfl 13 (by decide) (hts _ gw_427) (fun _ h9 => h9) rfl (by decide +kernel) rfl rfl (Nat.le_of_ble_eq_true rfl) nd_D_oneStep_111 (fun H locs hP hD hS => ?_)
    have hP : va_P D vwCl (wMD h cA (sU u 0 13 (u 0 24))) H := hP
    have hD : va_D A (wMD h cA (sU u 0 13 (u 0 24))) := hD
    refine lv_aload_n hx hb nd_D_oneStep_114 rfl (lv_at hl 0 rfl) ?_
    refine lv_aload_n hx hb nd_D_oneStep_115 rfl (lv_at hl 0 rfl) ?_
    refine va_get (D := D) (ci := 5) (v := .int (u 0 25)) (C := nR_D) (T := nT_D) (N := 28) hx hb hts nu_D hown hK hP 0 rfl rfl 25 (by decide) (hts _ gw_439) (fun _ h9 => h9) rfl nd_D_oneStep_116 ?_
    refine va_put (D := D) (ci := 5) (v := .int (u 0 25)) (ty := .int) (C := nR_D) (T := nT_D) (N := 28) hx hb hts nu_D nt_D nto_D nn_D hown hK hP hD hS 0 rfl rfl 14 (by decide) (hts _ gw_428) (fun _ h9 => h9) rfl (by decide +kernel) rfl rfl (Nat.le_of_ble_eq_true rfl) nd_D_oneStep_119 (fun H locs hP hD hS => ?_)
    have hP : va_P D vwCl (wMD h cA (sU (sU u 0 13 (u 0 24)) 0 14 (u 0 25))) H := hP
    have hD : va_D A (wMD h cA (sU (sU u 0 13 (u 0 24)) 0 14 (u 0 25))) := hD
    refine lv_aload_n hx hb nd_D_oneStep_122 rfl (lv_at hl 0 rfl) ?_
    refine lv_aload_n hx hb nd_D_oneStep_123 rfl (lv_at hl 0 rfl) ?_
    refine my_ci (wd := wMD h cA) (r := zb (f_D_isBranch (sU (sU u 0 13 (u 0 24)) 0 14 (u 0 25)))) (u' := sU (sU u 0 13 (u 0 24)) 0 14 (u 0 25)) (va_runV (As := []) (rest := [.ref (h 0)]) ⟨hx, hb, hml, hown, hts⟩ (c_D_isBranch l D h cA (sU (sU u 0 13 (u 0 24)) 0 14 (u 0 25)) _ rfl _) ⟨callB_of 0 hts (gw_in gw_570) rfl rfl rfl (hts _ gw_6) (hts _ gw_567) nh_D_isBranch ⟨Nat.le_of_ble_eq_true rfl, Nat.le_of_ble_eq_true rfl⟩, (hts _ gw_569), (hts _ gw_568)⟩ (my_preV nwOk hP hK hD hN (va_recv hK hP (ci := 5) (q0 := 0) rfl rfl)) rfl rfl hl.1 rfl (lv_room (Nat.le_of_ble_eq_true rfl)) nd_D_oneStep_124 ⟨Nat.le_of_ble_eq_true rfl, Nat.le_of_ble_eq_true rfl⟩) hD hS hA (fun H locs hP hD hS => ?_)
    refine va_put (D := D) (ci := 5) (v := .int (zb (f_D_isBranch (sU (sU u 0 13 (u 0 24)) 0 14 (u 0 25))))) (ty := .boolean) (C := nR_D) (T := nT_D) (N := 28) hx hb hts nu_D nt_D nto_D nn_D hown hK hP hD hS 0 rfl rfl 12 (by decide) (hts _ gw_426) (fun _ h9 => h9) rfl (by decide +kernel) (zb_n _) (zb_f _) (Nat.le_of_ble_eq_true rfl) nd_D_oneStep_127 (fun H locs hP hD hS => ?_)
    have hP : va_P D vwCl (wMD h cA (sU (sU (sU u 0 13 (u 0 24)) 0 14 (u 0 25)) 0 12 (f_D_isBranch (sU (sU u 0 13 (u 0 24)) 0 14 (u 0 25))))) H := hP
    have hD : va_D A (wMD h cA (sU (sU (sU u 0 13 (u 0 24)) 0 14 (u 0 25)) 0 12 (f_D_isBranch (sU (sU u 0 13 (u 0 24)) 0 14 (u 0 25))))) := hD
    refine lv_aload_n hx hb nd_D_oneStep_130 rfl (lv_at hl 0 rfl) ?_
    refine lv_aload_n hx hb nd_D_oneStep_131 rfl (lv_at hl 0 rfl) ?_
    refine va_get (D := D) (ci := 5) (v := .int (u 0 4)) (C := nR_D) (T := nT_D) (N := 28) hx hb hts nu_D hown hK hP 0 rfl rfl 4 (by decide) (hts _ gw_418) (fun _ h9 => h9) rfl nd_D_oneStep_132 ?_
    refine va_put (D := D) (ci := 5) (v := .int (u 0 4)) (ty := .int) (C := nR_D) (T := nT_D) (N := 28) hx hb hts nu_D nt_D nto_D nn_D hown hK hP hD hS 0 rfl rfl 3 (by decide) (hts _ gw_417) (fun _ h9 => h9) rfl (by decide +kernel) rfl rfl (Nat.le_of_ble_eq_true rfl) nd_D_oneStep_135 (fun H locs hP hD hS => ?_)
    have hP : va_P D vwCl (wMD h cA (sU (sU (sU (sU u 0 13 (u 0 24)) 0 14 (u 0 25)) 0 12 (f_D_isBranch (sU (sU u 0 13 (u 0 24)) 0 14 (u 0 25)))) 0 3 (u 0 4))) H := hP
    have hD : va_D A (wMD h cA (sU (sU (sU (sU u 0 13 (u 0 24)) 0 14 (u 0 25)) 0 12 (f_D_isBranch (sU (sU u 0 13 (u 0 24)) 0 14 (u 0 25)))) 0 3 (u 0 4))) := hD
    refine lv_aload_n hx hb nd_D_oneStep_138 rfl (lv_at hl 0 rfl) ?_
    refine lv_aload_n hx hb nd_D_oneStep_139 rfl (lv_at hl 0 rfl) ?_
    refine va_get (D := D) (ci := 5) (v := .int (u 0 26)) (C := nR_D) (T := nT_D) (N := 28) hx hb hts nu_D hown hK hP 0 rfl rfl 26 (by decide) (hts _ gw_440) (fun _ h9 => h9) rfl nd_D_oneStep_140 ?_
    refine va_put (D := D) (ci := 5) (v := .int (u 0 26)) (ty := .int) (C := nR_D) (T := nT_D) (N := 28) hx hb hts nu_D nt_D nto_D nn_D hown hK hP hD hS 0 rfl rfl 4 (by decide) (hts _ gw_418) (fun _ h9 => h9) rfl (by decide +kernel) rfl rfl (Nat.le_of_ble_eq_true rfl) nd_D_oneStep_143 (fun H locs hP hD hS => ?_)
    have hP : va_P D vwCl (wMD h cA (sU (sU (sU (sU (sU u 0 13 (u 0 24)) 0 14 (u 0 25)) 0 12 (f_D_isBranch (sU (sU u 0 13 (u 0 24)) 0 14 (u 0 25)))) 0 3 (u 0 4)) 0 4 (u 0 26))) H := hP
    have hD : va_D A (wMD h cA (sU (sU (sU (sU (sU u 0 13 (u 0 24)) 0 14 (u 0 25)) 0 12 (f_D_isBranch (sU (sU u 0 13 (u 0 24)) 0 14 (u 0 25)))) 0 3 (u 0 4)) 0 4 (u 0 26))) := hD
    refine lv_iconst (v := (0 : Int32)) hx hb nd_D_oneStep_146 (by decide) ?_
    exact my_ri (u' := sU (sU (sU (sU (sU u 0 13 (u 0 24)) 0 14 (u 0 25)) 0 12 (f_D_isBranch (sU (sU u 0 13 (u 0 24)) 0 14 (u 0 25)))) 0 3 (u 0 4)) 0 4 (u 0 26)) (v := (0 : Int32)) hx hb hr hlocks hK hP hD hS (Option.some.inj hw) nd_D_oneStep_147
  have J67 : ∀ (x1 : Int32) (u : St) (H : Heap) (locs : List Loc) (ls : Array Slot), va_P D vwCl (wMD h cA u) H → va_D A (wMD h cA u) → va_S A s.heap H locs → lv_has ls 2 [(0, .ref (h 0)), (1, .int x1)] → f_D_oneStep_b67 x1 u = some F →
      W p l e (headSpec nw_D_oneStep ({ frames := 4, cells := 0, slots := 0, locals := 95 })).room s m ([.ref (h 0)] : List Value).toArray below meth c H locs 0 0 (MQ below (QI vwCl D (tyI cA) (wMD h cA) F A) ([.ref (h 0)] : List Value).toArray s 0 0 A) (F0 m 67 ls []) := by
    intro x1 u H locs ls hP hD hS hl hw
    unfold f_D_oneStep_b67 at hw
    refine lv_iload_n hx hb nd_D_oneStep_67 rfl (lv_at hl 1 rfl) ?_
    refine lv_if_le (tgt := 78) hx hb nd_D_oneStep_68 (by decide) (fun h68 => ?_) (fun h68 => ?_)
    · have hw := (if_pos h68).symm.trans hw
      refine lv_aload_n hx hb nd_D_oneStep_78 rfl (lv_at hl 0 rfl) ?_
      obtain ⟨u79, hq79, hw⟩ := obv_i hw
      refine my_cv (wd := wMD h cA) (F := u79) (va_runV (As := []) (rest := []) ⟨hx, hb, hml, hown, hts⟩ (c_D_act l D h cA u u79 hq79 _) ⟨callB_of 0 hts (gw_in gw_593) rfl rfl rfl (hts _ gw_6) (hts _ gw_590) nh_D_act ⟨Nat.le_of_ble_eq_true rfl, Nat.le_of_ble_eq_true rfl⟩, (hts _ gw_592), (hts _ gw_591)⟩ (my_preV nwOk hP hK hD hN (va_recv hK hP (ci := 5) (q0 := 0) rfl rfl)) rfl rfl hl.1 rfl (lv_room (Nat.le_of_ble_eq_true rfl)) nd_D_oneStep_79 ⟨Nat.le_of_ble_eq_true rfl, Nat.le_of_ble_eq_true rfl⟩) hD hS hA (fun H locs hP hD hS => ?_)
      refine lv_aload_n hx hb nd_D_oneStep_82 rfl (lv_at hl 0 rfl) ?_
      obtain ⟨u83, hq83, hw⟩ := obv_i hw
      refine my_cv (wd := wMD h cA) (F := u83) (va_runV (As := []) (rest := []) ⟨hx, hb, hml, hown, hts⟩ (c_D_settle l D h cA u79 u83 hq83 _) ⟨callB_of 0 hts (gw_in gw_542) rfl rfl rfl (hts _ gw_6) (hts _ gw_539) nh_D_settle ⟨Nat.le_of_ble_eq_true rfl, Nat.le_of_ble_eq_true rfl⟩, (hts _ gw_541), (hts _ gw_540)⟩ (my_preV nwOk hP hK hD hN (va_recv hK hP (ci := 5) (q0 := 0) rfl rfl)) rfl rfl hl.1 rfl (lv_room (Nat.le_of_ble_eq_true rfl)) nd_D_oneStep_83 ⟨Nat.le_of_ble_eq_true rfl, Nat.le_of_ble_eq_true rfl⟩) hD hS hA (fun H locs hP hD hS => ?_)
      refine lv_aload_n hx hb nd_D_oneStep_86 rfl (lv_at hl 0 rfl) ?_
      refine va_get (D := D) (ci := 5) (v := .int (u83 0 22)) (C := nR_D) (T := nT_D) (N := 28) hx hb hts nu_D hown hK hP 0 rfl rfl 22 (by decide) (hts _ gw_436) (fun _ h9 => h9) rfl nd_D_oneStep_87 ?_
      refine lv_if_le (tgt := 106) hx hb nd_D_oneStep_90 (by decide) (fun h90 => ?_) (fun h90 => ?_)
      · have hw := (if_pos h90).symm.trans hw
        exact J106 u83 H locs ls hP hD hS (lv_sub hl [0] rfl) hw
      have hw := (if_neg h90).symm.trans hw
      refine lv_aload_n hx hb nd_D_oneStep_93 rfl (lv_at hl 0 rfl) ?_
      refine va_get (D := D) (ci := 5) (v := .ref (h 2)) (C := nR_D) (T := nT_D) (N := 28) hx hb hts nu_D hown hK hP 0 rfl rfl 2 (by decide) (hts _ gw_416) (fun _ h9 => h9) rfl nd_D_oneStep_94 ?_
      refine lv_aload_n hx hb nd_D_oneStep_97 rfl (lv_at hl 0 rfl) ?_
      refine va_get (D := D) (ci := 5) (v := .int (u83 0 22)) (C := nR_D) (T := nT_D) (N := 28) hx hb hts nu_D hown hK hP 0 rfl rfl 22 (by decide) (hts _ gw_436) (fun _ h9 => h9) rfl nd_D_oneStep_98 ?_
      refine lv_aload_n hx hb nd_D_oneStep_101 rfl (lv_at hl 0 rfl) ?_
      refine va_get (D := D) (ci := 5) (v := .int (u83 0 23)) (C := nR_D) (T := nT_D) (N := 28) hx hb hts nu_D hown hK hP 0 rfl rfl 23 (by decide) (hts _ gw_437) (fun _ h9 => h9) rfl nd_D_oneStep_102 ?_
      obtain ⟨hi105, hw⟩ := inb_i hw
      refine st_MD2 hx hb hK hP hD hS hi105 nd_D_oneStep_105 (fun H locs hP hD hS => ?_)
      have hP : va_P D vwCl (wMD h cA (sU u83 2 ((u83 0 22).toNatClampNeg) (u83 0 23))) H := hP
      have hD : va_D A (wMD h cA (sU u83 2 ((u83 0 22).toNatClampNeg) (u83 0 23))) := hD
      exact J106 (sU u83 2 ((u83 0 22).toNatClampNeg) (u83 0 23)) H locs ls hP hD hS (lv_sub hl [0] rfl) hw
    have hw := (if_neg h68).symm.trans hw
    refine lv_aload_n hx hb nd_D_oneStep_71 rfl (lv_at hl 0 rfl) ?_
    refine lv_iload_n hx hb nd_D_oneStep_72 rfl (lv_at hl 1 rfl) ?_
    obtain ⟨u73, hq73, hw⟩ := obv_i hw
    refine my_cv (wd := wMD h cA) (F := u73) (va_runV (As := [.int x1]) (rest := []) ⟨hx, hb, hml, hown, hts⟩ (c_D_except l D h cA u x1 u73 hq73 _) ⟨callB_of 1 hts (gw_in gw_537) rfl rfl rfl (hts _ gw_6) (hts _ gw_534) nh_D_except ⟨Nat.le_of_ble_eq_true rfl, Nat.le_of_ble_eq_true rfl⟩, (hts _ gw_536), (hts _ gw_535)⟩ (my_preV nwOk hP hK hD hN (va_recv hK hP (ci := 5) (q0 := 0) rfl rfl)) rfl rfl hl.1 rfl (lv_room (Nat.le_of_ble_eq_true rfl)) nd_D_oneStep_73 ⟨Nat.le_of_ble_eq_true rfl, Nat.le_of_ble_eq_true rfl⟩) hD hS hA (fun H locs hP hD hS => ?_)
    refine lv_iconst (v := (1 : Int32)) hx hb nd_D_oneStep_76 (by decide) ?_
    exact my_ri (u' := u73) (v := (1 : Int32)) hx hb hr hlocks hK hP hD hS (Option.some.inj hw) nd_D_oneStep_77
  have J49 : ∀ (u : St) (H : Heap) (locs : List Loc) (ls : Array Slot), va_P D vwCl (wMD h cA u) H → va_D A (wMD h cA u) → va_S A s.heap H locs → lv_has ls 2 [(0, .ref (h 0))] → f_D_oneStep_b49 u = some F →
      W p l e (headSpec nw_D_oneStep ({ frames := 4, cells := 0, slots := 0, locals := 95 })).room s m ([.ref (h 0)] : List Value).toArray below meth c H locs 0 0 (MQ below (QI vwCl D (tyI cA) (wMD h cA) F A) ([.ref (h 0)] : List Value).toArray s 0 0 A) (F0 m 49 ls []) := by
    intro u H locs ls hP hD hS hl hw
    unfold f_D_oneStep_b49 at hw
    refine lv_aload_n hx hb nd_D_oneStep_49 rfl (lv_at hl 0 rfl) ?_
    obtain ⟨r50, u50, hq50, hw⟩ := bnd_i hw
    refine my_ci (wd := wMD h cA) (r := r50) (u' := u50) (va_runV (As := []) (rest := []) ⟨hx, hb, hml, hown, hts⟩ (c_D_fetch l D h cA u (r50, u50) hq50 _) ⟨callB_of 0 hts (gw_in gw_546) rfl rfl rfl (hts _ gw_6) (hts _ gw_543) nh_D_fetch ⟨Nat.le_of_ble_eq_true rfl, Nat.le_of_ble_eq_true rfl⟩, (hts _ gw_545), (hts _ gw_544)⟩ (my_preV nwOk hP hK hD hN (va_recv hK hP (ci := 5) (q0 := 0) rfl rfl)) rfl rfl hl.1 rfl (lv_room (Nat.le_of_ble_eq_true rfl)) nd_D_oneStep_50 ⟨Nat.le_of_ble_eq_true rfl, Nat.le_of_ble_eq_true rfl⟩) hD hS hA (fun H locs hP hD hS => ?_)
    refine lv_istore_n (lv' := [(1, .int r50), (0, .ref (h 0))]) hx hb nd_D_oneStep_53 rfl hl (by decide) rfl (fun ls hl => ?_)
    refine lv_iload_n hx hb nd_D_oneStep_54 rfl (lv_at hl 0 rfl) ?_
    refine lv_if_ne (tgt := 67) hx hb nd_D_oneStep_55 (by decide) (fun h55 => ?_) (fun h55 => ?_)
    · have hw := (if_neg h55).symm.trans hw
      exact J67 r50 u50 H locs ls hP hD hS (lv_sub hl [1, 0] rfl) hw
    have hw := (if_pos h55).symm.trans hw
    refine lv_aload_n hx hb nd_D_oneStep_58 rfl (lv_at hl 1 rfl) ?_
    obtain ⟨u59, hq59, hw⟩ := obv_i hw
    refine my_cv (wd := wMD h cA) (F := u59) (va_runV (As := []) (rest := []) ⟨hx, hb, hml, hown, hts⟩ (c_D_read l D h cA u50 u59 hq59 _) ⟨callB_of 0 hts (gw_in gw_558) rfl rfl rfl (hts _ gw_6) (hts _ gw_555) nh_D_read ⟨Nat.le_of_ble_eq_true rfl, Nat.le_of_ble_eq_true rfl⟩, (hts _ gw_557), (hts _ gw_556)⟩ (my_preV nwOk hP hK hD hN (va_recv hK hP (ci := 5) (q0 := 0) rfl rfl)) rfl rfl hl.1 rfl (lv_room (Nat.le_of_ble_eq_true rfl)) nd_D_oneStep_59 ⟨Nat.le_of_ble_eq_true rfl, Nat.le_of_ble_eq_true rfl⟩) hD hS hA (fun H locs hP hD hS => ?_)
    refine lv_aload_n hx hb nd_D_oneStep_62 rfl (lv_at hl 1 rfl) ?_
    obtain ⟨r63, u63, hq63, hw⟩ := bnd_i hw
    refine my_ci (wd := wMD h cA) (r := r63) (u' := u63) (va_runV (As := []) (rest := []) ⟨hx, hb, hml, hown, hts⟩ (c_D_trouble l D h cA u59 (r63, u63) hq63 _) ⟨callB_of 0 hts (gw_in gw_562) rfl rfl rfl (hts _ gw_6) (hts _ gw_559) nh_D_trouble ⟨Nat.le_of_ble_eq_true rfl, Nat.le_of_ble_eq_true rfl⟩, (hts _ gw_561), (hts _ gw_560)⟩ (my_preV nwOk hP hK hD hN (va_recv hK hP (ci := 5) (q0 := 0) rfl rfl)) rfl rfl hl.1 rfl (lv_room (Nat.le_of_ble_eq_true rfl)) nd_D_oneStep_63 ⟨Nat.le_of_ble_eq_true rfl, Nat.le_of_ble_eq_true rfl⟩) hD hS hA (fun H locs hP hD hS => ?_)
    refine lv_istore_n (lv' := [(1, .int r63), (0, .ref (h 0))]) hx hb nd_D_oneStep_66 rfl hl (by decide) rfl (fun ls hl => ?_)
    exact J67 r63 u63 H locs ls hP hD hS (lv_sub hl [1, 0] rfl) hw
  unfold f_D_oneStep at hw
  refine lv_aload_n hx hb nd_D_oneStep_0 rfl (lv_at hl 0 rfl) ?_
  refine lv_dup hx hb nd_D_oneStep_1 rfl ?_
  refine va_get (D := D) (ci := 5) (v := .int (u 0 15)) (C := nR_D) (T := nT_D) (N := 28) hx hb hts nu_D hown hK hP 0 rfl rfl 15 (by decide) (hts _ gw_429) (fun _ h9 => h9) rfl nd_D_oneStep_2 ?_
  refine lv_iconst (v := (1 : Int32)) hx hb nd_D_oneStep_5 (by decide) ?_
  refine lv_iadd hx hb nd_D_oneStep_6 ?_
  refine va_put (D := D) (ci := 5) (v := .int ((u 0 15) + (1 : Int32))) (ty := .int) (C := nR_D) (T := nT_D) (N := 28) hx hb hts nu_D nt_D nto_D nn_D hown hK hP hD hS 0 rfl rfl 15 (by decide) (hts _ gw_429) (fun _ h9 => h9) rfl (by decide +kernel) rfl rfl (Nat.le_of_ble_eq_true rfl) nd_D_oneStep_7 (fun H locs hP hD hS => ?_)
  have hP : va_P D vwCl (wMD h cA (sU u 0 15 ((u 0 15) + (1 : Int32)))) H := hP
  have hD : va_D A (wMD h cA (sU u 0 15 ((u 0 15) + (1 : Int32)))) := hD
  refine lv_aload_n hx hb nd_D_oneStep_10 rfl (lv_at hl 0 rfl) ?_
  refine va_get (D := D) (ci := 5) (v := .int (u 0 5)) (C := nR_D) (T := nT_D) (N := 28) hx hb hts nu_D hown hK hP 0 rfl rfl 5 (by decide) (hts _ gw_419) (fun _ h9 => h9) rfl nd_D_oneStep_11 ?_
  refine lv_iconst (v := (1 : Int32)) hx hb nd_D_oneStep_14 (by decide) ?_
  refine lv_iand hx hb nd_D_oneStep_15 ?_
  refine lv_iconst (v := (1 : Int32)) hx hb nd_D_oneStep_16 (by decide) ?_
  refine lv_icmp_ne (tgt := 49) hx hb nd_D_oneStep_17 (by decide) (fun h17 => ?_) (fun h17 => ?_)
  · have hw := (if_neg h17).symm.trans hw
    exact J49 (sU u 0 15 ((u 0 15) + (1 : Int32))) H locs ls hP hD hS (lv_sub hl [0] rfl) hw
  have hw := (if_pos h17).symm.trans hw
  refine lv_aload_n hx hb nd_D_oneStep_20 rfl (lv_at hl 0 rfl) ?_
  refine my_ci (wd := wMD h cA) (r := f_D_cause (sU u 0 15 ((u 0 15) + (1 : Int32)))) (u' := sU u 0 15 ((u 0 15) + (1 : Int32))) (va_runV (As := []) (rest := []) ⟨hx, hb, hml, hown, hts⟩ (c_D_cause l D h cA (sU u 0 15 ((u 0 15) + (1 : Int32))) _ rfl _) ⟨callB_of 0 hts (gw_in gw_532) rfl rfl rfl (hts _ gw_6) (hts _ gw_529) nh_D_cause ⟨Nat.le_of_ble_eq_true rfl, Nat.le_of_ble_eq_true rfl⟩, (hts _ gw_531), (hts _ gw_530)⟩ (my_preV nwOk hP hK hD hN (va_recv hK hP (ci := 5) (q0 := 0) rfl rfl)) rfl rfl hl.1 rfl (lv_room (Nat.le_of_ble_eq_true rfl)) nd_D_oneStep_21 ⟨Nat.le_of_ble_eq_true rfl, Nat.le_of_ble_eq_true rfl⟩) hD hS hA (fun H locs hP hD hS => ?_)
  refine lv_bipush (v := (8 : Int32)) hx hb nd_D_oneStep_24 (by decide) ?_
  refine lv_ishr hx hb nd_D_oneStep_26 ?_
  refine lv_aload_n hx hb nd_D_oneStep_27 rfl (lv_at hl 0 rfl) ?_
  refine va_get (D := D) (ci := 5) (v := .int (u 0 5)) (C := nR_D) (T := nT_D) (N := 28) hx hb hts nu_D hown hK hP 0 rfl rfl 5 (by decide) (hts _ gw_419) (fun _ h9 => h9) rfl nd_D_oneStep_28 ?_
  refine lv_bipush (v := (8 : Int32)) hx hb nd_D_oneStep_31 (by decide) ?_
  refine lv_ishr hx hb nd_D_oneStep_33 ?_
  refine lv_iand hx hb nd_D_oneStep_34 ?_
  refine lv_sipush (v := (255 : Int32)) hx hb nd_D_oneStep_35 (by decide) ?_
  refine lv_iand hx hb nd_D_oneStep_38 ?_
  refine lv_if_eq (tgt := 49) hx hb nd_D_oneStep_39 (by decide) (fun h39 => ?_) (fun h39 => ?_)
  · have hw := (if_pos h39).symm.trans hw
    exact J49 (sU u 0 15 ((u 0 15) + (1 : Int32))) H locs ls hP hD hS (lv_sub hl [0] rfl) hw
  have hw := (if_neg h39).symm.trans hw
  refine lv_aload_n hx hb nd_D_oneStep_42 rfl (lv_at hl 0 rfl) ?_
  refine lv_iconst (v := (0 : Int32)) hx hb nd_D_oneStep_43 (by decide) ?_
  obtain ⟨u44, hq44, hw⟩ := obv_i hw
  refine my_cv (wd := wMD h cA) (F := u44) (va_runV (As := [.int (0 : Int32)]) (rest := []) ⟨hx, hb, hml, hown, hts⟩ (c_D_except l D h cA (sU u 0 15 ((u 0 15) + (1 : Int32))) (0 : Int32) u44 hq44 _) ⟨callB_of 1 hts (gw_in gw_537) rfl rfl rfl (hts _ gw_6) (hts _ gw_534) nh_D_except ⟨Nat.le_of_ble_eq_true rfl, Nat.le_of_ble_eq_true rfl⟩, (hts _ gw_536), (hts _ gw_535)⟩ (my_preV nwOk hP hK hD hN (va_recv hK hP (ci := 5) (q0 := 0) rfl rfl)) rfl rfl hl.1 rfl (lv_room (Nat.le_of_ble_eq_true rfl)) nd_D_oneStep_44 ⟨Nat.le_of_ble_eq_true rfl, Nat.le_of_ble_eq_true rfl⟩) hD hS hA (fun H locs hP hD hS => ?_)
  refine lv_iconst (v := (2 : Int32)) hx hb nd_D_oneStep_47 (by decide) ?_
  exact my_ri (u' := u44) (v := (2 : Int32)) hx hb hr hlocks hK hP hD hS (Option.some.inj hw) nd_D_oneStep_48
set_option maxHeartbeats 4000000 in
set_option maxRecDepth 100000 in
theorem c_D_step (l : Launch) (D : va_G) (h : Nat → Nat) (cA : Nat → ClassId) (u : St) (F : Int32 × St) (hw : f_D_step u = some F) : MI nwS vwCl l ny_D_step nw_D_step ({ frames := 5, cells := 0, slots := 0, locals := 116 }) D (tyI cA) (wMD h cA) ([.ref (h 0)] : List Value) u F := by
  refine my_in (gw := GW) (cc := nc_D_step) (maxL := 1) (ret := (some .int)) (Qc := fun A => QI vwCl D (tyI cA) (wMD h cA) F A) (by decide) rfl (Nat.le_of_ble_eq_true rfl) ?_
  intro p e s m below meth c A H locs ls hx hb hml hr hts hown hlocks hK hN hA hP hD hS hl
  have hown : s.vm.findClass nR_D = some m.cls := hown
  have hl : lv_has ls 1 [(0, .ref (h 0))] := hl
  unfold f_D_step at hw
  refine lv_aload_n hx hb nd_D_step_0 rfl (lv_at hl 0 rfl) ?_
  refine lv_iconst (v := (0 : Int32)) hx hb nd_D_step_1 (by decide) ?_
  refine va_put (D := D) (ci := 5) (v := .int (0 : Int32)) (ty := .int) (C := nR_D) (T := nT_D) (N := 28) hx hb hts nu_D nt_D nto_D nn_D hown hK hP hD hS 0 rfl rfl 0 (by decide) (hts _ gw_414) (fun _ h9 => h9) rfl (by decide +kernel) rfl rfl (Nat.le_of_ble_eq_true rfl) nd_D_step_2 (fun H locs hP hD hS => ?_)
  have hP : va_P D vwCl (wMD h cA (sU u 0 0 (0 : Int32))) H := hP
  have hD : va_D A (wMD h cA (sU u 0 0 (0 : Int32))) := hD
  refine lv_aload_n hx hb nd_D_step_5 rfl (lv_at hl 0 rfl) ?_
  obtain ⟨r6, u6, hq6, hw⟩ := obn_i hw
  refine my_ci (wd := wMD h cA) (r := r6) (u' := u6) (va_runV (As := []) (rest := []) ⟨hx, hb, hml, hown, hts⟩ (c_D_oneStep l D h cA (sU u 0 0 (0 : Int32)) (r6, u6) hq6 _) ⟨callB_of 0 hts (gw_in gw_528) rfl rfl rfl (hts _ gw_6) (hts _ gw_525) nh_D_oneStep ⟨Nat.le_of_ble_eq_true rfl, Nat.le_of_ble_eq_true rfl⟩, (hts _ gw_527), (hts _ gw_526)⟩ (my_preV nwOk hP hK hD hN (va_recv hK hP (ci := 5) (q0 := 0) rfl rfl)) rfl rfl hl.1 rfl (lv_room (Nat.le_of_ble_eq_true rfl)) nd_D_step_6 ⟨Nat.le_of_ble_eq_true rfl, Nat.le_of_ble_eq_true rfl⟩) hD hS hA (fun H locs hP hD hS => ?_)
  exact my_ri (u' := u6) (v := r6) hx hb hr hlocks hK hP hD hS (Option.some.inj hw) nd_D_step_9
set_option maxHeartbeats 4000000 in
set_option maxRecDepth 100000 in
theorem c_D_run (l : Launch) (D : va_G) (h : Nat → Nat) (cA : Nat → ClassId) (u : St) (a1 : Int32) (F : Int32 × St) (hw : f_D_run a1 u = some F) : MI nwS vwCl l ny_D_run nw_D_run ({ frames := 5, cells := 0, slots := 0, locals := 116 }) D (tyI cA) (wMD h cA) ([.ref (h 0), .int a1] : List Value) u F := by
  refine my_in (gw := GW) (cc := nc_D_run) (maxL := 4) (ret := (some .int)) (Qc := fun A => QI vwCl D (tyI cA) (wMD h cA) F A) (by decide) rfl (Nat.le_of_ble_eq_true rfl) ?_
  intro p e s m below meth c A H locs ls hx hb hml hr hts hown hlocks hK hN hA hP hD hS hl
  have hown : s.vm.findClass nR_D = some m.cls := hown
  have hl : lv_has ls 4 [(0, .ref (h 0)), (1, .int a1)] := hl
  have J29 : ∀ (n : Nat) (x1 : Int32) (x2 : Int32) (x3 : Int32) (u : St) (H : Heap) (locs : List Loc) (ls : Array Slot), va_P D vwCl (wMD h cA u) H → va_D A (wMD h cA u) → va_S A s.heap H locs → lv_has ls 4 [(0, .ref (h 0)), (1, .int x1), (2, .int x2), (3, .int x3)] → f_D_run_b29 n x1 x2 x3 u = some F →
      W p l e (headSpec nw_D_run ({ frames := 5, cells := 0, slots := 0, locals := 116 })).room s m ([.ref (h 0), .int a1] : List Value).toArray below meth c H locs 0 0 (MQ below (QI vwCl D (tyI cA) (wMD h cA) F A) ([.ref (h 0), .int a1] : List Value).toArray s 0 0 A) (F0 m 29 ls []) := by
    intro n
    induction n with
    | zero =>
      intro x1 x2 x3 u H locs ls hP hD hS hl hw
      have hw : none = some F := hw
      cases hw
    | succ n ih =>
      intro x1 x2 x3 u H locs ls hP hD hS hl hw
      have hw := (f_D_run_b29_s n x1 x2 x3 u).symm.trans hw
      refine lv_iload_n hx hb nd_D_run_29 rfl (lv_at hl 3 rfl) ?_
      refine lv_iload_n hx hb nd_D_run_30 rfl (lv_at hl 1 rfl) ?_
      refine lv_icmp_ge (tgt := 55) hx hb nd_D_run_31 (by decide) (fun h31 => ?_) (fun h31 => ?_)
      · have hw := (if_pos h31).symm.trans hw
        refine lv_iload_n hx hb nd_D_run_55 rfl (lv_at hl 2 rfl) ?_
        exact my_ri (u' := u) (v := x2) hx hb hr hlocks hK hP hD hS (Option.some.inj hw) nd_D_run_56
      have hw := (if_neg h31).symm.trans hw
      refine lv_aload_n hx hb nd_D_run_34 rfl (lv_at hl 0 rfl) ?_
      obtain ⟨r35, u35, hq35, hw⟩ := obn_i hw
      refine my_ci (wd := wMD h cA) (r := r35) (u' := u35) (va_runV (As := []) (rest := []) ⟨hx, hb, hml, hown, hts⟩ (c_D_oneStep l D h cA u (r35, u35) hq35 _) ⟨callB_of 0 hts (gw_in gw_528) rfl rfl rfl (hts _ gw_6) (hts _ gw_525) nh_D_oneStep ⟨Nat.le_of_ble_eq_true rfl, Nat.le_of_ble_eq_true rfl⟩, (hts _ gw_527), (hts _ gw_526)⟩ (my_preV nwOk hP hK hD hN (va_recv hK hP (ci := 5) (q0 := 0) rfl rfl)) rfl rfl hl.1 rfl (lv_room (Nat.le_of_ble_eq_true rfl)) nd_D_run_35 ⟨Nat.le_of_ble_eq_true rfl, Nat.le_of_ble_eq_true rfl⟩) hD hS hA (fun H locs hP hD hS => ?_)
      refine lv_if_le (tgt := 47) hx hb nd_D_run_38 (by decide) (fun h38 => ?_) (fun h38 => ?_)
      · have hw := (if_pos h38).symm.trans hw
        refine lv_iload_n hx hb nd_D_run_47 rfl (lv_at hl 2 rfl) ?_
        refine lv_istore_n (lv' := [(2, .int x2), (0, .ref (h 0)), (1, .int x1), (3, .int x3)]) hx hb nd_D_run_48 rfl hl (by decide) rfl (fun ls hl => ?_)
        refine lv_iinc (k := 3) (v := x3 + (1 : Int32)) (lv' := [(3, .int (x3 + (1 : Int32))), (2, .int x2), (0, .ref (h 0)), (1, .int x1)]) hx hb nd_D_run_49 hl rfl rfl (by decide) rfl (fun ls hl => ?_)
        refine lv_goto (tgt := 29) hx hb nd_D_run_52 (by decide) ?_
        exact ih x1 x2 (x3 + (1 : Int32)) u35 H locs ls hP hD hS (lv_sub hl [2, 3, 1, 0] rfl) hw
      have hw := (if_neg h38).symm.trans hw
      refine lv_iload_n hx hb nd_D_run_41 rfl (lv_at hl 2 rfl) ?_
      refine lv_iconst (v := (1 : Int32)) hx hb nd_D_run_42 (by decide) ?_
      refine lv_iadd hx hb nd_D_run_43 ?_
      refine lv_goto (tgt := 48) hx hb nd_D_run_44 (by decide) ?_
      refine lv_istore_n (lv' := [(2, .int (x2 + (1 : Int32))), (0, .ref (h 0)), (1, .int x1), (3, .int x3)]) hx hb nd_D_run_48 rfl hl (by decide) rfl (fun ls hl => ?_)
      refine lv_iinc (k := 3) (v := x3 + (1 : Int32)) (lv' := [(3, .int (x3 + (1 : Int32))), (2, .int (x2 + (1 : Int32))), (0, .ref (h 0)), (1, .int x1)]) hx hb nd_D_run_49 hl rfl rfl (by decide) rfl (fun ls hl => ?_)
      refine lv_goto (tgt := 29) hx hb nd_D_run_52 (by decide) ?_
      exact ih x1 (x2 + (1 : Int32)) (x3 + (1 : Int32)) u35 H locs ls hP hD hS (lv_sub hl [2, 3, 1, 0] rfl) hw
  have J17 : ∀ (x1 : Int32) (y0 : Int32) (u : St) (H : Heap) (locs : List Loc) (ls : Array Slot), va_P D vwCl (wMD h cA u) H → va_D A (wMD h cA u) → va_S A s.heap H locs → lv_has ls 4 [(0, .ref (h 0)), (1, .int x1)] → f_D_run_b17 x1 y0 u = some F →
      W p l e (headSpec nw_D_run ({ frames := 5, cells := 0, slots := 0, locals := 116 })).room s m ([.ref (h 0), .int a1] : List Value).toArray below meth c H locs 0 0 (MQ below (QI vwCl D (tyI cA) (wMD h cA) F A) ([.ref (h 0), .int a1] : List Value).toArray s 0 0 A) (F0 m 17 ls [.int (zb y0), .ref (h 0)]) := by
    intro x1 y0 u H locs ls hP hD hS hl hw
    unfold f_D_run_b17 at hw
    obtain ⟨r17, u17, hq17, hw⟩ := bnd_i hw
    refine my_ci (wd := wMD h cA) (r := zb r17) (u' := u17) (va_runV (As := [.int (zb y0)]) (rest := []) ⟨hx, hb, hml, hown, hts⟩ (c_D_goes l D h cA u y0 (r17, u17) hq17 _) ⟨callB_of 1 hts (gw_in gw_487) rfl rfl rfl (hts _ gw_6) (hts _ gw_484) nh_D_goes ⟨Nat.le_of_ble_eq_true rfl, Nat.le_of_ble_eq_true rfl⟩, (hts _ gw_486), (hts _ gw_485)⟩ (my_preV nwOk hP hK hD hN (va_recv hK hP (ci := 5) (q0 := 0) rfl rfl)) rfl rfl hl.1 rfl (lv_room (Nat.le_of_ble_eq_true rfl)) nd_D_run_17 ⟨Nat.le_of_ble_eq_true rfl, Nat.le_of_ble_eq_true rfl⟩) hD hS hA (fun H locs hP hD hS => ?_)
    refine lv_if_ne (tgt := 25) hx hb nd_D_run_20 (by decide) (fun h20 => ?_) (fun h20 => ?_)
    · have hw := (if_neg h20).symm.trans hw
      refine lv_iconst (v := (0 : Int32)) hx hb nd_D_run_25 (by decide) ?_
      refine lv_istore_n (lv' := [(2, .int (0 : Int32)), (0, .ref (h 0)), (1, .int x1)]) hx hb nd_D_run_26 rfl hl (by decide) rfl (fun ls hl => ?_)
      refine lv_iconst (v := (0 : Int32)) hx hb nd_D_run_27 (by decide) ?_
      refine lv_istore_n (lv' := [(3, .int (0 : Int32)), (2, .int (0 : Int32)), (0, .ref (h 0)), (1, .int x1)]) hx hb nd_D_run_28 rfl hl (by decide) rfl (fun ls hl => ?_)
      exact J29 fuel x1 (0 : Int32) (0 : Int32) u17 H locs ls hP hD hS (lv_sub hl [2, 3, 1, 0] rfl) hw
    have hw := (if_pos h20).symm.trans hw
    refine lv_iconst (v := (0 : Int32)) hx hb nd_D_run_23 (by decide) ?_
    exact my_ri (u' := u17) (v := (0 : Int32)) hx hb hr hlocks hK hP hD hS (Option.some.inj hw) nd_D_run_24
  have J16 : ∀ (x1 : Int32) (u : St) (H : Heap) (locs : List Loc) (ls : Array Slot), va_P D vwCl (wMD h cA u) H → va_D A (wMD h cA u) → va_S A s.heap H locs → lv_has ls 4 [(0, .ref (h 0)), (1, .int x1)] → f_D_run_b16 x1 u = some F →
      W p l e (headSpec nw_D_run ({ frames := 5, cells := 0, slots := 0, locals := 116 })).room s m ([.ref (h 0), .int a1] : List Value).toArray below meth c H locs 0 0 (MQ below (QI vwCl D (tyI cA) (wMD h cA) F A) ([.ref (h 0), .int a1] : List Value).toArray s 0 0 A) (F0 m 16 ls [.ref (h 0)]) := by
    intro x1 u H locs ls hP hD hS hl hw
    unfold f_D_run_b16 at hw
    refine lv_iconst (v := (0 : Int32)) hx hb nd_D_run_16 (by decide) ?_
    exact J17 x1 (0 : Int32) u H locs ls hP hD hS (lv_sub hl [0, 1] rfl) hw
  unfold f_D_run at hw
  refine lv_aload_n hx hb nd_D_run_0 rfl (lv_at hl 0 rfl) ?_
  refine lv_iload_n hx hb nd_D_run_1 rfl (lv_at hl 1 rfl) ?_
  refine lv_if_lt (tgt := 16) hx hb nd_D_run_2 (by decide) (fun h2 => ?_) (fun h2 => ?_)
  · have hw := (if_pos h2).symm.trans hw
    exact J16 a1 u H locs ls hP hD hS (lv_sub hl [0, 1] rfl) hw
  have hw := (if_neg h2).symm.trans hw
  refine lv_iload_n hx hb nd_D_run_5 rfl (lv_at hl 1 rfl) ?_
  refine lv_sipush (v := (5000 : Int32)) hx hb nd_D_run_6 (by decide) ?_
  refine lv_icmp_gt (tgt := 16) hx hb nd_D_run_9 (by decide) (fun h9 => ?_) (fun h9 => ?_)
  · have hw := (if_pos h9).symm.trans hw
    exact J16 a1 u H locs ls hP hD hS (lv_sub hl [0, 1] rfl) hw
  have hw := (if_neg h9).symm.trans hw
  refine lv_iconst (v := (1 : Int32)) hx hb nd_D_run_12 (by decide) ?_
  refine lv_goto (tgt := 17) hx hb nd_D_run_13 (by decide) ?_
  exact J17 a1 (1 : Int32) u H locs ls hP hD hS (lv_sub hl [0, 1] rfl) hw
