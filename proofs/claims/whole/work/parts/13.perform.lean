set_option maxHeartbeats 4000000 in
set_option maxRecDepth 100000 in
theorem c_S_performShift (l : Launch) (D : va_G) (h : Nat → Nat) (cA : Nat → ClassId) (u : St) (a1 : Int32) (F : Int32 × St) (hw : f_S_performShift a1 u = F) : MI nwS vwCl l ny_S_performShift nw_S_performShift ({ frames := 2, cells := 0, slots := 0, locals := 42 }) D (tyI cA) (wSC h cA) ([.ref (h 0), .int a1] : List Value) u F := by
  refine my_in (gw := GW) (cc := nc_S_performShift) (maxL := 5) (ret := (some .int)) (Qc := fun A => QI vwCl D (tyI cA) (wSC h cA) F A) (by decide) rfl (Nat.le_of_ble_eq_true rfl) ?_
  intro p e s m below meth c A H locs ls hx hb hml hr hts hown hlocks hK hN hA hP hD hS hl
  have hown : s.vm.findClass nR_S = some m.cls := hown
  have hl : lv_has ls 5 [(0, .ref (h 0)), (1, .int a1)] := hl
  have J124 : ∀ (x2 : Int32) (x3 : Int32) (x4 : Int32) (u : St) (H : Heap) (locs : List Loc) (ls : Array Slot), va_P D vwCl (wSC h cA u) H → va_D A (wSC h cA u) → va_S A s.heap H locs → lv_has ls 5 [(0, .ref (h 0)), (2, .int x2), (3, .int x3), (4, .int x4)] → f_S_performShift_b124 x2 x3 x4 u = F →
      W p l e (headSpec nw_S_performShift ({ frames := 2, cells := 0, slots := 0, locals := 42 })).room s m ([.ref (h 0), .int a1] : List Value).toArray below meth c H locs 0 0 (MQ below (QI vwCl D (tyI cA) (wSC h cA) F A) ([.ref (h 0), .int a1] : List Value).toArray s 0 0 A) (F0 m 124 ls []) := by
    intro x2 x3 x4 u H locs ls hP hD hS hl hw
    unfold f_S_performShift_b124 at hw
    refine lv_aload_n hx hb nd_S_performShift_124 rfl (lv_at hl 0 rfl) ?_
    refine lv_iload_n hx hb nd_S_performShift_125 rfl (lv_at hl 2 rfl) ?_
    refine lv_iload_n hx hb nd_S_performShift_126 rfl (lv_at hl 1 rfl) ?_
    refine lv_iload hx hb nd_S_performShift_127 (lv_at hl 3 rfl) ?_
    refine lv_ishr hx hb nd_S_performShift_129 ?_
    obtain ⟨r130, u130, hq130, hw⟩ := bnd_i hw
    refine my_ci (wd := wSC h cA) (r := r130) (u' := u130) (va_runV (As := [.int x3, .int (x2 >>> (x4 &&& 31))]) (rest := []) ⟨hx, hb, hml, hown, hts⟩ (c_S_give l D h cA u x3 (x2 >>> (x4 &&& 31)) (r130, u130) hq130 _) ⟨callB_of 2 hts (gw_in gw_223) rfl rfl rfl (hts _ gw_1) (hts _ gw_220) nh_S_give ⟨Nat.le_of_ble_eq_true rfl, Nat.le_of_ble_eq_true rfl⟩, (hts _ gw_222), (hts _ gw_221)⟩ (my_preV nwOk hP hK hD hN (va_recv hK hP (ci := 0) (q0 := 0) rfl rfl)) rfl rfl hl.1 rfl (lv_room (Nat.le_of_ble_eq_true rfl)) nd_S_performShift_130 ⟨Nat.le_of_ble_eq_true rfl, Nat.le_of_ble_eq_true rfl⟩) hD hS hA (fun H locs hP hD hS => ?_)
    exact my_ri (u' := u130) (v := r130) hx hb hr hlocks hK hP hD hS hw nd_S_performShift_133
  unfold f_S_performShift at hw
  refine lv_aload_n hx hb nd_S_performShift_0 rfl (lv_at hl 0 rfl) ?_
  refine lv_iload_n hx hb nd_S_performShift_1 rfl (lv_at hl 1 rfl) ?_
  refine my_ci (wd := wSC h cA) (r := f_S_valueOfT a1 u) (u' := u) (va_runV (As := [.int a1]) (rest := []) ⟨hx, hb, hml, hown, hts⟩ (c_S_valueOfT l D h cA u a1 _ rfl _) ⟨callB_of 1 hts (gw_in gw_203) rfl rfl rfl (hts _ gw_1) (hts _ gw_200) nh_S_valueOfT ⟨Nat.le_of_ble_eq_true rfl, Nat.le_of_ble_eq_true rfl⟩, (hts _ gw_202), (hts _ gw_201)⟩ (my_preV nwOk hP hK hD hN (va_recv hK hP (ci := 0) (q0 := 0) rfl rfl)) rfl rfl hl.1 rfl (lv_room (Nat.le_of_ble_eq_true rfl)) nd_S_performShift_2 ⟨Nat.le_of_ble_eq_true rfl, Nat.le_of_ble_eq_true rfl⟩) hD hS hA (fun H locs hP hD hS => ?_)
  refine lv_istore_n (lv' := [(2, .int (f_S_valueOfT a1 u)), (0, .ref (h 0)), (1, .int a1)]) hx hb nd_S_performShift_5 rfl hl (by decide) rfl (fun ls hl => ?_)
  refine lv_iload_n hx hb nd_S_performShift_6 rfl (lv_at hl 2 rfl) ?_
  refine my_cp (F := f_S_numberD a1) (va_runS (As := [.int a1]) (rest := []) ⟨hx, hb, hml, hown, hts⟩ (c_S_numberD l a1 _ rfl) ⟨callB_of 1 hts (gw_in gw_209) rfl rfl rfl (hts _ gw_1) (hts _ gw_207) nh_S_numberD ⟨Nat.le_of_ble_eq_true rfl, Nat.le_of_ble_eq_true rfl⟩, (hts _ gw_208)⟩ my_preP rfl rfl hl.1 rfl (lv_room (Nat.le_of_ble_eq_true rfl)) nd_S_performShift_7 ⟨Nat.le_of_ble_eq_true rfl, Nat.le_of_ble_eq_true rfl⟩) hP hS (fun H locs hP hS => ?_)
  refine lv_istore_n (lv' := [(3, .int (f_S_numberD a1)), (2, .int (f_S_valueOfT a1 u)), (0, .ref (h 0)), (1, .int a1)]) hx hb nd_S_performShift_10 rfl hl (by decide) rfl (fun ls hl => ?_)
  refine lv_aload_n hx hb nd_S_performShift_11 rfl (lv_at hl 2 rfl) ?_
  refine lv_iload_n hx hb nd_S_performShift_12 rfl (lv_at hl 3 rfl) ?_
  refine my_ci (wd := wSC h cA) (r := f_S_valueOfS a1 u) (u' := u) (va_runV (As := [.int a1]) (rest := []) ⟨hx, hb, hml, hown, hts⟩ (c_S_valueOfS l D h cA u a1 _ rfl _) ⟨callB_of 1 hts (gw_in gw_213) rfl rfl rfl (hts _ gw_1) (hts _ gw_210) nh_S_valueOfS ⟨Nat.le_of_ble_eq_true rfl, Nat.le_of_ble_eq_true rfl⟩, (hts _ gw_212), (hts _ gw_211)⟩ (my_preV nwOk hP hK hD hN (va_recv hK hP (ci := 0) (q0 := 0) rfl rfl)) rfl rfl hl.1 rfl (lv_room (Nat.le_of_ble_eq_true rfl)) nd_S_performShift_13 ⟨Nat.le_of_ble_eq_true rfl, Nat.le_of_ble_eq_true rfl⟩) hD hS hA (fun H locs hP hD hS => ?_)
  refine lv_bipush (v := (31 : Int32)) hx hb nd_S_performShift_16 (by decide) ?_
  refine lv_iand hx hb nd_S_performShift_18 ?_
  refine lv_istore (lv' := [(4, .int ((f_S_valueOfS a1 u) &&& (31 : Int32))), (3, .int (f_S_numberD a1)), (2, .int (f_S_valueOfT a1 u)), (0, .ref (h 0)), (1, .int a1)]) hx hb nd_S_performShift_19 hl (by decide) rfl (fun ls hl => ?_)
  refine lv_iload_n hx hb nd_S_performShift_21 rfl (lv_at hl 4 rfl) ?_
  refine my_cp (F := f_S_numberK a1) (va_runS (As := [.int a1]) (rest := []) ⟨hx, hb, hml, hown, hts⟩ (c_S_numberK l a1 _ rfl) ⟨callB_of 1 hts (gw_in gw_185) rfl rfl rfl (hts _ gw_1) (hts _ gw_183) nh_S_numberK ⟨Nat.le_of_ble_eq_true rfl, Nat.le_of_ble_eq_true rfl⟩, (hts _ gw_184)⟩ my_preP rfl rfl hl.1 rfl (lv_room (Nat.le_of_ble_eq_true rfl)) nd_S_performShift_22 ⟨Nat.le_of_ble_eq_true rfl, Nat.le_of_ble_eq_true rfl⟩) hP hS (fun H locs hP hS => ?_)
  rcases my_em (x := f_S_numberK a1) (0 : Int32) with h25_0 | h25_0
  · have hw := (if_pos h25_0).symm.trans hw
    refine my_swi (tgt := 68) hx hb nd_S_performShift_25 h25_0 (by decide) (by decide) rfl (by decide) ?_
    refine lv_aload_n hx hb nd_S_performShift_68 rfl (lv_at hl 3 rfl) ?_
    refine lv_iload_n hx hb nd_S_performShift_69 rfl (lv_at hl 1 rfl) ?_
    refine lv_iload_n hx hb nd_S_performShift_70 rfl (lv_at hl 2 rfl) ?_
    refine lv_iload_n hx hb nd_S_performShift_71 rfl (lv_at hl 4 rfl) ?_
    refine my_cp (F := f_S_numberA a1) (va_runS (As := [.int a1]) (rest := [.int (f_S_valueOfT a1 u), .int (f_S_numberD a1), .ref (h 0)]) ⟨hx, hb, hml, hown, hts⟩ (c_S_numberA l a1 _ rfl) ⟨callB_of 1 hts (gw_in gw_219) rfl rfl rfl (hts _ gw_1) (hts _ gw_217) nh_S_numberA ⟨Nat.le_of_ble_eq_true rfl, Nat.le_of_ble_eq_true rfl⟩, (hts _ gw_218)⟩ my_preP rfl rfl hl.1 rfl (lv_room (Nat.le_of_ble_eq_true rfl)) nd_S_performShift_72 ⟨Nat.le_of_ble_eq_true rfl, Nat.le_of_ble_eq_true rfl⟩) hP hS (fun H locs hP hS => ?_)
    refine lv_ishl hx hb nd_S_performShift_75 ?_
    obtain ⟨r76, u76, hq76, hw⟩ := bnd_i hw
    refine my_ci (wd := wSC h cA) (r := r76) (u' := u76) (va_runV (As := [.int (f_S_numberD a1), .int ((f_S_valueOfT a1 u) <<< ((f_S_numberA a1) &&& 31))]) (rest := []) ⟨hx, hb, hml, hown, hts⟩ (c_S_give l D h cA u (f_S_numberD a1) ((f_S_valueOfT a1 u) <<< ((f_S_numberA a1) &&& 31)) (r76, u76) hq76 _) ⟨callB_of 2 hts (gw_in gw_223) rfl rfl rfl (hts _ gw_1) (hts _ gw_220) nh_S_give ⟨Nat.le_of_ble_eq_true rfl, Nat.le_of_ble_eq_true rfl⟩, (hts _ gw_222), (hts _ gw_221)⟩ (my_preV nwOk hP hK hD hN (va_recv hK hP (ci := 0) (q0 := 0) rfl rfl)) rfl rfl hl.1 rfl (lv_room (Nat.le_of_ble_eq_true rfl)) nd_S_performShift_76 ⟨Nat.le_of_ble_eq_true rfl, Nat.le_of_ble_eq_true rfl⟩) hD hS hA (fun H locs hP hD hS => ?_)
    exact my_ri (u' := u76) (v := r76) hx hb hr hlocks hK hP hD hS hw nd_S_performShift_79
  have hw := (if_neg h25_0).symm.trans hw
  rcases my_em (x := f_S_numberK a1) (2 : Int32) with h25_2 | h25_2
  · have hw := (if_pos h25_2).symm.trans hw
    refine my_swi (tgt := 80) hx hb nd_S_performShift_25 h25_2 (by decide) (by decide) rfl (by decide) ?_
    refine lv_aload_n hx hb nd_S_performShift_80 rfl (lv_at hl 3 rfl) ?_
    refine lv_iload_n hx hb nd_S_performShift_81 rfl (lv_at hl 1 rfl) ?_
    refine lv_iload_n hx hb nd_S_performShift_82 rfl (lv_at hl 2 rfl) ?_
    refine lv_iload_n hx hb nd_S_performShift_83 rfl (lv_at hl 4 rfl) ?_
    refine my_cp (F := f_S_numberA a1) (va_runS (As := [.int a1]) (rest := [.int (f_S_valueOfT a1 u), .int (f_S_numberD a1), .ref (h 0)]) ⟨hx, hb, hml, hown, hts⟩ (c_S_numberA l a1 _ rfl) ⟨callB_of 1 hts (gw_in gw_219) rfl rfl rfl (hts _ gw_1) (hts _ gw_217) nh_S_numberA ⟨Nat.le_of_ble_eq_true rfl, Nat.le_of_ble_eq_true rfl⟩, (hts _ gw_218)⟩ my_preP rfl rfl hl.1 rfl (lv_room (Nat.le_of_ble_eq_true rfl)) nd_S_performShift_84 ⟨Nat.le_of_ble_eq_true rfl, Nat.le_of_ble_eq_true rfl⟩) hP hS (fun H locs hP hS => ?_)
    refine lv_iushr (v := ush (f_S_valueOfT a1 u) (f_S_numberA a1)) hx hb nd_S_performShift_87 rfl ?_
    obtain ⟨r88, u88, hq88, hw⟩ := bnd_i hw
    refine my_ci (wd := wSC h cA) (r := r88) (u' := u88) (va_runV (As := [.int (f_S_numberD a1), .int (ush (f_S_valueOfT a1 u) (f_S_numberA a1))]) (rest := []) ⟨hx, hb, hml, hown, hts⟩ (c_S_give l D h cA u (f_S_numberD a1) (ush (f_S_valueOfT a1 u) (f_S_numberA a1)) (r88, u88) hq88 _) ⟨callB_of 2 hts (gw_in gw_223) rfl rfl rfl (hts _ gw_1) (hts _ gw_220) nh_S_give ⟨Nat.le_of_ble_eq_true rfl, Nat.le_of_ble_eq_true rfl⟩, (hts _ gw_222), (hts _ gw_221)⟩ (my_preV nwOk hP hK hD hN (va_recv hK hP (ci := 0) (q0 := 0) rfl rfl)) rfl rfl hl.1 rfl (lv_room (Nat.le_of_ble_eq_true rfl)) nd_S_performShift_88 ⟨Nat.le_of_ble_eq_true rfl, Nat.le_of_ble_eq_true rfl⟩) hD hS hA (fun H locs hP hD hS => ?_)
    exact my_ri (u' := u88) (v := r88) hx hb hr hlocks hK hP hD hS hw nd_S_performShift_91
  have hw := (if_neg h25_2).symm.trans hw
  rcases my_em (x := f_S_numberK a1) (3 : Int32) with h25_3 | h25_3
  · have hw := (if_pos h25_3).symm.trans hw
    refine my_swi (tgt := 92) hx hb nd_S_performShift_25 h25_3 (by decide) (by decide) rfl (by decide) ?_
    refine lv_aload_n hx hb nd_S_performShift_92 rfl (lv_at hl 3 rfl) ?_
    refine lv_iload_n hx hb nd_S_performShift_93 rfl (lv_at hl 1 rfl) ?_
    refine lv_iload_n hx hb nd_S_performShift_94 rfl (lv_at hl 2 rfl) ?_
    refine lv_iload_n hx hb nd_S_performShift_95 rfl (lv_at hl 4 rfl) ?_
    refine my_cp (F := f_S_numberA a1) (va_runS (As := [.int a1]) (rest := [.int (f_S_valueOfT a1 u), .int (f_S_numberD a1), .ref (h 0)]) ⟨hx, hb, hml, hown, hts⟩ (c_S_numberA l a1 _ rfl) ⟨callB_of 1 hts (gw_in gw_219) rfl rfl rfl (hts _ gw_1) (hts _ gw_217) nh_S_numberA ⟨Nat.le_of_ble_eq_true rfl, Nat.le_of_ble_eq_true rfl⟩, (hts _ gw_218)⟩ my_preP rfl rfl hl.1 rfl (lv_room (Nat.le_of_ble_eq_true rfl)) nd_S_performShift_96 ⟨Nat.le_of_ble_eq_true rfl, Nat.le_of_ble_eq_true rfl⟩) hP hS (fun H locs hP hS => ?_)
    refine lv_ishr hx hb nd_S_performShift_99 ?_
    obtain ⟨r100, u100, hq100, hw⟩ := bnd_i hw
    refine my_ci (wd := wSC h cA) (r := r100) (u' := u100) (va_runV (As := [.int (f_S_numberD a1), .int ((f_S_valueOfT a1 u) >>> ((f_S_numberA a1) &&& 31))]) (rest := []) ⟨hx, hb, hml, hown, hts⟩ (c_S_give l D h cA u (f_S_numberD a1) ((f_S_valueOfT a1 u) >>> ((f_S_numberA a1) &&& 31)) (r100, u100) hq100 _) ⟨callB_of 2 hts (gw_in gw_223) rfl rfl rfl (hts _ gw_1) (hts _ gw_220) nh_S_give ⟨Nat.le_of_ble_eq_true rfl, Nat.le_of_ble_eq_true rfl⟩, (hts _ gw_222), (hts _ gw_221)⟩ (my_preV nwOk hP hK hD hN (va_recv hK hP (ci := 0) (q0 := 0) rfl rfl)) rfl rfl hl.1 rfl (lv_room (Nat.le_of_ble_eq_true rfl)) nd_S_performShift_100 ⟨Nat.le_of_ble_eq_true rfl, Nat.le_of_ble_eq_true rfl⟩) hD hS hA (fun H locs hP hD hS => ?_)
    exact my_ri (u' := u100) (v := r100) hx hb hr hlocks hK hP hD hS hw nd_S_performShift_103
  have hw := (if_neg h25_3).symm.trans hw
  rcases my_em (x := f_S_numberK a1) (4 : Int32) with h25_4 | h25_4
  · have hw := (if_pos h25_4).symm.trans hw
    refine my_swi (tgt := 104) hx hb nd_S_performShift_25 h25_4 (by decide) (by decide) rfl (by decide) ?_
    refine lv_aload_n hx hb nd_S_performShift_104 rfl (lv_at hl 3 rfl) ?_
    refine lv_iload_n hx hb nd_S_performShift_105 rfl (lv_at hl 1 rfl) ?_
    refine lv_iload_n hx hb nd_S_performShift_106 rfl (lv_at hl 2 rfl) ?_
    refine lv_iload hx hb nd_S_performShift_107 (lv_at hl 0 rfl) ?_
    refine lv_ishl hx hb nd_S_performShift_109 ?_
    obtain ⟨r110, u110, hq110, hw⟩ := bnd_i hw
    refine my_ci (wd := wSC h cA) (r := r110) (u' := u110) (va_runV (As := [.int (f_S_numberD a1), .int ((f_S_valueOfT a1 u) <<< (((f_S_valueOfS a1 u) &&& (31 : Int32)) &&& 31))]) (rest := []) ⟨hx, hb, hml, hown, hts⟩ (c_S_give l D h cA u (f_S_numberD a1) ((f_S_valueOfT a1 u) <<< (((f_S_valueOfS a1 u) &&& (31 : Int32)) &&& 31)) (r110, u110) hq110 _) ⟨callB_of 2 hts (gw_in gw_223) rfl rfl rfl (hts _ gw_1) (hts _ gw_220) nh_S_give ⟨Nat.le_of_ble_eq_true rfl, Nat.le_of_ble_eq_true rfl⟩, (hts _ gw_222), (hts _ gw_221)⟩ (my_preV nwOk hP hK hD hN (va_recv hK hP (ci := 0) (q0 := 0) rfl rfl)) rfl rfl hl.1 rfl (lv_room (Nat.le_of_ble_eq_true rfl)) nd_S_performShift_110 ⟨Nat.le_of_ble_eq_true rfl, Nat.le_of_ble_eq_true rfl⟩) hD hS hA (fun H locs hP hD hS => ?_)
    exact my_ri (u' := u110) (v := r110) hx hb hr hlocks hK hP hD hS hw nd_S_performShift_113
  have hw := (if_neg h25_4).symm.trans hw
  rcases my_em (x := f_S_numberK a1) (6 : Int32) with h25_6 | h25_6
  · have hw := (if_pos h25_6).symm.trans hw
    refine my_swi (tgt := 114) hx hb nd_S_performShift_25 h25_6 (by decide) (by decide) rfl (by decide) ?_
    refine lv_aload_n hx hb nd_S_performShift_114 rfl (lv_at hl 3 rfl) ?_
    refine lv_iload_n hx hb nd_S_performShift_115 rfl (lv_at hl 1 rfl) ?_
    refine lv_iload_n hx hb nd_S_performShift_116 rfl (lv_at hl 2 rfl) ?_
    refine lv_iload hx hb nd_S_performShift_117 (lv_at hl 0 rfl) ?_
    refine lv_iushr (v := ush (f_S_valueOfT a1 u) ((f_S_valueOfS a1 u) &&& (31 : Int32))) hx hb nd_S_performShift_119 rfl ?_
    obtain ⟨r120, u120, hq120, hw⟩ := bnd_i hw
    refine my_ci (wd := wSC h cA) (r := r120) (u' := u120) (va_runV (As := [.int (f_S_numberD a1), .int (ush (f_S_valueOfT a1 u) ((f_S_valueOfS a1 u) &&& (31 : Int32)))]) (rest := []) ⟨hx, hb, hml, hown, hts⟩ (c_S_give l D h cA u (f_S_numberD a1) (ush (f_S_valueOfT a1 u) ((f_S_valueOfS a1 u) &&& (31 : Int32))) (r120, u120) hq120 _) ⟨callB_of 2 hts (gw_in gw_223) rfl rfl rfl (hts _ gw_1) (hts _ gw_220) nh_S_give ⟨Nat.le_of_ble_eq_true rfl, Nat.le_of_ble_eq_true rfl⟩, (hts _ gw_222), (hts _ gw_221)⟩ (my_preV nwOk hP hK hD hN (va_recv hK hP (ci := 0) (q0 := 0) rfl rfl)) rfl rfl hl.1 rfl (lv_room (Nat.le_of_ble_eq_true rfl)) nd_S_performShift_120 ⟨Nat.le_of_ble_eq_true rfl, Nat.le_of_ble_eq_true rfl⟩) hD hS hA (fun H locs hP hD hS => ?_)
    exact my_ri (u' := u120) (v := r120) hx hb hr hlocks hK hP hD hS hw nd_S_performShift_123
  have hw := (if_neg h25_6).symm.trans hw
  refine my_swd (tgt := 124) hx hb nd_S_performShift_25 (my_nec h25_0 (my_nec h25_2 (my_nec h25_3 (my_nec h25_4 (my_nec h25_6 my_nen))))) (by decide +kernel) (by decide) ?_
  exact J124 (f_S_valueOfT a1 u) (f_S_numberD a1) ((f_S_valueOfS a1 u) &&& (31 : Int32)) u H locs ls hP hD hS (lv_sub hl [3, 2, 1, 0] rfl) hw
set_option maxHeartbeats 4000000 in
set_option maxRecDepth 100000 in
theorem c_S_performJumpToS (l : Launch) (D : va_G) (h : Nat → Nat) (cA : Nat → ClassId) (u : St) (a1 : Int32) (F : Int32 × St) (hw : f_S_performJumpToS a1 u = F) : MI nwS vwCl l ny_S_performJumpToS nw_S_performJumpToS ({ frames := 2, cells := 0, slots := 0, locals := 42 }) D (tyI cA) (wSC h cA) ([.ref (h 0), .int a1] : List Value) u F := by
  refine my_in (gw := GW) (cc := nc_S_performJumpToS) (maxL := 2) (ret := (some .int)) (Qc := fun A => QI vwCl D (tyI cA) (wSC h cA) F A) (by decide) rfl (Nat.le_of_ble_eq_true rfl) ?_
  intro p e s m below meth c A H locs ls hx hb hml hr hts hown hlocks hK hN hA hP hD hS hl
  have hown : s.vm.findClass nR_S = some m.cls := hown
  have hl : lv_has ls 2 [(0, .ref (h 0)), (1, .int a1)] := hl
  have J25 : ∀ (x1 : Int32) (u : St) (H : Heap) (locs : List Loc) (ls : Array Slot), va_P D vwCl (wSC h cA u) H → va_D A (wSC h cA u) → va_S A s.heap H locs → lv_has ls 2 [(0, .ref (h 0)), (1, .int x1)] → f_S_performJumpToS_b25 x1 u = F →
      W p l e (headSpec nw_S_performJumpToS ({ frames := 2, cells := 0, slots := 0, locals := 42 })).room s m ([.ref (h 0), .int a1] : List Value).toArray below meth c H locs 0 0 (MQ below (QI vwCl D (tyI cA) (wSC h cA) F A) ([.ref (h 0), .int a1] : List Value).toArray s 0 0 A) (F0 m 25 ls []) := by
    intro x1 u H locs ls hP hD hS hl hw
    unfold f_S_performJumpToS_b25 at hw
    refine lv_aload_n hx hb nd_S_performJumpToS_25 rfl (lv_at hl 0 rfl) ?_
    refine lv_iconst (v := (1 : Int32)) hx hb nd_S_performJumpToS_26 (by decide) ?_
    refine lv_aload_n hx hb nd_S_performJumpToS_27 rfl (lv_at hl 0 rfl) ?_
    refine lv_iload_n hx hb nd_S_performJumpToS_28 rfl (lv_at hl 1 rfl) ?_
    refine my_ci (wd := wSC h cA) (r := f_S_valueOfS x1 u) (u' := u) (va_runV (As := [.int x1]) (rest := [.int (1 : Int32), .ref (h 0)]) ⟨hx, hb, hml, hown, hts⟩ (c_S_valueOfS l D h cA u x1 _ rfl _) ⟨callB_of 1 hts (gw_in gw_213) rfl rfl rfl (hts _ gw_1) (hts _ gw_210) nh_S_valueOfS ⟨Nat.le_of_ble_eq_true rfl, Nat.le_of_ble_eq_true rfl⟩, (hts _ gw_212), (hts _ gw_211)⟩ (my_preV nwOk hP hK hD hN (va_recv hK hP (ci := 0) (q0 := 0) rfl rfl)) rfl rfl hl.1 rfl (lv_room (Nat.le_of_ble_eq_true rfl)) nd_S_performJumpToS_29 ⟨Nat.le_of_ble_eq_true rfl, Nat.le_of_ble_eq_true rfl⟩) hD hS hA (fun H locs hP hD hS => ?_)
    obtain ⟨r32, u32, hq32, hw⟩ := bnd_i hw
    refine my_ci (wd := wSC h cA) (r := r32) (u' := u32) (va_runV (As := [.int (zb (1 : Int32)), .int (f_S_valueOfS x1 u)]) (rest := []) ⟨hx, hb, hml, hown, hts⟩ (c_S_branchIf l D h cA u (1 : Int32) (f_S_valueOfS x1 u) (r32, u32) hq32 _) ⟨callB_of 2 hts (gw_in gw_231) rfl rfl rfl (hts _ gw_1) (hts _ gw_228) nh_S_branchIf ⟨Nat.le_of_ble_eq_true rfl, Nat.le_of_ble_eq_true rfl⟩, (hts _ gw_230), (hts _ gw_229)⟩ (my_preV nwOk hP hK hD hN (va_recv hK hP (ci := 0) (q0 := 0) rfl rfl)) rfl rfl hl.1 rfl (lv_room (Nat.le_of_ble_eq_true rfl)) nd_S_performJumpToS_32 ⟨Nat.le_of_ble_eq_true rfl, Nat.le_of_ble_eq_true rfl⟩) hD hS hA (fun H locs hP hD hS => ?_)
    exact my_ri (u' := u32) (v := r32) hx hb hr hlocks hK hP hD hS hw nd_S_performJumpToS_35
  unfold f_S_performJumpToS at hw
  refine lv_iload_n hx hb nd_S_performJumpToS_0 rfl (lv_at hl 1 rfl) ?_
  refine my_cp (F := f_S_numberK a1) (va_runS (As := [.int a1]) (rest := []) ⟨hx, hb, hml, hown, hts⟩ (c_S_numberK l a1 _ rfl) ⟨callB_of 1 hts (gw_in gw_185) rfl rfl rfl (hts _ gw_1) (hts _ gw_183) nh_S_numberK ⟨Nat.le_of_ble_eq_true rfl, Nat.le_of_ble_eq_true rfl⟩, (hts _ gw_184)⟩ my_preP rfl rfl hl.1 rfl (lv_room (Nat.le_of_ble_eq_true rfl)) nd_S_performJumpToS_1 ⟨Nat.le_of_ble_eq_true rfl, Nat.le_of_ble_eq_true rfl⟩) hP hS (fun H locs hP hS => ?_)
  refine lv_bipush (v := (9 : Int32)) hx hb nd_S_performJumpToS_4 (by decide) ?_
  refine lv_icmp_ne (tgt := 25) hx hb nd_S_performJumpToS_6 (by decide) (fun h6 => ?_) (fun h6 => ?_)
  · have hw := (if_neg h6).symm.trans hw
    exact J25 a1 u H locs ls hP hD hS (lv_sub hl [0, 1] rfl) hw
  have hw := (if_pos h6).symm.trans hw
  refine lv_aload_n hx hb nd_S_performJumpToS_9 rfl (lv_at hl 0 rfl) ?_
  refine lv_iload_n hx hb nd_S_performJumpToS_10 rfl (lv_at hl 1 rfl) ?_
  refine my_cp (F := f_S_numberD a1) (va_runS (As := [.int a1]) (rest := [.ref (h 0)]) ⟨hx, hb, hml, hown, hts⟩ (c_S_numberD l a1 _ rfl) ⟨callB_of 1 hts (gw_in gw_209) rfl rfl rfl (hts _ gw_1) (hts _ gw_207) nh_S_numberD ⟨Nat.le_of_ble_eq_true rfl, Nat.le_of_ble_eq_true rfl⟩, (hts _ gw_208)⟩ my_preP rfl rfl hl.1 rfl (lv_room (Nat.le_of_ble_eq_true rfl)) nd_S_performJumpToS_11 ⟨Nat.le_of_ble_eq_true rfl, Nat.le_of_ble_eq_true rfl⟩) hP hS (fun H locs hP hS => ?_)
  refine lv_aload_n hx hb nd_S_performJumpToS_14 rfl (lv_at hl 0 rfl) ?_
  refine va_get (D := D) (ci := 0) (v := .int (u 0 4)) (C := nR_S) (T := nT_S) (N := 9) hx hb hts nu_S hown hK hP 0 rfl rfl 4 (by decide) (hts _ gw_67) (fun _ h9 => h9) rfl nd_S_performJumpToS_15 ?_
  refine lv_bipush (v := (8 : Int32)) hx hb nd_S_performJumpToS_18 (by decide) ?_
  refine lv_iadd hx hb nd_S_performJumpToS_20 ?_
  obtain ⟨r21, u21, hq21, hw⟩ := bnd_i hw
  refine my_ci (wd := wSC h cA) (r := r21) (u' := u21) (va_runV (As := [.int (f_S_numberD a1), .int ((u 0 4) + (8 : Int32))]) (rest := []) ⟨hx, hb, hml, hown, hts⟩ (c_S_give l D h cA u (f_S_numberD a1) ((u 0 4) + (8 : Int32)) (r21, u21) hq21 _) ⟨callB_of 2 hts (gw_in gw_223) rfl rfl rfl (hts _ gw_1) (hts _ gw_220) nh_S_give ⟨Nat.le_of_ble_eq_true rfl, Nat.le_of_ble_eq_true rfl⟩, (hts _ gw_222), (hts _ gw_221)⟩ (my_preV nwOk hP hK hD hN (va_recv hK hP (ci := 0) (q0 := 0) rfl rfl)) rfl rfl hl.1 rfl (lv_room (Nat.le_of_ble_eq_true rfl)) nd_S_performJumpToS_21 ⟨Nat.le_of_ble_eq_true rfl, Nat.le_of_ble_eq_true rfl⟩) hD hS hA (fun H locs hP hD hS => ?_)
  refine lv_pop hx hb nd_S_performJumpToS_24 rfl ?_
  exact J25 a1 u21 H locs ls hP hD hS (lv_sub hl [0, 1] rfl) hw
set_option maxHeartbeats 4000000 in
set_option maxRecDepth 100000 in
theorem c_S_performMove (l : Launch) (D : va_G) (h : Nat → Nat) (cA : Nat → ClassId) (u : St) (a1 : Int32) (F : Int32 × St) (hw : f_S_performMove a1 u = F) : MI nwS vwCl l ny_S_performMove nw_S_performMove ({ frames := 2, cells := 0, slots := 0, locals := 42 }) D (tyI cA) (wSC h cA) ([.ref (h 0), .int a1] : List Value) u F := by
  refine my_in (gw := GW) (cc := nc_S_performMove) (maxL := 2) (ret := (some .int)) (Qc := fun A => QI vwCl D (tyI cA) (wSC h cA) F A) (by decide) rfl (Nat.le_of_ble_eq_true rfl) ?_
  intro p e s m below meth c A H locs ls hx hb hml hr hts hown hlocks hK hN hA hP hD hS hl
  have hown : s.vm.findClass nR_S = some m.cls := hown
  have hl : lv_has ls 2 [(0, .ref (h 0)), (1, .int a1)] := hl
  unfold f_S_performMove at hw
  refine lv_iload_n hx hb nd_S_performMove_0 rfl (lv_at hl 1 rfl) ?_
  refine my_cp (F := f_S_numberK a1) (va_runS (As := [.int a1]) (rest := []) ⟨hx, hb, hml, hown, hts⟩ (c_S_numberK l a1 _ rfl) ⟨callB_of 1 hts (gw_in gw_185) rfl rfl rfl (hts _ gw_1) (hts _ gw_183) nh_S_numberK ⟨Nat.le_of_ble_eq_true rfl, Nat.le_of_ble_eq_true rfl⟩, (hts _ gw_184)⟩ my_preP rfl rfl hl.1 rfl (lv_room (Nat.le_of_ble_eq_true rfl)) nd_S_performMove_1 ⟨Nat.le_of_ble_eq_true rfl, Nat.le_of_ble_eq_true rfl⟩) hP hS (fun H locs hP hS => ?_)
  rcases my_em (x := f_S_numberK a1) (16 : Int32) with h4_16 | h4_16
  · have hw := (if_pos h4_16).symm.trans hw
    refine my_swi (tgt := 32) hx hb nd_S_performMove_4 h4_16 (by decide) (by decide) rfl (by decide) ?_
    refine lv_aload_n hx hb nd_S_performMove_32 rfl (lv_at hl 0 rfl) ?_
    refine lv_iload_n hx hb nd_S_performMove_33 rfl (lv_at hl 1 rfl) ?_
    refine my_cp (F := f_S_numberD a1) (va_runS (As := [.int a1]) (rest := [.ref (h 0)]) ⟨hx, hb, hml, hown, hts⟩ (c_S_numberD l a1 _ rfl) ⟨callB_of 1 hts (gw_in gw_209) rfl rfl rfl (hts _ gw_1) (hts _ gw_207) nh_S_numberD ⟨Nat.le_of_ble_eq_true rfl, Nat.le_of_ble_eq_true rfl⟩, (hts _ gw_208)⟩ my_preP rfl rfl hl.1 rfl (lv_room (Nat.le_of_ble_eq_true rfl)) nd_S_performMove_34 ⟨Nat.le_of_ble_eq_true rfl, Nat.le_of_ble_eq_true rfl⟩) hP hS (fun H locs hP hS => ?_)
    refine lv_aload_n hx hb nd_S_performMove_37 rfl (lv_at hl 0 rfl) ?_
    refine va_get (D := D) (ci := 0) (v := .ref (h 3)) (C := nR_S) (T := nT_S) (N := 9) hx hb hts nu_S hown hK hP 0 rfl rfl 1 (by decide) (hts _ gw_64) (fun _ h9 => h9) rfl nd_S_performMove_38 ?_
    refine lv_bipush (v := (32 : Int32)) hx hb nd_S_performMove_41 (by decide) ?_
    refine my_ci (wd := wSC h cA) (r := f_R_valueOf (32 : Int32) u) (u' := u) (va_runVN (As := [.int (32 : Int32)]) (rest := [.int (f_S_numberD a1), .ref (h 0)]) ⟨hx, hb, hml, hown, hts⟩ (c_R_valueOf l D h cA u (32 : Int32) _ rfl _) ⟨va_cnB 1 hts (gw_in gw_206) rfl rfl rfl (hN _ nm_26) (hts _ gw_3) nh_R_valueOf ⟨Nat.le_of_ble_eq_true rfl, Nat.le_of_ble_eq_true rfl⟩, (hts _ gw_205), (hts _ gw_204)⟩ (my_preV nwOk hP hK hD hN (va_recv hK hP (ci := 2) (q0 := 3) rfl rfl)) rfl rfl hl.1 rfl (lv_room (Nat.le_of_ble_eq_true rfl)) nd_S_performMove_43 ⟨Nat.le_of_ble_eq_true rfl, Nat.le_of_ble_eq_true rfl⟩) hD hS hA (fun H locs hP hD hS => ?_)
    obtain ⟨r46, u46, hq46, hw⟩ := bnd_i hw
    refine my_ci (wd := wSC h cA) (r := r46) (u' := u46) (va_runV (As := [.int (f_S_numberD a1), .int (f_R_valueOf (32 : Int32) u)]) (rest := []) ⟨hx, hb, hml, hown, hts⟩ (c_S_give l D h cA u (f_S_numberD a1) (f_R_valueOf (32 : Int32) u) (r46, u46) hq46 _) ⟨callB_of 2 hts (gw_in gw_223) rfl rfl rfl (hts _ gw_1) (hts _ gw_220) nh_S_give ⟨Nat.le_of_ble_eq_true rfl, Nat.le_of_ble_eq_true rfl⟩, (hts _ gw_222), (hts _ gw_221)⟩ (my_preV nwOk hP hK hD hN (va_recv hK hP (ci := 0) (q0 := 0) rfl rfl)) rfl rfl hl.1 rfl (lv_room (Nat.le_of_ble_eq_true rfl)) nd_S_performMove_46 ⟨Nat.le_of_ble_eq_true rfl, Nat.le_of_ble_eq_true rfl⟩) hD hS hA (fun H locs hP hD hS => ?_)
    exact my_ri (u' := u46) (v := r46) hx hb hr hlocks hK hP hD hS hw nd_S_performMove_49
  have hw := (if_neg h4_16).symm.trans hw
  rcases my_em (x := f_S_numberK a1) (17 : Int32) with h4_17 | h4_17
  · have hw := (if_pos h4_17).symm.trans hw
    refine my_swi (tgt := 50) hx hb nd_S_performMove_4 h4_17 (by decide) (by decide) rfl (by decide) ?_
    refine lv_aload_n hx hb nd_S_performMove_50 rfl (lv_at hl 0 rfl) ?_
    refine lv_bipush (v := (32 : Int32)) hx hb nd_S_performMove_51 (by decide) ?_
    refine lv_aload_n hx hb nd_S_performMove_53 rfl (lv_at hl 0 rfl) ?_
    refine lv_iload_n hx hb nd_S_performMove_54 rfl (lv_at hl 1 rfl) ?_
    refine my_ci (wd := wSC h cA) (r := f_S_valueOfS a1 u) (u' := u) (va_runV (As := [.int a1]) (rest := [.int (32 : Int32), .ref (h 0)]) ⟨hx, hb, hml, hown, hts⟩ (c_S_valueOfS l D h cA u a1 _ rfl _) ⟨callB_of 1 hts (gw_in gw_213) rfl rfl rfl (hts _ gw_1) (hts _ gw_210) nh_S_valueOfS ⟨Nat.le_of_ble_eq_true rfl, Nat.le_of_ble_eq_true rfl⟩, (hts _ gw_212), (hts _ gw_211)⟩ (my_preV nwOk hP hK hD hN (va_recv hK hP (ci := 0) (q0 := 0) rfl rfl)) rfl rfl hl.1 rfl (lv_room (Nat.le_of_ble_eq_true rfl)) nd_S_performMove_55 ⟨Nat.le_of_ble_eq_true rfl, Nat.le_of_ble_eq_true rfl⟩) hD hS hA (fun H locs hP hD hS => ?_)
    obtain ⟨r58, u58, hq58, hw⟩ := bnd_i hw
    refine my_ci (wd := wSC h cA) (r := r58) (u' := u58) (va_runV (As := [.int (32 : Int32), .int (f_S_valueOfS a1 u)]) (rest := []) ⟨hx, hb, hml, hown, hts⟩ (c_S_give l D h cA u (32 : Int32) (f_S_valueOfS a1 u) (r58, u58) hq58 _) ⟨callB_of 2 hts (gw_in gw_223) rfl rfl rfl (hts _ gw_1) (hts _ gw_220) nh_S_give ⟨Nat.le_of_ble_eq_true rfl, Nat.le_of_ble_eq_true rfl⟩, (hts _ gw_222), (hts _ gw_221)⟩ (my_preV nwOk hP hK hD hN (va_recv hK hP (ci := 0) (q0 := 0) rfl rfl)) rfl rfl hl.1 rfl (lv_room (Nat.le_of_ble_eq_true rfl)) nd_S_performMove_58 ⟨Nat.le_of_ble_eq_true rfl, Nat.le_of_ble_eq_true rfl⟩) hD hS hA (fun H locs hP hD hS => ?_)
    exact my_ri (u' := u58) (v := r58) hx hb hr hlocks hK hP hD hS hw nd_S_performMove_61
  have hw := (if_neg h4_17).symm.trans hw
  rcases my_em (x := f_S_numberK a1) (18 : Int32) with h4_18 | h4_18
  · have hw := (if_pos h4_18).symm.trans hw
    refine my_swi (tgt := 62) hx hb nd_S_performMove_4 h4_18 (by decide) (by decide) rfl (by decide) ?_
    refine lv_aload_n hx hb nd_S_performMove_62 rfl (lv_at hl 0 rfl) ?_
    refine lv_iload_n hx hb nd_S_performMove_63 rfl (lv_at hl 1 rfl) ?_
    refine my_cp (F := f_S_numberD a1) (va_runS (As := [.int a1]) (rest := [.ref (h 0)]) ⟨hx, hb, hml, hown, hts⟩ (c_S_numberD l a1 _ rfl) ⟨callB_of 1 hts (gw_in gw_209) rfl rfl rfl (hts _ gw_1) (hts _ gw_207) nh_S_numberD ⟨Nat.le_of_ble_eq_true rfl, Nat.le_of_ble_eq_true rfl⟩, (hts _ gw_208)⟩ my_preP rfl rfl hl.1 rfl (lv_room (Nat.le_of_ble_eq_true rfl)) nd_S_performMove_64 ⟨Nat.le_of_ble_eq_true rfl, Nat.le_of_ble_eq_true rfl⟩) hP hS (fun H locs hP hS => ?_)
    refine lv_aload_n hx hb nd_S_performMove_67 rfl (lv_at hl 0 rfl) ?_
    refine va_get (D := D) (ci := 0) (v := .ref (h 3)) (C := nR_S) (T := nT_S) (N := 9) hx hb hts nu_S hown hK hP 0 rfl rfl 1 (by decide) (hts _ gw_64) (fun _ h9 => h9) rfl nd_S_performMove_68 ?_
    refine lv_bipush (v := (33 : Int32)) hx hb nd_S_performMove_71 (by decide) ?_
    refine my_ci (wd := wSC h cA) (r := f_R_valueOf (33 : Int32) u) (u' := u) (va_runVN (As := [.int (33 : Int32)]) (rest := [.int (f_S_numberD a1), .ref (h 0)]) ⟨hx, hb, hml, hown, hts⟩ (c_R_valueOf l D h cA u (33 : Int32) _ rfl _) ⟨va_cnB 1 hts (gw_in gw_206) rfl rfl rfl (hN _ nm_26) (hts _ gw_3) nh_R_valueOf ⟨Nat.le_of_ble_eq_true rfl, Nat.le_of_ble_eq_true rfl⟩, (hts _ gw_205), (hts _ gw_204)⟩ (my_preV nwOk hP hK hD hN (va_recv hK hP (ci := 2) (q0 := 3) rfl rfl)) rfl rfl hl.1 rfl (lv_room (Nat.le_of_ble_eq_true rfl)) nd_S_performMove_73 ⟨Nat.le_of_ble_eq_true rfl, Nat.le_of_ble_eq_true rfl⟩) hD hS hA (fun H locs hP hD hS => ?_)
    obtain ⟨r76, u76, hq76, hw⟩ := bnd_i hw
    refine my_ci (wd := wSC h cA) (r := r76) (u' := u76) (va_runV (As := [.int (f_S_numberD a1), .int (f_R_valueOf (33 : Int32) u)]) (rest := []) ⟨hx, hb, hml, hown, hts⟩ (c_S_give l D h cA u (f_S_numberD a1) (f_R_valueOf (33 : Int32) u) (r76, u76) hq76 _) ⟨callB_of 2 hts (gw_in gw_223) rfl rfl rfl (hts _ gw_1) (hts _ gw_220) nh_S_give ⟨Nat.le_of_ble_eq_true rfl, Nat.le_of_ble_eq_true rfl⟩, (hts _ gw_222), (hts _ gw_221)⟩ (my_preV nwOk hP hK hD hN (va_recv hK hP (ci := 0) (q0 := 0) rfl rfl)) rfl rfl hl.1 rfl (lv_room (Nat.le_of_ble_eq_true rfl)) nd_S_performMove_76 ⟨Nat.le_of_ble_eq_true rfl, Nat.le_of_ble_eq_true rfl⟩) hD hS hA (fun H locs hP hD hS => ?_)
    exact my_ri (u' := u76) (v := r76) hx hb hr hlocks hK hP hD hS hw nd_S_performMove_79
  have hw := (if_neg h4_18).symm.trans hw
  refine my_swd (tgt := 80) hx hb nd_S_performMove_4 (my_nec h4_16 (my_nec h4_17 (my_nec h4_18 my_nen))) (by decide +kernel) (by decide) ?_
  refine lv_aload_n hx hb nd_S_performMove_80 rfl (lv_at hl 0 rfl) ?_
  refine lv_bipush (v := (33 : Int32)) hx hb nd_S_performMove_81 (by decide) ?_
  refine lv_aload_n hx hb nd_S_performMove_83 rfl (lv_at hl 0 rfl) ?_
  refine lv_iload_n hx hb nd_S_performMove_84 rfl (lv_at hl 1 rfl) ?_
  refine my_ci (wd := wSC h cA) (r := f_S_valueOfS a1 u) (u' := u) (va_runV (As := [.int a1]) (rest := [.int (33 : Int32), .ref (h 0)]) ⟨hx, hb, hml, hown, hts⟩ (c_S_valueOfS l D h cA u a1 _ rfl _) ⟨callB_of 1 hts (gw_in gw_213) rfl rfl rfl (hts _ gw_1) (hts _ gw_210) nh_S_valueOfS ⟨Nat.le_of_ble_eq_true rfl, Nat.le_of_ble_eq_true rfl⟩, (hts _ gw_212), (hts _ gw_211)⟩ (my_preV nwOk hP hK hD hN (va_recv hK hP (ci := 0) (q0 := 0) rfl rfl)) rfl rfl hl.1 rfl (lv_room (Nat.le_of_ble_eq_true rfl)) nd_S_performMove_85 ⟨Nat.le_of_ble_eq_true rfl, Nat.le_of_ble_eq_true rfl⟩) hD hS hA (fun H locs hP hD hS => ?_)
  obtain ⟨r88, u88, hq88, hw⟩ := bnd_i hw
  refine my_ci (wd := wSC h cA) (r := r88) (u' := u88) (va_runV (As := [.int (33 : Int32), .int (f_S_valueOfS a1 u)]) (rest := []) ⟨hx, hb, hml, hown, hts⟩ (c_S_give l D h cA u (33 : Int32) (f_S_valueOfS a1 u) (r88, u88) hq88 _) ⟨callB_of 2 hts (gw_in gw_223) rfl rfl rfl (hts _ gw_1) (hts _ gw_220) nh_S_give ⟨Nat.le_of_ble_eq_true rfl, Nat.le_of_ble_eq_true rfl⟩, (hts _ gw_222), (hts _ gw_221)⟩ (my_preV nwOk hP hK hD hN (va_recv hK hP (ci := 0) (q0 := 0) rfl rfl)) rfl rfl hl.1 rfl (lv_room (Nat.le_of_ble_eq_true rfl)) nd_S_performMove_88 ⟨Nat.le_of_ble_eq_true rfl, Nat.le_of_ble_eq_true rfl⟩) hD hS hA (fun H locs hP hD hS => ?_)
  exact my_ri (u' := u88) (v := r88) hx hb hr hlocks hK hP hD hS hw nd_S_performMove_91
set_option maxHeartbeats 4000000 in
set_option maxRecDepth 100000 in
theorem c_S_performProduct (l : Launch) (D : va_G) (h : Nat → Nat) (cA : Nat → ClassId) (u : St) (a1 : Int32) (F : Int32 × St) (hw : f_S_performProduct a1 u = F) : MI nwS vwCl l ny_S_performProduct nw_S_performProduct ({ frames := 2, cells := 0, slots := 0, locals := 48 }) D (tyI cA) (wSC h cA) ([.ref (h 0), .int a1] : List Value) u F := by
  refine my_in (gw := GW) (cc := nc_S_performProduct) (maxL := 4) (ret := (some .int)) (Qc := fun A => QI vwCl D (tyI cA) (wSC h cA) F A) (by decide) rfl (Nat.le_of_ble_eq_true rfl) ?_
  intro p e s m below meth c A H locs ls hx hb hml hr hts hown hlocks hK hN hA hP hD hS hl
  have hown : s.vm.findClass nR_S = some m.cls := hown
  have hl : lv_has ls 4 [(0, .ref (h 0)), (1, .int a1)] := hl
  unfold f_S_performProduct at hw
  refine lv_aload_n hx hb nd_S_performProduct_0 rfl (lv_at hl 0 rfl) ?_
  refine lv_iload_n hx hb nd_S_performProduct_1 rfl (lv_at hl 1 rfl) ?_
  refine my_ci (wd := wSC h cA) (r := f_S_valueOfS a1 u) (u' := u) (va_runV (As := [.int a1]) (rest := []) ⟨hx, hb, hml, hown, hts⟩ (c_S_valueOfS l D h cA u a1 _ rfl _) ⟨callB_of 1 hts (gw_in gw_213) rfl rfl rfl (hts _ gw_1) (hts _ gw_210) nh_S_valueOfS ⟨Nat.le_of_ble_eq_true rfl, Nat.le_of_ble_eq_true rfl⟩, (hts _ gw_212), (hts _ gw_211)⟩ (my_preV nwOk hP hK hD hN (va_recv hK hP (ci := 0) (q0 := 0) rfl rfl)) rfl rfl hl.1 rfl (lv_room (Nat.le_of_ble_eq_true rfl)) nd_S_performProduct_2 ⟨Nat.le_of_ble_eq_true rfl, Nat.le_of_ble_eq_true rfl⟩) hD hS hA (fun H locs hP hD hS => ?_)
  refine lv_istore_n (lv' := [(2, .int (f_S_valueOfS a1 u)), (0, .ref (h 0)), (1, .int a1)]) hx hb nd_S_performProduct_5 rfl hl (by decide) rfl (fun ls hl => ?_)
  refine lv_aload_n hx hb nd_S_performProduct_6 rfl (lv_at hl 1 rfl) ?_
  refine lv_iload_n hx hb nd_S_performProduct_7 rfl (lv_at hl 2 rfl) ?_
  refine my_ci (wd := wSC h cA) (r := f_S_valueOfT a1 u) (u' := u) (va_runV (As := [.int a1]) (rest := []) ⟨hx, hb, hml, hown, hts⟩ (c_S_valueOfT l D h cA u a1 _ rfl _) ⟨callB_of 1 hts (gw_in gw_203) rfl rfl rfl (hts _ gw_1) (hts _ gw_200) nh_S_valueOfT ⟨Nat.le_of_ble_eq_true rfl, Nat.le_of_ble_eq_true rfl⟩, (hts _ gw_202), (hts _ gw_201)⟩ (my_preV nwOk hP hK hD hN (va_recv hK hP (ci := 0) (q0 := 0) rfl rfl)) rfl rfl hl.1 rfl (lv_room (Nat.le_of_ble_eq_true rfl)) nd_S_performProduct_8 ⟨Nat.le_of_ble_eq_true rfl, Nat.le_of_ble_eq_true rfl⟩) hD hS hA (fun H locs hP hD hS => ?_)
  refine lv_istore_n (lv' := [(3, .int (f_S_valueOfT a1 u)), (2, .int (f_S_valueOfS a1 u)), (0, .ref (h 0)), (1, .int a1)]) hx hb nd_S_performProduct_11 rfl hl (by decide) rfl (fun ls hl => ?_)
  refine lv_iload_n hx hb nd_S_performProduct_12 rfl (lv_at hl 3 rfl) ?_
  refine my_cp (F := f_S_numberK a1) (va_runS (As := [.int a1]) (rest := []) ⟨hx, hb, hml, hown, hts⟩ (c_S_numberK l a1 _ rfl) ⟨callB_of 1 hts (gw_in gw_185) rfl rfl rfl (hts _ gw_1) (hts _ gw_183) nh_S_numberK ⟨Nat.le_of_ble_eq_true rfl, Nat.le_of_ble_eq_true rfl⟩, (hts _ gw_184)⟩ my_preP rfl rfl hl.1 rfl (lv_room (Nat.le_of_ble_eq_true rfl)) nd_S_performProduct_13 ⟨Nat.le_of_ble_eq_true rfl, Nat.le_of_ble_eq_true rfl⟩) hP hS (fun H locs hP hS => ?_)
  rcases my_em (x := f_S_numberK a1) (24 : Int32) with h16_24 | h16_24
  · have hw := (if_pos h16_24).symm.trans hw
    refine my_swi (tgt := 44) hx hb nd_S_performProduct_16 h16_24 (by decide) (by decide) rfl (by decide) ?_
    refine lv_aload_n hx hb nd_S_performProduct_44 rfl (lv_at hl 2 rfl) ?_
    refine lv_iload_n hx hb nd_S_performProduct_45 rfl (lv_at hl 1 rfl) ?_
    refine lv_i2l (v := (f_S_valueOfS a1 u).toInt64) hx hb nd_S_performProduct_46 rfl ?_
    refine lv_iload_n hx hb nd_S_performProduct_47 rfl (lv_at hl 0 rfl) ?_
    refine lv_i2l (v := (f_S_valueOfT a1 u).toInt64) hx hb nd_S_performProduct_48 rfl ?_
    refine lv_lmul hx hb nd_S_performProduct_49 ?_
    obtain ⟨r50, u50, hq50, hw⟩ := bnd_i hw
    refine my_ci (wd := wSC h cA) (r := r50) (u' := u50) (va_runV (As := [.long (((f_S_valueOfS a1 u).toInt64) * ((f_S_valueOfT a1 u).toInt64))]) (rest := []) ⟨hx, hb, hml, hown, hts⟩ (c_S_keepHighAndLow l D h cA u (((f_S_valueOfS a1 u).toInt64) * ((f_S_valueOfT a1 u).toInt64)) (r50, u50) hq50 _) ⟨callB_of 1 hts (gw_in gw_243) rfl rfl rfl (hts _ gw_1) (hts _ gw_240) nh_S_keepHighAndLow ⟨Nat.le_of_ble_eq_true rfl, Nat.le_of_ble_eq_true rfl⟩, (hts _ gw_242), (hts _ gw_241)⟩ (my_preV nwOk hP hK hD hN (va_recv hK hP (ci := 0) (q0 := 0) rfl rfl)) rfl rfl hl.1 rfl (lv_room (Nat.le_of_ble_eq_true rfl)) nd_S_performProduct_50 ⟨Nat.le_of_ble_eq_true rfl, Nat.le_of_ble_eq_true rfl⟩) hD hS hA (fun H locs hP hD hS => ?_)
    exact my_ri (u' := u50) (v := r50) hx hb hr hlocks hK hP hD hS hw nd_S_performProduct_53
  have hw := (if_neg h16_24).symm.trans hw
  rcases my_em (x := f_S_numberK a1) (25 : Int32) with h16_25 | h16_25
  · have hw := (if_pos h16_25).symm.trans hw
    refine my_swi (tgt := 54) hx hb nd_S_performProduct_16 h16_25 (by decide) (by decide) rfl (by decide) ?_
    refine lv_aload_n hx hb nd_S_performProduct_54 rfl (lv_at hl 2 rfl) ?_
    refine lv_iload_n hx hb nd_S_performProduct_55 rfl (lv_at hl 1 rfl) ?_
    refine my_cl (F := f_S_withoutSign (f_S_valueOfS a1 u)) (va_runS (As := [.int (f_S_valueOfS a1 u)]) (rest := [.ref (h 0)]) ⟨hx, hb, hml, hown, hts⟩ (c_S_withoutSign l (f_S_valueOfS a1 u) _ rfl) ⟨callB_of 1 hts (gw_in gw_246) rfl rfl rfl (hts _ gw_1) (hts _ gw_244) nh_S_withoutSign ⟨Nat.le_of_ble_eq_true rfl, Nat.le_of_ble_eq_true rfl⟩, (hts _ gw_245)⟩ my_preP rfl rfl hl.1 rfl (lv_room (Nat.le_of_ble_eq_true rfl)) nd_S_performProduct_56 ⟨Nat.le_of_ble_eq_true rfl, Nat.le_of_ble_eq_true rfl⟩) hP hS (fun H locs hP hS => ?_)
    refine lv_iload_n hx hb nd_S_performProduct_59 rfl (lv_at hl 0 rfl) ?_
    refine my_cl (F := f_S_withoutSign (f_S_valueOfT a1 u)) (va_runS (As := [.int (f_S_valueOfT a1 u)]) (rest := [.long (f_S_withoutSign (f_S_valueOfS a1 u)), .ref (h 0)]) ⟨hx, hb, hml, hown, hts⟩ (c_S_withoutSign l (f_S_valueOfT a1 u) _ rfl) ⟨callB_of 1 hts (gw_in gw_246) rfl rfl rfl (hts _ gw_1) (hts _ gw_244) nh_S_withoutSign ⟨Nat.le_of_ble_eq_true rfl, Nat.le_of_ble_eq_true rfl⟩, (hts _ gw_245)⟩ my_preP rfl rfl hl.1 rfl (lv_room (Nat.le_of_ble_eq_true rfl)) nd_S_performProduct_60 ⟨Nat.le_of_ble_eq_true rfl, Nat.le_of_ble_eq_true rfl⟩) hP hS (fun H locs hP hS => ?_)
    refine lv_lmul hx hb nd_S_performProduct_63 ?_
    obtain ⟨r64, u64, hq64, hw⟩ := bnd_i hw
    refine my_ci (wd := wSC h cA) (r := r64) (u' := u64) (va_runV (As := [.long ((f_S_withoutSign (f_S_valueOfS a1 u)) * (f_S_withoutSign (f_S_valueOfT a1 u)))]) (rest := []) ⟨hx, hb, hml, hown, hts⟩ (c_S_keepHighAndLow l D h cA u ((f_S_withoutSign (f_S_valueOfS a1 u)) * (f_S_withoutSign (f_S_valueOfT a1 u))) (r64, u64) hq64 _) ⟨callB_of 1 hts (gw_in gw_243) rfl rfl rfl (hts _ gw_1) (hts _ gw_240) nh_S_keepHighAndLow ⟨Nat.le_of_ble_eq_true rfl, Nat.le_of_ble_eq_true rfl⟩, (hts _ gw_242), (hts _ gw_241)⟩ (my_preV nwOk hP hK hD hN (va_recv hK hP (ci := 0) (q0 := 0) rfl rfl)) rfl rfl hl.1 rfl (lv_room (Nat.le_of_ble_eq_true rfl)) nd_S_performProduct_64 ⟨Nat.le_of_ble_eq_true rfl, Nat.le_of_ble_eq_true rfl⟩) hD hS hA (fun H locs hP hD hS => ?_)
    exact my_ri (u' := u64) (v := r64) hx hb hr hlocks hK hP hD hS hw nd_S_performProduct_67
  have hw := (if_neg h16_25).symm.trans hw
  rcases my_em (x := f_S_numberK a1) (26 : Int32) with h16_26 | h16_26
  · have hw := (if_pos h16_26).symm.trans hw
    refine my_swi (tgt := 68) hx hb nd_S_performProduct_16 h16_26 (by decide) (by decide) rfl (by decide) ?_
    refine lv_aload_n hx hb nd_S_performProduct_68 rfl (lv_at hl 2 rfl) ?_
    refine lv_iload_n hx hb nd_S_performProduct_69 rfl (lv_at hl 1 rfl) ?_
    refine lv_iload_n hx hb nd_S_performProduct_70 rfl (lv_at hl 0 rfl) ?_
    refine my_cl (F := f_S_divide (f_S_valueOfS a1 u) (f_S_valueOfT a1 u)) (va_runS (As := [.int (f_S_valueOfS a1 u), .int (f_S_valueOfT a1 u)]) (rest := [.ref (h 0)]) ⟨hx, hb, hml, hown, hts⟩ (c_S_divide l (f_S_valueOfS a1 u) (f_S_valueOfT a1 u) _ rfl) ⟨callB_of 2 hts (gw_in gw_250) rfl rfl rfl (hts _ gw_1) (hts _ gw_248) nh_S_divide ⟨Nat.le_of_ble_eq_true rfl, Nat.le_of_ble_eq_true rfl⟩, (hts _ gw_249)⟩ my_preP rfl rfl hl.1 rfl (lv_room (Nat.le_of_ble_eq_true rfl)) nd_S_performProduct_71 ⟨Nat.le_of_ble_eq_true rfl, Nat.le_of_ble_eq_true rfl⟩) hP hS (fun H locs hP hS => ?_)
    obtain ⟨r74, u74, hq74, hw⟩ := bnd_i hw
    refine my_ci (wd := wSC h cA) (r := r74) (u' := u74) (va_runV (As := [.long (f_S_divide (f_S_valueOfS a1 u) (f_S_valueOfT a1 u))]) (rest := []) ⟨hx, hb, hml, hown, hts⟩ (c_S_keepHighAndLow l D h cA u (f_S_divide (f_S_valueOfS a1 u) (f_S_valueOfT a1 u)) (r74, u74) hq74 _) ⟨callB_of 1 hts (gw_in gw_243) rfl rfl rfl (hts _ gw_1) (hts _ gw_240) nh_S_keepHighAndLow ⟨Nat.le_of_ble_eq_true rfl, Nat.le_of_ble_eq_true rfl⟩, (hts _ gw_242), (hts _ gw_241)⟩ (my_preV nwOk hP hK hD hN (va_recv hK hP (ci := 0) (q0 := 0) rfl rfl)) rfl rfl hl.1 rfl (lv_room (Nat.le_of_ble_eq_true rfl)) nd_S_performProduct_74 ⟨Nat.le_of_ble_eq_true rfl, Nat.le_of_ble_eq_true rfl⟩) hD hS hA (fun H locs hP hD hS => ?_)
    exact my_ri (u' := u74) (v := r74) hx hb hr hlocks hK hP hD hS hw nd_S_performProduct_77
  have hw := (if_neg h16_26).symm.trans hw
  refine my_swd (tgt := 78) hx hb nd_S_performProduct_16 (my_nec h16_24 (my_nec h16_25 (my_nec h16_26 my_nen))) (by decide +kernel) (by decide) ?_
  refine lv_aload_n hx hb nd_S_performProduct_78 rfl (lv_at hl 2 rfl) ?_
  refine lv_iload_n hx hb nd_S_performProduct_79 rfl (lv_at hl 1 rfl) ?_
  refine lv_iload_n hx hb nd_S_performProduct_80 rfl (lv_at hl 0 rfl) ?_
  refine my_cl (F := f_S_divideWithoutSign (f_S_valueOfS a1 u) (f_S_valueOfT a1 u)) (va_runS (As := [.int (f_S_valueOfS a1 u), .int (f_S_valueOfT a1 u)]) (rest := [.ref (h 0)]) ⟨hx, hb, hml, hown, hts⟩ (c_S_divideWithoutSign l (f_S_valueOfS a1 u) (f_S_valueOfT a1 u) _ rfl) ⟨callB_of 2 hts (gw_in gw_257) rfl rfl rfl (hts _ gw_1) (hts _ gw_255) nh_S_divideWithoutSign ⟨Nat.le_of_ble_eq_true rfl, Nat.le_of_ble_eq_true rfl⟩, (hts _ gw_256)⟩ my_preP rfl rfl hl.1 rfl (lv_room (Nat.le_of_ble_eq_true rfl)) nd_S_performProduct_81 ⟨Nat.le_of_ble_eq_true rfl, Nat.le_of_ble_eq_true rfl⟩) hP hS (fun H locs hP hS => ?_)
  obtain ⟨r84, u84, hq84, hw⟩ := bnd_i hw
  refine my_ci (wd := wSC h cA) (r := r84) (u' := u84) (va_runV (As := [.long (f_S_divideWithoutSign (f_S_valueOfS a1 u) (f_S_valueOfT a1 u))]) (rest := []) ⟨hx, hb, hml, hown, hts⟩ (c_S_keepHighAndLow l D h cA u (f_S_divideWithoutSign (f_S_valueOfS a1 u) (f_S_valueOfT a1 u)) (r84, u84) hq84 _) ⟨callB_of 1 hts (gw_in gw_243) rfl rfl rfl (hts _ gw_1) (hts _ gw_240) nh_S_keepHighAndLow ⟨Nat.le_of_ble_eq_true rfl, Nat.le_of_ble_eq_true rfl⟩, (hts _ gw_242), (hts _ gw_241)⟩ (my_preV nwOk hP hK hD hN (va_recv hK hP (ci := 0) (q0 := 0) rfl rfl)) rfl rfl hl.1 rfl (lv_room (Nat.le_of_ble_eq_true rfl)) nd_S_performProduct_84 ⟨Nat.le_of_ble_eq_true rfl, Nat.le_of_ble_eq_true rfl⟩) hD hS hA (fun H locs hP hD hS => ?_)
  exact my_ri (u' := u84) (v := r84) hx hb hr hlocks hK hP hD hS hw nd_S_performProduct_87
set_option maxHeartbeats 4000000 in
set_option maxRecDepth 100000 in
theorem c_S_performOnTwo (l : Launch) (D : va_G) (h : Nat → Nat) (cA : Nat → ClassId) (u : St) (a1 : Int32) (F : Int32 × St) (hw : f_S_performOnTwo a1 u = F) : MI nwS vwCl l ny_S_performOnTwo nw_S_performOnTwo ({ frames := 2, cells := 0, slots := 0, locals := 45 }) D (tyI cA) (wSC h cA) ([.ref (h 0), .int a1] : List Value) u F := by
  refine my_in (gw := GW) (cc := nc_S_performOnTwo) (maxL := 5) (ret := (some .int)) (Qc := fun A => QI vwCl D (tyI cA) (wSC h cA) F A) (by decide) rfl (Nat.le_of_ble_eq_true rfl) ?_
  intro p e s m below meth c A H locs ls hx hb hml hr hts hown hlocks hK hN hA hP hD hS hl
  have hown : s.vm.findClass nR_S = some m.cls := hown
  have hl : lv_has ls 5 [(0, .ref (h 0)), (1, .int a1)] := hl
  have J183 : ∀ (y0 : Int32) (y1 : Int32) (u : St) (H : Heap) (locs : List Loc) (ls : Array Slot), va_P D vwCl (wSC h cA u) H → va_D A (wSC h cA u) → va_S A s.heap H locs → lv_has ls 5 [] → f_S_performOnTwo_b183 y0 y1 u = F →
      W p l e (headSpec nw_S_performOnTwo ({ frames := 2, cells := 0, slots := 0, locals := 45 })).room s m ([.ref (h 0), .int a1] : List Value).toArray below meth c H locs 0 0 (MQ below (QI vwCl D (tyI cA) (wSC h cA) F A) ([.ref (h 0), .int a1] : List Value).toArray s 0 0 A) (F0 m 183 ls [.int (zb y0), .int y1, .ref (h 0)]) := by
    intro y0 y1 u H locs ls hP hD hS hl hw
    unfold f_S_performOnTwo_b183 at hw
    obtain ⟨r183, u183, hq183, hw⟩ := bnd_i hw
    refine my_ci (wd := wSC h cA) (r := r183) (u' := u183) (va_runV (As := [.int y1, .int (zb y0)]) (rest := []) ⟨hx, hb, hml, hown, hts⟩ (c_S_giveTruth l D h cA u y1 y0 (r183, u183) hq183 _) ⟨callB_of 2 hts (gw_in gw_269) rfl rfl rfl (hts _ gw_1) (hts _ gw_266) nh_S_giveTruth ⟨Nat.le_of_ble_eq_true rfl, Nat.le_of_ble_eq_true rfl⟩, (hts _ gw_268), (hts _ gw_267)⟩ (my_preV nwOk hP hK hD hN (va_recv hK hP (ci := 0) (q0 := 0) rfl rfl)) rfl rfl hl.1 rfl (lv_room (Nat.le_of_ble_eq_true rfl)) nd_S_performOnTwo_183 ⟨Nat.le_of_ble_eq_true rfl, Nat.le_of_ble_eq_true rfl⟩) hD hS hA (fun H locs hP hD hS => ?_)
    exact my_ri (u' := u183) (v := r183) hx hb hr hlocks hK hP hD hS hw nd_S_performOnTwo_186
  have J207 : ∀ (y0 : Int32) (y1 : Int32) (u : St) (H : Heap) (locs : List Loc) (ls : Array Slot), va_P D vwCl (wSC h cA u) H → va_D A (wSC h cA u) → va_S A s.heap H locs → lv_has ls 5 [] → f_S_performOnTwo_b207 y0 y1 u = F →
      W p l e (headSpec nw_S_performOnTwo ({ frames := 2, cells := 0, slots := 0, locals := 45 })).room s m ([.ref (h 0), .int a1] : List Value).toArray below meth c H locs 0 0 (MQ below (QI vwCl D (tyI cA) (wSC h cA) F A) ([.ref (h 0), .int a1] : List Value).toArray s 0 0 A) (F0 m 207 ls [.int (zb y0), .int y1, .ref (h 0)]) := by
    intro y0 y1 u H locs ls hP hD hS hl hw
    unfold f_S_performOnTwo_b207 at hw
    obtain ⟨r207, u207, hq207, hw⟩ := bnd_i hw
    refine my_ci (wd := wSC h cA) (r := r207) (u' := u207) (va_runV (As := [.int y1, .int (zb y0)]) (rest := []) ⟨hx, hb, hml, hown, hts⟩ (c_S_giveTruth l D h cA u y1 y0 (r207, u207) hq207 _) ⟨callB_of 2 hts (gw_in gw_269) rfl rfl rfl (hts _ gw_1) (hts _ gw_266) nh_S_giveTruth ⟨Nat.le_of_ble_eq_true rfl, Nat.le_of_ble_eq_true rfl⟩, (hts _ gw_268), (hts _ gw_267)⟩ (my_preV nwOk hP hK hD hN (va_recv hK hP (ci := 0) (q0 := 0) rfl rfl)) rfl rfl hl.1 rfl (lv_room (Nat.le_of_ble_eq_true rfl)) nd_S_performOnTwo_207 ⟨Nat.le_of_ble_eq_true rfl, Nat.le_of_ble_eq_true rfl⟩) hD hS hA (fun H locs hP hD hS => ?_)
    exact my_ri (u' := u207) (v := r207) hx hb hr hlocks hK hP hD hS hw nd_S_performOnTwo_210
  unfold f_S_performOnTwo at hw
  refine lv_aload_n hx hb nd_S_performOnTwo_0 rfl (lv_at hl 0 rfl) ?_
  refine lv_iload_n hx hb nd_S_performOnTwo_1 rfl (lv_at hl 1 rfl) ?_
  refine my_ci (wd := wSC h cA) (r := f_S_valueOfS a1 u) (u' := u) (va_runV (As := [.int a1]) (rest := []) ⟨hx, hb, hml, hown, hts⟩ (c_S_valueOfS l D h cA u a1 _ rfl _) ⟨callB_of 1 hts (gw_in gw_213) rfl rfl rfl (hts _ gw_1) (hts _ gw_210) nh_S_valueOfS ⟨Nat.le_of_ble_eq_true rfl, Nat.le_of_ble_eq_true rfl⟩, (hts _ gw_212), (hts _ gw_211)⟩ (my_preV nwOk hP hK hD hN (va_recv hK hP (ci := 0) (q0 := 0) rfl rfl)) rfl rfl hl.1 rfl (lv_room (Nat.le_of_ble_eq_true rfl)) nd_S_performOnTwo_2 ⟨Nat.le_of_ble_eq_true rfl, Nat.le_of_ble_eq_true rfl⟩) hD hS hA (fun H locs hP hD hS => ?_)
  refine lv_istore_n (lv' := [(2, .int (f_S_valueOfS a1 u)), (0, .ref (h 0)), (1, .int a1)]) hx hb nd_S_performOnTwo_5 rfl hl (by decide) rfl (fun ls hl => ?_)
  refine lv_aload_n hx hb nd_S_performOnTwo_6 rfl (lv_at hl 1 rfl) ?_
  refine lv_iload_n hx hb nd_S_performOnTwo_7 rfl (lv_at hl 2 rfl) ?_
  refine my_ci (wd := wSC h cA) (r := f_S_valueOfT a1 u) (u' := u) (va_runV (As := [.int a1]) (rest := []) ⟨hx, hb, hml, hown, hts⟩ (c_S_valueOfT l D h cA u a1 _ rfl _) ⟨callB_of 1 hts (gw_in gw_203) rfl rfl rfl (hts _ gw_1) (hts _ gw_200) nh_S_valueOfT ⟨Nat.le_of_ble_eq_true rfl, Nat.le_of_ble_eq_true rfl⟩, (hts _ gw_202), (hts _ gw_201)⟩ (my_preV nwOk hP hK hD hN (va_recv hK hP (ci := 0) (q0 := 0) rfl rfl)) rfl rfl hl.1 rfl (lv_room (Nat.le_of_ble_eq_true rfl)) nd_S_performOnTwo_8 ⟨Nat.le_of_ble_eq_true rfl, Nat.le_of_ble_eq_true rfl⟩) hD hS hA (fun H locs hP hD hS => ?_)
  refine lv_istore_n (lv' := [(3, .int (f_S_valueOfT a1 u)), (2, .int (f_S_valueOfS a1 u)), (0, .ref (h 0)), (1, .int a1)]) hx hb nd_S_performOnTwo_11 rfl hl (by decide) rfl (fun ls hl => ?_)
  refine lv_iload_n hx hb nd_S_performOnTwo_12 rfl (lv_at hl 3 rfl) ?_
  refine my_cp (F := f_S_numberD a1) (va_runS (As := [.int a1]) (rest := []) ⟨hx, hb, hml, hown, hts⟩ (c_S_numberD l a1 _ rfl) ⟨callB_of 1 hts (gw_in gw_209) rfl rfl rfl (hts _ gw_1) (hts _ gw_207) nh_S_numberD ⟨Nat.le_of_ble_eq_true rfl, Nat.le_of_ble_eq_true rfl⟩, (hts _ gw_208)⟩ my_preP rfl rfl hl.1 rfl (lv_room (Nat.le_of_ble_eq_true rfl)) nd_S_performOnTwo_13 ⟨Nat.le_of_ble_eq_true rfl, Nat.le_of_ble_eq_true rfl⟩) hP hS (fun H locs hP hS => ?_)
  refine lv_istore (lv' := [(4, .int (f_S_numberD a1)), (3, .int (f_S_valueOfT a1 u)), (2, .int (f_S_valueOfS a1 u)), (0, .ref (h 0)), (1, .int a1)]) hx hb nd_S_performOnTwo_16 hl (by decide) rfl (fun ls hl => ?_)
  refine lv_iload_n hx hb nd_S_performOnTwo_18 rfl (lv_at hl 4 rfl) ?_
  refine my_cp (F := f_S_numberK a1) (va_runS (As := [.int a1]) (rest := []) ⟨hx, hb, hml, hown, hts⟩ (c_S_numberK l a1 _ rfl) ⟨callB_of 1 hts (gw_in gw_185) rfl rfl rfl (hts _ gw_1) (hts _ gw_183) nh_S_numberK ⟨Nat.le_of_ble_eq_true rfl, Nat.le_of_ble_eq_true rfl⟩, (hts _ gw_184)⟩ my_preP rfl rfl hl.1 rfl (lv_room (Nat.le_of_ble_eq_true rfl)) nd_S_performOnTwo_19 ⟨Nat.le_of_ble_eq_true rfl, Nat.le_of_ble_eq_true rfl⟩) hP hS (fun H locs hP hS => ?_)
  rcases my_em (x := f_S_numberK a1) (32 : Int32) with h22_32 | h22_32
  · have hw := (if_pos h22_32).symm.trans hw
    refine my_swi (tgt := 84) hx hb nd_S_performOnTwo_22 h22_32 (by decide) (by decide) rfl (by decide) ?_
    refine lv_aload_n hx hb nd_S_performOnTwo_84 rfl (lv_at hl 3 rfl) ?_
    refine lv_iload hx hb nd_S_performOnTwo_85 (lv_at hl 0 rfl) ?_
    refine lv_iload_n hx hb nd_S_performOnTwo_87 rfl (lv_at hl 2 rfl) ?_
    refine lv_i2l (v := (f_S_valueOfS a1 u).toInt64) hx hb nd_S_performOnTwo_88 rfl ?_
    refine lv_iload_n hx hb nd_S_performOnTwo_89 rfl (lv_at hl 1 rfl) ?_
    refine lv_i2l (v := (f_S_valueOfT a1 u).toInt64) hx hb nd_S_performOnTwo_90 rfl ?_
    refine lv_ladd hx hb nd_S_performOnTwo_91 ?_
    obtain ⟨r92, u92, hq92, hw⟩ := bnd_i hw
    refine my_ci (wd := wSC h cA) (r := r92) (u' := u92) (va_runV (As := [.int (f_S_numberD a1), .long (((f_S_valueOfS a1 u).toInt64) + ((f_S_valueOfT a1 u).toInt64))]) (rest := []) ⟨hx, hb, hml, hown, hts⟩ (c_S_giveIfExact l D h cA u (f_S_numberD a1) (((f_S_valueOfS a1 u).toInt64) + ((f_S_valueOfT a1 u).toInt64)) (r92, u92) hq92 _) ⟨callB_of 2 hts (gw_in gw_265) rfl rfl rfl (hts _ gw_1) (hts _ gw_262) nh_S_giveIfExact ⟨Nat.le_of_ble_eq_true rfl, Nat.le_of_ble_eq_true rfl⟩, (hts _ gw_264), (hts _ gw_263)⟩ (my_preV nwOk hP hK hD hN (va_recv hK hP (ci := 0) (q0 := 0) rfl rfl)) rfl rfl hl.1 rfl (lv_room (Nat.le_of_ble_eq_true rfl)) nd_S_performOnTwo_92 ⟨Nat.le_of_ble_eq_true rfl, Nat.le_of_ble_eq_true rfl⟩) hD hS hA (fun H locs hP hD hS => ?_)
    exact my_ri (u' := u92) (v := r92) hx hb hr hlocks hK hP hD hS hw nd_S_performOnTwo_95
  have hw := (if_neg h22_32).symm.trans hw
  rcases my_em (x := f_S_numberK a1) (33 : Int32) with h22_33 | h22_33
  · have hw := (if_pos h22_33).symm.trans hw
    refine my_swi (tgt := 96) hx hb nd_S_performOnTwo_22 h22_33 (by decide) (by decide) rfl (by decide) ?_
    refine lv_aload_n hx hb nd_S_performOnTwo_96 rfl (lv_at hl 3 rfl) ?_
    refine lv_iload hx hb nd_S_performOnTwo_97 (lv_at hl 0 rfl) ?_
    refine lv_iload_n hx hb nd_S_performOnTwo_99 rfl (lv_at hl 2 rfl) ?_
    refine lv_iload_n hx hb nd_S_performOnTwo_100 rfl (lv_at hl 1 rfl) ?_
    refine lv_iadd hx hb nd_S_performOnTwo_101 ?_
    obtain ⟨r102, u102, hq102, hw⟩ := bnd_i hw
    refine my_ci (wd := wSC h cA) (r := r102) (u' := u102) (va_runV (As := [.int (f_S_numberD a1), .int ((f_S_valueOfS a1 u) + (f_S_valueOfT a1 u))]) (rest := []) ⟨hx, hb, hml, hown, hts⟩ (c_S_give l D h cA u (f_S_numberD a1) ((f_S_valueOfS a1 u) + (f_S_valueOfT a1 u)) (r102, u102) hq102 _) ⟨callB_of 2 hts (gw_in gw_223) rfl rfl rfl (hts _ gw_1) (hts _ gw_220) nh_S_give ⟨Nat.le_of_ble_eq_true rfl, Nat.le_of_ble_eq_true rfl⟩, (hts _ gw_222), (hts _ gw_221)⟩ (my_preV nwOk hP hK hD hN (va_recv hK hP (ci := 0) (q0 := 0) rfl rfl)) rfl rfl hl.1 rfl (lv_room (Nat.le_of_ble_eq_true rfl)) nd_S_performOnTwo_102 ⟨Nat.le_of_ble_eq_true rfl, Nat.le_of_ble_eq_true rfl⟩) hD hS hA (fun H locs hP hD hS => ?_)
    exact my_ri (u' := u102) (v := r102) hx hb hr hlocks hK hP hD hS hw nd_S_performOnTwo_105
  have hw := (if_neg h22_33).symm.trans hw
  rcases my_em (x := f_S_numberK a1) (34 : Int32) with h22_34 | h22_34
  · have hw := (if_pos h22_34).symm.trans hw
    refine my_swi (tgt := 106) hx hb nd_S_performOnTwo_22 h22_34 (by decide) (by decide) rfl (by decide) ?_
    refine lv_aload_n hx hb nd_S_performOnTwo_106 rfl (lv_at hl 3 rfl) ?_
    refine lv_iload hx hb nd_S_performOnTwo_107 (lv_at hl 0 rfl) ?_
    refine lv_iload_n hx hb nd_S_performOnTwo_109 rfl (lv_at hl 2 rfl) ?_
    refine lv_i2l (v := (f_S_valueOfS a1 u).toInt64) hx hb nd_S_performOnTwo_110 rfl ?_
    refine lv_iload_n hx hb nd_S_performOnTwo_111 rfl (lv_at hl 1 rfl) ?_
    refine lv_i2l (v := (f_S_valueOfT a1 u).toInt64) hx hb nd_S_performOnTwo_112 rfl ?_
    refine lv_lsub hx hb nd_S_performOnTwo_113 ?_
    obtain ⟨r114, u114, hq114, hw⟩ := bnd_i hw
    refine my_ci (wd := wSC h cA) (r := r114) (u' := u114) (va_runV (As := [.int (f_S_numberD a1), .long (((f_S_valueOfS a1 u).toInt64) - ((f_S_valueOfT a1 u).toInt64))]) (rest := []) ⟨hx, hb, hml, hown, hts⟩ (c_S_giveIfExact l D h cA u (f_S_numberD a1) (((f_S_valueOfS a1 u).toInt64) - ((f_S_valueOfT a1 u).toInt64)) (r114, u114) hq114 _) ⟨callB_of 2 hts (gw_in gw_265) rfl rfl rfl (hts _ gw_1) (hts _ gw_262) nh_S_giveIfExact ⟨Nat.le_of_ble_eq_true rfl, Nat.le_of_ble_eq_true rfl⟩, (hts _ gw_264), (hts _ gw_263)⟩ (my_preV nwOk hP hK hD hN (va_recv hK hP (ci := 0) (q0 := 0) rfl rfl)) rfl rfl hl.1 rfl (lv_room (Nat.le_of_ble_eq_true rfl)) nd_S_performOnTwo_114 ⟨Nat.le_of_ble_eq_true rfl, Nat.le_of_ble_eq_true rfl⟩) hD hS hA (fun H locs hP hD hS => ?_)
    exact my_ri (u' := u114) (v := r114) hx hb hr hlocks hK hP hD hS hw nd_S_performOnTwo_117
  have hw := (if_neg h22_34).symm.trans hw
  rcases my_em (x := f_S_numberK a1) (35 : Int32) with h22_35 | h22_35
  · have hw := (if_pos h22_35).symm.trans hw
    refine my_swi (tgt := 118) hx hb nd_S_performOnTwo_22 h22_35 (by decide) (by decide) rfl (by decide) ?_
    refine lv_aload_n hx hb nd_S_performOnTwo_118 rfl (lv_at hl 3 rfl) ?_
    refine lv_iload hx hb nd_S_performOnTwo_119 (lv_at hl 0 rfl) ?_
    refine lv_iload_n hx hb nd_S_performOnTwo_121 rfl (lv_at hl 2 rfl) ?_
    refine lv_iload_n hx hb nd_S_performOnTwo_122 rfl (lv_at hl 1 rfl) ?_
    refine lv_isub hx hb nd_S_performOnTwo_123 ?_
    obtain ⟨r124, u124, hq124, hw⟩ := bnd_i hw
    refine my_ci (wd := wSC h cA) (r := r124) (u' := u124) (va_runV (As := [.int (f_S_numberD a1), .int ((f_S_valueOfS a1 u) - (f_S_valueOfT a1 u))]) (rest := []) ⟨hx, hb, hml, hown, hts⟩ (c_S_give l D h cA u (f_S_numberD a1) ((f_S_valueOfS a1 u) - (f_S_valueOfT a1 u)) (r124, u124) hq124 _) ⟨callB_of 2 hts (gw_in gw_223) rfl rfl rfl (hts _ gw_1) (hts _ gw_220) nh_S_give ⟨Nat.le_of_ble_eq_true rfl, Nat.le_of_ble_eq_true rfl⟩, (hts _ gw_222), (hts _ gw_221)⟩ (my_preV nwOk hP hK hD hN (va_recv hK hP (ci := 0) (q0 := 0) rfl rfl)) rfl rfl hl.1 rfl (lv_room (Nat.le_of_ble_eq_true rfl)) nd_S_performOnTwo_124 ⟨Nat.le_of_ble_eq_true rfl, Nat.le_of_ble_eq_true rfl⟩) hD hS hA (fun H locs hP hD hS => ?_)
    exact my_ri (u' := u124) (v := r124) hx hb hr hlocks hK hP hD hS hw nd_S_performOnTwo_127
  have hw := (if_neg h22_35).symm.trans hw
  rcases my_em (x := f_S_numberK a1) (36 : Int32) with h22_36 | h22_36
  · have hw := (if_pos h22_36).symm.trans hw
    refine my_swi (tgt := 128) hx hb nd_S_performOnTwo_22 h22_36 (by decide) (by decide) rfl (by decide) ?_
    refine lv_aload_n hx hb nd_S_performOnTwo_128 rfl (lv_at hl 3 rfl) ?_
    refine lv_iload hx hb nd_S_performOnTwo_129 (lv_at hl 0 rfl) ?_
    refine lv_iload_n hx hb nd_S_performOnTwo_131 rfl (lv_at hl 2 rfl) ?_
    refine lv_iload_n hx hb nd_S_performOnTwo_132 rfl (lv_at hl 1 rfl) ?_
    refine lv_iand hx hb nd_S_performOnTwo_133 ?_
    obtain ⟨r134, u134, hq134, hw⟩ := bnd_i hw
    refine my_ci (wd := wSC h cA) (r := r134) (u' := u134) (va_runV (As := [.int (f_S_numberD a1), .int ((f_S_valueOfS a1 u) &&& (f_S_valueOfT a1 u))]) (rest := []) ⟨hx, hb, hml, hown, hts⟩ (c_S_give l D h cA u (f_S_numberD a1) ((f_S_valueOfS a1 u) &&& (f_S_valueOfT a1 u)) (r134, u134) hq134 _) ⟨callB_of 2 hts (gw_in gw_223) rfl rfl rfl (hts _ gw_1) (hts _ gw_220) nh_S_give ⟨Nat.le_of_ble_eq_true rfl, Nat.le_of_ble_eq_true rfl⟩, (hts _ gw_222), (hts _ gw_221)⟩ (my_preV nwOk hP hK hD hN (va_recv hK hP (ci := 0) (q0 := 0) rfl rfl)) rfl rfl hl.1 rfl (lv_room (Nat.le_of_ble_eq_true rfl)) nd_S_performOnTwo_134 ⟨Nat.le_of_ble_eq_true rfl, Nat.le_of_ble_eq_true rfl⟩) hD hS hA (fun H locs hP hD hS => ?_)
    exact my_ri (u' := u134) (v := r134) hx hb hr hlocks hK hP hD hS hw nd_S_performOnTwo_137
  have hw := (if_neg h22_36).symm.trans hw
  rcases my_em (x := f_S_numberK a1) (37 : Int32) with h22_37 | h22_37
  · have hw := (if_pos h22_37).symm.trans hw
    refine my_swi (tgt := 138) hx hb nd_S_performOnTwo_22 h22_37 (by decide) (by decide) rfl (by decide) ?_
    refine lv_aload_n hx hb nd_S_performOnTwo_138 rfl (lv_at hl 3 rfl) ?_
    refine lv_iload hx hb nd_S_performOnTwo_139 (lv_at hl 0 rfl) ?_
    refine lv_iload_n hx hb nd_S_performOnTwo_141 rfl (lv_at hl 2 rfl) ?_
    refine lv_iload_n hx hb nd_S_performOnTwo_142 rfl (lv_at hl 1 rfl) ?_
    refine lv_ior hx hb nd_S_performOnTwo_143 ?_
    obtain ⟨r144, u144, hq144, hw⟩ := bnd_i hw
    refine my_ci (wd := wSC h cA) (r := r144) (u' := u144) (va_runV (As := [.int (f_S_numberD a1), .int ((f_S_valueOfS a1 u) ||| (f_S_valueOfT a1 u))]) (rest := []) ⟨hx, hb, hml, hown, hts⟩ (c_S_give l D h cA u (f_S_numberD a1) ((f_S_valueOfS a1 u) ||| (f_S_valueOfT a1 u)) (r144, u144) hq144 _) ⟨callB_of 2 hts (gw_in gw_223) rfl rfl rfl (hts _ gw_1) (hts _ gw_220) nh_S_give ⟨Nat.le_of_ble_eq_true rfl, Nat.le_of_ble_eq_true rfl⟩, (hts _ gw_222), (hts _ gw_221)⟩ (my_preV nwOk hP hK hD hN (va_recv hK hP (ci := 0) (q0 := 0) rfl rfl)) rfl rfl hl.1 rfl (lv_room (Nat.le_of_ble_eq_true rfl)) nd_S_performOnTwo_144 ⟨Nat.le_of_ble_eq_true rfl, Nat.le_of_ble_eq_true rfl⟩) hD hS hA (fun H locs hP hD hS => ?_)
    exact my_ri (u' := u144) (v := r144) hx hb hr hlocks hK hP hD hS hw nd_S_performOnTwo_147
  have hw := (if_neg h22_37).symm.trans hw
  rcases my_em (x := f_S_numberK a1) (38 : Int32) with h22_38 | h22_38
  · have hw := (if_pos h22_38).symm.trans hw
    refine my_swi (tgt := 148) hx hb nd_S_performOnTwo_22 h22_38 (by decide) (by decide) rfl (by decide) ?_
    refine lv_aload_n hx hb nd_S_performOnTwo_148 rfl (lv_at hl 3 rfl) ?_
    refine lv_iload hx hb nd_S_performOnTwo_149 (lv_at hl 0 rfl) ?_
    refine lv_iload_n hx hb nd_S_performOnTwo_151 rfl (lv_at hl 2 rfl) ?_
    refine lv_iload_n hx hb nd_S_performOnTwo_152 rfl (lv_at hl 1 rfl) ?_
    refine lv_ixor hx hb nd_S_performOnTwo_153 ?_
    obtain ⟨r154, u154, hq154, hw⟩ := bnd_i hw
    refine my_ci (wd := wSC h cA) (r := r154) (u' := u154) (va_runV (As := [.int (f_S_numberD a1), .int ((f_S_valueOfS a1 u) ^^^ (f_S_valueOfT a1 u))]) (rest := []) ⟨hx, hb, hml, hown, hts⟩ (c_S_give l D h cA u (f_S_numberD a1) ((f_S_valueOfS a1 u) ^^^ (f_S_valueOfT a1 u)) (r154, u154) hq154 _) ⟨callB_of 2 hts (gw_in gw_223) rfl rfl rfl (hts _ gw_1) (hts _ gw_220) nh_S_give ⟨Nat.le_of_ble_eq_true rfl, Nat.le_of_ble_eq_true rfl⟩, (hts _ gw_222), (hts _ gw_221)⟩ (my_preV nwOk hP hK hD hN (va_recv hK hP (ci := 0) (q0 := 0) rfl rfl)) rfl rfl hl.1 rfl (lv_room (Nat.le_of_ble_eq_true rfl)) nd_S_performOnTwo_154 ⟨Nat.le_of_ble_eq_true rfl, Nat.le_of_ble_eq_true rfl⟩) hD hS hA (fun H locs hP hD hS => ?_)
    exact my_ri (u' := u154) (v := r154) hx hb hr hlocks hK hP hD hS hw nd_S_performOnTwo_157
  have hw := (if_neg h22_38).symm.trans hw
  rcases my_em (x := f_S_numberK a1) (39 : Int32) with h22_39 | h22_39
  · have hw := (if_pos h22_39).symm.trans hw
    refine my_swi (tgt := 158) hx hb nd_S_performOnTwo_22 h22_39 (by decide) (by decide) rfl (by decide) ?_
    refine lv_aload_n hx hb nd_S_performOnTwo_158 rfl (lv_at hl 3 rfl) ?_
    refine lv_iload hx hb nd_S_performOnTwo_159 (lv_at hl 0 rfl) ?_
    refine lv_iload_n hx hb nd_S_performOnTwo_161 rfl (lv_at hl 2 rfl) ?_
    refine lv_iload_n hx hb nd_S_performOnTwo_162 rfl (lv_at hl 1 rfl) ?_
    refine lv_ior hx hb nd_S_performOnTwo_163 ?_
    refine lv_iconst (v := (-1 : Int32)) hx hb nd_S_performOnTwo_164 (by decide) ?_
    refine lv_ixor hx hb nd_S_performOnTwo_165 ?_
    obtain ⟨r166, u166, hq166, hw⟩ := bnd_i hw
    refine my_ci (wd := wSC h cA) (r := r166) (u' := u166) (va_runV (As := [.int (f_S_numberD a1), .int (((f_S_valueOfS a1 u) ||| (f_S_valueOfT a1 u)) ^^^ (-1 : Int32))]) (rest := []) ⟨hx, hb, hml, hown, hts⟩ (c_S_give l D h cA u (f_S_numberD a1) (((f_S_valueOfS a1 u) ||| (f_S_valueOfT a1 u)) ^^^ (-1 : Int32)) (r166, u166) hq166 _) ⟨callB_of 2 hts (gw_in gw_223) rfl rfl rfl (hts _ gw_1) (hts _ gw_220) nh_S_give ⟨Nat.le_of_ble_eq_true rfl, Nat.le_of_ble_eq_true rfl⟩, (hts _ gw_222), (hts _ gw_221)⟩ (my_preV nwOk hP hK hD hN (va_recv hK hP (ci := 0) (q0 := 0) rfl rfl)) rfl rfl hl.1 rfl (lv_room (Nat.le_of_ble_eq_true rfl)) nd_S_performOnTwo_166 ⟨Nat.le_of_ble_eq_true rfl, Nat.le_of_ble_eq_true rfl⟩) hD hS hA (fun H locs hP hD hS => ?_)
    exact my_ri (u' := u166) (v := r166) hx hb hr hlocks hK hP hD hS hw nd_S_performOnTwo_169
  have hw := (if_neg h22_39).symm.trans hw
  rcases my_em (x := f_S_numberK a1) (42 : Int32) with h22_42 | h22_42
  · have hw := (if_pos h22_42).symm.trans hw
    refine my_swi (tgt := 170) hx hb nd_S_performOnTwo_22 h22_42 (by decide) (by decide) rfl (by decide) ?_
    refine lv_aload_n hx hb nd_S_performOnTwo_170 rfl (lv_at hl 3 rfl) ?_
    refine lv_iload hx hb nd_S_performOnTwo_171 (lv_at hl 0 rfl) ?_
    refine lv_iload_n hx hb nd_S_performOnTwo_173 rfl (lv_at hl 2 rfl) ?_
    refine lv_iload_n hx hb nd_S_performOnTwo_174 rfl (lv_at hl 1 rfl) ?_
    refine lv_icmp_ge (tgt := 182) hx hb nd_S_performOnTwo_175 (by decide) (fun h175 => ?_) (fun h175 => ?_)
    · have hw := (if_pos h175).symm.trans hw
      refine lv_iconst (v := (0 : Int32)) hx hb nd_S_performOnTwo_182 (by decide) ?_
      exact J183 (0 : Int32) (f_S_numberD a1) u H locs ls hP hD hS (lv_sub hl [] rfl) hw
    have hw := (if_neg h175).symm.trans hw
    refine lv_iconst (v := (1 : Int32)) hx hb nd_S_performOnTwo_178 (by decide) ?_
    refine lv_goto (tgt := 183) hx hb nd_S_performOnTwo_179 (by decide) ?_
    exact J183 (1 : Int32) (f_S_numberD a1) u H locs ls hP hD hS (lv_sub hl [] rfl) hw
  have hw := (if_neg h22_42).symm.trans hw
  rcases my_em (x := f_S_numberK a1) (43 : Int32) with h22_43 | h22_43
  · have hw := (if_pos h22_43).symm.trans hw
    refine my_swi (tgt := 187) hx hb nd_S_performOnTwo_22 h22_43 (by decide) (by decide) rfl (by decide) ?_
    refine lv_aload_n hx hb nd_S_performOnTwo_187 rfl (lv_at hl 3 rfl) ?_
    refine lv_iload hx hb nd_S_performOnTwo_188 (lv_at hl 0 rfl) ?_
    refine lv_iload_n hx hb nd_S_performOnTwo_190 rfl (lv_at hl 2 rfl) ?_
    refine my_cl (F := f_S_withoutSign (f_S_valueOfS a1 u)) (va_runS (As := [.int (f_S_valueOfS a1 u)]) (rest := [.int (f_S_numberD a1), .ref (h 0)]) ⟨hx, hb, hml, hown, hts⟩ (c_S_withoutSign l (f_S_valueOfS a1 u) _ rfl) ⟨callB_of 1 hts (gw_in gw_246) rfl rfl rfl (hts _ gw_1) (hts _ gw_244) nh_S_withoutSign ⟨Nat.le_of_ble_eq_true rfl, Nat.le_of_ble_eq_true rfl⟩, (hts _ gw_245)⟩ my_preP rfl rfl hl.1 rfl (lv_room (Nat.le_of_ble_eq_true rfl)) nd_S_performOnTwo_191 ⟨Nat.le_of_ble_eq_true rfl, Nat.le_of_ble_eq_true rfl⟩) hP hS (fun H locs hP hS => ?_)
    refine lv_iload_n hx hb nd_S_performOnTwo_194 rfl (lv_at hl 1 rfl) ?_
    refine my_cl (F := f_S_withoutSign (f_S_valueOfT a1 u)) (va_runS (As := [.int (f_S_valueOfT a1 u)]) (rest := [.long (f_S_withoutSign (f_S_valueOfS a1 u)), .int (f_S_numberD a1), .ref (h 0)]) ⟨hx, hb, hml, hown, hts⟩ (c_S_withoutSign l (f_S_valueOfT a1 u) _ rfl) ⟨callB_of 1 hts (gw_in gw_246) rfl rfl rfl (hts _ gw_1) (hts _ gw_244) nh_S_withoutSign ⟨Nat.le_of_ble_eq_true rfl, Nat.le_of_ble_eq_true rfl⟩, (hts _ gw_245)⟩ my_preP rfl rfl hl.1 rfl (lv_room (Nat.le_of_ble_eq_true rfl)) nd_S_performOnTwo_195 ⟨Nat.le_of_ble_eq_true rfl, Nat.le_of_ble_eq_true rfl⟩) hP hS (fun H locs hP hS => ?_)
    refine W.lcmp hx hb nd_S_performOnTwo_198 ?_
    refine lv_if_ge (tgt := 206) hx hb nd_S_performOnTwo_199 (by decide) (fun h199 => ?_) (fun h199 => ?_)
    · have hw := (if_pos h199).symm.trans hw
      refine lv_iconst (v := (0 : Int32)) hx hb nd_S_performOnTwo_206 (by decide) ?_
      exact J207 (0 : Int32) (f_S_numberD a1) u H locs ls hP hD hS (lv_sub hl [] rfl) hw
    have hw := (if_neg h199).symm.trans hw
    refine lv_iconst (v := (1 : Int32)) hx hb nd_S_performOnTwo_202 (by decide) ?_
    refine lv_goto (tgt := 207) hx hb nd_S_performOnTwo_203 (by decide) ?_
    exact J207 (1 : Int32) (f_S_numberD a1) u H locs ls hP hD hS (lv_sub hl [] rfl) hw
  have hw := (if_neg h22_43).symm.trans hw
  refine my_swd (tgt := 211) hx hb nd_S_performOnTwo_22 (my_nec h22_32 (my_nec h22_33 (my_nec h22_34 (my_nec h22_35 (my_nec h22_36 (my_nec h22_37 (my_nec h22_38 (my_nec h22_39 (my_nec h22_42 (my_nec h22_43 my_nen)))))))))) (by decide +kernel) (by decide) ?_
  refine lv_bipush (v := (10 : Int32)) hx hb nd_S_performOnTwo_211 (by decide) ?_
  exact my_ri (u' := u) (v := (10 : Int32)) hx hb hr hlocks hK hP hD hS hw nd_S_performOnTwo_213
set_option maxHeartbeats 4000000 in
set_option maxRecDepth 100000 in
theorem c_S_performBranchBySign (l : Launch) (D : va_G) (h : Nat → Nat) (cA : Nat → ClassId) (u : St) (a1 : Int32) (F : Int32 × St) (hw : f_S_performBranchBySign a1 u = F) : MI nwS vwCl l ny_S_performBranchBySign nw_S_performBranchBySign ({ frames := 2, cells := 0, slots := 0, locals := 42 }) D (tyI cA) (wSC h cA) ([.ref (h 0), .int a1] : List Value) u F := by
  refine my_in (gw := GW) (cc := nc_S_performBranchBySign) (maxL := 5) (ret := (some .int)) (Qc := fun A => QI vwCl D (tyI cA) (wSC h cA) F A) (by decide) rfl (Nat.le_of_ble_eq_true rfl) ?_
  intro p e s m below meth c A H locs ls hx hb hml hr hts hown hlocks hK hN hA hP hD hS hl
  have hown : s.vm.findClass nR_S = some m.cls := hown
  have hl : lv_has ls 5 [(0, .ref (h 0)), (1, .int a1)] := hl
  have J84 : ∀ (x1 : Int32) (y0 : Int32) (u : St) (H : Heap) (locs : List Loc) (ls : Array Slot), va_P D vwCl (wSC h cA u) H → va_D A (wSC h cA u) → va_S A s.heap H locs → lv_has ls 5 [(0, .ref (h 0)), (1, .int x1)] → f_S_performBranchBySign_b84 x1 y0 u = F →
      W p l e (headSpec nw_S_performBranchBySign ({ frames := 2, cells := 0, slots := 0, locals := 42 })).room s m ([.ref (h 0), .int a1] : List Value).toArray below meth c H locs 0 0 (MQ below (QI vwCl D (tyI cA) (wSC h cA) F A) ([.ref (h 0), .int a1] : List Value).toArray s 0 0 A) (F0 m 84 ls [.int (zb y0), .ref (h 0)]) := by
    intro x1 y0 u H locs ls hP hD hS hl hw
    unfold f_S_performBranchBySign_b84 at hw
    refine lv_aload_n hx hb nd_S_performBranchBySign_84 rfl (lv_at hl 0 rfl) ?_
    refine lv_iload_n hx hb nd_S_performBranchBySign_85 rfl (lv_at hl 1 rfl) ?_
    refine my_ci (wd := wSC h cA) (r := f_S_nearTarget x1 u) (u' := u) (va_runV (As := [.int x1]) (rest := [.int (zb y0), .ref (h 0)]) ⟨hx, hb, hml, hown, hts⟩ (c_S_nearTarget l D h cA u x1 _ rfl _) ⟨callB_of 1 hts (gw_in gw_277) rfl rfl rfl (hts _ gw_1) (hts _ gw_274) nh_S_nearTarget ⟨Nat.le_of_ble_eq_true rfl, Nat.le_of_ble_eq_true rfl⟩, (hts _ gw_276), (hts _ gw_275)⟩ (my_preV nwOk hP hK hD hN (va_recv hK hP (ci := 0) (q0 := 0) rfl rfl)) rfl rfl hl.1 rfl (lv_room (Nat.le_of_ble_eq_true rfl)) nd_S_performBranchBySign_86 ⟨Nat.le_of_ble_eq_true rfl, Nat.le_of_ble_eq_true rfl⟩) hD hS hA (fun H locs hP hD hS => ?_)
    obtain ⟨r89, u89, hq89, hw⟩ := bnd_i hw
    refine my_ci (wd := wSC h cA) (r := r89) (u' := u89) (va_runV (As := [.int (zb y0), .int (f_S_nearTarget x1 u)]) (rest := []) ⟨hx, hb, hml, hown, hts⟩ (c_S_branchIf l D h cA u y0 (f_S_nearTarget x1 u) (r89, u89) hq89 _) ⟨callB_of 2 hts (gw_in gw_231) rfl rfl rfl (hts _ gw_1) (hts _ gw_228) nh_S_branchIf ⟨Nat.le_of_ble_eq_true rfl, Nat.le_of_ble_eq_true rfl⟩, (hts _ gw_230), (hts _ gw_229)⟩ (my_preV nwOk hP hK hD hN (va_recv hK hP (ci := 0) (q0 := 0) rfl rfl)) rfl rfl hl.1 rfl (lv_room (Nat.le_of_ble_eq_true rfl)) nd_S_performBranchBySign_89 ⟨Nat.le_of_ble_eq_true rfl, Nat.le_of_ble_eq_true rfl⟩) hD hS hA (fun H locs hP hD hS => ?_)
    exact my_ri (u' := u89) (v := r89) hx hb hr hlocks hK hP hD hS hw nd_S_performBranchBySign_92
  have J76 : ∀ (x1 : Int32) (y0 : Int32) (y1 : Int32) (u : St) (H : Heap) (locs : List Loc) (ls : Array Slot), va_P D vwCl (wSC h cA u) H → va_D A (wSC h cA u) → va_S A s.heap H locs → lv_has ls 5 [(0, .ref (h 0)), (1, .int x1)] → f_S_performBranchBySign_b76 x1 y0 y1 u = F →
      W p l e (headSpec nw_S_performBranchBySign ({ frames := 2, cells := 0, slots := 0, locals := 42 })).room s m ([.ref (h 0), .int a1] : List Value).toArray below meth c H locs 0 0 (MQ below (QI vwCl D (tyI cA) (wSC h cA) F A) ([.ref (h 0), .int a1] : List Value).toArray s 0 0 A) (F0 m 76 ls [.int y0, .int y1, .ref (h 0)]) := by
    intro x1 y0 y1 u H locs ls hP hD hS hl hw
    unfold f_S_performBranchBySign_b76 at hw
    refine lv_icmp_ne (tgt := 83) hx hb nd_S_performBranchBySign_76 (by decide) (fun h76 => ?_) (fun h76 => ?_)
    · have hw := (if_neg h76).symm.trans hw
      refine lv_iconst (v := (0 : Int32)) hx hb nd_S_performBranchBySign_83 (by decide) ?_
      exact J84 x1 (0 : Int32) u H locs ls hP hD hS (lv_sub hl [0, 1] rfl) hw
    have hw := (if_pos h76).symm.trans hw
    refine lv_iconst (v := (1 : Int32)) hx hb nd_S_performBranchBySign_79 (by decide) ?_
    refine lv_goto (tgt := 84) hx hb nd_S_performBranchBySign_80 (by decide) ?_
    exact J84 x1 (1 : Int32) u H locs ls hP hD hS (lv_sub hl [0, 1] rfl) hw
  have J62 : ∀ (x1 : Int32) (x2 : Int32) (y0 : Int32) (u : St) (H : Heap) (locs : List Loc) (ls : Array Slot), va_P D vwCl (wSC h cA u) H → va_D A (wSC h cA u) → va_S A s.heap H locs → lv_has ls 5 [(0, .ref (h 0)), (1, .int x1), (2, .int x2)] → f_S_performBranchBySign_b62 x1 x2 y0 u = F →
      W p l e (headSpec nw_S_performBranchBySign ({ frames := 2, cells := 0, slots := 0, locals := 42 })).room s m ([.ref (h 0), .int a1] : List Value).toArray below meth c H locs 0 0 (MQ below (QI vwCl D (tyI cA) (wSC h cA) F A) ([.ref (h 0), .int a1] : List Value).toArray s 0 0 A) (F0 m 62 ls [.int y0]) := by
    intro x1 x2 y0 u H locs ls hP hD hS hl hw
    unfold f_S_performBranchBySign_b62 at hw
    refine lv_istore (lv' := [(4, .int y0), (0, .ref (h 0)), (1, .int x1), (2, .int x2)]) hx hb nd_S_performBranchBySign_62 hl (by decide) rfl (fun ls hl => ?_)
    refine lv_aload_n hx hb nd_S_performBranchBySign_64 rfl (lv_at hl 1 rfl) ?_
    refine lv_iload hx hb nd_S_performBranchBySign_65 (lv_at hl 0 rfl) ?_
    refine lv_iload_n hx hb nd_S_performBranchBySign_67 rfl (lv_at hl 3 rfl) ?_
    refine lv_if_ge (tgt := 75) hx hb nd_S_performBranchBySign_68 (by decide) (fun h68 => ?_) (fun h68 => ?_)
    · have hw := (if_pos h68).symm.trans hw
      refine lv_iconst (v := (0 : Int32)) hx hb nd_S_performBranchBySign_75 (by decide) ?_
      exact J76 x1 (0 : Int32) y0 u H locs ls hP hD hS (lv_sub hl [1, 2] rfl) hw
    have hw := (if_neg h68).symm.trans hw
    refine lv_iconst (v := (1 : Int32)) hx hb nd_S_performBranchBySign_71 (by decide) ?_
    refine lv_goto (tgt := 76) hx hb nd_S_performBranchBySign_72 (by decide) ?_
    exact J76 x1 (1 : Int32) y0 u H locs ls hP hD hS (lv_sub hl [1, 2] rfl) hw
  have J57 : ∀ (x1 : Int32) (x2 : Int32) (u : St) (H : Heap) (locs : List Loc) (ls : Array Slot), va_P D vwCl (wSC h cA u) H → va_D A (wSC h cA u) → va_S A s.heap H locs → lv_has ls 5 [(0, .ref (h 0)), (1, .int x1), (2, .int x2)] → f_S_performBranchBySign_b57 x1 x2 u = F →
      W p l e (headSpec nw_S_performBranchBySign ({ frames := 2, cells := 0, slots := 0, locals := 42 })).room s m ([.ref (h 0), .int a1] : List Value).toArray below meth c H locs 0 0 (MQ below (QI vwCl D (tyI cA) (wSC h cA) F A) ([.ref (h 0), .int a1] : List Value).toArray s 0 0 A) (F0 m 57 ls []) := by
    intro x1 x2 u H locs ls hP hD hS hl hw
    unfold f_S_performBranchBySign_b57 at hw
    refine lv_iconst (v := (1 : Int32)) hx hb nd_S_performBranchBySign_57 (by decide) ?_
    refine lv_goto (tgt := 62) hx hb nd_S_performBranchBySign_58 (by decide) ?_
    exact J62 x1 x2 (1 : Int32) u H locs ls hP hD hS (lv_sub hl [0, 1, 2] rfl) hw
  have J47 : ∀ (x1 : Int32) (x2 : Int32) (x3 : Int32) (u : St) (H : Heap) (locs : List Loc) (ls : Array Slot), va_P D vwCl (wSC h cA u) H → va_D A (wSC h cA u) → va_S A s.heap H locs → lv_has ls 5 [(0, .ref (h 0)), (1, .int x1), (2, .int x2), (3, .int x3)] → f_S_performBranchBySign_b47 x1 x2 x3 u = F →
      W p l e (headSpec nw_S_performBranchBySign ({ frames := 2, cells := 0, slots := 0, locals := 42 })).room s m ([.ref (h 0), .int a1] : List Value).toArray below meth c H locs 0 0 (MQ below (QI vwCl D (tyI cA) (wSC h cA) F A) ([.ref (h 0), .int a1] : List Value).toArray s 0 0 A) (F0 m 47 ls []) := by
    intro x1 x2 x3 u H locs ls hP hD hS hl hw
    unfold f_S_performBranchBySign_b47 at hw
    refine lv_iload_n hx hb nd_S_performBranchBySign_47 rfl (lv_at hl 3 rfl) ?_
    refine lv_if_eq (tgt := 57) hx hb nd_S_performBranchBySign_48 (by decide) (fun h48 => ?_) (fun h48 => ?_)
    · have hw := (if_pos h48).symm.trans hw
      exact J57 x1 x2 u H locs ls hP hD hS (lv_sub hl [0, 1, 2] rfl) hw
    have hw := (if_neg h48).symm.trans hw
    refine lv_iload_n hx hb nd_S_performBranchBySign_51 rfl (lv_at hl 3 rfl) ?_
    refine lv_bipush (v := (16 : Int32)) hx hb nd_S_performBranchBySign_52 (by decide) ?_
    refine lv_icmp_ne (tgt := 61) hx hb nd_S_performBranchBySign_54 (by decide) (fun h54 => ?_) (fun h54 => ?_)
    · have hw := (if_neg h54).symm.trans hw
      refine lv_iconst (v := (0 : Int32)) hx hb nd_S_performBranchBySign_61 (by decide) ?_
      exact J62 x1 x2 (0 : Int32) u H locs ls hP hD hS (lv_sub hl [0, 1, 2] rfl) hw
    have hw := (if_pos h54).symm.trans hw
    exact J57 x1 x2 u H locs ls hP hD hS (lv_sub hl [0, 1, 2] rfl) hw
  have J33 : ∀ (x1 : Int32) (x2 : Int32) (x3 : Int32) (u : St) (H : Heap) (locs : List Loc) (ls : Array Slot), va_P D vwCl (wSC h cA u) H → va_D A (wSC h cA u) → va_S A s.heap H locs → lv_has ls 5 [(0, .ref (h 0)), (1, .int x1), (2, .int x2), (3, .int x3)] → f_S_performBranchBySign_b33 x1 x2 x3 u = F →
      W p l e (headSpec nw_S_performBranchBySign ({ frames := 2, cells := 0, slots := 0, locals := 42 })).room s m ([.ref (h 0), .int a1] : List Value).toArray below meth c H locs 0 0 (MQ below (QI vwCl D (tyI cA) (wSC h cA) F A) ([.ref (h 0), .int a1] : List Value).toArray s 0 0 A) (F0 m 33 ls []) := by
    intro x1 x2 x3 u H locs ls hP hD hS hl hw
    unfold f_S_performBranchBySign_b33 at hw
    refine lv_aload_n hx hb nd_S_performBranchBySign_33 rfl (lv_at hl 0 rfl) ?_
    refine lv_bipush (v := (31 : Int32)) hx hb nd_S_performBranchBySign_34 (by decide) ?_
    refine lv_aload_n hx hb nd_S_performBranchBySign_36 rfl (lv_at hl 0 rfl) ?_
    refine va_get (D := D) (ci := 0) (v := .int (u 0 4)) (C := nR_S) (T := nT_S) (N := 9) hx hb hts nu_S hown hK hP 0 rfl rfl 4 (by decide) (hts _ gw_67) (fun _ h9 => h9) rfl nd_S_performBranchBySign_37 ?_
    refine lv_bipush (v := (8 : Int32)) hx hb nd_S_performBranchBySign_40 (by decide) ?_
    refine lv_iadd hx hb nd_S_performBranchBySign_42 ?_
    obtain ⟨r43, u43, hq43, hw⟩ := bnd_i hw
    refine my_ci (wd := wSC h cA) (r := r43) (u' := u43) (va_runV (As := [.int (31 : Int32), .int ((u 0 4) + (8 : Int32))]) (rest := []) ⟨hx, hb, hml, hown, hts⟩ (c_S_give l D h cA u (31 : Int32) ((u 0 4) + (8 : Int32)) (r43, u43) hq43 _) ⟨callB_of 2 hts (gw_in gw_223) rfl rfl rfl (hts _ gw_1) (hts _ gw_220) nh_S_give ⟨Nat.le_of_ble_eq_true rfl, Nat.le_of_ble_eq_true rfl⟩, (hts _ gw_222), (hts _ gw_221)⟩ (my_preV nwOk hP hK hD hN (va_recv hK hP (ci := 0) (q0 := 0) rfl rfl)) rfl rfl hl.1 rfl (lv_room (Nat.le_of_ble_eq_true rfl)) nd_S_performBranchBySign_43 ⟨Nat.le_of_ble_eq_true rfl, Nat.le_of_ble_eq_true rfl⟩) hD hS hA (fun H locs hP hD hS => ?_)
    refine lv_pop hx hb nd_S_performBranchBySign_46 rfl ?_
    exact J47 x1 x2 x3 u43 H locs ls hP hD hS (lv_sub hl [0, 1, 2, 3] rfl) hw
  unfold f_S_performBranchBySign at hw
  refine lv_iload_n hx hb nd_S_performBranchBySign_0 rfl (lv_at hl 1 rfl) ?_
  refine my_cp (F := zb (f_S_isBranchBySign a1)) (va_runS (As := [.int a1]) (rest := []) ⟨hx, hb, hml, hown, hts⟩ (c_S_isBranchBySign l a1 _ rfl) ⟨callB_of 1 hts (gw_in gw_188) rfl rfl rfl (hts _ gw_1) (hts _ gw_186) nh_S_isBranchBySign ⟨Nat.le_of_ble_eq_true rfl, Nat.le_of_ble_eq_true rfl⟩, (hts _ gw_187)⟩ my_preP rfl rfl hl.1 rfl (lv_room (Nat.le_of_ble_eq_true rfl)) nd_S_performBranchBySign_1 ⟨Nat.le_of_ble_eq_true rfl, Nat.le_of_ble_eq_true rfl⟩) hP hS (fun H locs hP hS => ?_)
  refine lv_if_ne (tgt := 10) hx hb nd_S_performBranchBySign_4 (by decide) (fun h4 => ?_) (fun h4 => ?_)
  · have hw := (if_neg h4).symm.trans hw
    refine lv_aload_n hx hb nd_S_performBranchBySign_10 rfl (lv_at hl 0 rfl) ?_
    refine lv_iload_n hx hb nd_S_performBranchBySign_11 rfl (lv_at hl 1 rfl) ?_
    refine my_ci (wd := wSC h cA) (r := f_S_valueOfS a1 u) (u' := u) (va_runV (As := [.int a1]) (rest := []) ⟨hx, hb, hml, hown, hts⟩ (c_S_valueOfS l D h cA u a1 _ rfl _) ⟨callB_of 1 hts (gw_in gw_213) rfl rfl rfl (hts _ gw_1) (hts _ gw_210) nh_S_valueOfS ⟨Nat.le_of_ble_eq_true rfl, Nat.le_of_ble_eq_true rfl⟩, (hts _ gw_212), (hts _ gw_211)⟩ (my_preV nwOk hP hK hD hN (va_recv hK hP (ci := 0) (q0 := 0) rfl rfl)) rfl rfl hl.1 rfl (lv_room (Nat.le_of_ble_eq_true rfl)) nd_S_performBranchBySign_12 ⟨Nat.le_of_ble_eq_true rfl, Nat.le_of_ble_eq_true rfl⟩) hD hS hA (fun H locs hP hD hS => ?_)
    refine lv_istore_n (lv' := [(2, .int (f_S_valueOfS a1 u)), (0, .ref (h 0)), (1, .int a1)]) hx hb nd_S_performBranchBySign_15 rfl hl (by decide) rfl (fun ls hl => ?_)
    refine lv_iload_n hx hb nd_S_performBranchBySign_16 rfl (lv_at hl 2 rfl) ?_
    refine my_cp (F := f_S_numberT a1) (va_runS (As := [.int a1]) (rest := []) ⟨hx, hb, hml, hown, hts⟩ (c_S_numberT l a1 _ rfl) ⟨callB_of 1 hts (gw_in gw_191) rfl rfl rfl (hts _ gw_1) (hts _ gw_189) nh_S_numberT ⟨Nat.le_of_ble_eq_true rfl, Nat.le_of_ble_eq_true rfl⟩, (hts _ gw_190)⟩ my_preP rfl rfl hl.1 rfl (lv_room (Nat.le_of_ble_eq_true rfl)) nd_S_performBranchBySign_17 ⟨Nat.le_of_ble_eq_true rfl, Nat.le_of_ble_eq_true rfl⟩) hP hS (fun H locs hP hS => ?_)
    refine lv_istore_n (lv' := [(3, .int (f_S_numberT a1)), (2, .int (f_S_valueOfS a1 u)), (0, .ref (h 0)), (1, .int a1)]) hx hb nd_S_performBranchBySign_20 rfl hl (by decide) rfl (fun ls hl => ?_)
    refine lv_iload_n hx hb nd_S_performBranchBySign_21 rfl (lv_at hl 0 rfl) ?_
    refine lv_bipush (v := (16 : Int32)) hx hb nd_S_performBranchBySign_22 (by decide) ?_
    refine lv_icmp_eq (tgt := 33) hx hb nd_S_performBranchBySign_24 (by decide) (fun h24 => ?_) (fun h24 => ?_)
    · have hw := (if_pos h24).symm.trans hw
      exact J33 a1 (f_S_valueOfS a1 u) (f_S_numberT a1) u H locs ls hP hD hS (lv_sub hl [2, 3, 1, 0] rfl) hw
    have hw := (if_neg h24).symm.trans hw
    refine lv_iload_n hx hb nd_S_performBranchBySign_27 rfl (lv_at hl 0 rfl) ?_
    refine lv_bipush (v := (17 : Int32)) hx hb nd_S_performBranchBySign_28 (by decide) ?_
    refine lv_icmp_ne (tgt := 47) hx hb nd_S_performBranchBySign_30 (by decide) (fun h30 => ?_) (fun h30 => ?_)
    · have hw := (if_neg h30).symm.trans hw
      exact J47 a1 (f_S_valueOfS a1 u) (f_S_numberT a1) u H locs ls hP hD hS (lv_sub hl [2, 3, 1, 0] rfl) hw
    have hw := (if_pos h30).symm.trans hw
    exact J33 a1 (f_S_valueOfS a1 u) (f_S_numberT a1) u H locs ls hP hD hS (lv_sub hl [2, 3, 1, 0] rfl) hw
  have hw := (if_pos h4).symm.trans hw
  refine lv_bipush (v := (10 : Int32)) hx hb nd_S_performBranchBySign_7 (by decide) ?_
  exact my_ri (u' := u) (v := (10 : Int32)) hx hb hr hlocks hK hP hD hS hw nd_S_performBranchBySign_9
set_option maxHeartbeats 4000000 in
set_option maxRecDepth 100000 in
theorem c_S_performJump (l : Launch) (D : va_G) (h : Nat → Nat) (cA : Nat → ClassId) (u : St) (a1 : Int32) (F : Int32 × St) (hw : f_S_performJump a1 u = F) : MI nwS vwCl l ny_S_performJump nw_S_performJump ({ frames := 1, cells := 0, slots := 0, locals := 22 }) D (tyI cA) (wSC h cA) ([.ref (h 0), .int a1] : List Value) u F := by
  refine my_in (gw := GW) (cc := nc_S_performJump) (maxL := 2) (ret := (some .int)) (Qc := fun A => QI vwCl D (tyI cA) (wSC h cA) F A) (by decide) rfl (Nat.le_of_ble_eq_true rfl) ?_
  intro p e s m below meth c A H locs ls hx hb hml hr hts hown hlocks hK hN hA hP hD hS hl
  have hown : s.vm.findClass nR_S = some m.cls := hown
  have hl : lv_has ls 2 [(0, .ref (h 0)), (1, .int a1)] := hl
  have J22 : ∀ (x1 : Int32) (u : St) (H : Heap) (locs : List Loc) (ls : Array Slot), va_P D vwCl (wSC h cA u) H → va_D A (wSC h cA u) → va_S A s.heap H locs → lv_has ls 2 [(0, .ref (h 0)), (1, .int x1)] → f_S_performJump_b22 x1 u = F →
      W p l e (headSpec nw_S_performJump ({ frames := 1, cells := 0, slots := 0, locals := 22 })).room s m ([.ref (h 0), .int a1] : List Value).toArray below meth c H locs 0 0 (MQ below (QI vwCl D (tyI cA) (wSC h cA) F A) ([.ref (h 0), .int a1] : List Value).toArray s 0 0 A) (F0 m 22 ls []) := by
    intro x1 u H locs ls hP hD hS hl hw
    unfold f_S_performJump_b22 at hw
    refine lv_aload_n hx hb nd_S_performJump_22 rfl (lv_at hl 0 rfl) ?_
    refine lv_iconst (v := (1 : Int32)) hx hb nd_S_performJump_23 (by decide) ?_
    refine lv_aload_n hx hb nd_S_performJump_24 rfl (lv_at hl 0 rfl) ?_
    refine lv_iload_n hx hb nd_S_performJump_25 rfl (lv_at hl 1 rfl) ?_
    refine my_ci (wd := wSC h cA) (r := f_S_farTarget x1 u) (u' := u) (va_runV (As := [.int x1]) (rest := [.int (1 : Int32), .ref (h 0)]) ⟨hx, hb, hml, hown, hts⟩ (c_S_farTarget l D h cA u x1 _ rfl _) ⟨callB_of 1 hts (gw_in gw_288) rfl rfl rfl (hts _ gw_1) (hts _ gw_285) nh_S_farTarget ⟨Nat.le_of_ble_eq_true rfl, Nat.le_of_ble_eq_true rfl⟩, (hts _ gw_287), (hts _ gw_286)⟩ (my_preV nwOk hP hK hD hN (va_recv hK hP (ci := 0) (q0 := 0) rfl rfl)) rfl rfl hl.1 rfl (lv_room (Nat.le_of_ble_eq_true rfl)) nd_S_performJump_26 ⟨Nat.le_of_ble_eq_true rfl, Nat.le_of_ble_eq_true rfl⟩) hD hS hA (fun H locs hP hD hS => ?_)
    obtain ⟨r29, u29, hq29, hw⟩ := bnd_i hw
    refine my_ci (wd := wSC h cA) (r := r29) (u' := u29) (va_runV (As := [.int (zb (1 : Int32)), .int (f_S_farTarget x1 u)]) (rest := []) ⟨hx, hb, hml, hown, hts⟩ (c_S_branchIf l D h cA u (1 : Int32) (f_S_farTarget x1 u) (r29, u29) hq29 _) ⟨callB_of 2 hts (gw_in gw_231) rfl rfl rfl (hts _ gw_1) (hts _ gw_228) nh_S_branchIf ⟨Nat.le_of_ble_eq_true rfl, Nat.le_of_ble_eq_true rfl⟩, (hts _ gw_230), (hts _ gw_229)⟩ (my_preV nwOk hP hK hD hN (va_recv hK hP (ci := 0) (q0 := 0) rfl rfl)) rfl rfl hl.1 rfl (lv_room (Nat.le_of_ble_eq_true rfl)) nd_S_performJump_29 ⟨Nat.le_of_ble_eq_true rfl, Nat.le_of_ble_eq_true rfl⟩) hD hS hA (fun H locs hP hD hS => ?_)
    exact my_ri (u' := u29) (v := r29) hx hb hr hlocks hK hP hD hS hw nd_S_performJump_32
  unfold f_S_performJump at hw
  refine lv_iload_n hx hb nd_S_performJump_0 rfl (lv_at hl 1 rfl) ?_
  refine my_cp (F := f_S_orderOf a1) (va_runS (As := [.int a1]) (rest := []) ⟨hx, hb, hml, hown, hts⟩ (c_S_orderOf l a1 _ rfl) ⟨callB_of 1 hts (gw_in gw_182) rfl rfl rfl (hts _ gw_1) (hts _ gw_180) nh_S_orderOf ⟨Nat.le_of_ble_eq_true rfl, Nat.le_of_ble_eq_true rfl⟩, (hts _ gw_181)⟩ my_preP rfl rfl hl.1 rfl (lv_room (Nat.le_of_ble_eq_true rfl)) nd_S_performJump_1 ⟨Nat.le_of_ble_eq_true rfl, Nat.le_of_ble_eq_true rfl⟩) hP hS (fun H locs hP hS => ?_)
  refine lv_iconst (v := (3 : Int32)) hx hb nd_S_performJump_4 (by decide) ?_
  refine lv_icmp_ne (tgt := 22) hx hb nd_S_performJump_5 (by decide) (fun h5 => ?_) (fun h5 => ?_)
  · have hw := (if_neg h5).symm.trans hw
    exact J22 a1 u H locs ls hP hD hS (lv_sub hl [0, 1] rfl) hw
  have hw := (if_pos h5).symm.trans hw
  refine lv_aload_n hx hb nd_S_performJump_8 rfl (lv_at hl 0 rfl) ?_
  refine lv_bipush (v := (31 : Int32)) hx hb nd_S_performJump_9 (by decide) ?_
  refine lv_aload_n hx hb nd_S_performJump_11 rfl (lv_at hl 0 rfl) ?_
  refine va_get (D := D) (ci := 0) (v := .int (u 0 4)) (C := nR_S) (T := nT_S) (N := 9) hx hb hts nu_S hown hK hP 0 rfl rfl 4 (by decide) (hts _ gw_67) (fun _ h9 => h9) rfl nd_S_performJump_12 ?_
  refine lv_bipush (v := (8 : Int32)) hx hb nd_S_performJump_15 (by decide) ?_
  refine lv_iadd hx hb nd_S_performJump_17 ?_
  obtain ⟨r18, u18, hq18, hw⟩ := bnd_i hw
  refine my_ci (wd := wSC h cA) (r := r18) (u' := u18) (va_runV (As := [.int (31 : Int32), .int ((u 0 4) + (8 : Int32))]) (rest := []) ⟨hx, hb, hml, hown, hts⟩ (c_S_give l D h cA u (31 : Int32) ((u 0 4) + (8 : Int32)) (r18, u18) hq18 _) ⟨callB_of 2 hts (gw_in gw_223) rfl rfl rfl (hts _ gw_1) (hts _ gw_220) nh_S_give ⟨Nat.le_of_ble_eq_true rfl, Nat.le_of_ble_eq_true rfl⟩, (hts _ gw_222), (hts _ gw_221)⟩ (my_preV nwOk hP hK hD hN (va_recv hK hP (ci := 0) (q0 := 0) rfl rfl)) rfl rfl hl.1 rfl (lv_room (Nat.le_of_ble_eq_true rfl)) nd_S_performJump_18 ⟨Nat.le_of_ble_eq_true rfl, Nat.le_of_ble_eq_true rfl⟩) hD hS hA (fun H locs hP hD hS => ?_)
  refine lv_pop hx hb nd_S_performJump_21 rfl ?_
  exact J22 a1 u18 H locs ls hP hD hS (lv_sub hl [0, 1] rfl) hw
set_option maxHeartbeats 4000000 in
set_option maxRecDepth 100000 in
theorem c_S_performBranch (l : Launch) (D : va_G) (h : Nat → Nat) (cA : Nat → ClassId) (u : St) (a1 : Int32) (F : Int32 × St) (hw : f_S_performBranch a1 u = F) : MI nwS vwCl l ny_S_performBranch nw_S_performBranch ({ frames := 2, cells := 0, slots := 0, locals := 42 }) D (tyI cA) (wSC h cA) ([.ref (h 0), .int a1] : List Value) u F := by
  refine my_in (gw := GW) (cc := nc_S_performBranch) (maxL := 4) (ret := (some .int)) (Qc := fun A => QI vwCl D (tyI cA) (wSC h cA) F A) (by decide) rfl (Nat.le_of_ble_eq_true rfl) ?_
  intro p e s m below meth c A H locs ls hx hb hml hr hts hown hlocks hK hN hA hP hD hS hl
  have hown : s.vm.findClass nR_S = some m.cls := hown
  have hl : lv_has ls 4 [(0, .ref (h 0)), (1, .int a1)] := hl
  have J55 : ∀ (x1 : Int32) (y0 : Int32) (u : St) (H : Heap) (locs : List Loc) (ls : Array Slot), va_P D vwCl (wSC h cA u) H → va_D A (wSC h cA u) → va_S A s.heap H locs → lv_has ls 4 [(0, .ref (h 0)), (1, .int x1)] → f_S_performBranch_b55 x1 y0 u = F →
      W p l e (headSpec nw_S_performBranch ({ frames := 2, cells := 0, slots := 0, locals := 42 })).room s m ([.ref (h 0), .int a1] : List Value).toArray below meth c H locs 0 0 (MQ below (QI vwCl D (tyI cA) (wSC h cA) F A) ([.ref (h 0), .int a1] : List Value).toArray s 0 0 A) (F0 m 55 ls [.int (zb y0), .ref (h 0)]) := by
    intro x1 y0 u H locs ls hP hD hS hl hw
    unfold f_S_performBranch_b55 at hw
    refine lv_aload_n hx hb nd_S_performBranch_55 rfl (lv_at hl 0 rfl) ?_
    refine lv_iload_n hx hb nd_S_performBranch_56 rfl (lv_at hl 1 rfl) ?_
    refine my_ci (wd := wSC h cA) (r := f_S_nearTarget x1 u) (u' := u) (va_runV (As := [.int x1]) (rest := [.int (zb y0), .ref (h 0)]) ⟨hx, hb, hml, hown, hts⟩ (c_S_nearTarget l D h cA u x1 _ rfl _) ⟨callB_of 1 hts (gw_in gw_277) rfl rfl rfl (hts _ gw_1) (hts _ gw_274) nh_S_nearTarget ⟨Nat.le_of_ble_eq_true rfl, Nat.le_of_ble_eq_true rfl⟩, (hts _ gw_276), (hts _ gw_275)⟩ (my_preV nwOk hP hK hD hN (va_recv hK hP (ci := 0) (q0 := 0) rfl rfl)) rfl rfl hl.1 rfl (lv_room (Nat.le_of_ble_eq_true rfl)) nd_S_performBranch_57 ⟨Nat.le_of_ble_eq_true rfl, Nat.le_of_ble_eq_true rfl⟩) hD hS hA (fun H locs hP hD hS => ?_)
    obtain ⟨r60, u60, hq60, hw⟩ := bnd_i hw
    refine my_ci (wd := wSC h cA) (r := r60) (u' := u60) (va_runV (As := [.int (zb y0), .int (f_S_nearTarget x1 u)]) (rest := []) ⟨hx, hb, hml, hown, hts⟩ (c_S_branchIf l D h cA u y0 (f_S_nearTarget x1 u) (r60, u60) hq60 _) ⟨callB_of 2 hts (gw_in gw_231) rfl rfl rfl (hts _ gw_1) (hts _ gw_228) nh_S_branchIf ⟨Nat.le_of_ble_eq_true rfl, Nat.le_of_ble_eq_true rfl⟩, (hts _ gw_230), (hts _ gw_229)⟩ (my_preV nwOk hP hK hD hN (va_recv hK hP (ci := 0) (q0 := 0) rfl rfl)) rfl rfl hl.1 rfl (lv_room (Nat.le_of_ble_eq_true rfl)) nd_S_performBranch_60 ⟨Nat.le_of_ble_eq_true rfl, Nat.le_of_ble_eq_true rfl⟩) hD hS hA (fun H locs hP hD hS => ?_)
    exact my_ri (u' := u60) (v := r60) hx hb hr hlocks hK hP hD hS hw nd_S_performBranch_63
  have J75 : ∀ (x1 : Int32) (y0 : Int32) (u : St) (H : Heap) (locs : List Loc) (ls : Array Slot), va_P D vwCl (wSC h cA u) H → va_D A (wSC h cA u) → va_S A s.heap H locs → lv_has ls 4 [(0, .ref (h 0)), (1, .int x1)] → f_S_performBranch_b75 x1 y0 u = F →
      W p l e (headSpec nw_S_performBranch ({ frames := 2, cells := 0, slots := 0, locals := 42 })).room s m ([.ref (h 0), .int a1] : List Value).toArray below meth c H locs 0 0 (MQ below (QI vwCl D (tyI cA) (wSC h cA) F A) ([.ref (h 0), .int a1] : List Value).toArray s 0 0 A) (F0 m 75 ls [.int (zb y0), .ref (h 0)]) := by
    intro x1 y0 u H locs ls hP hD hS hl hw
    unfold f_S_performBranch_b75 at hw
    refine lv_aload_n hx hb nd_S_performBranch_75 rfl (lv_at hl 0 rfl) ?_
    refine lv_iload_n hx hb nd_S_performBranch_76 rfl (lv_at hl 1 rfl) ?_
    refine my_ci (wd := wSC h cA) (r := f_S_nearTarget x1 u) (u' := u) (va_runV (As := [.int x1]) (rest := [.int (zb y0), .ref (h 0)]) ⟨hx, hb, hml, hown, hts⟩ (c_S_nearTarget l D h cA u x1 _ rfl _) ⟨callB_of 1 hts (gw_in gw_277) rfl rfl rfl (hts _ gw_1) (hts _ gw_274) nh_S_nearTarget ⟨Nat.le_of_ble_eq_true rfl, Nat.le_of_ble_eq_true rfl⟩, (hts _ gw_276), (hts _ gw_275)⟩ (my_preV nwOk hP hK hD hN (va_recv hK hP (ci := 0) (q0 := 0) rfl rfl)) rfl rfl hl.1 rfl (lv_room (Nat.le_of_ble_eq_true rfl)) nd_S_performBranch_77 ⟨Nat.le_of_ble_eq_true rfl, Nat.le_of_ble_eq_true rfl⟩) hD hS hA (fun H locs hP hD hS => ?_)
    obtain ⟨r80, u80, hq80, hw⟩ := bnd_i hw
    refine my_ci (wd := wSC h cA) (r := r80) (u' := u80) (va_runV (As := [.int (zb y0), .int (f_S_nearTarget x1 u)]) (rest := []) ⟨hx, hb, hml, hown, hts⟩ (c_S_branchIf l D h cA u y0 (f_S_nearTarget x1 u) (r80, u80) hq80 _) ⟨callB_of 2 hts (gw_in gw_231) rfl rfl rfl (hts _ gw_1) (hts _ gw_228) nh_S_branchIf ⟨Nat.le_of_ble_eq_true rfl, Nat.le_of_ble_eq_true rfl⟩, (hts _ gw_230), (hts _ gw_229)⟩ (my_preV nwOk hP hK hD hN (va_recv hK hP (ci := 0) (q0 := 0) rfl rfl)) rfl rfl hl.1 rfl (lv_room (Nat.le_of_ble_eq_true rfl)) nd_S_performBranch_80 ⟨Nat.le_of_ble_eq_true rfl, Nat.le_of_ble_eq_true rfl⟩) hD hS hA (fun H locs hP hD hS => ?_)
    exact my_ri (u' := u80) (v := r80) hx hb hr hlocks hK hP hD hS hw nd_S_performBranch_83
  have J94 : ∀ (x1 : Int32) (y0 : Int32) (u : St) (H : Heap) (locs : List Loc) (ls : Array Slot), va_P D vwCl (wSC h cA u) H → va_D A (wSC h cA u) → va_S A s.heap H locs → lv_has ls 4 [(0, .ref (h 0)), (1, .int x1)] → f_S_performBranch_b94 x1 y0 u = F →
      W p l e (headSpec nw_S_performBranch ({ frames := 2, cells := 0, slots := 0, locals := 42 })).room s m ([.ref (h 0), .int a1] : List Value).toArray below meth c H locs 0 0 (MQ below (QI vwCl D (tyI cA) (wSC h cA) F A) ([.ref (h 0), .int a1] : List Value).toArray s 0 0 A) (F0 m 94 ls [.int (zb y0), .ref (h 0)]) := by
    intro x1 y0 u H locs ls hP hD hS hl hw
    unfold f_S_performBranch_b94 at hw
    refine lv_aload_n hx hb nd_S_performBranch_94 rfl (lv_at hl 0 rfl) ?_
    refine lv_iload_n hx hb nd_S_performBranch_95 rfl (lv_at hl 1 rfl) ?_
    refine my_ci (wd := wSC h cA) (r := f_S_nearTarget x1 u) (u' := u) (va_runV (As := [.int x1]) (rest := [.int (zb y0), .ref (h 0)]) ⟨hx, hb, hml, hown, hts⟩ (c_S_nearTarget l D h cA u x1 _ rfl _) ⟨callB_of 1 hts (gw_in gw_277) rfl rfl rfl (hts _ gw_1) (hts _ gw_274) nh_S_nearTarget ⟨Nat.le_of_ble_eq_true rfl, Nat.le_of_ble_eq_true rfl⟩, (hts _ gw_276), (hts _ gw_275)⟩ (my_preV nwOk hP hK hD hN (va_recv hK hP (ci := 0) (q0 := 0) rfl rfl)) rfl rfl hl.1 rfl (lv_room (Nat.le_of_ble_eq_true rfl)) nd_S_performBranch_96 ⟨Nat.le_of_ble_eq_true rfl, Nat.le_of_ble_eq_true rfl⟩) hD hS hA (fun H locs hP hD hS => ?_)
    obtain ⟨r99, u99, hq99, hw⟩ := bnd_i hw
    refine my_ci (wd := wSC h cA) (r := r99) (u' := u99) (va_runV (As := [.int (zb y0), .int (f_S_nearTarget x1 u)]) (rest := []) ⟨hx, hb, hml, hown, hts⟩ (c_S_branchIf l D h cA u y0 (f_S_nearTarget x1 u) (r99, u99) hq99 _) ⟨callB_of 2 hts (gw_in gw_231) rfl rfl rfl (hts _ gw_1) (hts _ gw_228) nh_S_branchIf ⟨Nat.le_of_ble_eq_true rfl, Nat.le_of_ble_eq_true rfl⟩, (hts _ gw_230), (hts _ gw_229)⟩ (my_preV nwOk hP hK hD hN (va_recv hK hP (ci := 0) (q0 := 0) rfl rfl)) rfl rfl hl.1 rfl (lv_room (Nat.le_of_ble_eq_true rfl)) nd_S_performBranch_99 ⟨Nat.le_of_ble_eq_true rfl, Nat.le_of_ble_eq_true rfl⟩) hD hS hA (fun H locs hP hD hS => ?_)
    exact my_ri (u' := u99) (v := r99) hx hb hr hlocks hK hP hD hS hw nd_S_performBranch_102
  have J113 : ∀ (x1 : Int32) (y0 : Int32) (u : St) (H : Heap) (locs : List Loc) (ls : Array Slot), va_P D vwCl (wSC h cA u) H → va_D A (wSC h cA u) → va_S A s.heap H locs → lv_has ls 4 [(0, .ref (h 0)), (1, .int x1)] → f_S_performBranch_b113 x1 y0 u = F →
      W p l e (headSpec nw_S_performBranch ({ frames := 2, cells := 0, slots := 0, locals := 42 })).room s m ([.ref (h 0), .int a1] : List Value).toArray below meth c H locs 0 0 (MQ below (QI vwCl D (tyI cA) (wSC h cA) F A) ([.ref (h 0), .int a1] : List Value).toArray s 0 0 A) (F0 m 113 ls [.int (zb y0), .ref (h 0)]) := by
    intro x1 y0 u H locs ls hP hD hS hl hw
    unfold f_S_performBranch_b113 at hw
    refine lv_aload_n hx hb nd_S_performBranch_113 rfl (lv_at hl 0 rfl) ?_
    refine lv_iload_n hx hb nd_S_performBranch_114 rfl (lv_at hl 1 rfl) ?_
    refine my_ci (wd := wSC h cA) (r := f_S_nearTarget x1 u) (u' := u) (va_runV (As := [.int x1]) (rest := [.int (zb y0), .ref (h 0)]) ⟨hx, hb, hml, hown, hts⟩ (c_S_nearTarget l D h cA u x1 _ rfl _) ⟨callB_of 1 hts (gw_in gw_277) rfl rfl rfl (hts _ gw_1) (hts _ gw_274) nh_S_nearTarget ⟨Nat.le_of_ble_eq_true rfl, Nat.le_of_ble_eq_true rfl⟩, (hts _ gw_276), (hts _ gw_275)⟩ (my_preV nwOk hP hK hD hN (va_recv hK hP (ci := 0) (q0 := 0) rfl rfl)) rfl rfl hl.1 rfl (lv_room (Nat.le_of_ble_eq_true rfl)) nd_S_performBranch_115 ⟨Nat.le_of_ble_eq_true rfl, Nat.le_of_ble_eq_true rfl⟩) hD hS hA (fun H locs hP hD hS => ?_)
    obtain ⟨r118, u118, hq118, hw⟩ := bnd_i hw
    refine my_ci (wd := wSC h cA) (r := r118) (u' := u118) (va_runV (As := [.int (zb y0), .int (f_S_nearTarget x1 u)]) (rest := []) ⟨hx, hb, hml, hown, hts⟩ (c_S_branchIf l D h cA u y0 (f_S_nearTarget x1 u) (r118, u118) hq118 _) ⟨callB_of 2 hts (gw_in gw_231) rfl rfl rfl (hts _ gw_1) (hts _ gw_228) nh_S_branchIf ⟨Nat.le_of_ble_eq_true rfl, Nat.le_of_ble_eq_true rfl⟩, (hts _ gw_230), (hts _ gw_229)⟩ (my_preV nwOk hP hK hD hN (va_recv hK hP (ci := 0) (q0 := 0) rfl rfl)) rfl rfl hl.1 rfl (lv_room (Nat.le_of_ble_eq_true rfl)) nd_S_performBranch_118 ⟨Nat.le_of_ble_eq_true rfl, Nat.le_of_ble_eq_true rfl⟩) hD hS hA (fun H locs hP hD hS => ?_)
    exact my_ri (u' := u118) (v := r118) hx hb hr hlocks hK hP hD hS hw nd_S_performBranch_121
  unfold f_S_performBranch at hw
  refine lv_aload_n hx hb nd_S_performBranch_0 rfl (lv_at hl 0 rfl) ?_
  refine lv_iload_n hx hb nd_S_performBranch_1 rfl (lv_at hl 1 rfl) ?_
  refine my_ci (wd := wSC h cA) (r := f_S_valueOfS a1 u) (u' := u) (va_runV (As := [.int a1]) (rest := []) ⟨hx, hb, hml, hown, hts⟩ (c_S_valueOfS l D h cA u a1 _ rfl _) ⟨callB_of 1 hts (gw_in gw_213) rfl rfl rfl (hts _ gw_1) (hts _ gw_210) nh_S_valueOfS ⟨Nat.le_of_ble_eq_true rfl, Nat.le_of_ble_eq_true rfl⟩, (hts _ gw_212), (hts _ gw_211)⟩ (my_preV nwOk hP hK hD hN (va_recv hK hP (ci := 0) (q0 := 0) rfl rfl)) rfl rfl hl.1 rfl (lv_room (Nat.le_of_ble_eq_true rfl)) nd_S_performBranch_2 ⟨Nat.le_of_ble_eq_true rfl, Nat.le_of_ble_eq_true rfl⟩) hD hS hA (fun H locs hP hD hS => ?_)
  refine lv_istore_n (lv' := [(2, .int (f_S_valueOfS a1 u)), (0, .ref (h 0)), (1, .int a1)]) hx hb nd_S_performBranch_5 rfl hl (by decide) rfl (fun ls hl => ?_)
  refine lv_aload_n hx hb nd_S_performBranch_6 rfl (lv_at hl 1 rfl) ?_
  refine lv_iload_n hx hb nd_S_performBranch_7 rfl (lv_at hl 2 rfl) ?_
  refine my_ci (wd := wSC h cA) (r := f_S_valueOfT a1 u) (u' := u) (va_runV (As := [.int a1]) (rest := []) ⟨hx, hb, hml, hown, hts⟩ (c_S_valueOfT l D h cA u a1 _ rfl _) ⟨callB_of 1 hts (gw_in gw_203) rfl rfl rfl (hts _ gw_1) (hts _ gw_200) nh_S_valueOfT ⟨Nat.le_of_ble_eq_true rfl, Nat.le_of_ble_eq_true rfl⟩, (hts _ gw_202), (hts _ gw_201)⟩ (my_preV nwOk hP hK hD hN (va_recv hK hP (ci := 0) (q0 := 0) rfl rfl)) rfl rfl hl.1 rfl (lv_room (Nat.le_of_ble_eq_true rfl)) nd_S_performBranch_8 ⟨Nat.le_of_ble_eq_true rfl, Nat.le_of_ble_eq_true rfl⟩) hD hS hA (fun H locs hP hD hS => ?_)
  refine lv_istore_n (lv' := [(3, .int (f_S_valueOfT a1 u)), (2, .int (f_S_valueOfS a1 u)), (0, .ref (h 0)), (1, .int a1)]) hx hb nd_S_performBranch_11 rfl hl (by decide) rfl (fun ls hl => ?_)
  refine lv_iload_n hx hb nd_S_performBranch_12 rfl (lv_at hl 3 rfl) ?_
  refine my_cp (F := f_S_orderOf a1) (va_runS (As := [.int a1]) (rest := []) ⟨hx, hb, hml, hown, hts⟩ (c_S_orderOf l a1 _ rfl) ⟨callB_of 1 hts (gw_in gw_182) rfl rfl rfl (hts _ gw_1) (hts _ gw_180) nh_S_orderOf ⟨Nat.le_of_ble_eq_true rfl, Nat.le_of_ble_eq_true rfl⟩, (hts _ gw_181)⟩ my_preP rfl rfl hl.1 rfl (lv_room (Nat.le_of_ble_eq_true rfl)) nd_S_performBranch_13 ⟨Nat.le_of_ble_eq_true rfl, Nat.le_of_ble_eq_true rfl⟩) hP hS (fun H locs hP hS => ?_)
  rcases my_em (x := f_S_orderOf a1) (4 : Int32) with h16_4 | h16_4
  · have hw := (if_pos h16_4).symm.trans hw
    refine my_swi (tgt := 44) hx hb nd_S_performBranch_16 h16_4 (by decide) (by decide) rfl (by decide) ?_
    refine lv_aload_n hx hb nd_S_performBranch_44 rfl (lv_at hl 2 rfl) ?_
    refine lv_iload_n hx hb nd_S_performBranch_45 rfl (lv_at hl 1 rfl) ?_
    refine lv_iload_n hx hb nd_S_performBranch_46 rfl (lv_at hl 0 rfl) ?_
    refine lv_icmp_ne (tgt := 54) hx hb nd_S_performBranch_47 (by decide) (fun h47 => ?_) (fun h47 => ?_)
    · have hw := (if_neg h47).symm.trans hw
      refine lv_iconst (v := (0 : Int32)) hx hb nd_S_performBranch_54 (by decide) ?_
      exact J55 a1 (0 : Int32) u H locs ls hP hD hS (lv_sub hl [2, 3] rfl) hw
    have hw := (if_pos h47).symm.trans hw
    refine lv_iconst (v := (1 : Int32)) hx hb nd_S_performBranch_50 (by decide) ?_
    refine lv_goto (tgt := 55) hx hb nd_S_performBranch_51 (by decide) ?_
    exact J55 a1 (1 : Int32) u H locs ls hP hD hS (lv_sub hl [2, 3] rfl) hw
  have hw := (if_neg h16_4).symm.trans hw
  rcases my_em (x := f_S_orderOf a1) (5 : Int32) with h16_5 | h16_5
  · have hw := (if_pos h16_5).symm.trans hw
    refine my_swi (tgt := 64) hx hb nd_S_performBranch_16 h16_5 (by decide) (by decide) rfl (by decide) ?_
    refine lv_aload_n hx hb nd_S_performBranch_64 rfl (lv_at hl 2 rfl) ?_
    refine lv_iload_n hx hb nd_S_performBranch_65 rfl (lv_at hl 1 rfl) ?_
    refine lv_iload_n hx hb nd_S_performBranch_66 rfl (lv_at hl 0 rfl) ?_
    refine lv_icmp_eq (tgt := 74) hx hb nd_S_performBranch_67 (by decide) (fun h67 => ?_) (fun h67 => ?_)
    · have hw := (if_pos h67).symm.trans hw
      refine lv_iconst (v := (0 : Int32)) hx hb nd_S_performBranch_74 (by decide) ?_
      exact J75 a1 (0 : Int32) u H locs ls hP hD hS (lv_sub hl [2, 3] rfl) hw
    have hw := (if_neg h67).symm.trans hw
    refine lv_iconst (v := (1 : Int32)) hx hb nd_S_performBranch_70 (by decide) ?_
    refine lv_goto (tgt := 75) hx hb nd_S_performBranch_71 (by decide) ?_
    exact J75 a1 (1 : Int32) u H locs ls hP hD hS (lv_sub hl [2, 3] rfl) hw
  have hw := (if_neg h16_5).symm.trans hw
  rcases my_em (x := f_S_orderOf a1) (6 : Int32) with h16_6 | h16_6
  · have hw := (if_pos h16_6).symm.trans hw
    refine my_swi (tgt := 84) hx hb nd_S_performBranch_16 h16_6 (by decide) (by decide) rfl (by decide) ?_
    refine lv_aload_n hx hb nd_S_performBranch_84 rfl (lv_at hl 2 rfl) ?_
    refine lv_iload_n hx hb nd_S_performBranch_85 rfl (lv_at hl 1 rfl) ?_
    refine lv_if_gt (tgt := 93) hx hb nd_S_performBranch_86 (by decide) (fun h86 => ?_) (fun h86 => ?_)
    · have hw := (if_pos h86).symm.trans hw
      refine lv_iconst (v := (0 : Int32)) hx hb nd_S_performBranch_93 (by decide) ?_
      exact J94 a1 (0 : Int32) u H locs ls hP hD hS (lv_sub hl [2, 3] rfl) hw
    have hw := (if_neg h86).symm.trans hw
    refine lv_iconst (v := (1 : Int32)) hx hb nd_S_performBranch_89 (by decide) ?_
    refine lv_goto (tgt := 94) hx hb nd_S_performBranch_90 (by decide) ?_
    exact J94 a1 (1 : Int32) u H locs ls hP hD hS (lv_sub hl [2, 3] rfl) hw
  have hw := (if_neg h16_6).symm.trans hw
  refine my_swd (tgt := 103) hx hb nd_S_performBranch_16 (my_nec h16_4 (my_nec h16_5 (my_nec h16_6 my_nen))) (by decide +kernel) (by decide) ?_
  refine lv_aload_n hx hb nd_S_performBranch_103 rfl (lv_at hl 2 rfl) ?_
  refine lv_iload_n hx hb nd_S_performBranch_104 rfl (lv_at hl 1 rfl) ?_
  refine lv_if_le (tgt := 112) hx hb nd_S_performBranch_105 (by decide) (fun h105 => ?_) (fun h105 => ?_)
  · have hw := (if_pos h105).symm.trans hw
    refine lv_iconst (v := (0 : Int32)) hx hb nd_S_performBranch_112 (by decide) ?_
    exact J113 a1 (0 : Int32) u H locs ls hP hD hS (lv_sub hl [2, 3] rfl) hw
  have hw := (if_neg h105).symm.trans hw
  refine lv_iconst (v := (1 : Int32)) hx hb nd_S_performBranch_108 (by decide) ?_
  refine lv_goto (tgt := 113) hx hb nd_S_performBranch_109 (by decide) ?_
  exact J113 a1 (1 : Int32) u H locs ls hP hD hS (lv_sub hl [2, 3] rfl) hw
set_option maxHeartbeats 4000000 in
set_option maxRecDepth 100000 in
theorem c_S_performWithNumber (l : Launch) (D : va_G) (h : Nat → Nat) (cA : Nat → ClassId) (u : St) (a1 : Int32) (F : Int32 × St) (hw : f_S_performWithNumber a1 u = F) : MI nwS vwCl l ny_S_performWithNumber nw_S_performWithNumber ({ frames := 2, cells := 0, slots := 0, locals := 45 }) D (tyI cA) (wSC h cA) ([.ref (h 0), .int a1] : List Value) u F := by
  refine my_in (gw := GW) (cc := nc_S_performWithNumber) (maxL := 6) (ret := (some .int)) (Qc := fun A => QI vwCl D (tyI cA) (wSC h cA) F A) (by decide) rfl (Nat.le_of_ble_eq_true rfl) ?_
  intro p e s m below meth c A H locs ls hx hb hml hr hts hown hlocks hK hN hA hP hD hS hl
  have hown : s.vm.findClass nR_S = some m.cls := hown
  have hl : lv_has ls 6 [(0, .ref (h 0)), (1, .int a1)] := hl
  have J103 : ∀ (y0 : Int32) (y1 : Int32) (u : St) (H : Heap) (locs : List Loc) (ls : Array Slot), va_P D vwCl (wSC h cA u) H → va_D A (wSC h cA u) → va_S A s.heap H locs → lv_has ls 6 [] → f_S_performWithNumber_b103 y0 y1 u = F →
      W p l e (headSpec nw_S_performWithNumber ({ frames := 2, cells := 0, slots := 0, locals := 45 })).room s m ([.ref (h 0), .int a1] : List Value).toArray below meth c H locs 0 0 (MQ below (QI vwCl D (tyI cA) (wSC h cA) F A) ([.ref (h 0), .int a1] : List Value).toArray s 0 0 A) (F0 m 103 ls [.int (zb y0), .int y1, .ref (h 0)]) := by
    intro y0 y1 u H locs ls hP hD hS hl hw
    unfold f_S_performWithNumber_b103 at hw
    obtain ⟨r103, u103, hq103, hw⟩ := bnd_i hw
    refine my_ci (wd := wSC h cA) (r := r103) (u' := u103) (va_runV (As := [.int y1, .int (zb y0)]) (rest := []) ⟨hx, hb, hml, hown, hts⟩ (c_S_giveTruth l D h cA u y1 y0 (r103, u103) hq103 _) ⟨callB_of 2 hts (gw_in gw_269) rfl rfl rfl (hts _ gw_1) (hts _ gw_266) nh_S_giveTruth ⟨Nat.le_of_ble_eq_true rfl, Nat.le_of_ble_eq_true rfl⟩, (hts _ gw_268), (hts _ gw_267)⟩ (my_preV nwOk hP hK hD hN (va_recv hK hP (ci := 0) (q0 := 0) rfl rfl)) rfl rfl hl.1 rfl (lv_room (Nat.le_of_ble_eq_true rfl)) nd_S_performWithNumber_103 ⟨Nat.le_of_ble_eq_true rfl, Nat.le_of_ble_eq_true rfl⟩) hD hS hA (fun H locs hP hD hS => ?_)
    exact my_ri (u' := u103) (v := r103) hx hb hr hlocks hK hP hD hS hw nd_S_performWithNumber_106
  have J127 : ∀ (y0 : Int32) (y1 : Int32) (u : St) (H : Heap) (locs : List Loc) (ls : Array Slot), va_P D vwCl (wSC h cA u) H → va_D A (wSC h cA u) → va_S A s.heap H locs → lv_has ls 6 [] → f_S_performWithNumber_b127 y0 y1 u = F →
      W p l e (headSpec nw_S_performWithNumber ({ frames := 2, cells := 0, slots := 0, locals := 45 })).room s m ([.ref (h 0), .int a1] : List Value).toArray below meth c H locs 0 0 (MQ below (QI vwCl D (tyI cA) (wSC h cA) F A) ([.ref (h 0), .int a1] : List Value).toArray s 0 0 A) (F0 m 127 ls [.int (zb y0), .int y1, .ref (h 0)]) := by
    intro y0 y1 u H locs ls hP hD hS hl hw
    unfold f_S_performWithNumber_b127 at hw
    obtain ⟨r127, u127, hq127, hw⟩ := bnd_i hw
    refine my_ci (wd := wSC h cA) (r := r127) (u' := u127) (va_runV (As := [.int y1, .int (zb y0)]) (rest := []) ⟨hx, hb, hml, hown, hts⟩ (c_S_giveTruth l D h cA u y1 y0 (r127, u127) hq127 _) ⟨callB_of 2 hts (gw_in gw_269) rfl rfl rfl (hts _ gw_1) (hts _ gw_266) nh_S_giveTruth ⟨Nat.le_of_ble_eq_true rfl, Nat.le_of_ble_eq_true rfl⟩, (hts _ gw_268), (hts _ gw_267)⟩ (my_preV nwOk hP hK hD hN (va_recv hK hP (ci := 0) (q0 := 0) rfl rfl)) rfl rfl hl.1 rfl (lv_room (Nat.le_of_ble_eq_true rfl)) nd_S_performWithNumber_127 ⟨Nat.le_of_ble_eq_true rfl, Nat.le_of_ble_eq_true rfl⟩) hD hS hA (fun H locs hP hD hS => ?_)
    exact my_ri (u' := u127) (v := r127) hx hb hr hlocks hK hP hD hS hw nd_S_performWithNumber_130
  unfold f_S_performWithNumber at hw
  refine lv_aload_n hx hb nd_S_performWithNumber_0 rfl (lv_at hl 0 rfl) ?_
  refine lv_iload_n hx hb nd_S_performWithNumber_1 rfl (lv_at hl 1 rfl) ?_
  refine my_ci (wd := wSC h cA) (r := f_S_valueOfS a1 u) (u' := u) (va_runV (As := [.int a1]) (rest := []) ⟨hx, hb, hml, hown, hts⟩ (c_S_valueOfS l D h cA u a1 _ rfl _) ⟨callB_of 1 hts (gw_in gw_213) rfl rfl rfl (hts _ gw_1) (hts _ gw_210) nh_S_valueOfS ⟨Nat.le_of_ble_eq_true rfl, Nat.le_of_ble_eq_true rfl⟩, (hts _ gw_212), (hts _ gw_211)⟩ (my_preV nwOk hP hK hD hN (va_recv hK hP (ci := 0) (q0 := 0) rfl rfl)) rfl rfl hl.1 rfl (lv_room (Nat.le_of_ble_eq_true rfl)) nd_S_performWithNumber_2 ⟨Nat.le_of_ble_eq_true rfl, Nat.le_of_ble_eq_true rfl⟩) hD hS hA (fun H locs hP hD hS => ?_)
  refine lv_istore_n (lv' := [(2, .int (f_S_valueOfS a1 u)), (0, .ref (h 0)), (1, .int a1)]) hx hb nd_S_performWithNumber_5 rfl hl (by decide) rfl (fun ls hl => ?_)
  refine lv_iload_n hx hb nd_S_performWithNumber_6 rfl (lv_at hl 2 rfl) ?_
  refine my_cp (F := f_S_numberT a1) (va_runS (As := [.int a1]) (rest := []) ⟨hx, hb, hml, hown, hts⟩ (c_S_numberT l a1 _ rfl) ⟨callB_of 1 hts (gw_in gw_191) rfl rfl rfl (hts _ gw_1) (hts _ gw_189) nh_S_numberT ⟨Nat.le_of_ble_eq_true rfl, Nat.le_of_ble_eq_true rfl⟩, (hts _ gw_190)⟩ my_preP rfl rfl hl.1 rfl (lv_room (Nat.le_of_ble_eq_true rfl)) nd_S_performWithNumber_7 ⟨Nat.le_of_ble_eq_true rfl, Nat.le_of_ble_eq_true rfl⟩) hP hS (fun H locs hP hS => ?_)
  refine lv_istore_n (lv' := [(3, .int (f_S_numberT a1)), (2, .int (f_S_valueOfS a1 u)), (0, .ref (h 0)), (1, .int a1)]) hx hb nd_S_performWithNumber_10 rfl hl (by decide) rfl (fun ls hl => ?_)
  refine lv_iload_n hx hb nd_S_performWithNumber_11 rfl (lv_at hl 3 rfl) ?_
  refine my_cp (F := f_S_numberI a1) (va_runS (As := [.int a1]) (rest := []) ⟨hx, hb, hml, hown, hts⟩ (c_S_numberI l a1 _ rfl) ⟨callB_of 1 hts (gw_in gw_280) rfl rfl rfl (hts _ gw_1) (hts _ gw_278) nh_S_numberI ⟨Nat.le_of_ble_eq_true rfl, Nat.le_of_ble_eq_true rfl⟩, (hts _ gw_279)⟩ my_preP rfl rfl hl.1 rfl (lv_room (Nat.le_of_ble_eq_true rfl)) nd_S_performWithNumber_12 ⟨Nat.le_of_ble_eq_true rfl, Nat.le_of_ble_eq_true rfl⟩) hP hS (fun H locs hP hS => ?_)
  refine lv_istore (lv' := [(4, .int (f_S_numberI a1)), (3, .int (f_S_numberT a1)), (2, .int (f_S_valueOfS a1 u)), (0, .ref (h 0)), (1, .int a1)]) hx hb nd_S_performWithNumber_15 hl (by decide) rfl (fun ls hl => ?_)
  refine lv_iload_n hx hb nd_S_performWithNumber_17 rfl (lv_at hl 4 rfl) ?_
  refine my_cp (F := f_S_numberU a1) (va_runS (As := [.int a1]) (rest := []) ⟨hx, hb, hml, hown, hts⟩ (c_S_numberU l a1 _ rfl) ⟨callB_of 1 hts (gw_in gw_301) rfl rfl rfl (hts _ gw_1) (hts _ gw_299) nh_S_numberU ⟨Nat.le_of_ble_eq_true rfl, Nat.le_of_ble_eq_true rfl⟩, (hts _ gw_300)⟩ my_preP rfl rfl hl.1 rfl (lv_room (Nat.le_of_ble_eq_true rfl)) nd_S_performWithNumber_18 ⟨Nat.le_of_ble_eq_true rfl, Nat.le_of_ble_eq_true rfl⟩) hP hS (fun H locs hP hS => ?_)
  refine lv_istore (lv' := [(5, .int (f_S_numberU a1)), (4, .int (f_S_numberI a1)), (3, .int (f_S_numberT a1)), (2, .int (f_S_valueOfS a1 u)), (0, .ref (h 0)), (1, .int a1)]) hx hb nd_S_performWithNumber_21 hl (by decide) rfl (fun ls hl => ?_)
  refine lv_iload_n hx hb nd_S_performWithNumber_23 rfl (lv_at hl 5 rfl) ?_
  refine my_cp (F := f_S_orderOf a1) (va_runS (As := [.int a1]) (rest := []) ⟨hx, hb, hml, hown, hts⟩ (c_S_orderOf l a1 _ rfl) ⟨callB_of 1 hts (gw_in gw_182) rfl rfl rfl (hts _ gw_1) (hts _ gw_180) nh_S_orderOf ⟨Nat.le_of_ble_eq_true rfl, Nat.le_of_ble_eq_true rfl⟩, (hts _ gw_181)⟩ my_preP rfl rfl hl.1 rfl (lv_room (Nat.le_of_ble_eq_true rfl)) nd_S_performWithNumber_24 ⟨Nat.le_of_ble_eq_true rfl, Nat.le_of_ble_eq_true rfl⟩) hP hS (fun H locs hP hS => ?_)
  rcases my_em (x := f_S_orderOf a1) (8 : Int32) with h27_8 | h27_8
  · have hw := (if_pos h27_8).symm.trans hw
    refine my_swi (tgt := 68) hx hb nd_S_performWithNumber_27 h27_8 (by decide) (by decide) rfl (by decide) ?_
    refine lv_aload_n hx hb nd_S_performWithNumber_68 rfl (lv_at hl 4 rfl) ?_
    refine lv_iload_n hx hb nd_S_performWithNumber_69 rfl (lv_at hl 2 rfl) ?_
    refine lv_iload_n hx hb nd_S_performWithNumber_70 rfl (lv_at hl 3 rfl) ?_
    refine lv_i2l (v := (f_S_valueOfS a1 u).toInt64) hx hb nd_S_performWithNumber_71 rfl ?_
    refine lv_iload hx hb nd_S_performWithNumber_72 (lv_at hl 1 rfl) ?_
    refine lv_i2l (v := (f_S_numberI a1).toInt64) hx hb nd_S_performWithNumber_74 rfl ?_
    refine lv_ladd hx hb nd_S_performWithNumber_75 ?_
    obtain ⟨r76, u76, hq76, hw⟩ := bnd_i hw
    refine my_ci (wd := wSC h cA) (r := r76) (u' := u76) (va_runV (As := [.int (f_S_numberT a1), .long (((f_S_valueOfS a1 u).toInt64) + ((f_S_numberI a1).toInt64))]) (rest := []) ⟨hx, hb, hml, hown, hts⟩ (c_S_giveIfExact l D h cA u (f_S_numberT a1) (((f_S_valueOfS a1 u).toInt64) + ((f_S_numberI a1).toInt64)) (r76, u76) hq76 _) ⟨callB_of 2 hts (gw_in gw_265) rfl rfl rfl (hts _ gw_1) (hts _ gw_262) nh_S_giveIfExact ⟨Nat.le_of_ble_eq_true rfl, Nat.le_of_ble_eq_true rfl⟩, (hts _ gw_264), (hts _ gw_263)⟩ (my_preV nwOk hP hK hD hN (va_recv hK hP (ci := 0) (q0 := 0) rfl rfl)) rfl rfl hl.1 rfl (lv_room (Nat.le_of_ble_eq_true rfl)) nd_S_performWithNumber_76 ⟨Nat.le_of_ble_eq_true rfl, Nat.le_of_ble_eq_true rfl⟩) hD hS hA (fun H locs hP hD hS => ?_)
    exact my_ri (u' := u76) (v := r76) hx hb hr hlocks hK hP hD hS hw nd_S_performWithNumber_79
  have hw := (if_neg h27_8).symm.trans hw
  rcases my_em (x := f_S_orderOf a1) (9 : Int32) with h27_9 | h27_9
  · have hw := (if_pos h27_9).symm.trans hw
    refine my_swi (tgt := 80) hx hb nd_S_performWithNumber_27 h27_9 (by decide) (by decide) rfl (by decide) ?_
    refine lv_aload_n hx hb nd_S_performWithNumber_80 rfl (lv_at hl 4 rfl) ?_
    refine lv_iload_n hx hb nd_S_performWithNumber_81 rfl (lv_at hl 2 rfl) ?_
    refine lv_iload_n hx hb nd_S_performWithNumber_82 rfl (lv_at hl 3 rfl) ?_
    refine lv_iload hx hb nd_S_performWithNumber_83 (lv_at hl 1 rfl) ?_
    refine lv_iadd hx hb nd_S_performWithNumber_85 ?_
    obtain ⟨r86, u86, hq86, hw⟩ := bnd_i hw
    refine my_ci (wd := wSC h cA) (r := r86) (u' := u86) (va_runV (As := [.int (f_S_numberT a1), .int ((f_S_valueOfS a1 u) + (f_S_numberI a1))]) (rest := []) ⟨hx, hb, hml, hown, hts⟩ (c_S_give l D h cA u (f_S_numberT a1) ((f_S_valueOfS a1 u) + (f_S_numberI a1)) (r86, u86) hq86 _) ⟨callB_of 2 hts (gw_in gw_223) rfl rfl rfl (hts _ gw_1) (hts _ gw_220) nh_S_give ⟨Nat.le_of_ble_eq_true rfl, Nat.le_of_ble_eq_true rfl⟩, (hts _ gw_222), (hts _ gw_221)⟩ (my_preV nwOk hP hK hD hN (va_recv hK hP (ci := 0) (q0 := 0) rfl rfl)) rfl rfl hl.1 rfl (lv_room (Nat.le_of_ble_eq_true rfl)) nd_S_performWithNumber_86 ⟨Nat.le_of_ble_eq_true rfl, Nat.le_of_ble_eq_true rfl⟩) hD hS hA (fun H locs hP hD hS => ?_)
    exact my_ri (u' := u86) (v := r86) hx hb hr hlocks hK hP hD hS hw nd_S_performWithNumber_89
  have hw := (if_neg h27_9).symm.trans hw
  rcases my_em (x := f_S_orderOf a1) (10 : Int32) with h27_10 | h27_10
  · have hw := (if_pos h27_10).symm.trans hw
    refine my_swi (tgt := 90) hx hb nd_S_performWithNumber_27 h27_10 (by decide) (by decide) rfl (by decide) ?_
    refine lv_aload_n hx hb nd_S_performWithNumber_90 rfl (lv_at hl 4 rfl) ?_
    refine lv_iload_n hx hb nd_S_performWithNumber_91 rfl (lv_at hl 2 rfl) ?_
    refine lv_iload_n hx hb nd_S_performWithNumber_92 rfl (lv_at hl 3 rfl) ?_
    refine lv_iload hx hb nd_S_performWithNumber_93 (lv_at hl 1 rfl) ?_
    refine lv_icmp_ge (tgt := 102) hx hb nd_S_performWithNumber_95 (by decide) (fun h95 => ?_) (fun h95 => ?_)
    · have hw := (if_pos h95).symm.trans hw
      refine lv_iconst (v := (0 : Int32)) hx hb nd_S_performWithNumber_102 (by decide) ?_
      exact J103 (0 : Int32) (f_S_numberT a1) u H locs ls hP hD hS (lv_sub hl [] rfl) hw
    have hw := (if_neg h95).symm.trans hw
    refine lv_iconst (v := (1 : Int32)) hx hb nd_S_performWithNumber_98 (by decide) ?_
    refine lv_goto (tgt := 103) hx hb nd_S_performWithNumber_99 (by decide) ?_
    exact J103 (1 : Int32) (f_S_numberT a1) u H locs ls hP hD hS (lv_sub hl [] rfl) hw
  have hw := (if_neg h27_10).symm.trans hw
  rcases my_em (x := f_S_orderOf a1) (11 : Int32) with h27_11 | h27_11
  · have hw := (if_pos h27_11).symm.trans hw
    refine my_swi (tgt := 107) hx hb nd_S_performWithNumber_27 h27_11 (by decide) (by decide) rfl (by decide) ?_
    refine lv_aload_n hx hb nd_S_performWithNumber_107 rfl (lv_at hl 4 rfl) ?_
    refine lv_iload_n hx hb nd_S_performWithNumber_108 rfl (lv_at hl 2 rfl) ?_
    refine lv_iload_n hx hb nd_S_performWithNumber_109 rfl (lv_at hl 3 rfl) ?_
    refine my_cl (F := f_S_withoutSign (f_S_valueOfS a1 u)) (va_runS (As := [.int (f_S_valueOfS a1 u)]) (rest := [.int (f_S_numberT a1), .ref (h 0)]) ⟨hx, hb, hml, hown, hts⟩ (c_S_withoutSign l (f_S_valueOfS a1 u) _ rfl) ⟨callB_of 1 hts (gw_in gw_246) rfl rfl rfl (hts _ gw_1) (hts _ gw_244) nh_S_withoutSign ⟨Nat.le_of_ble_eq_true rfl, Nat.le_of_ble_eq_true rfl⟩, (hts _ gw_245)⟩ my_preP rfl rfl hl.1 rfl (lv_room (Nat.le_of_ble_eq_true rfl)) nd_S_performWithNumber_110 ⟨Nat.le_of_ble_eq_true rfl, Nat.le_of_ble_eq_true rfl⟩) hP hS (fun H locs hP hS => ?_)
    refine lv_iload hx hb nd_S_performWithNumber_113 (lv_at hl 1 rfl) ?_
    refine my_cl (F := f_S_withoutSign (f_S_numberI a1)) (va_runS (As := [.int (f_S_numberI a1)]) (rest := [.long (f_S_withoutSign (f_S_valueOfS a1 u)), .int (f_S_numberT a1), .ref (h 0)]) ⟨hx, hb, hml, hown, hts⟩ (c_S_withoutSign l (f_S_numberI a1) _ rfl) ⟨callB_of 1 hts (gw_in gw_246) rfl rfl rfl (hts _ gw_1) (hts _ gw_244) nh_S_withoutSign ⟨Nat.le_of_ble_eq_true rfl, Nat.le_of_ble_eq_true rfl⟩, (hts _ gw_245)⟩ my_preP rfl rfl hl.1 rfl (lv_room (Nat.le_of_ble_eq_true rfl)) nd_S_performWithNumber_115 ⟨Nat.le_of_ble_eq_true rfl, Nat.le_of_ble_eq_true rfl⟩) hP hS (fun H locs hP hS => ?_)
    refine W.lcmp hx hb nd_S_performWithNumber_118 ?_
    refine lv_if_ge (tgt := 126) hx hb nd_S_performWithNumber_119 (by decide) (fun h119 => ?_) (fun h119 => ?_)
    · have hw := (if_pos h119).symm.trans hw
      refine lv_iconst (v := (0 : Int32)) hx hb nd_S_performWithNumber_126 (by decide) ?_
      exact J127 (0 : Int32) (f_S_numberT a1) u H locs ls hP hD hS (lv_sub hl [] rfl) hw
    have hw := (if_neg h119).symm.trans hw
    refine lv_iconst (v := (1 : Int32)) hx hb nd_S_performWithNumber_122 (by decide) ?_
    refine lv_goto (tgt := 127) hx hb nd_S_performWithNumber_123 (by decide) ?_
    exact J127 (1 : Int32) (f_S_numberT a1) u H locs ls hP hD hS (lv_sub hl [] rfl) hw
  have hw := (if_neg h27_11).symm.trans hw
  rcases my_em (x := f_S_orderOf a1) (12 : Int32) with h27_12 | h27_12
  · have hw := (if_pos h27_12).symm.trans hw
    refine my_swi (tgt := 131) hx hb nd_S_performWithNumber_27 h27_12 (by decide) (by decide) rfl (by decide) ?_
    refine lv_aload_n hx hb nd_S_performWithNumber_131 rfl (lv_at hl 4 rfl) ?_
    refine lv_iload_n hx hb nd_S_performWithNumber_132 rfl (lv_at hl 2 rfl) ?_
    refine lv_iload_n hx hb nd_S_performWithNumber_133 rfl (lv_at hl 3 rfl) ?_
    refine lv_iload hx hb nd_S_performWithNumber_134 (lv_at hl 0 rfl) ?_
    refine lv_iand hx hb nd_S_performWithNumber_136 ?_
    obtain ⟨r137, u137, hq137, hw⟩ := bnd_i hw
    refine my_ci (wd := wSC h cA) (r := r137) (u' := u137) (va_runV (As := [.int (f_S_numberT a1), .int ((f_S_valueOfS a1 u) &&& (f_S_numberU a1))]) (rest := []) ⟨hx, hb, hml, hown, hts⟩ (c_S_give l D h cA u (f_S_numberT a1) ((f_S_valueOfS a1 u) &&& (f_S_numberU a1)) (r137, u137) hq137 _) ⟨callB_of 2 hts (gw_in gw_223) rfl rfl rfl (hts _ gw_1) (hts _ gw_220) nh_S_give ⟨Nat.le_of_ble_eq_true rfl, Nat.le_of_ble_eq_true rfl⟩, (hts _ gw_222), (hts _ gw_221)⟩ (my_preV nwOk hP hK hD hN (va_recv hK hP (ci := 0) (q0 := 0) rfl rfl)) rfl rfl hl.1 rfl (lv_room (Nat.le_of_ble_eq_true rfl)) nd_S_performWithNumber_137 ⟨Nat.le_of_ble_eq_true rfl, Nat.le_of_ble_eq_true rfl⟩) hD hS hA (fun H locs hP hD hS => ?_)
    exact my_ri (u' := u137) (v := r137) hx hb hr hlocks hK hP hD hS hw nd_S_performWithNumber_140
  have hw := (if_neg h27_12).symm.trans hw
  rcases my_em (x := f_S_orderOf a1) (13 : Int32) with h27_13 | h27_13
  · have hw := (if_pos h27_13).symm.trans hw
    refine my_swi (tgt := 141) hx hb nd_S_performWithNumber_27 h27_13 (by decide) (by decide) rfl (by decide) ?_
    refine lv_aload_n hx hb nd_S_performWithNumber_141 rfl (lv_at hl 4 rfl) ?_
    refine lv_iload_n hx hb nd_S_performWithNumber_142 rfl (lv_at hl 2 rfl) ?_
    refine lv_iload_n hx hb nd_S_performWithNumber_143 rfl (lv_at hl 3 rfl) ?_
    refine lv_iload hx hb nd_S_performWithNumber_144 (lv_at hl 0 rfl) ?_
    refine lv_ior hx hb nd_S_performWithNumber_146 ?_
    obtain ⟨r147, u147, hq147, hw⟩ := bnd_i hw
    refine my_ci (wd := wSC h cA) (r := r147) (u' := u147) (va_runV (As := [.int (f_S_numberT a1), .int ((f_S_valueOfS a1 u) ||| (f_S_numberU a1))]) (rest := []) ⟨hx, hb, hml, hown, hts⟩ (c_S_give l D h cA u (f_S_numberT a1) ((f_S_valueOfS a1 u) ||| (f_S_numberU a1)) (r147, u147) hq147 _) ⟨callB_of 2 hts (gw_in gw_223) rfl rfl rfl (hts _ gw_1) (hts _ gw_220) nh_S_give ⟨Nat.le_of_ble_eq_true rfl, Nat.le_of_ble_eq_true rfl⟩, (hts _ gw_222), (hts _ gw_221)⟩ (my_preV nwOk hP hK hD hN (va_recv hK hP (ci := 0) (q0 := 0) rfl rfl)) rfl rfl hl.1 rfl (lv_room (Nat.le_of_ble_eq_true rfl)) nd_S_performWithNumber_147 ⟨Nat.le_of_ble_eq_true rfl, Nat.le_of_ble_eq_true rfl⟩) hD hS hA (fun H locs hP hD hS => ?_)
    exact my_ri (u' := u147) (v := r147) hx hb hr hlocks hK hP hD hS hw nd_S_performWithNumber_150
  have hw := (if_neg h27_13).symm.trans hw
  rcases my_em (x := f_S_orderOf a1) (14 : Int32) with h27_14 | h27_14
  · have hw := (if_pos h27_14).symm.trans hw
    refine my_swi (tgt := 151) hx hb nd_S_performWithNumber_27 h27_14 (by decide) (by decide) rfl (by decide) ?_
    refine lv_aload_n hx hb nd_S_performWithNumber_151 rfl (lv_at hl 4 rfl) ?_
    refine lv_iload_n hx hb nd_S_performWithNumber_152 rfl (lv_at hl 2 rfl) ?_
    refine lv_iload_n hx hb nd_S_performWithNumber_153 rfl (lv_at hl 3 rfl) ?_
    refine lv_iload hx hb nd_S_performWithNumber_154 (lv_at hl 0 rfl) ?_
    refine lv_ixor hx hb nd_S_performWithNumber_156 ?_
    obtain ⟨r157, u157, hq157, hw⟩ := bnd_i hw
    refine my_ci (wd := wSC h cA) (r := r157) (u' := u157) (va_runV (As := [.int (f_S_numberT a1), .int ((f_S_valueOfS a1 u) ^^^ (f_S_numberU a1))]) (rest := []) ⟨hx, hb, hml, hown, hts⟩ (c_S_give l D h cA u (f_S_numberT a1) ((f_S_valueOfS a1 u) ^^^ (f_S_numberU a1)) (r157, u157) hq157 _) ⟨callB_of 2 hts (gw_in gw_223) rfl rfl rfl (hts _ gw_1) (hts _ gw_220) nh_S_give ⟨Nat.le_of_ble_eq_true rfl, Nat.le_of_ble_eq_true rfl⟩, (hts _ gw_222), (hts _ gw_221)⟩ (my_preV nwOk hP hK hD hN (va_recv hK hP (ci := 0) (q0 := 0) rfl rfl)) rfl rfl hl.1 rfl (lv_room (Nat.le_of_ble_eq_true rfl)) nd_S_performWithNumber_157 ⟨Nat.le_of_ble_eq_true rfl, Nat.le_of_ble_eq_true rfl⟩) hD hS hA (fun H locs hP hD hS => ?_)
    exact my_ri (u' := u157) (v := r157) hx hb hr hlocks hK hP hD hS hw nd_S_performWithNumber_160
  have hw := (if_neg h27_14).symm.trans hw
  refine my_swd (tgt := 161) hx hb nd_S_performWithNumber_27 (my_nec h27_8 (my_nec h27_9 (my_nec h27_10 (my_nec h27_11 (my_nec h27_12 (my_nec h27_13 (my_nec h27_14 my_nen))))))) (by decide +kernel) (by decide) ?_
  refine lv_aload_n hx hb nd_S_performWithNumber_161 rfl (lv_at hl 4 rfl) ?_
  refine lv_iload_n hx hb nd_S_performWithNumber_162 rfl (lv_at hl 2 rfl) ?_
  refine lv_iload hx hb nd_S_performWithNumber_163 (lv_at hl 0 rfl) ?_
  refine lv_bipush (v := (16 : Int32)) hx hb nd_S_performWithNumber_165 (by decide) ?_
  refine lv_ishl hx hb nd_S_performWithNumber_167 ?_
  obtain ⟨r168, u168, hq168, hw⟩ := bnd_i hw
  refine my_ci (wd := wSC h cA) (r := r168) (u' := u168) (va_runV (As := [.int (f_S_numberT a1), .int ((f_S_numberU a1) <<< ((16 : Int32) &&& 31))]) (rest := []) ⟨hx, hb, hml, hown, hts⟩ (c_S_give l D h cA u (f_S_numberT a1) ((f_S_numberU a1) <<< ((16 : Int32) &&& 31)) (r168, u168) hq168 _) ⟨callB_of 2 hts (gw_in gw_223) rfl rfl rfl (hts _ gw_1) (hts _ gw_220) nh_S_give ⟨Nat.le_of_ble_eq_true rfl, Nat.le_of_ble_eq_true rfl⟩, (hts _ gw_222), (hts _ gw_221)⟩ (my_preV nwOk hP hK hD hN (va_recv hK hP (ci := 0) (q0 := 0) rfl rfl)) rfl rfl hl.1 rfl (lv_room (Nat.le_of_ble_eq_true rfl)) nd_S_performWithNumber_168 ⟨Nat.le_of_ble_eq_true rfl, Nat.le_of_ble_eq_true rfl⟩) hD hS hA (fun H locs hP hD hS => ?_)
  exact my_ri (u' := u168) (v := r168) hx hb hr hlocks hK hP hD hS hw nd_S_performWithNumber_171
set_option maxHeartbeats 4000000 in
set_option maxRecDepth 100000 in
theorem c_S_performControl (l : Launch) (D : va_G) (h : Nat → Nat) (cA : Nat → ClassId) (u : St) (a1 : Int32) (F : Int32 × St) (hw : f_S_performControl a1 u = F) : MI nwS vwCl l ny_S_performControl nw_S_performControl ({ frames := 2, cells := 0, slots := 0, locals := 44 }) D (tyI cA) (wSC h cA) ([.ref (h 0), .int a1] : List Value) u F := by
  refine my_in (gw := GW) (cc := nc_S_performControl) (maxL := 4) (ret := (some .int)) (Qc := fun A => QI vwCl D (tyI cA) (wSC h cA) F A) (by decide) rfl (Nat.le_of_ble_eq_true rfl) ?_
  intro p e s m below meth c A H locs ls hx hb hml hr hts hown hlocks hK hN hA hP hD hS hl
  have hown : s.vm.findClass nR_S = some m.cls := hown
  have hl : lv_has ls 4 [(0, .ref (h 0)), (1, .int a1)] := hl
  have J42 : ∀ (x1 : Int32) (x2 : Int32) (x3 : Int32) (u : St) (H : Heap) (locs : List Loc) (ls : Array Slot), va_P D vwCl (wSC h cA u) H → va_D A (wSC h cA u) → va_S A s.heap H locs → lv_has ls 4 [(0, .ref (h 0)), (1, .int x1), (2, .int x2), (3, .int x3)] → f_S_performControl_b42 x1 x2 x3 u = F →
      W p l e (headSpec nw_S_performControl ({ frames := 2, cells := 0, slots := 0, locals := 44 })).room s m ([.ref (h 0), .int a1] : List Value).toArray below meth c H locs 0 0 (MQ below (QI vwCl D (tyI cA) (wSC h cA) F A) ([.ref (h 0), .int a1] : List Value).toArray s 0 0 A) (F0 m 42 ls []) := by
    intro x1 x2 x3 u H locs ls hP hD hS hl hw
    unfold f_S_performControl_b42 at hw
    refine lv_aload_n hx hb nd_S_performControl_42 rfl (lv_at hl 0 rfl) ?_
    refine va_get (D := D) (ci := 0) (v := .ref (h 5)) (C := nR_S) (T := nT_S) (N := 9) hx hb hts nu_S hown hK hP 0 rfl rfl 2 (by decide) (hts _ gw_65) (fun _ h9 => h9) rfl nd_S_performControl_43 ?_
    refine my_ci (wd := wSC h cA) (r := zb (f_C_isUser u)) (u' := u) (va_runVN (As := []) (rest := []) ⟨hx, hb, hml, hown, hts⟩ (c_C_isUser l D h cA u _ rfl _) ⟨va_cnB 0 hts (gw_in gw_159) rfl rfl rfl (hN _ nm_28) (hts _ gw_4) nh_C_isUser ⟨Nat.le_of_ble_eq_true rfl, Nat.le_of_ble_eq_true rfl⟩, (hts _ gw_158), (hts _ gw_157)⟩ (my_preV nwOk hP hK hD hN (va_recv hK hP (ci := 3) (q0 := 5) rfl rfl)) rfl rfl hl.1 rfl (lv_room (Nat.le_of_ble_eq_true rfl)) nd_S_performControl_46 ⟨Nat.le_of_ble_eq_true rfl, Nat.le_of_ble_eq_true rfl⟩) hD hS hA (fun H locs hP hD hS => ?_)
    refine lv_if_eq (tgt := 55) hx hb nd_S_performControl_49 (by decide) (fun h49 => ?_) (fun h49 => ?_)
    · have hw := (if_pos h49).symm.trans hw
      refine lv_iload_n hx hb nd_S_performControl_55 rfl (lv_at hl 2 rfl) ?_
      refine lv_if_ne (tgt := 79) hx hb nd_S_performControl_56 (by decide) (fun h56 => ?_) (fun h56 => ?_)
      · have hw := (if_neg h56).symm.trans hw
        refine lv_iload_n hx hb nd_S_performControl_79 rfl (lv_at hl 3 rfl) ?_
        refine lv_if_eq (tgt := 93) hx hb nd_S_performControl_80 (by decide) (fun h80 => ?_) (fun h80 => ?_)
        · have hw := (if_pos h80).symm.trans hw
          refine lv_aload_n hx hb nd_S_performControl_93 rfl (lv_at hl 0 rfl) ?_
          refine va_get (D := D) (ci := 0) (v := .ref (h 5)) (C := nR_S) (T := nT_S) (N := 9) hx hb hts nu_S hown hK hP 0 rfl rfl 2 (by decide) (hts _ gw_65) (fun _ h9 => h9) rfl nd_S_performControl_94 ?_
          refine lv_iload_n hx hb nd_S_performControl_97 rfl (lv_at hl 1 rfl) ?_
          refine my_cp (F := f_S_numberD x1) (va_runS (As := [.int x1]) (rest := [.ref (h 5)]) ⟨hx, hb, hml, hown, hts⟩ (c_S_numberD l x1 _ rfl) ⟨callB_of 1 hts (gw_in gw_209) rfl rfl rfl (hts _ gw_1) (hts _ gw_207) nh_S_numberD ⟨Nat.le_of_ble_eq_true rfl, Nat.le_of_ble_eq_true rfl⟩, (hts _ gw_208)⟩ my_preP rfl rfl hl.1 rfl (lv_room (Nat.le_of_ble_eq_true rfl)) nd_S_performControl_98 ⟨Nat.le_of_ble_eq_true rfl, Nat.le_of_ble_eq_true rfl⟩) hP hS (fun H locs hP hS => ?_)
          refine lv_aload_n hx hb nd_S_performControl_101 rfl (lv_at hl 0 rfl) ?_
          refine lv_iload_n hx hb nd_S_performControl_102 rfl (lv_at hl 1 rfl) ?_
          refine my_ci (wd := wSC h cA) (r := f_S_valueOfT x1 u) (u' := u) (va_runV (As := [.int x1]) (rest := [.int (f_S_numberD x1), .ref (h 5)]) ⟨hx, hb, hml, hown, hts⟩ (c_S_valueOfT l D h cA u x1 _ rfl _) ⟨callB_of 1 hts (gw_in gw_203) rfl rfl rfl (hts _ gw_1) (hts _ gw_200) nh_S_valueOfT ⟨Nat.le_of_ble_eq_true rfl, Nat.le_of_ble_eq_true rfl⟩, (hts _ gw_202), (hts _ gw_201)⟩ (my_preV nwOk hP hK hD hN (va_recv hK hP (ci := 0) (q0 := 0) rfl rfl)) rfl rfl hl.1 rfl (lv_room (Nat.le_of_ble_eq_true rfl)) nd_S_performControl_103 ⟨Nat.le_of_ble_eq_true rfl, Nat.le_of_ble_eq_true rfl⟩) hD hS hA (fun H locs hP hD hS => ?_)
          obtain ⟨u106, hq106, hw⟩ := bnv_i hw
          refine my_cv (wd := wSC h cA) (F := u106) (va_runVN (As := [.int (f_S_numberD x1), .int (f_S_valueOfT x1 u)]) (rest := []) ⟨hx, hb, hml, hown, hts⟩ (c_C_change l D h cA u (f_S_numberD x1) (f_S_valueOfT x1 u) u106 hq106 _) ⟨va_cnB 2 hts (gw_in gw_113) rfl rfl rfl (hN _ nm_18) (hts _ gw_4) nh_C_change ⟨Nat.le_of_ble_eq_true rfl, Nat.le_of_ble_eq_true rfl⟩, (hts _ gw_112), (hts _ gw_111)⟩ (my_preV nwOk hP hK hD hN (va_recv hK hP (ci := 3) (q0 := 5) rfl rfl)) rfl rfl hl.1 rfl (lv_room (Nat.le_of_ble_eq_true rfl)) nd_S_performControl_106 ⟨Nat.le_of_ble_eq_true rfl, Nat.le_of_ble_eq_true rfl⟩) hD hS hA (fun H locs hP hD hS => ?_)
          refine lv_iconst (v := (-1 : Int32)) hx hb nd_S_performControl_109 (by decide) ?_
          exact my_ri (u' := u106) (v := (-1 : Int32)) hx hb hr hlocks hK hP hD hS hw nd_S_performControl_110
        have hw := (if_neg h80).symm.trans hw
        refine lv_aload_n hx hb nd_S_performControl_83 rfl (lv_at hl 0 rfl) ?_
        refine va_get (D := D) (ci := 0) (v := .ref (h 5)) (C := nR_S) (T := nT_S) (N := 9) hx hb hts nu_S hown hK hP 0 rfl rfl 2 (by decide) (hts _ gw_65) (fun _ h9 => h9) rfl nd_S_performControl_84 ?_
        obtain ⟨u87, hq87, hw⟩ := bnv_i hw
        refine my_cv (wd := wSC h cA) (F := u87) (va_runVN (As := []) (rest := []) ⟨hx, hb, hml, hown, hts⟩ (c_C_leave l D h cA u u87 hq87 _) ⟨va_cnB 0 hts (gw_in gw_316) rfl rfl rfl (hN _ nm_30) (hts _ gw_4) nh_C_leave ⟨Nat.le_of_ble_eq_true rfl, Nat.le_of_ble_eq_true rfl⟩, (hts _ gw_315), (hts _ gw_314)⟩ (my_preV nwOk hP hK hD hN (va_recv hK hP (ci := 3) (q0 := 5) rfl rfl)) rfl rfl hl.1 rfl (lv_room (Nat.le_of_ble_eq_true rfl)) nd_S_performControl_87 ⟨Nat.le_of_ble_eq_true rfl, Nat.le_of_ble_eq_true rfl⟩) hD hS hA (fun H locs hP hD hS => ?_)
        refine lv_goto (tgt := 109) hx hb nd_S_performControl_90 (by decide) ?_
        refine lv_iconst (v := (-1 : Int32)) hx hb nd_S_performControl_109 (by decide) ?_
        exact my_ri (u' := u87) (v := (-1 : Int32)) hx hb hr hlocks hK hP hD hS hw nd_S_performControl_110
      have hw := (if_pos h56).symm.trans hw
      refine lv_aload_n hx hb nd_S_performControl_59 rfl (lv_at hl 0 rfl) ?_
      refine lv_iload_n hx hb nd_S_performControl_60 rfl (lv_at hl 1 rfl) ?_
      refine my_cp (F := f_S_numberT x1) (va_runS (As := [.int x1]) (rest := [.ref (h 0)]) ⟨hx, hb, hml, hown, hts⟩ (c_S_numberT l x1 _ rfl) ⟨callB_of 1 hts (gw_in gw_191) rfl rfl rfl (hts _ gw_1) (hts _ gw_189) nh_S_numberT ⟨Nat.le_of_ble_eq_true rfl, Nat.le_of_ble_eq_true rfl⟩, (hts _ gw_190)⟩ my_preP rfl rfl hl.1 rfl (lv_room (Nat.le_of_ble_eq_true rfl)) nd_S_performControl_61 ⟨Nat.le_of_ble_eq_true rfl, Nat.le_of_ble_eq_true rfl⟩) hP hS (fun H locs hP hS => ?_)
      refine lv_aload_n hx hb nd_S_performControl_64 rfl (lv_at hl 0 rfl) ?_
      refine va_get (D := D) (ci := 0) (v := .ref (h 5)) (C := nR_S) (T := nT_S) (N := 9) hx hb hts nu_S hown hK hP 0 rfl rfl 2 (by decide) (hts _ gw_65) (fun _ h9 => h9) rfl nd_S_performControl_65 ?_
      refine lv_iload_n hx hb nd_S_performControl_68 rfl (lv_at hl 1 rfl) ?_
      refine my_cp (F := f_S_numberD x1) (va_runS (As := [.int x1]) (rest := [.ref (h 5), .int (f_S_numberT x1), .ref (h 0)]) ⟨hx, hb, hml, hown, hts⟩ (c_S_numberD l x1 _ rfl) ⟨callB_of 1 hts (gw_in gw_209) rfl rfl rfl (hts _ gw_1) (hts _ gw_207) nh_S_numberD ⟨Nat.le_of_ble_eq_true rfl, Nat.le_of_ble_eq_true rfl⟩, (hts _ gw_208)⟩ my_preP rfl rfl hl.1 rfl (lv_room (Nat.le_of_ble_eq_true rfl)) nd_S_performControl_69 ⟨Nat.le_of_ble_eq_true rfl, Nat.le_of_ble_eq_true rfl⟩) hP hS (fun H locs hP hS => ?_)
      refine my_ci (wd := wSC h cA) (r := f_C_valueOf (f_S_numberD x1) u) (u' := u) (va_runVN (As := [.int (f_S_numberD x1)]) (rest := [.int (f_S_numberT x1), .ref (h 0)]) ⟨hx, hb, hml, hown, hts⟩ (c_C_valueOf l D h cA u (f_S_numberD x1) _ rfl _) ⟨va_cnB 1 hts (gw_in gw_309) rfl rfl rfl (hN _ nm_29) (hts _ gw_4) nh_C_valueOf ⟨Nat.le_of_ble_eq_true rfl, Nat.le_of_ble_eq_true rfl⟩, (hts _ gw_308), (hts _ gw_307)⟩ (my_preV nwOk hP hK hD hN (va_recv hK hP (ci := 3) (q0 := 5) rfl rfl)) rfl rfl hl.1 rfl (lv_room (Nat.le_of_ble_eq_true rfl)) nd_S_performControl_72 ⟨Nat.le_of_ble_eq_true rfl, Nat.le_of_ble_eq_true rfl⟩) hD hS hA (fun H locs hP hD hS => ?_)
      obtain ⟨r75, u75, hq75, hw⟩ := bnd_i hw
      refine my_ci (wd := wSC h cA) (r := r75) (u' := u75) (va_runV (As := [.int (f_S_numberT x1), .int (f_C_valueOf (f_S_numberD x1) u)]) (rest := []) ⟨hx, hb, hml, hown, hts⟩ (c_S_giveLate l D h cA u (f_S_numberT x1) (f_C_valueOf (f_S_numberD x1) u) (r75, u75) hq75 _) ⟨callB_of 2 hts (gw_in gw_313) rfl rfl rfl (hts _ gw_1) (hts _ gw_310) nh_S_giveLate ⟨Nat.le_of_ble_eq_true rfl, Nat.le_of_ble_eq_true rfl⟩, (hts _ gw_312), (hts _ gw_311)⟩ (my_preV nwOk hP hK hD hN (va_recv hK hP (ci := 0) (q0 := 0) rfl rfl)) rfl rfl hl.1 rfl (lv_room (Nat.le_of_ble_eq_true rfl)) nd_S_performControl_75 ⟨Nat.le_of_ble_eq_true rfl, Nat.le_of_ble_eq_true rfl⟩) hD hS hA (fun H locs hP hD hS => ?_)
      exact my_ri (u' := u75) (v := r75) hx hb hr hlocks hK hP hD hS hw nd_S_performControl_78
    have hw := (if_neg h49).symm.trans hw
    refine lv_bipush (v := (11 : Int32)) hx hb nd_S_performControl_52 (by decide) ?_
    exact my_ri (u' := u) (v := (11 : Int32)) hx hb hr hlocks hK hP hD hS hw nd_S_performControl_54
  have J25 : ∀ (x1 : Int32) (x2 : Int32) (y0 : Int32) (u : St) (H : Heap) (locs : List Loc) (ls : Array Slot), va_P D vwCl (wSC h cA u) H → va_D A (wSC h cA u) → va_S A s.heap H locs → lv_has ls 4 [(0, .ref (h 0)), (1, .int x1), (2, .int x2)] → f_S_performControl_b25 x1 x2 y0 u = F →
      W p l e (headSpec nw_S_performControl ({ frames := 2, cells := 0, slots := 0, locals := 44 })).room s m ([.ref (h 0), .int a1] : List Value).toArray below meth c H locs 0 0 (MQ below (QI vwCl D (tyI cA) (wSC h cA) F A) ([.ref (h 0), .int a1] : List Value).toArray s 0 0 A) (F0 m 25 ls [.int y0]) := by
    intro x1 x2 y0 u H locs ls hP hD hS hl hw
    unfold f_S_performControl_b25 at hw
    refine lv_istore_n (lv' := [(3, .int y0), (0, .ref (h 0)), (1, .int x1), (2, .int x2)]) hx hb nd_S_performControl_25 rfl hl (by decide) rfl (fun ls hl => ?_)
    refine lv_iload_n hx hb nd_S_performControl_26 rfl (lv_at hl 3 rfl) ?_
    refine lv_if_eq (tgt := 42) hx hb nd_S_performControl_27 (by decide) (fun h27 => ?_) (fun h27 => ?_)
    · have hw := (if_pos h27).symm.trans hw
      exact J42 x1 x2 y0 u H locs ls hP hD hS (lv_sub hl [1, 2, 3, 0] rfl) hw
    have hw := (if_neg h27).symm.trans hw
    refine lv_iload_n hx hb nd_S_performControl_30 rfl (lv_at hl 3 rfl) ?_
    refine lv_iconst (v := (4 : Int32)) hx hb nd_S_performControl_31 (by decide) ?_
    refine lv_icmp_eq (tgt := 42) hx hb nd_S_performControl_32 (by decide) (fun h32 => ?_) (fun h32 => ?_)
    · have hw := (if_pos h32).symm.trans hw
      exact J42 x1 x2 y0 u H locs ls hP hD hS (lv_sub hl [1, 2, 3, 0] rfl) hw
    have hw := (if_neg h32).symm.trans hw
    refine lv_iload_n hx hb nd_S_performControl_35 rfl (lv_at hl 0 rfl) ?_
    refine lv_if_ne (tgt := 42) hx hb nd_S_performControl_36 (by decide) (fun h36 => ?_) (fun h36 => ?_)
    · have hw := (if_neg h36).symm.trans hw
      exact J42 x1 x2 y0 u H locs ls hP hD hS (lv_sub hl [1, 2, 3, 0] rfl) hw
    have hw := (if_pos h36).symm.trans hw
    refine lv_bipush (v := (10 : Int32)) hx hb nd_S_performControl_39 (by decide) ?_
    exact my_ri (u' := u) (v := (10 : Int32)) hx hb hr hlocks hK hP hD hS hw nd_S_performControl_41
  have J24 : ∀ (x1 : Int32) (x2 : Int32) (u : St) (H : Heap) (locs : List Loc) (ls : Array Slot), va_P D vwCl (wSC h cA u) H → va_D A (wSC h cA u) → va_S A s.heap H locs → lv_has ls 4 [(0, .ref (h 0)), (1, .int x1), (2, .int x2)] → f_S_performControl_b24 x1 x2 u = F →
      W p l e (headSpec nw_S_performControl ({ frames := 2, cells := 0, slots := 0, locals := 44 })).room s m ([.ref (h 0), .int a1] : List Value).toArray below meth c H locs 0 0 (MQ below (QI vwCl D (tyI cA) (wSC h cA) F A) ([.ref (h 0), .int a1] : List Value).toArray s 0 0 A) (F0 m 24 ls []) := by
    intro x1 x2 u H locs ls hP hD hS hl hw
    unfold f_S_performControl_b24 at hw
    refine lv_iconst (v := (0 : Int32)) hx hb nd_S_performControl_24 (by decide) ?_
    exact J25 x1 x2 (0 : Int32) u H locs ls hP hD hS (lv_sub hl [0, 1, 2] rfl) hw
  unfold f_S_performControl at hw
  refine lv_iload_n hx hb nd_S_performControl_0 rfl (lv_at hl 1 rfl) ?_
  refine my_cp (F := f_S_numberS a1) (va_runS (As := [.int a1]) (rest := []) ⟨hx, hb, hml, hown, hts⟩ (c_S_numberS l a1 _ rfl) ⟨callB_of 1 hts (gw_in gw_216) rfl rfl rfl (hts _ gw_1) (hts _ gw_214) nh_S_numberS ⟨Nat.le_of_ble_eq_true rfl, Nat.le_of_ble_eq_true rfl⟩, (hts _ gw_215)⟩ my_preP rfl rfl hl.1 rfl (lv_room (Nat.le_of_ble_eq_true rfl)) nd_S_performControl_1 ⟨Nat.le_of_ble_eq_true rfl, Nat.le_of_ble_eq_true rfl⟩) hP hS (fun H locs hP hS => ?_)
  refine lv_istore_n (lv' := [(2, .int (f_S_numberS a1)), (0, .ref (h 0)), (1, .int a1)]) hx hb nd_S_performControl_4 rfl hl (by decide) rfl (fun ls hl => ?_)
  refine lv_iload_n hx hb nd_S_performControl_5 rfl (lv_at hl 0 rfl) ?_
  refine lv_bipush (v := (16 : Int32)) hx hb nd_S_performControl_6 (by decide) ?_
  refine lv_icmp_ne (tgt := 24) hx hb nd_S_performControl_8 (by decide) (fun h8 => ?_) (fun h8 => ?_)
  · have hw := (if_neg h8).symm.trans hw
    exact J24 a1 (f_S_numberS a1) u H locs ls hP hD hS (lv_sub hl [1, 2, 0] rfl) hw
  have hw := (if_pos h8).symm.trans hw
  refine lv_iload_n hx hb nd_S_performControl_11 rfl (lv_at hl 2 rfl) ?_
  refine my_cp (F := f_S_numberK a1) (va_runS (As := [.int a1]) (rest := []) ⟨hx, hb, hml, hown, hts⟩ (c_S_numberK l a1 _ rfl) ⟨callB_of 1 hts (gw_in gw_185) rfl rfl rfl (hts _ gw_1) (hts _ gw_183) nh_S_numberK ⟨Nat.le_of_ble_eq_true rfl, Nat.le_of_ble_eq_true rfl⟩, (hts _ gw_184)⟩ my_preP rfl rfl hl.1 rfl (lv_room (Nat.le_of_ble_eq_true rfl)) nd_S_performControl_12 ⟨Nat.le_of_ble_eq_true rfl, Nat.le_of_ble_eq_true rfl⟩) hP hS (fun H locs hP hS => ?_)
  refine lv_bipush (v := (16 : Int32)) hx hb nd_S_performControl_15 (by decide) ?_
  refine lv_icmp_ne (tgt := 24) hx hb nd_S_performControl_17 (by decide) (fun h17 => ?_) (fun h17 => ?_)
  · have hw := (if_neg h17).symm.trans hw
    exact J24 a1 (f_S_numberS a1) u H locs ls hP hD hS (lv_sub hl [1, 2, 0] rfl) hw
  have hw := (if_pos h17).symm.trans hw
  refine lv_iconst (v := (1 : Int32)) hx hb nd_S_performControl_20 (by decide) ?_
  refine lv_goto (tgt := 25) hx hb nd_S_performControl_21 (by decide) ?_
  exact J25 a1 (f_S_numberS a1) (1 : Int32) u H locs ls hP hD hS (lv_sub hl [1, 2, 0] rfl) hw
set_option maxHeartbeats 4000000 in
set_option maxRecDepth 100000 in
theorem c_S_performLoad (l : Launch) (D : va_G) (h : Nat → Nat) (cA : Nat → ClassId) (u : St) (a1 : Int32) (F : Int32 × St) (hw : f_S_performLoad a1 u = F) : MI nwS vwCl l ny_S_performLoad nw_S_performLoad ({ frames := 3, cells := 0, slots := 0, locals := 64 }) D (tyI cA) (wSC h cA) ([.ref (h 0), .int a1] : List Value) u F := by
  refine my_in (gw := GW) (cc := nc_S_performLoad) (maxL := 6) (ret := (some .int)) (Qc := fun A => QI vwCl D (tyI cA) (wSC h cA) F A) (by decide) rfl (Nat.le_of_ble_eq_true rfl) ?_
  intro p e s m below meth c A H locs ls hx hb hml hr hts hown hlocks hK hN hA hP hD hS hl
  have hown : s.vm.findClass nR_S = some m.cls := hown
  have hl : lv_has ls 6 [(0, .ref (h 0)), (1, .int a1)] := hl
  unfold f_S_performLoad at hw
  refine lv_aload_n hx hb nd_S_performLoad_0 rfl (lv_at hl 0 rfl) ?_
  refine lv_iload_n hx hb nd_S_performLoad_1 rfl (lv_at hl 1 rfl) ?_
  refine my_ci (wd := wSC h cA) (r := f_S_addressOf a1 u) (u' := u) (va_runV (As := [.int a1]) (rest := []) ⟨hx, hb, hml, hown, hts⟩ (c_S_addressOf l D h cA u a1 _ rfl _) ⟨callB_of 1 hts (gw_in gw_324) rfl rfl rfl (hts _ gw_1) (hts _ gw_321) nh_S_addressOf ⟨Nat.le_of_ble_eq_true rfl, Nat.le_of_ble_eq_true rfl⟩, (hts _ gw_323), (hts _ gw_322)⟩ (my_preV nwOk hP hK hD hN (va_recv hK hP (ci := 0) (q0 := 0) rfl rfl)) rfl rfl hl.1 rfl (lv_room (Nat.le_of_ble_eq_true rfl)) nd_S_performLoad_2 ⟨Nat.le_of_ble_eq_true rfl, Nat.le_of_ble_eq_true rfl⟩) hD hS hA (fun H locs hP hD hS => ?_)
  refine lv_istore_n (lv' := [(2, .int (f_S_addressOf a1 u)), (0, .ref (h 0)), (1, .int a1)]) hx hb nd_S_performLoad_5 rfl hl (by decide) rfl (fun ls hl => ?_)
  refine lv_aload_n hx hb nd_S_performLoad_6 rfl (lv_at hl 1 rfl) ?_
  refine lv_iload_n hx hb nd_S_performLoad_7 rfl (lv_at hl 0 rfl) ?_
  refine lv_iload_n hx hb nd_S_performLoad_8 rfl (lv_at hl 2 rfl) ?_
  refine my_cp (F := f_S_orderOf a1) (va_runS (As := [.int a1]) (rest := [.int (f_S_addressOf a1 u), .ref (h 0)]) ⟨hx, hb, hml, hown, hts⟩ (c_S_orderOf l a1 _ rfl) ⟨callB_of 1 hts (gw_in gw_182) rfl rfl rfl (hts _ gw_1) (hts _ gw_180) nh_S_orderOf ⟨Nat.le_of_ble_eq_true rfl, Nat.le_of_ble_eq_true rfl⟩, (hts _ gw_181)⟩ my_preP rfl rfl hl.1 rfl (lv_room (Nat.le_of_ble_eq_true rfl)) nd_S_performLoad_9 ⟨Nat.le_of_ble_eq_true rfl, Nat.le_of_ble_eq_true rfl⟩) hP hS (fun H locs hP hS => ?_)
  refine my_cp (F := f_S_loadUnit (f_S_orderOf a1)) (va_runS (As := [.int (f_S_orderOf a1)]) (rest := [.int (f_S_addressOf a1 u), .ref (h 0)]) ⟨hx, hb, hml, hown, hts⟩ (c_S_loadUnit l (f_S_orderOf a1) _ rfl) ⟨callB_of 1 hts (gw_in gw_327) rfl rfl rfl (hts _ gw_1) (hts _ gw_325) nh_S_loadUnit ⟨Nat.le_of_ble_eq_true rfl, Nat.le_of_ble_eq_true rfl⟩, (hts _ gw_326)⟩ my_preP rfl rfl hl.1 rfl (lv_room (Nat.le_of_ble_eq_true rfl)) nd_S_performLoad_12 ⟨Nat.le_of_ble_eq_true rfl, Nat.le_of_ble_eq_true rfl⟩) hP hS (fun H locs hP hS => ?_)
  refine lv_iconst (v := (4 : Int32)) hx hb nd_S_performLoad_15 (by decide) ?_
  obtain ⟨r16, u16, hq16, hw⟩ := bnd_i hw
  refine my_ci (wd := wSC h cA) (r := r16) (u' := u16) (va_runV (As := [.int (f_S_addressOf a1 u), .int (f_S_loadUnit (f_S_orderOf a1)), .int (4 : Int32)]) (rest := []) ⟨hx, hb, hml, hown, hts⟩ (c_S_faultOfData l D h cA u (f_S_addressOf a1 u) (f_S_loadUnit (f_S_orderOf a1)) (4 : Int32) (r16, u16) hq16 _) ⟨callB_of 3 hts (gw_in gw_331) rfl rfl rfl (hts _ gw_1) (hts _ gw_328) nh_S_faultOfData ⟨Nat.le_of_ble_eq_true rfl, Nat.le_of_ble_eq_true rfl⟩, (hts _ gw_330), (hts _ gw_329)⟩ (my_preV nwOk hP hK hD hN (va_recv hK hP (ci := 0) (q0 := 0) rfl rfl)) rfl rfl hl.1 rfl (lv_room (Nat.le_of_ble_eq_true rfl)) nd_S_performLoad_16 ⟨Nat.le_of_ble_eq_true rfl, Nat.le_of_ble_eq_true rfl⟩) hD hS hA (fun H locs hP hD hS => ?_)
  refine lv_istore_n (lv' := [(3, .int r16), (2, .int (f_S_addressOf a1 u)), (0, .ref (h 0)), (1, .int a1)]) hx hb nd_S_performLoad_19 rfl hl (by decide) rfl (fun ls hl => ?_)
  refine lv_iload_n hx hb nd_S_performLoad_20 rfl (lv_at hl 0 rfl) ?_
  refine lv_iconst (v := (-1 : Int32)) hx hb nd_S_performLoad_21 (by decide) ?_
  refine lv_icmp_eq (tgt := 27) hx hb nd_S_performLoad_22 (by decide) (fun h22 => ?_) (fun h22 => ?_)
  · have hw := (if_pos h22).symm.trans hw
    refine lv_iload_n hx hb nd_S_performLoad_27 rfl (lv_at hl 3 rfl) ?_
    refine my_cp (F := f_S_numberT a1) (va_runS (As := [.int a1]) (rest := []) ⟨hx, hb, hml, hown, hts⟩ (c_S_numberT l a1 _ rfl) ⟨callB_of 1 hts (gw_in gw_191) rfl rfl rfl (hts _ gw_1) (hts _ gw_189) nh_S_numberT ⟨Nat.le_of_ble_eq_true rfl, Nat.le_of_ble_eq_true rfl⟩, (hts _ gw_190)⟩ my_preP rfl rfl hl.1 rfl (lv_room (Nat.le_of_ble_eq_true rfl)) nd_S_performLoad_28 ⟨Nat.le_of_ble_eq_true rfl, Nat.le_of_ble_eq_true rfl⟩) hP hS (fun H locs hP hS => ?_)
    refine lv_istore (lv' := [(4, .int (f_S_numberT a1)), (3, .int r16), (2, .int (f_S_addressOf a1 u)), (0, .ref (h 0)), (1, .int a1)]) hx hb nd_S_performLoad_31 hl (by decide) rfl (fun ls hl => ?_)
    refine lv_aload_n hx hb nd_S_performLoad_33 rfl (lv_at hl 3 rfl) ?_
    refine va_get (D := D) (ci := 0) (v := .ref (h 1)) (C := nR_S) (T := nT_S) (N := 9) hx hb hts nu_S hown hK hP 0 rfl rfl 0 (by decide) (hts _ gw_63) (fun _ h9 => h9) rfl nd_S_performLoad_34 ?_
    refine lv_iload_n hx hb nd_S_performLoad_37 rfl (lv_at hl 2 rfl) ?_
    refine lv_ldc (own := nR_S) (v := (536870911 : Int32)) hx hb hown (hts _ gw_160) nd_S_performLoad_38 ?_
    refine lv_iand hx hb nd_S_performLoad_40 ?_
    refine my_ci (wd := wSC h cA) (r := f_M_wordAround ((f_S_addressOf a1 u) &&& (536870911 : Int32)) u16) (u' := u16) (va_runVN (As := [.int ((f_S_addressOf a1 u) &&& (536870911 : Int32))]) (rest := []) ⟨hx, hb, hml, hown, hts⟩ (c_M_wordAround l D h cA u16 ((f_S_addressOf a1 u) &&& (536870911 : Int32)) _ rfl _) ⟨va_cnB 1 hts (gw_in gw_166) rfl rfl rfl (hN _ nm_24) (hts _ gw_2) nh_M_wordAround ⟨Nat.le_of_ble_eq_true rfl, Nat.le_of_ble_eq_true rfl⟩, (hts _ gw_165), (hts _ gw_164)⟩ (my_preV nwOk hP hK hD hN (va_recv hK hP (ci := 1) (q0 := 1) rfl rfl)) rfl rfl hl.1 rfl (lv_room (Nat.le_of_ble_eq_true rfl)) nd_S_performLoad_41 ⟨Nat.le_of_ble_eq_true rfl, Nat.le_of_ble_eq_true rfl⟩) hD hS hA (fun H locs hP hD hS => ?_)
    refine lv_istore (lv' := [(5, .int (f_M_wordAround ((f_S_addressOf a1 u) &&& (536870911 : Int32)) u16)), (4, .int (f_S_numberT a1)), (3, .int r16), (2, .int (f_S_addressOf a1 u)), (0, .ref (h 0)), (1, .int a1)]) hx hb nd_S_performLoad_44 hl (by decide) rfl (fun ls hl => ?_)
    refine lv_aload_n hx hb nd_S_performLoad_46 rfl (lv_at hl 4 rfl) ?_
    refine lv_iload hx hb nd_S_performLoad_47 (lv_at hl 1 rfl) ?_
    refine lv_iload_n hx hb nd_S_performLoad_49 rfl (lv_at hl 5 rfl) ?_
    refine my_cp (F := f_S_orderOf a1) (va_runS (As := [.int a1]) (rest := [.int (f_S_numberT a1), .ref (h 0)]) ⟨hx, hb, hml, hown, hts⟩ (c_S_orderOf l a1 _ rfl) ⟨callB_of 1 hts (gw_in gw_182) rfl rfl rfl (hts _ gw_1) (hts _ gw_180) nh_S_orderOf ⟨Nat.le_of_ble_eq_true rfl, Nat.le_of_ble_eq_true rfl⟩, (hts _ gw_181)⟩ my_preP rfl rfl hl.1 rfl (lv_room (Nat.le_of_ble_eq_true rfl)) nd_S_performLoad_50 ⟨Nat.le_of_ble_eq_true rfl, Nat.le_of_ble_eq_true rfl⟩) hP hS (fun H locs hP hS => ?_)
    refine lv_aload_n hx hb nd_S_performLoad_53 rfl (lv_at hl 4 rfl) ?_
    refine va_get (D := D) (ci := 0) (v := .ref (h 3)) (C := nR_S) (T := nT_S) (N := 9) hx hb hts nu_S hown hK hP 0 rfl rfl 1 (by decide) (hts _ gw_64) (fun _ h9 => h9) rfl nd_S_performLoad_54 ?_
    refine lv_iload hx hb nd_S_performLoad_57 (lv_at hl 1 rfl) ?_
    refine my_ci (wd := wSC h cA) (r := f_R_latestOf (f_S_numberT a1) u16) (u' := u16) (va_runVN (As := [.int (f_S_numberT a1)]) (rest := [.int (f_S_orderOf a1), .int (f_S_numberT a1), .ref (h 0)]) ⟨hx, hb, hml, hown, hts⟩ (c_R_latestOf l D h cA u16 (f_S_numberT a1) _ rfl _) ⟨va_cnB 1 hts (gw_in gw_334) rfl rfl rfl (hN _ nm_31) (hts _ gw_3) nh_R_latestOf ⟨Nat.le_of_ble_eq_true rfl, Nat.le_of_ble_eq_true rfl⟩, (hts _ gw_333), (hts _ gw_332)⟩ (my_preV nwOk hP hK hD hN (va_recv hK hP (ci := 2) (q0 := 3) rfl rfl)) rfl rfl hl.1 rfl (lv_room (Nat.le_of_ble_eq_true rfl)) nd_S_performLoad_59 ⟨Nat.le_of_ble_eq_true rfl, Nat.le_of_ble_eq_true rfl⟩) hD hS hA (fun H locs hP hD hS => ?_)
    refine lv_iload hx hb nd_S_performLoad_62 (lv_at hl 0 rfl) ?_
    refine lv_iload_n hx hb nd_S_performLoad_64 rfl (lv_at hl 3 rfl) ?_
    refine my_cp (F := f_S_joinLoaded (f_S_orderOf a1) (f_R_latestOf (f_S_numberT a1) u16) (f_M_wordAround ((f_S_addressOf a1 u) &&& (536870911 : Int32)) u16) (f_S_addressOf a1 u)) (va_runS (As := [.int (f_S_orderOf a1), .int (f_R_latestOf (f_S_numberT a1) u16), .int (f_M_wordAround ((f_S_addressOf a1 u) &&& (536870911 : Int32)) u16), .int (f_S_addressOf a1 u)]) (rest := [.int (f_S_numberT a1), .ref (h 0)]) ⟨hx, hb, hml, hown, hts⟩ (c_S_joinLoaded l (f_S_orderOf a1) (f_R_latestOf (f_S_numberT a1) u16) (f_M_wordAround ((f_S_addressOf a1 u) &&& (536870911 : Int32)) u16) (f_S_addressOf a1 u) _ rfl) ⟨callB_of 4 hts (gw_in gw_338) rfl rfl rfl (hts _ gw_1) (hts _ gw_336) nh_S_joinLoaded ⟨Nat.le_of_ble_eq_true rfl, Nat.le_of_ble_eq_true rfl⟩, (hts _ gw_337)⟩ my_preP rfl rfl hl.1 rfl (lv_room (Nat.le_of_ble_eq_true rfl)) nd_S_performLoad_65 ⟨Nat.le_of_ble_eq_true rfl, Nat.le_of_ble_eq_true rfl⟩) hP hS (fun H locs hP hS => ?_)
    obtain ⟨r68, u68, hq68, hw⟩ := bnd_i hw
    refine my_ci (wd := wSC h cA) (r := r68) (u' := u68) (va_runV (As := [.int (f_S_numberT a1), .int (f_S_joinLoaded (f_S_orderOf a1) (f_R_latestOf (f_S_numberT a1) u16) (f_M_wordAround ((f_S_addressOf a1 u) &&& (536870911 : Int32)) u16) (f_S_addressOf a1 u))]) (rest := []) ⟨hx, hb, hml, hown, hts⟩ (c_S_giveLate l D h cA u16 (f_S_numberT a1) (f_S_joinLoaded (f_S_orderOf a1) (f_R_latestOf (f_S_numberT a1) u16) (f_M_wordAround ((f_S_addressOf a1 u) &&& (536870911 : Int32)) u16) (f_S_addressOf a1 u)) (r68, u68) hq68 _) ⟨callB_of 2 hts (gw_in gw_313) rfl rfl rfl (hts _ gw_1) (hts _ gw_310) nh_S_giveLate ⟨Nat.le_of_ble_eq_true rfl, Nat.le_of_ble_eq_true rfl⟩, (hts _ gw_312), (hts _ gw_311)⟩ (my_preV nwOk hP hK hD hN (va_recv hK hP (ci := 0) (q0 := 0) rfl rfl)) rfl rfl hl.1 rfl (lv_room (Nat.le_of_ble_eq_true rfl)) nd_S_performLoad_68 ⟨Nat.le_of_ble_eq_true rfl, Nat.le_of_ble_eq_true rfl⟩) hD hS hA (fun H locs hP hD hS => ?_)
    exact my_ri (u' := u68) (v := r68) hx hb hr hlocks hK hP hD hS hw nd_S_performLoad_71
  have hw := (if_neg h22).symm.trans hw
  refine lv_iload_n hx hb nd_S_performLoad_25 rfl (lv_at hl 0 rfl) ?_
  exact my_ri (u' := u16) (v := r16) hx hb hr hlocks hK hP hD hS hw nd_S_performLoad_26
set_option maxHeartbeats 4000000 in
set_option maxRecDepth 100000 in
theorem c_S_performStore (l : Launch) (D : va_G) (h : Nat → Nat) (cA : Nat → ClassId) (u : St) (a1 : Int32) (F : Int32 × St) (hw : f_S_performStore a1 u = F) : MI nwS vwCl l ny_S_performStore nw_S_performStore ({ frames := 3, cells := 0, slots := 0, locals := 64 }) D (tyI cA) (wSC h cA) ([.ref (h 0), .int a1] : List Value) u F := by
  refine my_in (gw := GW) (cc := nc_S_performStore) (maxL := 6) (ret := (some .int)) (Qc := fun A => QI vwCl D (tyI cA) (wSC h cA) F A) (by decide) rfl (Nat.le_of_ble_eq_true rfl) ?_
  intro p e s m below meth c A H locs ls hx hb hml hr hts hown hlocks hK hN hA hP hD hS hl
  have hown : s.vm.findClass nR_S = some m.cls := hown
  have hl : lv_has ls 6 [(0, .ref (h 0)), (1, .int a1)] := hl
  unfold f_S_performStore at hw
  refine lv_aload_n hx hb nd_S_performStore_0 rfl (lv_at hl 0 rfl) ?_
  refine lv_iload_n hx hb nd_S_performStore_1 rfl (lv_at hl 1 rfl) ?_
  refine my_ci (wd := wSC h cA) (r := f_S_addressOf a1 u) (u' := u) (va_runV (As := [.int a1]) (rest := []) ⟨hx, hb, hml, hown, hts⟩ (c_S_addressOf l D h cA u a1 _ rfl _) ⟨callB_of 1 hts (gw_in gw_324) rfl rfl rfl (hts _ gw_1) (hts _ gw_321) nh_S_addressOf ⟨Nat.le_of_ble_eq_true rfl, Nat.le_of_ble_eq_true rfl⟩, (hts _ gw_323), (hts _ gw_322)⟩ (my_preV nwOk hP hK hD hN (va_recv hK hP (ci := 0) (q0 := 0) rfl rfl)) rfl rfl hl.1 rfl (lv_room (Nat.le_of_ble_eq_true rfl)) nd_S_performStore_2 ⟨Nat.le_of_ble_eq_true rfl, Nat.le_of_ble_eq_true rfl⟩) hD hS hA (fun H locs hP hD hS => ?_)
  refine lv_istore_n (lv' := [(2, .int (f_S_addressOf a1 u)), (0, .ref (h 0)), (1, .int a1)]) hx hb nd_S_performStore_5 rfl hl (by decide) rfl (fun ls hl => ?_)
  refine lv_aload_n hx hb nd_S_performStore_6 rfl (lv_at hl 1 rfl) ?_
  refine lv_iload_n hx hb nd_S_performStore_7 rfl (lv_at hl 0 rfl) ?_
  refine lv_iload_n hx hb nd_S_performStore_8 rfl (lv_at hl 2 rfl) ?_
  refine my_cp (F := f_S_orderOf a1) (va_runS (As := [.int a1]) (rest := [.int (f_S_addressOf a1 u), .ref (h 0)]) ⟨hx, hb, hml, hown, hts⟩ (c_S_orderOf l a1 _ rfl) ⟨callB_of 1 hts (gw_in gw_182) rfl rfl rfl (hts _ gw_1) (hts _ gw_180) nh_S_orderOf ⟨Nat.le_of_ble_eq_true rfl, Nat.le_of_ble_eq_true rfl⟩, (hts _ gw_181)⟩ my_preP rfl rfl hl.1 rfl (lv_room (Nat.le_of_ble_eq_true rfl)) nd_S_performStore_9 ⟨Nat.le_of_ble_eq_true rfl, Nat.le_of_ble_eq_true rfl⟩) hP hS (fun H locs hP hS => ?_)
  refine my_cp (F := f_S_storeUnit (f_S_orderOf a1)) (va_runS (As := [.int (f_S_orderOf a1)]) (rest := [.int (f_S_addressOf a1 u), .ref (h 0)]) ⟨hx, hb, hml, hown, hts⟩ (c_S_storeUnit l (f_S_orderOf a1) _ rfl) ⟨callB_of 1 hts (gw_in gw_352) rfl rfl rfl (hts _ gw_1) (hts _ gw_350) nh_S_storeUnit ⟨Nat.le_of_ble_eq_true rfl, Nat.le_of_ble_eq_true rfl⟩, (hts _ gw_351)⟩ my_preP rfl rfl hl.1 rfl (lv_room (Nat.le_of_ble_eq_true rfl)) nd_S_performStore_12 ⟨Nat.le_of_ble_eq_true rfl, Nat.le_of_ble_eq_true rfl⟩) hP hS (fun H locs hP hS => ?_)
  refine lv_iconst (v := (5 : Int32)) hx hb nd_S_performStore_15 (by decide) ?_
  obtain ⟨r16, u16, hq16, hw⟩ := bnd_i hw
  refine my_ci (wd := wSC h cA) (r := r16) (u' := u16) (va_runV (As := [.int (f_S_addressOf a1 u), .int (f_S_storeUnit (f_S_orderOf a1)), .int (5 : Int32)]) (rest := []) ⟨hx, hb, hml, hown, hts⟩ (c_S_faultOfData l D h cA u (f_S_addressOf a1 u) (f_S_storeUnit (f_S_orderOf a1)) (5 : Int32) (r16, u16) hq16 _) ⟨callB_of 3 hts (gw_in gw_331) rfl rfl rfl (hts _ gw_1) (hts _ gw_328) nh_S_faultOfData ⟨Nat.le_of_ble_eq_true rfl, Nat.le_of_ble_eq_true rfl⟩, (hts _ gw_330), (hts _ gw_329)⟩ (my_preV nwOk hP hK hD hN (va_recv hK hP (ci := 0) (q0 := 0) rfl rfl)) rfl rfl hl.1 rfl (lv_room (Nat.le_of_ble_eq_true rfl)) nd_S_performStore_16 ⟨Nat.le_of_ble_eq_true rfl, Nat.le_of_ble_eq_true rfl⟩) hD hS hA (fun H locs hP hD hS => ?_)
  refine lv_istore_n (lv' := [(3, .int r16), (2, .int (f_S_addressOf a1 u)), (0, .ref (h 0)), (1, .int a1)]) hx hb nd_S_performStore_19 rfl hl (by decide) rfl (fun ls hl => ?_)
  refine lv_iload_n hx hb nd_S_performStore_20 rfl (lv_at hl 0 rfl) ?_
  refine lv_iconst (v := (-1 : Int32)) hx hb nd_S_performStore_21 (by decide) ?_
  refine lv_icmp_eq (tgt := 27) hx hb nd_S_performStore_22 (by decide) (fun h22 => ?_) (fun h22 => ?_)
  · have hw := (if_pos h22).symm.trans hw
    refine lv_iload_n hx hb nd_S_performStore_27 rfl (lv_at hl 1 rfl) ?_
    refine lv_ldc (own := nR_S) (v := (536870911 : Int32)) hx hb hown (hts _ gw_160) nd_S_performStore_28 ?_
    refine lv_iand hx hb nd_S_performStore_30 ?_
    refine lv_istore (lv' := [(4, .int ((f_S_addressOf a1 u) &&& (536870911 : Int32))), (3, .int r16), (2, .int (f_S_addressOf a1 u)), (0, .ref (h 0)), (1, .int a1)]) hx hb nd_S_performStore_31 hl (by decide) rfl (fun ls hl => ?_)
    refine lv_aload_n hx hb nd_S_performStore_33 rfl (lv_at hl 3 rfl) ?_
    refine va_get (D := D) (ci := 0) (v := .ref (h 1)) (C := nR_S) (T := nT_S) (N := 9) hx hb hts nu_S hown hK hP 0 rfl rfl 0 (by decide) (hts _ gw_63) (fun _ h9 => h9) rfl nd_S_performStore_34 ?_
    refine lv_iload hx hb nd_S_performStore_37 (lv_at hl 0 rfl) ?_
    refine my_ci (wd := wSC h cA) (r := f_M_wordAround ((f_S_addressOf a1 u) &&& (536870911 : Int32)) u16) (u' := u16) (va_runVN (As := [.int ((f_S_addressOf a1 u) &&& (536870911 : Int32))]) (rest := []) ⟨hx, hb, hml, hown, hts⟩ (c_M_wordAround l D h cA u16 ((f_S_addressOf a1 u) &&& (536870911 : Int32)) _ rfl _) ⟨va_cnB 1 hts (gw_in gw_166) rfl rfl rfl (hN _ nm_24) (hts _ gw_2) nh_M_wordAround ⟨Nat.le_of_ble_eq_true rfl, Nat.le_of_ble_eq_true rfl⟩, (hts _ gw_165), (hts _ gw_164)⟩ (my_preV nwOk hP hK hD hN (va_recv hK hP (ci := 1) (q0 := 1) rfl rfl)) rfl rfl hl.1 rfl (lv_room (Nat.le_of_ble_eq_true rfl)) nd_S_performStore_39 ⟨Nat.le_of_ble_eq_true rfl, Nat.le_of_ble_eq_true rfl⟩) hD hS hA (fun H locs hP hD hS => ?_)
    refine lv_istore (lv' := [(5, .int (f_M_wordAround ((f_S_addressOf a1 u) &&& (536870911 : Int32)) u16)), (4, .int ((f_S_addressOf a1 u) &&& (536870911 : Int32))), (3, .int r16), (2, .int (f_S_addressOf a1 u)), (0, .ref (h 0)), (1, .int a1)]) hx hb nd_S_performStore_42 hl (by decide) rfl (fun ls hl => ?_)
    refine lv_aload_n hx hb nd_S_performStore_44 rfl (lv_at hl 4 rfl) ?_
    refine va_get (D := D) (ci := 0) (v := .ref (h 1)) (C := nR_S) (T := nT_S) (N := 9) hx hb hts nu_S hown hK hP 0 rfl rfl 0 (by decide) (hts _ gw_63) (fun _ h9 => h9) rfl nd_S_performStore_45 ?_
    refine lv_iload hx hb nd_S_performStore_48 (lv_at hl 1 rfl) ?_
    refine lv_iload_n hx hb nd_S_performStore_50 rfl (lv_at hl 5 rfl) ?_
    refine my_cp (F := f_S_orderOf a1) (va_runS (As := [.int a1]) (rest := [.int ((f_S_addressOf a1 u) &&& (536870911 : Int32)), .ref (h 1)]) ⟨hx, hb, hml, hown, hts⟩ (c_S_orderOf l a1 _ rfl) ⟨callB_of 1 hts (gw_in gw_182) rfl rfl rfl (hts _ gw_1) (hts _ gw_180) nh_S_orderOf ⟨Nat.le_of_ble_eq_true rfl, Nat.le_of_ble_eq_true rfl⟩, (hts _ gw_181)⟩ my_preP rfl rfl hl.1 rfl (lv_room (Nat.le_of_ble_eq_true rfl)) nd_S_performStore_51 ⟨Nat.le_of_ble_eq_true rfl, Nat.le_of_ble_eq_true rfl⟩) hP hS (fun H locs hP hS => ?_)
    refine lv_iload hx hb nd_S_performStore_54 (lv_at hl 0 rfl) ?_
    refine lv_aload_n hx hb nd_S_performStore_56 rfl (lv_at hl 4 rfl) ?_
    refine lv_iload_n hx hb nd_S_performStore_57 rfl (lv_at hl 5 rfl) ?_
    refine my_ci (wd := wSC h cA) (r := f_S_valueOfT a1 u16) (u' := u16) (va_runV (As := [.int a1]) (rest := [.int (f_M_wordAround ((f_S_addressOf a1 u) &&& (536870911 : Int32)) u16), .int (f_S_orderOf a1), .int ((f_S_addressOf a1 u) &&& (536870911 : Int32)), .ref (h 1)]) ⟨hx, hb, hml, hown, hts⟩ (c_S_valueOfT l D h cA u16 a1 _ rfl _) ⟨callB_of 1 hts (gw_in gw_203) rfl rfl rfl (hts _ gw_1) (hts _ gw_200) nh_S_valueOfT ⟨Nat.le_of_ble_eq_true rfl, Nat.le_of_ble_eq_true rfl⟩, (hts _ gw_202), (hts _ gw_201)⟩ (my_preV nwOk hP hK hD hN (va_recv hK hP (ci := 0) (q0 := 0) rfl rfl)) rfl rfl hl.1 rfl (lv_room (Nat.le_of_ble_eq_true rfl)) nd_S_performStore_58 ⟨Nat.le_of_ble_eq_true rfl, Nat.le_of_ble_eq_true rfl⟩) hD hS hA (fun H locs hP hD hS => ?_)
    refine lv_iload_n hx hb nd_S_performStore_61 rfl (lv_at hl 3 rfl) ?_
    refine my_cp (F := f_S_joinStored (f_S_orderOf a1) (f_M_wordAround ((f_S_addressOf a1 u) &&& (536870911 : Int32)) u16) (f_S_valueOfT a1 u16) (f_S_addressOf a1 u)) (va_runS (As := [.int (f_S_orderOf a1), .int (f_M_wordAround ((f_S_addressOf a1 u) &&& (536870911 : Int32)) u16), .int (f_S_valueOfT a1 u16), .int (f_S_addressOf a1 u)]) (rest := [.int ((f_S_addressOf a1 u) &&& (536870911 : Int32)), .ref (h 1)]) ⟨hx, hb, hml, hown, hts⟩ (c_S_joinStored l (f_S_orderOf a1) (f_M_wordAround ((f_S_addressOf a1 u) &&& (536870911 : Int32)) u16) (f_S_valueOfT a1 u16) (f_S_addressOf a1 u) _ rfl) ⟨callB_of 4 hts (gw_in gw_355) rfl rfl rfl (hts _ gw_1) (hts _ gw_353) nh_S_joinStored ⟨Nat.le_of_ble_eq_true rfl, Nat.le_of_ble_eq_true rfl⟩, (hts _ gw_354)⟩ my_preP rfl rfl hl.1 rfl (lv_room (Nat.le_of_ble_eq_true rfl)) nd_S_performStore_62 ⟨Nat.le_of_ble_eq_true rfl, Nat.le_of_ble_eq_true rfl⟩) hP hS (fun H locs hP hS => ?_)
    obtain ⟨u65, hq65, hw⟩ := bnv_i hw
    refine my_cv (wd := wSC h cA) (F := u65) (va_runVN (As := [.int ((f_S_addressOf a1 u) &&& (536870911 : Int32)), .int (f_S_joinStored (f_S_orderOf a1) (f_M_wordAround ((f_S_addressOf a1 u) &&& (536870911 : Int32)) u16) (f_S_valueOfT a1 u16) (f_S_addressOf a1 u))]) (rest := []) ⟨hx, hb, hml, hown, hts⟩ (c_M_replaceWord l D h cA u16 ((f_S_addressOf a1 u) &&& (536870911 : Int32)) (f_S_joinStored (f_S_orderOf a1) (f_M_wordAround ((f_S_addressOf a1 u) &&& (536870911 : Int32)) u16) (f_S_valueOfT a1 u16) (f_S_addressOf a1 u)) u65 hq65 _) ⟨va_cnB 2 hts (gw_in gw_358) rfl rfl rfl (hN _ nm_32) (hts _ gw_2) nh_M_replaceWord ⟨Nat.le_of_ble_eq_true rfl, Nat.le_of_ble_eq_true rfl⟩, (hts _ gw_357), (hts _ gw_356)⟩ (my_preV nwOk hP hK hD hN (va_recv hK hP (ci := 1) (q0 := 1) rfl rfl)) rfl rfl hl.1 rfl (lv_room (Nat.le_of_ble_eq_true rfl)) nd_S_performStore_65 ⟨Nat.le_of_ble_eq_true rfl, Nat.le_of_ble_eq_true rfl⟩) hD hS hA (fun H locs hP hD hS => ?_)
    refine lv_iconst (v := (-1 : Int32)) hx hb nd_S_performStore_68 (by decide) ?_
    exact my_ri (u' := u65) (v := (-1 : Int32)) hx hb hr hlocks hK hP hD hS hw nd_S_performStore_69
  have hw := (if_neg h22).symm.trans hw
  refine lv_iload_n hx hb nd_S_performStore_25 rfl (lv_at hl 0 rfl) ?_
  exact my_ri (u' := u16) (v := r16) hx hb hr hlocks hK hP hD hS hw nd_S_performStore_26
