set_option maxHeartbeats 4000000 in
set_option maxRecDepth 100000 in
theorem c_S_isInMemory (l : Launch) (a1 : Int32) (F : Int32) (hw : f_S_isInMemory a1 = F) : MP l ny_S_isInMemory nw_S_isInMemory ({ frames := 0, cells := 0, slots := 0, locals := 0 }) ([.int a1] : List Value) (zb F) := by
  unfold MP
  refine my_inP (gw := GW) (cc := nc_S_isInMemory) (maxL := 1) (ret := (some .boolean)) (by decide) rfl (Nat.le_of_ble_eq_true rfl) ?_
  intro p e s m below meth c H locs ls hx hb hml hr hts hown hlocks hS hl
  have hown : s.vm.findClass nR_S = some m.cls := hown
  have hl : lv_has ls 1 [(0, .int a1)] := hl
  unfold f_S_isInMemory at hw
  refine lv_iload_n hx hb nd_S_isInMemory_0 rfl (lv_at hl 0 rfl) ?_
  refine lv_if_lt (tgt := 15) hx hb nd_S_isInMemory_1 (by decide) (fun h1 => ?_) (fun h1 => ?_)
  · have hw := (if_pos h1).symm.trans hw
    refine lv_iconst (v := (0 : Int32)) hx hb nd_S_isInMemory_15 (by decide) ?_
    exact my_rpz hx hb hr hlocks hS hw rfl nd_S_isInMemory_16
  have hw := (if_neg h1).symm.trans hw
  refine lv_iload_n hx hb nd_S_isInMemory_4 rfl (lv_at hl 0 rfl) ?_
  refine lv_sipush (v := (4096 : Int32)) hx hb nd_S_isInMemory_5 (by decide) ?_
  refine lv_icmp_ge (tgt := 15) hx hb nd_S_isInMemory_8 (by decide) (fun h8 => ?_) (fun h8 => ?_)
  · have hw := (if_pos h8).symm.trans hw
    refine lv_iconst (v := (0 : Int32)) hx hb nd_S_isInMemory_15 (by decide) ?_
    exact my_rpz hx hb hr hlocks hS hw rfl nd_S_isInMemory_16
  have hw := (if_neg h8).symm.trans hw
  refine lv_iconst (v := (1 : Int32)) hx hb nd_S_isInMemory_11 (by decide) ?_
  refine lv_goto (tgt := 16) hx hb nd_S_isInMemory_12 (by decide) ?_
  exact my_rpz hx hb hr hlocks hS hw rfl nd_S_isInMemory_16
set_option maxHeartbeats 4000000 in
set_option maxRecDepth 100000 in
theorem c_S_isPlaceOfWord (l : Launch) (a1 : Int32) (F : Int32) (hw : f_S_isPlaceOfWord a1 = F) : MP l ny_S_isPlaceOfWord nw_S_isPlaceOfWord ({ frames := 1, cells := 0, slots := 0, locals := 20 }) ([.int a1] : List Value) (zb F) := by
  unfold MP
  refine my_inP (gw := GW) (cc := nc_S_isPlaceOfWord) (maxL := 1) (ret := (some .boolean)) (by decide) rfl (Nat.le_of_ble_eq_true rfl) ?_
  intro p e s m below meth c H locs ls hx hb hml hr hts hown hlocks hS hl
  have hown : s.vm.findClass nR_S = some m.cls := hown
  have hl : lv_has ls 1 [(0, .int a1)] := hl
  unfold f_S_isPlaceOfWord at hw
  refine lv_iload_n hx hb nd_S_isPlaceOfWord_0 rfl (lv_at hl 0 rfl) ?_
  refine lv_iconst (v := (3 : Int32)) hx hb nd_S_isPlaceOfWord_1 (by decide) ?_
  refine lv_iand hx hb nd_S_isPlaceOfWord_2 ?_
  refine lv_if_ne (tgt := 17) hx hb nd_S_isPlaceOfWord_3 (by decide) (fun h3 => ?_) (fun h3 => ?_)
  · have hw := (if_neg h3).symm.trans hw
    refine lv_iconst (v := (0 : Int32)) hx hb nd_S_isPlaceOfWord_17 (by decide) ?_
    exact my_rpz hx hb hr hlocks hS hw rfl nd_S_isPlaceOfWord_18
  have hw := (if_pos h3).symm.trans hw
  refine lv_iload_n hx hb nd_S_isPlaceOfWord_6 rfl (lv_at hl 0 rfl) ?_
  refine my_cp (F := zb (f_S_isInMemory a1)) (D := D0) (cl := []) (ws := []) (va_runS (As := [.int a1]) (rest := []) ⟨hx, hb, hml, hown, hts⟩ (c_S_isInMemory l a1 _ rfl) ⟨callB_of 1 hts (gw_in gw_163) rfl rfl rfl (hts _ gw_1) (hts _ gw_161) nh_S_isInMemory ⟨Nat.le_of_ble_eq_true rfl, Nat.le_of_ble_eq_true rfl⟩, (hts _ gw_162)⟩ my_preP rfl rfl hl.1 rfl (lv_room (Nat.le_of_ble_eq_true rfl)) nd_S_isPlaceOfWord_7 ⟨Nat.le_of_ble_eq_true rfl, Nat.le_of_ble_eq_true rfl⟩) my_nil hS (fun H locs _ hS => ?_)
  refine lv_if_eq (tgt := 17) hx hb nd_S_isPlaceOfWord_10 (by decide) (fun h10 => ?_) (fun h10 => ?_)
  · have hw := (if_pos h10).symm.trans hw
    refine lv_iconst (v := (0 : Int32)) hx hb nd_S_isPlaceOfWord_17 (by decide) ?_
    exact my_rpz hx hb hr hlocks hS hw rfl nd_S_isPlaceOfWord_18
  have hw := (if_neg h10).symm.trans hw
  refine lv_iconst (v := (1 : Int32)) hx hb nd_S_isPlaceOfWord_13 (by decide) ?_
  refine lv_goto (tgt := 18) hx hb nd_S_isPlaceOfWord_14 (by decide) ?_
  exact my_rpz hx hb hr hlocks hS hw rfl nd_S_isPlaceOfWord_18
set_option maxHeartbeats 4000000 in
set_option maxRecDepth 100000 in
theorem c_M_indexOf (l : Launch) (a1 : Int32) (F : Int32) (hw : f_M_indexOf a1 = F) : MP l ny_M_indexOf nw_M_indexOf ({ frames := 0, cells := 0, slots := 0, locals := 0 }) ([.int a1] : List Value) F := by
  unfold MP
  refine my_inP (gw := GW) (cc := nc_M_indexOf) (maxL := 1) (ret := (some .int)) (by decide) rfl (Nat.le_of_ble_eq_true rfl) ?_
  intro p e s m below meth c H locs ls hx hb hml hr hts hown hlocks hS hl
  have hown : s.vm.findClass nR_M = some m.cls := hown
  have hl : lv_has ls 1 [(0, .int a1)] := hl
  unfold f_M_indexOf at hw
  refine lv_iload_n hx hb nd_M_indexOf_0 rfl (lv_at hl 0 rfl) ?_
  refine lv_iconst (v := (2 : Int32)) hx hb nd_M_indexOf_1 (by decide) ?_
  refine lv_ishr hx hb nd_M_indexOf_2 ?_
  refine lv_sipush (v := (1023 : Int32)) hx hb nd_M_indexOf_3 (by decide) ?_
  refine lv_iand hx hb nd_M_indexOf_6 ?_
  exact my_rp hx hb hr hlocks hS hw nd_M_indexOf_7
set_option maxHeartbeats 4000000 in
set_option maxRecDepth 100000 in
theorem c_S_exchange (l : Launch) (a1 : Int32) (a2 : Int32) (a3 : Int32) (F : Int32) (hw : f_S_exchange a1 a2 a3 = F) : MP l ny_S_exchange nw_S_exchange ({ frames := 0, cells := 0, slots := 0, locals := 0 }) ([.int a1, .int a2, .int a3] : List Value) F := by
  unfold MP
  refine my_inP (gw := GW) (cc := nc_S_exchange) (maxL := 3) (ret := (some .int)) (by decide) rfl (Nat.le_of_ble_eq_true rfl) ?_
  intro p e s m below meth c H locs ls hx hb hml hr hts hown hlocks hS hl
  have hown : s.vm.findClass nR_S = some m.cls := hown
  have hl : lv_has ls 3 [(0, .int a1), (1, .int a2), (2, .int a3)] := hl
  unfold f_S_exchange at hw
  refine lv_iload_n hx hb nd_S_exchange_0 rfl (lv_at hl 0 rfl) ?_
  refine lv_iload_n hx hb nd_S_exchange_1 rfl (lv_at hl 2 rfl) ?_
  refine lv_iconst (v := (-1 : Int32)) hx hb nd_S_exchange_2 (by decide) ?_
  refine lv_ixor hx hb nd_S_exchange_3 ?_
  refine lv_iand hx hb nd_S_exchange_4 ?_
  refine lv_iload_n hx hb nd_S_exchange_5 rfl (lv_at hl 1 rfl) ?_
  refine lv_iload_n hx hb nd_S_exchange_6 rfl (lv_at hl 2 rfl) ?_
  refine lv_iand hx hb nd_S_exchange_7 ?_
  refine lv_ior hx hb nd_S_exchange_8 ?_
  exact my_rp hx hb hr hlocks hS hw nd_S_exchange_9
set_option maxHeartbeats 4000000 in
set_option maxRecDepth 100000 in
theorem c_S_orderOf (l : Launch) (a1 : Int32) (F : Int32) (hw : f_S_orderOf a1 = F) : MP l ny_S_orderOf nw_S_orderOf ({ frames := 0, cells := 0, slots := 0, locals := 0 }) ([.int a1] : List Value) F := by
  unfold MP
  refine my_inP (gw := GW) (cc := nc_S_orderOf) (maxL := 1) (ret := (some .int)) (by decide) rfl (Nat.le_of_ble_eq_true rfl) ?_
  intro p e s m below meth c H locs ls hx hb hml hr hts hown hlocks hS hl
  have hown : s.vm.findClass nR_S = some m.cls := hown
  have hl : lv_has ls 1 [(0, .int a1)] := hl
  unfold f_S_orderOf at hw
  refine lv_iload_n hx hb nd_S_orderOf_0 rfl (lv_at hl 0 rfl) ?_
  refine lv_bipush (v := (26 : Int32)) hx hb nd_S_orderOf_1 (by decide) ?_
  refine lv_iushr (v := ush a1 (26 : Int32)) hx hb nd_S_orderOf_3 rfl ?_
  exact my_rp hx hb hr hlocks hS hw nd_S_orderOf_4
set_option maxHeartbeats 4000000 in
set_option maxRecDepth 100000 in
theorem c_S_numberK (l : Launch) (a1 : Int32) (F : Int32) (hw : f_S_numberK a1 = F) : MP l ny_S_numberK nw_S_numberK ({ frames := 0, cells := 0, slots := 0, locals := 0 }) ([.int a1] : List Value) F := by
  unfold MP
  refine my_inP (gw := GW) (cc := nc_S_numberK) (maxL := 1) (ret := (some .int)) (by decide) rfl (Nat.le_of_ble_eq_true rfl) ?_
  intro p e s m below meth c H locs ls hx hb hml hr hts hown hlocks hS hl
  have hown : s.vm.findClass nR_S = some m.cls := hown
  have hl : lv_has ls 1 [(0, .int a1)] := hl
  unfold f_S_numberK at hw
  refine lv_iload_n hx hb nd_S_numberK_0 rfl (lv_at hl 0 rfl) ?_
  refine lv_bipush (v := (63 : Int32)) hx hb nd_S_numberK_1 (by decide) ?_
  refine lv_iand hx hb nd_S_numberK_3 ?_
  exact my_rp hx hb hr hlocks hS hw nd_S_numberK_4
set_option maxHeartbeats 4000000 in
set_option maxRecDepth 100000 in
theorem c_S_numberT (l : Launch) (a1 : Int32) (F : Int32) (hw : f_S_numberT a1 = F) : MP l ny_S_numberT nw_S_numberT ({ frames := 0, cells := 0, slots := 0, locals := 0 }) ([.int a1] : List Value) F := by
  unfold MP
  refine my_inP (gw := GW) (cc := nc_S_numberT) (maxL := 1) (ret := (some .int)) (by decide) rfl (Nat.le_of_ble_eq_true rfl) ?_
  intro p e s m below meth c H locs ls hx hb hml hr hts hown hlocks hS hl
  have hown : s.vm.findClass nR_S = some m.cls := hown
  have hl : lv_has ls 1 [(0, .int a1)] := hl
  unfold f_S_numberT at hw
  refine lv_iload_n hx hb nd_S_numberT_0 rfl (lv_at hl 0 rfl) ?_
  refine lv_bipush (v := (16 : Int32)) hx hb nd_S_numberT_1 (by decide) ?_
  refine lv_iushr (v := ush a1 (16 : Int32)) hx hb nd_S_numberT_3 rfl ?_
  refine lv_bipush (v := (31 : Int32)) hx hb nd_S_numberT_4 (by decide) ?_
  refine lv_iand hx hb nd_S_numberT_6 ?_
  exact my_rp hx hb hr hlocks hS hw nd_S_numberT_7
set_option maxHeartbeats 4000000 in
set_option maxRecDepth 100000 in
theorem c_S_isBranchBySign (l : Launch) (a1 : Int32) (F : Int32) (hw : f_S_isBranchBySign a1 = F) : MP l ny_S_isBranchBySign nw_S_isBranchBySign ({ frames := 1, cells := 0, slots := 0, locals := 20 }) ([.int a1] : List Value) (zb F) := by
  unfold MP
  refine my_inP (gw := GW) (cc := nc_S_isBranchBySign) (maxL := 2) (ret := (some .boolean)) (by decide) rfl (Nat.le_of_ble_eq_true rfl) ?_
  intro p e s m below meth c H locs ls hx hb hml hr hts hown hlocks hS hl
  have hown : s.vm.findClass nR_S = some m.cls := hown
  have hl : lv_has ls 2 [(0, .int a1)] := hl
  unfold f_S_isBranchBySign at hw
  refine lv_iload_n hx hb nd_S_isBranchBySign_0 rfl (lv_at hl 0 rfl) ?_
  refine my_cp (F := f_S_numberT a1) (D := D0) (cl := []) (ws := []) (va_runS (As := [.int a1]) (rest := []) ⟨hx, hb, hml, hown, hts⟩ (c_S_numberT l a1 _ rfl) ⟨callB_of 1 hts (gw_in gw_191) rfl rfl rfl (hts _ gw_1) (hts _ gw_189) nh_S_numberT ⟨Nat.le_of_ble_eq_true rfl, Nat.le_of_ble_eq_true rfl⟩, (hts _ gw_190)⟩ my_preP rfl rfl hl.1 rfl (lv_room (Nat.le_of_ble_eq_true rfl)) nd_S_isBranchBySign_1 ⟨Nat.le_of_ble_eq_true rfl, Nat.le_of_ble_eq_true rfl⟩) my_nil hS (fun H locs _ hS => ?_)
  refine lv_istore_n (lv' := [(1, .int (f_S_numberT a1)), (0, .int a1)]) hx hb nd_S_isBranchBySign_4 rfl hl (by decide) rfl (fun ls hl => ?_)
  refine lv_iload_n hx hb nd_S_isBranchBySign_5 rfl (lv_at hl 0 rfl) ?_
  refine lv_if_eq (tgt := 26) hx hb nd_S_isBranchBySign_6 (by decide) (fun h6 => ?_) (fun h6 => ?_)
  · have hw := (if_pos h6).symm.trans hw
    refine lv_iconst (v := (1 : Int32)) hx hb nd_S_isBranchBySign_26 (by decide) ?_
    refine lv_goto (tgt := 31) hx hb nd_S_isBranchBySign_27 (by decide) ?_
    exact my_rpz hx hb hr hlocks hS hw rfl nd_S_isBranchBySign_31
  have hw := (if_neg h6).symm.trans hw
  refine lv_iload_n hx hb nd_S_isBranchBySign_9 rfl (lv_at hl 0 rfl) ?_
  refine lv_iconst (v := (1 : Int32)) hx hb nd_S_isBranchBySign_10 (by decide) ?_
  refine lv_icmp_eq (tgt := 26) hx hb nd_S_isBranchBySign_11 (by decide) (fun h11 => ?_) (fun h11 => ?_)
  · have hw := (if_pos h11).symm.trans hw
    refine lv_iconst (v := (1 : Int32)) hx hb nd_S_isBranchBySign_26 (by decide) ?_
    refine lv_goto (tgt := 31) hx hb nd_S_isBranchBySign_27 (by decide) ?_
    exact my_rpz hx hb hr hlocks hS hw rfl nd_S_isBranchBySign_31
  have hw := (if_neg h11).symm.trans hw
  refine lv_iload_n hx hb nd_S_isBranchBySign_14 rfl (lv_at hl 0 rfl) ?_
  refine lv_bipush (v := (16 : Int32)) hx hb nd_S_isBranchBySign_15 (by decide) ?_
  refine lv_icmp_eq (tgt := 26) hx hb nd_S_isBranchBySign_17 (by decide) (fun h17 => ?_) (fun h17 => ?_)
  · have hw := (if_pos h17).symm.trans hw
    refine lv_iconst (v := (1 : Int32)) hx hb nd_S_isBranchBySign_26 (by decide) ?_
    refine lv_goto (tgt := 31) hx hb nd_S_isBranchBySign_27 (by decide) ?_
    exact my_rpz hx hb hr hlocks hS hw rfl nd_S_isBranchBySign_31
  have hw := (if_neg h17).symm.trans hw
  refine lv_iload_n hx hb nd_S_isBranchBySign_20 rfl (lv_at hl 0 rfl) ?_
  refine lv_bipush (v := (17 : Int32)) hx hb nd_S_isBranchBySign_21 (by decide) ?_
  refine lv_icmp_ne (tgt := 30) hx hb nd_S_isBranchBySign_23 (by decide) (fun h23 => ?_) (fun h23 => ?_)
  · have hw := (if_neg h23).symm.trans hw
    refine lv_iconst (v := (0 : Int32)) hx hb nd_S_isBranchBySign_30 (by decide) ?_
    exact my_rpz hx hb hr hlocks hS hw rfl nd_S_isBranchBySign_31
  have hw := (if_pos h23).symm.trans hw
  refine lv_iconst (v := (1 : Int32)) hx hb nd_S_isBranchBySign_26 (by decide) ?_
  refine lv_goto (tgt := 31) hx hb nd_S_isBranchBySign_27 (by decide) ?_
  exact my_rpz hx hb hr hlocks hS hw rfl nd_S_isBranchBySign_31
set_option maxHeartbeats 4000000 in
set_option maxRecDepth 100000 in
theorem c_S_isBranch (l : Launch) (a1 : Int32) (F : Int32) (hw : f_S_isBranch a1 = F) : MP l ny_S_isBranch nw_S_isBranch ({ frames := 2, cells := 0, slots := 0, locals := 41 }) ([.int a1] : List Value) (zb F) := by
  unfold MP
  refine my_inP (gw := GW) (cc := nc_S_isBranch) (maxL := 2) (ret := (some .boolean)) (by decide) rfl (Nat.le_of_ble_eq_true rfl) ?_
  intro p e s m below meth c H locs ls hx hb hml hr hts hown hlocks hS hl
  have hown : s.vm.findClass nR_S = some m.cls := hown
  have hl : lv_has ls 2 [(0, .int a1)] := hl
  unfold f_S_isBranch at hw
  refine lv_iload_n hx hb nd_S_isBranch_0 rfl (lv_at hl 0 rfl) ?_
  refine my_cp (F := f_S_orderOf a1) (D := D0) (cl := []) (ws := []) (va_runS (As := [.int a1]) (rest := []) ⟨hx, hb, hml, hown, hts⟩ (c_S_orderOf l a1 _ rfl) ⟨callB_of 1 hts (gw_in gw_182) rfl rfl rfl (hts _ gw_1) (hts _ gw_180) nh_S_orderOf ⟨Nat.le_of_ble_eq_true rfl, Nat.le_of_ble_eq_true rfl⟩, (hts _ gw_181)⟩ my_preP rfl rfl hl.1 rfl (lv_room (Nat.le_of_ble_eq_true rfl)) nd_S_isBranch_1 ⟨Nat.le_of_ble_eq_true rfl, Nat.le_of_ble_eq_true rfl⟩) my_nil hS (fun H locs _ hS => ?_)
  refine lv_istore_n (lv' := [(1, .int (f_S_orderOf a1)), (0, .int a1)]) hx hb nd_S_isBranch_4 rfl hl (by decide) rfl (fun ls hl => ?_)
  refine lv_iload_n hx hb nd_S_isBranch_5 rfl (lv_at hl 0 rfl) ?_
  refine lv_if_ne (tgt := 33) hx hb nd_S_isBranch_6 (by decide) (fun h6 => ?_) (fun h6 => ?_)
  · have hw := (if_neg h6).symm.trans hw
    refine lv_iload_n hx hb nd_S_isBranch_33 rfl (lv_at hl 0 rfl) ?_
    refine lv_iconst (v := (1 : Int32)) hx hb nd_S_isBranch_34 (by decide) ?_
    refine lv_icmp_ne (tgt := 43) hx hb nd_S_isBranch_35 (by decide) (fun h35 => ?_) (fun h35 => ?_)
    · have hw := (if_neg h35).symm.trans hw
      refine lv_iload_n hx hb nd_S_isBranch_43 rfl (lv_at hl 0 rfl) ?_
      refine lv_bipush (v := (8 : Int32)) hx hb nd_S_isBranch_44 (by decide) ?_
      refine lv_icmp_ge (tgt := 53) hx hb nd_S_isBranch_46 (by decide) (fun h46 => ?_) (fun h46 => ?_)
      · have hw := (if_pos h46).symm.trans hw
        refine lv_iconst (v := (0 : Int32)) hx hb nd_S_isBranch_53 (by decide) ?_
        exact my_rpz hx hb hr hlocks hS hw rfl nd_S_isBranch_54
      have hw := (if_neg h46).symm.trans hw
      refine lv_iconst (v := (1 : Int32)) hx hb nd_S_isBranch_49 (by decide) ?_
      refine lv_goto (tgt := 54) hx hb nd_S_isBranch_50 (by decide) ?_
      exact my_rpz hx hb hr hlocks hS hw rfl nd_S_isBranch_54
    have hw := (if_pos h35).symm.trans hw
    refine lv_iload_n hx hb nd_S_isBranch_38 rfl (lv_at hl 1 rfl) ?_
    refine my_cp (F := zb (f_S_isBranchBySign a1)) (D := D0) (cl := []) (ws := []) (va_runS (As := [.int a1]) (rest := []) ⟨hx, hb, hml, hown, hts⟩ (c_S_isBranchBySign l a1 _ rfl) ⟨callB_of 1 hts (gw_in gw_188) rfl rfl rfl (hts _ gw_1) (hts _ gw_186) nh_S_isBranchBySign ⟨Nat.le_of_ble_eq_true rfl, Nat.le_of_ble_eq_true rfl⟩, (hts _ gw_187)⟩ my_preP rfl rfl hl.1 rfl (lv_room (Nat.le_of_ble_eq_true rfl)) nd_S_isBranch_39 ⟨Nat.le_of_ble_eq_true rfl, Nat.le_of_ble_eq_true rfl⟩) my_nil hS (fun H locs _ hS => ?_)
    exact my_rpz hx hb hr hlocks hS hw rfl nd_S_isBranch_42
  have hw := (if_pos h6).symm.trans hw
  refine lv_iload_n hx hb nd_S_isBranch_9 rfl (lv_at hl 1 rfl) ?_
  refine my_cp (F := f_S_numberK a1) (D := D0) (cl := []) (ws := []) (va_runS (As := [.int a1]) (rest := []) ⟨hx, hb, hml, hown, hts⟩ (c_S_numberK l a1 _ rfl) ⟨callB_of 1 hts (gw_in gw_185) rfl rfl rfl (hts _ gw_1) (hts _ gw_183) nh_S_numberK ⟨Nat.le_of_ble_eq_true rfl, Nat.le_of_ble_eq_true rfl⟩, (hts _ gw_184)⟩ my_preP rfl rfl hl.1 rfl (lv_room (Nat.le_of_ble_eq_true rfl)) nd_S_isBranch_10 ⟨Nat.le_of_ble_eq_true rfl, Nat.le_of_ble_eq_true rfl⟩) my_nil hS (fun H locs _ hS => ?_)
  refine lv_bipush (v := (8 : Int32)) hx hb nd_S_isBranch_13 (by decide) ?_
  refine lv_icmp_eq (tgt := 27) hx hb nd_S_isBranch_15 (by decide) (fun h15 => ?_) (fun h15 => ?_)
  · have hw := (if_pos h15).symm.trans hw
    refine lv_iconst (v := (1 : Int32)) hx hb nd_S_isBranch_27 (by decide) ?_
    refine lv_goto (tgt := 32) hx hb nd_S_isBranch_28 (by decide) ?_
    exact my_rpz hx hb hr hlocks hS hw rfl nd_S_isBranch_32
  have hw := (if_neg h15).symm.trans hw
  refine lv_iload_n hx hb nd_S_isBranch_18 rfl (lv_at hl 1 rfl) ?_
  refine my_cp (F := f_S_numberK a1) (D := D0) (cl := []) (ws := []) (va_runS (As := [.int a1]) (rest := []) ⟨hx, hb, hml, hown, hts⟩ (c_S_numberK l a1 _ rfl) ⟨callB_of 1 hts (gw_in gw_185) rfl rfl rfl (hts _ gw_1) (hts _ gw_183) nh_S_numberK ⟨Nat.le_of_ble_eq_true rfl, Nat.le_of_ble_eq_true rfl⟩, (hts _ gw_184)⟩ my_preP rfl rfl hl.1 rfl (lv_room (Nat.le_of_ble_eq_true rfl)) nd_S_isBranch_19 ⟨Nat.le_of_ble_eq_true rfl, Nat.le_of_ble_eq_true rfl⟩) my_nil hS (fun H locs _ hS => ?_)
  refine lv_bipush (v := (9 : Int32)) hx hb nd_S_isBranch_22 (by decide) ?_
  refine lv_icmp_ne (tgt := 31) hx hb nd_S_isBranch_24 (by decide) (fun h24 => ?_) (fun h24 => ?_)
  · have hw := (if_neg h24).symm.trans hw
    refine lv_iconst (v := (0 : Int32)) hx hb nd_S_isBranch_31 (by decide) ?_
    exact my_rpz hx hb hr hlocks hS hw rfl nd_S_isBranch_32
  have hw := (if_pos h24).symm.trans hw
  refine lv_iconst (v := (1 : Int32)) hx hb nd_S_isBranch_27 (by decide) ?_
  refine lv_goto (tgt := 32) hx hb nd_S_isBranch_28 (by decide) ?_
  exact my_rpz hx hb hr hlocks hS hw rfl nd_S_isBranch_32
set_option maxHeartbeats 4000000 in
set_option maxRecDepth 100000 in
theorem c_S_numberD (l : Launch) (a1 : Int32) (F : Int32) (hw : f_S_numberD a1 = F) : MP l ny_S_numberD nw_S_numberD ({ frames := 0, cells := 0, slots := 0, locals := 0 }) ([.int a1] : List Value) F := by
  unfold MP
  refine my_inP (gw := GW) (cc := nc_S_numberD) (maxL := 1) (ret := (some .int)) (by decide) rfl (Nat.le_of_ble_eq_true rfl) ?_
  intro p e s m below meth c H locs ls hx hb hml hr hts hown hlocks hS hl
  have hown : s.vm.findClass nR_S = some m.cls := hown
  have hl : lv_has ls 1 [(0, .int a1)] := hl
  unfold f_S_numberD at hw
  refine lv_iload_n hx hb nd_S_numberD_0 rfl (lv_at hl 0 rfl) ?_
  refine lv_bipush (v := (11 : Int32)) hx hb nd_S_numberD_1 (by decide) ?_
  refine lv_iushr (v := ush a1 (11 : Int32)) hx hb nd_S_numberD_3 rfl ?_
  refine lv_bipush (v := (31 : Int32)) hx hb nd_S_numberD_4 (by decide) ?_
  refine lv_iand hx hb nd_S_numberD_6 ?_
  exact my_rp hx hb hr hlocks hS hw nd_S_numberD_7
set_option maxHeartbeats 4000000 in
set_option maxRecDepth 100000 in
theorem c_S_numberS (l : Launch) (a1 : Int32) (F : Int32) (hw : f_S_numberS a1 = F) : MP l ny_S_numberS nw_S_numberS ({ frames := 0, cells := 0, slots := 0, locals := 0 }) ([.int a1] : List Value) F := by
  unfold MP
  refine my_inP (gw := GW) (cc := nc_S_numberS) (maxL := 1) (ret := (some .int)) (by decide) rfl (Nat.le_of_ble_eq_true rfl) ?_
  intro p e s m below meth c H locs ls hx hb hml hr hts hown hlocks hS hl
  have hown : s.vm.findClass nR_S = some m.cls := hown
  have hl : lv_has ls 1 [(0, .int a1)] := hl
  unfold f_S_numberS at hw
  refine lv_iload_n hx hb nd_S_numberS_0 rfl (lv_at hl 0 rfl) ?_
  refine lv_bipush (v := (21 : Int32)) hx hb nd_S_numberS_1 (by decide) ?_
  refine lv_iushr (v := ush a1 (21 : Int32)) hx hb nd_S_numberS_3 rfl ?_
  refine lv_bipush (v := (31 : Int32)) hx hb nd_S_numberS_4 (by decide) ?_
  refine lv_iand hx hb nd_S_numberS_6 ?_
  exact my_rp hx hb hr hlocks hS hw nd_S_numberS_7
set_option maxHeartbeats 4000000 in
set_option maxRecDepth 100000 in
theorem c_S_numberA (l : Launch) (a1 : Int32) (F : Int32) (hw : f_S_numberA a1 = F) : MP l ny_S_numberA nw_S_numberA ({ frames := 0, cells := 0, slots := 0, locals := 0 }) ([.int a1] : List Value) F := by
  unfold MP
  refine my_inP (gw := GW) (cc := nc_S_numberA) (maxL := 1) (ret := (some .int)) (by decide) rfl (Nat.le_of_ble_eq_true rfl) ?_
  intro p e s m below meth c H locs ls hx hb hml hr hts hown hlocks hS hl
  have hown : s.vm.findClass nR_S = some m.cls := hown
  have hl : lv_has ls 1 [(0, .int a1)] := hl
  unfold f_S_numberA at hw
  refine lv_iload_n hx hb nd_S_numberA_0 rfl (lv_at hl 0 rfl) ?_
  refine lv_bipush (v := (6 : Int32)) hx hb nd_S_numberA_1 (by decide) ?_
  refine lv_iushr (v := ush a1 (6 : Int32)) hx hb nd_S_numberA_3 rfl ?_
  refine lv_bipush (v := (31 : Int32)) hx hb nd_S_numberA_4 (by decide) ?_
  refine lv_iand hx hb nd_S_numberA_6 ?_
  exact my_rp hx hb hr hlocks hS hw nd_S_numberA_7
set_option maxHeartbeats 4000000 in
set_option maxRecDepth 100000 in
theorem c_S_withoutSign (l : Launch) (a1 : Int32) (F : Int64) (hw : f_S_withoutSign a1 = F) : ML l ny_S_withoutSign nw_S_withoutSign ({ frames := 0, cells := 0, slots := 0, locals := 0 }) ([.int a1] : List Value) F := by
  unfold ML
  refine my_inP (gw := GW) (cc := nc_S_withoutSign) (maxL := 1) (ret := (some .long)) (by decide) rfl (Nat.le_of_ble_eq_true rfl) ?_
  intro p e s m below meth c H locs ls hx hb hml hr hts hown hlocks hS hl
  have hown : s.vm.findClass nR_S = some m.cls := hown
  have hl : lv_has ls 1 [(0, .int a1)] := hl
  unfold f_S_withoutSign at hw
  refine lv_iload_n hx hb nd_S_withoutSign_0 rfl (lv_at hl 0 rfl) ?_
  refine lv_i2l (v := a1.toInt64) hx hb nd_S_withoutSign_1 rfl ?_
  refine lv_ldc2 (own := nR_S) (v := (4294967295 : Int64)) hx hb hown (hts _ gw_247) nd_S_withoutSign_2 ?_
  refine lv_land hx hb nd_S_withoutSign_5 ?_
  exact my_rl hx hb hr hlocks hS hw nd_S_withoutSign_6
set_option maxHeartbeats 4000000 in
set_option maxRecDepth 100000 in
theorem c_S_restAndQuotient (l : Launch) (a1 : Int64) (a2 : Int64) (F : Int64) (hw : f_S_restAndQuotient a1 a2 = F) : ML l ny_S_restAndQuotient nw_S_restAndQuotient ({ frames := 0, cells := 0, slots := 0, locals := 0 }) ([.long a1, .long a2] : List Value) F := by
  unfold ML
  refine my_inP (gw := GW) (cc := nc_S_restAndQuotient) (maxL := 4) (ret := (some .long)) (by decide) rfl (Nat.le_of_ble_eq_true rfl) ?_
  intro p e s m below meth c H locs ls hx hb hml hr hts hown hlocks hS hl
  have hown : s.vm.findClass nR_S = some m.cls := hown
  have hl : lv_has ls 4 [(0, .long a1), (2, .long a2)] := hl
  unfold f_S_restAndQuotient at hw
  refine lv_lload_n hx hb nd_S_restAndQuotient_0 rfl (lv_at hl 0 rfl) ?_
  refine lv_bipush (v := (32 : Int32)) hx hb nd_S_restAndQuotient_1 (by decide) ?_
  refine lv_lshl (v := a1 <<< ((32 : Int32).toInt64 &&& 63)) hx hb nd_S_restAndQuotient_3 rfl ?_
  refine lv_lload_n hx hb nd_S_restAndQuotient_4 rfl (lv_at hl 1 rfl) ?_
  refine lv_ldc2 (own := nR_S) (v := (4294967295 : Int64)) hx hb hown (hts _ gw_247) nd_S_restAndQuotient_5 ?_
  refine lv_land hx hb nd_S_restAndQuotient_8 ?_
  refine lv_lor hx hb nd_S_restAndQuotient_9 ?_
  exact my_rl hx hb hr hlocks hS hw nd_S_restAndQuotient_10
set_option maxHeartbeats 4000000 in
set_option maxRecDepth 100000 in
theorem c_S_divide (l : Launch) (a1 : Int32) (a2 : Int32) (F : Int64) (hw : f_S_divide a1 a2 = F) : ML l ny_S_divide nw_S_divide ({ frames := 1, cells := 0, slots := 0, locals := 23 }) ([.int a1, .int a2] : List Value) F := by
  unfold ML
  refine my_inP (gw := GW) (cc := nc_S_divide) (maxL := 4) (ret := (some .long)) (by decide) rfl (Nat.le_of_ble_eq_true rfl) ?_
  intro p e s m below meth c H locs ls hx hb hml hr hts hown hlocks hS hl
  have hown : s.vm.findClass nR_S = some m.cls := hown
  have hl : lv_has ls 4 [(0, .int a1), (1, .int a2)] := hl
  have J17 : ∀ (y0 : Int64) (y1 : Int64) (H : Heap) (locs : List Loc) (ls : Array Slot), va_S (fun _ => False) s.heap H locs → lv_has ls 4 [] → f_S_divide_b17 y0 y1 = F →
      W p l e (headSpec nw_S_divide ({ frames := 1, cells := 0, slots := 0, locals := 23 })).room s m ([.int a1, .int a2] : List Value).toArray below meth c H locs 0 0 (MQ below (QL F) ([.int a1, .int a2] : List Value).toArray s 0 0 (fun _ => False)) (F0 m 17 ls [.long y0, .long y1]) := by
    intro y0 y1 H locs ls hS hl hw
    unfold f_S_divide_b17 at hw
    refine my_cl (F := f_S_restAndQuotient y1 y0) (D := D0) (cl := []) (ws := []) (va_runS (As := [.long y1, .long y0]) (rest := []) ⟨hx, hb, hml, hown, hts⟩ (c_S_restAndQuotient l y1 y0 _ rfl) ⟨callB_of 2 hts (gw_in gw_254) rfl rfl rfl (hts _ gw_1) (hts _ gw_252) nh_S_restAndQuotient ⟨Nat.le_of_ble_eq_true rfl, Nat.le_of_ble_eq_true rfl⟩, (hts _ gw_253)⟩ my_preP rfl rfl hl.1 rfl (lv_room (Nat.le_of_ble_eq_true rfl)) nd_S_divide_17 ⟨Nat.le_of_ble_eq_true rfl, Nat.le_of_ble_eq_true rfl⟩) my_nil hS (fun H locs _ hS => ?_)
    exact my_rl hx hb hr hlocks hS hw nd_S_divide_20
  unfold f_S_divide at hw
  refine lv_iload_n hx hb nd_S_divide_0 rfl (lv_at hl 1 rfl) ?_
  refine lv_if_ne (tgt := 21) hx hb nd_S_divide_1 (by decide) (fun h1 => ?_) (fun h1 => ?_)
  · have hw := (if_neg h1).symm.trans hw
    refine lv_iload_n hx hb nd_S_divide_21 rfl (lv_at hl 0 rfl) ?_
    refine lv_i2l (v := a1.toInt64) hx hb nd_S_divide_22 rfl ?_
    refine lv_lstore_n (lv' := [(2, .long a1.toInt64), (0, .int a1), (1, .int a2)]) hx hb nd_S_divide_23 rfl hl (by decide) rfl (fun ls hl => ?_)
    refine lv_lload_n hx hb nd_S_divide_24 rfl (lv_at hl 0 rfl) ?_
    refine lv_iload_n hx hb nd_S_divide_25 rfl (lv_at hl 2 rfl) ?_
    refine lv_i2l (v := a2.toInt64) hx hb nd_S_divide_26 rfl ?_
    refine lv_lrem hx hb nd_S_divide_27 (my_nz h1) ?_
    refine lv_lload_n hx hb nd_S_divide_28 rfl (lv_at hl 0 rfl) ?_
    refine lv_iload_n hx hb nd_S_divide_29 rfl (lv_at hl 2 rfl) ?_
    refine lv_i2l (v := a2.toInt64) hx hb nd_S_divide_30 rfl ?_
    refine lv_ldiv hx hb nd_S_divide_31 (my_nz h1) ?_
    refine my_cl (F := f_S_restAndQuotient (a1.toInt64 - a1.toInt64 / a2.toInt64 * a2.toInt64) (a1.toInt64 / a2.toInt64)) (D := D0) (cl := []) (ws := []) (va_runS (As := [.long (a1.toInt64 - a1.toInt64 / a2.toInt64 * a2.toInt64), .long (a1.toInt64 / a2.toInt64)]) (rest := []) ⟨hx, hb, hml, hown, hts⟩ (c_S_restAndQuotient l (a1.toInt64 - a1.toInt64 / a2.toInt64 * a2.toInt64) (a1.toInt64 / a2.toInt64) _ rfl) ⟨callB_of 2 hts (gw_in gw_254) rfl rfl rfl (hts _ gw_1) (hts _ gw_252) nh_S_restAndQuotient ⟨Nat.le_of_ble_eq_true rfl, Nat.le_of_ble_eq_true rfl⟩, (hts _ gw_253)⟩ my_preP rfl rfl hl.1 rfl (lv_room (Nat.le_of_ble_eq_true rfl)) nd_S_divide_32 ⟨Nat.le_of_ble_eq_true rfl, Nat.le_of_ble_eq_true rfl⟩) my_nil hS (fun H locs _ hS => ?_)
    exact my_rl hx hb hr hlocks hS hw nd_S_divide_35
  have hw := (if_pos h1).symm.trans hw
  refine lv_iload_n hx hb nd_S_divide_4 rfl (lv_at hl 0 rfl) ?_
  refine lv_i2l (v := a1.toInt64) hx hb nd_S_divide_5 rfl ?_
  refine lv_iload_n hx hb nd_S_divide_6 rfl (lv_at hl 0 rfl) ?_
  refine lv_if_ge (tgt := 14) hx hb nd_S_divide_7 (by decide) (fun h7 => ?_) (fun h7 => ?_)
  · have hw := (if_pos h7).symm.trans hw
    refine lv_ldc2 (own := nR_S) (v := (-1 : Int64)) hx hb hown (hts _ gw_251) nd_S_divide_14 ?_
    exact J17 (-1 : Int64) a1.toInt64 H locs ls hS (lv_sub hl [] rfl) hw
  have hw := (if_neg h7).symm.trans hw
  refine lv_lconst (v := (1 : Int64)) hx hb nd_S_divide_10 (by decide) ?_
  refine lv_goto (tgt := 17) hx hb nd_S_divide_11 (by decide) ?_
  exact J17 (1 : Int64) a1.toInt64 H locs ls hS (lv_sub hl [] rfl) hw
set_option maxHeartbeats 4000000 in
set_option maxRecDepth 100000 in
theorem c_S_divideWithoutSign (l : Launch) (a1 : Int32) (a2 : Int32) (F : Int64) (hw : f_S_divideWithoutSign a1 a2 = F) : ML l ny_S_divideWithoutSign nw_S_divideWithoutSign ({ frames := 1, cells := 0, slots := 0, locals := 23 }) ([.int a1, .int a2] : List Value) F := by
  unfold ML
  refine my_inP (gw := GW) (cc := nc_S_divideWithoutSign) (maxL := 6) (ret := (some .long)) (by decide) rfl (Nat.le_of_ble_eq_true rfl) ?_
  intro p e s m below meth c H locs ls hx hb hml hr hts hown hlocks hS hl
  have hown : s.vm.findClass nR_S = some m.cls := hown
  have hl : lv_has ls 6 [(0, .int a1), (1, .int a2)] := hl
  unfold f_S_divideWithoutSign at hw
  refine lv_iload_n hx hb nd_S_divideWithoutSign_0 rfl (lv_at hl 1 rfl) ?_
  refine lv_if_ne (tgt := 13) hx hb nd_S_divideWithoutSign_1 (by decide) (fun h1 => ?_) (fun h1 => ?_)
  · have hw := (if_neg h1).symm.trans hw
    refine lv_iload_n hx hb nd_S_divideWithoutSign_13 rfl (lv_at hl 0 rfl) ?_
    refine my_cl (F := f_S_withoutSign a1) (D := D0) (cl := []) (ws := []) (va_runS (As := [.int a1]) (rest := []) ⟨hx, hb, hml, hown, hts⟩ (c_S_withoutSign l a1 _ rfl) ⟨callB_of 1 hts (gw_in gw_246) rfl rfl rfl (hts _ gw_1) (hts _ gw_244) nh_S_withoutSign ⟨Nat.le_of_ble_eq_true rfl, Nat.le_of_ble_eq_true rfl⟩, (hts _ gw_245)⟩ my_preP rfl rfl hl.1 rfl (lv_room (Nat.le_of_ble_eq_true rfl)) nd_S_divideWithoutSign_14 ⟨Nat.le_of_ble_eq_true rfl, Nat.le_of_ble_eq_true rfl⟩) my_nil hS (fun H locs _ hS => ?_)
    refine lv_lstore_n (lv' := [(2, .long (f_S_withoutSign a1)), (0, .int a1), (1, .int a2)]) hx hb nd_S_divideWithoutSign_17 rfl hl (by decide) rfl (fun ls hl => ?_)
    refine lv_iload_n hx hb nd_S_divideWithoutSign_18 rfl (lv_at hl 2 rfl) ?_
    refine my_cl (F := f_S_withoutSign a2) (D := D0) (cl := []) (ws := []) (va_runS (As := [.int a2]) (rest := []) ⟨hx, hb, hml, hown, hts⟩ (c_S_withoutSign l a2 _ rfl) ⟨callB_of 1 hts (gw_in gw_246) rfl rfl rfl (hts _ gw_1) (hts _ gw_244) nh_S_withoutSign ⟨Nat.le_of_ble_eq_true rfl, Nat.le_of_ble_eq_true rfl⟩, (hts _ gw_245)⟩ my_preP rfl rfl hl.1 rfl (lv_room (Nat.le_of_ble_eq_true rfl)) nd_S_divideWithoutSign_19 ⟨Nat.le_of_ble_eq_true rfl, Nat.le_of_ble_eq_true rfl⟩) my_nil hS (fun H locs _ hS => ?_)
    refine lv_lstore (lv' := [(4, .long (f_S_withoutSign a2)), (2, .long (f_S_withoutSign a1)), (0, .int a1), (1, .int a2)]) hx hb nd_S_divideWithoutSign_22 hl (by decide) rfl (fun ls hl => ?_)
    refine lv_lload_n hx hb nd_S_divideWithoutSign_24 rfl (lv_at hl 1 rfl) ?_
    refine lv_lload hx hb nd_S_divideWithoutSign_25 (lv_at hl 0 rfl) ?_
    refine lv_lrem hx hb nd_S_divideWithoutSign_27 (my_nzu h1) ?_
    refine lv_lload_n hx hb nd_S_divideWithoutSign_28 rfl (lv_at hl 1 rfl) ?_
    refine lv_lload hx hb nd_S_divideWithoutSign_29 (lv_at hl 0 rfl) ?_
    refine lv_ldiv hx hb nd_S_divideWithoutSign_31 (my_nzu h1) ?_
    refine my_cl (F := f_S_restAndQuotient ((f_S_withoutSign a1) - (f_S_withoutSign a1) / (f_S_withoutSign a2) * (f_S_withoutSign a2)) ((f_S_withoutSign a1) / (f_S_withoutSign a2))) (D := D0) (cl := []) (ws := []) (va_runS (As := [.long ((f_S_withoutSign a1) - (f_S_withoutSign a1) / (f_S_withoutSign a2) * (f_S_withoutSign a2)), .long ((f_S_withoutSign a1) / (f_S_withoutSign a2))]) (rest := []) ⟨hx, hb, hml, hown, hts⟩ (c_S_restAndQuotient l ((f_S_withoutSign a1) - (f_S_withoutSign a1) / (f_S_withoutSign a2) * (f_S_withoutSign a2)) ((f_S_withoutSign a1) / (f_S_withoutSign a2)) _ rfl) ⟨callB_of 2 hts (gw_in gw_254) rfl rfl rfl (hts _ gw_1) (hts _ gw_252) nh_S_restAndQuotient ⟨Nat.le_of_ble_eq_true rfl, Nat.le_of_ble_eq_true rfl⟩, (hts _ gw_253)⟩ my_preP rfl rfl hl.1 rfl (lv_room (Nat.le_of_ble_eq_true rfl)) nd_S_divideWithoutSign_32 ⟨Nat.le_of_ble_eq_true rfl, Nat.le_of_ble_eq_true rfl⟩) my_nil hS (fun H locs _ hS => ?_)
    exact my_rl hx hb hr hlocks hS hw nd_S_divideWithoutSign_35
  have hw := (if_pos h1).symm.trans hw
  refine lv_iload_n hx hb nd_S_divideWithoutSign_4 rfl (lv_at hl 0 rfl) ?_
  refine lv_i2l (v := a1.toInt64) hx hb nd_S_divideWithoutSign_5 rfl ?_
  refine lv_ldc2 (own := nR_S) (v := (-1 : Int64)) hx hb hown (hts _ gw_251) nd_S_divideWithoutSign_6 ?_
  refine my_cl (F := f_S_restAndQuotient a1.toInt64 (-1 : Int64)) (D := D0) (cl := []) (ws := []) (va_runS (As := [.long a1.toInt64, .long (-1 : Int64)]) (rest := []) ⟨hx, hb, hml, hown, hts⟩ (c_S_restAndQuotient l a1.toInt64 (-1 : Int64) _ rfl) ⟨callB_of 2 hts (gw_in gw_254) rfl rfl rfl (hts _ gw_1) (hts _ gw_252) nh_S_restAndQuotient ⟨Nat.le_of_ble_eq_true rfl, Nat.le_of_ble_eq_true rfl⟩, (hts _ gw_253)⟩ my_preP rfl rfl hl.1 rfl (lv_room (Nat.le_of_ble_eq_true rfl)) nd_S_divideWithoutSign_9 ⟨Nat.le_of_ble_eq_true rfl, Nat.le_of_ble_eq_true rfl⟩) my_nil hS (fun H locs _ hS => ?_)
  exact my_rl hx hb hr hlocks hS hw nd_S_divideWithoutSign_12
set_option maxHeartbeats 4000000 in
set_option maxRecDepth 100000 in
theorem c_S_numberI (l : Launch) (a1 : Int32) (F : Int32) (hw : f_S_numberI a1 = F) : MP l ny_S_numberI nw_S_numberI ({ frames := 0, cells := 0, slots := 0, locals := 0 }) ([.int a1] : List Value) F := by
  unfold MP
  refine my_inP (gw := GW) (cc := nc_S_numberI) (maxL := 1) (ret := (some .int)) (by decide) rfl (Nat.le_of_ble_eq_true rfl) ?_
  intro p e s m below meth c H locs ls hx hb hml hr hts hown hlocks hS hl
  have hown : s.vm.findClass nR_S = some m.cls := hown
  have hl : lv_has ls 1 [(0, .int a1)] := hl
  unfold f_S_numberI at hw
  refine lv_iload_n hx hb nd_S_numberI_0 rfl (lv_at hl 0 rfl) ?_
  refine lv_i2s (v := a1.toInt16.toInt32) hx hb nd_S_numberI_1 rfl ?_
  exact my_rp hx hb hr hlocks hS hw nd_S_numberI_2
set_option maxHeartbeats 4000000 in
set_option maxRecDepth 100000 in
theorem c_S_numberU (l : Launch) (a1 : Int32) (F : Int32) (hw : f_S_numberU a1 = F) : MP l ny_S_numberU nw_S_numberU ({ frames := 0, cells := 0, slots := 0, locals := 0 }) ([.int a1] : List Value) F := by
  unfold MP
  refine my_inP (gw := GW) (cc := nc_S_numberU) (maxL := 1) (ret := (some .int)) (by decide) rfl (Nat.le_of_ble_eq_true rfl) ?_
  intro p e s m below meth c H locs ls hx hb hml hr hts hown hlocks hS hl
  have hown : s.vm.findClass nR_S = some m.cls := hown
  have hl : lv_has ls 1 [(0, .int a1)] := hl
  unfold f_S_numberU at hw
  refine lv_iload_n hx hb nd_S_numberU_0 rfl (lv_at hl 0 rfl) ?_
  refine lv_ldc (own := nR_S) (v := (65535 : Int32)) hx hb hown (hts _ gw_302) nd_S_numberU_1 ?_
  refine lv_iand hx hb nd_S_numberU_3 ?_
  exact my_rp hx hb hr hlocks hS hw nd_S_numberU_4
set_option maxHeartbeats 4000000 in
set_option maxRecDepth 100000 in
theorem c_S_loadUnit (l : Launch) (a1 : Int32) (F : Int32) (hw : f_S_loadUnit a1 = F) : MP l ny_S_loadUnit nw_S_loadUnit ({ frames := 0, cells := 0, slots := 0, locals := 0 }) ([.int a1] : List Value) F := by
  unfold MP
  refine my_inP (gw := GW) (cc := nc_S_loadUnit) (maxL := 1) (ret := (some .int)) (by decide) rfl (Nat.le_of_ble_eq_true rfl) ?_
  intro p e s m below meth c H locs ls hx hb hml hr hts hown hlocks hS hl
  have hown : s.vm.findClass nR_S = some m.cls := hown
  have hl : lv_has ls 1 [(0, .int a1)] := hl
  unfold f_S_loadUnit at hw
  refine lv_iload_n hx hb nd_S_loadUnit_0 rfl (lv_at hl 0 rfl) ?_
  refine lv_bipush (v := (35 : Int32)) hx hb nd_S_loadUnit_1 (by decide) ?_
  refine lv_icmp_ne (tgt := 8) hx hb nd_S_loadUnit_3 (by decide) (fun h3 => ?_) (fun h3 => ?_)
  · have hw := (if_neg h3).symm.trans hw
    refine lv_iload_n hx hb nd_S_loadUnit_8 rfl (lv_at hl 0 rfl) ?_
    refine lv_bipush (v := (33 : Int32)) hx hb nd_S_loadUnit_9 (by decide) ?_
    refine lv_icmp_eq (tgt := 20) hx hb nd_S_loadUnit_11 (by decide) (fun h11 => ?_) (fun h11 => ?_)
    · have hw := (if_pos h11).symm.trans hw
      refine lv_iconst (v := (2 : Int32)) hx hb nd_S_loadUnit_20 (by decide) ?_
      refine lv_goto (tgt := 25) hx hb nd_S_loadUnit_21 (by decide) ?_
      exact my_rp hx hb hr hlocks hS hw nd_S_loadUnit_25
    have hw := (if_neg h11).symm.trans hw
    refine lv_iload_n hx hb nd_S_loadUnit_14 rfl (lv_at hl 0 rfl) ?_
    refine lv_bipush (v := (37 : Int32)) hx hb nd_S_loadUnit_15 (by decide) ?_
    refine lv_icmp_ne (tgt := 24) hx hb nd_S_loadUnit_17 (by decide) (fun h17 => ?_) (fun h17 => ?_)
    · have hw := (if_neg h17).symm.trans hw
      refine lv_iconst (v := (1 : Int32)) hx hb nd_S_loadUnit_24 (by decide) ?_
      exact my_rp hx hb hr hlocks hS hw nd_S_loadUnit_25
    have hw := (if_pos h17).symm.trans hw
    refine lv_iconst (v := (2 : Int32)) hx hb nd_S_loadUnit_20 (by decide) ?_
    refine lv_goto (tgt := 25) hx hb nd_S_loadUnit_21 (by decide) ?_
    exact my_rp hx hb hr hlocks hS hw nd_S_loadUnit_25
  have hw := (if_pos h3).symm.trans hw
  refine lv_iconst (v := (4 : Int32)) hx hb nd_S_loadUnit_6 (by decide) ?_
  exact my_rp hx hb hr hlocks hS hw nd_S_loadUnit_7
set_option maxHeartbeats 4000000 in
set_option maxRecDepth 100000 in
theorem c_S_toLowest (l : Launch) (a1 : Int32) (a2 : Int32) (F : Int32) (hw : f_S_toLowest a1 a2 = F) : MP l ny_S_toLowest nw_S_toLowest ({ frames := 0, cells := 0, slots := 0, locals := 0 }) ([.int a1, .int a2] : List Value) F := by
  unfold MP
  refine my_inP (gw := GW) (cc := nc_S_toLowest) (maxL := 2) (ret := (some .int)) (by decide) rfl (Nat.le_of_ble_eq_true rfl) ?_
  intro p e s m below meth c H locs ls hx hb hml hr hts hown hlocks hS hl
  have hown : s.vm.findClass nR_S = some m.cls := hown
  have hl : lv_has ls 2 [(0, .int a1), (1, .int a2)] := hl
  unfold f_S_toLowest at hw
  refine lv_bipush (v := (8 : Int32)) hx hb nd_S_toLowest_0 (by decide) ?_
  refine lv_iconst (v := (4 : Int32)) hx hb nd_S_toLowest_2 (by decide) ?_
  refine lv_iload_n hx hb nd_S_toLowest_3 rfl (lv_at hl 1 rfl) ?_
  refine lv_isub hx hb nd_S_toLowest_4 ?_
  refine lv_iload_n hx hb nd_S_toLowest_5 rfl (lv_at hl 0 rfl) ?_
  refine lv_iconst (v := (3 : Int32)) hx hb nd_S_toLowest_6 (by decide) ?_
  refine lv_iand hx hb nd_S_toLowest_7 ?_
  refine lv_isub hx hb nd_S_toLowest_8 ?_
  refine lv_imul hx hb nd_S_toLowest_9 ?_
  refine lv_bipush (v := (31 : Int32)) hx hb nd_S_toLowest_10 (by decide) ?_
  refine lv_iand hx hb nd_S_toLowest_12 ?_
  exact my_rp hx hb hr hlocks hS hw nd_S_toLowest_13
set_option maxHeartbeats 4000000 in
set_option maxRecDepth 100000 in
theorem c_S_bitsAhead (l : Launch) (a1 : Int32) (F : Int32) (hw : f_S_bitsAhead a1 = F) : MP l ny_S_bitsAhead nw_S_bitsAhead ({ frames := 0, cells := 0, slots := 0, locals := 0 }) ([.int a1] : List Value) F := by
  unfold MP
  refine my_inP (gw := GW) (cc := nc_S_bitsAhead) (maxL := 1) (ret := (some .int)) (by decide) rfl (Nat.le_of_ble_eq_true rfl) ?_
  intro p e s m below meth c H locs ls hx hb hml hr hts hown hlocks hS hl
  have hown : s.vm.findClass nR_S = some m.cls := hown
  have hl : lv_has ls 1 [(0, .int a1)] := hl
  unfold f_S_bitsAhead at hw
  refine lv_bipush (v := (8 : Int32)) hx hb nd_S_bitsAhead_0 (by decide) ?_
  refine lv_iload_n hx hb nd_S_bitsAhead_2 rfl (lv_at hl 0 rfl) ?_
  refine lv_iconst (v := (3 : Int32)) hx hb nd_S_bitsAhead_3 (by decide) ?_
  refine lv_iand hx hb nd_S_bitsAhead_4 ?_
  refine lv_imul hx hb nd_S_bitsAhead_5 ?_
  exact my_rp hx hb hr hlocks hS hw nd_S_bitsAhead_6
set_option maxHeartbeats 4000000 in
set_option maxRecDepth 100000 in
theorem c_S_joinLoaded (l : Launch) (a1 : Int32) (a2 : Int32) (a3 : Int32) (a4 : Int32) (F : Int32) (hw : f_S_joinLoaded a1 a2 a3 a4 = F) : MP l ny_S_joinLoaded nw_S_joinLoaded ({ frames := 1, cells := 0, slots := 0, locals := 22 }) ([.int a1, .int a2, .int a3, .int a4] : List Value) F := by
  unfold MP
  refine my_inP (gw := GW) (cc := nc_S_joinLoaded) (maxL := 7) (ret := (some .int)) (by decide) rfl (Nat.le_of_ble_eq_true rfl) ?_
  intro p e s m below meth c H locs ls hx hb hml hr hts hown hlocks hS hl
  have hown : s.vm.findClass nR_S = some m.cls := hown
  have hl : lv_has ls 7 [(0, .int a1), (1, .int a2), (2, .int a3), (3, .int a4)] := hl
  unfold f_S_joinLoaded at hw
  refine lv_iload_n hx hb nd_S_joinLoaded_0 rfl (lv_at hl 3 rfl) ?_
  refine lv_iconst (v := (1 : Int32)) hx hb nd_S_joinLoaded_1 (by decide) ?_
  refine my_cp (F := f_S_toLowest a4 (1 : Int32)) (D := D0) (cl := []) (ws := []) (va_runS (As := [.int a4, .int (1 : Int32)]) (rest := []) ⟨hx, hb, hml, hown, hts⟩ (c_S_toLowest l a4 (1 : Int32) _ rfl) ⟨callB_of 2 hts (gw_in gw_341) rfl rfl rfl (hts _ gw_1) (hts _ gw_339) nh_S_toLowest ⟨Nat.le_of_ble_eq_true rfl, Nat.le_of_ble_eq_true rfl⟩, (hts _ gw_340)⟩ my_preP rfl rfl hl.1 rfl (lv_room (Nat.le_of_ble_eq_true rfl)) nd_S_joinLoaded_2 ⟨Nat.le_of_ble_eq_true rfl, Nat.le_of_ble_eq_true rfl⟩) my_nil hS (fun H locs _ hS => ?_)
  refine lv_istore (lv' := [(4, .int (f_S_toLowest a4 (1 : Int32))), (0, .int a1), (1, .int a2), (2, .int a3), (3, .int a4)]) hx hb nd_S_joinLoaded_5 hl (by decide) rfl (fun ls hl => ?_)
  refine lv_iload_n hx hb nd_S_joinLoaded_7 rfl (lv_at hl 4 rfl) ?_
  refine lv_iconst (v := (2 : Int32)) hx hb nd_S_joinLoaded_8 (by decide) ?_
  refine my_cp (F := f_S_toLowest a4 (2 : Int32)) (D := D0) (cl := []) (ws := []) (va_runS (As := [.int a4, .int (2 : Int32)]) (rest := []) ⟨hx, hb, hml, hown, hts⟩ (c_S_toLowest l a4 (2 : Int32) _ rfl) ⟨callB_of 2 hts (gw_in gw_341) rfl rfl rfl (hts _ gw_1) (hts _ gw_339) nh_S_toLowest ⟨Nat.le_of_ble_eq_true rfl, Nat.le_of_ble_eq_true rfl⟩, (hts _ gw_340)⟩ my_preP rfl rfl hl.1 rfl (lv_room (Nat.le_of_ble_eq_true rfl)) nd_S_joinLoaded_9 ⟨Nat.le_of_ble_eq_true rfl, Nat.le_of_ble_eq_true rfl⟩) my_nil hS (fun H locs _ hS => ?_)
  refine lv_istore (lv' := [(5, .int (f_S_toLowest a4 (2 : Int32))), (4, .int (f_S_toLowest a4 (1 : Int32))), (0, .int a1), (1, .int a2), (2, .int a3), (3, .int a4)]) hx hb nd_S_joinLoaded_12 hl (by decide) rfl (fun ls hl => ?_)
  refine lv_iload_n hx hb nd_S_joinLoaded_14 rfl (lv_at hl 5 rfl) ?_
  refine my_cp (F := f_S_bitsAhead a4) (D := D0) (cl := []) (ws := []) (va_runS (As := [.int a4]) (rest := []) ⟨hx, hb, hml, hown, hts⟩ (c_S_bitsAhead l a4 _ rfl) ⟨callB_of 1 hts (gw_in gw_344) rfl rfl rfl (hts _ gw_1) (hts _ gw_342) nh_S_bitsAhead ⟨Nat.le_of_ble_eq_true rfl, Nat.le_of_ble_eq_true rfl⟩, (hts _ gw_343)⟩ my_preP rfl rfl hl.1 rfl (lv_room (Nat.le_of_ble_eq_true rfl)) nd_S_joinLoaded_15 ⟨Nat.le_of_ble_eq_true rfl, Nat.le_of_ble_eq_true rfl⟩) my_nil hS (fun H locs _ hS => ?_)
  refine lv_istore (lv' := [(6, .int (f_S_bitsAhead a4)), (5, .int (f_S_toLowest a4 (2 : Int32))), (4, .int (f_S_toLowest a4 (1 : Int32))), (0, .int a1), (1, .int a2), (2, .int a3), (3, .int a4)]) hx hb nd_S_joinLoaded_18 hl (by decide) rfl (fun ls hl => ?_)
  refine lv_iload_n hx hb nd_S_joinLoaded_20 rfl (lv_at hl 3 rfl) ?_
  rcases my_em (x := a1) (32 : Int32) with h21_32 | h21_32
  · have hw := (if_pos h21_32).symm.trans hw
    refine my_swi (tgt := 60) hx hb nd_S_joinLoaded_21 h21_32 (by decide) (by decide) rfl (by decide) ?_
    refine lv_iload_n hx hb nd_S_joinLoaded_60 rfl (lv_at hl 5 rfl) ?_
    refine lv_iload hx hb nd_S_joinLoaded_61 (lv_at hl 2 rfl) ?_
    refine lv_ishr hx hb nd_S_joinLoaded_63 ?_
    refine lv_i2b (v := (a3 >>> ((f_S_toLowest a4 (1 : Int32)) &&& 31)).toInt8.toInt32) hx hb nd_S_joinLoaded_64 rfl ?_
    exact my_rp hx hb hr hlocks hS hw nd_S_joinLoaded_65
  have hw := (if_neg h21_32).symm.trans hw
  rcases my_em (x := a1) (33 : Int32) with h21_33 | h21_33
  · have hw := (if_pos h21_33).symm.trans hw
    refine my_swi (tgt := 66) hx hb nd_S_joinLoaded_21 h21_33 (by decide) (by decide) rfl (by decide) ?_
    refine lv_iload_n hx hb nd_S_joinLoaded_66 rfl (lv_at hl 5 rfl) ?_
    refine lv_iload hx hb nd_S_joinLoaded_67 (lv_at hl 1 rfl) ?_
    refine lv_ishr hx hb nd_S_joinLoaded_69 ?_
    refine lv_i2s (v := (a3 >>> ((f_S_toLowest a4 (2 : Int32)) &&& 31)).toInt16.toInt32) hx hb nd_S_joinLoaded_70 rfl ?_
    exact my_rp hx hb hr hlocks hS hw nd_S_joinLoaded_71
  have hw := (if_neg h21_33).symm.trans hw
  rcases my_em (x := a1) (34 : Int32) with h21_34 | h21_34
  · have hw := (if_pos h21_34).symm.trans hw
    refine my_swi (tgt := 72) hx hb nd_S_joinLoaded_21 h21_34 (by decide) (by decide) rfl (by decide) ?_
    refine lv_iload_n hx hb nd_S_joinLoaded_72 rfl (lv_at hl 4 rfl) ?_
    refine lv_iload_n hx hb nd_S_joinLoaded_73 rfl (lv_at hl 5 rfl) ?_
    refine lv_iload hx hb nd_S_joinLoaded_74 (lv_at hl 0 rfl) ?_
    refine lv_ishl hx hb nd_S_joinLoaded_76 ?_
    refine lv_iconst (v := (-1 : Int32)) hx hb nd_S_joinLoaded_77 (by decide) ?_
    refine lv_iload hx hb nd_S_joinLoaded_78 (lv_at hl 0 rfl) ?_
    refine lv_ishl hx hb nd_S_joinLoaded_80 ?_
    refine my_cp (F := f_S_exchange a2 (a3 <<< ((f_S_bitsAhead a4) &&& 31)) ((-1 : Int32) <<< ((f_S_bitsAhead a4) &&& 31))) (D := D0) (cl := []) (ws := []) (va_runS (As := [.int a2, .int (a3 <<< ((f_S_bitsAhead a4) &&& 31)), .int ((-1 : Int32) <<< ((f_S_bitsAhead a4) &&& 31))]) (rest := []) ⟨hx, hb, hml, hown, hts⟩ (c_S_exchange l a2 (a3 <<< ((f_S_bitsAhead a4) &&& 31)) ((-1 : Int32) <<< ((f_S_bitsAhead a4) &&& 31)) _ rfl) ⟨callB_of 3 hts (gw_in gw_116) rfl rfl rfl (hts _ gw_1) (hts _ gw_345) nh_S_exchange ⟨Nat.le_of_ble_eq_true rfl, Nat.le_of_ble_eq_true rfl⟩, (hts _ gw_115)⟩ my_preP rfl rfl hl.1 rfl (lv_room (Nat.le_of_ble_eq_true rfl)) nd_S_joinLoaded_81 ⟨Nat.le_of_ble_eq_true rfl, Nat.le_of_ble_eq_true rfl⟩) my_nil hS (fun H locs _ hS => ?_)
    exact my_rp hx hb hr hlocks hS hw nd_S_joinLoaded_84
  have hw := (if_neg h21_34).symm.trans hw
  rcases my_em (x := a1) (35 : Int32) with h21_35 | h21_35
  · have hw := (if_pos h21_35).symm.trans hw
    refine my_swi (tgt := 85) hx hb nd_S_joinLoaded_21 h21_35 (by decide) (by decide) rfl (by decide) ?_
    refine lv_iload_n hx hb nd_S_joinLoaded_85 rfl (lv_at hl 5 rfl) ?_
    exact my_rp hx hb hr hlocks hS hw nd_S_joinLoaded_86
  have hw := (if_neg h21_35).symm.trans hw
  rcases my_em (x := a1) (36 : Int32) with h21_36 | h21_36
  · have hw := (if_pos h21_36).symm.trans hw
    refine my_swi (tgt := 87) hx hb nd_S_joinLoaded_21 h21_36 (by decide) (by decide) rfl (by decide) ?_
    refine lv_iload_n hx hb nd_S_joinLoaded_87 rfl (lv_at hl 5 rfl) ?_
    refine lv_iload hx hb nd_S_joinLoaded_88 (lv_at hl 2 rfl) ?_
    refine lv_ishr hx hb nd_S_joinLoaded_90 ?_
    refine lv_sipush (v := (255 : Int32)) hx hb nd_S_joinLoaded_91 (by decide) ?_
    refine lv_iand hx hb nd_S_joinLoaded_94 ?_
    exact my_rp hx hb hr hlocks hS hw nd_S_joinLoaded_95
  have hw := (if_neg h21_36).symm.trans hw
  rcases my_em (x := a1) (37 : Int32) with h21_37 | h21_37
  · have hw := (if_pos h21_37).symm.trans hw
    refine my_swi (tgt := 96) hx hb nd_S_joinLoaded_21 h21_37 (by decide) (by decide) rfl (by decide) ?_
    refine lv_iload_n hx hb nd_S_joinLoaded_96 rfl (lv_at hl 5 rfl) ?_
    refine lv_iload hx hb nd_S_joinLoaded_97 (lv_at hl 1 rfl) ?_
    refine lv_ishr hx hb nd_S_joinLoaded_99 ?_
    refine lv_ldc (own := nR_S) (v := (65535 : Int32)) hx hb hown (hts _ gw_302) nd_S_joinLoaded_100 ?_
    refine lv_iand hx hb nd_S_joinLoaded_102 ?_
    exact my_rp hx hb hr hlocks hS hw nd_S_joinLoaded_103
  have hw := (if_neg h21_37).symm.trans hw
  refine my_swd (tgt := 104) hx hb nd_S_joinLoaded_21 (my_nec h21_32 (my_nec h21_33 (my_nec h21_34 (my_nec h21_35 (my_nec h21_36 (my_nec h21_37 my_nen)))))) (by decide +kernel) (by decide) ?_
  refine lv_iload_n hx hb nd_S_joinLoaded_104 rfl (lv_at hl 4 rfl) ?_
  refine lv_iload_n hx hb nd_S_joinLoaded_105 rfl (lv_at hl 5 rfl) ?_
  refine lv_iload hx hb nd_S_joinLoaded_106 (lv_at hl 2 rfl) ?_
  refine lv_iushr (v := ush a3 (f_S_toLowest a4 (1 : Int32))) hx hb nd_S_joinLoaded_108 rfl ?_
  refine lv_iconst (v := (-1 : Int32)) hx hb nd_S_joinLoaded_109 (by decide) ?_
  refine lv_iload hx hb nd_S_joinLoaded_110 (lv_at hl 2 rfl) ?_
  refine lv_iushr (v := ush (-1 : Int32) (f_S_toLowest a4 (1 : Int32))) hx hb nd_S_joinLoaded_112 rfl ?_
  refine my_cp (F := f_S_exchange a2 (ush a3 (f_S_toLowest a4 (1 : Int32))) (ush (-1 : Int32) (f_S_toLowest a4 (1 : Int32)))) (D := D0) (cl := []) (ws := []) (va_runS (As := [.int a2, .int (ush a3 (f_S_toLowest a4 (1 : Int32))), .int (ush (-1 : Int32) (f_S_toLowest a4 (1 : Int32)))]) (rest := []) ⟨hx, hb, hml, hown, hts⟩ (c_S_exchange l a2 (ush a3 (f_S_toLowest a4 (1 : Int32))) (ush (-1 : Int32) (f_S_toLowest a4 (1 : Int32))) _ rfl) ⟨callB_of 3 hts (gw_in gw_116) rfl rfl rfl (hts _ gw_1) (hts _ gw_345) nh_S_exchange ⟨Nat.le_of_ble_eq_true rfl, Nat.le_of_ble_eq_true rfl⟩, (hts _ gw_115)⟩ my_preP rfl rfl hl.1 rfl (lv_room (Nat.le_of_ble_eq_true rfl)) nd_S_joinLoaded_113 ⟨Nat.le_of_ble_eq_true rfl, Nat.le_of_ble_eq_true rfl⟩) my_nil hS (fun H locs _ hS => ?_)
  exact my_rp hx hb hr hlocks hS hw nd_S_joinLoaded_116
set_option maxHeartbeats 4000000 in
set_option maxRecDepth 100000 in
theorem c_S_storeUnit (l : Launch) (a1 : Int32) (F : Int32) (hw : f_S_storeUnit a1 = F) : MP l ny_S_storeUnit nw_S_storeUnit ({ frames := 0, cells := 0, slots := 0, locals := 0 }) ([.int a1] : List Value) F := by
  unfold MP
  refine my_inP (gw := GW) (cc := nc_S_storeUnit) (maxL := 1) (ret := (some .int)) (by decide) rfl (Nat.le_of_ble_eq_true rfl) ?_
  intro p e s m below meth c H locs ls hx hb hml hr hts hown hlocks hS hl
  have hown : s.vm.findClass nR_S = some m.cls := hown
  have hl : lv_has ls 1 [(0, .int a1)] := hl
  unfold f_S_storeUnit at hw
  refine lv_iload_n hx hb nd_S_storeUnit_0 rfl (lv_at hl 0 rfl) ?_
  refine lv_bipush (v := (43 : Int32)) hx hb nd_S_storeUnit_1 (by decide) ?_
  refine lv_icmp_ne (tgt := 8) hx hb nd_S_storeUnit_3 (by decide) (fun h3 => ?_) (fun h3 => ?_)
  · have hw := (if_neg h3).symm.trans hw
    refine lv_iload_n hx hb nd_S_storeUnit_8 rfl (lv_at hl 0 rfl) ?_
    refine lv_bipush (v := (41 : Int32)) hx hb nd_S_storeUnit_9 (by decide) ?_
    refine lv_icmp_ne (tgt := 18) hx hb nd_S_storeUnit_11 (by decide) (fun h11 => ?_) (fun h11 => ?_)
    · have hw := (if_neg h11).symm.trans hw
      refine lv_iconst (v := (1 : Int32)) hx hb nd_S_storeUnit_18 (by decide) ?_
      exact my_rp hx hb hr hlocks hS hw nd_S_storeUnit_19
    have hw := (if_pos h11).symm.trans hw
    refine lv_iconst (v := (2 : Int32)) hx hb nd_S_storeUnit_14 (by decide) ?_
    refine lv_goto (tgt := 19) hx hb nd_S_storeUnit_15 (by decide) ?_
    exact my_rp hx hb hr hlocks hS hw nd_S_storeUnit_19
  have hw := (if_pos h3).symm.trans hw
  refine lv_iconst (v := (4 : Int32)) hx hb nd_S_storeUnit_6 (by decide) ?_
  exact my_rp hx hb hr hlocks hS hw nd_S_storeUnit_7
set_option maxHeartbeats 4000000 in
set_option maxRecDepth 100000 in
theorem c_S_joinStored (l : Launch) (a1 : Int32) (a2 : Int32) (a3 : Int32) (a4 : Int32) (F : Int32) (hw : f_S_joinStored a1 a2 a3 a4 = F) : MP l ny_S_joinStored nw_S_joinStored ({ frames := 1, cells := 0, slots := 0, locals := 22 }) ([.int a1, .int a2, .int a3, .int a4] : List Value) F := by
  unfold MP
  refine my_inP (gw := GW) (cc := nc_S_joinStored) (maxL := 7) (ret := (some .int)) (by decide) rfl (Nat.le_of_ble_eq_true rfl) ?_
  intro p e s m below meth c H locs ls hx hb hml hr hts hown hlocks hS hl
  have hown : s.vm.findClass nR_S = some m.cls := hown
  have hl : lv_has ls 7 [(0, .int a1), (1, .int a2), (2, .int a3), (3, .int a4)] := hl
  unfold f_S_joinStored at hw
  refine lv_iload_n hx hb nd_S_joinStored_0 rfl (lv_at hl 3 rfl) ?_
  refine lv_iconst (v := (1 : Int32)) hx hb nd_S_joinStored_1 (by decide) ?_
  refine my_cp (F := f_S_toLowest a4 (1 : Int32)) (D := D0) (cl := []) (ws := []) (va_runS (As := [.int a4, .int (1 : Int32)]) (rest := []) ⟨hx, hb, hml, hown, hts⟩ (c_S_toLowest l a4 (1 : Int32) _ rfl) ⟨callB_of 2 hts (gw_in gw_341) rfl rfl rfl (hts _ gw_1) (hts _ gw_339) nh_S_toLowest ⟨Nat.le_of_ble_eq_true rfl, Nat.le_of_ble_eq_true rfl⟩, (hts _ gw_340)⟩ my_preP rfl rfl hl.1 rfl (lv_room (Nat.le_of_ble_eq_true rfl)) nd_S_joinStored_2 ⟨Nat.le_of_ble_eq_true rfl, Nat.le_of_ble_eq_true rfl⟩) my_nil hS (fun H locs _ hS => ?_)
  refine lv_istore (lv' := [(4, .int (f_S_toLowest a4 (1 : Int32))), (0, .int a1), (1, .int a2), (2, .int a3), (3, .int a4)]) hx hb nd_S_joinStored_5 hl (by decide) rfl (fun ls hl => ?_)
  refine lv_iload_n hx hb nd_S_joinStored_7 rfl (lv_at hl 4 rfl) ?_
  refine lv_iconst (v := (2 : Int32)) hx hb nd_S_joinStored_8 (by decide) ?_
  refine my_cp (F := f_S_toLowest a4 (2 : Int32)) (D := D0) (cl := []) (ws := []) (va_runS (As := [.int a4, .int (2 : Int32)]) (rest := []) ⟨hx, hb, hml, hown, hts⟩ (c_S_toLowest l a4 (2 : Int32) _ rfl) ⟨callB_of 2 hts (gw_in gw_341) rfl rfl rfl (hts _ gw_1) (hts _ gw_339) nh_S_toLowest ⟨Nat.le_of_ble_eq_true rfl, Nat.le_of_ble_eq_true rfl⟩, (hts _ gw_340)⟩ my_preP rfl rfl hl.1 rfl (lv_room (Nat.le_of_ble_eq_true rfl)) nd_S_joinStored_9 ⟨Nat.le_of_ble_eq_true rfl, Nat.le_of_ble_eq_true rfl⟩) my_nil hS (fun H locs _ hS => ?_)
  refine lv_istore (lv' := [(5, .int (f_S_toLowest a4 (2 : Int32))), (4, .int (f_S_toLowest a4 (1 : Int32))), (0, .int a1), (1, .int a2), (2, .int a3), (3, .int a4)]) hx hb nd_S_joinStored_12 hl (by decide) rfl (fun ls hl => ?_)
  refine lv_iload_n hx hb nd_S_joinStored_14 rfl (lv_at hl 5 rfl) ?_
  refine my_cp (F := f_S_bitsAhead a4) (D := D0) (cl := []) (ws := []) (va_runS (As := [.int a4]) (rest := []) ⟨hx, hb, hml, hown, hts⟩ (c_S_bitsAhead l a4 _ rfl) ⟨callB_of 1 hts (gw_in gw_344) rfl rfl rfl (hts _ gw_1) (hts _ gw_342) nh_S_bitsAhead ⟨Nat.le_of_ble_eq_true rfl, Nat.le_of_ble_eq_true rfl⟩, (hts _ gw_343)⟩ my_preP rfl rfl hl.1 rfl (lv_room (Nat.le_of_ble_eq_true rfl)) nd_S_joinStored_15 ⟨Nat.le_of_ble_eq_true rfl, Nat.le_of_ble_eq_true rfl⟩) my_nil hS (fun H locs _ hS => ?_)
  refine lv_istore (lv' := [(6, .int (f_S_bitsAhead a4)), (5, .int (f_S_toLowest a4 (2 : Int32))), (4, .int (f_S_toLowest a4 (1 : Int32))), (0, .int a1), (1, .int a2), (2, .int a3), (3, .int a4)]) hx hb nd_S_joinStored_18 hl (by decide) rfl (fun ls hl => ?_)
  refine lv_iload_n hx hb nd_S_joinStored_20 rfl (lv_at hl 3 rfl) ?_
  rcases my_em (x := a1) (40 : Int32) with h21_40 | h21_40
  · have hw := (if_pos h21_40).symm.trans hw
    refine my_swi (tgt := 52) hx hb nd_S_joinStored_21 h21_40 (by decide) (by decide) rfl (by decide) ?_
    refine lv_iload_n hx hb nd_S_joinStored_52 rfl (lv_at hl 4 rfl) ?_
    refine lv_iload_n hx hb nd_S_joinStored_53 rfl (lv_at hl 5 rfl) ?_
    refine lv_iload hx hb nd_S_joinStored_54 (lv_at hl 2 rfl) ?_
    refine lv_ishl hx hb nd_S_joinStored_56 ?_
    refine lv_sipush (v := (255 : Int32)) hx hb nd_S_joinStored_57 (by decide) ?_
    refine lv_iload hx hb nd_S_joinStored_60 (lv_at hl 2 rfl) ?_
    refine lv_ishl hx hb nd_S_joinStored_62 ?_
    refine my_cp (F := f_S_exchange a2 (a3 <<< ((f_S_toLowest a4 (1 : Int32)) &&& 31)) ((255 : Int32) <<< ((f_S_toLowest a4 (1 : Int32)) &&& 31))) (D := D0) (cl := []) (ws := []) (va_runS (As := [.int a2, .int (a3 <<< ((f_S_toLowest a4 (1 : Int32)) &&& 31)), .int ((255 : Int32) <<< ((f_S_toLowest a4 (1 : Int32)) &&& 31))]) (rest := []) ⟨hx, hb, hml, hown, hts⟩ (c_S_exchange l a2 (a3 <<< ((f_S_toLowest a4 (1 : Int32)) &&& 31)) ((255 : Int32) <<< ((f_S_toLowest a4 (1 : Int32)) &&& 31)) _ rfl) ⟨callB_of 3 hts (gw_in gw_116) rfl rfl rfl (hts _ gw_1) (hts _ gw_345) nh_S_exchange ⟨Nat.le_of_ble_eq_true rfl, Nat.le_of_ble_eq_true rfl⟩, (hts _ gw_115)⟩ my_preP rfl rfl hl.1 rfl (lv_room (Nat.le_of_ble_eq_true rfl)) nd_S_joinStored_63 ⟨Nat.le_of_ble_eq_true rfl, Nat.le_of_ble_eq_true rfl⟩) my_nil hS (fun H locs _ hS => ?_)
    exact my_rp hx hb hr hlocks hS hw nd_S_joinStored_66
  have hw := (if_neg h21_40).symm.trans hw
  rcases my_em (x := a1) (41 : Int32) with h21_41 | h21_41
  · have hw := (if_pos h21_41).symm.trans hw
    refine my_swi (tgt := 67) hx hb nd_S_joinStored_21 h21_41 (by decide) (by decide) rfl (by decide) ?_
    refine lv_iload_n hx hb nd_S_joinStored_67 rfl (lv_at hl 4 rfl) ?_
    refine lv_iload_n hx hb nd_S_joinStored_68 rfl (lv_at hl 5 rfl) ?_
    refine lv_iload hx hb nd_S_joinStored_69 (lv_at hl 1 rfl) ?_
    refine lv_ishl hx hb nd_S_joinStored_71 ?_
    refine lv_ldc (own := nR_S) (v := (65535 : Int32)) hx hb hown (hts _ gw_302) nd_S_joinStored_72 ?_
    refine lv_iload hx hb nd_S_joinStored_74 (lv_at hl 1 rfl) ?_
    refine lv_ishl hx hb nd_S_joinStored_76 ?_
    refine my_cp (F := f_S_exchange a2 (a3 <<< ((f_S_toLowest a4 (2 : Int32)) &&& 31)) ((65535 : Int32) <<< ((f_S_toLowest a4 (2 : Int32)) &&& 31))) (D := D0) (cl := []) (ws := []) (va_runS (As := [.int a2, .int (a3 <<< ((f_S_toLowest a4 (2 : Int32)) &&& 31)), .int ((65535 : Int32) <<< ((f_S_toLowest a4 (2 : Int32)) &&& 31))]) (rest := []) ⟨hx, hb, hml, hown, hts⟩ (c_S_exchange l a2 (a3 <<< ((f_S_toLowest a4 (2 : Int32)) &&& 31)) ((65535 : Int32) <<< ((f_S_toLowest a4 (2 : Int32)) &&& 31)) _ rfl) ⟨callB_of 3 hts (gw_in gw_116) rfl rfl rfl (hts _ gw_1) (hts _ gw_345) nh_S_exchange ⟨Nat.le_of_ble_eq_true rfl, Nat.le_of_ble_eq_true rfl⟩, (hts _ gw_115)⟩ my_preP rfl rfl hl.1 rfl (lv_room (Nat.le_of_ble_eq_true rfl)) nd_S_joinStored_77 ⟨Nat.le_of_ble_eq_true rfl, Nat.le_of_ble_eq_true rfl⟩) my_nil hS (fun H locs _ hS => ?_)
    exact my_rp hx hb hr hlocks hS hw nd_S_joinStored_80
  have hw := (if_neg h21_41).symm.trans hw
  rcases my_em (x := a1) (42 : Int32) with h21_42 | h21_42
  · have hw := (if_pos h21_42).symm.trans hw
    refine my_swi (tgt := 81) hx hb nd_S_joinStored_21 h21_42 (by decide) (by decide) rfl (by decide) ?_
    refine lv_iload_n hx hb nd_S_joinStored_81 rfl (lv_at hl 4 rfl) ?_
    refine lv_iload_n hx hb nd_S_joinStored_82 rfl (lv_at hl 5 rfl) ?_
    refine lv_iload hx hb nd_S_joinStored_83 (lv_at hl 0 rfl) ?_
    refine lv_iushr (v := ush a3 (f_S_bitsAhead a4)) hx hb nd_S_joinStored_85 rfl ?_
    refine lv_iconst (v := (-1 : Int32)) hx hb nd_S_joinStored_86 (by decide) ?_
    refine lv_iload hx hb nd_S_joinStored_87 (lv_at hl 0 rfl) ?_
    refine lv_iushr (v := ush (-1 : Int32) (f_S_bitsAhead a4)) hx hb nd_S_joinStored_89 rfl ?_
    refine my_cp (F := f_S_exchange a2 (ush a3 (f_S_bitsAhead a4)) (ush (-1 : Int32) (f_S_bitsAhead a4))) (D := D0) (cl := []) (ws := []) (va_runS (As := [.int a2, .int (ush a3 (f_S_bitsAhead a4)), .int (ush (-1 : Int32) (f_S_bitsAhead a4))]) (rest := []) ⟨hx, hb, hml, hown, hts⟩ (c_S_exchange l a2 (ush a3 (f_S_bitsAhead a4)) (ush (-1 : Int32) (f_S_bitsAhead a4)) _ rfl) ⟨callB_of 3 hts (gw_in gw_116) rfl rfl rfl (hts _ gw_1) (hts _ gw_345) nh_S_exchange ⟨Nat.le_of_ble_eq_true rfl, Nat.le_of_ble_eq_true rfl⟩, (hts _ gw_115)⟩ my_preP rfl rfl hl.1 rfl (lv_room (Nat.le_of_ble_eq_true rfl)) nd_S_joinStored_90 ⟨Nat.le_of_ble_eq_true rfl, Nat.le_of_ble_eq_true rfl⟩) my_nil hS (fun H locs _ hS => ?_)
    exact my_rp hx hb hr hlocks hS hw nd_S_joinStored_93
  have hw := (if_neg h21_42).symm.trans hw
  rcases my_em (x := a1) (43 : Int32) with h21_43 | h21_43
  · have hw := (if_pos h21_43).symm.trans hw
    refine my_swi (tgt := 94) hx hb nd_S_joinStored_21 h21_43 (by decide) (by decide) rfl (by decide) ?_
    refine lv_iload_n hx hb nd_S_joinStored_94 rfl (lv_at hl 5 rfl) ?_
    exact my_rp hx hb hr hlocks hS hw nd_S_joinStored_95
  have hw := (if_neg h21_43).symm.trans hw
  refine my_swd (tgt := 96) hx hb nd_S_joinStored_21 (my_nec h21_40 (my_nec h21_41 (my_nec h21_42 (my_nec h21_43 my_nen)))) (by decide +kernel) (by decide) ?_
  refine lv_iload_n hx hb nd_S_joinStored_96 rfl (lv_at hl 4 rfl) ?_
  refine lv_iload_n hx hb nd_S_joinStored_97 rfl (lv_at hl 5 rfl) ?_
  refine lv_iload hx hb nd_S_joinStored_98 (lv_at hl 2 rfl) ?_
  refine lv_ishl hx hb nd_S_joinStored_100 ?_
  refine lv_iconst (v := (-1 : Int32)) hx hb nd_S_joinStored_101 (by decide) ?_
  refine lv_iload hx hb nd_S_joinStored_102 (lv_at hl 2 rfl) ?_
  refine lv_ishl hx hb nd_S_joinStored_104 ?_
  refine my_cp (F := f_S_exchange a2 (a3 <<< ((f_S_toLowest a4 (1 : Int32)) &&& 31)) ((-1 : Int32) <<< ((f_S_toLowest a4 (1 : Int32)) &&& 31))) (D := D0) (cl := []) (ws := []) (va_runS (As := [.int a2, .int (a3 <<< ((f_S_toLowest a4 (1 : Int32)) &&& 31)), .int ((-1 : Int32) <<< ((f_S_toLowest a4 (1 : Int32)) &&& 31))]) (rest := []) ⟨hx, hb, hml, hown, hts⟩ (c_S_exchange l a2 (a3 <<< ((f_S_toLowest a4 (1 : Int32)) &&& 31)) ((-1 : Int32) <<< ((f_S_toLowest a4 (1 : Int32)) &&& 31)) _ rfl) ⟨callB_of 3 hts (gw_in gw_116) rfl rfl rfl (hts _ gw_1) (hts _ gw_345) nh_S_exchange ⟨Nat.le_of_ble_eq_true rfl, Nat.le_of_ble_eq_true rfl⟩, (hts _ gw_115)⟩ my_preP rfl rfl hl.1 rfl (lv_room (Nat.le_of_ble_eq_true rfl)) nd_S_joinStored_105 ⟨Nat.le_of_ble_eq_true rfl, Nat.le_of_ble_eq_true rfl⟩) my_nil hS (fun H locs _ hS => ?_)
  exact my_rp hx hb hr hlocks hS hw nd_S_joinStored_108
