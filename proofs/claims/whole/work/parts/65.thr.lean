/-! the seven methods where they throw -/
def nR_N : String := "java/util/NoSuchElementException"
def nR_I : String := "java/lang/IllegalArgumentException"
def nsX : List String := ["java/lang/RuntimeException", "java/lang/Exception"]
def GT : List Cond := .initialized nR_N :: .initialized nR_I :: .classLink nR_S 59 nR_N :: .classLink nR_S 86 nR_I :: (GX nR_S 61 nR_N nsX ++ GX nR_S 88 nR_I nsX)
def GV : List Cond := GW ++ GT
theorem gt_ok : GT.all okW = true := by decide +kernel
theorem gv_ok : GV.all okW = true := by
  unfold GV
  rw [List.all_append, Bool.and_eq_true]
  refine ⟨List.all_eq_true.mpr (fun w hw => ?_), gt_ok⟩
  simp only [okW, Bool.or_eq_true]
  exact Or.inr (List.all_eq_true.mp gw_good w hw)
def rmX : Room := { frames := 6, cells := 1, slots := 6, locals := 100 }
theorem gx_N : (Bundle.ownAtoms0 nR_S 61 nR_N nsX).all (fun w => hpW w || decide (w = .isRef (.static Bundle.tN "UNASSIGNED_STACK" Bundle.steD)) || decide (w = .isRef (.static Bundle.tN "SUPPRESSED_SENTINEL" Bundle.listD)) || decide (w = .laysStatic Bundle.tN "UNASSIGNED_STACK" Bundle.steD) || decide (w = .laysStatic Bundle.tN "SUPPRESSED_SENTINEL" Bundle.listD)) = true := by decide +kernel
theorem gx_I : (Bundle.ownAtoms0 nR_S 88 nR_I nsX).all (fun w => hpW w || decide (w = .isRef (.static Bundle.tN "UNASSIGNED_STACK" Bundle.steD)) || decide (w = .isRef (.static Bundle.tN "SUPPRESSED_SENTINEL" Bundle.listD)) || decide (w = .laysStatic Bundle.tN "UNASSIGNED_STACK" Bundle.steD) || decide (w = .laysStatic Bundle.tN "SUPPRESSED_SENTINEL" Bundle.listD)) = true := by decide +kernel
theorem gt_N {w : Cond} (h : w ∈ GX nR_S 61 nR_N nsX) : w ∈ GV := List.mem_append_right _ (List.mem_cons_of_mem _ (List.mem_cons_of_mem _ (List.mem_cons_of_mem _ (List.mem_cons_of_mem _ (List.mem_append_left _ h)))))
theorem gt_I {w : Cond} (h : w ∈ GX nR_S 88 nR_I nsX) : w ∈ GV := List.mem_append_right _ (List.mem_cons_of_mem _ (List.mem_cons_of_mem _ (List.mem_cons_of_mem _ (List.mem_cons_of_mem _ (List.mem_append_right _ h)))))
theorem gt_0 : (Cond.initialized nR_N) ∈ GV := List.mem_append_right _ List.mem_cons_self
theorem gt_1 : (Cond.initialized nR_I) ∈ GV := List.mem_append_right _ (List.mem_cons_of_mem _ List.mem_cons_self)
theorem gt_2 : (Cond.classLink nR_S 59 nR_N) ∈ GV := List.mem_append_right _ (List.mem_cons_of_mem _ (List.mem_cons_of_mem _ List.mem_cons_self))
theorem gt_3 : (Cond.classLink nR_S 86 nR_I) ∈ GV := List.mem_append_right _ (List.mem_cons_of_mem _ (List.mem_cons_of_mem _ (List.mem_cons_of_mem _ List.mem_cons_self)))
theorem nf_N : Bundle.fit nR_N = true := by decide
theorem nf_I : Bundle.fit nR_I = true := by decide
theorem nf_X : ∀ x ∈ nsX, Bundle.fit x = true := by decide
set_option maxHeartbeats 4000000 in
set_option maxRecDepth 100000 in
theorem x_S_put (l : Launch) (hst : l.stackTraces = false) (b : Nat) (a1 : Int32) (a2 : Int32) (hw : zb (f_S_isPlaceOfWord a1) = 0) : MX l ny_S_put (.code ny_S_put nc_S_put 4 (some .int) :: GV) rmX (va_Pc ([.ref b, .int a1, .int a2] : List Value) (fun U => ∃ n, ZU n U U.heap)) nR_N := by
  refine my_inX (gw := GV) (cc := nc_S_put) (maxL := 4) (ret := (some .int)) (by decide) rfl (Nat.le_of_ble_eq_true rfl) ?_
  intro p e s m below meth c H locs ls hx hb hml hr hts hown hlocks htab hZ hS hl
  obtain ⟨n, hZ⟩ := hZ
  have hown : s.vm.findClass nR_S = some m.cls := hown
  have hl : lv_has ls 4 [(0, .ref b), (1, .int a1), (2, .int a2)] := hl
  refine lv_iload_n hx hb nd_S_put_0 rfl (lv_at hl 1 rfl) ?_
  have htg : ∀ w ∈ GW, w.before _ s = true := fun w h9 => hts w (List.mem_append_left _ h9)
  refine my_cp (F := zb (f_S_isPlaceOfWord a1)) (D := D0) (cl := []) (ws := []) (va_runS (As := [.int a1]) (rest := []) ⟨hx, hb, hml, hown, htg⟩ (c_S_isPlaceOfWord l a1 _ rfl) ⟨callB_of 1 htg (gw_in gw_371) rfl rfl rfl (htg _ gw_1) (htg _ gw_369) nh_S_isPlaceOfWord ⟨Nat.le_of_ble_eq_true rfl, Nat.le_of_ble_eq_true rfl⟩, (htg _ gw_370)⟩ my_preP rfl rfl hl.1 rfl (lv_room (Nat.le_of_ble_eq_true rfl)) nd_S_put_1 ⟨Nat.le_of_ble_eq_true rfl, Nat.le_of_ble_eq_true rfl⟩) my_nil hS (fun H locs _ hS => ?_)
  refine lv_if_ne (tgt := 15) hx hb nd_S_put_4 (by decide) (fun h4 => absurd hw h4) (fun h4 => ?_)
  exact my_throw (own := nR_S) (E := nR_N) (ns := nsX) (ik := 59) (ic := 61) hx hb hst hown nf_N nf_X (hts _ gt_2) (hts _ gt_0) (GX.all (fun w h9 => hts w (gt_N h9)) hZ gx_N) hS (hl.1.trans hml.symm) htab nd_S_put_7 nd_S_put_10 nd_S_put_11 nd_S_put_14 (Nat.le_of_ble_eq_true rfl) (Nat.le_of_ble_eq_true rfl) (Nat.le_of_ble_eq_true rfl) (Nat.le_of_ble_eq_true rfl) hlocks
set_option maxHeartbeats 4000000 in
set_option maxRecDepth 100000 in
theorem x_S_word (l : Launch) (hst : l.stackTraces = false) (b : Nat) (a1 : Int32) (hw : zb (f_S_isPlaceOfWord a1) = 0) : MX l ny_S_word (.code ny_S_word nc_S_word 2 (some .int) :: GV) rmX (va_Pc ([.ref b, .int a1] : List Value) (fun U => ∃ n, ZU n U U.heap)) nR_N := by
  refine my_inX (gw := GV) (cc := nc_S_word) (maxL := 2) (ret := (some .int)) (by decide) rfl (Nat.le_of_ble_eq_true rfl) ?_
  intro p e s m below meth c H locs ls hx hb hml hr hts hown hlocks htab hZ hS hl
  obtain ⟨n, hZ⟩ := hZ
  have hown : s.vm.findClass nR_S = some m.cls := hown
  have hl : lv_has ls 2 [(0, .ref b), (1, .int a1)] := hl
  refine lv_iload_n hx hb nd_S_word_0 rfl (lv_at hl 1 rfl) ?_
  have htg : ∀ w ∈ GW, w.before _ s = true := fun w h9 => hts w (List.mem_append_left _ h9)
  refine my_cp (F := zb (f_S_isPlaceOfWord a1)) (D := D0) (cl := []) (ws := []) (va_runS (As := [.int a1]) (rest := []) ⟨hx, hb, hml, hown, htg⟩ (c_S_isPlaceOfWord l a1 _ rfl) ⟨callB_of 1 htg (gw_in gw_371) rfl rfl rfl (htg _ gw_1) (htg _ gw_369) nh_S_isPlaceOfWord ⟨Nat.le_of_ble_eq_true rfl, Nat.le_of_ble_eq_true rfl⟩, (htg _ gw_370)⟩ my_preP rfl rfl hl.1 rfl (lv_room (Nat.le_of_ble_eq_true rfl)) nd_S_word_1 ⟨Nat.le_of_ble_eq_true rfl, Nat.le_of_ble_eq_true rfl⟩) my_nil hS (fun H locs _ hS => ?_)
  refine lv_if_ne (tgt := 15) hx hb nd_S_word_4 (by decide) (fun h4 => absurd hw h4) (fun h4 => ?_)
  exact my_throw (own := nR_S) (E := nR_N) (ns := nsX) (ik := 59) (ic := 61) hx hb hst hown nf_N nf_X (hts _ gt_2) (hts _ gt_0) (GX.all (fun w h9 => hts w (gt_N h9)) hZ gx_N) hS (hl.1.trans hml.symm) htab nd_S_word_7 nd_S_word_10 nd_S_word_11 nd_S_word_14 (Nat.le_of_ble_eq_true rfl) (Nat.le_of_ble_eq_true rfl) (Nat.le_of_ble_eq_true rfl) (Nat.le_of_ble_eq_true rfl) hlocks
set_option maxHeartbeats 4000000 in
set_option maxRecDepth 100000 in
theorem x_S_set (l : Launch) (hst : l.stackTraces = false) (b : Nat) (a1 : Int32) (a2 : Int32) (hw : a1 < 0 ∨ ¬ a1 < 34) : MX l ny_S_set (.code ny_S_set nc_S_set 4 (some .int) :: GV) rmX (va_Pc ([.ref b, .int a1, .int a2] : List Value) (fun U => ∃ n, ZU n U U.heap)) nR_N := by
  refine my_inX (gw := GV) (cc := nc_S_set) (maxL := 4) (ret := (some .int)) (by decide) rfl (Nat.le_of_ble_eq_true rfl) ?_
  intro p e s m below meth c H locs ls hx hb hml hr hts hown hlocks htab hZ hS hl
  obtain ⟨n, hZ⟩ := hZ
  have hown : s.vm.findClass nR_S = some m.cls := hown
  have hl : lv_has ls 4 [(0, .ref b), (1, .int a1), (2, .int a2)] := hl
  refine lv_iload_n hx hb nd_S_set_0 rfl (lv_at hl 1 rfl) ?_
  refine lv_if_lt (tgt := 10) hx hb nd_S_set_1 (by decide) (fun h1 => ?_) (fun h1 => ?_)
  · exact my_throw (own := nR_S) (E := nR_N) (ns := nsX) (ik := 59) (ic := 61) hx hb hst hown nf_N nf_X (hts _ gt_2) (hts _ gt_0) (GX.all (fun w h9 => hts w (gt_N h9)) hZ gx_N) hS (hl.1.trans hml.symm) htab nd_S_set_10 nd_S_set_13 nd_S_set_14 nd_S_set_17 (Nat.le_of_ble_eq_true rfl) (Nat.le_of_ble_eq_true rfl) (Nat.le_of_ble_eq_true rfl) (Nat.le_of_ble_eq_true rfl) hlocks
  refine lv_iload_n hx hb nd_S_set_4 rfl (lv_at hl 1 rfl) ?_
  refine lv_bipush (v := (34 : Int32)) hx hb nd_S_set_5 (by decide) ?_
  refine lv_icmp_lt (tgt := 18) hx hb nd_S_set_7 (by decide) (fun h7 => (hw.elim (fun z => absurd z h1) (fun z => absurd h7 z))) (fun h7 => ?_)
  exact my_throw (own := nR_S) (E := nR_N) (ns := nsX) (ik := 59) (ic := 61) hx hb hst hown nf_N nf_X (hts _ gt_2) (hts _ gt_0) (GX.all (fun w h9 => hts w (gt_N h9)) hZ gx_N) hS (hl.1.trans hml.symm) htab nd_S_set_10 nd_S_set_13 nd_S_set_14 nd_S_set_17 (Nat.le_of_ble_eq_true rfl) (Nat.le_of_ble_eq_true rfl) (Nat.le_of_ble_eq_true rfl) (Nat.le_of_ble_eq_true rfl) hlocks
set_option maxHeartbeats 4000000 in
set_option maxRecDepth 100000 in
theorem x_S_register (l : Launch) (hst : l.stackTraces = false) (b : Nat) (a1 : Int32) (hw : a1 < 0 ∨ ¬ a1 < 34) : MX l ny_S_register (.code ny_S_register nc_S_register 2 (some .int) :: GV) rmX (va_Pc ([.ref b, .int a1] : List Value) (fun U => ∃ n, ZU n U U.heap)) nR_N := by
  refine my_inX (gw := GV) (cc := nc_S_register) (maxL := 2) (ret := (some .int)) (by decide) rfl (Nat.le_of_ble_eq_true rfl) ?_
  intro p e s m below meth c H locs ls hx hb hml hr hts hown hlocks htab hZ hS hl
  obtain ⟨n, hZ⟩ := hZ
  have hown : s.vm.findClass nR_S = some m.cls := hown
  have hl : lv_has ls 2 [(0, .ref b), (1, .int a1)] := hl
  refine lv_iload_n hx hb nd_S_register_0 rfl (lv_at hl 1 rfl) ?_
  refine lv_if_lt (tgt := 10) hx hb nd_S_register_1 (by decide) (fun h1 => ?_) (fun h1 => ?_)
  · exact my_throw (own := nR_S) (E := nR_N) (ns := nsX) (ik := 59) (ic := 61) hx hb hst hown nf_N nf_X (hts _ gt_2) (hts _ gt_0) (GX.all (fun w h9 => hts w (gt_N h9)) hZ gx_N) hS (hl.1.trans hml.symm) htab nd_S_register_10 nd_S_register_13 nd_S_register_14 nd_S_register_17 (Nat.le_of_ble_eq_true rfl) (Nat.le_of_ble_eq_true rfl) (Nat.le_of_ble_eq_true rfl) (Nat.le_of_ble_eq_true rfl) hlocks
  refine lv_iload_n hx hb nd_S_register_4 rfl (lv_at hl 1 rfl) ?_
  refine lv_bipush (v := (34 : Int32)) hx hb nd_S_register_5 (by decide) ?_
  refine lv_icmp_lt (tgt := 18) hx hb nd_S_register_7 (by decide) (fun h7 => (hw.elim (fun z => absurd z h1) (fun z => absurd h7 z))) (fun h7 => ?_)
  exact my_throw (own := nR_S) (E := nR_N) (ns := nsX) (ik := 59) (ic := 61) hx hb hst hown nf_N nf_X (hts _ gt_2) (hts _ gt_0) (GX.all (fun w h9 => hts w (gt_N h9)) hZ gx_N) hS (hl.1.trans hml.symm) htab nd_S_register_10 nd_S_register_13 nd_S_register_14 nd_S_register_17 (Nat.le_of_ble_eq_true rfl) (Nat.le_of_ble_eq_true rfl) (Nat.le_of_ble_eq_true rfl) (Nat.le_of_ble_eq_true rfl) hlocks
set_option maxHeartbeats 4000000 in
set_option maxRecDepth 100000 in
theorem x_S_lines (l : Launch) (hst : l.stackTraces = false) (b : Nat) (a1 : Int32) (hw : a1 < 0 ∨ ¬ a1 ≤ 63) : MX l ny_S_lines (.code ny_S_lines nc_S_lines 3 (some .int) :: GV) rmX (va_Pc ([.ref b, .int a1] : List Value) (fun U => ∃ n, ZU n U U.heap)) nR_I := by
  refine my_inX (gw := GV) (cc := nc_S_lines) (maxL := 3) (ret := (some .int)) (by decide) rfl (Nat.le_of_ble_eq_true rfl) ?_
  intro p e s m below meth c H locs ls hx hb hml hr hts hown hlocks htab hZ hS hl
  obtain ⟨n, hZ⟩ := hZ
  have hown : s.vm.findClass nR_S = some m.cls := hown
  have hl : lv_has ls 3 [(0, .ref b), (1, .int a1)] := hl
  refine lv_iload_n hx hb nd_S_lines_0 rfl (lv_at hl 1 rfl) ?_
  refine lv_if_lt (tgt := 10) hx hb nd_S_lines_1 (by decide) (fun h1 => ?_) (fun h1 => ?_)
  · exact my_throw (own := nR_S) (E := nR_I) (ns := nsX) (ik := 86) (ic := 88) hx hb hst hown nf_I nf_X (hts _ gt_3) (hts _ gt_1) (GX.all (fun w h9 => hts w (gt_I h9)) hZ gx_I) hS (hl.1.trans hml.symm) htab nd_S_lines_10 nd_S_lines_13 nd_S_lines_14 nd_S_lines_17 (Nat.le_of_ble_eq_true rfl) (Nat.le_of_ble_eq_true rfl) (Nat.le_of_ble_eq_true rfl) (Nat.le_of_ble_eq_true rfl) hlocks
  refine lv_iload_n hx hb nd_S_lines_4 rfl (lv_at hl 1 rfl) ?_
  refine lv_bipush (v := (63 : Int32)) hx hb nd_S_lines_5 (by decide) ?_
  refine lv_icmp_le (tgt := 18) hx hb nd_S_lines_7 (by decide) (fun h7 => (hw.elim (fun z => absurd z h1) (fun z => absurd h7 z))) (fun h7 => ?_)
  exact my_throw (own := nR_S) (E := nR_I) (ns := nsX) (ik := 86) (ic := 88) hx hb hst hown nf_I nf_X (hts _ gt_3) (hts _ gt_1) (GX.all (fun w h9 => hts w (gt_I h9)) hZ gx_I) hS (hl.1.trans hml.symm) htab nd_S_lines_10 nd_S_lines_13 nd_S_lines_14 nd_S_lines_17 (Nat.le_of_ble_eq_true rfl) (Nat.le_of_ble_eq_true rfl) (Nat.le_of_ble_eq_true rfl) (Nat.le_of_ble_eq_true rfl) hlocks
set_option maxHeartbeats 4000000 in
set_option maxRecDepth 100000 in
theorem x_S_run (l : Launch) (hst : l.stackTraces = false) (b : Nat) (a1 : Int32) (hw : a1 < 0 ∨ ¬ a1 ≤ 5000) : MX l ny_S_run (.code ny_S_run nc_S_run 4 (some .int) :: GV) rmX (va_Pc ([.ref b, .int a1] : List Value) (fun U => ∃ n, ZU n U U.heap)) nR_I := by
  refine my_inX (gw := GV) (cc := nc_S_run) (maxL := 4) (ret := (some .int)) (by decide) rfl (Nat.le_of_ble_eq_true rfl) ?_
  intro p e s m below meth c H locs ls hx hb hml hr hts hown hlocks htab hZ hS hl
  obtain ⟨n, hZ⟩ := hZ
  have hown : s.vm.findClass nR_S = some m.cls := hown
  have hl : lv_has ls 4 [(0, .ref b), (1, .int a1)] := hl
  refine lv_iload_n hx hb nd_S_run_0 rfl (lv_at hl 1 rfl) ?_
  refine lv_if_lt (tgt := 11) hx hb nd_S_run_1 (by decide) (fun h1 => ?_) (fun h1 => ?_)
  · exact my_throw (own := nR_S) (E := nR_I) (ns := nsX) (ik := 86) (ic := 88) hx hb hst hown nf_I nf_X (hts _ gt_3) (hts _ gt_1) (GX.all (fun w h9 => hts w (gt_I h9)) hZ gx_I) hS (hl.1.trans hml.symm) htab nd_S_run_11 nd_S_run_14 nd_S_run_15 nd_S_run_18 (Nat.le_of_ble_eq_true rfl) (Nat.le_of_ble_eq_true rfl) (Nat.le_of_ble_eq_true rfl) (Nat.le_of_ble_eq_true rfl) hlocks
  refine lv_iload_n hx hb nd_S_run_4 rfl (lv_at hl 1 rfl) ?_
  refine lv_sipush (v := (5000 : Int32)) hx hb nd_S_run_5 (by decide) ?_
  refine lv_icmp_le (tgt := 19) hx hb nd_S_run_8 (by decide) (fun h7 => (hw.elim (fun z => absurd z h1) (fun z => absurd h7 z))) (fun h7 => ?_)
  exact my_throw (own := nR_S) (E := nR_I) (ns := nsX) (ik := 86) (ic := 88) hx hb hst hown nf_I nf_X (hts _ gt_3) (hts _ gt_1) (GX.all (fun w h9 => hts w (gt_I h9)) hZ gx_I) hS (hl.1.trans hml.symm) htab nd_S_run_11 nd_S_run_14 nd_S_run_15 nd_S_run_18 (Nat.le_of_ble_eq_true rfl) (Nat.le_of_ble_eq_true rfl) (Nat.le_of_ble_eq_true rfl) (Nat.le_of_ble_eq_true rfl) hlocks
set_option maxHeartbeats 4000000 in
set_option maxRecDepth 100000 in
theorem x_S_look (l : Launch) (hst : l.stackTraces = false) (b : Nat) (a1 : Int32) (hw : my_ne a1 [0, 1, 2, 3, 4, 5, 6, 7, 8, 9, 10]) : MX l ny_S_look (.code ny_S_look nc_S_look 2 (some .int) :: GV) rmX (va_Pc ([.ref b, .int a1] : List Value) (fun U => ∃ n, ZU n U U.heap)) nR_N := by
  refine my_inX (gw := GV) (cc := nc_S_look) (maxL := 2) (ret := (some .int)) (by decide) rfl (Nat.le_of_ble_eq_true rfl) ?_
  intro p e s m below meth c H locs ls hx hb hml hr hts hown hlocks htab hZ hS hl
  obtain ⟨n, hZ⟩ := hZ
  have hown : s.vm.findClass nR_S = some m.cls := hown
  have hl : lv_has ls 2 [(0, .ref b), (1, .int a1)] := hl
  refine lv_iload_n hx hb nd_S_look_0 rfl (lv_at hl 1 rfl) ?_
  refine my_swd (tgt := 141) hx hb nd_S_look_1 hw (by decide +kernel) (by decide) ?_
  exact my_throw (own := nR_S) (E := nR_N) (ns := nsX) (ik := 59) (ic := 61) hx hb hst hown nf_N nf_X (hts _ gt_2) (hts _ gt_0) (GX.all (fun w h9 => hts w (gt_N h9)) hZ gx_N) hS (hl.1.trans hml.symm) htab nd_S_look_141 nd_S_look_144 nd_S_look_145 nd_S_look_148 (Nat.le_of_ble_eq_true rfl) (Nat.le_of_ble_eq_true rfl) (Nat.le_of_ble_eq_true rfl) (Nat.le_of_ble_eq_true rfl) hlocks
theorem xn_put {a1 a2 : Int32} {u : St} (h : f_S_put a1 a2 u = none) : zb (f_S_isPlaceOfWord a1) = 0 := by
  by_cases hc : zb (f_S_isPlaceOfWord a1) = 0
  · exact hc
  · unfold f_S_put at h
    rw [if_neg hc] at h
    exact nomatch (show some _ = none from h)
theorem xn_word {a1 : Int32} {u : St} (h : f_S_word a1 u = none) : zb (f_S_isPlaceOfWord a1) = 0 := by
  by_cases hc : zb (f_S_isPlaceOfWord a1) = 0
  · exact hc
  · unfold f_S_word at h
    rw [if_neg hc] at h
    exact nomatch h
theorem xn_set {a1 a2 : Int32} {u : St} (h : f_S_set a1 a2 u = none) : a1 < 0 ∨ ¬ a1 < 34 := by
  by_cases h1 : a1 < 0
  · exact Or.inl h1
  by_cases h2 : a1 < 34
  · unfold f_S_set at h
    rw [if_neg h1, if_pos h2] at h
    exact nomatch (show some _ = none from h)
  · exact Or.inr h2
theorem xn_register {a1 : Int32} {u : St} (h : f_S_register a1 u = none) : a1 < 0 ∨ ¬ a1 < 34 := by
  by_cases h1 : a1 < 0
  · exact Or.inl h1
  by_cases h2 : a1 < 34
  · unfold f_S_register at h
    rw [if_neg h1, if_pos h2] at h
    exact nomatch h
  · exact Or.inr h2
theorem xn_lines {a1 : Int32} {u : St} (h : f_S_lines a1 u = none) : a1 < 0 ∨ ¬ a1 ≤ 63 := by
  by_cases h1 : a1 < 0
  · exact Or.inl h1
  by_cases h2 : a1 ≤ 63
  · unfold f_S_lines at h
    rw [if_neg h1, if_pos h2] at h
    exact nomatch h
  · exact Or.inr h2
theorem xn_run26 : ∀ (n : Nat) (x1 x2 x3 : Int32) (u : St), ¬ f_S_run_b26 n x1 x2 x3 u = some none
  | 0, _, _, _, _, h => nomatch (show none = some none from h)
  | n + 1, x1, x2, x3, u, h => by
    rw [f_S_run_b26_s] at h
    by_cases hc : x1 ≤ x3
    · rw [if_pos hc] at h
      exact nomatch h
    · rw [if_neg hc] at h
      exact xn_run26 n x1 x2 (x3 + 1) _ h
theorem xn_run {a1 : Int32} {u : St} (h : f_S_run a1 u = some none) : a1 < 0 ∨ ¬ a1 ≤ 5000 := by
  by_cases h1 : a1 < 0
  · exact Or.inl h1
  by_cases h2 : a1 ≤ 5000
  · unfold f_S_run at h
    rw [if_neg h1, if_pos h2] at h
    exact (xn_run26 _ _ _ _ _ h).elim
  · exact Or.inr h2
theorem xn_ite {p : Prop} [Decidable p] {α : Type} {x : α} {t : Option α} (h : (if p then some x else t) = none) : ¬ p ∧ t = none := by
  by_cases hp : p
  · rw [if_pos hp] at h
    exact nomatch h
  · rw [if_neg hp] at h
    exact ⟨hp, h⟩
theorem xn_look {a1 : Int32} {u : St} (h : f_S_look a1 u = none) : my_ne a1 [0, 1, 2, 3, 4, 5, 6, 7, 8, 9, 10] := by
  unfold f_S_look at h
  obtain ⟨h0, h⟩ := xn_ite h
  obtain ⟨h1, h⟩ := xn_ite h
  obtain ⟨h2, h⟩ := xn_ite h
  obtain ⟨h3, h⟩ := xn_ite h
  obtain ⟨h4, h⟩ := xn_ite h
  obtain ⟨h5, h⟩ := xn_ite h
  by_cases h6 : a1 = 6
  · rw [if_pos h6] at h
    obtain ⟨-, h⟩ := xn_ite h
    exact nomatch h
  rw [if_neg h6] at h
  obtain ⟨h7, h⟩ := xn_ite h
  obtain ⟨h8, h⟩ := xn_ite h
  obtain ⟨h9, h⟩ := xn_ite h
  obtain ⟨h10, h⟩ := xn_ite h
  exact ⟨h0, h1, h2, h3, h4, h5, h6, h7, h8, h9, h10, trivial⟩
