def uS0 : St := fun i => match i with
  | 0 => fun k => if k = 5 then 4 else 0
  | 3 => fun k => if k = 1 then -1 else 0
  | _ => fun _ => 0
def f7 (a b c d e f g : Nat) : Nat → Nat := fun k => match k with
  | 0 => a
  | 1 => b
  | 2 => c
  | 3 => d
  | 4 => e
  | 5 => f
  | _ => g
def f2 {α : Type} (a b : α) : Nat → α := fun k => match k with
  | 0 => a
  | _ => b
set_option maxHeartbeats 4000000 in
set_option maxRecDepth 100000 in
theorem c_S_init (l : Launch) (D : va_G) (h0 sz : Nat) : Met l ny_S_init nw_S_init ({ frames := 2, cells := 6, slots := 1072, locals := 32 }) (va_Pc [.ref h0] (fun U => U.heap.size = sz ∧ va_P D vwCl [(h0, .inr (0, [.null, .null, .null, .null, .int 0, .int 0, .int 0, .int 0, .int 0]))] U.heap ∧ va_K D vwCl [] U ∧ va_D (fun _ => True) [(h0, .inr (0, [.null, .null, .null, .null, .int 0, .int 0, .int 0, .int 0, .int 0]))] ∧ NW nwS U)) (va_Qv (fun _ : (Nat → Nat) × (Nat → ClassId) => True) (fun x t => va_P D vwCl (wSC x.1 x.2 uS0) t.heap ∧ va_K D vwCl (tyI x.2) t ∧ va_D (va_A [(h0, .inr (0, [.null, .null, .null, .null, .int 0, .int 0, .int 0, .int 0, .int 0]))] sz) (wSC x.1 x.2 uS0) ∧ x.1 0 = h0) (va_A [(h0, .inr (0, [.null, .null, .null, .null, .int 0, .int 0, .int 0, .int 0, .int 0]))] sz)) 6 1072 (va_A [(h0, .inr (0, [.null, .null, .null, .null, .int 0, .int 0, .int 0, .int 0, .int 0]))] sz) := by
  refine Met.ofW (cc := nc_S_init) (maxL := 1) (ret := none) (by decide) rfl ?_
  intro p e s m args below meth c s₁ B hml hv
  obtain ⟨rfl, hsz, hP, hK, hD0, hN⟩ := hv
  have hx := B.exec
  have hb := B.bytes
  have hr := B.returns
  have hts : ∀ w ∈ GW, w.before _ s = true := fun w h => atoms_spec (ws := nw_S_init) B.pre w (List.mem_cons_of_mem _ h)
  have hown : s.vm.findClass nR_S = some m.cls := findClass_of_methodNamed B.named
  have hlocks := B.notSynchronized
  have hin : meth.name = "<init>" := (name_of_methodNamed B.named B.method).1
  subst hsz
  have hD := hD0.self (sz := s.heap.size)
  generalize hAe : va_A [(h0, .inr (0, [.null, .null, .null, .null, .int 0, .int 0, .int 0, .int 0, .int 0]))] s.heap.size = A at hD ⊢
  have hA : ∀ q : Nat, s.heap.size ≤ q → A q := fun q h => by rw [← hAe]; exact Or.inr h
  have hS : va_S A s.heap s.heap [] := va_S.rf
  have hl := lv_entry ([.ref h0]) (n := 1) (Nat.le_of_ble_eq_true rfl)
  rw [lg_entry_eq]
  generalize (lg_sl ([.ref h0]) ++ List.replicate (1 - (lg_sl ([.ref h0])).length) Slot.unset).toArray = ls at hl ⊢
  have hl : lv_has ls 1 [(0, .ref h0)] := hl
  refine lv_aload_n hx hb nd_S_init_0 rfl (lv_at hl 0 rfl) ?_
  refine W.objInit hx hb hown (hts _ gw_12) (hts _ gw_13) (hts _ gw_14) rfl (by rw [hml]; exact hl.1) rfl nd_S_init_1 (Nat.le_of_ble_eq_true rfl) (Nat.le_of_ble_eq_true rfl) ?_
  refine W.eq (g2 := F0 m 4 ls []) rfl ?_
  have hP : va_P D vwCl [(h0, .inr (0, [.null, .null, .null, .null, .int 0, .int 0, .int 0, .int 0, .int 0]))] s.heap := hP
  refine lv_aload_n hx hb nd_S_init_4 rfl (lv_at hl 0 rfl) ?_
  have h_c5 : 0 + 1 ≤ 6 := by decide
  have h_s5 : 0 + 1 ≤ 1072 := by decide
  refine va_new (ci := 1) (fs := [.null]) (C := nR_M) (T := nT_M) (N := 1) hx hb hts nu_M nt_M nto_M hown (hts _ gw_15) (hts _ gw_16) (hts _ gw_2) hK hP hD hS hA rfl (fun j hj => by rcases (show j = 0 by omega) with rfl <;> rfl) h_c5 h_s5 nd_S_init_5 (fun q5 H hP hD hS => ?_)
  have hP : va_P D vwCl [(h0, .inr (0, [.null, .null, .null, .null, .int 0, .int 0, .int 0, .int 0, .int 0])), (q5, .inr (1, [.null]))] H := hP
  have hD : va_D A [(h0, .inr (0, [.null, .null, .null, .null, .int 0, .int 0, .int 0, .int 0, .int 0])), (q5, .inr (1, [.null]))] := hD
  refine W.widen (k := 1) (n := 1) (by omega) (by omega) ?_
  refine lv_dup hx hb nd_S_init_8 rfl ?_
  have hPc := hP.sub (ws' := [(q5, .inr (1, [.null]))]) [1] rfl
  have hDc := hD.sub (ws' := [(q5, .inr (1, [.null]))]) [1] (by decide) rfl
  have hKc := hK.sub (tys' := []) [] rfl
  have hFc := va_free (wc := [(q5, .inr (1, [.null]))]) hD hS hA [1] rfl
  have h_k9 : 1 + 1 ≤ 6 := by decide
  have h_l9 : 1 + 1024 ≤ 1072 := by decide
  refine va_callv (va_runIN (As := []) (rest := [.ref q5, .ref h0]) ⟨hx, hb, hml, hown, hts⟩ (c_M_init l D q5 H.size) ⟨va_cnB 0 hts (gw_in gw_18) rfl rfl rfl (hN _ nm_0) (hts _ gw_2) nh_M_init ⟨Nat.le_of_ble_eq_true rfl, Nat.le_of_ble_eq_true rfl⟩, rfl, (hts _ gw_17)⟩ ⟨fun a U g mk q => by obtain ⟨q0, q1, qP, qK, qD⟩ := q; exact ⟨q0, q1, qP, va_K.moved (u := U) (U := U.calling g mk a) (Vm.Alike.refl U.vm) qK, qD⟩, fun U hU hW => ⟨rfl, by rw [hU], by rw [hU]; exact hPc, va_K.moved hW.alike hKc, hDc.weaken (fun _ _ _ _ => trivial)⟩⟩ rfl rfl hl.1 rfl (lv_room (Nat.le_of_ble_eq_true rfl)) nd_S_init_9 ⟨h_k9, h_l9⟩) hS (fun q _ h => hFc q h) hFc (fun u t H1 locs ht hvm hw hB hz1 hk1 hS => ?_)
  obtain ⟨p9, c9⟩ := u
  obtain ⟨hP1, hK1, hD1⟩ := hB
  rw [ht] at hP1
  have hK1 := va_K.moved hvm.symm hK1
  obtain ⟨hP, hD⟩ := va_join (wr := [(h0, .inr (0, [.null, .null, .null, .null, .int 0, .int 0, .int 0, .int 0, .int 0]))]) (w1 := [(q5, .inr (1, [.ref p9])), (p9, .inl (c9, 1024, .inl (fun _ => 0)))]) hP hD [1] [0] rfl rfl (by decide) (by decide) hk1 hFc hP1 hD1
  have hK := (hK.sub (tys' := []) [] rfl).app hK1
  generalize H1 = H at hP hS ⊢
  have hP : va_P D vwCl [(h0, .inr (0, [.null, .null, .null, .null, .int 0, .int 0, .int 0, .int 0, .int 0])), (q5, .inr (1, [.ref p9])), (p9, .inl (c9, 1024, .inl (fun _ => 0)))] H := hP
  have hD : va_D A [(h0, .inr (0, [.null, .null, .null, .null, .int 0, .int 0, .int 0, .int 0, .int 0])), (q5, .inr (1, [.ref p9])), (p9, .inl (c9, 1024, .inl (fun _ => 0)))] := hD
  have hK : va_K D vwCl [(c9, .int)] s := hK
  refine W.widen (k := 2) (n := 1025) (by omega) (by omega) ?_
  refine va_putF (D := D) (ci := 0) (v := .ref q5) (ty := .object "SlotCore$Memory") (C := nR_S) (T := nT_S) (N := 9) hx hb hts nu_S nt_S nto_S nn_S hown hK hP hD hS 0 rfl rfl 0 (by decide) (hts _ gw_63) (fun _ h9 => h9) rfl hin rfl (by decide +kernel) rfl rfl (Nat.le_of_ble_eq_true rfl) nd_S_init_12 (fun H locs hP hD hS => ?_)
  have hP : va_P D vwCl [(h0, .inr (0, [.ref q5, .null, .null, .null, .int 0, .int 0, .int 0, .int 0, .int 0])), (q5, .inr (1, [.ref p9])), (p9, .inl (c9, 1024, .inl (fun _ => 0)))] H := hP
  have hD : va_D A [(h0, .inr (0, [.ref q5, .null, .null, .null, .int 0, .int 0, .int 0, .int 0, .int 0])), (q5, .inr (1, [.ref p9])), (p9, .inl (c9, 1024, .inl (fun _ => 0)))] := hD
  refine lv_aload_n hx hb nd_S_init_15 rfl (lv_at hl 0 rfl) ?_
  have h_c16 : 2 + 1 ≤ 6 := by decide
  have h_s16 : 1025 + 3 ≤ 1072 := by decide
  refine va_new (ci := 2) (fs := [.null, .int 0, .int 0]) (C := nR_R) (T := nT_R) (N := 3) hx hb hts nu_R nt_R nto_R hown (hts _ gw_23) (hts _ gw_24) (hts _ gw_3) hK hP hD hS hA rfl (fun j hj => by rcases (show j = 0 ∨ j = 1 ∨ j = 2 by omega) with rfl | rfl | rfl <;> rfl) h_c16 h_s16 nd_S_init_16 (fun q16 H hP hD hS => ?_)
  have hP : va_P D vwCl [(h0, .inr (0, [.ref q5, .null, .null, .null, .int 0, .int 0, .int 0, .int 0, .int 0])), (q5, .inr (1, [.ref p9])), (p9, .inl (c9, 1024, .inl (fun _ => 0))), (q16, .inr (2, [.null, .int 0, .int 0]))] H := hP
  have hD : va_D A [(h0, .inr (0, [.ref q5, .null, .null, .null, .int 0, .int 0, .int 0, .int 0, .int 0])), (q5, .inr (1, [.ref p9])), (p9, .inl (c9, 1024, .inl (fun _ => 0))), (q16, .inr (2, [.null, .int 0, .int 0]))] := hD
  refine W.widen (k := 3) (n := 1028) (by omega) (by omega) ?_
  refine lv_dup hx hb nd_S_init_19 rfl ?_
  have hPc := hP.sub (ws' := [(q16, .inr (2, [.null, .int 0, .int 0]))]) [3] rfl
  have hDc := hD.sub (ws' := [(q16, .inr (2, [.null, .int 0, .int 0]))]) [3] (by decide) rfl
  have hKc := hK.sub (tys' := []) [] rfl
  have hFc := va_free (wc := [(q16, .inr (2, [.null, .int 0, .int 0]))]) hD hS hA [3] rfl
  have h_k20 : 3 + 1 ≤ 6 := by decide
  have h_l20 : 1028 + 34 ≤ 1072 := by decide
  refine va_callv (va_runIN (As := []) (rest := [.ref q16, .ref h0]) ⟨hx, hb, hml, hown, hts⟩ (c_R_init l D q16 H.size) ⟨va_cnB 0 hts (gw_in gw_26) rfl rfl rfl (hN _ nm_1) (hts _ gw_3) nh_R_init ⟨Nat.le_of_ble_eq_true rfl, Nat.le_of_ble_eq_true rfl⟩, rfl, (hts _ gw_25)⟩ ⟨fun a U g mk q => by obtain ⟨q0, q1, qP, qK, qD⟩ := q; exact ⟨q0, q1, qP, va_K.moved (u := U) (U := U.calling g mk a) (Vm.Alike.refl U.vm) qK, qD⟩, fun U hU hW => ⟨rfl, by rw [hU], by rw [hU]; exact hPc, va_K.moved hW.alike hKc, hDc.weaken (fun _ _ _ _ => trivial)⟩⟩ rfl rfl hl.1 rfl (lv_room (Nat.le_of_ble_eq_true rfl)) nd_S_init_20 ⟨h_k20, h_l20⟩) hS (fun q _ h => hFc q h) hFc (fun u t H1 locs ht hvm hw hB hz1 hk1 hS => ?_)
  obtain ⟨p20, c20⟩ := u
  obtain ⟨hP1, hK1, hD1⟩ := hB
  rw [ht] at hP1
  have hK1 := va_K.moved hvm.symm hK1
  obtain ⟨hP, hD⟩ := va_join (wr := [(h0, .inr (0, [.ref q5, .null, .null, .null, .int 0, .int 0, .int 0, .int 0, .int 0])), (q5, .inr (1, [.ref p9])), (p9, .inl (c9, 1024, .inl (fun _ => 0)))]) (w1 := [(q16, .inr (2, [.ref p20, .int (-1), .int 0])), (p20, .inl (c20, 34, .inl (fun _ => 0)))]) hP hD [3] [0, 1, 2] rfl rfl (by decide) (by decide) hk1 hFc hP1 hD1
  have hK := (hK.sub (tys' := [(c9, .int)]) [0] rfl).app hK1
  generalize H1 = H at hP hS ⊢
  have hP : va_P D vwCl [(h0, .inr (0, [.ref q5, .null, .null, .null, .int 0, .int 0, .int 0, .int 0, .int 0])), (q5, .inr (1, [.ref p9])), (p9, .inl (c9, 1024, .inl (fun _ => 0))), (q16, .inr (2, [.ref p20, .int (-1), .int 0])), (p20, .inl (c20, 34, .inl (fun _ => 0)))] H := hP
  have hD : va_D A [(h0, .inr (0, [.ref q5, .null, .null, .null, .int 0, .int 0, .int 0, .int 0, .int 0])), (q5, .inr (1, [.ref p9])), (p9, .inl (c9, 1024, .inl (fun _ => 0))), (q16, .inr (2, [.ref p20, .int (-1), .int 0])), (p20, .inl (c20, 34, .inl (fun _ => 0)))] := hD
  have hK : va_K D vwCl [(c9, .int), (c20, .int)] s := hK
  refine W.widen (k := 4) (n := 1062) (by omega) (by omega) ?_
  refine va_putF (D := D) (ci := 0) (v := .ref q16) (ty := .object "SlotCore$Registers") (C := nR_S) (T := nT_S) (N := 9) hx hb hts nu_S nt_S nto_S nn_S hown hK hP hD hS 0 rfl rfl 1 (by decide) (hts _ gw_64) (fun _ h9 => h9) rfl hin rfl (by decide +kernel) rfl rfl (Nat.le_of_ble_eq_true rfl) nd_S_init_23 (fun H locs hP hD hS => ?_)
  have hP : va_P D vwCl [(h0, .inr (0, [.ref q5, .ref q16, .null, .null, .int 0, .int 0, .int 0, .int 0, .int 0])), (q5, .inr (1, [.ref p9])), (p9, .inl (c9, 1024, .inl (fun _ => 0))), (q16, .inr (2, [.ref p20, .int (-1), .int 0])), (p20, .inl (c20, 34, .inl (fun _ => 0)))] H := hP
  have hD : va_D A [(h0, .inr (0, [.ref q5, .ref q16, .null, .null, .int 0, .int 0, .int 0, .int 0, .int 0])), (q5, .inr (1, [.ref p9])), (p9, .inl (c9, 1024, .inl (fun _ => 0))), (q16, .inr (2, [.ref p20, .int (-1), .int 0])), (p20, .inl (c20, 34, .inl (fun _ => 0)))] := hD
  refine lv_aload_n hx hb nd_S_init_26 rfl (lv_at hl 0 rfl) ?_
  have h_c27 : 4 + 1 ≤ 6 := by decide
  have h_s27 : 1062 + 5 ≤ 1072 := by decide
  refine va_new (ci := 3) (fs := [.int 0, .int 0, .int 0, .int 0, .int 0]) (C := nR_C) (T := nT_C) (N := 5) hx hb hts nu_C nt_C nto_C hown (hts _ gw_34) (hts _ gw_35) (hts _ gw_4) hK hP hD hS hA rfl (fun j hj => by rcases (show j = 0 ∨ j = 1 ∨ j = 2 ∨ j = 3 ∨ j = 4 by omega) with rfl | rfl | rfl | rfl | rfl <;> rfl) h_c27 h_s27 nd_S_init_27 (fun q27 H hP hD hS => ?_)
  have hP : va_P D vwCl [(h0, .inr (0, [.ref q5, .ref q16, .null, .null, .int 0, .int 0, .int 0, .int 0, .int 0])), (q5, .inr (1, [.ref p9])), (p9, .inl (c9, 1024, .inl (fun _ => 0))), (q16, .inr (2, [.ref p20, .int (-1), .int 0])), (p20, .inl (c20, 34, .inl (fun _ => 0))), (q27, .inr (3, [.int 0, .int 0, .int 0, .int 0, .int 0]))] H := hP
  have hD : va_D A [(h0, .inr (0, [.ref q5, .ref q16, .null, .null, .int 0, .int 0, .int 0, .int 0, .int 0])), (q5, .inr (1, [.ref p9])), (p9, .inl (c9, 1024, .inl (fun _ => 0))), (q16, .inr (2, [.ref p20, .int (-1), .int 0])), (p20, .inl (c20, 34, .inl (fun _ => 0))), (q27, .inr (3, [.int 0, .int 0, .int 0, .int 0, .int 0]))] := hD
  refine W.widen (k := 5) (n := 1067) (by omega) (by omega) ?_
  refine lv_dup hx hb nd_S_init_30 rfl ?_
  have hPc := hP.sub (ws' := [(q27, .inr (3, [.int 0, .int 0, .int 0, .int 0, .int 0]))]) [5] rfl
  have hDc := hD.sub (ws' := [(q27, .inr (3, [.int 0, .int 0, .int 0, .int 0, .int 0]))]) [5] (by decide) rfl
  have hKc := hK.sub (tys' := []) [] rfl
  have hFc := va_free (wc := [(q27, .inr (3, [.int 0, .int 0, .int 0, .int 0, .int 0]))]) hD hS hA [5] rfl
  have h_k31 : 5 + 0 ≤ 6 := by decide
  have h_l31 : 1067 + 0 ≤ 1072 := by decide
  refine va_callv (va_runIN (As := []) (rest := [.ref q27, .ref h0]) ⟨hx, hb, hml, hown, hts⟩ (c_C_init l D q27 H.size) ⟨va_cnB 0 hts (gw_in gw_37) rfl rfl rfl (hN _ nm_4) (hts _ gw_4) nh_C_init ⟨Nat.le_of_ble_eq_true rfl, Nat.le_of_ble_eq_true rfl⟩, rfl, (hts _ gw_36)⟩ ⟨fun a U g mk q => by obtain ⟨q0, q1, qP, qK, qD⟩ := q; exact ⟨q0, q1, qP, va_K.moved (u := U) (U := U.calling g mk a) (Vm.Alike.refl U.vm) qK, qD⟩, fun U hU hW => ⟨rfl, by rw [hU], by rw [hU]; exact hPc, va_K.moved hW.alike hKc, hDc.weaken (fun _ _ _ _ => trivial)⟩⟩ rfl rfl hl.1 rfl (lv_room (Nat.le_of_ble_eq_true rfl)) nd_S_init_31 ⟨h_k31, h_l31⟩) hS (fun q _ h => hFc q h) hFc (fun u t H1 locs ht hvm hw hB hz1 hk1 hS => ?_)
  obtain ⟨hP1, hK1, hD1⟩ := hB
  rw [ht] at hP1
  have hK1 := va_K.moved hvm.symm hK1
  obtain ⟨hP, hD⟩ := va_join (wr := [(h0, .inr (0, [.ref q5, .ref q16, .null, .null, .int 0, .int 0, .int 0, .int 0, .int 0])), (q5, .inr (1, [.ref p9])), (p9, .inl (c9, 1024, .inl (fun _ => 0))), (q16, .inr (2, [.ref p20, .int (-1), .int 0])), (p20, .inl (c20, 34, .inl (fun _ => 0)))]) (w1 := [(q27, .inr (3, [.int 0, .int 0, .int 0, .int 0, .int 0]))]) hP hD [5] [0, 1, 2, 3, 4] rfl rfl (by decide) (by decide) hk1 hFc hP1 hD1
  have hK := (hK.sub (tys' := [(c9, .int), (c20, .int)]) [0, 1] rfl).app hK1
  generalize H1 = H at hP hS ⊢
  have hP : va_P D vwCl [(h0, .inr (0, [.ref q5, .ref q16, .null, .null, .int 0, .int 0, .int 0, .int 0, .int 0])), (q5, .inr (1, [.ref p9])), (p9, .inl (c9, 1024, .inl (fun _ => 0))), (q16, .inr (2, [.ref p20, .int (-1), .int 0])), (p20, .inl (c20, 34, .inl (fun _ => 0))), (q27, .inr (3, [.int 0, .int 0, .int 0, .int 0, .int 0]))] H := hP
  have hD : va_D A [(h0, .inr (0, [.ref q5, .ref q16, .null, .null, .int 0, .int 0, .int 0, .int 0, .int 0])), (q5, .inr (1, [.ref p9])), (p9, .inl (c9, 1024, .inl (fun _ => 0))), (q16, .inr (2, [.ref p20, .int (-1), .int 0])), (p20, .inl (c20, 34, .inl (fun _ => 0))), (q27, .inr (3, [.int 0, .int 0, .int 0, .int 0, .int 0]))] := hD
  have hK : va_K D vwCl [(c9, .int), (c20, .int)] s := hK
  refine W.widen (k := 5) (n := 1067) (by omega) (by omega) ?_
  refine va_putF (D := D) (ci := 0) (v := .ref q27) (ty := .object "SlotCore$Control") (C := nR_S) (T := nT_S) (N := 9) hx hb hts nu_S nt_S nto_S nn_S hown hK hP hD hS 0 rfl rfl 2 (by decide) (hts _ gw_65) (fun _ h9 => h9) rfl hin rfl (by decide +kernel) rfl rfl (Nat.le_of_ble_eq_true rfl) nd_S_init_34 (fun H locs hP hD hS => ?_)
  have hP : va_P D vwCl [(h0, .inr (0, [.ref q5, .ref q16, .ref q27, .null, .int 0, .int 0, .int 0, .int 0, .int 0])), (q5, .inr (1, [.ref p9])), (p9, .inl (c9, 1024, .inl (fun _ => 0))), (q16, .inr (2, [.ref p20, .int (-1), .int 0])), (p20, .inl (c20, 34, .inl (fun _ => 0))), (q27, .inr (3, [.int 0, .int 0, .int 0, .int 0, .int 0]))] H := hP
  have hD : va_D A [(h0, .inr (0, [.ref q5, .ref q16, .ref q27, .null, .int 0, .int 0, .int 0, .int 0, .int 0])), (q5, .inr (1, [.ref p9])), (p9, .inl (c9, 1024, .inl (fun _ => 0))), (q16, .inr (2, [.ref p20, .int (-1), .int 0])), (p20, .inl (c20, 34, .inl (fun _ => 0))), (q27, .inr (3, [.int 0, .int 0, .int 0, .int 0, .int 0]))] := hD
  refine lv_aload_n hx hb nd_S_init_37 rfl (lv_at hl 0 rfl) ?_
  have h_c38 : 5 + 1 ≤ 6 := by decide
  have h_s38 : 1067 + 5 ≤ 1072 := by decide
  refine va_new (ci := 4) (fs := [.int 0, .int 0, .int 0, .int 0, .int 0]) (C := nR_O) (T := nT_O) (N := 5) hx hb hts nu_O nt_O nto_O hown (hts _ gw_49) (hts _ gw_50) (hts _ gw_5) hK hP hD hS hA rfl (fun j hj => by rcases (show j = 0 ∨ j = 1 ∨ j = 2 ∨ j = 3 ∨ j = 4 by omega) with rfl | rfl | rfl | rfl | rfl <;> rfl) h_c38 h_s38 nd_S_init_38 (fun q38 H hP hD hS => ?_)
  have hP : va_P D vwCl [(h0, .inr (0, [.ref q5, .ref q16, .ref q27, .null, .int 0, .int 0, .int 0, .int 0, .int 0])), (q5, .inr (1, [.ref p9])), (p9, .inl (c9, 1024, .inl (fun _ => 0))), (q16, .inr (2, [.ref p20, .int (-1), .int 0])), (p20, .inl (c20, 34, .inl (fun _ => 0))), (q27, .inr (3, [.int 0, .int 0, .int 0, .int 0, .int 0])), (q38, .inr (4, [.int 0, .int 0, .int 0, .int 0, .int 0]))] H := hP
  have hD : va_D A [(h0, .inr (0, [.ref q5, .ref q16, .ref q27, .null, .int 0, .int 0, .int 0, .int 0, .int 0])), (q5, .inr (1, [.ref p9])), (p9, .inl (c9, 1024, .inl (fun _ => 0))), (q16, .inr (2, [.ref p20, .int (-1), .int 0])), (p20, .inl (c20, 34, .inl (fun _ => 0))), (q27, .inr (3, [.int 0, .int 0, .int 0, .int 0, .int 0])), (q38, .inr (4, [.int 0, .int 0, .int 0, .int 0, .int 0]))] := hD
  refine W.widen (k := 6) (n := 1072) (by omega) (by omega) ?_
  refine lv_dup hx hb nd_S_init_41 rfl ?_
  have hPc := hP.sub (ws' := [(q38, .inr (4, [.int 0, .int 0, .int 0, .int 0, .int 0]))]) [6] rfl
  have hDc := hD.sub (ws' := [(q38, .inr (4, [.int 0, .int 0, .int 0, .int 0, .int 0]))]) [6] (by decide) rfl
  have hKc := hK.sub (tys' := []) [] rfl
  have hFc := va_free (wc := [(q38, .inr (4, [.int 0, .int 0, .int 0, .int 0, .int 0]))]) hD hS hA [6] rfl
  have h_k42 : 6 + 0 ≤ 6 := by decide
  have h_l42 : 1072 + 0 ≤ 1072 := by decide
  refine va_callv (va_runIN (As := []) (rest := [.ref q38, .ref h0]) ⟨hx, hb, hml, hown, hts⟩ (c_O_init l D q38 H.size) ⟨va_cnB 0 hts (gw_in gw_52) rfl rfl rfl (hN _ nm_9) (hts _ gw_5) nh_O_init ⟨Nat.le_of_ble_eq_true rfl, Nat.le_of_ble_eq_true rfl⟩, rfl, (hts _ gw_51)⟩ ⟨fun a U g mk q => by obtain ⟨q0, q1, qP, qK, qD⟩ := q; exact ⟨q0, q1, qP, va_K.moved (u := U) (U := U.calling g mk a) (Vm.Alike.refl U.vm) qK, qD⟩, fun U hU hW => ⟨rfl, by rw [hU], by rw [hU]; exact hPc, va_K.moved hW.alike hKc, hDc.weaken (fun _ _ _ _ => trivial)⟩⟩ rfl rfl hl.1 rfl (lv_room (Nat.le_of_ble_eq_true rfl)) nd_S_init_42 ⟨h_k42, h_l42⟩) hS (fun q _ h => hFc q h) hFc (fun u t H1 locs ht hvm hw hB hz1 hk1 hS => ?_)
  obtain ⟨hP1, hK1, hD1⟩ := hB
  rw [ht] at hP1
  have hK1 := va_K.moved hvm.symm hK1
  obtain ⟨hP, hD⟩ := va_join (wr := [(h0, .inr (0, [.ref q5, .ref q16, .ref q27, .null, .int 0, .int 0, .int 0, .int 0, .int 0])), (q5, .inr (1, [.ref p9])), (p9, .inl (c9, 1024, .inl (fun _ => 0))), (q16, .inr (2, [.ref p20, .int (-1), .int 0])), (p20, .inl (c20, 34, .inl (fun _ => 0))), (q27, .inr (3, [.int 0, .int 0, .int 0, .int 0, .int 0]))]) (w1 := [(q38, .inr (4, [.int 0, .int 0, .int 0, .int 0, .int 0]))]) hP hD [6] [0, 1, 2, 3, 4, 5] rfl rfl (by decide) (by decide) hk1 hFc hP1 hD1
  have hK := (hK.sub (tys' := [(c9, .int), (c20, .int)]) [0, 1] rfl).app hK1
  generalize H1 = H at hP hS ⊢
  have hP : va_P D vwCl [(h0, .inr (0, [.ref q5, .ref q16, .ref q27, .null, .int 0, .int 0, .int 0, .int 0, .int 0])), (q5, .inr (1, [.ref p9])), (p9, .inl (c9, 1024, .inl (fun _ => 0))), (q16, .inr (2, [.ref p20, .int (-1), .int 0])), (p20, .inl (c20, 34, .inl (fun _ => 0))), (q27, .inr (3, [.int 0, .int 0, .int 0, .int 0, .int 0])), (q38, .inr (4, [.int 0, .int 0, .int 0, .int 0, .int 0]))] H := hP
  have hD : va_D A [(h0, .inr (0, [.ref q5, .ref q16, .ref q27, .null, .int 0, .int 0, .int 0, .int 0, .int 0])), (q5, .inr (1, [.ref p9])), (p9, .inl (c9, 1024, .inl (fun _ => 0))), (q16, .inr (2, [.ref p20, .int (-1), .int 0])), (p20, .inl (c20, 34, .inl (fun _ => 0))), (q27, .inr (3, [.int 0, .int 0, .int 0, .int 0, .int 0])), (q38, .inr (4, [.int 0, .int 0, .int 0, .int 0, .int 0]))] := hD
  have hK : va_K D vwCl [(c9, .int), (c20, .int)] s := hK
  refine W.widen (k := 6) (n := 1072) (by omega) (by omega) ?_
  refine va_putF (D := D) (ci := 0) (v := .ref q38) (ty := .object "SlotCore$Outcome") (C := nR_S) (T := nT_S) (N := 9) hx hb hts nu_S nt_S nto_S nn_S hown hK hP hD hS 0 rfl rfl 3 (by decide) (hts _ gw_66) (fun _ h9 => h9) rfl hin rfl (by decide +kernel) rfl rfl (Nat.le_of_ble_eq_true rfl) nd_S_init_45 (fun H locs hP hD hS => ?_)
  have hP : va_P D vwCl [(h0, .inr (0, [.ref q5, .ref q16, .ref q27, .ref q38, .int 0, .int 0, .int 0, .int 0, .int 0])), (q5, .inr (1, [.ref p9])), (p9, .inl (c9, 1024, .inl (fun _ => 0))), (q16, .inr (2, [.ref p20, .int (-1), .int 0])), (p20, .inl (c20, 34, .inl (fun _ => 0))), (q27, .inr (3, [.int 0, .int 0, .int 0, .int 0, .int 0])), (q38, .inr (4, [.int 0, .int 0, .int 0, .int 0, .int 0]))] H := hP
  have hD : va_D A [(h0, .inr (0, [.ref q5, .ref q16, .ref q27, .ref q38, .int 0, .int 0, .int 0, .int 0, .int 0])), (q5, .inr (1, [.ref p9])), (p9, .inl (c9, 1024, .inl (fun _ => 0))), (q16, .inr (2, [.ref p20, .int (-1), .int 0])), (p20, .inl (c20, 34, .inl (fun _ => 0))), (q27, .inr (3, [.int 0, .int 0, .int 0, .int 0, .int 0])), (q38, .inr (4, [.int 0, .int 0, .int 0, .int 0, .int 0]))] := hD
  refine lv_aload_n hx hb nd_S_init_48 rfl (lv_at hl 0 rfl) ?_
  refine lv_iconst (v := 4) hx hb nd_S_init_49 (by decide) ?_
  refine va_put (D := D) (ci := 0) (v := .int 4) (ty := .int) (C := nR_S) (T := nT_S) (N := 9) hx hb hts nu_S nt_S nto_S nn_S hown hK hP hD hS 0 rfl rfl 5 (by decide) (hts _ gw_68) (fun _ h9 => h9) rfl (by decide +kernel) rfl rfl (Nat.le_of_ble_eq_true rfl) nd_S_init_50 (fun H locs hP hD hS => ?_)
  have hP : va_P D vwCl [(h0, .inr (0, [.ref q5, .ref q16, .ref q27, .ref q38, .int 0, .int 4, .int 0, .int 0, .int 0])), (q5, .inr (1, [.ref p9])), (p9, .inl (c9, 1024, .inl (fun _ => 0))), (q16, .inr (2, [.ref p20, .int (-1), .int 0])), (p20, .inl (c20, 34, .inl (fun _ => 0))), (q27, .inr (3, [.int 0, .int 0, .int 0, .int 0, .int 0])), (q38, .inr (4, [.int 0, .int 0, .int 0, .int 0, .int 0]))] H := hP
  have hD : va_D A [(h0, .inr (0, [.ref q5, .ref q16, .ref q27, .ref q38, .int 0, .int 4, .int 0, .int 0, .int 0])), (q5, .inr (1, [.ref p9])), (p9, .inl (c9, 1024, .inl (fun _ => 0))), (q16, .inr (2, [.ref p20, .int (-1), .int 0])), (p20, .inl (c20, 34, .inl (fun _ => 0))), (q27, .inr (3, [.int 0, .int 0, .int 0, .int 0, .int 0])), (q38, .inr (4, [.int 0, .int 0, .int 0, .int 0, .int 0]))] := hD
  have hP9 : va_P D vwCl (wSC (f7 h0 q5 p9 q16 p20 q27 q38) (f2 c9 c20) uS0) H := hP.sub (ws' := wSC (f7 h0 q5 p9 q16 p20 q27 q38) (f2 c9 c20) uS0) [0, 1, 2, 3, 4, 5, 6] rfl
  have hD9 : va_D A (wSC (f7 h0 q5 p9 q16 p20 q27 q38) (f2 c9 c20) uS0) := hD.sub (ws' := wSC (f7 h0 q5 p9 q16 p20 q27 q38) (f2 c9 c20) uS0) [0, 1, 2, 3, 4, 5, 6] (by decide) rfl
  have hK9 : va_K D vwCl (tyI (f2 c9 c20)) s := hK
  exact W.vret hx hb hr (fun t ht hW => ⟨⟨((f7 h0 q5 p9 q16 p20 q27 q38), (f2 c9 c20)), rfl, trivial, by rw [ht]; exact hP9, va_K.moved hW.alike hK9, hD9, rfl⟩, hS.F ht⟩) hS.2.2 nd_S_init_53
