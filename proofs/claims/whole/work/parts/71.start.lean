theorem gs_U : (Cond.laysStatic Bundle.tN "UNASSIGNED_STACK" Bundle.steD) ∈ lw_tbl := List.mem_append_right _ (List.mem_of_getElem? (i := 468) (by decide +kernel))
theorem gs_S : (Cond.laysStatic Bundle.tN "SUPPRESSED_SENTINEL" Bundle.listD) ∈ lw_tbl := List.mem_append_right _ (List.mem_of_getElem? (i := 470) (by decide +kernel))
/-! the law's loop and its start -/
theorem nI_3 : nI 3 = 3 := by decide +kernel
theorem cmp_no {L k : Nat} (h : 3 * k + 3 ≤ L) (hL : L ≤ 1536) : ¬ (nI L - 3 < nI (3 * k)) := by
  have e : nI L - 3 = nI (L - 3) := by
    rw [show L = (L - 3) + 3 by omega, ← nI_add, nI_3, Int32.add_sub_cancel]
    rfl
  rw [e]
  exact nI_nlt (by omega) (by omega)
theorem cmp_yes {L k : Nat} (h : ¬ 3 * k + 3 ≤ L) (hL : L ≤ 1536) (hk : k ≤ 512) : nI L - 3 < nI (3 * k) := by
  by_cases h3 : 3 ≤ L
  · have e : nI L - 3 = nI (L - 3) := by
      rw [show L = (L - 3) + 3 by omega, ← nI_add, nI_3, Int32.add_sub_cancel]
      rfl
    rw [e]
    exact nI_lt (by omega) (by omega)
  · have h9 : L = 0 ∨ L = 1 ∨ L = 2 := by omega
    have hp := nI_toInt (n := 3 * k) (by omega)
    rw [Int32.lt_iff_toInt_lt, hp]
    rcases h9 with rfl | rfl | rfl
    · exact Int.lt_of_lt_of_le (show (nI 0 - 3).toInt < 0 by decide +kernel) (by omega)
    · exact Int.lt_of_lt_of_le (show (nI 1 - 3).toInt < 0 by decide +kernel) (by omega)
    · exact Int.lt_of_lt_of_le (show (nI 2 - 3).toInt < 0 by decide +kernel) (by omega)
set_option maxHeartbeats 4000000 in
set_option maxRecDepth 100000 in
theorem law_loop {p : Program} {l : Launch} {e : Env} {s : State} {m : MethodId} {below : List Frame} {meth : Method} {c : Code} {b L : Nat} {xs : Nat → Int32} {D : va_G} {hs hm : Nat → Nat} {o : Nat} {cS cM : Nat → ClassId} (F9 : LF p l s m c b L xs D cS cM) (hL : L ≤ 1536) (hr : meth.sig.returnType = ret) (hlocks : meth.locks = false) :
    ∀ (n k : Nat) (u v : St) (f : Nat → Int64) (H : Heap) (ls : Array Slot), k + n = 512 → Rel u v → va_P D vwCl (WW hs hm o cS cM u v f) H → va_D (fun q => s.heap.size ≤ q) (WW hs hm o cS cM u v f) → va_S (fun q => s.heap.size ≤ q) s.heap H [] → lv_has ls 7 [(4, .int (nI (3 * k))), (3, .ref o), (2, .ref (hm 0)), (1, .ref (hs 0)), (0, .ref b)] →
      W p l e room_1 s m #[Value.ref b] below meth c H [] (11 + k) (5240 + 6 * k) (lw_Z below #[Value.ref b] s) (F0 m 23 ls []) := by
  obtain ⟨hx, hb, hml, hown, hts, hX, hbl, hK, hN, hZ, hst⟩ := id F9
  have hbA : ¬ s.heap.size ≤ b := Nat.not_le.mpr hbl
  have fin : ∀ (k : Nat) (H : Heap) (ls : Array Slot), k ≤ 512 → W p l e room_1 s m #[Value.ref b] below meth c H [] (11 + k) (5240 + 6 * k) (lw_Z below #[Value.ref b] s) (F0 m 592 ls []) := by
    intro k H ls hk
    refine lv_iconst (v := (1 : Int32)) hx hb nd_L_law_592 (by decide) ?_
    refine W.widen (k := 1042) (n := 13474) (by omega) (by omega) ?_
    exact lw_ret hx hb hr hlocks nd_L_law_593
  intro n
  induction n with
  | zero =>
    intro k u v f H ls hkn hR hP hD hS hl
    refine lv_iload hx hb nd_L_law_23 (lv_at hl 0 rfl) ?_
    refine lv_aload_n hx hb nd_L_law_25 rfl (lv_at hl 4 rfl) ?_
    refine va_slen hx hb hX hbl hbA hS nd_L_law_26 ?_
    refine lv_iconst (v := (3 : Int32)) hx hb nd_L_law_27 (by decide) ?_
    refine lv_isub hx hb nd_L_law_28 ?_
    refine lv_icmp_gt (tgt := 592) hx hb nd_L_law_29 (by decide) (fun _ => ?_) (fun h9 => absurd (cmp_yes (k := k) (by omega) hL (by omega)) h9)
    exact fin k H ls (by omega)
  | succ n ih =>
    intro k u v f H ls hkn hR hP hD hS hl
    refine lv_iload hx hb nd_L_law_23 (lv_at hl 0 rfl) ?_
    refine lv_aload_n hx hb nd_L_law_25 rfl (lv_at hl 4 rfl) ?_
    refine va_slen hx hb hX hbl hbA hS nd_L_law_26 ?_
    refine lv_iconst (v := (3 : Int32)) hx hb nd_L_law_27 (by decide) ?_
    refine lv_isub hx hb nd_L_law_28 ?_
    refine lv_icmp_gt (tgt := 592) hx hb nd_L_law_29 (by decide) (fun _ => fin k H ls (by omega)) (fun h9 => ?_)
    have hk3 : 3 * k + 3 ≤ L := by
      by_cases h8 : 3 * k + 3 ≤ L
      · exact h8
      · exact absurd (cmp_yes h8 hL (by omega)) h9
    have hi0 : vp_in (nI (3 * k)) L := vp_in_nI (by omega) (by omega)
    have hi1 : vp_in (nI (3 * k) + 1) L := by
      rw [nI_1]
      exact vp_in_nI (by omega) (by omega)
    have hi2 : vp_in (nI (3 * k) + 2) L := by
      rw [show nI (3 * k) + 2 = nI (3 * k + 2) from nI_add (3 * k) 2]
      exact vp_in_nI (by omega) (by omega)
    have kk : ∀ (u v : St) (f : Nat → Int64) (H : Heap) (locs : List Loc) (ls : Array Slot), Rel u v → va_P D vwCl (WW hs hm o cS cM u v f) H → va_D (fun q => s.heap.size ≤ q) (WW hs hm o cS cM u v f) → va_S (fun q => s.heap.size ≤ q) s.heap H locs → lv_has ls 7 [(4, .int (nI (3 * k))), (3, .ref o), (2, .ref (hm 0)), (1, .ref (hs 0)), (0, .ref b)] → W p l e room_1 s m #[Value.ref b] below meth c H locs (11 + k + 1) (5240 + 6 * k + 6) (lw_Z below #[Value.ref b] s) (F0 m 586 ls []) := by
      intro u v f H locs ls hR hP hD hS hl
      refine lv_iinc (k := 0) (v := nI (3 * k) + (3 : Int32)) (lv' := [(4, .int (nI (3 * k) + (3 : Int32))), (3, .ref o), (2, .ref (hm 0)), (1, .ref (hs 0)), (0, .ref b)]) hx hb nd_L_law_586 hl rfl rfl (by decide) rfl (fun ls hl => ?_)
      refine lv_goto (tgt := 23) hx hb nd_L_law_589 (by decide) ?_
      refine va_forget (fun q hq => hS.2.2 q hq) ?_
      have e3 : nI (3 * k) + (3 : Int32) = nI (3 * (k + 1)) := by
        rw [← nI_3, nI_add, show 3 * (k + 1) = 3 * k + 3 by omega]
      rw [e3] at hl
      have h9 := ih (k + 1) u v f H ls (by omega) hR hP hD ⟨hS.1, hS.2.1, fun _ h => nomatch h⟩ hl
      rw [show 11 + (k + 1) = 11 + k + 1 by omega, show 5240 + 6 * (k + 1) = 5240 + 6 * k + 6 by omega] at h9
      exact h9
    refine lv_aload_n hx hb nd_L_law_32 rfl (lv_at hl 4 rfl) ?_
    refine lv_iload hx hb nd_L_law_33 (lv_at hl 0 rfl) ?_
    refine va_sld hx hb hX hbl hbA hS hi0 nd_L_law_35 ?_
    refine lv_bipush (v := (15 : Int32)) hx hb nd_L_law_36 (by decide) ?_
    refine lv_iand hx hb nd_L_law_38 ?_
    have hc1 : 11 + k + 1 ≤ 1042 := by omega
    have hc2 : 5240 + 6 * k + 6 ≤ 13474 := by omega
    generalize xs (nI (3 * k)).toNatClampNeg &&& (15 : Int32) = z
    rcases my_em (x := z) (0 : Int32) with z0 | z0
    · refine my_swi (tgt := 96) hx hb nd_L_law_39 z0 (by decide) (by decide) rfl (by decide) ?_
      exact law_reset F9 hR hP hD hS hl hi1 hi2 hc1 hc2 kk
    rcases my_em (x := z) (1 : Int32) with z1 | z1
    · refine my_swi (tgt := 107) hx hb nd_L_law_39 z1 (by decide) (by decide) rfl (by decide) ?_
      exact law_put F9 hR hP hD hS hl hi1 hi2 hc1 hc2 kk
    rcases my_em (x := z) (2 : Int32) with z2 | z2
    · refine my_swi (tgt := 175) hx hb nd_L_law_39 z2 (by decide) (by decide) rfl (by decide) ?_
      exact law_word F9 hR hP hD hS hl hi1 hi2 hc1 hc2 kk
    rcases my_em (x := z) (3 : Int32) with z3 | z3
    · refine my_swi (tgt := 231) hx hb nd_L_law_39 z3 (by decide) (by decide) rfl (by decide) ?_
      exact law_set F9 hR hP hD hS hl hi1 hi2 hc1 hc2 kk
    rcases my_em (x := z) (4 : Int32) with z4 | z4
    · refine my_swi (tgt := 299) hx hb nd_L_law_39 z4 (by decide) (by decide) rfl (by decide) ?_
      exact law_register F9 hR hP hD hS hl hi1 hi2 hc1 hc2 kk
    rcases my_em (x := z) (5 : Int32) with z5 | z5
    · refine my_swi (tgt := 355) hx hb nd_L_law_39 z5 (by decide) (by decide) rfl (by decide) ?_
      exact law_go F9 hR hP hD hS hl hi1 hi2 hc1 hc2 kk
    rcases my_em (x := z) (6 : Int32) with z6 | z6
    · refine my_swi (tgt := 380) hx hb nd_L_law_39 z6 (by decide) (by decide) rfl (by decide) ?_
      exact law_status F9 hR hP hD hS hl hi1 hi2 hc1 hc2 kk
    rcases my_em (x := z) (7 : Int32) with z7 | z7
    · refine my_swi (tgt := 405) hx hb nd_L_law_39 z7 (by decide) (by decide) rfl (by decide) ?_
      exact law_lines F9 hR hP hD hS hl hi1 hi2 hc1 hc2 kk
    rcases my_em (x := z) (8 : Int32) with z8 | z8
    · refine my_swi (tgt := 461) hx hb nd_L_law_39 z8 (by decide) (by decide) rfl (by decide) ?_
      exact law_step F9 hR hP hD hS hl hi1 hi2 hc1 hc2 kk
    rcases my_em (x := z) (9 : Int32) with z9 | z9
    · refine my_swi (tgt := 474) hx hb nd_L_law_39 z9 (by decide) (by decide) rfl (by decide) ?_
      exact law_run F9 hR hP hD hS hl hi1 hi2 hc1 hc2 kk
    rcases my_em (x := z) (10 : Int32) with z10 | z10
    · refine my_swi (tgt := 530) hx hb nd_L_law_39 z10 (by decide) (by decide) rfl (by decide) ?_
      exact law_look F9 hR hP hD hS hl hi1 hi2 hc1 hc2 kk
    refine my_swd (tgt := 586) hx hb nd_L_law_39 (my_nec z0 (my_nec z1 (my_nec z2 (my_nec z3 (my_nec z4 (my_nec z5 (my_nec z6 (my_nec z7 (my_nec z8 (my_nec z9 (my_nec z10 my_nen))))))))))) (by decide +kernel) (by decide) ?_
    refine W.widen (k := 11 + k + 1) (n := 5240 + 6 * k + 6) (by omega) (by omega) ?_
    exact kk u v f H [] ls hR hP hD hS hl
def uD0 : St := fun i => match i with
  | 0 => fun k => if k = 4 then 4 else if k = 13 then -1 else 0
  | _ => fun _ => 0
def f3 {α : Type} (a b c : α) : Nat → α := fun k => match k with
  | 0 => a
  | 1 => b
  | _ => c
theorem bt_0 (i : Nat) : bt 0 i = false := by
  first | simp [bt] | (unfold bt; simp)
theorem rel_0 : Rel uS0 uD0 := by
  refine ⟨⟨rfl, rfl, rfl, rfl, rfl⟩, ⟨fun _ _ => rfl, rfl⟩, ⟨rfl, rfl, by decide⟩, ⟨rfl, rfl, rfl, rfl⟩, ⟨by decide +kernel, ⟨0, by decide, by decide +kernel⟩, ⟨0, by decide, by decide +kernel⟩⟩, fun j hj => ?_, fun i k hk => ?_⟩
  · show (0 : Int32) = jn (jn (jn (jn 0 0) 0) 0) 0
    decide +kernel
  · exact bt_0 k
theorem my_K {s : State} {args : Array Value} (h : ∀ w ∈ GW, w.before args s = true) : ∃ D : va_G, va_K D vwCl [] s := by
  obtain ⟨c0, i0, k0⟩ := u_known h nu_S (h _ gw_8)
  obtain ⟨c1, i1, k1⟩ := u_known h nu_M (h _ gw_16)
  obtain ⟨c2, i2, k2⟩ := u_known h nu_R (h _ gw_24)
  obtain ⟨c3, i3, k3⟩ := u_known h nu_C (h _ gw_35)
  obtain ⟨c4, i4, k4⟩ := u_known h nu_O (h _ gw_50)
  obtain ⟨c5, i5, k5⟩ := u_known h nu_D (h _ gw_409)
  refine ⟨(fun k => match k with | 0 => c0 | 1 => c1 | 2 => c2 | 3 => c3 | 4 => c4 | _ => c5, fun k => match k with | 0 => i0 | 1 => i1 | 2 => i2 | 3 => i3 | 4 => i4 | _ => i5), ?_, fun k q h9 => by simp at h9⟩
  intro k q hq
  match k, hq with
  | 0, hq => cases hq; exact k0
  | 1, hq => cases hq; exact k1
  | 2, hq => cases hq; exact k2
  | 3, hq => cases hq; exact k3
  | 4, hq => cases hq; exact k4
  | 5, hq => cases hq; exact k5
  | n + 6, hq => exact nomatch hq
theorem nwS_tab : nwS.all Cond.onTables = true := by decide +kernel
theorem my_ZL {args : Array Value} {s : State} {C n d : String} (hl : (Cond.laysStatic C n d).before args s = true) (h : (Cond.isRef (.static C n d)).before args s = true) : ZL C n d s.heap.size s s.heap := by
  obtain ⟨c, k, i, f, a, cell, h1, h2, h3, h4, h5, h6, h7, h8, h9⟩ := Cond.laysStatic_spec hl
  have hv : cell.slots[f.slot]? = some (cell.slots[f.slot]'h8) := Array.getElem?_eq_getElem h8
  have he : (Term.static C n d).eval args s none [] s = some (cell.slots[f.slot]'h8) := by
    simp [Term.eval, State.fieldNamed?, h2, h3, h4, h5, h6, hv]
  refine ⟨c, k, i, f, a, cell, _, h1, h2, h3, h4, h5, h6, h7, h8, h9, hv, ?_, (Array.getElem?_eq_some_iff.mp h5).1⟩
  simp only [Cond.before, Cond.holds, Cond.value, he] at h
  generalize cell.slots[f.slot]'h8 = v at h ⊢
  cases v <;> simp_all [Value.isRef]
set_option maxHeartbeats 4000000 in
set_option maxRecDepth 100000 in
theorem whole_start {p : Program} {e : Env} {s : State} {m : MethodId} {below : List Frame} {meth : Method} {c : Code} (l : Launch) (hst : l.stackTraces = false) {b L : Nat} {xs : Nat → Int32} (hL : L ≤ 1536) (C0 : lw_At p s m meth c b L xs) : W p l e room_1 s m #[Value.ref b] below meth c s.heap [] 0 0 (lw_Z below #[Value.ref b] s) (entryFrame m ([Value.ref b] : List Value).toArray 7) := by
  obtain ⟨hx, hb, hr, hml, hown, hts, hX, hbl, hlocks, hgv⟩ := C0
  have hown : s.vm.findClass nR_L = some m.cls := hown
  have htg : ∀ w ∈ GW, w.before #[Value.ref b] s = true := fun w h9 => hts w (gw_t w h9)
  have hN : NW nwS s := fun w hw => va_Nw.of (List.all_eq_true.mp nwS_tab w hw) (hts w (nw_t w hw))
  have hg := flat_of_before _ hgv
  have hZ : ZU s.heap.size s s.heap := ⟨my_ZL (hts _ gs_U) (hg _ (by decide +kernel)), my_ZL (hts _ gs_S) (hg _ (by decide +kernel))⟩
  obtain ⟨D, hK⟩ := my_K htg
  obtain ⟨A, hAe⟩ : ∃ A : Nat → Prop, A = fun q => s.heap.size ≤ q := ⟨_, rfl⟩
  have hA : ∀ q : Nat, s.heap.size ≤ q → A q := fun q h => by rw [hAe]; exact h
  have hS : va_S A s.heap s.heap [] := va_S.rf
  have hP : va_P D vwCl [] s.heap := my_nil
  have hD : va_D A [] := ⟨fun i j p9 q9 h1 => by simp at h1, fun k q9 h1 => by simp at h1⟩
  have hl := lv_entry ([.ref b]) (n := 7) (Nat.le_of_ble_eq_true rfl)
  rw [lg_entry_eq]
  generalize (lg_sl ([.ref b]) ++ List.replicate (7 - (lg_sl ([.ref b])).length) Slot.unset).toArray = ls at hl ⊢
  have hl : lv_has ls 7 [(0, .ref b)] := hl
  have g1 : 0 + 1 ≤ 1042 := by decide
  have g2 : 0 + 9 ≤ 13474 := by decide
  refine va_new (ci := 0) (fs := [.null, .null, .null, .null, .int 0, .int 0, .int 0, .int 0, .int 0]) (C := nR_S) (T := nT_S) (N := 9) hx hb htg nu_S nt_S nto_S hown (htg _ gw_7) (htg _ gw_8) (htg _ gw_1) hK hP hD hS hA rfl (fun j hj => by rcases (show j = 0 ∨ j = 1 ∨ j = 2 ∨ j = 3 ∨ j = 4 ∨ j = 5 ∨ j = 6 ∨ j = 7 ∨ j = 8 by omega) with rfl | rfl | rfl | rfl | rfl | rfl | rfl | rfl | rfl <;> rfl) g1 g2 nd_L_law_0 (fun q H hPc hDc hS => ?_)
  have hPc : va_P D vwCl [(q, .inr (0, [.null, .null, .null, .null, .int 0, .int 0, .int 0, .int 0, .int 0]))] H := hPc
  have hDc : va_D A [(q, .inr (0, [.null, .null, .null, .null, .int 0, .int 0, .int 0, .int 0, .int 0]))] := hDc
  have hKc := hK
  refine lv_dup hx hb nd_L_law_3 rfl ?_
  have hF := my_fr hDc hS hA
  have g1 : 0 + 1 + 6 ≤ 1042 := by decide
  have g2 : 0 + 9 + 1072 ≤ 13474 := by decide
  refine va_callv (va_runI (As := []) (rest := [.ref q]) ⟨hx, hb, hml, hown, htg⟩ (c_S_init l D q H.size) ⟨callB_of 0 htg (gw_in gw_11) rfl rfl rfl (htg _ gw_1) (htg _ gw_9) nh_S_init ⟨Nat.le_of_ble_eq_true rfl, Nat.le_of_ble_eq_true rfl⟩, rfl, (htg _ gw_10)⟩ ⟨fun a U g mk q => by obtain ⟨q0, q1, qP, qK, qD, qN⟩ := q; exact ⟨q0, q1, qP, va_K.moved (u := U) (U := U.calling g mk a) (Vm.Alike.refl U.vm) qK, qD, NW.same (s := U) (U := U.calling g mk a) nwOk rfl qN⟩, fun U hU hW => ⟨rfl, by rw [hU], by rw [hU]; exact hPc, va_K.moved hW.alike hKc, hDc.weaken (fun _ _ _ _ => trivial), NW.warm nwOk hW hN⟩⟩ rfl rfl hl.1 rfl (lv_room (Nat.le_of_ble_eq_true rfl)) nd_L_law_4 ⟨g1, g2⟩) hS (fun z _ h => hF z h) hF (fun x t H1 locs ht hvm hw hB hz1 hk1 hS => ?_)
  obtain ⟨hP, hK1, hD1, hh0⟩ := hB
  rw [ht] at hP
  have hD : va_D A (wSC x.1 x.2 uS0) := hD1.weaken (fun _ _ _ h => hF _ h)
  have hK := va_K.moved hvm.symm hK1
  clear hPc hDc hKc hF hD1 hK1 hk1 hz1
  refine lv_astore_n (lv' := [(1, .ref q), (0, .ref b)]) hx hb nd_L_law_7 rfl hl (by decide) rfl (fun ls hl => ?_)
  have g1 : 0 + 1 + 6 + 1 ≤ 1042 := by decide
  have g2 : 0 + 9 + 1072 + 28 ≤ 13474 := by decide
  refine va_new (ci := 5) (fs := [.int 0, .null, .null, .int 0, .int 0, .int 0, .int 0, .int 0, .int 0, .int 0, .int 0, .int 0, .int 0, .int 0, .int 0, .int 0, .int 0, .int 0, .int 0, .int 0, .int 0, .int 0, .int 0, .int 0, .int 0, .int 0, .int 0, .int 0]) (C := nR_D) (T := nT_D) (N := 28) hx hb htg nu_D nt_D nto_D hown (htg _ gw_408) (htg _ gw_409) (htg _ gw_6) hK hP hD hS hA rfl (fun j hj => by rcases (show j = 0 ∨ j = 1 ∨ j = 2 ∨ j = 3 ∨ j = 4 ∨ j = 5 ∨ j = 6 ∨ j = 7 ∨ j = 8 ∨ j = 9 ∨ j = 10 ∨ j = 11 ∨ j = 12 ∨ j = 13 ∨ j = 14 ∨ j = 15 ∨ j = 16 ∨ j = 17 ∨ j = 18 ∨ j = 19 ∨ j = 20 ∨ j = 21 ∨ j = 22 ∨ j = 23 ∨ j = 24 ∨ j = 25 ∨ j = 26 ∨ j = 27 by omega) with rfl | rfl | rfl | rfl | rfl | rfl | rfl | rfl | rfl | rfl | rfl | rfl | rfl | rfl | rfl | rfl | rfl | rfl | rfl | rfl | rfl | rfl | rfl | rfl | rfl | rfl | rfl | rfl <;> rfl) g1 g2 nd_L_law_8 (fun q2 H hP hD hS => ?_)
  have hP := my_pP List.perm_append_comm hP
  have hD := my_pD List.perm_append_comm hD
  have hPc : va_P D vwCl [(q2, .inr (5, [.int 0, .null, .null, .int 0, .int 0, .int 0, .int 0, .int 0, .int 0, .int 0, .int 0, .int 0, .int 0, .int 0, .int 0, .int 0, .int 0, .int 0, .int 0, .int 0, .int 0, .int 0, .int 0, .int 0, .int 0, .int 0, .int 0, .int 0]))] H := my_Pl hP
  have hDc : va_D A [(q2, .inr (5, [.int 0, .null, .null, .int 0, .int 0, .int 0, .int 0, .int 0, .int 0, .int 0, .int 0, .int 0, .int 0, .int 0, .int 0, .int 0, .int 0, .int 0, .int 0, .int 0, .int 0, .int 0, .int 0, .int 0, .int 0, .int 0, .int 0, .int 0]))] := my_Dl hD
  have hKc := hK.sub (tys' := []) [] rfl
  refine lv_dup hx hb nd_L_law_11 rfl ?_
  have hF := my_fr hDc hS hA
  have g1 : 0 + 1 + 6 + 1 + 2 ≤ 1042 := by decide
  have g2 : 0 + 9 + 1072 + 28 + 4130 ≤ 13474 := by decide
  refine va_callv (va_runI (As := []) (rest := [.ref q2]) ⟨hx, hb, hml, hown, htg⟩ (c_D_init l D q2 H.size) ⟨callB_of 0 htg (gw_in gw_412) rfl rfl rfl (htg _ gw_6) (htg _ gw_410) nh_D_init ⟨Nat.le_of_ble_eq_true rfl, Nat.le_of_ble_eq_true rfl⟩, rfl, (htg _ gw_411)⟩ ⟨fun a U g mk q => by obtain ⟨q0, q1, qP, qK, qD⟩ := q; exact ⟨q0, q1, qP, va_K.moved (u := U) (U := U.calling g mk a) (Vm.Alike.refl U.vm) qK, qD⟩, fun U hU hW => ⟨rfl, by rw [hU], by rw [hU]; exact hPc, va_K.moved hW.alike hKc, hDc.weaken (fun _ _ _ _ => trivial)⟩⟩ rfl rfl hl.1 rfl (lv_room (Nat.le_of_ble_eq_true rfl)) nd_L_law_12 ⟨g1, g2⟩) hS (fun z _ h => hF z h) hF (fun y t H1 locs ht hvm hw hB hz1 hk1 hS => ?_)
  obtain ⟨hP1, hK1, hD1⟩ := hB
  rw [ht] at hP1
  obtain ⟨hP, hD⟩ := my_jn hP hD hk1 hF hP1 hD1
  have hK := hK.app (va_K.moved hvm.symm hK1)
  clear hPc hDc hKc hF hD1 hK1 hk1 hz1 hP1
  refine lv_astore_n (lv' := [(2, .ref q2), (1, .ref q), (0, .ref b)]) hx hb nd_L_law_15 rfl hl (by decide) rfl (fun ls hl => ?_)
  refine lv_iconst (v := (1 : Int32)) hx hb nd_L_law_16 (by decide) ?_
  have g1 : 0 + 1 + 6 + 1 + 2 + 1 ≤ 1042 := by decide
  have g2 : 0 + 9 + 1072 + 28 + 4130 + 1 ≤ 13474 := by decide
  refine va_newa (atype := .long) (ty := .long) (n := 1) (N' := 1) (a0 := (1, .inr (.inl (fun _ => 0)))) hx hb (htg _ gw_649) rfl hK hP hD hS hA (fun _ => rfl) (by decide) (by decide) (by decide) g1 g2 nd_L_law_17 (fun q3 cO H hK hP hD hS => ?_)
  refine lv_astore_n (lv' := [(3, .ref q3), (2, .ref q2), (1, .ref q), (0, .ref b)]) hx hb nd_L_law_19 rfl hl (by decide) rfl (fun ls hl => ?_)
  refine lv_iconst (v := (0 : Int32)) hx hb nd_L_law_20 (by decide) ?_
  refine lv_istore (lv' := [(4, .int 0), (3, .ref q3), (2, .ref q2), (1, .ref q), (0, .ref b)]) hx hb nd_L_law_21 hl (by decide) rfl (fun ls hl => ?_)
  rw [List.append_assoc] at hP hD
  have hP := my_pP pm_M hP
  have hD := my_pD pm_M hD
  have hP : va_P D vwCl (WW x.1 (f3 q2 y.1.1 y.1.2) q3 (f3 (x.2 0) (x.2 1) cO) (f2 y.2.1 y.2.2) uS0 uD0 (fun _ => 0)) H := hP
  have hD : va_D A (WW x.1 (f3 q2 y.1.1 y.1.2) q3 (f3 (x.2 0) (x.2 1) cO) (f2 y.2.1 y.2.2) uS0 uD0 (fun _ => 0)) := hD
  have hK : va_K D vwCl (tyW (f3 (x.2 0) (x.2 1) cO) (f2 y.2.1 y.2.2)) s := hK.sub [0, 1, 4, 2, 3] rfl
  rw [← hh0] at hl
  rw [hAe] at hD hS
  refine va_forget (fun z hz => hS.2.2 z hz) ?_
  have F9 : LF p l s m c b L xs D (f3 (x.2 0) (x.2 1) cO) (f2 y.2.1 y.2.2) := ⟨hx, hb, hml, hown, hts, hX, hbl, hK, hN, hZ, hst⟩
  exact law_loop F9 hL hr hlocks 512 0 uS0 uD0 (fun _ => 0) H ls (by decide) rel_0 hP hD ⟨hS.1, hS.2.1, fun _ h => nomatch h⟩ hl
