section
/-! words for the state, the pure functions' joints, the contracts' forms, rows for calls and returns -/
abbrev St : Type := Nat → Nat → Int32
def sU (u : St) (i k : Nat) (v : Int32) : St := fun j => if j = i then upd (u i) k v else u j
def zb (x : Int32) : Int32 := if x = 0 then 0 else 1
def ush (x y : Int32) : Int32 := (x.toUInt32 >>> (y.toUInt32 &&& Int32.toUInt32 31)).toInt32
def inb (i : Int32) (n : Nat) : Bool := decide (0 ≤ i.toInt) && decide (i.toInt < n)
def fuel : Nat := 6000
def bnv {α β : Type} (x : α) (k : α → β) : β := k x
def bnd {α β γ : Type} (x : α × β) (k : α → β → γ) : γ := k x.1 x.2
def obv {α β : Type} (x : Option α) (k : α → Option β) : Option β := match x with | none => none | some a => k a
def obn {α β γ : Type} (x : Option (α × β)) (k : α → β → Option γ) : Option γ := match x with | none => none | some a => k a.1 a.2
theorem bnv_i {α β : Type} {x : α} {k : α → β} {t : β} (h : bnv x k = t) : ∃ a, x = a ∧ k a = t := ⟨x, rfl, h⟩
theorem bnd_i {α β γ : Type} {x : α × β} {k : α → β → γ} {t : γ} (h : bnd x k = t) : ∃ a b, x = (a, b) ∧ k a b = t := ⟨x.1, x.2, rfl, h⟩
theorem obv_i {α β : Type} {x : Option α} {k : α → Option β} {t : β} (h : obv x k = some t) : ∃ a, x = some a ∧ k a = some t := by
  cases x with
  | none => cases h
  | some a => exact ⟨a, rfl, h⟩
theorem obn_i {α β γ : Type} {x : Option (α × β)} {k : α → β → Option γ} {t : γ} (h : obn x k = some t) : ∃ a b, x = some (a, b) ∧ k a b = some t := by
  cases x with
  | none => cases h
  | some a => exact ⟨a.1, a.2, rfl, h⟩
theorem inb_i {i : Int32} {n : Nat} {α : Type} {A : Option α} {t : α} (h : (if inb i n then A else none) = some t) : vp_in i n ∧ A = some t := by
  by_cases hc : inb i n = true
  · rw [if_pos hc] at h
    refine ⟨vp_in_iff.mpr ?_, h⟩
    simp [inb] at hc
    exact hc
  · rw [if_neg hc] at h
    cases h
theorem nz_i {y : Int64} {α : Type} {A : Option α} {t : α} (h : (if y = 0 then none else A) = some t) : ¬ y = 0 ∧ A = some t := by
  by_cases hc : y = 0
  · rw [if_pos hc] at h
    cases h
  · rw [if_neg hc] at h
    exact ⟨hc, h⟩
theorem my_em {x : Int32} (v : Int32) : x = v ∨ ¬ x = v := Decidable.em _
theorem zb_n (x : Int32) : narrow .boolean (.int (zb x)) = .int (zb x) := by
  unfold zb
  split <;> rfl
theorem zb_f (x : Int32) : fits .boolean (.int (zb x)) = true := by
  unfold zb
  split <;> rfl
def my_ne (x : Int32) : List Int32 → Prop
  | [] => True
  | v :: t => (¬ x = v) ∧ my_ne x t
theorem my_nen {x : Int32} : my_ne x [] := trivial
theorem my_nec {x v : Int32} {t : List Int32} (h : ¬ x = v) (ht : my_ne x t) : my_ne x (v :: t) := ⟨h, ht⟩
theorem my_ne_mem {x : Int32} : ∀ {l : List Int32}, my_ne x l → ∀ v ∈ l, ¬ x = v
  | [], _, v, hv => by cases hv
  | a :: l, h, v, hv => by
    rcases List.mem_cons.mp hv with e | hv
    · rw [e]; exact h.1
    · exact my_ne_mem h.2 v hv
def D0 : va_G := (fun _ => 0, fun _ _ => 0)
/-! what is said of the links across the nest -/
def NWo : Cond → Bool
  | .fieldLinkNest _ _ _ _ _ _ => true
  | .methodLinkNest _ _ _ _ => true
  | _ => false
def NW (nw : List Cond) (U : State) : Prop := ∀ w ∈ nw, va_Nw w U
theorem NW.warm {nw : List Cond} {s U : State} (hn : nw.all NWo = true) (hW : s.WarmedH U.vm) (h : NW nw s) : NW nw U := by
  intro w hw
  have h1 := List.all_eq_true.mp hn w hw
  have h2 := h w hw
  unfold NWo at h1
  split at h1
  · exact va_Nw.warmF hW h2
  · exact va_Nw.warmM hW h2
  · cases h1
theorem NW.same {nw : List Cond} {s U : State} (hn : nw.all NWo = true) (hv : s.vm = U.vm) (h : NW nw s) : NW nw U := by
  intro w hw
  have h1 := List.all_eq_true.mp hn w hw
  have h2 := h w hw
  unfold NWo at h1
  split at h1
  · exact va_Nw.same rfl hv h2
  · exact va_Nw.same rfl hv h2
  · cases h1
section MY
variable {p : Program} {l : Launch} {e : Env} {R : Room} {s : State} {m : MethodId} {args : Array Value} {below : List Frame} {meth : Method} {c : Code} {H : Heap} {locs : List Loc} {cells slots : Nat} {Q : State → Prop}
variable {cc : ByteArray} {pc : Nat} {ls : Array Slot} {rest : List Value}
theorem my_swi (hexec : p.tables.exec = Jvm.exec) (hb : c.code = cc) {dflt lo hi : Int} {offs : Array Int} {len : Nat} {x v : Int32} {off : Int} {tgt : Nat} (hdg : decode cc pc = .ok (.tableswitch dflt lo hi offs, len)) (h : x = v) (h1 : ¬ v.toInt < lo) (h2 : ¬ hi < v.toInt) (ho : offs[(v.toInt - lo).toNat]? = some off) (ht : (pc : Int) + off = (tgt : Int))
    (k : W p l e R s m args below meth c H locs cells slots Q (F0 m tgt ls rest)) : W p l e R s m args below meth c H locs cells slots Q (F0 m pc ls (.int x :: rest)) := by
  subst h
  exact lv_tableIn hexec hb hdg h1 h2 ho ht k
theorem my_swd (hexec : p.tables.exec = Jvm.exec) (hb : c.code = cc) {dflt lo hi : Int} {offs : Array Int} {len : Nat} {x : Int32} {tgt : Nat} {lb : List Int32} (hdg : decode cc pc = .ok (.tableswitch dflt lo hi offs, len)) (hl : my_ne x lb)
    (hall : (List.range (hi - lo + 1).toNat).all (fun j => decide (offs[j]? = some dflt) || lb.any (fun v => decide (v.toInt = lo + j))) = true) (ht : (pc : Int) + dflt = (tgt : Int))
    (k : W p l e R s m args below meth c H locs cells slots Q (F0 m tgt ls rest)) : W p l e R s m args below meth c H locs cells slots Q (F0 m pc ls (.int x :: rest)) := by
  by_cases h1 : x.toInt < lo
  · exact lv_tableOut hexec hb hdg (Or.inl h1) ht k
  by_cases h2 : hi < x.toInt
  · exact lv_tableOut hexec hb hdg (Or.inr h2) ht k
  have h3 := List.all_eq_true.mp hall (x.toInt - lo).toNat (List.mem_range.mpr (by omega))
  rcases Bool.or_eq_true_iff.mp h3 with h4 | h4
  · exact lv_tableIn hexec hb hdg h1 h2 (of_decide_eq_true h4) ht k
  · obtain ⟨v, hv, h5⟩ := List.any_eq_true.mp h4
    have h6 : v.toInt = lo + ((x.toInt - lo).toNat : Int) := of_decide_eq_true h5
    have h7 : x = v := Int32.toInt_inj.mp (by omega)
    exact absurd h7 (my_ne_mem hl v hv)
end MY
theorem goodIn_sub9 {big : List Cond} {d : Cond} (hm : ∀ w ∈ d :: big, w ∈ big) (h : big.all goodWord = true) (hd : d ∈ big) : GoodIn big (d :: big) :=
  fun w hw => ⟨hm w hw, good_of_word (List.all_eq_true.mp h w (hm w hw))⟩
/-- the cells that a method may change are its caller's -/
theorem my_fr {A : Nat → Prop} {ws : va_W} {H0 H : Heap} {locs : List Loc} (hD : va_D A ws) (hS : va_S A H0 H locs) (hA : ∀ q, H0.size ≤ q → A q) : ∀ q, va_A ws H.size q → A q :=
  fun q h => h.elim (fun ⟨k, e, hk⟩ => hD.2 k (q, e) hk) (fun h => hA q (Nat.le_trans hS.1 h))
/-- the world at a method's start, at its end -/
abbrev WB (nw : List Cond) (cl : List vw_C) (D : va_G) (ty : List (ClassId × FieldType)) (ws : va_W) (sz : Nat) (U : State) : Prop := U.heap.size = sz ∧ va_P D cl ws U.heap ∧ va_K D cl ty U ∧ va_D (fun _ => True) ws ∧ NW nw U
abbrev WA (cl : List vw_C) (D : va_G) (ty : List (ClassId × FieldType)) (A : Nat → Prop) (ws : va_W) (t : State) : Prop := va_P D cl ws t.heap ∧ va_K D cl ty t ∧ va_D A ws
abbrev QI (cl : List vw_C) (D : va_G) (ty : List (ClassId × FieldType)) (wd : St → va_W) (F : Int32 × St) (A : Nat → Prop) : Array Value → State → Outcome → State → Prop := va_Qi (fun r u' => r = F.1 ∧ u' = F.2) (fun u' t => WA cl D ty A (wd u') t) A
abbrev QV (cl : List vw_C) (D : va_G) (ty : List (ClassId × FieldType)) (wd : St → va_W) (F : St) (A : Nat → Prop) : Array Value → State → Outcome → State → Prop := va_Qv (fun u' => u' = F) (fun u' t => WA cl D ty A (wd u') t) A
abbrev QP (F : Int32) : Array Value → State → Outcome → State → Prop := va_Qi (fun r (_ : Unit) => r = F) (fun _ _ => True) (fun _ => False)
abbrev QL (F : Int64) : Array Value → State → Outcome → State → Prop := va_Ql (fun r (_ : Unit) => r = F) (fun _ _ => True) (fun _ => False)
/-- a contract of a method that may change the world's cells, makes none, answers an int; answers nothing; of one that has no world -/
def MI (nw : List Cond) (cl : List vw_C) (l : Launch) (y : MethodName) (ws : List Cond) (rm : Room) (D : va_G) (ty : List (ClassId × FieldType)) (wd : St → va_W) (av : List Value) (u : St) (F : Int32 × St) : Prop :=
  ∀ sz : Nat, Met l y ws rm (va_Pc av (WB nw cl D ty (wd u) sz)) (QI cl D ty wd F (va_A (wd u) sz)) 0 0 (va_A (wd u) sz)
def MV (nw : List Cond) (cl : List vw_C) (l : Launch) (y : MethodName) (ws : List Cond) (rm : Room) (D : va_G) (ty : List (ClassId × FieldType)) (wd : St → va_W) (av : List Value) (u : St) (F : St) : Prop :=
  ∀ sz : Nat, Met l y ws rm (va_Pc av (WB nw cl D ty (wd u) sz)) (QV cl D ty wd F (va_A (wd u) sz)) 0 0 (va_A (wd u) sz)
def MP (l : Launch) (y : MethodName) (ws : List Cond) (rm : Room) (av : List Value) (F : Int32) : Prop := Met l y ws rm (va_Pc av (fun _ => True)) (QP F) 0 0 (fun _ => False)
def ML (l : Launch) (y : MethodName) (ws : List Cond) (rm : Room) (av : List Value) (F : Int64) : Prop := Met l y ws rm (va_Pc av (fun _ => True)) (QL F) 0 0 (fun _ => False)
theorem my_in {nw : List Cond} {cl : List vw_C} {l : Launch} {y : MethodName} {ws gw : List Cond} {rm : Room} {D : va_G} {ty : List (ClassId × FieldType)} {wd : St → va_W} {av : List Value} {u : St} {cc : ByteArray} {maxL : Nat} {ret : Option FieldType} {Qc : (Nat → Prop) → Array Value → State → Outcome → State → Prop}
    (hy : plainName y.cls = true) (hw : ws = Cond.code y cc maxL ret :: gw) (hlen : (lg_sl av).length ≤ maxL)
    (body : ∀ (p : Program) (e : Env) (s : State) (m : MethodId) (below : List Frame) (meth : Method) (c : Code) (A : Nat → Prop) (H : Heap) (locs : List Loc) (ls : Array Slot), p.tables.exec = Jvm.exec → c.code = cc → c.maxLocals = maxL → meth.sig.returnType = ret → (∀ w ∈ gw, w.before av.toArray s = true) → s.vm.findClass y.cls = some m.cls → meth.locks = false → va_K D cl ty s → NW nw s → (∀ q, s.heap.size ≤ q → A q) → va_P D cl (wd u) H → va_D A (wd u) → va_S A s.heap H locs → lv_has ls maxL (lv_args 0 av) →
      W p l e (headSpec ws rm).room s m av.toArray below meth c H locs 0 0 (MQ below (Qc A) av.toArray s 0 0 A) (F0 m 0 ls [])) :
    ∀ sz : Nat, Met l y ws rm (va_Pc av (WB nw cl D ty (wd u) sz)) (Qc (va_A (wd u) sz)) 0 0 (va_A (wd u) sz) := by
  intro sz
  refine Met.ofW (cc := cc) (maxL := maxL) (ret := ret) hy hw ?_
  intro p e s m args below meth c s₁ B hml hv
  obtain ⟨rfl, hsz, hP, hK, hD0, hN⟩ := hv
  have hts : ∀ w ∈ gw, w.before av.toArray s = true := fun w h => atoms_spec (ws := ws) B.pre w (by rw [hw]; exact List.mem_cons_of_mem _ h)
  have hown : s.vm.findClass y.cls = some m.cls := findClass_of_methodNamed B.named
  subst hsz
  have hD := hD0.self (sz := s.heap.size)
  have hl := lv_entry av (n := maxL) hlen
  rw [lg_entry_eq]
  exact body p e s m below meth c (va_A (wd u) s.heap.size) s.heap [] _ B.exec B.bytes hml B.returns hts hown B.notSynchronized hK hN (fun q h => Or.inr h) hP hD va_S.rf hl
theorem my_inP {l : Launch} {y : MethodName} {ws gw : List Cond} {rm : Room} {av : List Value} {cc : ByteArray} {maxL : Nat} {ret : Option FieldType} {Qc : Array Value → State → Outcome → State → Prop}
    (hy : plainName y.cls = true) (hw : ws = Cond.code y cc maxL ret :: gw) (hlen : (lg_sl av).length ≤ maxL)
    (body : ∀ (p : Program) (e : Env) (s : State) (m : MethodId) (below : List Frame) (meth : Method) (c : Code) (H : Heap) (locs : List Loc) (ls : Array Slot), p.tables.exec = Jvm.exec → c.code = cc → c.maxLocals = maxL → meth.sig.returnType = ret → (∀ w ∈ gw, w.before av.toArray s = true) → s.vm.findClass y.cls = some m.cls → meth.locks = false → va_S (fun _ => False) s.heap H locs → lv_has ls maxL (lv_args 0 av) →
      W p l e (headSpec ws rm).room s m av.toArray below meth c H locs 0 0 (MQ below Qc av.toArray s 0 0 (fun _ => False)) (F0 m 0 ls [])) :
    Met l y ws rm (va_Pc av (fun _ => True)) Qc 0 0 (fun _ => False) := by
  refine Met.ofW (cc := cc) (maxL := maxL) (ret := ret) hy hw ?_
  intro p e s m args below meth c s₁ B hml hv
  obtain ⟨rfl, -⟩ := hv
  have hts : ∀ w ∈ gw, w.before av.toArray s = true := fun w h => atoms_spec (ws := ws) B.pre w (by rw [hw]; exact List.mem_cons_of_mem _ h)
  have hown : s.vm.findClass y.cls = some m.cls := findClass_of_methodNamed B.named
  have hl := lv_entry av (n := maxL) hlen
  rw [lg_entry_eq]
  exact body p e s m below meth c s.heap [] _ B.exec B.bytes hml B.returns hts hown B.notSynchronized va_S.rf hl
section MYR
variable {p : Program} {l : Launch} {e : Env} {R : Room} {s : State} {m : MethodId} {args : Array Value} {below : List Frame} {meth : Method} {c : Code} {H : Heap} {locs : List Loc} {cells slots : Nat} {Q : State → Prop}
variable {cc : ByteArray} {pc : Nat} {ls : Array Slot} {rest st0 : List Value} {a : Array Value} {cl : List vw_C} {nw : List Cond} {D : va_G} {ty : List (ClassId × FieldType)} {wd : St → va_W} {A : Nat → Prop} {H0 : Heap} {u u' : St} {v : Int32}
theorem my_ri {F : Int32 × St} (hexec : p.tables.exec = Jvm.exec) (hb : c.code = cc) (hr : meth.sig.returnType = some .int) (hlocks : meth.locks = false) (hK : va_K D cl ty s) (hP : va_P D cl (wd u') H) (hD : va_D A (wd u')) (hS : va_S A s.heap H locs) (hF : (v, u') = F) (hdg : decode cc pc = .ok (.ireturn, 1)) :
    W p l e R s m args below meth c H locs cells slots (MQ below (QI cl D ty wd F A) args s cells slots A) (F0 m pc ls [.int v]) := by
  subst hF
  exact W.iret hexec hb hr (fun t ht hW => ⟨⟨v, u', rfl, ⟨rfl, rfl⟩, by rw [ht]; exact hP, va_K.moved hW.alike hK, hD⟩, hS.F ht⟩) hS.2.2 hdg hlocks
theorem my_rz {F : Int32 × St} {x : Int32} (hexec : p.tables.exec = Jvm.exec) (hb : c.code = cc) (hr : meth.sig.returnType = some .boolean) (hlocks : meth.locks = false) (hK : va_K D cl ty s) (hP : va_P D cl (wd u') H) (hD : va_D A (wd u')) (hS : va_S A s.heap H locs) (hF : (x, u') = F) (hv : zb x = v) (hdg : decode cc pc = .ok (.ireturn, 1)) :
    W p l e R s m args below meth c H locs cells slots (MQ below (QI cl D ty wd (zb F.1, F.2) A) args s cells slots A) (F0 m pc ls [.int v]) := by
  subst hF
  subst hv
  exact W.zret hexec hb hr (zb_n x) (fun t ht hW => ⟨⟨zb x, u', rfl, ⟨rfl, rfl⟩, by rw [ht]; exact hP, va_K.moved hW.alike hK, hD⟩, hS.F ht⟩) hS.2.2 hdg hlocks
theorem my_rzo {F : Int32} {x : Int32} (hexec : p.tables.exec = Jvm.exec) (hb : c.code = cc) (hr : meth.sig.returnType = some .boolean) (hlocks : meth.locks = false) (hK : va_K D cl ty s) (hP : va_P D cl (wd u') H) (hD : va_D A (wd u')) (hS : va_S A s.heap H locs) (hF : x = F) (hv : zb x = v) (hdg : decode cc pc = .ok (.ireturn, 1)) :
    W p l e R s m args below meth c H locs cells slots (MQ below (QI cl D ty wd (zb F, u') A) args s cells slots A) (F0 m pc ls [.int v]) := by
  subst hF
  subst hv
  exact W.zret hexec hb hr (zb_n x) (fun t ht hW => ⟨⟨zb x, u', rfl, ⟨rfl, rfl⟩, by rw [ht]; exact hP, va_K.moved hW.alike hK, hD⟩, hS.F ht⟩) hS.2.2 hdg hlocks
theorem my_rv {F : St} (hexec : p.tables.exec = Jvm.exec) (hb : c.code = cc) (hr : meth.sig.returnType = none) (hlocks : meth.locks = false) (hK : va_K D cl ty s) (hP : va_P D cl (wd u') H) (hD : va_D A (wd u')) (hS : va_S A s.heap H locs) (hF : u' = F) (hdg : decode cc pc = .ok (.return_, 1)) :
    W p l e R s m args below meth c H locs cells slots (MQ below (QV cl D ty wd F A) args s cells slots A) (F0 m pc ls []) := by
  subst hF
  exact W.vret hexec hb hr (fun t ht hW => ⟨⟨u', rfl, rfl, by rw [ht]; exact hP, va_K.moved hW.alike hK, hD⟩, hS.F ht⟩) hS.2.2 hdg hlocks
theorem my_rp {F : Int32} (hexec : p.tables.exec = Jvm.exec) (hb : c.code = cc) (hr : meth.sig.returnType = some .int) (hlocks : meth.locks = false) (hS : va_S (fun _ => False) s.heap H locs) (hF : v = F) (hdg : decode cc pc = .ok (.ireturn, 1)) :
    W p l e R s m args below meth c H locs cells slots (MQ below (QP F) args s cells slots (fun _ => False)) (F0 m pc ls [.int v]) := by
  subst hF
  exact W.iret hexec hb hr (fun t ht hW => ⟨⟨v, (), rfl, rfl, trivial⟩, hS.F ht⟩) hS.2.2 hdg hlocks
theorem my_rpz {F x : Int32} (hexec : p.tables.exec = Jvm.exec) (hb : c.code = cc) (hr : meth.sig.returnType = some .boolean) (hlocks : meth.locks = false) (hS : va_S (fun _ => False) s.heap H locs) (hF : x = F) (hv : zb x = v) (hdg : decode cc pc = .ok (.ireturn, 1)) :
    W p l e R s m args below meth c H locs cells slots (MQ below (QP (zb F)) args s cells slots (fun _ => False)) (F0 m pc ls [.int v]) := by
  subst hF
  subst hv
  exact W.zret hexec hb hr (zb_n x) (fun t ht hW => ⟨⟨zb x, (), rfl, rfl, trivial⟩, hS.F ht⟩) hS.2.2 hdg hlocks
theorem my_rl {F v : Int64} (hexec : p.tables.exec = Jvm.exec) (hb : c.code = cc) (hr : meth.sig.returnType = some .long) (hlocks : meth.locks = false) (hS : va_S (fun _ => False) s.heap H locs) (hF : v = F) (hdg : decode cc pc = .ok (.lreturn, 1)) :
    W p l e R s m args below meth c H locs cells slots (MQ below (QL F) args s cells slots (fun _ => False)) (F0 m pc ls [.long v]) := by
  subst hF
  exact W.lret hexec hb hr (fun t ht hW => ⟨⟨v, (), rfl, rfl, trivial⟩, hS.F ht⟩) hS.2.2 hdg hlocks
theorem my_ci {r : Int32} (hr : va_Run p l e R s m args below meth c H locs cells slots 0 0 (F0 m pc ls st0) rest (QI cl D ty wd (r, u') (va_A (wd u) H.size) a) (va_A (wd u) H.size)) (hD : va_D A (wd u)) (hS : va_S A H0 H locs) (hA : ∀ q, H0.size ≤ q → A q)
    (kk : ∀ (H1 : Heap) (locs1 : List Loc), va_P D cl (wd u') H1 → va_D A (wd u') → va_S A H0 H1 locs1 → W p l e R s m args below meth c H1 locs1 cells slots Q (F0 m (pc + 3) ls (.int r :: rest))) : W p l e R s m args below meth c H locs cells slots Q (F0 m pc ls st0) := by
  refine va_calli hr hS (fun q _ h => my_fr hD hS hA q h) (my_fr hD hS hA) (fun r1 u1 t H1 locs1 ht hvm hp hB hz hk hS1 => ?_)
  obtain ⟨h1, h2⟩ := hp
  have h1 : r1 = r := h1
  have h2 : u1 = u' := h2
  subst h1
  subst h2
  obtain ⟨hP1, hK1, hD1⟩ := hB
  rw [ht] at hP1
  exact kk H1 locs1 hP1 (hD1.weaken (fun _ _ _ h => my_fr hD hS hA _ h)) hS1
theorem my_cv {F : St} (hr : va_Run p l e R s m args below meth c H locs cells slots 0 0 (F0 m pc ls st0) rest (QV cl D ty wd F (va_A (wd u) H.size) a) (va_A (wd u) H.size)) (hD : va_D A (wd u)) (hS : va_S A H0 H locs) (hA : ∀ q, H0.size ≤ q → A q)
    (kk : ∀ (H1 : Heap) (locs1 : List Loc), va_P D cl (wd F) H1 → va_D A (wd F) → va_S A H0 H1 locs1 → W p l e R s m args below meth c H1 locs1 cells slots Q (F0 m (pc + 3) ls rest)) : W p l e R s m args below meth c H locs cells slots Q (F0 m pc ls st0) := by
  refine va_callv hr hS (fun q _ h => my_fr hD hS hA q h) (my_fr hD hS hA) (fun u1 t H1 locs1 ht hvm hp hB hz hk hS1 => ?_)
  subst hp
  obtain ⟨hP1, hK1, hD1⟩ := hB
  rw [ht] at hP1
  exact kk H1 locs1 hP1 (hD1.weaken (fun _ _ _ h => my_fr hD hS hA _ h)) hS1
/-- a call of a method without a world: the caller's stays -/
theorem my_cp {ws : va_W} {F : Int32} (hr : va_Run p l e R s m args below meth c H locs cells slots 0 0 (F0 m pc ls st0) rest (QP F a) (fun _ => False)) (hP : va_P D cl ws H) (hS : va_S A H0 H locs)
    (kk : ∀ (H1 : Heap) (locs1 : List Loc), va_P D cl ws H1 → va_S A H0 H1 locs1 → W p l e R s m args below meth c H1 locs1 cells slots Q (F0 m (pc + 3) ls (.int F :: rest))) : W p l e R s m args below meth c H locs cells slots Q (F0 m pc ls st0) := by
  refine va_calli hr hS (fun q _ h => h.elim) (fun q h => h.elim) (fun r u1 t H1 locs1 ht hvm hp hB hz hk hS1 => ?_)
  subst hp
  exact kk H1 locs1 (hP.kept (fun k q hq => hk q.1 (va_at.lt (hP k q hq)) (fun h => h))) hS1
theorem my_cl {ws : va_W} {F : Int64} (hr : va_Run p l e R s m args below meth c H locs cells slots 0 0 (F0 m pc ls st0) rest (QL F a) (fun _ => False)) (hP : va_P D cl ws H) (hS : va_S A H0 H locs)
    (kk : ∀ (H1 : Heap) (locs1 : List Loc), va_P D cl ws H1 → va_S A H0 H1 locs1 → W p l e R s m args below meth c H1 locs1 cells slots Q (F0 m (pc + 3) ls (.long F :: rest))) : W p l e R s m args below meth c H locs cells slots Q (F0 m pc ls st0) := by
  refine va_calll hr hS (fun q _ h => h.elim) (fun q h => h.elim) (fun r u1 t H1 locs1 ht hvm hp hB hz hk hS1 => ?_)
  subst hp
  exact kk H1 locs1 (hP.kept (fun k q hq => hk q.1 (va_at.lt (hP k q hq)) (fun h => h))) hS1
theorem my_nil : va_P D cl [] H := fun k q h => by simp at h
theorem my_preP {As : List Value} : PreS s H (va_Pc As (fun _ => True)) As := ⟨fun a U g mk q => q, fun U hU hW => ⟨rfl, trivial⟩⟩
theorem my_preV {C : String} {b : Addr} {As : List Value} {ws : va_W} (hn : nw.all NWo = true) (hP : va_P D cl ws H) (hK : va_K D cl ty s) (hD : va_D A ws) (hN : NW nw s) (hrec : ∃ cellB : Cell, H[b]? = some cellB ∧ cellB.vm.isStatics = false ∧ s.vm.findClass C = some cellB.cls) :
    PreV s H C b (va_Pc (.ref b :: As) (WB nw cl D ty ws H.size)) As :=
  ⟨fun a U g mk q => by
      obtain ⟨q0, q1, qP, qK, qD, qN⟩ := q
      exact ⟨q0, q1, qP, va_K.moved (u := U) (U := U.calling g mk a) (Vm.Alike.refl U.vm) qK, qD, NW.same (s := U) (U := U.calling g mk a) hn rfl qN⟩,
    hrec, fun U hU hW => ⟨rfl, by rw [hU], by rw [hU]; exact hP, va_K.moved hW.alike hK, hD.weaken (fun _ _ _ _ => trivial), NW.warm hn hW hN⟩⟩
end MYR
end
section
def nR_S : String := "SlotCore"
def nR_M : String := "SlotCore$Memory"
def nR_R : String := "SlotCore$Registers"
def nR_C : String := "SlotCore$Control"
def nR_O : String := "SlotCore$Outcome"
def nR_D : String := "SlotCoreModel"
def nR_L : String := "SlotCoreLaw"
def nT_S : u_T := fun k => match k with
  | 0 => ("SlotCore", "memory", "LSlotCore$Memory;", true)
  | 1 => ("SlotCore", "registers", "LSlotCore$Registers;", true)
  | 2 => ("SlotCore", "control", "LSlotCore$Control;", true)
  | 3 => ("SlotCore", "outcome", "LSlotCore$Outcome;", true)
  | 4 => ("SlotCore", "pc", "I", false)
  | 5 => ("SlotCore", "next", "I", false)
  | 6 => ("SlotCore", "inSlot", "Z", false)
  | 7 => ("SlotCore", "steps", "I", false)
  | _ => ("SlotCore", "exceptions", "I", false)
def nt_S : Nat → FieldType := fun k => match k with
  | 0 => .object "SlotCore$Memory"
  | 1 => .object "SlotCore$Registers"
  | 2 => .object "SlotCore$Control"
  | 3 => .object "SlotCore$Outcome"
  | 4 => .int
  | 5 => .int
  | 6 => .boolean
  | 7 => .int
  | _ => .int
theorem nn_S : ∀ a, a < 9 → ∀ b, b < 9 → a ≠ b → (nT_S a).2.1 ≠ (nT_S b).2.1 := by decide +kernel
theorem nto_S : ∀ k, k < 9 → parseFieldDescriptor (nT_S k).2.2.1 = some (nt_S k) := by decide +kernel
def nT_M : u_T := fun k => match k with
  | _ => ("SlotCore$Memory", "words", "[I", true)
def nt_M : Nat → FieldType := fun k => match k with
  | _ => .array .int
theorem nn_M : ∀ a, a < 1 → ∀ b, b < 1 → a ≠ b → (nT_M a).2.1 ≠ (nT_M b).2.1 := by decide +kernel
theorem nto_M : ∀ k, k < 1 → parseFieldDescriptor (nT_M k).2.2.1 = some (nt_M k) := by decide +kernel
def nT_R : u_T := fun k => match k with
  | 0 => ("SlotCore$Registers", "values", "[I", true)
  | 1 => ("SlotCore$Registers", "waitsFor", "I", false)
  | _ => ("SlotCore$Registers", "waitingValue", "I", false)
def nt_R : Nat → FieldType := fun k => match k with
  | 0 => .array .int
  | 1 => .int
  | _ => .int
theorem nn_R : ∀ a, a < 3 → ∀ b, b < 3 → a ≠ b → (nT_R a).2.1 ≠ (nT_R b).2.1 := by decide +kernel
theorem nto_R : ∀ k, k < 3 → parseFieldDescriptor (nT_R k).2.2.1 = some (nt_R k) := by decide +kernel
def nT_C : u_T := fun k => match k with
  | 0 => ("SlotCore$Control", "statusBits", "I", false)
  | 1 => ("SlotCore$Control", "causeBits", "I", false)
  | 2 => ("SlotCore$Control", "lineBits", "I", false)
  | 3 => ("SlotCore$Control", "returnAddress", "I", false)
  | _ => ("SlotCore$Control", "badAddress", "I", false)
def nt_C : Nat → FieldType := fun k => match k with
  | 0 => .int
  | 1 => .int
  | 2 => .int
  | 3 => .int
  | _ => .int
theorem nn_C : ∀ a, a < 5 → ∀ b, b < 5 → a ≠ b → (nT_C a).2.1 ≠ (nT_C b).2.1 := by decide +kernel
theorem nto_C : ∀ k, k < 5 → parseFieldDescriptor (nT_C k).2.2.1 = some (nt_C k) := by decide +kernel
def nT_O : u_T := fun k => match k with
  | 0 => ("SlotCore$Outcome", "register", "I", false)
  | 1 => ("SlotCore$Outcome", "value", "I", false)
  | 2 => ("SlotCore$Outcome", "isLoad", "Z", false)
  | 3 => ("SlotCore$Outcome", "isBranch", "Z", false)
  | _ => ("SlotCore$Outcome", "afterNext", "I", false)
def nt_O : Nat → FieldType := fun k => match k with
  | 0 => .int
  | 1 => .int
  | 2 => .boolean
  | 3 => .boolean
  | _ => .int
theorem nn_O : ∀ a, a < 5 → ∀ b, b < 5 → a ≠ b → (nT_O a).2.1 ≠ (nT_O b).2.1 := by decide +kernel
theorem nto_O : ∀ k, k < 5 → parseFieldDescriptor (nT_O k).2.2.1 = some (nt_O k) := by decide +kernel
def nT_D : u_T := fun k => match k with
  | 0 => ("SlotCoreModel", "thrown", "I", false)
  | 1 => ("SlotCoreModel", "bytes", "[I", true)
  | 2 => ("SlotCoreModel", "registers", "[I", true)
  | 3 => ("SlotCoreModel", "pc", "I", false)
  | 4 => ("SlotCoreModel", "next", "I", false)
  | 5 => ("SlotCoreModel", "status", "I", false)
  | 6 => ("SlotCoreModel", "code", "I", false)
  | 7 => ("SlotCoreModel", "soft", "I", false)
  | 8 => ("SlotCoreModel", "lines", "I", false)
  | 9 => ("SlotCoreModel", "behind", "Z", false)
  | 10 => ("SlotCoreModel", "back", "I", false)
  | 11 => ("SlotCoreModel", "bad", "I", false)
  | 12 => ("SlotCoreModel", "slot", "Z", false)
  | 13 => ("SlotCoreModel", "waits", "I", false)
  | 14 => ("SlotCoreModel", "value", "I", false)
  | 15 => ("SlotCoreModel", "steps", "I", false)
  | 16 => ("SlotCoreModel", "troubles", "I", false)
  | 17 => ("SlotCoreModel", "word", "I", false)
  | 18 => ("SlotCoreModel", "order", "I", false)
  | 19 => ("SlotCoreModel", "s", "I", false)
  | 20 => ("SlotCoreModel", "t", "I", false)
  | 21 => ("SlotCoreModel", "k", "I", false)
  | 22 => ("SlotCoreModel", "to", "I", false)
  | 23 => ("SlotCoreModel", "result", "I", false)
  | 24 => ("SlotCoreModel", "loads", "I", false)
  | 25 => ("SlotCoreModel", "loaded", "I", false)
  | 26 => ("SlotCoreModel", "target", "I", false)
  | _ => ("SlotCoreModel", "branches", "Z", false)
def nt_D : Nat → FieldType := fun k => match k with
  | 0 => .int
  | 1 => .array .int
  | 2 => .array .int
  | 3 => .int
  | 4 => .int
  | 5 => .int
  | 6 => .int
  | 7 => .int
  | 8 => .int
  | 9 => .boolean
  | 10 => .int
  | 11 => .int
  | 12 => .boolean
  | 13 => .int
  | 14 => .int
  | 15 => .int
  | 16 => .int
  | 17 => .int
  | 18 => .int
  | 19 => .int
  | 20 => .int
  | 21 => .int
  | 22 => .int
  | 23 => .int
  | 24 => .int
  | 25 => .int
  | 26 => .int
  | _ => .boolean
theorem nn_D : ∀ a, a < 28 → ∀ b, b < 28 → a ≠ b → (nT_D a).2.1 ≠ (nT_D b).2.1 := by decide +kernel
theorem nto_D : ∀ k, k < 28 → parseFieldDescriptor (nT_D k).2.2.1 = some (nt_D k) := by decide +kernel
abbrev vwCl : List vw_C := [(nR_S, nT_S, 9), (nR_M, nT_M, 1), (nR_R, nT_R, 3), (nR_C, nT_C, 5), (nR_O, nT_O, 5), (nR_D, nT_D, 28)]
abbrev nc_S_init : ByteArray := prog_1_method_1_code
def ny_S_init : MethodName := ⟨nR_S, "<init>", "()V"⟩
theorem nh_S_init : ny_S_init.cls ≠ "java/lang/invoke/MethodHandle" ∧ ny_S_init.cls ≠ "java/lang/invoke/VarHandle" ∧ (parseMethodDescriptor ny_S_init.desc).map (fun d => d.parameters.length) = some 0 := by decide +kernel
abbrev nc_S_reset : ByteArray := prog_1_method_2_code
def ny_S_reset : MethodName := ⟨nR_S, "reset", "()V"⟩
theorem nh_S_reset : ny_S_reset.cls ≠ "java/lang/invoke/MethodHandle" ∧ ny_S_reset.cls ≠ "java/lang/invoke/VarHandle" ∧ (parseMethodDescriptor ny_S_reset.desc).map (fun d => d.parameters.length) = some 0 := by decide +kernel
abbrev nc_S_put : ByteArray := prog_1_method_3_code
def ny_S_put : MethodName := ⟨nR_S, "put", "(II)I"⟩
theorem nh_S_put : ny_S_put.cls ≠ "java/lang/invoke/MethodHandle" ∧ ny_S_put.cls ≠ "java/lang/invoke/VarHandle" ∧ (parseMethodDescriptor ny_S_put.desc).map (fun d => d.parameters.length) = some 2 := by decide +kernel
abbrev nc_S_word : ByteArray := prog_1_method_4_code
def ny_S_word : MethodName := ⟨nR_S, "word", "(I)I"⟩
theorem nh_S_word : ny_S_word.cls ≠ "java/lang/invoke/MethodHandle" ∧ ny_S_word.cls ≠ "java/lang/invoke/VarHandle" ∧ (parseMethodDescriptor ny_S_word.desc).map (fun d => d.parameters.length) = some 1 := by decide +kernel
abbrev nc_S_set : ByteArray := prog_1_method_5_code
def ny_S_set : MethodName := ⟨nR_S, "set", "(II)I"⟩
theorem nh_S_set : ny_S_set.cls ≠ "java/lang/invoke/MethodHandle" ∧ ny_S_set.cls ≠ "java/lang/invoke/VarHandle" ∧ (parseMethodDescriptor ny_S_set.desc).map (fun d => d.parameters.length) = some 2 := by decide +kernel
abbrev nc_S_register : ByteArray := prog_1_method_6_code
def ny_S_register : MethodName := ⟨nR_S, "register", "(I)I"⟩
theorem nh_S_register : ny_S_register.cls ≠ "java/lang/invoke/MethodHandle" ∧ ny_S_register.cls ≠ "java/lang/invoke/VarHandle" ∧ (parseMethodDescriptor ny_S_register.desc).map (fun d => d.parameters.length) = some 1 := by decide +kernel
abbrev nc_S_go : ByteArray := prog_1_method_7_code
def ny_S_go : MethodName := ⟨nR_S, "go", "(I)I"⟩
theorem nh_S_go : ny_S_go.cls ≠ "java/lang/invoke/MethodHandle" ∧ ny_S_go.cls ≠ "java/lang/invoke/VarHandle" ∧ (parseMethodDescriptor ny_S_go.desc).map (fun d => d.parameters.length) = some 1 := by decide +kernel
abbrev nc_S_status : ByteArray := prog_1_method_8_code
def ny_S_status : MethodName := ⟨nR_S, "status", "(I)I"⟩
theorem nh_S_status : ny_S_status.cls ≠ "java/lang/invoke/MethodHandle" ∧ ny_S_status.cls ≠ "java/lang/invoke/VarHandle" ∧ (parseMethodDescriptor ny_S_status.desc).map (fun d => d.parameters.length) = some 1 := by decide +kernel
abbrev nc_S_lines : ByteArray := prog_1_method_9_code
def ny_S_lines : MethodName := ⟨nR_S, "lines", "(I)I"⟩
theorem nh_S_lines : ny_S_lines.cls ≠ "java/lang/invoke/MethodHandle" ∧ ny_S_lines.cls ≠ "java/lang/invoke/VarHandle" ∧ (parseMethodDescriptor ny_S_lines.desc).map (fun d => d.parameters.length) = some 1 := by decide +kernel
abbrev nc_S_step : ByteArray := prog_1_method_10_code
def ny_S_step : MethodName := ⟨nR_S, "step", "()I"⟩
theorem nh_S_step : ny_S_step.cls ≠ "java/lang/invoke/MethodHandle" ∧ ny_S_step.cls ≠ "java/lang/invoke/VarHandle" ∧ (parseMethodDescriptor ny_S_step.desc).map (fun d => d.parameters.length) = some 0 := by decide +kernel
abbrev nc_S_run : ByteArray := prog_1_method_11_code
def ny_S_run : MethodName := ⟨nR_S, "run", "(I)I"⟩
theorem nh_S_run : ny_S_run.cls ≠ "java/lang/invoke/MethodHandle" ∧ ny_S_run.cls ≠ "java/lang/invoke/VarHandle" ∧ (parseMethodDescriptor ny_S_run.desc).map (fun d => d.parameters.length) = some 1 := by decide +kernel
abbrev nc_S_look : ByteArray := prog_1_method_12_code
def ny_S_look : MethodName := ⟨nR_S, "look", "(I)I"⟩
theorem nh_S_look : ny_S_look.cls ≠ "java/lang/invoke/MethodHandle" ∧ ny_S_look.cls ≠ "java/lang/invoke/VarHandle" ∧ (parseMethodDescriptor ny_S_look.desc).map (fun d => d.parameters.length) = some 1 := by decide +kernel
abbrev nc_S_isPlaceOfWord : ByteArray := prog_1_method_13_code
def ny_S_isPlaceOfWord : MethodName := ⟨nR_S, "isPlaceOfWord", "(I)Z"⟩
theorem nh_S_isPlaceOfWord : ny_S_isPlaceOfWord.cls ≠ "java/lang/invoke/MethodHandle" ∧ ny_S_isPlaceOfWord.cls ≠ "java/lang/invoke/VarHandle" ∧ (parseMethodDescriptor ny_S_isPlaceOfWord.desc).map (fun d => d.parameters.length) = some 1 := by decide +kernel
abbrev nc_S_isInMemory : ByteArray := prog_1_method_14_code
def ny_S_isInMemory : MethodName := ⟨nR_S, "isInMemory", "(I)Z"⟩
theorem nh_S_isInMemory : ny_S_isInMemory.cls ≠ "java/lang/invoke/MethodHandle" ∧ ny_S_isInMemory.cls ≠ "java/lang/invoke/VarHandle" ∧ (parseMethodDescriptor ny_S_isInMemory.desc).map (fun d => d.parameters.length) = some 1 := by decide +kernel
abbrev nc_S_continueAt : ByteArray := prog_1_method_15_code
def ny_S_continueAt : MethodName := ⟨nR_S, "continueAt", "(I)V"⟩
theorem nh_S_continueAt : ny_S_continueAt.cls ≠ "java/lang/invoke/MethodHandle" ∧ ny_S_continueAt.cls ≠ "java/lang/invoke/VarHandle" ∧ (parseMethodDescriptor ny_S_continueAt.desc).map (fun d => d.parameters.length) = some 1 := by decide +kernel
abbrev nc_S_takeStep : ByteArray := prog_1_method_16_code
def ny_S_takeStep : MethodName := ⟨nR_S, "takeStep", "()I"⟩
theorem nh_S_takeStep : ny_S_takeStep.cls ≠ "java/lang/invoke/MethodHandle" ∧ ny_S_takeStep.cls ≠ "java/lang/invoke/VarHandle" ∧ (parseMethodDescriptor ny_S_takeStep.desc).map (fun d => d.parameters.length) = some 0 := by decide +kernel
abbrev nc_S_enterException : ByteArray := prog_1_method_17_code
def ny_S_enterException : MethodName := ⟨nR_S, "enterException", "(I)V"⟩
theorem nh_S_enterException : ny_S_enterException.cls ≠ "java/lang/invoke/MethodHandle" ∧ ny_S_enterException.cls ≠ "java/lang/invoke/VarHandle" ∧ (parseMethodDescriptor ny_S_enterException.desc).map (fun d => d.parameters.length) = some 1 := by decide +kernel
abbrev nc_S_finishInstruction : ByteArray := prog_1_method_18_code
def ny_S_finishInstruction : MethodName := ⟨nR_S, "finishInstruction", "()V"⟩
theorem nh_S_finishInstruction : ny_S_finishInstruction.cls ≠ "java/lang/invoke/MethodHandle" ∧ ny_S_finishInstruction.cls ≠ "java/lang/invoke/VarHandle" ∧ (parseMethodDescriptor ny_S_finishInstruction.desc).map (fun d => d.parameters.length) = some 0 := by decide +kernel
abbrev nc_S_faultAtPc : ByteArray := prog_1_method_19_code
def ny_S_faultAtPc : MethodName := ⟨nR_S, "faultAtPc", "()I"⟩
theorem nh_S_faultAtPc : ny_S_faultAtPc.cls ≠ "java/lang/invoke/MethodHandle" ∧ ny_S_faultAtPc.cls ≠ "java/lang/invoke/VarHandle" ∧ (parseMethodDescriptor ny_S_faultAtPc.desc).map (fun d => d.parameters.length) = some 0 := by decide +kernel
abbrev nc_S_perform : ByteArray := prog_1_method_20_code
def ny_S_perform : MethodName := ⟨nR_S, "perform", "(I)I"⟩
theorem nh_S_perform : ny_S_perform.cls ≠ "java/lang/invoke/MethodHandle" ∧ ny_S_perform.cls ≠ "java/lang/invoke/VarHandle" ∧ (parseMethodDescriptor ny_S_perform.desc).map (fun d => d.parameters.length) = some 1 := by decide +kernel
abbrev nc_S_orderOf : ByteArray := prog_1_method_21_code
def ny_S_orderOf : MethodName := ⟨nR_S, "orderOf", "(I)I"⟩
theorem nh_S_orderOf : ny_S_orderOf.cls ≠ "java/lang/invoke/MethodHandle" ∧ ny_S_orderOf.cls ≠ "java/lang/invoke/VarHandle" ∧ (parseMethodDescriptor ny_S_orderOf.desc).map (fun d => d.parameters.length) = some 1 := by decide +kernel
abbrev nc_S_numberS : ByteArray := prog_1_method_22_code
def ny_S_numberS : MethodName := ⟨nR_S, "numberS", "(I)I"⟩
theorem nh_S_numberS : ny_S_numberS.cls ≠ "java/lang/invoke/MethodHandle" ∧ ny_S_numberS.cls ≠ "java/lang/invoke/VarHandle" ∧ (parseMethodDescriptor ny_S_numberS.desc).map (fun d => d.parameters.length) = some 1 := by decide +kernel
abbrev nc_S_numberT : ByteArray := prog_1_method_23_code
def ny_S_numberT : MethodName := ⟨nR_S, "numberT", "(I)I"⟩
theorem nh_S_numberT : ny_S_numberT.cls ≠ "java/lang/invoke/MethodHandle" ∧ ny_S_numberT.cls ≠ "java/lang/invoke/VarHandle" ∧ (parseMethodDescriptor ny_S_numberT.desc).map (fun d => d.parameters.length) = some 1 := by decide +kernel
abbrev nc_S_numberD : ByteArray := prog_1_method_24_code
def ny_S_numberD : MethodName := ⟨nR_S, "numberD", "(I)I"⟩
theorem nh_S_numberD : ny_S_numberD.cls ≠ "java/lang/invoke/MethodHandle" ∧ ny_S_numberD.cls ≠ "java/lang/invoke/VarHandle" ∧ (parseMethodDescriptor ny_S_numberD.desc).map (fun d => d.parameters.length) = some 1 := by decide +kernel
abbrev nc_S_numberA : ByteArray := prog_1_method_25_code
def ny_S_numberA : MethodName := ⟨nR_S, "numberA", "(I)I"⟩
theorem nh_S_numberA : ny_S_numberA.cls ≠ "java/lang/invoke/MethodHandle" ∧ ny_S_numberA.cls ≠ "java/lang/invoke/VarHandle" ∧ (parseMethodDescriptor ny_S_numberA.desc).map (fun d => d.parameters.length) = some 1 := by decide +kernel
abbrev nc_S_numberK : ByteArray := prog_1_method_26_code
def ny_S_numberK : MethodName := ⟨nR_S, "numberK", "(I)I"⟩
theorem nh_S_numberK : ny_S_numberK.cls ≠ "java/lang/invoke/MethodHandle" ∧ ny_S_numberK.cls ≠ "java/lang/invoke/VarHandle" ∧ (parseMethodDescriptor ny_S_numberK.desc).map (fun d => d.parameters.length) = some 1 := by decide +kernel
abbrev nc_S_numberI : ByteArray := prog_1_method_27_code
def ny_S_numberI : MethodName := ⟨nR_S, "numberI", "(I)I"⟩
theorem nh_S_numberI : ny_S_numberI.cls ≠ "java/lang/invoke/MethodHandle" ∧ ny_S_numberI.cls ≠ "java/lang/invoke/VarHandle" ∧ (parseMethodDescriptor ny_S_numberI.desc).map (fun d => d.parameters.length) = some 1 := by decide +kernel
abbrev nc_S_numberU : ByteArray := prog_1_method_28_code
def ny_S_numberU : MethodName := ⟨nR_S, "numberU", "(I)I"⟩
theorem nh_S_numberU : ny_S_numberU.cls ≠ "java/lang/invoke/MethodHandle" ∧ ny_S_numberU.cls ≠ "java/lang/invoke/VarHandle" ∧ (parseMethodDescriptor ny_S_numberU.desc).map (fun d => d.parameters.length) = some 1 := by decide +kernel
abbrev nc_S_valueOfS : ByteArray := prog_1_method_29_code
def ny_S_valueOfS : MethodName := ⟨nR_S, "valueOfS", "(I)I"⟩
theorem nh_S_valueOfS : ny_S_valueOfS.cls ≠ "java/lang/invoke/MethodHandle" ∧ ny_S_valueOfS.cls ≠ "java/lang/invoke/VarHandle" ∧ (parseMethodDescriptor ny_S_valueOfS.desc).map (fun d => d.parameters.length) = some 1 := by decide +kernel
abbrev nc_S_valueOfT : ByteArray := prog_1_method_30_code
def ny_S_valueOfT : MethodName := ⟨nR_S, "valueOfT", "(I)I"⟩
theorem nh_S_valueOfT : ny_S_valueOfT.cls ≠ "java/lang/invoke/MethodHandle" ∧ ny_S_valueOfT.cls ≠ "java/lang/invoke/VarHandle" ∧ (parseMethodDescriptor ny_S_valueOfT.desc).map (fun d => d.parameters.length) = some 1 := by decide +kernel
abbrev nc_S_withoutSign : ByteArray := prog_1_method_31_code
def ny_S_withoutSign : MethodName := ⟨nR_S, "withoutSign", "(I)J"⟩
theorem nh_S_withoutSign : ny_S_withoutSign.cls ≠ "java/lang/invoke/MethodHandle" ∧ ny_S_withoutSign.cls ≠ "java/lang/invoke/VarHandle" ∧ (parseMethodDescriptor ny_S_withoutSign.desc).map (fun d => d.parameters.length) = some 1 := by decide +kernel
abbrev nc_S_give : ByteArray := prog_1_method_32_code
def ny_S_give : MethodName := ⟨nR_S, "give", "(II)I"⟩
theorem nh_S_give : ny_S_give.cls ≠ "java/lang/invoke/MethodHandle" ∧ ny_S_give.cls ≠ "java/lang/invoke/VarHandle" ∧ (parseMethodDescriptor ny_S_give.desc).map (fun d => d.parameters.length) = some 2 := by decide +kernel
abbrev nc_S_giveIfExact : ByteArray := prog_1_method_33_code
def ny_S_giveIfExact : MethodName := ⟨nR_S, "giveIfExact", "(IJ)I"⟩
theorem nh_S_giveIfExact : ny_S_giveIfExact.cls ≠ "java/lang/invoke/MethodHandle" ∧ ny_S_giveIfExact.cls ≠ "java/lang/invoke/VarHandle" ∧ (parseMethodDescriptor ny_S_giveIfExact.desc).map (fun d => d.parameters.length) = some 2 := by decide +kernel
abbrev nc_S_giveTruth : ByteArray := prog_1_method_34_code
def ny_S_giveTruth : MethodName := ⟨nR_S, "giveTruth", "(IZ)I"⟩
theorem nh_S_giveTruth : ny_S_giveTruth.cls ≠ "java/lang/invoke/MethodHandle" ∧ ny_S_giveTruth.cls ≠ "java/lang/invoke/VarHandle" ∧ (parseMethodDescriptor ny_S_giveTruth.desc).map (fun d => d.parameters.length) = some 2 := by decide +kernel
abbrev nc_S_giveLate : ByteArray := prog_1_method_35_code
def ny_S_giveLate : MethodName := ⟨nR_S, "giveLate", "(II)I"⟩
theorem nh_S_giveLate : ny_S_giveLate.cls ≠ "java/lang/invoke/MethodHandle" ∧ ny_S_giveLate.cls ≠ "java/lang/invoke/VarHandle" ∧ (parseMethodDescriptor ny_S_giveLate.desc).map (fun d => d.parameters.length) = some 2 := by decide +kernel
abbrev nc_S_branchIf : ByteArray := prog_1_method_36_code
def ny_S_branchIf : MethodName := ⟨nR_S, "branchIf", "(ZI)I"⟩
theorem nh_S_branchIf : ny_S_branchIf.cls ≠ "java/lang/invoke/MethodHandle" ∧ ny_S_branchIf.cls ≠ "java/lang/invoke/VarHandle" ∧ (parseMethodDescriptor ny_S_branchIf.desc).map (fun d => d.parameters.length) = some 2 := by decide +kernel
abbrev nc_S_keepHighAndLow : ByteArray := prog_1_method_37_code
def ny_S_keepHighAndLow : MethodName := ⟨nR_S, "keepHighAndLow", "(J)I"⟩
theorem nh_S_keepHighAndLow : ny_S_keepHighAndLow.cls ≠ "java/lang/invoke/MethodHandle" ∧ ny_S_keepHighAndLow.cls ≠ "java/lang/invoke/VarHandle" ∧ (parseMethodDescriptor ny_S_keepHighAndLow.desc).map (fun d => d.parameters.length) = some 1 := by decide +kernel
abbrev nc_S_performByK : ByteArray := prog_1_method_38_code
def ny_S_performByK : MethodName := ⟨nR_S, "performByK", "(I)I"⟩
theorem nh_S_performByK : ny_S_performByK.cls ≠ "java/lang/invoke/MethodHandle" ∧ ny_S_performByK.cls ≠ "java/lang/invoke/VarHandle" ∧ (parseMethodDescriptor ny_S_performByK.desc).map (fun d => d.parameters.length) = some 1 := by decide +kernel
abbrev nc_S_performShift : ByteArray := prog_1_method_39_code
def ny_S_performShift : MethodName := ⟨nR_S, "performShift", "(I)I"⟩
theorem nh_S_performShift : ny_S_performShift.cls ≠ "java/lang/invoke/MethodHandle" ∧ ny_S_performShift.cls ≠ "java/lang/invoke/VarHandle" ∧ (parseMethodDescriptor ny_S_performShift.desc).map (fun d => d.parameters.length) = some 1 := by decide +kernel
abbrev nc_S_performJumpToS : ByteArray := prog_1_method_40_code
def ny_S_performJumpToS : MethodName := ⟨nR_S, "performJumpToS", "(I)I"⟩
theorem nh_S_performJumpToS : ny_S_performJumpToS.cls ≠ "java/lang/invoke/MethodHandle" ∧ ny_S_performJumpToS.cls ≠ "java/lang/invoke/VarHandle" ∧ (parseMethodDescriptor ny_S_performJumpToS.desc).map (fun d => d.parameters.length) = some 1 := by decide +kernel
abbrev nc_S_performOnTwo : ByteArray := prog_1_method_41_code
def ny_S_performOnTwo : MethodName := ⟨nR_S, "performOnTwo", "(I)I"⟩
theorem nh_S_performOnTwo : ny_S_performOnTwo.cls ≠ "java/lang/invoke/MethodHandle" ∧ ny_S_performOnTwo.cls ≠ "java/lang/invoke/VarHandle" ∧ (parseMethodDescriptor ny_S_performOnTwo.desc).map (fun d => d.parameters.length) = some 1 := by decide +kernel
abbrev nc_S_performMove : ByteArray := prog_1_method_42_code
def ny_S_performMove : MethodName := ⟨nR_S, "performMove", "(I)I"⟩
theorem nh_S_performMove : ny_S_performMove.cls ≠ "java/lang/invoke/MethodHandle" ∧ ny_S_performMove.cls ≠ "java/lang/invoke/VarHandle" ∧ (parseMethodDescriptor ny_S_performMove.desc).map (fun d => d.parameters.length) = some 1 := by decide +kernel
abbrev nc_S_performProduct : ByteArray := prog_1_method_43_code
def ny_S_performProduct : MethodName := ⟨nR_S, "performProduct", "(I)I"⟩
theorem nh_S_performProduct : ny_S_performProduct.cls ≠ "java/lang/invoke/MethodHandle" ∧ ny_S_performProduct.cls ≠ "java/lang/invoke/VarHandle" ∧ (parseMethodDescriptor ny_S_performProduct.desc).map (fun d => d.parameters.length) = some 1 := by decide +kernel
abbrev nc_S_divide : ByteArray := prog_1_method_44_code
def ny_S_divide : MethodName := ⟨nR_S, "divide", "(II)J"⟩
theorem nh_S_divide : ny_S_divide.cls ≠ "java/lang/invoke/MethodHandle" ∧ ny_S_divide.cls ≠ "java/lang/invoke/VarHandle" ∧ (parseMethodDescriptor ny_S_divide.desc).map (fun d => d.parameters.length) = some 2 := by decide +kernel
abbrev nc_S_divideWithoutSign : ByteArray := prog_1_method_45_code
def ny_S_divideWithoutSign : MethodName := ⟨nR_S, "divideWithoutSign", "(II)J"⟩
theorem nh_S_divideWithoutSign : ny_S_divideWithoutSign.cls ≠ "java/lang/invoke/MethodHandle" ∧ ny_S_divideWithoutSign.cls ≠ "java/lang/invoke/VarHandle" ∧ (parseMethodDescriptor ny_S_divideWithoutSign.desc).map (fun d => d.parameters.length) = some 2 := by decide +kernel
abbrev nc_S_restAndQuotient : ByteArray := prog_1_method_46_code
def ny_S_restAndQuotient : MethodName := ⟨nR_S, "restAndQuotient", "(JJ)J"⟩
theorem nh_S_restAndQuotient : ny_S_restAndQuotient.cls ≠ "java/lang/invoke/MethodHandle" ∧ ny_S_restAndQuotient.cls ≠ "java/lang/invoke/VarHandle" ∧ (parseMethodDescriptor ny_S_restAndQuotient.desc).map (fun d => d.parameters.length) = some 2 := by decide +kernel
abbrev nc_S_isBranch : ByteArray := prog_1_method_47_code
def ny_S_isBranch : MethodName := ⟨nR_S, "isBranch", "(I)Z"⟩
theorem nh_S_isBranch : ny_S_isBranch.cls ≠ "java/lang/invoke/MethodHandle" ∧ ny_S_isBranch.cls ≠ "java/lang/invoke/VarHandle" ∧ (parseMethodDescriptor ny_S_isBranch.desc).map (fun d => d.parameters.length) = some 1 := by decide +kernel
abbrev nc_S_isBranchBySign : ByteArray := prog_1_method_48_code
def ny_S_isBranchBySign : MethodName := ⟨nR_S, "isBranchBySign", "(I)Z"⟩
theorem nh_S_isBranchBySign : ny_S_isBranchBySign.cls ≠ "java/lang/invoke/MethodHandle" ∧ ny_S_isBranchBySign.cls ≠ "java/lang/invoke/VarHandle" ∧ (parseMethodDescriptor ny_S_isBranchBySign.desc).map (fun d => d.parameters.length) = some 1 := by decide +kernel
abbrev nc_S_performBranchBySign : ByteArray := prog_1_method_49_code
def ny_S_performBranchBySign : MethodName := ⟨nR_S, "performBranchBySign", "(I)I"⟩
theorem nh_S_performBranchBySign : ny_S_performBranchBySign.cls ≠ "java/lang/invoke/MethodHandle" ∧ ny_S_performBranchBySign.cls ≠ "java/lang/invoke/VarHandle" ∧ (parseMethodDescriptor ny_S_performBranchBySign.desc).map (fun d => d.parameters.length) = some 1 := by decide +kernel
abbrev nc_S_performJump : ByteArray := prog_1_method_50_code
def ny_S_performJump : MethodName := ⟨nR_S, "performJump", "(I)I"⟩
theorem nh_S_performJump : ny_S_performJump.cls ≠ "java/lang/invoke/MethodHandle" ∧ ny_S_performJump.cls ≠ "java/lang/invoke/VarHandle" ∧ (parseMethodDescriptor ny_S_performJump.desc).map (fun d => d.parameters.length) = some 1 := by decide +kernel
abbrev nc_S_performBranch : ByteArray := prog_1_method_51_code
def ny_S_performBranch : MethodName := ⟨nR_S, "performBranch", "(I)I"⟩
theorem nh_S_performBranch : ny_S_performBranch.cls ≠ "java/lang/invoke/MethodHandle" ∧ ny_S_performBranch.cls ≠ "java/lang/invoke/VarHandle" ∧ (parseMethodDescriptor ny_S_performBranch.desc).map (fun d => d.parameters.length) = some 1 := by decide +kernel
abbrev nc_S_nearTarget : ByteArray := prog_1_method_52_code
def ny_S_nearTarget : MethodName := ⟨nR_S, "nearTarget", "(I)I"⟩
theorem nh_S_nearTarget : ny_S_nearTarget.cls ≠ "java/lang/invoke/MethodHandle" ∧ ny_S_nearTarget.cls ≠ "java/lang/invoke/VarHandle" ∧ (parseMethodDescriptor ny_S_nearTarget.desc).map (fun d => d.parameters.length) = some 1 := by decide +kernel
abbrev nc_S_farTarget : ByteArray := prog_1_method_53_code
def ny_S_farTarget : MethodName := ⟨nR_S, "farTarget", "(I)I"⟩
theorem nh_S_farTarget : ny_S_farTarget.cls ≠ "java/lang/invoke/MethodHandle" ∧ ny_S_farTarget.cls ≠ "java/lang/invoke/VarHandle" ∧ (parseMethodDescriptor ny_S_farTarget.desc).map (fun d => d.parameters.length) = some 1 := by decide +kernel
abbrev nc_S_performWithNumber : ByteArray := prog_1_method_54_code
def ny_S_performWithNumber : MethodName := ⟨nR_S, "performWithNumber", "(I)I"⟩
theorem nh_S_performWithNumber : ny_S_performWithNumber.cls ≠ "java/lang/invoke/MethodHandle" ∧ ny_S_performWithNumber.cls ≠ "java/lang/invoke/VarHandle" ∧ (parseMethodDescriptor ny_S_performWithNumber.desc).map (fun d => d.parameters.length) = some 1 := by decide +kernel
abbrev nc_S_performControl : ByteArray := prog_1_method_55_code
def ny_S_performControl : MethodName := ⟨nR_S, "performControl", "(I)I"⟩
theorem nh_S_performControl : ny_S_performControl.cls ≠ "java/lang/invoke/MethodHandle" ∧ ny_S_performControl.cls ≠ "java/lang/invoke/VarHandle" ∧ (parseMethodDescriptor ny_S_performControl.desc).map (fun d => d.parameters.length) = some 1 := by decide +kernel
abbrev nc_S_performLoad : ByteArray := prog_1_method_56_code
def ny_S_performLoad : MethodName := ⟨nR_S, "performLoad", "(I)I"⟩
theorem nh_S_performLoad : ny_S_performLoad.cls ≠ "java/lang/invoke/MethodHandle" ∧ ny_S_performLoad.cls ≠ "java/lang/invoke/VarHandle" ∧ (parseMethodDescriptor ny_S_performLoad.desc).map (fun d => d.parameters.length) = some 1 := by decide +kernel
abbrev nc_S_joinLoaded : ByteArray := prog_1_method_57_code
def ny_S_joinLoaded : MethodName := ⟨nR_S, "joinLoaded", "(IIII)I"⟩
theorem nh_S_joinLoaded : ny_S_joinLoaded.cls ≠ "java/lang/invoke/MethodHandle" ∧ ny_S_joinLoaded.cls ≠ "java/lang/invoke/VarHandle" ∧ (parseMethodDescriptor ny_S_joinLoaded.desc).map (fun d => d.parameters.length) = some 4 := by decide +kernel
abbrev nc_S_performStore : ByteArray := prog_1_method_58_code
def ny_S_performStore : MethodName := ⟨nR_S, "performStore", "(I)I"⟩
theorem nh_S_performStore : ny_S_performStore.cls ≠ "java/lang/invoke/MethodHandle" ∧ ny_S_performStore.cls ≠ "java/lang/invoke/VarHandle" ∧ (parseMethodDescriptor ny_S_performStore.desc).map (fun d => d.parameters.length) = some 1 := by decide +kernel
abbrev nc_S_joinStored : ByteArray := prog_1_method_59_code
def ny_S_joinStored : MethodName := ⟨nR_S, "joinStored", "(IIII)I"⟩
theorem nh_S_joinStored : ny_S_joinStored.cls ≠ "java/lang/invoke/MethodHandle" ∧ ny_S_joinStored.cls ≠ "java/lang/invoke/VarHandle" ∧ (parseMethodDescriptor ny_S_joinStored.desc).map (fun d => d.parameters.length) = some 4 := by decide +kernel
abbrev nc_S_addressOf : ByteArray := prog_1_method_60_code
def ny_S_addressOf : MethodName := ⟨nR_S, "addressOf", "(I)I"⟩
theorem nh_S_addressOf : ny_S_addressOf.cls ≠ "java/lang/invoke/MethodHandle" ∧ ny_S_addressOf.cls ≠ "java/lang/invoke/VarHandle" ∧ (parseMethodDescriptor ny_S_addressOf.desc).map (fun d => d.parameters.length) = some 1 := by decide +kernel
abbrev nc_S_faultOfData : ByteArray := prog_1_method_61_code
def ny_S_faultOfData : MethodName := ⟨nR_S, "faultOfData", "(III)I"⟩
theorem nh_S_faultOfData : ny_S_faultOfData.cls ≠ "java/lang/invoke/MethodHandle" ∧ ny_S_faultOfData.cls ≠ "java/lang/invoke/VarHandle" ∧ (parseMethodDescriptor ny_S_faultOfData.desc).map (fun d => d.parameters.length) = some 3 := by decide +kernel
abbrev nc_S_loadUnit : ByteArray := prog_1_method_62_code
def ny_S_loadUnit : MethodName := ⟨nR_S, "loadUnit", "(I)I"⟩
theorem nh_S_loadUnit : ny_S_loadUnit.cls ≠ "java/lang/invoke/MethodHandle" ∧ ny_S_loadUnit.cls ≠ "java/lang/invoke/VarHandle" ∧ (parseMethodDescriptor ny_S_loadUnit.desc).map (fun d => d.parameters.length) = some 1 := by decide +kernel
abbrev nc_S_storeUnit : ByteArray := prog_1_method_63_code
def ny_S_storeUnit : MethodName := ⟨nR_S, "storeUnit", "(I)I"⟩
theorem nh_S_storeUnit : ny_S_storeUnit.cls ≠ "java/lang/invoke/MethodHandle" ∧ ny_S_storeUnit.cls ≠ "java/lang/invoke/VarHandle" ∧ (parseMethodDescriptor ny_S_storeUnit.desc).map (fun d => d.parameters.length) = some 1 := by decide +kernel
abbrev nc_S_toLowest : ByteArray := prog_1_method_64_code
def ny_S_toLowest : MethodName := ⟨nR_S, "toLowest", "(II)I"⟩
theorem nh_S_toLowest : ny_S_toLowest.cls ≠ "java/lang/invoke/MethodHandle" ∧ ny_S_toLowest.cls ≠ "java/lang/invoke/VarHandle" ∧ (parseMethodDescriptor ny_S_toLowest.desc).map (fun d => d.parameters.length) = some 2 := by decide +kernel
abbrev nc_S_bitsAhead : ByteArray := prog_1_method_65_code
def ny_S_bitsAhead : MethodName := ⟨nR_S, "bitsAhead", "(I)I"⟩
theorem nh_S_bitsAhead : ny_S_bitsAhead.cls ≠ "java/lang/invoke/MethodHandle" ∧ ny_S_bitsAhead.cls ≠ "java/lang/invoke/VarHandle" ∧ (parseMethodDescriptor ny_S_bitsAhead.desc).map (fun d => d.parameters.length) = some 1 := by decide +kernel
abbrev nc_S_exchange : ByteArray := prog_1_method_66_code
def ny_S_exchange : MethodName := ⟨nR_S, "exchange", "(III)I"⟩
theorem nh_S_exchange : ny_S_exchange.cls ≠ "java/lang/invoke/MethodHandle" ∧ ny_S_exchange.cls ≠ "java/lang/invoke/VarHandle" ∧ (parseMethodDescriptor ny_S_exchange.desc).map (fun d => d.parameters.length) = some 3 := by decide +kernel
abbrev nc_D_init : ByteArray := prog_7_method_1_code
def ny_D_init : MethodName := ⟨nR_D, "<init>", "()V"⟩
theorem nh_D_init : ny_D_init.cls ≠ "java/lang/invoke/MethodHandle" ∧ ny_D_init.cls ≠ "java/lang/invoke/VarHandle" ∧ (parseMethodDescriptor ny_D_init.desc).map (fun d => d.parameters.length) = some 0 := by decide +kernel
abbrev nc_D_thrown : ByteArray := prog_7_method_2_code
def ny_D_thrown : MethodName := ⟨nR_D, "thrown", "()I"⟩
theorem nh_D_thrown : ny_D_thrown.cls ≠ "java/lang/invoke/MethodHandle" ∧ ny_D_thrown.cls ≠ "java/lang/invoke/VarHandle" ∧ (parseMethodDescriptor ny_D_thrown.desc).map (fun d => d.parameters.length) = some 0 := by decide +kernel
abbrev nc_D_goes : ByteArray := prog_7_method_3_code
def ny_D_goes : MethodName := ⟨nR_D, "goes", "(Z)Z"⟩
theorem nh_D_goes : ny_D_goes.cls ≠ "java/lang/invoke/MethodHandle" ∧ ny_D_goes.cls ≠ "java/lang/invoke/VarHandle" ∧ (parseMethodDescriptor ny_D_goes.desc).map (fun d => d.parameters.length) = some 1 := by decide +kernel
abbrev nc_D_reset : ByteArray := prog_7_method_4_code
def ny_D_reset : MethodName := ⟨nR_D, "reset", "()V"⟩
theorem nh_D_reset : ny_D_reset.cls ≠ "java/lang/invoke/MethodHandle" ∧ ny_D_reset.cls ≠ "java/lang/invoke/VarHandle" ∧ (parseMethodDescriptor ny_D_reset.desc).map (fun d => d.parameters.length) = some 0 := by decide +kernel
abbrev nc_D_load : ByteArray := prog_7_method_5_code
def ny_D_load : MethodName := ⟨nR_D, "load", "(II)I"⟩
theorem nh_D_load : ny_D_load.cls ≠ "java/lang/invoke/MethodHandle" ∧ ny_D_load.cls ≠ "java/lang/invoke/VarHandle" ∧ (parseMethodDescriptor ny_D_load.desc).map (fun d => d.parameters.length) = some 2 := by decide +kernel
abbrev nc_D_store : ByteArray := prog_7_method_6_code
def ny_D_store : MethodName := ⟨nR_D, "store", "(III)V"⟩
theorem nh_D_store : ny_D_store.cls ≠ "java/lang/invoke/MethodHandle" ∧ ny_D_store.cls ≠ "java/lang/invoke/VarHandle" ∧ (parseMethodDescriptor ny_D_store.desc).map (fun d => d.parameters.length) = some 3 := by decide +kernel
abbrev nc_D_isWord : ByteArray := prog_7_method_7_code
def ny_D_isWord : MethodName := ⟨nR_D, "isWord", "(I)Z"⟩
theorem nh_D_isWord : ny_D_isWord.cls ≠ "java/lang/invoke/MethodHandle" ∧ ny_D_isWord.cls ≠ "java/lang/invoke/VarHandle" ∧ (parseMethodDescriptor ny_D_isWord.desc).map (fun d => d.parameters.length) = some 1 := by decide +kernel
abbrev nc_D_put : ByteArray := prog_7_method_8_code
def ny_D_put : MethodName := ⟨nR_D, "put", "(II)I"⟩
theorem nh_D_put : ny_D_put.cls ≠ "java/lang/invoke/MethodHandle" ∧ ny_D_put.cls ≠ "java/lang/invoke/VarHandle" ∧ (parseMethodDescriptor ny_D_put.desc).map (fun d => d.parameters.length) = some 2 := by decide +kernel
abbrev nc_D_word : ByteArray := prog_7_method_9_code
def ny_D_word : MethodName := ⟨nR_D, "word", "(I)I"⟩
theorem nh_D_word : ny_D_word.cls ≠ "java/lang/invoke/MethodHandle" ∧ ny_D_word.cls ≠ "java/lang/invoke/VarHandle" ∧ (parseMethodDescriptor ny_D_word.desc).map (fun d => d.parameters.length) = some 1 := by decide +kernel
abbrev nc_D_set : ByteArray := prog_7_method_10_code
def ny_D_set : MethodName := ⟨nR_D, "set", "(II)I"⟩
theorem nh_D_set : ny_D_set.cls ≠ "java/lang/invoke/MethodHandle" ∧ ny_D_set.cls ≠ "java/lang/invoke/VarHandle" ∧ (parseMethodDescriptor ny_D_set.desc).map (fun d => d.parameters.length) = some 2 := by decide +kernel
abbrev nc_D_register : ByteArray := prog_7_method_11_code
def ny_D_register : MethodName := ⟨nR_D, "register", "(I)I"⟩
theorem nh_D_register : ny_D_register.cls ≠ "java/lang/invoke/MethodHandle" ∧ ny_D_register.cls ≠ "java/lang/invoke/VarHandle" ∧ (parseMethodDescriptor ny_D_register.desc).map (fun d => d.parameters.length) = some 1 := by decide +kernel
abbrev nc_D_go : ByteArray := prog_7_method_12_code
def ny_D_go : MethodName := ⟨nR_D, "go", "(I)I"⟩
theorem nh_D_go : ny_D_go.cls ≠ "java/lang/invoke/MethodHandle" ∧ ny_D_go.cls ≠ "java/lang/invoke/VarHandle" ∧ (parseMethodDescriptor ny_D_go.desc).map (fun d => d.parameters.length) = some 1 := by decide +kernel
abbrev nc_D_status : ByteArray := prog_7_method_13_code
def ny_D_status : MethodName := ⟨nR_D, "status", "(I)I"⟩
theorem nh_D_status : ny_D_status.cls ≠ "java/lang/invoke/MethodHandle" ∧ ny_D_status.cls ≠ "java/lang/invoke/VarHandle" ∧ (parseMethodDescriptor ny_D_status.desc).map (fun d => d.parameters.length) = some 1 := by decide +kernel
abbrev nc_D_lines : ByteArray := prog_7_method_14_code
def ny_D_lines : MethodName := ⟨nR_D, "lines", "(I)I"⟩
theorem nh_D_lines : ny_D_lines.cls ≠ "java/lang/invoke/MethodHandle" ∧ ny_D_lines.cls ≠ "java/lang/invoke/VarHandle" ∧ (parseMethodDescriptor ny_D_lines.desc).map (fun d => d.parameters.length) = some 1 := by decide +kernel
abbrev nc_D_cause : ByteArray := prog_7_method_15_code
def ny_D_cause : MethodName := ⟨nR_D, "cause", "()I"⟩
theorem nh_D_cause : ny_D_cause.cls ≠ "java/lang/invoke/MethodHandle" ∧ ny_D_cause.cls ≠ "java/lang/invoke/VarHandle" ∧ (parseMethodDescriptor ny_D_cause.desc).map (fun d => d.parameters.length) = some 0 := by decide +kernel
abbrev nc_D_user : ByteArray := prog_7_method_16_code
def ny_D_user : MethodName := ⟨nR_D, "user", "()Z"⟩
theorem nh_D_user : ny_D_user.cls ≠ "java/lang/invoke/MethodHandle" ∧ ny_D_user.cls ≠ "java/lang/invoke/VarHandle" ∧ (parseMethodDescriptor ny_D_user.desc).map (fun d => d.parameters.length) = some 0 := by decide +kernel
abbrev nc_D_isBranch : ByteArray := prog_7_method_17_code
def ny_D_isBranch : MethodName := ⟨nR_D, "isBranch", "()Z"⟩
theorem nh_D_isBranch : ny_D_isBranch.cls ≠ "java/lang/invoke/MethodHandle" ∧ ny_D_isBranch.cls ≠ "java/lang/invoke/VarHandle" ∧ (parseMethodDescriptor ny_D_isBranch.desc).map (fun d => d.parameters.length) = some 0 := by decide +kernel
abbrev nc_D_isKnown : ByteArray := prog_7_method_18_code
def ny_D_isKnown : MethodName := ⟨nR_D, "isKnown", "()Z"⟩
theorem nh_D_isKnown : ny_D_isKnown.cls ≠ "java/lang/invoke/MethodHandle" ∧ ny_D_isKnown.cls ≠ "java/lang/invoke/VarHandle" ∧ (parseMethodDescriptor ny_D_isKnown.desc).map (fun d => d.parameters.length) = some 0 := by decide +kernel
abbrev nc_D_exact : ByteArray := prog_7_method_19_code
def ny_D_exact : MethodName := ⟨nR_D, "exact", "(J)Z"⟩
theorem nh_D_exact : ny_D_exact.cls ≠ "java/lang/invoke/MethodHandle" ∧ ny_D_exact.cls ≠ "java/lang/invoke/VarHandle" ∧ (parseMethodDescriptor ny_D_exact.desc).map (fun d => d.parameters.length) = some 1 := by decide +kernel
abbrev nc_D_number : ByteArray := prog_7_method_20_code
def ny_D_number : MethodName := ⟨nR_D, "number", "()I"⟩
theorem nh_D_number : ny_D_number.cls ≠ "java/lang/invoke/MethodHandle" ∧ ny_D_number.cls ≠ "java/lang/invoke/VarHandle" ∧ (parseMethodDescriptor ny_D_number.desc).map (fun d => d.parameters.length) = some 0 := by decide +kernel
abbrev nc_D_moved : ByteArray := prog_7_method_21_code
def ny_D_moved : MethodName := ⟨nR_D, "moved", "()I"⟩
theorem nh_D_moved : ny_D_moved.cls ≠ "java/lang/invoke/MethodHandle" ∧ ny_D_moved.cls ≠ "java/lang/invoke/VarHandle" ∧ (parseMethodDescriptor ny_D_moved.desc).map (fun d => d.parameters.length) = some 0 := by decide +kernel
abbrev nc_D_inMemory : ByteArray := prog_7_method_22_code
def ny_D_inMemory : MethodName := ⟨nR_D, "inMemory", "(II)Z"⟩
theorem nh_D_inMemory : ny_D_inMemory.cls ≠ "java/lang/invoke/MethodHandle" ∧ ny_D_inMemory.cls ≠ "java/lang/invoke/VarHandle" ∧ (parseMethodDescriptor ny_D_inMemory.desc).map (fun d => d.parameters.length) = some 2 := by decide +kernel
abbrev nc_D_isPart : ByteArray := prog_7_method_23_code
def ny_D_isPart : MethodName := ⟨nR_D, "isPart", "()Z"⟩
theorem nh_D_isPart : ny_D_isPart.cls ≠ "java/lang/invoke/MethodHandle" ∧ ny_D_isPart.cls ≠ "java/lang/invoke/VarHandle" ∧ (parseMethodDescriptor ny_D_isPart.desc).map (fun d => d.parameters.length) = some 0 := by decide +kernel
abbrev nc_D_addressTrouble : ByteArray := prog_7_method_24_code
def ny_D_addressTrouble : MethodName := ⟨nR_D, "addressTrouble", "()I"⟩
theorem nh_D_addressTrouble : ny_D_addressTrouble.cls ≠ "java/lang/invoke/MethodHandle" ∧ ny_D_addressTrouble.cls ≠ "java/lang/invoke/VarHandle" ∧ (parseMethodDescriptor ny_D_addressTrouble.desc).map (fun d => d.parameters.length) = some 0 := by decide +kernel
abbrev nc_D_trouble : ByteArray := prog_7_method_25_code
def ny_D_trouble : MethodName := ⟨nR_D, "trouble", "()I"⟩
theorem nh_D_trouble : ny_D_trouble.cls ≠ "java/lang/invoke/MethodHandle" ∧ ny_D_trouble.cls ≠ "java/lang/invoke/VarHandle" ∧ (parseMethodDescriptor ny_D_trouble.desc).map (fun d => d.parameters.length) = some 0 := by decide +kernel
abbrev nc_D_gives : ByteArray := prog_7_method_26_code
def ny_D_gives : MethodName := ⟨nR_D, "gives", "(II)V"⟩
theorem nh_D_gives : ny_D_gives.cls ≠ "java/lang/invoke/MethodHandle" ∧ ny_D_gives.cls ≠ "java/lang/invoke/VarHandle" ∧ (parseMethodDescriptor ny_D_gives.desc).map (fun d => d.parameters.length) = some 2 := by decide +kernel
abbrev nc_D_less : ByteArray := prog_7_method_27_code
def ny_D_less : MethodName := ⟨nR_D, "less", "(II)Z"⟩
theorem nh_D_less : ny_D_less.cls ≠ "java/lang/invoke/MethodHandle" ∧ ny_D_less.cls ≠ "java/lang/invoke/VarHandle" ∧ (parseMethodDescriptor ny_D_less.desc).map (fun d => d.parameters.length) = some 2 := by decide +kernel
abbrev nc_D_multiply : ByteArray := prog_7_method_28_code
def ny_D_multiply : MethodName := ⟨nR_D, "multiply", "(Z)V"⟩
theorem nh_D_multiply : ny_D_multiply.cls ≠ "java/lang/invoke/MethodHandle" ∧ ny_D_multiply.cls ≠ "java/lang/invoke/VarHandle" ∧ (parseMethodDescriptor ny_D_multiply.desc).map (fun d => d.parameters.length) = some 1 := by decide +kernel
abbrev nc_D_divide : ByteArray := prog_7_method_29_code
def ny_D_divide : MethodName := ⟨nR_D, "divide", "(Z)V"⟩
theorem nh_D_divide : ny_D_divide.cls ≠ "java/lang/invoke/MethodHandle" ∧ ny_D_divide.cls ≠ "java/lang/invoke/VarHandle" ∧ (parseMethodDescriptor ny_D_divide.desc).map (fun d => d.parameters.length) = some 1 := by decide +kernel
abbrev nc_D_shifts : ByteArray := prog_7_method_30_code
def ny_D_shifts : MethodName := ⟨nR_D, "shifts", "(I)V"⟩
theorem nh_D_shifts : ny_D_shifts.cls ≠ "java/lang/invoke/MethodHandle" ∧ ny_D_shifts.cls ≠ "java/lang/invoke/VarHandle" ∧ (parseMethodDescriptor ny_D_shifts.desc).map (fun d => d.parameters.length) = some 1 := by decide +kernel
abbrev nc_D_byRegisters : ByteArray := prog_7_method_31_code
def ny_D_byRegisters : MethodName := ⟨nR_D, "byRegisters", "()V"⟩
theorem nh_D_byRegisters : ny_D_byRegisters.cls ≠ "java/lang/invoke/MethodHandle" ∧ ny_D_byRegisters.cls ≠ "java/lang/invoke/VarHandle" ∧ (parseMethodDescriptor ny_D_byRegisters.desc).map (fun d => d.parameters.length) = some 0 := by decide +kernel
abbrev nc_D_branch : ByteArray := prog_7_method_32_code
def ny_D_branch : MethodName := ⟨nR_D, "branch", "()V"⟩
theorem nh_D_branch : ny_D_branch.cls ≠ "java/lang/invoke/MethodHandle" ∧ ny_D_branch.cls ≠ "java/lang/invoke/VarHandle" ∧ (parseMethodDescriptor ny_D_branch.desc).map (fun d => d.parameters.length) = some 0 := by decide +kernel
abbrev nc_D_byNumber : ByteArray := prog_7_method_33_code
def ny_D_byNumber : MethodName := ⟨nR_D, "byNumber", "()V"⟩
theorem nh_D_byNumber : ny_D_byNumber.cls ≠ "java/lang/invoke/MethodHandle" ∧ ny_D_byNumber.cls ≠ "java/lang/invoke/VarHandle" ∧ (parseMethodDescriptor ny_D_byNumber.desc).map (fun d => d.parameters.length) = some 0 := by decide +kernel
abbrev nc_D_control : ByteArray := prog_7_method_34_code
def ny_D_control : MethodName := ⟨nR_D, "control", "()V"⟩
theorem nh_D_control : ny_D_control.cls ≠ "java/lang/invoke/MethodHandle" ∧ ny_D_control.cls ≠ "java/lang/invoke/VarHandle" ∧ (parseMethodDescriptor ny_D_control.desc).map (fun d => d.parameters.length) = some 0 := by decide +kernel
abbrev nc_D_part : ByteArray := prog_7_method_35_code
def ny_D_part : MethodName := ⟨nR_D, "part", "(I)V"⟩
theorem nh_D_part : ny_D_part.cls ≠ "java/lang/invoke/MethodHandle" ∧ ny_D_part.cls ≠ "java/lang/invoke/VarHandle" ∧ (parseMethodDescriptor ny_D_part.desc).map (fun d => d.parameters.length) = some 1 := by decide +kernel
abbrev nc_D_memory : ByteArray := prog_7_method_36_code
def ny_D_memory : MethodName := ⟨nR_D, "memory", "()V"⟩
theorem nh_D_memory : ny_D_memory.cls ≠ "java/lang/invoke/MethodHandle" ∧ ny_D_memory.cls ≠ "java/lang/invoke/VarHandle" ∧ (parseMethodDescriptor ny_D_memory.desc).map (fun d => d.parameters.length) = some 0 := by decide +kernel
abbrev nc_D_act : ByteArray := prog_7_method_37_code
def ny_D_act : MethodName := ⟨nR_D, "act", "()V"⟩
theorem nh_D_act : ny_D_act.cls ≠ "java/lang/invoke/MethodHandle" ∧ ny_D_act.cls ≠ "java/lang/invoke/VarHandle" ∧ (parseMethodDescriptor ny_D_act.desc).map (fun d => d.parameters.length) = some 0 := by decide +kernel
abbrev nc_D_settle : ByteArray := prog_7_method_38_code
def ny_D_settle : MethodName := ⟨nR_D, "settle", "()V"⟩
theorem nh_D_settle : ny_D_settle.cls ≠ "java/lang/invoke/MethodHandle" ∧ ny_D_settle.cls ≠ "java/lang/invoke/VarHandle" ∧ (parseMethodDescriptor ny_D_settle.desc).map (fun d => d.parameters.length) = some 0 := by decide +kernel
abbrev nc_D_except : ByteArray := prog_7_method_39_code
def ny_D_except : MethodName := ⟨nR_D, "except", "(I)V"⟩
theorem nh_D_except : ny_D_except.cls ≠ "java/lang/invoke/MethodHandle" ∧ ny_D_except.cls ≠ "java/lang/invoke/VarHandle" ∧ (parseMethodDescriptor ny_D_except.desc).map (fun d => d.parameters.length) = some 1 := by decide +kernel
abbrev nc_D_fetch : ByteArray := prog_7_method_40_code
def ny_D_fetch : MethodName := ⟨nR_D, "fetch", "()I"⟩
theorem nh_D_fetch : ny_D_fetch.cls ≠ "java/lang/invoke/MethodHandle" ∧ ny_D_fetch.cls ≠ "java/lang/invoke/VarHandle" ∧ (parseMethodDescriptor ny_D_fetch.desc).map (fun d => d.parameters.length) = some 0 := by decide +kernel
abbrev nc_D_read : ByteArray := prog_7_method_41_code
def ny_D_read : MethodName := ⟨nR_D, "read", "()V"⟩
theorem nh_D_read : ny_D_read.cls ≠ "java/lang/invoke/MethodHandle" ∧ ny_D_read.cls ≠ "java/lang/invoke/VarHandle" ∧ (parseMethodDescriptor ny_D_read.desc).map (fun d => d.parameters.length) = some 0 := by decide +kernel
abbrev nc_D_oneStep : ByteArray := prog_7_method_42_code
def ny_D_oneStep : MethodName := ⟨nR_D, "oneStep", "()I"⟩
theorem nh_D_oneStep : ny_D_oneStep.cls ≠ "java/lang/invoke/MethodHandle" ∧ ny_D_oneStep.cls ≠ "java/lang/invoke/VarHandle" ∧ (parseMethodDescriptor ny_D_oneStep.desc).map (fun d => d.parameters.length) = some 0 := by decide +kernel
abbrev nc_D_step : ByteArray := prog_7_method_43_code
def ny_D_step : MethodName := ⟨nR_D, "step", "()I"⟩
theorem nh_D_step : ny_D_step.cls ≠ "java/lang/invoke/MethodHandle" ∧ ny_D_step.cls ≠ "java/lang/invoke/VarHandle" ∧ (parseMethodDescriptor ny_D_step.desc).map (fun d => d.parameters.length) = some 0 := by decide +kernel
abbrev nc_D_run : ByteArray := prog_7_method_44_code
def ny_D_run : MethodName := ⟨nR_D, "run", "(I)I"⟩
theorem nh_D_run : ny_D_run.cls ≠ "java/lang/invoke/MethodHandle" ∧ ny_D_run.cls ≠ "java/lang/invoke/VarHandle" ∧ (parseMethodDescriptor ny_D_run.desc).map (fun d => d.parameters.length) = some 1 := by decide +kernel
abbrev nc_D_look : ByteArray := prog_7_method_45_code
def ny_D_look : MethodName := ⟨nR_D, "look", "(I)I"⟩
theorem nh_D_look : ny_D_look.cls ≠ "java/lang/invoke/MethodHandle" ∧ ny_D_look.cls ≠ "java/lang/invoke/VarHandle" ∧ (parseMethodDescriptor ny_D_look.desc).map (fun d => d.parameters.length) = some 1 := by decide +kernel
abbrev nc_C_init : ByteArray := prog_2_method_1_code
def ny_C_init : MethodName := ⟨nR_C, "<init>", "()V"⟩
theorem nh_C_init : ny_C_init.cls ≠ "java/lang/invoke/MethodHandle" ∧ ny_C_init.cls ≠ "java/lang/invoke/VarHandle" ∧ (parseMethodDescriptor ny_C_init.desc).map (fun d => d.parameters.length) = some 0 := by decide +kernel
abbrev nc_C_wholeCause : ByteArray := prog_2_method_2_code
def ny_C_wholeCause : MethodName := ⟨nR_C, "wholeCause", "()I"⟩
theorem nh_C_wholeCause : ny_C_wholeCause.cls ≠ "java/lang/invoke/MethodHandle" ∧ ny_C_wholeCause.cls ≠ "java/lang/invoke/VarHandle" ∧ (parseMethodDescriptor ny_C_wholeCause.desc).map (fun d => d.parameters.length) = some 0 := by decide +kernel
abbrev nc_C_isUser : ByteArray := prog_2_method_3_code
def ny_C_isUser : MethodName := ⟨nR_C, "isUser", "()Z"⟩
theorem nh_C_isUser : ny_C_isUser.cls ≠ "java/lang/invoke/MethodHandle" ∧ ny_C_isUser.cls ≠ "java/lang/invoke/VarHandle" ∧ (parseMethodDescriptor ny_C_isUser.desc).map (fun d => d.parameters.length) = some 0 := by decide +kernel
abbrev nc_C_forbids : ByteArray := prog_2_method_4_code
def ny_C_forbids : MethodName := ⟨nR_C, "forbids", "(I)Z"⟩
theorem nh_C_forbids : ny_C_forbids.cls ≠ "java/lang/invoke/MethodHandle" ∧ ny_C_forbids.cls ≠ "java/lang/invoke/VarHandle" ∧ (parseMethodDescriptor ny_C_forbids.desc).map (fun d => d.parameters.length) = some 1 := by decide +kernel
abbrev nc_C_interruptIsDue : ByteArray := prog_2_method_5_code
def ny_C_interruptIsDue : MethodName := ⟨nR_C, "interruptIsDue", "()Z"⟩
theorem nh_C_interruptIsDue : ny_C_interruptIsDue.cls ≠ "java/lang/invoke/MethodHandle" ∧ ny_C_interruptIsDue.cls ≠ "java/lang/invoke/VarHandle" ∧ (parseMethodDescriptor ny_C_interruptIsDue.desc).map (fun d => d.parameters.length) = some 0 := by decide +kernel
abbrev nc_C_valueOf : ByteArray := prog_2_method_6_code
def ny_C_valueOf : MethodName := ⟨nR_C, "valueOf", "(I)I"⟩
theorem nh_C_valueOf : ny_C_valueOf.cls ≠ "java/lang/invoke/MethodHandle" ∧ ny_C_valueOf.cls ≠ "java/lang/invoke/VarHandle" ∧ (parseMethodDescriptor ny_C_valueOf.desc).map (fun d => d.parameters.length) = some 1 := by decide +kernel
abbrev nc_C_change : ByteArray := prog_2_method_7_code
def ny_C_change : MethodName := ⟨nR_C, "change", "(II)V"⟩
theorem nh_C_change : ny_C_change.cls ≠ "java/lang/invoke/MethodHandle" ∧ ny_C_change.cls ≠ "java/lang/invoke/VarHandle" ∧ (parseMethodDescriptor ny_C_change.desc).map (fun d => d.parameters.length) = some 2 := by decide +kernel
abbrev nc_C_enter : ByteArray := prog_2_method_8_code
def ny_C_enter : MethodName := ⟨nR_C, "enter", "(IIZ)V"⟩
theorem nh_C_enter : ny_C_enter.cls ≠ "java/lang/invoke/MethodHandle" ∧ ny_C_enter.cls ≠ "java/lang/invoke/VarHandle" ∧ (parseMethodDescriptor ny_C_enter.desc).map (fun d => d.parameters.length) = some 3 := by decide +kernel
abbrev nc_C_leave : ByteArray := prog_2_method_9_code
def ny_C_leave : MethodName := ⟨nR_C, "leave", "()V"⟩
theorem nh_C_leave : ny_C_leave.cls ≠ "java/lang/invoke/MethodHandle" ∧ ny_C_leave.cls ≠ "java/lang/invoke/VarHandle" ∧ (parseMethodDescriptor ny_C_leave.desc).map (fun d => d.parameters.length) = some 0 := by decide +kernel
abbrev nc_C_clear : ByteArray := prog_2_method_10_code
def ny_C_clear : MethodName := ⟨nR_C, "clear", "()V"⟩
theorem nh_C_clear : ny_C_clear.cls ≠ "java/lang/invoke/MethodHandle" ∧ ny_C_clear.cls ≠ "java/lang/invoke/VarHandle" ∧ (parseMethodDescriptor ny_C_clear.desc).map (fun d => d.parameters.length) = some 0 := by decide +kernel
abbrev nc_M_init : ByteArray := prog_3_method_1_code
def ny_M_init : MethodName := ⟨nR_M, "<init>", "()V"⟩
theorem nh_M_init : ny_M_init.cls ≠ "java/lang/invoke/MethodHandle" ∧ ny_M_init.cls ≠ "java/lang/invoke/VarHandle" ∧ (parseMethodDescriptor ny_M_init.desc).map (fun d => d.parameters.length) = some 0 := by decide +kernel
abbrev nc_M_wordAround : ByteArray := prog_3_method_2_code
def ny_M_wordAround : MethodName := ⟨nR_M, "wordAround", "(I)I"⟩
theorem nh_M_wordAround : ny_M_wordAround.cls ≠ "java/lang/invoke/MethodHandle" ∧ ny_M_wordAround.cls ≠ "java/lang/invoke/VarHandle" ∧ (parseMethodDescriptor ny_M_wordAround.desc).map (fun d => d.parameters.length) = some 1 := by decide +kernel
abbrev nc_M_replaceWord : ByteArray := prog_3_method_3_code
def ny_M_replaceWord : MethodName := ⟨nR_M, "replaceWord", "(II)V"⟩
theorem nh_M_replaceWord : ny_M_replaceWord.cls ≠ "java/lang/invoke/MethodHandle" ∧ ny_M_replaceWord.cls ≠ "java/lang/invoke/VarHandle" ∧ (parseMethodDescriptor ny_M_replaceWord.desc).map (fun d => d.parameters.length) = some 2 := by decide +kernel
abbrev nc_M_indexOf : ByteArray := prog_3_method_4_code
def ny_M_indexOf : MethodName := ⟨nR_M, "indexOf", "(I)I"⟩
theorem nh_M_indexOf : ny_M_indexOf.cls ≠ "java/lang/invoke/MethodHandle" ∧ ny_M_indexOf.cls ≠ "java/lang/invoke/VarHandle" ∧ (parseMethodDescriptor ny_M_indexOf.desc).map (fun d => d.parameters.length) = some 1 := by decide +kernel
abbrev nc_O_init : ByteArray := prog_4_method_1_code
def ny_O_init : MethodName := ⟨nR_O, "<init>", "()V"⟩
theorem nh_O_init : ny_O_init.cls ≠ "java/lang/invoke/MethodHandle" ∧ ny_O_init.cls ≠ "java/lang/invoke/VarHandle" ∧ (parseMethodDescriptor ny_O_init.desc).map (fun d => d.parameters.length) = some 0 := by decide +kernel
abbrev nc_O_begin : ByteArray := prog_4_method_2_code
def ny_O_begin : MethodName := ⟨nR_O, "begin", "(I)V"⟩
theorem nh_O_begin : ny_O_begin.cls ≠ "java/lang/invoke/MethodHandle" ∧ ny_O_begin.cls ≠ "java/lang/invoke/VarHandle" ∧ (parseMethodDescriptor ny_O_begin.desc).map (fun d => d.parameters.length) = some 1 := by decide +kernel
abbrev nc_R_init : ByteArray := prog_5_method_1_code
def ny_R_init : MethodName := ⟨nR_R, "<init>", "()V"⟩
theorem nh_R_init : ny_R_init.cls ≠ "java/lang/invoke/MethodHandle" ∧ ny_R_init.cls ≠ "java/lang/invoke/VarHandle" ∧ (parseMethodDescriptor ny_R_init.desc).map (fun d => d.parameters.length) = some 0 := by decide +kernel
abbrev nc_R_valueOf : ByteArray := prog_5_method_2_code
def ny_R_valueOf : MethodName := ⟨nR_R, "valueOf", "(I)I"⟩
theorem nh_R_valueOf : ny_R_valueOf.cls ≠ "java/lang/invoke/MethodHandle" ∧ ny_R_valueOf.cls ≠ "java/lang/invoke/VarHandle" ∧ (parseMethodDescriptor ny_R_valueOf.desc).map (fun d => d.parameters.length) = some 1 := by decide +kernel
abbrev nc_R_change : ByteArray := prog_5_method_3_code
def ny_R_change : MethodName := ⟨nR_R, "change", "(II)V"⟩
theorem nh_R_change : ny_R_change.cls ≠ "java/lang/invoke/MethodHandle" ∧ ny_R_change.cls ≠ "java/lang/invoke/VarHandle" ∧ (parseMethodDescriptor ny_R_change.desc).map (fun d => d.parameters.length) = some 2 := by decide +kernel
abbrev nc_R_latestOf : ByteArray := prog_5_method_4_code
def ny_R_latestOf : MethodName := ⟨nR_R, "latestOf", "(I)I"⟩
theorem nh_R_latestOf : ny_R_latestOf.cls ≠ "java/lang/invoke/MethodHandle" ∧ ny_R_latestOf.cls ≠ "java/lang/invoke/VarHandle" ∧ (parseMethodDescriptor ny_R_latestOf.desc).map (fun d => d.parameters.length) = some 1 := by decide +kernel
abbrev nc_R_holdLoad : ByteArray := prog_5_method_5_code
def ny_R_holdLoad : MethodName := ⟨nR_R, "holdLoad", "(II)V"⟩
theorem nh_R_holdLoad : ny_R_holdLoad.cls ≠ "java/lang/invoke/MethodHandle" ∧ ny_R_holdLoad.cls ≠ "java/lang/invoke/VarHandle" ∧ (parseMethodDescriptor ny_R_holdLoad.desc).map (fun d => d.parameters.length) = some 2 := by decide +kernel
abbrev nc_R_landLoad : ByteArray := prog_5_method_6_code
def ny_R_landLoad : MethodName := ⟨nR_R, "landLoad", "()V"⟩
theorem nh_R_landLoad : ny_R_landLoad.cls ≠ "java/lang/invoke/MethodHandle" ∧ ny_R_landLoad.cls ≠ "java/lang/invoke/VarHandle" ∧ (parseMethodDescriptor ny_R_landLoad.desc).map (fun d => d.parameters.length) = some 0 := by decide +kernel
abbrev nc_R_dropLoad : ByteArray := prog_5_method_7_code
def ny_R_dropLoad : MethodName := ⟨nR_R, "dropLoad", "()V"⟩
theorem nh_R_dropLoad : ny_R_dropLoad.cls ≠ "java/lang/invoke/MethodHandle" ∧ ny_R_dropLoad.cls ≠ "java/lang/invoke/VarHandle" ∧ (parseMethodDescriptor ny_R_dropLoad.desc).map (fun d => d.parameters.length) = some 0 := by decide +kernel
abbrev nc_R_clear : ByteArray := prog_5_method_8_code
def ny_R_clear : MethodName := ⟨nR_R, "clear", "()V"⟩
theorem nh_R_clear : ny_R_clear.cls ≠ "java/lang/invoke/MethodHandle" ∧ ny_R_clear.cls ≠ "java/lang/invoke/VarHandle" ∧ (parseMethodDescriptor ny_R_clear.desc).map (fun d => d.parameters.length) = some 0 := by decide +kernel
abbrev nc_L_put : ByteArray := method_3_code
def ny_L_put : MethodName := ⟨nR_L, "put", "(LSlotCore;II[J)I"⟩
theorem nh_L_put : ny_L_put.cls ≠ "java/lang/invoke/MethodHandle" ∧ ny_L_put.cls ≠ "java/lang/invoke/VarHandle" ∧ (parseMethodDescriptor ny_L_put.desc).map (fun d => d.parameters.length) = some 4 := by decide +kernel
abbrev nc_L_word : ByteArray := method_4_code
def ny_L_word : MethodName := ⟨nR_L, "word", "(LSlotCore;I[J)I"⟩
theorem nh_L_word : ny_L_word.cls ≠ "java/lang/invoke/MethodHandle" ∧ ny_L_word.cls ≠ "java/lang/invoke/VarHandle" ∧ (parseMethodDescriptor ny_L_word.desc).map (fun d => d.parameters.length) = some 3 := by decide +kernel
abbrev nc_L_set : ByteArray := method_5_code
def ny_L_set : MethodName := ⟨nR_L, "set", "(LSlotCore;II[J)I"⟩
theorem nh_L_set : ny_L_set.cls ≠ "java/lang/invoke/MethodHandle" ∧ ny_L_set.cls ≠ "java/lang/invoke/VarHandle" ∧ (parseMethodDescriptor ny_L_set.desc).map (fun d => d.parameters.length) = some 4 := by decide +kernel
abbrev nc_L_register : ByteArray := method_6_code
def ny_L_register : MethodName := ⟨nR_L, "register", "(LSlotCore;I[J)I"⟩
theorem nh_L_register : ny_L_register.cls ≠ "java/lang/invoke/MethodHandle" ∧ ny_L_register.cls ≠ "java/lang/invoke/VarHandle" ∧ (parseMethodDescriptor ny_L_register.desc).map (fun d => d.parameters.length) = some 3 := by decide +kernel
abbrev nc_L_lines : ByteArray := method_7_code
def ny_L_lines : MethodName := ⟨nR_L, "lines", "(LSlotCore;I[J)I"⟩
theorem nh_L_lines : ny_L_lines.cls ≠ "java/lang/invoke/MethodHandle" ∧ ny_L_lines.cls ≠ "java/lang/invoke/VarHandle" ∧ (parseMethodDescriptor ny_L_lines.desc).map (fun d => d.parameters.length) = some 3 := by decide +kernel
abbrev nc_L_run : ByteArray := method_8_code
def ny_L_run : MethodName := ⟨nR_L, "run", "(LSlotCore;I[J)I"⟩
theorem nh_L_run : ny_L_run.cls ≠ "java/lang/invoke/MethodHandle" ∧ ny_L_run.cls ≠ "java/lang/invoke/VarHandle" ∧ (parseMethodDescriptor ny_L_run.desc).map (fun d => d.parameters.length) = some 3 := by decide +kernel
abbrev nc_L_look : ByteArray := method_9_code
def ny_L_look : MethodName := ⟨nR_L, "look", "(LSlotCore;I[J)I"⟩
theorem nh_L_look : ny_L_look.cls ≠ "java/lang/invoke/MethodHandle" ∧ ny_L_look.cls ≠ "java/lang/invoke/VarHandle" ∧ (parseMethodDescriptor ny_L_look.desc).map (fun d => d.parameters.length) = some 3 := by decide +kernel
def GW : List Cond := [.initialized nR_L,
  .initialized nR_S,
  .initialized nR_M,
  .initialized nR_R,
  .initialized nR_C,
  .initialized nR_O,
  .initialized nR_D,
  .classLink nR_L 8 nR_S,
  .instantiable nR_S 9,
  .methodLink nR_L 36 ny_S_init,
  .instanceMethod ny_S_init,
  .code ny_S_init nc_S_init 1 none,
  .methodLink nR_S 3 objectInit,
  .instanceMethod objectInit,
  .code objectInit ⟨#[0xb1]⟩ 1 none,
  .classLink nR_S 9 nR_M,
  .instantiable nR_M 1,
  .instanceMethod ny_M_init,
  .code ny_M_init nc_M_init 1 none,
  .methodLink nR_M 3 objectInit,
  .fieldLink nR_M 9 "SlotCore$Memory" "words" "[I",
  .laysFinal nR_M "SlotCore$Memory" "words" "[I",
  .arrayClass .int,
  .classLink nR_S 16 nR_R,
  .instantiable nR_R 3,
  .instanceMethod ny_R_init,
  .code ny_R_init nc_R_init 1 none,
  .methodLink nR_R 3 objectInit,
  .fieldLink nR_R 9 "SlotCore$Registers" "values" "[I",
  .fieldLink nR_R 15 "SlotCore$Registers" "waitsFor" "I",
  .fieldLink nR_R 19 "SlotCore$Registers" "waitingValue" "I",
  .laysFinal nR_R "SlotCore$Registers" "values" "[I",
  .lays nR_R "SlotCore$Registers" "waitsFor" "I",
  .lays nR_R "SlotCore$Registers" "waitingValue" "I",
  .classLink nR_S 23 nR_C,
  .instantiable nR_C 5,
  .instanceMethod ny_C_init,
  .code ny_C_init nc_C_init 1 none,
  .methodLink nR_C 3 objectInit,
  .fieldLink nR_C 18 "SlotCore$Control" "statusBits" "I",
  .fieldLink nR_C 9 "SlotCore$Control" "causeBits" "I",
  .fieldLink nR_C 15 "SlotCore$Control" "lineBits" "I",
  .fieldLink nR_C 30 "SlotCore$Control" "returnAddress" "I",
  .fieldLink nR_C 33 "SlotCore$Control" "badAddress" "I",
  .lays nR_C "SlotCore$Control" "statusBits" "I",
  .lays nR_C "SlotCore$Control" "causeBits" "I",
  .lays nR_C "SlotCore$Control" "lineBits" "I",
  .lays nR_C "SlotCore$Control" "returnAddress" "I",
  .lays nR_C "SlotCore$Control" "badAddress" "I",
  .classLink nR_S 30 nR_O,
  .instantiable nR_O 5,
  .instanceMethod ny_O_init,
  .code ny_O_init nc_O_init 1 none,
  .methodLink nR_O 3 objectInit,
  .fieldLink nR_O 9 "SlotCore$Outcome" "register" "I",
  .fieldLink nR_O 15 "SlotCore$Outcome" "isLoad" "Z",
  .fieldLink nR_O 19 "SlotCore$Outcome" "isBranch" "Z",
  .fieldLink nR_O 22 "SlotCore$Outcome" "afterNext" "I",
  .lays nR_O "SlotCore$Outcome" "register" "I",
  .lays nR_O "SlotCore$Outcome" "value" "I",
  .lays nR_O "SlotCore$Outcome" "isLoad" "Z",
  .lays nR_O "SlotCore$Outcome" "isBranch" "Z",
  .lays nR_O "SlotCore$Outcome" "afterNext" "I",
  .fieldLink nR_S 12 "SlotCore" "memory" "LSlotCore$Memory;",
  .fieldLink nR_S 19 "SlotCore" "registers" "LSlotCore$Registers;",
  .fieldLink nR_S 26 "SlotCore" "control" "LSlotCore$Control;",
  .fieldLink nR_S 33 "SlotCore" "outcome" "LSlotCore$Outcome;",
  .fieldLink nR_S 76 "SlotCore" "pc" "I",
  .fieldLink nR_S 37 "SlotCore" "next" "I",
  .fieldLink nR_S 105 "SlotCore" "inSlot" "Z",
  .fieldLink nR_S 49 "SlotCore" "steps" "I",
  .fieldLink nR_S 52 "SlotCore" "exceptions" "I",
  .laysFinal nR_S "SlotCore" "memory" "LSlotCore$Memory;",
  .laysFinal nR_S "SlotCore" "registers" "LSlotCore$Registers;",
  .laysFinal nR_S "SlotCore" "control" "LSlotCore$Control;",
  .laysFinal nR_S "SlotCore" "outcome" "LSlotCore$Outcome;",
  .lays nR_S "SlotCore" "pc" "I",
  .lays nR_S "SlotCore" "next" "I",
  .lays nR_S "SlotCore" "inSlot" "Z",
  .lays nR_S "SlotCore" "steps" "I",
  .lays nR_S "SlotCore" "exceptions" "I",
  .methodLink nR_L 40 ny_S_reset,
  .instanceMethod ny_S_reset,
  .selects nR_S ny_S_reset ny_S_reset,
  .code ny_S_reset nc_S_reset 1 none,
  .selects nR_R ny_R_clear ny_R_clear,
  .instanceMethod ny_R_clear,
  .code ny_R_clear nc_R_clear 2 none,
  .methodLink nR_R 30 ny_R_dropLoad,
  .selects nR_R ny_R_dropLoad ny_R_dropLoad,
  .instanceMethod ny_R_dropLoad,
  .code ny_R_dropLoad nc_R_dropLoad 1 none,
  .methodLink nR_R 33 ny_R_holdLoad,
  .selects nR_R ny_R_holdLoad ny_R_holdLoad,
  .instanceMethod ny_R_holdLoad,
  .code ny_R_holdLoad nc_R_holdLoad 3 none,
  .selects nR_C ny_C_clear ny_C_clear,
  .instanceMethod ny_C_clear,
  .code ny_C_clear nc_C_clear 1 none,
  .methodLink nR_S 45 ny_S_continueAt,
  .selects nR_S ny_S_continueAt ny_S_continueAt,
  .instanceMethod ny_S_continueAt,
  .code ny_S_continueAt nc_S_continueAt 2 none,
  .methodLink nR_L 64 ny_S_go,
  .instanceMethod ny_S_go,
  .selects nR_S ny_S_go ny_S_go,
  .code ny_S_go nc_S_go 3 (some .int),
  .methodLink nR_L 68 ny_S_status,
  .instanceMethod ny_S_status,
  .selects nR_S ny_S_status ny_S_status,
  .code ny_S_status nc_S_status 3 (some .int),
  .selects nR_C ny_C_change ny_C_change,
  .instanceMethod ny_C_change,
  .code ny_C_change nc_C_change 3 none,
  .constant nR_C 36 65343,
  .static ny_S_exchange,
  .code ny_S_exchange nc_S_exchange 3 (some .int),
  .methodLink nR_L 75 ny_S_step,
  .instanceMethod ny_S_step,
  .selects nR_S ny_S_step ny_S_step,
  .code ny_S_step nc_S_step 1 (some .int),
  .methodLink nR_S 92 ny_S_takeStep,
  .selects nR_S ny_S_takeStep ny_S_takeStep,
  .instanceMethod ny_S_takeStep,
  .code ny_S_takeStep nc_S_takeStep 2 (some .int),
  .selects nR_C ny_C_interruptIsDue ny_C_interruptIsDue,
  .instanceMethod ny_C_interruptIsDue,
  .code ny_C_interruptIsDue nc_C_interruptIsDue 1 (some .boolean),
  .methodLink nR_C 25 ny_C_wholeCause,
  .selects nR_C ny_C_wholeCause ny_C_wholeCause,
  .instanceMethod ny_C_wholeCause,
  .code ny_C_wholeCause nc_C_wholeCause 1 (some .int),
  .constant nR_C 29 65280,
  .methodLink nR_S 122 ny_S_enterException,
  .selects nR_S ny_S_enterException ny_S_enterException,
  .instanceMethod ny_S_enterException,
  .code ny_S_enterException nc_S_enterException 2 none,
  .selects nR_R ny_R_landLoad ny_R_landLoad,
  .instanceMethod ny_R_landLoad,
  .code ny_R_landLoad nc_R_landLoad 1 none,
  .methodLink nR_R 26 ny_R_change,
  .selects nR_R ny_R_change ny_R_change,
  .instanceMethod ny_R_change,
  .code ny_R_change nc_R_change 3 none,
  .selects nR_C ny_C_enter ny_C_enter,
  .instanceMethod ny_C_enter,
  .code ny_C_enter nc_C_enter 4 none,
  .constant nR_C 41 (-2147483648),
  .constant nR_S 142 (-2147483520),
  .methodLink nR_S 125 ny_S_faultAtPc,
  .selects nR_S ny_S_faultAtPc ny_S_faultAtPc,
  .instanceMethod ny_S_faultAtPc,
  .code ny_S_faultAtPc nc_S_faultAtPc 1 (some .int),
  .selects nR_C ny_C_forbids ny_C_forbids,
  .instanceMethod ny_C_forbids,
  .code ny_C_forbids nc_C_forbids 2 (some .boolean),
  .methodLink nR_C 21 ny_C_isUser,
  .selects nR_C ny_C_isUser ny_C_isUser,
  .instanceMethod ny_C_isUser,
  .code ny_C_isUser nc_C_isUser 1 (some .boolean),
  .constant nR_S 128 536870911,
  .methodLink nR_S 115 ny_S_isInMemory,
  .static ny_S_isInMemory,
  .code ny_S_isInMemory nc_S_isInMemory 1 (some .boolean),
  .selects nR_M ny_M_wordAround ny_M_wordAround,
  .instanceMethod ny_M_wordAround,
  .code ny_M_wordAround nc_M_wordAround 2 (some .int),
  .methodLink nR_M 15 ny_M_indexOf,
  .static ny_M_indexOf,
  .code ny_M_indexOf nc_M_indexOf 1 (some .int),
  .methodLink nR_S 129 ny_S_perform,
  .selects nR_S ny_S_perform ny_S_perform,
  .instanceMethod ny_S_perform,
  .code ny_S_perform nc_S_perform 2 (some .int),
  .selects nR_O ny_O_begin ny_O_begin,
  .instanceMethod ny_O_begin,
  .code ny_O_begin nc_O_begin 2 none,
  .methodLink nR_S 167 ny_S_isBranch,
  .static ny_S_isBranch,
  .code ny_S_isBranch nc_S_isBranch 2 (some .boolean),
  .methodLink nR_S 169 ny_S_orderOf,
  .static ny_S_orderOf,
  .code ny_S_orderOf nc_S_orderOf 1 (some .int),
  .methodLink nR_S 209 ny_S_numberK,
  .static ny_S_numberK,
  .code ny_S_numberK nc_S_numberK 1 (some .int),
  .methodLink nR_S 272 ny_S_isBranchBySign,
  .static ny_S_isBranchBySign,
  .code ny_S_isBranchBySign nc_S_isBranchBySign 2 (some .boolean),
  .methodLink nR_S 200 ny_S_numberT,
  .static ny_S_numberT,
  .code ny_S_numberT nc_S_numberT 1 (some .int),
  .methodLink nR_S 172 ny_S_performByK,
  .selects nR_S ny_S_performByK ny_S_performByK,
  .instanceMethod ny_S_performByK,
  .code ny_S_performByK nc_S_performByK 2 (some .int),
  .methodLink nR_S 212 ny_S_performShift,
  .selects nR_S ny_S_performShift ny_S_performShift,
  .instanceMethod ny_S_performShift,
  .code ny_S_performShift nc_S_performShift 5 (some .int),
  .methodLink nR_S 227 ny_S_valueOfT,
  .selects nR_S ny_S_valueOfT ny_S_valueOfT,
  .instanceMethod ny_S_valueOfT,
  .code ny_S_valueOfT nc_S_valueOfT 2 (some .int),
  .selects nR_R ny_R_valueOf ny_R_valueOf,
  .instanceMethod ny_R_valueOf,
  .code ny_R_valueOf nc_R_valueOf 2 (some .int),
  .methodLink nR_S 230 ny_S_numberD,
  .static ny_S_numberD,
  .code ny_S_numberD nc_S_numberD 1 (some .int),
  .methodLink nR_S 233 ny_S_valueOfS,
  .selects nR_S ny_S_valueOfS ny_S_valueOfS,
  .instanceMethod ny_S_valueOfS,
  .code ny_S_valueOfS nc_S_valueOfS 2 (some .int),
  .methodLink nR_S 197 ny_S_numberS,
  .static ny_S_numberS,
  .code ny_S_numberS nc_S_numberS 1 (some .int),
  .methodLink nR_S 236 ny_S_numberA,
  .static ny_S_numberA,
  .code ny_S_numberA nc_S_numberA 1 (some .int),
  .methodLink nR_S 205 ny_S_give,
  .selects nR_S ny_S_give ny_S_give,
  .instanceMethod ny_S_give,
  .code ny_S_give nc_S_give 3 (some .int),
  .methodLink nR_S 215 ny_S_performJumpToS,
  .selects nR_S ny_S_performJumpToS ny_S_performJumpToS,
  .instanceMethod ny_S_performJumpToS,
  .code ny_S_performJumpToS nc_S_performJumpToS 2 (some .int),
  .methodLink nR_S 239 ny_S_branchIf,
  .selects nR_S ny_S_branchIf ny_S_branchIf,
  .instanceMethod ny_S_branchIf,
  .code ny_S_branchIf nc_S_branchIf 3 (some .int),
  .methodLink nR_S 218 ny_S_performMove,
  .selects nR_S ny_S_performMove ny_S_performMove,
  .instanceMethod ny_S_performMove,
  .code ny_S_performMove nc_S_performMove 2 (some .int),
  .methodLink nR_S 221 ny_S_performProduct,
  .selects nR_S ny_S_performProduct ny_S_performProduct,
  .instanceMethod ny_S_performProduct,
  .code ny_S_performProduct nc_S_performProduct 4 (some .int),
  .methodLink nR_S 255 ny_S_keepHighAndLow,
  .selects nR_S ny_S_keepHighAndLow ny_S_keepHighAndLow,
  .instanceMethod ny_S_keepHighAndLow,
  .code ny_S_keepHighAndLow nc_S_keepHighAndLow 3 (some .int),
  .methodLink nR_S 251 ny_S_withoutSign,
  .static ny_S_withoutSign,
  .code ny_S_withoutSign nc_S_withoutSign 1 (some .long),
  .constantLong nR_S 203 4294967295,
  .methodLink nR_S 259 ny_S_divide,
  .static ny_S_divide,
  .code ny_S_divide nc_S_divide 4 (some .long),
  .constantLong nR_S 266 (-1),
  .methodLink nR_S 268 ny_S_restAndQuotient,
  .static ny_S_restAndQuotient,
  .code ny_S_restAndQuotient nc_S_restAndQuotient 4 (some .long),
  .methodLink nR_S 263 ny_S_divideWithoutSign,
  .static ny_S_divideWithoutSign,
  .code ny_S_divideWithoutSign nc_S_divideWithoutSign 6 (some .long),
  .methodLink nR_S 224 ny_S_performOnTwo,
  .selects nR_S ny_S_performOnTwo ny_S_performOnTwo,
  .instanceMethod ny_S_performOnTwo,
  .code ny_S_performOnTwo nc_S_performOnTwo 5 (some .int),
  .methodLink nR_S 243 ny_S_giveIfExact,
  .selects nR_S ny_S_giveIfExact ny_S_giveIfExact,
  .instanceMethod ny_S_giveIfExact,
  .code ny_S_giveIfExact nc_S_giveIfExact 4 (some .int),
  .methodLink nR_S 247 ny_S_giveTruth,
  .selects nR_S ny_S_giveTruth ny_S_giveTruth,
  .instanceMethod ny_S_giveTruth,
  .code ny_S_giveTruth nc_S_giveTruth 3 (some .int),
  .methodLink nR_S 175 ny_S_performBranchBySign,
  .selects nR_S ny_S_performBranchBySign ny_S_performBranchBySign,
  .instanceMethod ny_S_performBranchBySign,
  .code ny_S_performBranchBySign nc_S_performBranchBySign 5 (some .int),
  .methodLink nR_S 275 ny_S_nearTarget,
  .selects nR_S ny_S_nearTarget ny_S_nearTarget,
  .instanceMethod ny_S_nearTarget,
  .code ny_S_nearTarget nc_S_nearTarget 2 (some .int),
  .methodLink nR_S 281 ny_S_numberI,
  .static ny_S_numberI,
  .code ny_S_numberI nc_S_numberI 1 (some .int),
  .methodLink nR_S 178 ny_S_performJump,
  .selects nR_S ny_S_performJump ny_S_performJump,
  .instanceMethod ny_S_performJump,
  .code ny_S_performJump nc_S_performJump 2 (some .int),
  .methodLink nR_S 278 ny_S_farTarget,
  .selects nR_S ny_S_farTarget ny_S_farTarget,
  .instanceMethod ny_S_farTarget,
  .code ny_S_farTarget nc_S_farTarget 2 (some .int),
  .constant nR_S 284 (-268435456),
  .constant nR_S 285 268435455,
  .methodLink nR_S 181 ny_S_performBranch,
  .selects nR_S ny_S_performBranch ny_S_performBranch,
  .instanceMethod ny_S_performBranch,
  .code ny_S_performBranch nc_S_performBranch 4 (some .int),
  .methodLink nR_S 184 ny_S_performWithNumber,
  .selects nR_S ny_S_performWithNumber ny_S_performWithNumber,
  .instanceMethod ny_S_performWithNumber,
  .code ny_S_performWithNumber nc_S_performWithNumber 6 (some .int),
  .methodLink nR_S 286 ny_S_numberU,
  .static ny_S_numberU,
  .code ny_S_numberU nc_S_numberU 1 (some .int),
  .constant nR_S 196 65535,
  .methodLink nR_S 187 ny_S_performControl,
  .selects nR_S ny_S_performControl ny_S_performControl,
  .instanceMethod ny_S_performControl,
  .code ny_S_performControl nc_S_performControl 4 (some .int),
  .selects nR_C ny_C_valueOf ny_C_valueOf,
  .instanceMethod ny_C_valueOf,
  .code ny_C_valueOf nc_C_valueOf 2 (some .int),
  .methodLink nR_S 293 ny_S_giveLate,
  .selects nR_S ny_S_giveLate ny_S_giveLate,
  .instanceMethod ny_S_giveLate,
  .code ny_S_giveLate nc_S_giveLate 3 (some .int),
  .selects nR_C ny_C_leave ny_C_leave,
  .instanceMethod ny_C_leave,
  .code ny_C_leave nc_C_leave 1 none,
  .methodLink nR_S 190 ny_S_performLoad,
  .selects nR_S ny_S_performLoad ny_S_performLoad,
  .instanceMethod ny_S_performLoad,
  .code ny_S_performLoad nc_S_performLoad 6 (some .int),
  .methodLink nR_S 299 ny_S_addressOf,
  .selects nR_S ny_S_addressOf ny_S_addressOf,
  .instanceMethod ny_S_addressOf,
  .code ny_S_addressOf nc_S_addressOf 2 (some .int),
  .methodLink nR_S 302 ny_S_loadUnit,
  .static ny_S_loadUnit,
  .code ny_S_loadUnit nc_S_loadUnit 1 (some .int),
  .methodLink nR_S 305 ny_S_faultOfData,
  .selects nR_S ny_S_faultOfData ny_S_faultOfData,
  .instanceMethod ny_S_faultOfData,
  .code ny_S_faultOfData nc_S_faultOfData 4 (some .int),
  .selects nR_R ny_R_latestOf ny_R_latestOf,
  .instanceMethod ny_R_latestOf,
  .code ny_R_latestOf nc_R_latestOf 2 (some .int),
  .methodLink nR_R 22 ny_R_valueOf,
  .methodLink nR_S 312 ny_S_joinLoaded,
  .static ny_S_joinLoaded,
  .code ny_S_joinLoaded nc_S_joinLoaded 7 (some .int),
  .methodLink nR_S 316 ny_S_toLowest,
  .static ny_S_toLowest,
  .code ny_S_toLowest nc_S_toLowest 2 (some .int),
  .methodLink nR_S 319 ny_S_bitsAhead,
  .static ny_S_bitsAhead,
  .code ny_S_bitsAhead nc_S_bitsAhead 1 (some .int),
  .methodLink nR_S 322 ny_S_exchange,
  .methodLink nR_S 193 ny_S_performStore,
  .selects nR_S ny_S_performStore ny_S_performStore,
  .instanceMethod ny_S_performStore,
  .code ny_S_performStore nc_S_performStore 6 (some .int),
  .methodLink nR_S 325 ny_S_storeUnit,
  .static ny_S_storeUnit,
  .code ny_S_storeUnit nc_S_storeUnit 1 (some .int),
  .methodLink nR_S 328 ny_S_joinStored,
  .static ny_S_joinStored,
  .code ny_S_joinStored nc_S_joinStored 7 (some .int),
  .selects nR_M ny_M_replaceWord ny_M_replaceWord,
  .instanceMethod ny_M_replaceWord,
  .code ny_M_replaceWord nc_M_replaceWord 3 none,
  .methodLink nR_S 132 ny_S_finishInstruction,
  .selects nR_S ny_S_finishInstruction ny_S_finishInstruction,
  .instanceMethod ny_S_finishInstruction,
  .code ny_S_finishInstruction nc_S_finishInstruction 1 none,
  .methodLink nR_L 44 ny_L_put,
  .static ny_L_put,
  .methodLink nR_L 7 ny_S_put,
  .instanceMethod ny_S_put,
  .selects nR_S ny_S_put ny_S_put,
  .code ny_S_put nc_S_put 4 (some .int),
  .methodLink nR_S 55 ny_S_isPlaceOfWord,
  .static ny_S_isPlaceOfWord,
  .code ny_S_isPlaceOfWord nc_S_isPlaceOfWord 1 (some .boolean),
  .methodLink nR_L 54 ny_L_word,
  .static ny_L_word,
  .methodLink nR_L 15 ny_S_word,
  .instanceMethod ny_S_word,
  .selects nR_S ny_S_word ny_S_word,
  .code ny_S_word nc_S_word 2 (some .int),
  .methodLink nR_L 58 ny_L_set,
  .static ny_L_set,
  .methodLink nR_L 19 ny_S_set,
  .instanceMethod ny_S_set,
  .selects nR_S ny_S_set ny_S_set,
  .code ny_S_set nc_S_set 4 (some .int),
  .methodLink nR_L 61 ny_L_register,
  .static ny_L_register,
  .methodLink nR_L 22 ny_S_register,
  .instanceMethod ny_S_register,
  .selects nR_S ny_S_register ny_S_register,
  .code ny_S_register nc_S_register 2 (some .int),
  .methodLink nR_L 72 ny_L_lines,
  .static ny_L_lines,
  .methodLink nR_L 25 ny_S_lines,
  .instanceMethod ny_S_lines,
  .selects nR_S ny_S_lines ny_S_lines,
  .code ny_S_lines nc_S_lines 3 (some .int),
  .methodLink nR_L 79 ny_L_run,
  .static ny_L_run,
  .methodLink nR_L 30 ny_S_run,
  .instanceMethod ny_S_run,
  .selects nR_S ny_S_run ny_S_run,
  .code ny_S_run nc_S_run 4 (some .int),
  .methodLink nR_L 82 ny_L_look,
  .static ny_L_look,
  .methodLink nR_L 33 ny_S_look,
  .instanceMethod ny_S_look,
  .selects nR_S ny_S_look ny_S_look,
  .code ny_S_look nc_S_look 2 (some .int),
  .classLink nR_L 37 nR_D,
  .instantiable nR_D 28,
  .methodLink nR_L 39 ny_D_init,
  .instanceMethod ny_D_init,
  .code ny_D_init nc_D_init 1 none,
  .methodLink nR_D 1 objectInit,
  .fieldLink nR_D 23 "SlotCoreModel" "thrown" "I",
  .fieldLink nR_D 7 "SlotCoreModel" "bytes" "[I",
  .fieldLink nR_D 13 "SlotCoreModel" "registers" "[I",
  .fieldLink nR_D 26 "SlotCoreModel" "pc" "I",
  .fieldLink nR_D 16 "SlotCoreModel" "next" "I",
  .fieldLink nR_D 29 "SlotCoreModel" "status" "I",
  .fieldLink nR_D 32 "SlotCoreModel" "code" "I",
  .fieldLink nR_D 35 "SlotCoreModel" "soft" "I",
  .fieldLink nR_D 38 "SlotCoreModel" "lines" "I",
  .fieldLink nR_D 41 "SlotCoreModel" "behind" "Z",
  .fieldLink nR_D 45 "SlotCoreModel" "back" "I",
  .fieldLink nR_D 48 "SlotCoreModel" "bad" "I",
  .fieldLink nR_D 51 "SlotCoreModel" "slot" "Z",
  .fieldLink nR_D 20 "SlotCoreModel" "waits" "I",
  .fieldLink nR_D 54 "SlotCoreModel" "value" "I",
  .fieldLink nR_D 57 "SlotCoreModel" "steps" "I",
  .fieldLink nR_D 60 "SlotCoreModel" "troubles" "I",
  .fieldLink nR_D 81 "SlotCoreModel" "word" "I",
  .fieldLink nR_D 84 "SlotCoreModel" "order" "I",
  .fieldLink nR_D 95 "SlotCoreModel" "s" "I",
  .fieldLink nR_D 118 "SlotCoreModel" "t" "I",
  .fieldLink nR_D 87 "SlotCoreModel" "k" "I",
  .fieldLink nR_D 128 "SlotCoreModel" "to" "I",
  .fieldLink nR_D 131 "SlotCoreModel" "result" "I",
  .fieldLink nR_D 160 "SlotCoreModel" "loads" "I",
  .fieldLink nR_D 166 "SlotCoreModel" "loaded" "I",
  .fieldLink nR_D 140 "SlotCoreModel" "target" "I",
  .lays nR_D "SlotCoreModel" "thrown" "I",
  .laysFinal nR_D "SlotCoreModel" "bytes" "[I",
  .laysFinal nR_D "SlotCoreModel" "registers" "[I",
  .lays nR_D "SlotCoreModel" "pc" "I",
  .lays nR_D "SlotCoreModel" "next" "I",
  .lays nR_D "SlotCoreModel" "status" "I",
  .lays nR_D "SlotCoreModel" "code" "I",
  .lays nR_D "SlotCoreModel" "soft" "I",
  .lays nR_D "SlotCoreModel" "lines" "I",
  .lays nR_D "SlotCoreModel" "behind" "Z",
  .lays nR_D "SlotCoreModel" "back" "I",
  .lays nR_D "SlotCoreModel" "bad" "I",
  .lays nR_D "SlotCoreModel" "slot" "Z",
  .lays nR_D "SlotCoreModel" "waits" "I",
  .lays nR_D "SlotCoreModel" "value" "I",
  .lays nR_D "SlotCoreModel" "steps" "I",
  .lays nR_D "SlotCoreModel" "troubles" "I",
  .lays nR_D "SlotCoreModel" "word" "I",
  .lays nR_D "SlotCoreModel" "order" "I",
  .lays nR_D "SlotCoreModel" "s" "I",
  .lays nR_D "SlotCoreModel" "t" "I",
  .lays nR_D "SlotCoreModel" "k" "I",
  .lays nR_D "SlotCoreModel" "to" "I",
  .lays nR_D "SlotCoreModel" "result" "I",
  .lays nR_D "SlotCoreModel" "loads" "I",
  .lays nR_D "SlotCoreModel" "loaded" "I",
  .lays nR_D "SlotCoreModel" "target" "I",
  .lays nR_D "SlotCoreModel" "branches" "Z",
  .methodLink nR_L 50 ny_D_thrown,
  .instanceMethod ny_D_thrown,
  .selects nR_D ny_D_thrown ny_D_thrown,
  .code ny_D_thrown nc_D_thrown 1 (some .int),
  .methodLink nR_L 43 ny_D_reset,
  .instanceMethod ny_D_reset,
  .selects nR_D ny_D_reset ny_D_reset,
  .code ny_D_reset nc_D_reset 2 none,
  .methodLink nR_L 49 ny_D_put,
  .instanceMethod ny_D_put,
  .selects nR_D ny_D_put ny_D_put,
  .code ny_D_put nc_D_put 4 (some .int),
  .methodLink nR_D 63 ny_D_isWord,
  .static ny_D_isWord,
  .code ny_D_isWord nc_D_isWord 1 (some .boolean),
  .methodLink nR_D 67 ny_D_goes,
  .selects nR_D ny_D_goes ny_D_goes,
  .instanceMethod ny_D_goes,
  .code ny_D_goes nc_D_goes 2 (some .boolean),
  .methodLink nR_D 71 ny_D_load,
  .selects nR_D ny_D_load ny_D_load,
  .instanceMethod ny_D_load,
  .code ny_D_load nc_D_load 5 (some .int),
  .methodLink nR_D 75 ny_D_store,
  .selects nR_D ny_D_store ny_D_store,
  .instanceMethod ny_D_store,
  .code ny_D_store nc_D_store 5 none,
  .methodLink nR_L 57 ny_D_word,
  .instanceMethod ny_D_word,
  .selects nR_D ny_D_word ny_D_word,
  .code ny_D_word nc_D_word 2 (some .int),
  .methodLink nR_L 60 ny_D_set,
  .instanceMethod ny_D_set,
  .selects nR_D ny_D_set ny_D_set,
  .code ny_D_set nc_D_set 4 (some .int),
  .methodLink nR_L 63 ny_D_register,
  .instanceMethod ny_D_register,
  .selects nR_D ny_D_register ny_D_register,
  .code ny_D_register nc_D_register 2 (some .int),
  .methodLink nR_L 67 ny_D_go,
  .instanceMethod ny_D_go,
  .selects nR_D ny_D_go ny_D_go,
  .code ny_D_go nc_D_go 3 (some .int),
  .methodLink nR_L 71 ny_D_status,
  .instanceMethod ny_D_status,
  .selects nR_D ny_D_status ny_D_status,
  .code ny_D_status nc_D_status 3 (some .int),
  .constant nR_D 79 65343,
  .methodLink nR_L 74 ny_D_lines,
  .instanceMethod ny_D_lines,
  .selects nR_D ny_D_lines ny_D_lines,
  .code ny_D_lines nc_D_lines 3 (some .int),
  .methodLink nR_L 78 ny_D_step,
  .instanceMethod ny_D_step,
  .selects nR_D ny_D_step ny_D_step,
  .code ny_D_step nc_D_step 1 (some .int),
  .methodLink nR_D 206 ny_D_oneStep,
  .selects nR_D ny_D_oneStep ny_D_oneStep,
  .instanceMethod ny_D_oneStep,
  .code ny_D_oneStep nc_D_oneStep 2 (some .int),
  .methodLink nR_D 163 ny_D_cause,
  .selects nR_D ny_D_cause ny_D_cause,
  .instanceMethod ny_D_cause,
  .code ny_D_cause nc_D_cause 1 (some .int),
  .constant nR_D 80 (-2147483648),
  .methodLink nR_D 191 ny_D_except,
  .selects nR_D ny_D_except ny_D_except,
  .instanceMethod ny_D_except,
  .code ny_D_except nc_D_except 2 none,
  .constant nR_D 187 (-2147483520),
  .methodLink nR_D 188 ny_D_settle,
  .selects nR_D ny_D_settle ny_D_settle,
  .instanceMethod ny_D_settle,
  .code ny_D_settle nc_D_settle 1 none,
  .methodLink nR_D 194 ny_D_fetch,
  .selects nR_D ny_D_fetch ny_D_fetch,
  .instanceMethod ny_D_fetch,
  .code ny_D_fetch nc_D_fetch 1 (some .int),
  .methodLink nR_D 108 ny_D_user,
  .selects nR_D ny_D_user ny_D_user,
  .instanceMethod ny_D_user,
  .code ny_D_user nc_D_user 1 (some .boolean),
  .methodLink nR_D 111 ny_D_inMemory,
  .static ny_D_inMemory,
  .code ny_D_inMemory nc_D_inMemory 3 (some .boolean),
  .constant nR_D 94 536870911,
  .methodLink nR_D 197 ny_D_read,
  .selects nR_D ny_D_read ny_D_read,
  .instanceMethod ny_D_read,
  .code ny_D_read nc_D_read 1 none,
  .methodLink nR_D 200 ny_D_trouble,
  .selects nR_D ny_D_trouble ny_D_trouble,
  .instanceMethod ny_D_trouble,
  .code ny_D_trouble nc_D_trouble 2 (some .int),
  .methodLink nR_D 115 ny_D_isKnown,
  .selects nR_D ny_D_isKnown ny_D_isKnown,
  .instanceMethod ny_D_isKnown,
  .code ny_D_isKnown nc_D_isKnown 2 (some .boolean),
  .methodLink nR_D 90 ny_D_isBranch,
  .selects nR_D ny_D_isBranch ny_D_isBranch,
  .instanceMethod ny_D_isBranch,
  .code ny_D_isBranch nc_D_isBranch 2 (some .boolean),
  .methodLink nR_D 121 ny_D_exact,
  .static ny_D_exact,
  .code ny_D_exact nc_D_exact 2 (some .boolean),
  .methodLink nR_D 98 ny_D_number,
  .selects nR_D ny_D_number ny_D_number,
  .instanceMethod ny_D_number,
  .code ny_D_number nc_D_number 1 (some .int),
  .methodLink nR_D 125 ny_D_addressTrouble,
  .selects nR_D ny_D_addressTrouble ny_D_addressTrouble,
  .instanceMethod ny_D_addressTrouble,
  .code ny_D_addressTrouble nc_D_addressTrouble 3 (some .int),
  .methodLink nR_D 102 ny_D_isPart,
  .selects nR_D ny_D_isPart ny_D_isPart,
  .instanceMethod ny_D_isPart,
  .code ny_D_isPart nc_D_isPart 1 (some .boolean),
  .methodLink nR_D 105 ny_D_moved,
  .selects nR_D ny_D_moved ny_D_moved,
  .instanceMethod ny_D_moved,
  .code ny_D_moved nc_D_moved 2 (some .int),
  .methodLink nR_D 203 ny_D_act,
  .selects nR_D ny_D_act ny_D_act,
  .instanceMethod ny_D_act,
  .code ny_D_act nc_D_act 1 none,
  .methodLink nR_D 172 ny_D_byRegisters,
  .selects nR_D ny_D_byRegisters ny_D_byRegisters,
  .instanceMethod ny_D_byRegisters,
  .code ny_D_byRegisters nc_D_byRegisters 2 none,
  .methodLink nR_D 136 ny_D_gives,
  .selects nR_D ny_D_gives ny_D_gives,
  .instanceMethod ny_D_gives,
  .code ny_D_gives nc_D_gives 3 none,
  .methodLink nR_D 143 ny_D_multiply,
  .selects nR_D ny_D_multiply ny_D_multiply,
  .instanceMethod ny_D_multiply,
  .code ny_D_multiply nc_D_multiply 8 none,
  .constantLong nR_D 134 4294967295,
  .methodLink nR_D 147 ny_D_divide,
  .selects nR_D ny_D_divide ny_D_divide,
  .instanceMethod ny_D_divide,
  .code ny_D_divide nc_D_divide 6 none,
  .methodLink nR_D 150 ny_D_less,
  .static ny_D_less,
  .code ny_D_less nc_D_less 2 (some .boolean),
  .methodLink nR_D 153 ny_D_shifts,
  .selects nR_D ny_D_shifts ny_D_shifts,
  .instanceMethod ny_D_shifts,
  .code ny_D_shifts nc_D_shifts 3 none,
  .methodLink nR_D 175 ny_D_branch,
  .selects nR_D ny_D_branch ny_D_branch,
  .instanceMethod ny_D_branch,
  .code ny_D_branch nc_D_branch 3 none,
  .constant nR_D 157 (-268435456),
  .constant nR_D 158 67108863,
  .methodLink nR_D 178 ny_D_byNumber,
  .selects nR_D ny_D_byNumber ny_D_byNumber,
  .instanceMethod ny_D_byNumber,
  .code ny_D_byNumber nc_D_byNumber 3 none,
  .constant nR_D 159 65535,
  .methodLink nR_D 181 ny_D_control,
  .selects nR_D ny_D_control ny_D_control,
  .instanceMethod ny_D_control,
  .code ny_D_control nc_D_control 3 none,
  .methodLink nR_D 184 ny_D_memory,
  .selects nR_D ny_D_memory ny_D_memory,
  .instanceMethod ny_D_memory,
  .code ny_D_memory nc_D_memory 5 none,
  .methodLink nR_D 169 ny_D_part,
  .selects nR_D ny_D_part ny_D_part,
  .instanceMethod ny_D_part,
  .code ny_D_part nc_D_part 8 none,
  .methodLink nR_L 81 ny_D_run,
  .instanceMethod ny_D_run,
  .selects nR_D ny_D_run ny_D_run,
  .code ny_D_run nc_D_run 4 (some .int),
  .methodLink nR_L 84 ny_D_look,
  .instanceMethod ny_D_look,
  .selects nR_D ny_D_look ny_D_look,
  .code ny_D_look nc_D_look 2 (some .int),
  .arrayClass .long]
theorem gw_good : GW.all goodWord = true := by decide +kernel
theorem gw_in {d : Cond} (h : d ∈ GW) : GoodIn GW (d :: GW) := goodIn_sub9 (fun w hw => (List.mem_cons.mp hw).elim (fun e => e ▸ h) id) gw_good h
theorem nu_S : ∀ w ∈ u_ws nR_S nT_S 9, w ∈ GW := by decide +kernel
theorem nu_M : ∀ w ∈ u_ws nR_M nT_M 1, w ∈ GW := by decide +kernel
theorem nu_R : ∀ w ∈ u_ws nR_R nT_R 3, w ∈ GW := by decide +kernel
theorem nu_C : ∀ w ∈ u_ws nR_C nT_C 5, w ∈ GW := by decide +kernel
theorem nu_O : ∀ w ∈ u_ws nR_O nT_O 5, w ∈ GW := by decide +kernel
theorem nu_D : ∀ w ∈ u_ws nR_D nT_D 28, w ∈ GW := by decide +kernel
def nw_S_init : List Cond := .code ny_S_init nc_S_init 1 none :: GW
def nw_S_reset : List Cond := .code ny_S_reset nc_S_reset 1 none :: GW
def nw_S_put : List Cond := .code ny_S_put nc_S_put 4 (some .int) :: GW
def nw_S_word : List Cond := .code ny_S_word nc_S_word 2 (some .int) :: GW
def nw_S_set : List Cond := .code ny_S_set nc_S_set 4 (some .int) :: GW
def nw_S_register : List Cond := .code ny_S_register nc_S_register 2 (some .int) :: GW
def nw_S_go : List Cond := .code ny_S_go nc_S_go 3 (some .int) :: GW
def nw_S_status : List Cond := .code ny_S_status nc_S_status 3 (some .int) :: GW
def nw_S_lines : List Cond := .code ny_S_lines nc_S_lines 3 (some .int) :: GW
def nw_S_step : List Cond := .code ny_S_step nc_S_step 1 (some .int) :: GW
def nw_S_run : List Cond := .code ny_S_run nc_S_run 4 (some .int) :: GW
def nw_S_look : List Cond := .code ny_S_look nc_S_look 2 (some .int) :: GW
def nw_S_isPlaceOfWord : List Cond := .code ny_S_isPlaceOfWord nc_S_isPlaceOfWord 1 (some .boolean) :: GW
def nw_S_isInMemory : List Cond := .code ny_S_isInMemory nc_S_isInMemory 1 (some .boolean) :: GW
def nw_S_continueAt : List Cond := .code ny_S_continueAt nc_S_continueAt 2 none :: GW
def nw_S_takeStep : List Cond := .code ny_S_takeStep nc_S_takeStep 2 (some .int) :: GW
def nw_S_enterException : List Cond := .code ny_S_enterException nc_S_enterException 2 none :: GW
def nw_S_finishInstruction : List Cond := .code ny_S_finishInstruction nc_S_finishInstruction 1 none :: GW
def nw_S_faultAtPc : List Cond := .code ny_S_faultAtPc nc_S_faultAtPc 1 (some .int) :: GW
def nw_S_perform : List Cond := .code ny_S_perform nc_S_perform 2 (some .int) :: GW
def nw_S_orderOf : List Cond := .code ny_S_orderOf nc_S_orderOf 1 (some .int) :: GW
def nw_S_numberS : List Cond := .code ny_S_numberS nc_S_numberS 1 (some .int) :: GW
def nw_S_numberT : List Cond := .code ny_S_numberT nc_S_numberT 1 (some .int) :: GW
def nw_S_numberD : List Cond := .code ny_S_numberD nc_S_numberD 1 (some .int) :: GW
def nw_S_numberA : List Cond := .code ny_S_numberA nc_S_numberA 1 (some .int) :: GW
def nw_S_numberK : List Cond := .code ny_S_numberK nc_S_numberK 1 (some .int) :: GW
def nw_S_numberI : List Cond := .code ny_S_numberI nc_S_numberI 1 (some .int) :: GW
def nw_S_numberU : List Cond := .code ny_S_numberU nc_S_numberU 1 (some .int) :: GW
def nw_S_valueOfS : List Cond := .code ny_S_valueOfS nc_S_valueOfS 2 (some .int) :: GW
def nw_S_valueOfT : List Cond := .code ny_S_valueOfT nc_S_valueOfT 2 (some .int) :: GW
def nw_S_withoutSign : List Cond := .code ny_S_withoutSign nc_S_withoutSign 1 (some .long) :: GW
def nw_S_give : List Cond := .code ny_S_give nc_S_give 3 (some .int) :: GW
def nw_S_giveIfExact : List Cond := .code ny_S_giveIfExact nc_S_giveIfExact 4 (some .int) :: GW
def nw_S_giveTruth : List Cond := .code ny_S_giveTruth nc_S_giveTruth 3 (some .int) :: GW
def nw_S_giveLate : List Cond := .code ny_S_giveLate nc_S_giveLate 3 (some .int) :: GW
def nw_S_branchIf : List Cond := .code ny_S_branchIf nc_S_branchIf 3 (some .int) :: GW
def nw_S_keepHighAndLow : List Cond := .code ny_S_keepHighAndLow nc_S_keepHighAndLow 3 (some .int) :: GW
def nw_S_performByK : List Cond := .code ny_S_performByK nc_S_performByK 2 (some .int) :: GW
def nw_S_performShift : List Cond := .code ny_S_performShift nc_S_performShift 5 (some .int) :: GW
def nw_S_performJumpToS : List Cond := .code ny_S_performJumpToS nc_S_performJumpToS 2 (some .int) :: GW
def nw_S_performOnTwo : List Cond := .code ny_S_performOnTwo nc_S_performOnTwo 5 (some .int) :: GW
def nw_S_performMove : List Cond := .code ny_S_performMove nc_S_performMove 2 (some .int) :: GW
def nw_S_performProduct : List Cond := .code ny_S_performProduct nc_S_performProduct 4 (some .int) :: GW
def nw_S_divide : List Cond := .code ny_S_divide nc_S_divide 4 (some .long) :: GW
def nw_S_divideWithoutSign : List Cond := .code ny_S_divideWithoutSign nc_S_divideWithoutSign 6 (some .long) :: GW
def nw_S_restAndQuotient : List Cond := .code ny_S_restAndQuotient nc_S_restAndQuotient 4 (some .long) :: GW
def nw_S_isBranch : List Cond := .code ny_S_isBranch nc_S_isBranch 2 (some .boolean) :: GW
def nw_S_isBranchBySign : List Cond := .code ny_S_isBranchBySign nc_S_isBranchBySign 2 (some .boolean) :: GW
def nw_S_performBranchBySign : List Cond := .code ny_S_performBranchBySign nc_S_performBranchBySign 5 (some .int) :: GW
def nw_S_performJump : List Cond := .code ny_S_performJump nc_S_performJump 2 (some .int) :: GW
def nw_S_performBranch : List Cond := .code ny_S_performBranch nc_S_performBranch 4 (some .int) :: GW
def nw_S_nearTarget : List Cond := .code ny_S_nearTarget nc_S_nearTarget 2 (some .int) :: GW
def nw_S_farTarget : List Cond := .code ny_S_farTarget nc_S_farTarget 2 (some .int) :: GW
def nw_S_performWithNumber : List Cond := .code ny_S_performWithNumber nc_S_performWithNumber 6 (some .int) :: GW
def nw_S_performControl : List Cond := .code ny_S_performControl nc_S_performControl 4 (some .int) :: GW
def nw_S_performLoad : List Cond := .code ny_S_performLoad nc_S_performLoad 6 (some .int) :: GW
def nw_S_joinLoaded : List Cond := .code ny_S_joinLoaded nc_S_joinLoaded 7 (some .int) :: GW
def nw_S_performStore : List Cond := .code ny_S_performStore nc_S_performStore 6 (some .int) :: GW
def nw_S_joinStored : List Cond := .code ny_S_joinStored nc_S_joinStored 7 (some .int) :: GW
def nw_S_addressOf : List Cond := .code ny_S_addressOf nc_S_addressOf 2 (some .int) :: GW
def nw_S_faultOfData : List Cond := .code ny_S_faultOfData nc_S_faultOfData 4 (some .int) :: GW
def nw_S_loadUnit : List Cond := .code ny_S_loadUnit nc_S_loadUnit 1 (some .int) :: GW
def nw_S_storeUnit : List Cond := .code ny_S_storeUnit nc_S_storeUnit 1 (some .int) :: GW
def nw_S_toLowest : List Cond := .code ny_S_toLowest nc_S_toLowest 2 (some .int) :: GW
def nw_S_bitsAhead : List Cond := .code ny_S_bitsAhead nc_S_bitsAhead 1 (some .int) :: GW
def nw_S_exchange : List Cond := .code ny_S_exchange nc_S_exchange 3 (some .int) :: GW
def nw_D_init : List Cond := .code ny_D_init nc_D_init 1 none :: GW
def nw_D_thrown : List Cond := .code ny_D_thrown nc_D_thrown 1 (some .int) :: GW
def nw_D_goes : List Cond := .code ny_D_goes nc_D_goes 2 (some .boolean) :: GW
def nw_D_reset : List Cond := .code ny_D_reset nc_D_reset 2 none :: GW
def nw_D_load : List Cond := .code ny_D_load nc_D_load 5 (some .int) :: GW
def nw_D_store : List Cond := .code ny_D_store nc_D_store 5 none :: GW
def nw_D_isWord : List Cond := .code ny_D_isWord nc_D_isWord 1 (some .boolean) :: GW
def nw_D_put : List Cond := .code ny_D_put nc_D_put 4 (some .int) :: GW
def nw_D_word : List Cond := .code ny_D_word nc_D_word 2 (some .int) :: GW
def nw_D_set : List Cond := .code ny_D_set nc_D_set 4 (some .int) :: GW
def nw_D_register : List Cond := .code ny_D_register nc_D_register 2 (some .int) :: GW
def nw_D_go : List Cond := .code ny_D_go nc_D_go 3 (some .int) :: GW
def nw_D_status : List Cond := .code ny_D_status nc_D_status 3 (some .int) :: GW
def nw_D_lines : List Cond := .code ny_D_lines nc_D_lines 3 (some .int) :: GW
def nw_D_cause : List Cond := .code ny_D_cause nc_D_cause 1 (some .int) :: GW
def nw_D_user : List Cond := .code ny_D_user nc_D_user 1 (some .boolean) :: GW
def nw_D_isBranch : List Cond := .code ny_D_isBranch nc_D_isBranch 2 (some .boolean) :: GW
def nw_D_isKnown : List Cond := .code ny_D_isKnown nc_D_isKnown 2 (some .boolean) :: GW
def nw_D_exact : List Cond := .code ny_D_exact nc_D_exact 2 (some .boolean) :: GW
def nw_D_number : List Cond := .code ny_D_number nc_D_number 1 (some .int) :: GW
def nw_D_moved : List Cond := .code ny_D_moved nc_D_moved 2 (some .int) :: GW
def nw_D_inMemory : List Cond := .code ny_D_inMemory nc_D_inMemory 3 (some .boolean) :: GW
def nw_D_isPart : List Cond := .code ny_D_isPart nc_D_isPart 1 (some .boolean) :: GW
def nw_D_addressTrouble : List Cond := .code ny_D_addressTrouble nc_D_addressTrouble 3 (some .int) :: GW
def nw_D_trouble : List Cond := .code ny_D_trouble nc_D_trouble 2 (some .int) :: GW
def nw_D_gives : List Cond := .code ny_D_gives nc_D_gives 3 none :: GW
def nw_D_less : List Cond := .code ny_D_less nc_D_less 2 (some .boolean) :: GW
def nw_D_multiply : List Cond := .code ny_D_multiply nc_D_multiply 8 none :: GW
def nw_D_divide : List Cond := .code ny_D_divide nc_D_divide 6 none :: GW
def nw_D_shifts : List Cond := .code ny_D_shifts nc_D_shifts 3 none :: GW
def nw_D_byRegisters : List Cond := .code ny_D_byRegisters nc_D_byRegisters 2 none :: GW
def nw_D_branch : List Cond := .code ny_D_branch nc_D_branch 3 none :: GW
def nw_D_byNumber : List Cond := .code ny_D_byNumber nc_D_byNumber 3 none :: GW
def nw_D_control : List Cond := .code ny_D_control nc_D_control 3 none :: GW
def nw_D_part : List Cond := .code ny_D_part nc_D_part 8 none :: GW
def nw_D_memory : List Cond := .code ny_D_memory nc_D_memory 5 none :: GW
def nw_D_act : List Cond := .code ny_D_act nc_D_act 1 none :: GW
def nw_D_settle : List Cond := .code ny_D_settle nc_D_settle 1 none :: GW
def nw_D_except : List Cond := .code ny_D_except nc_D_except 2 none :: GW
def nw_D_fetch : List Cond := .code ny_D_fetch nc_D_fetch 1 (some .int) :: GW
def nw_D_read : List Cond := .code ny_D_read nc_D_read 1 none :: GW
def nw_D_oneStep : List Cond := .code ny_D_oneStep nc_D_oneStep 2 (some .int) :: GW
def nw_D_step : List Cond := .code ny_D_step nc_D_step 1 (some .int) :: GW
def nw_D_run : List Cond := .code ny_D_run nc_D_run 4 (some .int) :: GW
def nw_D_look : List Cond := .code ny_D_look nc_D_look 2 (some .int) :: GW
def nw_C_init : List Cond := .code ny_C_init nc_C_init 1 none :: GW
def nw_C_wholeCause : List Cond := .code ny_C_wholeCause nc_C_wholeCause 1 (some .int) :: GW
def nw_C_isUser : List Cond := .code ny_C_isUser nc_C_isUser 1 (some .boolean) :: GW
def nw_C_forbids : List Cond := .code ny_C_forbids nc_C_forbids 2 (some .boolean) :: GW
def nw_C_interruptIsDue : List Cond := .code ny_C_interruptIsDue nc_C_interruptIsDue 1 (some .boolean) :: GW
def nw_C_valueOf : List Cond := .code ny_C_valueOf nc_C_valueOf 2 (some .int) :: GW
def nw_C_change : List Cond := .code ny_C_change nc_C_change 3 none :: GW
def nw_C_enter : List Cond := .code ny_C_enter nc_C_enter 4 none :: GW
def nw_C_leave : List Cond := .code ny_C_leave nc_C_leave 1 none :: GW
def nw_C_clear : List Cond := .code ny_C_clear nc_C_clear 1 none :: GW
def nw_M_init : List Cond := .code ny_M_init nc_M_init 1 none :: GW
def nw_M_wordAround : List Cond := .code ny_M_wordAround nc_M_wordAround 2 (some .int) :: GW
def nw_M_replaceWord : List Cond := .code ny_M_replaceWord nc_M_replaceWord 3 none :: GW
def nw_M_indexOf : List Cond := .code ny_M_indexOf nc_M_indexOf 1 (some .int) :: GW
def nw_O_init : List Cond := .code ny_O_init nc_O_init 1 none :: GW
def nw_O_begin : List Cond := .code ny_O_begin nc_O_begin 2 none :: GW
def nw_R_init : List Cond := .code ny_R_init nc_R_init 1 none :: GW
def nw_R_valueOf : List Cond := .code ny_R_valueOf nc_R_valueOf 2 (some .int) :: GW
def nw_R_change : List Cond := .code ny_R_change nc_R_change 3 none :: GW
def nw_R_latestOf : List Cond := .code ny_R_latestOf nc_R_latestOf 2 (some .int) :: GW
def nw_R_holdLoad : List Cond := .code ny_R_holdLoad nc_R_holdLoad 3 none :: GW
def nw_R_landLoad : List Cond := .code ny_R_landLoad nc_R_landLoad 1 none :: GW
def nw_R_dropLoad : List Cond := .code ny_R_dropLoad nc_R_dropLoad 1 none :: GW
def nw_R_clear : List Cond := .code ny_R_clear nc_R_clear 2 none :: GW
def nwS : List Cond := [.methodLinkNest nR_S 11 ny_M_init nR_S,
  .methodLinkNest nR_S 18 ny_R_init nR_S,
  .fieldLinkNest nR_S 109 "SlotCore$Registers" "waitsFor" "I" nR_S,
  .fieldLinkNest nR_S 112 "SlotCore$Registers" "waitingValue" "I" nR_S,
  .methodLinkNest nR_S 25 ny_C_init nR_S,
  .fieldLinkNest nR_S 82 "SlotCore$Control" "statusBits" "I" nR_S,
  .fieldLinkNest nR_S 89 "SlotCore$Control" "lineBits" "I" nR_S,
  .fieldLinkNest nR_S 99 "SlotCore$Control" "returnAddress" "I" nR_S,
  .fieldLinkNest nR_S 102 "SlotCore$Control" "badAddress" "I" nR_S,
  .methodLinkNest nR_S 32 ny_O_init nR_S,
  .fieldLinkNest nR_S 146 "SlotCore$Outcome" "register" "I" nR_S,
  .fieldLinkNest nR_S 149 "SlotCore$Outcome" "value" "I" nR_S,
  .fieldLinkNest nR_S 143 "SlotCore$Outcome" "isLoad" "Z" nR_S,
  .fieldLinkNest nR_S 158 "SlotCore$Outcome" "isBranch" "Z" nR_S,
  .fieldLinkNest nR_S 155 "SlotCore$Outcome" "afterNext" "I" nR_S,
  .methodLinkNest nR_S 41 ny_R_clear nR_S,
  .methodLinkNest nR_S 44 ny_C_clear nR_S,
  .methodLinkNest nR_S 79 ny_R_dropLoad nR_S,
  .methodLinkNest nR_S 85 ny_C_change nR_S,
  .methodLinkNest nR_C 37 ny_S_exchange nR_S,
  .methodLinkNest nR_S 118 ny_C_interruptIsDue nR_S,
  .methodLinkNest nR_S 135 ny_R_landLoad nR_S,
  .methodLinkNest nR_S 138 ny_C_enter nR_S,
  .methodLinkNest nR_S 161 ny_C_forbids nR_S,
  .methodLinkNest nR_S 62 ny_M_wordAround nR_S,
  .methodLinkNest nR_S 164 ny_O_begin nR_S,
  .methodLinkNest nR_S 70 ny_R_valueOf nR_S,
  .methodLinkNest nR_S 73 ny_R_change nR_S,
  .methodLinkNest nR_S 289 ny_C_isUser nR_S,
  .methodLinkNest nR_S 292 ny_C_valueOf nR_S,
  .methodLinkNest nR_S 296 ny_C_leave nR_S,
  .methodLinkNest nR_S 309 ny_R_latestOf nR_S,
  .methodLinkNest nR_S 66 ny_M_replaceWord nR_S,
  .methodLinkNest nR_S 152 ny_R_holdLoad nR_S,
  .methodLinkNest nR_S 96 ny_C_wholeCause nR_S]
theorem nwOk : nwS.all NWo = true := by decide +kernel
theorem gw_1 : (Cond.initialized nR_S) ∈ GW := List.mem_of_getElem? (i := 1) (by decide +kernel)
theorem gw_2 : (Cond.initialized nR_M) ∈ GW := List.mem_of_getElem? (i := 2) (by decide +kernel)
theorem gw_3 : (Cond.initialized nR_R) ∈ GW := List.mem_of_getElem? (i := 3) (by decide +kernel)
theorem gw_4 : (Cond.initialized nR_C) ∈ GW := List.mem_of_getElem? (i := 4) (by decide +kernel)
theorem gw_5 : (Cond.initialized nR_O) ∈ GW := List.mem_of_getElem? (i := 5) (by decide +kernel)
theorem gw_6 : (Cond.initialized nR_D) ∈ GW := List.mem_of_getElem? (i := 6) (by decide +kernel)
theorem gw_11 : (Cond.code ny_S_init nc_S_init 1 none) ∈ GW := List.mem_of_getElem? (i := 11) (by decide +kernel)
theorem gw_18 : (Cond.code ny_M_init nc_M_init 1 none) ∈ GW := List.mem_of_getElem? (i := 18) (by decide +kernel)
theorem gw_20 : (Cond.fieldLink nR_M 9 "SlotCore$Memory" "words" "[I") ∈ GW := List.mem_of_getElem? (i := 20) (by decide +kernel)
theorem gw_26 : (Cond.code ny_R_init nc_R_init 1 none) ∈ GW := List.mem_of_getElem? (i := 26) (by decide +kernel)
theorem gw_28 : (Cond.fieldLink nR_R 9 "SlotCore$Registers" "values" "[I") ∈ GW := List.mem_of_getElem? (i := 28) (by decide +kernel)
theorem gw_29 : (Cond.fieldLink nR_R 15 "SlotCore$Registers" "waitsFor" "I") ∈ GW := List.mem_of_getElem? (i := 29) (by decide +kernel)
theorem gw_30 : (Cond.fieldLink nR_R 19 "SlotCore$Registers" "waitingValue" "I") ∈ GW := List.mem_of_getElem? (i := 30) (by decide +kernel)
theorem gw_37 : (Cond.code ny_C_init nc_C_init 1 none) ∈ GW := List.mem_of_getElem? (i := 37) (by decide +kernel)
theorem gw_39 : (Cond.fieldLink nR_C 18 "SlotCore$Control" "statusBits" "I") ∈ GW := List.mem_of_getElem? (i := 39) (by decide +kernel)
theorem gw_40 : (Cond.fieldLink nR_C 9 "SlotCore$Control" "causeBits" "I") ∈ GW := List.mem_of_getElem? (i := 40) (by decide +kernel)
theorem gw_41 : (Cond.fieldLink nR_C 15 "SlotCore$Control" "lineBits" "I") ∈ GW := List.mem_of_getElem? (i := 41) (by decide +kernel)
theorem gw_42 : (Cond.fieldLink nR_C 30 "SlotCore$Control" "returnAddress" "I") ∈ GW := List.mem_of_getElem? (i := 42) (by decide +kernel)
theorem gw_43 : (Cond.fieldLink nR_C 33 "SlotCore$Control" "badAddress" "I") ∈ GW := List.mem_of_getElem? (i := 43) (by decide +kernel)
theorem gw_52 : (Cond.code ny_O_init nc_O_init 1 none) ∈ GW := List.mem_of_getElem? (i := 52) (by decide +kernel)
theorem gw_54 : (Cond.fieldLink nR_O 9 "SlotCore$Outcome" "register" "I") ∈ GW := List.mem_of_getElem? (i := 54) (by decide +kernel)
theorem gw_55 : (Cond.fieldLink nR_O 15 "SlotCore$Outcome" "isLoad" "Z") ∈ GW := List.mem_of_getElem? (i := 55) (by decide +kernel)
theorem gw_56 : (Cond.fieldLink nR_O 19 "SlotCore$Outcome" "isBranch" "Z") ∈ GW := List.mem_of_getElem? (i := 56) (by decide +kernel)
theorem gw_57 : (Cond.fieldLink nR_O 22 "SlotCore$Outcome" "afterNext" "I") ∈ GW := List.mem_of_getElem? (i := 57) (by decide +kernel)
theorem gw_63 : (Cond.fieldLink nR_S 12 "SlotCore" "memory" "LSlotCore$Memory;") ∈ GW := List.mem_of_getElem? (i := 63) (by decide +kernel)
theorem gw_64 : (Cond.fieldLink nR_S 19 "SlotCore" "registers" "LSlotCore$Registers;") ∈ GW := List.mem_of_getElem? (i := 64) (by decide +kernel)
theorem gw_65 : (Cond.fieldLink nR_S 26 "SlotCore" "control" "LSlotCore$Control;") ∈ GW := List.mem_of_getElem? (i := 65) (by decide +kernel)
theorem gw_66 : (Cond.fieldLink nR_S 33 "SlotCore" "outcome" "LSlotCore$Outcome;") ∈ GW := List.mem_of_getElem? (i := 66) (by decide +kernel)
theorem gw_67 : (Cond.fieldLink nR_S 76 "SlotCore" "pc" "I") ∈ GW := List.mem_of_getElem? (i := 67) (by decide +kernel)
theorem gw_68 : (Cond.fieldLink nR_S 37 "SlotCore" "next" "I") ∈ GW := List.mem_of_getElem? (i := 68) (by decide +kernel)
theorem gw_69 : (Cond.fieldLink nR_S 105 "SlotCore" "inSlot" "Z") ∈ GW := List.mem_of_getElem? (i := 69) (by decide +kernel)
theorem gw_70 : (Cond.fieldLink nR_S 49 "SlotCore" "steps" "I") ∈ GW := List.mem_of_getElem? (i := 70) (by decide +kernel)
theorem gw_71 : (Cond.fieldLink nR_S 52 "SlotCore" "exceptions" "I") ∈ GW := List.mem_of_getElem? (i := 71) (by decide +kernel)
theorem gw_84 : (Cond.code ny_S_reset nc_S_reset 1 none) ∈ GW := List.mem_of_getElem? (i := 84) (by decide +kernel)
theorem gw_85 : (Cond.selects nR_R ny_R_clear ny_R_clear) ∈ GW := List.mem_of_getElem? (i := 85) (by decide +kernel)
theorem gw_86 : (Cond.instanceMethod ny_R_clear) ∈ GW := List.mem_of_getElem? (i := 86) (by decide +kernel)
theorem gw_87 : (Cond.code ny_R_clear nc_R_clear 2 none) ∈ GW := List.mem_of_getElem? (i := 87) (by decide +kernel)
theorem gw_88 : (Cond.methodLink nR_R 30 ny_R_dropLoad) ∈ GW := List.mem_of_getElem? (i := 88) (by decide +kernel)
theorem gw_89 : (Cond.selects nR_R ny_R_dropLoad ny_R_dropLoad) ∈ GW := List.mem_of_getElem? (i := 89) (by decide +kernel)
theorem gw_90 : (Cond.instanceMethod ny_R_dropLoad) ∈ GW := List.mem_of_getElem? (i := 90) (by decide +kernel)
theorem gw_91 : (Cond.code ny_R_dropLoad nc_R_dropLoad 1 none) ∈ GW := List.mem_of_getElem? (i := 91) (by decide +kernel)
theorem gw_92 : (Cond.methodLink nR_R 33 ny_R_holdLoad) ∈ GW := List.mem_of_getElem? (i := 92) (by decide +kernel)
theorem gw_93 : (Cond.selects nR_R ny_R_holdLoad ny_R_holdLoad) ∈ GW := List.mem_of_getElem? (i := 93) (by decide +kernel)
theorem gw_94 : (Cond.instanceMethod ny_R_holdLoad) ∈ GW := List.mem_of_getElem? (i := 94) (by decide +kernel)
theorem gw_95 : (Cond.code ny_R_holdLoad nc_R_holdLoad 3 none) ∈ GW := List.mem_of_getElem? (i := 95) (by decide +kernel)
theorem gw_96 : (Cond.selects nR_C ny_C_clear ny_C_clear) ∈ GW := List.mem_of_getElem? (i := 96) (by decide +kernel)
theorem gw_97 : (Cond.instanceMethod ny_C_clear) ∈ GW := List.mem_of_getElem? (i := 97) (by decide +kernel)
theorem gw_98 : (Cond.code ny_C_clear nc_C_clear 1 none) ∈ GW := List.mem_of_getElem? (i := 98) (by decide +kernel)
theorem gw_99 : (Cond.methodLink nR_S 45 ny_S_continueAt) ∈ GW := List.mem_of_getElem? (i := 99) (by decide +kernel)
theorem gw_100 : (Cond.selects nR_S ny_S_continueAt ny_S_continueAt) ∈ GW := List.mem_of_getElem? (i := 100) (by decide +kernel)
theorem gw_101 : (Cond.instanceMethod ny_S_continueAt) ∈ GW := List.mem_of_getElem? (i := 101) (by decide +kernel)
theorem gw_102 : (Cond.code ny_S_continueAt nc_S_continueAt 2 none) ∈ GW := List.mem_of_getElem? (i := 102) (by decide +kernel)
theorem gw_106 : (Cond.code ny_S_go nc_S_go 3 (some .int)) ∈ GW := List.mem_of_getElem? (i := 106) (by decide +kernel)
theorem gw_110 : (Cond.code ny_S_status nc_S_status 3 (some .int)) ∈ GW := List.mem_of_getElem? (i := 110) (by decide +kernel)
theorem gw_111 : (Cond.selects nR_C ny_C_change ny_C_change) ∈ GW := List.mem_of_getElem? (i := 111) (by decide +kernel)
theorem gw_112 : (Cond.instanceMethod ny_C_change) ∈ GW := List.mem_of_getElem? (i := 112) (by decide +kernel)
theorem gw_113 : (Cond.code ny_C_change nc_C_change 3 none) ∈ GW := List.mem_of_getElem? (i := 113) (by decide +kernel)
theorem gw_114 : (Cond.constant nR_C 36 65343) ∈ GW := List.mem_of_getElem? (i := 114) (by decide +kernel)
theorem gw_115 : (Cond.static ny_S_exchange) ∈ GW := List.mem_of_getElem? (i := 115) (by decide +kernel)
theorem gw_116 : (Cond.code ny_S_exchange nc_S_exchange 3 (some .int)) ∈ GW := List.mem_of_getElem? (i := 116) (by decide +kernel)
theorem gw_120 : (Cond.code ny_S_step nc_S_step 1 (some .int)) ∈ GW := List.mem_of_getElem? (i := 120) (by decide +kernel)
theorem gw_121 : (Cond.methodLink nR_S 92 ny_S_takeStep) ∈ GW := List.mem_of_getElem? (i := 121) (by decide +kernel)
theorem gw_122 : (Cond.selects nR_S ny_S_takeStep ny_S_takeStep) ∈ GW := List.mem_of_getElem? (i := 122) (by decide +kernel)
theorem gw_123 : (Cond.instanceMethod ny_S_takeStep) ∈ GW := List.mem_of_getElem? (i := 123) (by decide +kernel)
theorem gw_124 : (Cond.code ny_S_takeStep nc_S_takeStep 2 (some .int)) ∈ GW := List.mem_of_getElem? (i := 124) (by decide +kernel)
theorem gw_125 : (Cond.selects nR_C ny_C_interruptIsDue ny_C_interruptIsDue) ∈ GW := List.mem_of_getElem? (i := 125) (by decide +kernel)
theorem gw_126 : (Cond.instanceMethod ny_C_interruptIsDue) ∈ GW := List.mem_of_getElem? (i := 126) (by decide +kernel)
theorem gw_127 : (Cond.code ny_C_interruptIsDue nc_C_interruptIsDue 1 (some .boolean)) ∈ GW := List.mem_of_getElem? (i := 127) (by decide +kernel)
theorem gw_128 : (Cond.methodLink nR_C 25 ny_C_wholeCause) ∈ GW := List.mem_of_getElem? (i := 128) (by decide +kernel)
theorem gw_129 : (Cond.selects nR_C ny_C_wholeCause ny_C_wholeCause) ∈ GW := List.mem_of_getElem? (i := 129) (by decide +kernel)
theorem gw_130 : (Cond.instanceMethod ny_C_wholeCause) ∈ GW := List.mem_of_getElem? (i := 130) (by decide +kernel)
theorem gw_131 : (Cond.code ny_C_wholeCause nc_C_wholeCause 1 (some .int)) ∈ GW := List.mem_of_getElem? (i := 131) (by decide +kernel)
theorem gw_132 : (Cond.constant nR_C 29 65280) ∈ GW := List.mem_of_getElem? (i := 132) (by decide +kernel)
theorem gw_133 : (Cond.methodLink nR_S 122 ny_S_enterException) ∈ GW := List.mem_of_getElem? (i := 133) (by decide +kernel)
theorem gw_134 : (Cond.selects nR_S ny_S_enterException ny_S_enterException) ∈ GW := List.mem_of_getElem? (i := 134) (by decide +kernel)
theorem gw_135 : (Cond.instanceMethod ny_S_enterException) ∈ GW := List.mem_of_getElem? (i := 135) (by decide +kernel)
theorem gw_136 : (Cond.code ny_S_enterException nc_S_enterException 2 none) ∈ GW := List.mem_of_getElem? (i := 136) (by decide +kernel)
theorem gw_137 : (Cond.selects nR_R ny_R_landLoad ny_R_landLoad) ∈ GW := List.mem_of_getElem? (i := 137) (by decide +kernel)
theorem gw_138 : (Cond.instanceMethod ny_R_landLoad) ∈ GW := List.mem_of_getElem? (i := 138) (by decide +kernel)
theorem gw_139 : (Cond.code ny_R_landLoad nc_R_landLoad 1 none) ∈ GW := List.mem_of_getElem? (i := 139) (by decide +kernel)
theorem gw_140 : (Cond.methodLink nR_R 26 ny_R_change) ∈ GW := List.mem_of_getElem? (i := 140) (by decide +kernel)
theorem gw_141 : (Cond.selects nR_R ny_R_change ny_R_change) ∈ GW := List.mem_of_getElem? (i := 141) (by decide +kernel)
theorem gw_142 : (Cond.instanceMethod ny_R_change) ∈ GW := List.mem_of_getElem? (i := 142) (by decide +kernel)
theorem gw_143 : (Cond.code ny_R_change nc_R_change 3 none) ∈ GW := List.mem_of_getElem? (i := 143) (by decide +kernel)
theorem gw_144 : (Cond.selects nR_C ny_C_enter ny_C_enter) ∈ GW := List.mem_of_getElem? (i := 144) (by decide +kernel)
theorem gw_145 : (Cond.instanceMethod ny_C_enter) ∈ GW := List.mem_of_getElem? (i := 145) (by decide +kernel)
theorem gw_146 : (Cond.code ny_C_enter nc_C_enter 4 none) ∈ GW := List.mem_of_getElem? (i := 146) (by decide +kernel)
theorem gw_147 : (Cond.constant nR_C 41 (-2147483648)) ∈ GW := List.mem_of_getElem? (i := 147) (by decide +kernel)
theorem gw_148 : (Cond.constant nR_S 142 (-2147483520)) ∈ GW := List.mem_of_getElem? (i := 148) (by decide +kernel)
theorem gw_149 : (Cond.methodLink nR_S 125 ny_S_faultAtPc) ∈ GW := List.mem_of_getElem? (i := 149) (by decide +kernel)
theorem gw_150 : (Cond.selects nR_S ny_S_faultAtPc ny_S_faultAtPc) ∈ GW := List.mem_of_getElem? (i := 150) (by decide +kernel)
theorem gw_151 : (Cond.instanceMethod ny_S_faultAtPc) ∈ GW := List.mem_of_getElem? (i := 151) (by decide +kernel)
theorem gw_152 : (Cond.code ny_S_faultAtPc nc_S_faultAtPc 1 (some .int)) ∈ GW := List.mem_of_getElem? (i := 152) (by decide +kernel)
theorem gw_153 : (Cond.selects nR_C ny_C_forbids ny_C_forbids) ∈ GW := List.mem_of_getElem? (i := 153) (by decide +kernel)
theorem gw_154 : (Cond.instanceMethod ny_C_forbids) ∈ GW := List.mem_of_getElem? (i := 154) (by decide +kernel)
theorem gw_155 : (Cond.code ny_C_forbids nc_C_forbids 2 (some .boolean)) ∈ GW := List.mem_of_getElem? (i := 155) (by decide +kernel)
theorem gw_156 : (Cond.methodLink nR_C 21 ny_C_isUser) ∈ GW := List.mem_of_getElem? (i := 156) (by decide +kernel)
theorem gw_157 : (Cond.selects nR_C ny_C_isUser ny_C_isUser) ∈ GW := List.mem_of_getElem? (i := 157) (by decide +kernel)
theorem gw_158 : (Cond.instanceMethod ny_C_isUser) ∈ GW := List.mem_of_getElem? (i := 158) (by decide +kernel)
theorem gw_159 : (Cond.code ny_C_isUser nc_C_isUser 1 (some .boolean)) ∈ GW := List.mem_of_getElem? (i := 159) (by decide +kernel)
theorem gw_160 : (Cond.constant nR_S 128 536870911) ∈ GW := List.mem_of_getElem? (i := 160) (by decide +kernel)
theorem gw_161 : (Cond.methodLink nR_S 115 ny_S_isInMemory) ∈ GW := List.mem_of_getElem? (i := 161) (by decide +kernel)
theorem gw_162 : (Cond.static ny_S_isInMemory) ∈ GW := List.mem_of_getElem? (i := 162) (by decide +kernel)
theorem gw_163 : (Cond.code ny_S_isInMemory nc_S_isInMemory 1 (some .boolean)) ∈ GW := List.mem_of_getElem? (i := 163) (by decide +kernel)
theorem gw_164 : (Cond.selects nR_M ny_M_wordAround ny_M_wordAround) ∈ GW := List.mem_of_getElem? (i := 164) (by decide +kernel)
theorem gw_165 : (Cond.instanceMethod ny_M_wordAround) ∈ GW := List.mem_of_getElem? (i := 165) (by decide +kernel)
theorem gw_166 : (Cond.code ny_M_wordAround nc_M_wordAround 2 (some .int)) ∈ GW := List.mem_of_getElem? (i := 166) (by decide +kernel)
theorem gw_167 : (Cond.methodLink nR_M 15 ny_M_indexOf) ∈ GW := List.mem_of_getElem? (i := 167) (by decide +kernel)
theorem gw_168 : (Cond.static ny_M_indexOf) ∈ GW := List.mem_of_getElem? (i := 168) (by decide +kernel)
theorem gw_169 : (Cond.code ny_M_indexOf nc_M_indexOf 1 (some .int)) ∈ GW := List.mem_of_getElem? (i := 169) (by decide +kernel)
theorem gw_170 : (Cond.methodLink nR_S 129 ny_S_perform) ∈ GW := List.mem_of_getElem? (i := 170) (by decide +kernel)
theorem gw_171 : (Cond.selects nR_S ny_S_perform ny_S_perform) ∈ GW := List.mem_of_getElem? (i := 171) (by decide +kernel)
theorem gw_172 : (Cond.instanceMethod ny_S_perform) ∈ GW := List.mem_of_getElem? (i := 172) (by decide +kernel)
theorem gw_173 : (Cond.code ny_S_perform nc_S_perform 2 (some .int)) ∈ GW := List.mem_of_getElem? (i := 173) (by decide +kernel)
theorem gw_174 : (Cond.selects nR_O ny_O_begin ny_O_begin) ∈ GW := List.mem_of_getElem? (i := 174) (by decide +kernel)
theorem gw_175 : (Cond.instanceMethod ny_O_begin) ∈ GW := List.mem_of_getElem? (i := 175) (by decide +kernel)
theorem gw_176 : (Cond.code ny_O_begin nc_O_begin 2 none) ∈ GW := List.mem_of_getElem? (i := 176) (by decide +kernel)
theorem gw_177 : (Cond.methodLink nR_S 167 ny_S_isBranch) ∈ GW := List.mem_of_getElem? (i := 177) (by decide +kernel)
theorem gw_178 : (Cond.static ny_S_isBranch) ∈ GW := List.mem_of_getElem? (i := 178) (by decide +kernel)
theorem gw_179 : (Cond.code ny_S_isBranch nc_S_isBranch 2 (some .boolean)) ∈ GW := List.mem_of_getElem? (i := 179) (by decide +kernel)
theorem gw_180 : (Cond.methodLink nR_S 169 ny_S_orderOf) ∈ GW := List.mem_of_getElem? (i := 180) (by decide +kernel)
theorem gw_181 : (Cond.static ny_S_orderOf) ∈ GW := List.mem_of_getElem? (i := 181) (by decide +kernel)
theorem gw_182 : (Cond.code ny_S_orderOf nc_S_orderOf 1 (some .int)) ∈ GW := List.mem_of_getElem? (i := 182) (by decide +kernel)
theorem gw_183 : (Cond.methodLink nR_S 209 ny_S_numberK) ∈ GW := List.mem_of_getElem? (i := 183) (by decide +kernel)
theorem gw_184 : (Cond.static ny_S_numberK) ∈ GW := List.mem_of_getElem? (i := 184) (by decide +kernel)
theorem gw_185 : (Cond.code ny_S_numberK nc_S_numberK 1 (some .int)) ∈ GW := List.mem_of_getElem? (i := 185) (by decide +kernel)
theorem gw_186 : (Cond.methodLink nR_S 272 ny_S_isBranchBySign) ∈ GW := List.mem_of_getElem? (i := 186) (by decide +kernel)
theorem gw_187 : (Cond.static ny_S_isBranchBySign) ∈ GW := List.mem_of_getElem? (i := 187) (by decide +kernel)
theorem gw_188 : (Cond.code ny_S_isBranchBySign nc_S_isBranchBySign 2 (some .boolean)) ∈ GW := List.mem_of_getElem? (i := 188) (by decide +kernel)
theorem gw_189 : (Cond.methodLink nR_S 200 ny_S_numberT) ∈ GW := List.mem_of_getElem? (i := 189) (by decide +kernel)
theorem gw_190 : (Cond.static ny_S_numberT) ∈ GW := List.mem_of_getElem? (i := 190) (by decide +kernel)
theorem gw_191 : (Cond.code ny_S_numberT nc_S_numberT 1 (some .int)) ∈ GW := List.mem_of_getElem? (i := 191) (by decide +kernel)
theorem gw_192 : (Cond.methodLink nR_S 172 ny_S_performByK) ∈ GW := List.mem_of_getElem? (i := 192) (by decide +kernel)
theorem gw_193 : (Cond.selects nR_S ny_S_performByK ny_S_performByK) ∈ GW := List.mem_of_getElem? (i := 193) (by decide +kernel)
theorem gw_194 : (Cond.instanceMethod ny_S_performByK) ∈ GW := List.mem_of_getElem? (i := 194) (by decide +kernel)
theorem gw_195 : (Cond.code ny_S_performByK nc_S_performByK 2 (some .int)) ∈ GW := List.mem_of_getElem? (i := 195) (by decide +kernel)
theorem gw_196 : (Cond.methodLink nR_S 212 ny_S_performShift) ∈ GW := List.mem_of_getElem? (i := 196) (by decide +kernel)
theorem gw_197 : (Cond.selects nR_S ny_S_performShift ny_S_performShift) ∈ GW := List.mem_of_getElem? (i := 197) (by decide +kernel)
theorem gw_198 : (Cond.instanceMethod ny_S_performShift) ∈ GW := List.mem_of_getElem? (i := 198) (by decide +kernel)
theorem gw_199 : (Cond.code ny_S_performShift nc_S_performShift 5 (some .int)) ∈ GW := List.mem_of_getElem? (i := 199) (by decide +kernel)
theorem gw_200 : (Cond.methodLink nR_S 227 ny_S_valueOfT) ∈ GW := List.mem_of_getElem? (i := 200) (by decide +kernel)
theorem gw_201 : (Cond.selects nR_S ny_S_valueOfT ny_S_valueOfT) ∈ GW := List.mem_of_getElem? (i := 201) (by decide +kernel)
theorem gw_202 : (Cond.instanceMethod ny_S_valueOfT) ∈ GW := List.mem_of_getElem? (i := 202) (by decide +kernel)
theorem gw_203 : (Cond.code ny_S_valueOfT nc_S_valueOfT 2 (some .int)) ∈ GW := List.mem_of_getElem? (i := 203) (by decide +kernel)
theorem gw_204 : (Cond.selects nR_R ny_R_valueOf ny_R_valueOf) ∈ GW := List.mem_of_getElem? (i := 204) (by decide +kernel)
theorem gw_205 : (Cond.instanceMethod ny_R_valueOf) ∈ GW := List.mem_of_getElem? (i := 205) (by decide +kernel)
theorem gw_206 : (Cond.code ny_R_valueOf nc_R_valueOf 2 (some .int)) ∈ GW := List.mem_of_getElem? (i := 206) (by decide +kernel)
theorem gw_207 : (Cond.methodLink nR_S 230 ny_S_numberD) ∈ GW := List.mem_of_getElem? (i := 207) (by decide +kernel)
theorem gw_208 : (Cond.static ny_S_numberD) ∈ GW := List.mem_of_getElem? (i := 208) (by decide +kernel)
theorem gw_209 : (Cond.code ny_S_numberD nc_S_numberD 1 (some .int)) ∈ GW := List.mem_of_getElem? (i := 209) (by decide +kernel)
theorem gw_210 : (Cond.methodLink nR_S 233 ny_S_valueOfS) ∈ GW := List.mem_of_getElem? (i := 210) (by decide +kernel)
theorem gw_211 : (Cond.selects nR_S ny_S_valueOfS ny_S_valueOfS) ∈ GW := List.mem_of_getElem? (i := 211) (by decide +kernel)
theorem gw_212 : (Cond.instanceMethod ny_S_valueOfS) ∈ GW := List.mem_of_getElem? (i := 212) (by decide +kernel)
theorem gw_213 : (Cond.code ny_S_valueOfS nc_S_valueOfS 2 (some .int)) ∈ GW := List.mem_of_getElem? (i := 213) (by decide +kernel)
theorem gw_214 : (Cond.methodLink nR_S 197 ny_S_numberS) ∈ GW := List.mem_of_getElem? (i := 214) (by decide +kernel)
theorem gw_215 : (Cond.static ny_S_numberS) ∈ GW := List.mem_of_getElem? (i := 215) (by decide +kernel)
theorem gw_216 : (Cond.code ny_S_numberS nc_S_numberS 1 (some .int)) ∈ GW := List.mem_of_getElem? (i := 216) (by decide +kernel)
theorem gw_217 : (Cond.methodLink nR_S 236 ny_S_numberA) ∈ GW := List.mem_of_getElem? (i := 217) (by decide +kernel)
theorem gw_218 : (Cond.static ny_S_numberA) ∈ GW := List.mem_of_getElem? (i := 218) (by decide +kernel)
theorem gw_219 : (Cond.code ny_S_numberA nc_S_numberA 1 (some .int)) ∈ GW := List.mem_of_getElem? (i := 219) (by decide +kernel)
theorem gw_220 : (Cond.methodLink nR_S 205 ny_S_give) ∈ GW := List.mem_of_getElem? (i := 220) (by decide +kernel)
theorem gw_221 : (Cond.selects nR_S ny_S_give ny_S_give) ∈ GW := List.mem_of_getElem? (i := 221) (by decide +kernel)
theorem gw_222 : (Cond.instanceMethod ny_S_give) ∈ GW := List.mem_of_getElem? (i := 222) (by decide +kernel)
theorem gw_223 : (Cond.code ny_S_give nc_S_give 3 (some .int)) ∈ GW := List.mem_of_getElem? (i := 223) (by decide +kernel)
theorem gw_224 : (Cond.methodLink nR_S 215 ny_S_performJumpToS) ∈ GW := List.mem_of_getElem? (i := 224) (by decide +kernel)
theorem gw_225 : (Cond.selects nR_S ny_S_performJumpToS ny_S_performJumpToS) ∈ GW := List.mem_of_getElem? (i := 225) (by decide +kernel)
theorem gw_226 : (Cond.instanceMethod ny_S_performJumpToS) ∈ GW := List.mem_of_getElem? (i := 226) (by decide +kernel)
theorem gw_227 : (Cond.code ny_S_performJumpToS nc_S_performJumpToS 2 (some .int)) ∈ GW := List.mem_of_getElem? (i := 227) (by decide +kernel)
theorem gw_228 : (Cond.methodLink nR_S 239 ny_S_branchIf) ∈ GW := List.mem_of_getElem? (i := 228) (by decide +kernel)
theorem gw_229 : (Cond.selects nR_S ny_S_branchIf ny_S_branchIf) ∈ GW := List.mem_of_getElem? (i := 229) (by decide +kernel)
theorem gw_230 : (Cond.instanceMethod ny_S_branchIf) ∈ GW := List.mem_of_getElem? (i := 230) (by decide +kernel)
theorem gw_231 : (Cond.code ny_S_branchIf nc_S_branchIf 3 (some .int)) ∈ GW := List.mem_of_getElem? (i := 231) (by decide +kernel)
theorem gw_232 : (Cond.methodLink nR_S 218 ny_S_performMove) ∈ GW := List.mem_of_getElem? (i := 232) (by decide +kernel)
theorem gw_233 : (Cond.selects nR_S ny_S_performMove ny_S_performMove) ∈ GW := List.mem_of_getElem? (i := 233) (by decide +kernel)
theorem gw_234 : (Cond.instanceMethod ny_S_performMove) ∈ GW := List.mem_of_getElem? (i := 234) (by decide +kernel)
theorem gw_235 : (Cond.code ny_S_performMove nc_S_performMove 2 (some .int)) ∈ GW := List.mem_of_getElem? (i := 235) (by decide +kernel)
theorem gw_236 : (Cond.methodLink nR_S 221 ny_S_performProduct) ∈ GW := List.mem_of_getElem? (i := 236) (by decide +kernel)
theorem gw_237 : (Cond.selects nR_S ny_S_performProduct ny_S_performProduct) ∈ GW := List.mem_of_getElem? (i := 237) (by decide +kernel)
theorem gw_238 : (Cond.instanceMethod ny_S_performProduct) ∈ GW := List.mem_of_getElem? (i := 238) (by decide +kernel)
theorem gw_239 : (Cond.code ny_S_performProduct nc_S_performProduct 4 (some .int)) ∈ GW := List.mem_of_getElem? (i := 239) (by decide +kernel)
theorem gw_240 : (Cond.methodLink nR_S 255 ny_S_keepHighAndLow) ∈ GW := List.mem_of_getElem? (i := 240) (by decide +kernel)
theorem gw_241 : (Cond.selects nR_S ny_S_keepHighAndLow ny_S_keepHighAndLow) ∈ GW := List.mem_of_getElem? (i := 241) (by decide +kernel)
theorem gw_242 : (Cond.instanceMethod ny_S_keepHighAndLow) ∈ GW := List.mem_of_getElem? (i := 242) (by decide +kernel)
theorem gw_243 : (Cond.code ny_S_keepHighAndLow nc_S_keepHighAndLow 3 (some .int)) ∈ GW := List.mem_of_getElem? (i := 243) (by decide +kernel)
theorem gw_244 : (Cond.methodLink nR_S 251 ny_S_withoutSign) ∈ GW := List.mem_of_getElem? (i := 244) (by decide +kernel)
theorem gw_245 : (Cond.static ny_S_withoutSign) ∈ GW := List.mem_of_getElem? (i := 245) (by decide +kernel)
theorem gw_246 : (Cond.code ny_S_withoutSign nc_S_withoutSign 1 (some .long)) ∈ GW := List.mem_of_getElem? (i := 246) (by decide +kernel)
theorem gw_247 : (Cond.constantLong nR_S 203 4294967295) ∈ GW := List.mem_of_getElem? (i := 247) (by decide +kernel)
theorem gw_248 : (Cond.methodLink nR_S 259 ny_S_divide) ∈ GW := List.mem_of_getElem? (i := 248) (by decide +kernel)
theorem gw_249 : (Cond.static ny_S_divide) ∈ GW := List.mem_of_getElem? (i := 249) (by decide +kernel)
theorem gw_250 : (Cond.code ny_S_divide nc_S_divide 4 (some .long)) ∈ GW := List.mem_of_getElem? (i := 250) (by decide +kernel)
theorem gw_251 : (Cond.constantLong nR_S 266 (-1)) ∈ GW := List.mem_of_getElem? (i := 251) (by decide +kernel)
theorem gw_252 : (Cond.methodLink nR_S 268 ny_S_restAndQuotient) ∈ GW := List.mem_of_getElem? (i := 252) (by decide +kernel)
theorem gw_253 : (Cond.static ny_S_restAndQuotient) ∈ GW := List.mem_of_getElem? (i := 253) (by decide +kernel)
theorem gw_254 : (Cond.code ny_S_restAndQuotient nc_S_restAndQuotient 4 (some .long)) ∈ GW := List.mem_of_getElem? (i := 254) (by decide +kernel)
theorem gw_255 : (Cond.methodLink nR_S 263 ny_S_divideWithoutSign) ∈ GW := List.mem_of_getElem? (i := 255) (by decide +kernel)
theorem gw_256 : (Cond.static ny_S_divideWithoutSign) ∈ GW := List.mem_of_getElem? (i := 256) (by decide +kernel)
theorem gw_257 : (Cond.code ny_S_divideWithoutSign nc_S_divideWithoutSign 6 (some .long)) ∈ GW := List.mem_of_getElem? (i := 257) (by decide +kernel)
theorem gw_258 : (Cond.methodLink nR_S 224 ny_S_performOnTwo) ∈ GW := List.mem_of_getElem? (i := 258) (by decide +kernel)
theorem gw_259 : (Cond.selects nR_S ny_S_performOnTwo ny_S_performOnTwo) ∈ GW := List.mem_of_getElem? (i := 259) (by decide +kernel)
theorem gw_260 : (Cond.instanceMethod ny_S_performOnTwo) ∈ GW := List.mem_of_getElem? (i := 260) (by decide +kernel)
theorem gw_261 : (Cond.code ny_S_performOnTwo nc_S_performOnTwo 5 (some .int)) ∈ GW := List.mem_of_getElem? (i := 261) (by decide +kernel)
theorem gw_262 : (Cond.methodLink nR_S 243 ny_S_giveIfExact) ∈ GW := List.mem_of_getElem? (i := 262) (by decide +kernel)
theorem gw_263 : (Cond.selects nR_S ny_S_giveIfExact ny_S_giveIfExact) ∈ GW := List.mem_of_getElem? (i := 263) (by decide +kernel)
theorem gw_264 : (Cond.instanceMethod ny_S_giveIfExact) ∈ GW := List.mem_of_getElem? (i := 264) (by decide +kernel)
theorem gw_265 : (Cond.code ny_S_giveIfExact nc_S_giveIfExact 4 (some .int)) ∈ GW := List.mem_of_getElem? (i := 265) (by decide +kernel)
theorem gw_266 : (Cond.methodLink nR_S 247 ny_S_giveTruth) ∈ GW := List.mem_of_getElem? (i := 266) (by decide +kernel)
theorem gw_267 : (Cond.selects nR_S ny_S_giveTruth ny_S_giveTruth) ∈ GW := List.mem_of_getElem? (i := 267) (by decide +kernel)
theorem gw_268 : (Cond.instanceMethod ny_S_giveTruth) ∈ GW := List.mem_of_getElem? (i := 268) (by decide +kernel)
theorem gw_269 : (Cond.code ny_S_giveTruth nc_S_giveTruth 3 (some .int)) ∈ GW := List.mem_of_getElem? (i := 269) (by decide +kernel)
theorem gw_270 : (Cond.methodLink nR_S 175 ny_S_performBranchBySign) ∈ GW := List.mem_of_getElem? (i := 270) (by decide +kernel)
theorem gw_271 : (Cond.selects nR_S ny_S_performBranchBySign ny_S_performBranchBySign) ∈ GW := List.mem_of_getElem? (i := 271) (by decide +kernel)
theorem gw_272 : (Cond.instanceMethod ny_S_performBranchBySign) ∈ GW := List.mem_of_getElem? (i := 272) (by decide +kernel)
theorem gw_273 : (Cond.code ny_S_performBranchBySign nc_S_performBranchBySign 5 (some .int)) ∈ GW := List.mem_of_getElem? (i := 273) (by decide +kernel)
theorem gw_274 : (Cond.methodLink nR_S 275 ny_S_nearTarget) ∈ GW := List.mem_of_getElem? (i := 274) (by decide +kernel)
theorem gw_275 : (Cond.selects nR_S ny_S_nearTarget ny_S_nearTarget) ∈ GW := List.mem_of_getElem? (i := 275) (by decide +kernel)
theorem gw_276 : (Cond.instanceMethod ny_S_nearTarget) ∈ GW := List.mem_of_getElem? (i := 276) (by decide +kernel)
theorem gw_277 : (Cond.code ny_S_nearTarget nc_S_nearTarget 2 (some .int)) ∈ GW := List.mem_of_getElem? (i := 277) (by decide +kernel)
theorem gw_278 : (Cond.methodLink nR_S 281 ny_S_numberI) ∈ GW := List.mem_of_getElem? (i := 278) (by decide +kernel)
theorem gw_279 : (Cond.static ny_S_numberI) ∈ GW := List.mem_of_getElem? (i := 279) (by decide +kernel)
theorem gw_280 : (Cond.code ny_S_numberI nc_S_numberI 1 (some .int)) ∈ GW := List.mem_of_getElem? (i := 280) (by decide +kernel)
theorem gw_281 : (Cond.methodLink nR_S 178 ny_S_performJump) ∈ GW := List.mem_of_getElem? (i := 281) (by decide +kernel)
theorem gw_282 : (Cond.selects nR_S ny_S_performJump ny_S_performJump) ∈ GW := List.mem_of_getElem? (i := 282) (by decide +kernel)
theorem gw_283 : (Cond.instanceMethod ny_S_performJump) ∈ GW := List.mem_of_getElem? (i := 283) (by decide +kernel)
theorem gw_284 : (Cond.code ny_S_performJump nc_S_performJump 2 (some .int)) ∈ GW := List.mem_of_getElem? (i := 284) (by decide +kernel)
theorem gw_285 : (Cond.methodLink nR_S 278 ny_S_farTarget) ∈ GW := List.mem_of_getElem? (i := 285) (by decide +kernel)
theorem gw_286 : (Cond.selects nR_S ny_S_farTarget ny_S_farTarget) ∈ GW := List.mem_of_getElem? (i := 286) (by decide +kernel)
theorem gw_287 : (Cond.instanceMethod ny_S_farTarget) ∈ GW := List.mem_of_getElem? (i := 287) (by decide +kernel)
theorem gw_288 : (Cond.code ny_S_farTarget nc_S_farTarget 2 (some .int)) ∈ GW := List.mem_of_getElem? (i := 288) (by decide +kernel)
theorem gw_289 : (Cond.constant nR_S 284 (-268435456)) ∈ GW := List.mem_of_getElem? (i := 289) (by decide +kernel)
theorem gw_290 : (Cond.constant nR_S 285 268435455) ∈ GW := List.mem_of_getElem? (i := 290) (by decide +kernel)
theorem gw_291 : (Cond.methodLink nR_S 181 ny_S_performBranch) ∈ GW := List.mem_of_getElem? (i := 291) (by decide +kernel)
theorem gw_292 : (Cond.selects nR_S ny_S_performBranch ny_S_performBranch) ∈ GW := List.mem_of_getElem? (i := 292) (by decide +kernel)
theorem gw_293 : (Cond.instanceMethod ny_S_performBranch) ∈ GW := List.mem_of_getElem? (i := 293) (by decide +kernel)
theorem gw_294 : (Cond.code ny_S_performBranch nc_S_performBranch 4 (some .int)) ∈ GW := List.mem_of_getElem? (i := 294) (by decide +kernel)
theorem gw_295 : (Cond.methodLink nR_S 184 ny_S_performWithNumber) ∈ GW := List.mem_of_getElem? (i := 295) (by decide +kernel)
theorem gw_296 : (Cond.selects nR_S ny_S_performWithNumber ny_S_performWithNumber) ∈ GW := List.mem_of_getElem? (i := 296) (by decide +kernel)
theorem gw_297 : (Cond.instanceMethod ny_S_performWithNumber) ∈ GW := List.mem_of_getElem? (i := 297) (by decide +kernel)
theorem gw_298 : (Cond.code ny_S_performWithNumber nc_S_performWithNumber 6 (some .int)) ∈ GW := List.mem_of_getElem? (i := 298) (by decide +kernel)
theorem gw_299 : (Cond.methodLink nR_S 286 ny_S_numberU) ∈ GW := List.mem_of_getElem? (i := 299) (by decide +kernel)
theorem gw_300 : (Cond.static ny_S_numberU) ∈ GW := List.mem_of_getElem? (i := 300) (by decide +kernel)
theorem gw_301 : (Cond.code ny_S_numberU nc_S_numberU 1 (some .int)) ∈ GW := List.mem_of_getElem? (i := 301) (by decide +kernel)
theorem gw_302 : (Cond.constant nR_S 196 65535) ∈ GW := List.mem_of_getElem? (i := 302) (by decide +kernel)
theorem gw_303 : (Cond.methodLink nR_S 187 ny_S_performControl) ∈ GW := List.mem_of_getElem? (i := 303) (by decide +kernel)
theorem gw_304 : (Cond.selects nR_S ny_S_performControl ny_S_performControl) ∈ GW := List.mem_of_getElem? (i := 304) (by decide +kernel)
theorem gw_305 : (Cond.instanceMethod ny_S_performControl) ∈ GW := List.mem_of_getElem? (i := 305) (by decide +kernel)
theorem gw_306 : (Cond.code ny_S_performControl nc_S_performControl 4 (some .int)) ∈ GW := List.mem_of_getElem? (i := 306) (by decide +kernel)
theorem gw_307 : (Cond.selects nR_C ny_C_valueOf ny_C_valueOf) ∈ GW := List.mem_of_getElem? (i := 307) (by decide +kernel)
theorem gw_308 : (Cond.instanceMethod ny_C_valueOf) ∈ GW := List.mem_of_getElem? (i := 308) (by decide +kernel)
theorem gw_309 : (Cond.code ny_C_valueOf nc_C_valueOf 2 (some .int)) ∈ GW := List.mem_of_getElem? (i := 309) (by decide +kernel)
theorem gw_310 : (Cond.methodLink nR_S 293 ny_S_giveLate) ∈ GW := List.mem_of_getElem? (i := 310) (by decide +kernel)
theorem gw_311 : (Cond.selects nR_S ny_S_giveLate ny_S_giveLate) ∈ GW := List.mem_of_getElem? (i := 311) (by decide +kernel)
theorem gw_312 : (Cond.instanceMethod ny_S_giveLate) ∈ GW := List.mem_of_getElem? (i := 312) (by decide +kernel)
theorem gw_313 : (Cond.code ny_S_giveLate nc_S_giveLate 3 (some .int)) ∈ GW := List.mem_of_getElem? (i := 313) (by decide +kernel)
theorem gw_314 : (Cond.selects nR_C ny_C_leave ny_C_leave) ∈ GW := List.mem_of_getElem? (i := 314) (by decide +kernel)
theorem gw_315 : (Cond.instanceMethod ny_C_leave) ∈ GW := List.mem_of_getElem? (i := 315) (by decide +kernel)
theorem gw_316 : (Cond.code ny_C_leave nc_C_leave 1 none) ∈ GW := List.mem_of_getElem? (i := 316) (by decide +kernel)
theorem gw_317 : (Cond.methodLink nR_S 190 ny_S_performLoad) ∈ GW := List.mem_of_getElem? (i := 317) (by decide +kernel)
theorem gw_318 : (Cond.selects nR_S ny_S_performLoad ny_S_performLoad) ∈ GW := List.mem_of_getElem? (i := 318) (by decide +kernel)
theorem gw_319 : (Cond.instanceMethod ny_S_performLoad) ∈ GW := List.mem_of_getElem? (i := 319) (by decide +kernel)
theorem gw_320 : (Cond.code ny_S_performLoad nc_S_performLoad 6 (some .int)) ∈ GW := List.mem_of_getElem? (i := 320) (by decide +kernel)
theorem gw_321 : (Cond.methodLink nR_S 299 ny_S_addressOf) ∈ GW := List.mem_of_getElem? (i := 321) (by decide +kernel)
theorem gw_322 : (Cond.selects nR_S ny_S_addressOf ny_S_addressOf) ∈ GW := List.mem_of_getElem? (i := 322) (by decide +kernel)
theorem gw_323 : (Cond.instanceMethod ny_S_addressOf) ∈ GW := List.mem_of_getElem? (i := 323) (by decide +kernel)
theorem gw_324 : (Cond.code ny_S_addressOf nc_S_addressOf 2 (some .int)) ∈ GW := List.mem_of_getElem? (i := 324) (by decide +kernel)
theorem gw_325 : (Cond.methodLink nR_S 302 ny_S_loadUnit) ∈ GW := List.mem_of_getElem? (i := 325) (by decide +kernel)
theorem gw_326 : (Cond.static ny_S_loadUnit) ∈ GW := List.mem_of_getElem? (i := 326) (by decide +kernel)
theorem gw_327 : (Cond.code ny_S_loadUnit nc_S_loadUnit 1 (some .int)) ∈ GW := List.mem_of_getElem? (i := 327) (by decide +kernel)
theorem gw_328 : (Cond.methodLink nR_S 305 ny_S_faultOfData) ∈ GW := List.mem_of_getElem? (i := 328) (by decide +kernel)
theorem gw_329 : (Cond.selects nR_S ny_S_faultOfData ny_S_faultOfData) ∈ GW := List.mem_of_getElem? (i := 329) (by decide +kernel)
theorem gw_330 : (Cond.instanceMethod ny_S_faultOfData) ∈ GW := List.mem_of_getElem? (i := 330) (by decide +kernel)
theorem gw_331 : (Cond.code ny_S_faultOfData nc_S_faultOfData 4 (some .int)) ∈ GW := List.mem_of_getElem? (i := 331) (by decide +kernel)
theorem gw_332 : (Cond.selects nR_R ny_R_latestOf ny_R_latestOf) ∈ GW := List.mem_of_getElem? (i := 332) (by decide +kernel)
theorem gw_333 : (Cond.instanceMethod ny_R_latestOf) ∈ GW := List.mem_of_getElem? (i := 333) (by decide +kernel)
theorem gw_334 : (Cond.code ny_R_latestOf nc_R_latestOf 2 (some .int)) ∈ GW := List.mem_of_getElem? (i := 334) (by decide +kernel)
theorem gw_335 : (Cond.methodLink nR_R 22 ny_R_valueOf) ∈ GW := List.mem_of_getElem? (i := 335) (by decide +kernel)
theorem gw_336 : (Cond.methodLink nR_S 312 ny_S_joinLoaded) ∈ GW := List.mem_of_getElem? (i := 336) (by decide +kernel)
theorem gw_337 : (Cond.static ny_S_joinLoaded) ∈ GW := List.mem_of_getElem? (i := 337) (by decide +kernel)
theorem gw_338 : (Cond.code ny_S_joinLoaded nc_S_joinLoaded 7 (some .int)) ∈ GW := List.mem_of_getElem? (i := 338) (by decide +kernel)
theorem gw_339 : (Cond.methodLink nR_S 316 ny_S_toLowest) ∈ GW := List.mem_of_getElem? (i := 339) (by decide +kernel)
theorem gw_340 : (Cond.static ny_S_toLowest) ∈ GW := List.mem_of_getElem? (i := 340) (by decide +kernel)
theorem gw_341 : (Cond.code ny_S_toLowest nc_S_toLowest 2 (some .int)) ∈ GW := List.mem_of_getElem? (i := 341) (by decide +kernel)
theorem gw_342 : (Cond.methodLink nR_S 319 ny_S_bitsAhead) ∈ GW := List.mem_of_getElem? (i := 342) (by decide +kernel)
theorem gw_343 : (Cond.static ny_S_bitsAhead) ∈ GW := List.mem_of_getElem? (i := 343) (by decide +kernel)
theorem gw_344 : (Cond.code ny_S_bitsAhead nc_S_bitsAhead 1 (some .int)) ∈ GW := List.mem_of_getElem? (i := 344) (by decide +kernel)
theorem gw_345 : (Cond.methodLink nR_S 322 ny_S_exchange) ∈ GW := List.mem_of_getElem? (i := 345) (by decide +kernel)
theorem gw_346 : (Cond.methodLink nR_S 193 ny_S_performStore) ∈ GW := List.mem_of_getElem? (i := 346) (by decide +kernel)
theorem gw_347 : (Cond.selects nR_S ny_S_performStore ny_S_performStore) ∈ GW := List.mem_of_getElem? (i := 347) (by decide +kernel)
theorem gw_348 : (Cond.instanceMethod ny_S_performStore) ∈ GW := List.mem_of_getElem? (i := 348) (by decide +kernel)
theorem gw_349 : (Cond.code ny_S_performStore nc_S_performStore 6 (some .int)) ∈ GW := List.mem_of_getElem? (i := 349) (by decide +kernel)
theorem gw_350 : (Cond.methodLink nR_S 325 ny_S_storeUnit) ∈ GW := List.mem_of_getElem? (i := 350) (by decide +kernel)
theorem gw_351 : (Cond.static ny_S_storeUnit) ∈ GW := List.mem_of_getElem? (i := 351) (by decide +kernel)
theorem gw_352 : (Cond.code ny_S_storeUnit nc_S_storeUnit 1 (some .int)) ∈ GW := List.mem_of_getElem? (i := 352) (by decide +kernel)
theorem gw_353 : (Cond.methodLink nR_S 328 ny_S_joinStored) ∈ GW := List.mem_of_getElem? (i := 353) (by decide +kernel)
theorem gw_354 : (Cond.static ny_S_joinStored) ∈ GW := List.mem_of_getElem? (i := 354) (by decide +kernel)
theorem gw_355 : (Cond.code ny_S_joinStored nc_S_joinStored 7 (some .int)) ∈ GW := List.mem_of_getElem? (i := 355) (by decide +kernel)
theorem gw_356 : (Cond.selects nR_M ny_M_replaceWord ny_M_replaceWord) ∈ GW := List.mem_of_getElem? (i := 356) (by decide +kernel)
theorem gw_357 : (Cond.instanceMethod ny_M_replaceWord) ∈ GW := List.mem_of_getElem? (i := 357) (by decide +kernel)
theorem gw_358 : (Cond.code ny_M_replaceWord nc_M_replaceWord 3 none) ∈ GW := List.mem_of_getElem? (i := 358) (by decide +kernel)
theorem gw_359 : (Cond.methodLink nR_S 132 ny_S_finishInstruction) ∈ GW := List.mem_of_getElem? (i := 359) (by decide +kernel)
theorem gw_360 : (Cond.selects nR_S ny_S_finishInstruction ny_S_finishInstruction) ∈ GW := List.mem_of_getElem? (i := 360) (by decide +kernel)
theorem gw_361 : (Cond.instanceMethod ny_S_finishInstruction) ∈ GW := List.mem_of_getElem? (i := 361) (by decide +kernel)
theorem gw_362 : (Cond.code ny_S_finishInstruction nc_S_finishInstruction 1 none) ∈ GW := List.mem_of_getElem? (i := 362) (by decide +kernel)
theorem gw_368 : (Cond.code ny_S_put nc_S_put 4 (some .int)) ∈ GW := List.mem_of_getElem? (i := 368) (by decide +kernel)
theorem gw_369 : (Cond.methodLink nR_S 55 ny_S_isPlaceOfWord) ∈ GW := List.mem_of_getElem? (i := 369) (by decide +kernel)
theorem gw_370 : (Cond.static ny_S_isPlaceOfWord) ∈ GW := List.mem_of_getElem? (i := 370) (by decide +kernel)
theorem gw_371 : (Cond.code ny_S_isPlaceOfWord nc_S_isPlaceOfWord 1 (some .boolean)) ∈ GW := List.mem_of_getElem? (i := 371) (by decide +kernel)
theorem gw_377 : (Cond.code ny_S_word nc_S_word 2 (some .int)) ∈ GW := List.mem_of_getElem? (i := 377) (by decide +kernel)
theorem gw_383 : (Cond.code ny_S_set nc_S_set 4 (some .int)) ∈ GW := List.mem_of_getElem? (i := 383) (by decide +kernel)
theorem gw_389 : (Cond.code ny_S_register nc_S_register 2 (some .int)) ∈ GW := List.mem_of_getElem? (i := 389) (by decide +kernel)
theorem gw_395 : (Cond.code ny_S_lines nc_S_lines 3 (some .int)) ∈ GW := List.mem_of_getElem? (i := 395) (by decide +kernel)
theorem gw_401 : (Cond.code ny_S_run nc_S_run 4 (some .int)) ∈ GW := List.mem_of_getElem? (i := 401) (by decide +kernel)
theorem gw_407 : (Cond.code ny_S_look nc_S_look 2 (some .int)) ∈ GW := List.mem_of_getElem? (i := 407) (by decide +kernel)
theorem gw_412 : (Cond.code ny_D_init nc_D_init 1 none) ∈ GW := List.mem_of_getElem? (i := 412) (by decide +kernel)
theorem gw_414 : (Cond.fieldLink nR_D 23 "SlotCoreModel" "thrown" "I") ∈ GW := List.mem_of_getElem? (i := 414) (by decide +kernel)
theorem gw_415 : (Cond.fieldLink nR_D 7 "SlotCoreModel" "bytes" "[I") ∈ GW := List.mem_of_getElem? (i := 415) (by decide +kernel)
theorem gw_416 : (Cond.fieldLink nR_D 13 "SlotCoreModel" "registers" "[I") ∈ GW := List.mem_of_getElem? (i := 416) (by decide +kernel)
theorem gw_417 : (Cond.fieldLink nR_D 26 "SlotCoreModel" "pc" "I") ∈ GW := List.mem_of_getElem? (i := 417) (by decide +kernel)
theorem gw_418 : (Cond.fieldLink nR_D 16 "SlotCoreModel" "next" "I") ∈ GW := List.mem_of_getElem? (i := 418) (by decide +kernel)
theorem gw_419 : (Cond.fieldLink nR_D 29 "SlotCoreModel" "status" "I") ∈ GW := List.mem_of_getElem? (i := 419) (by decide +kernel)
theorem gw_420 : (Cond.fieldLink nR_D 32 "SlotCoreModel" "code" "I") ∈ GW := List.mem_of_getElem? (i := 420) (by decide +kernel)
theorem gw_421 : (Cond.fieldLink nR_D 35 "SlotCoreModel" "soft" "I") ∈ GW := List.mem_of_getElem? (i := 421) (by decide +kernel)
theorem gw_422 : (Cond.fieldLink nR_D 38 "SlotCoreModel" "lines" "I") ∈ GW := List.mem_of_getElem? (i := 422) (by decide +kernel)
theorem gw_423 : (Cond.fieldLink nR_D 41 "SlotCoreModel" "behind" "Z") ∈ GW := List.mem_of_getElem? (i := 423) (by decide +kernel)
theorem gw_424 : (Cond.fieldLink nR_D 45 "SlotCoreModel" "back" "I") ∈ GW := List.mem_of_getElem? (i := 424) (by decide +kernel)
theorem gw_425 : (Cond.fieldLink nR_D 48 "SlotCoreModel" "bad" "I") ∈ GW := List.mem_of_getElem? (i := 425) (by decide +kernel)
theorem gw_426 : (Cond.fieldLink nR_D 51 "SlotCoreModel" "slot" "Z") ∈ GW := List.mem_of_getElem? (i := 426) (by decide +kernel)
theorem gw_427 : (Cond.fieldLink nR_D 20 "SlotCoreModel" "waits" "I") ∈ GW := List.mem_of_getElem? (i := 427) (by decide +kernel)
theorem gw_428 : (Cond.fieldLink nR_D 54 "SlotCoreModel" "value" "I") ∈ GW := List.mem_of_getElem? (i := 428) (by decide +kernel)
theorem gw_429 : (Cond.fieldLink nR_D 57 "SlotCoreModel" "steps" "I") ∈ GW := List.mem_of_getElem? (i := 429) (by decide +kernel)
theorem gw_430 : (Cond.fieldLink nR_D 60 "SlotCoreModel" "troubles" "I") ∈ GW := List.mem_of_getElem? (i := 430) (by decide +kernel)
theorem gw_431 : (Cond.fieldLink nR_D 81 "SlotCoreModel" "word" "I") ∈ GW := List.mem_of_getElem? (i := 431) (by decide +kernel)
theorem gw_432 : (Cond.fieldLink nR_D 84 "SlotCoreModel" "order" "I") ∈ GW := List.mem_of_getElem? (i := 432) (by decide +kernel)
theorem gw_433 : (Cond.fieldLink nR_D 95 "SlotCoreModel" "s" "I") ∈ GW := List.mem_of_getElem? (i := 433) (by decide +kernel)
theorem gw_434 : (Cond.fieldLink nR_D 118 "SlotCoreModel" "t" "I") ∈ GW := List.mem_of_getElem? (i := 434) (by decide +kernel)
theorem gw_435 : (Cond.fieldLink nR_D 87 "SlotCoreModel" "k" "I") ∈ GW := List.mem_of_getElem? (i := 435) (by decide +kernel)
theorem gw_436 : (Cond.fieldLink nR_D 128 "SlotCoreModel" "to" "I") ∈ GW := List.mem_of_getElem? (i := 436) (by decide +kernel)
theorem gw_437 : (Cond.fieldLink nR_D 131 "SlotCoreModel" "result" "I") ∈ GW := List.mem_of_getElem? (i := 437) (by decide +kernel)
theorem gw_438 : (Cond.fieldLink nR_D 160 "SlotCoreModel" "loads" "I") ∈ GW := List.mem_of_getElem? (i := 438) (by decide +kernel)
theorem gw_439 : (Cond.fieldLink nR_D 166 "SlotCoreModel" "loaded" "I") ∈ GW := List.mem_of_getElem? (i := 439) (by decide +kernel)
theorem gw_440 : (Cond.fieldLink nR_D 140 "SlotCoreModel" "target" "I") ∈ GW := List.mem_of_getElem? (i := 440) (by decide +kernel)
theorem gw_472 : (Cond.code ny_D_thrown nc_D_thrown 1 (some .int)) ∈ GW := List.mem_of_getElem? (i := 472) (by decide +kernel)
theorem gw_476 : (Cond.code ny_D_reset nc_D_reset 2 none) ∈ GW := List.mem_of_getElem? (i := 476) (by decide +kernel)
theorem gw_480 : (Cond.code ny_D_put nc_D_put 4 (some .int)) ∈ GW := List.mem_of_getElem? (i := 480) (by decide +kernel)
theorem gw_481 : (Cond.methodLink nR_D 63 ny_D_isWord) ∈ GW := List.mem_of_getElem? (i := 481) (by decide +kernel)
theorem gw_482 : (Cond.static ny_D_isWord) ∈ GW := List.mem_of_getElem? (i := 482) (by decide +kernel)
theorem gw_483 : (Cond.code ny_D_isWord nc_D_isWord 1 (some .boolean)) ∈ GW := List.mem_of_getElem? (i := 483) (by decide +kernel)
theorem gw_484 : (Cond.methodLink nR_D 67 ny_D_goes) ∈ GW := List.mem_of_getElem? (i := 484) (by decide +kernel)
theorem gw_485 : (Cond.selects nR_D ny_D_goes ny_D_goes) ∈ GW := List.mem_of_getElem? (i := 485) (by decide +kernel)
theorem gw_486 : (Cond.instanceMethod ny_D_goes) ∈ GW := List.mem_of_getElem? (i := 486) (by decide +kernel)
theorem gw_487 : (Cond.code ny_D_goes nc_D_goes 2 (some .boolean)) ∈ GW := List.mem_of_getElem? (i := 487) (by decide +kernel)
theorem gw_488 : (Cond.methodLink nR_D 71 ny_D_load) ∈ GW := List.mem_of_getElem? (i := 488) (by decide +kernel)
theorem gw_489 : (Cond.selects nR_D ny_D_load ny_D_load) ∈ GW := List.mem_of_getElem? (i := 489) (by decide +kernel)
theorem gw_490 : (Cond.instanceMethod ny_D_load) ∈ GW := List.mem_of_getElem? (i := 490) (by decide +kernel)
theorem gw_491 : (Cond.code ny_D_load nc_D_load 5 (some .int)) ∈ GW := List.mem_of_getElem? (i := 491) (by decide +kernel)
theorem gw_492 : (Cond.methodLink nR_D 75 ny_D_store) ∈ GW := List.mem_of_getElem? (i := 492) (by decide +kernel)
theorem gw_493 : (Cond.selects nR_D ny_D_store ny_D_store) ∈ GW := List.mem_of_getElem? (i := 493) (by decide +kernel)
theorem gw_494 : (Cond.instanceMethod ny_D_store) ∈ GW := List.mem_of_getElem? (i := 494) (by decide +kernel)
theorem gw_495 : (Cond.code ny_D_store nc_D_store 5 none) ∈ GW := List.mem_of_getElem? (i := 495) (by decide +kernel)
theorem gw_499 : (Cond.code ny_D_word nc_D_word 2 (some .int)) ∈ GW := List.mem_of_getElem? (i := 499) (by decide +kernel)
theorem gw_503 : (Cond.code ny_D_set nc_D_set 4 (some .int)) ∈ GW := List.mem_of_getElem? (i := 503) (by decide +kernel)
theorem gw_507 : (Cond.code ny_D_register nc_D_register 2 (some .int)) ∈ GW := List.mem_of_getElem? (i := 507) (by decide +kernel)
theorem gw_511 : (Cond.code ny_D_go nc_D_go 3 (some .int)) ∈ GW := List.mem_of_getElem? (i := 511) (by decide +kernel)
theorem gw_515 : (Cond.code ny_D_status nc_D_status 3 (some .int)) ∈ GW := List.mem_of_getElem? (i := 515) (by decide +kernel)
theorem gw_516 : (Cond.constant nR_D 79 65343) ∈ GW := List.mem_of_getElem? (i := 516) (by decide +kernel)
theorem gw_520 : (Cond.code ny_D_lines nc_D_lines 3 (some .int)) ∈ GW := List.mem_of_getElem? (i := 520) (by decide +kernel)
theorem gw_524 : (Cond.code ny_D_step nc_D_step 1 (some .int)) ∈ GW := List.mem_of_getElem? (i := 524) (by decide +kernel)
theorem gw_525 : (Cond.methodLink nR_D 206 ny_D_oneStep) ∈ GW := List.mem_of_getElem? (i := 525) (by decide +kernel)
theorem gw_526 : (Cond.selects nR_D ny_D_oneStep ny_D_oneStep) ∈ GW := List.mem_of_getElem? (i := 526) (by decide +kernel)
theorem gw_527 : (Cond.instanceMethod ny_D_oneStep) ∈ GW := List.mem_of_getElem? (i := 527) (by decide +kernel)
theorem gw_528 : (Cond.code ny_D_oneStep nc_D_oneStep 2 (some .int)) ∈ GW := List.mem_of_getElem? (i := 528) (by decide +kernel)
theorem gw_529 : (Cond.methodLink nR_D 163 ny_D_cause) ∈ GW := List.mem_of_getElem? (i := 529) (by decide +kernel)
theorem gw_530 : (Cond.selects nR_D ny_D_cause ny_D_cause) ∈ GW := List.mem_of_getElem? (i := 530) (by decide +kernel)
theorem gw_531 : (Cond.instanceMethod ny_D_cause) ∈ GW := List.mem_of_getElem? (i := 531) (by decide +kernel)
theorem gw_532 : (Cond.code ny_D_cause nc_D_cause 1 (some .int)) ∈ GW := List.mem_of_getElem? (i := 532) (by decide +kernel)
theorem gw_533 : (Cond.constant nR_D 80 (-2147483648)) ∈ GW := List.mem_of_getElem? (i := 533) (by decide +kernel)
theorem gw_534 : (Cond.methodLink nR_D 191 ny_D_except) ∈ GW := List.mem_of_getElem? (i := 534) (by decide +kernel)
theorem gw_535 : (Cond.selects nR_D ny_D_except ny_D_except) ∈ GW := List.mem_of_getElem? (i := 535) (by decide +kernel)
theorem gw_536 : (Cond.instanceMethod ny_D_except) ∈ GW := List.mem_of_getElem? (i := 536) (by decide +kernel)
theorem gw_537 : (Cond.code ny_D_except nc_D_except 2 none) ∈ GW := List.mem_of_getElem? (i := 537) (by decide +kernel)
theorem gw_538 : (Cond.constant nR_D 187 (-2147483520)) ∈ GW := List.mem_of_getElem? (i := 538) (by decide +kernel)
theorem gw_539 : (Cond.methodLink nR_D 188 ny_D_settle) ∈ GW := List.mem_of_getElem? (i := 539) (by decide +kernel)
theorem gw_540 : (Cond.selects nR_D ny_D_settle ny_D_settle) ∈ GW := List.mem_of_getElem? (i := 540) (by decide +kernel)
theorem gw_541 : (Cond.instanceMethod ny_D_settle) ∈ GW := List.mem_of_getElem? (i := 541) (by decide +kernel)
theorem gw_542 : (Cond.code ny_D_settle nc_D_settle 1 none) ∈ GW := List.mem_of_getElem? (i := 542) (by decide +kernel)
theorem gw_543 : (Cond.methodLink nR_D 194 ny_D_fetch) ∈ GW := List.mem_of_getElem? (i := 543) (by decide +kernel)
theorem gw_544 : (Cond.selects nR_D ny_D_fetch ny_D_fetch) ∈ GW := List.mem_of_getElem? (i := 544) (by decide +kernel)
theorem gw_545 : (Cond.instanceMethod ny_D_fetch) ∈ GW := List.mem_of_getElem? (i := 545) (by decide +kernel)
theorem gw_546 : (Cond.code ny_D_fetch nc_D_fetch 1 (some .int)) ∈ GW := List.mem_of_getElem? (i := 546) (by decide +kernel)
theorem gw_547 : (Cond.methodLink nR_D 108 ny_D_user) ∈ GW := List.mem_of_getElem? (i := 547) (by decide +kernel)
theorem gw_548 : (Cond.selects nR_D ny_D_user ny_D_user) ∈ GW := List.mem_of_getElem? (i := 548) (by decide +kernel)
theorem gw_549 : (Cond.instanceMethod ny_D_user) ∈ GW := List.mem_of_getElem? (i := 549) (by decide +kernel)
theorem gw_550 : (Cond.code ny_D_user nc_D_user 1 (some .boolean)) ∈ GW := List.mem_of_getElem? (i := 550) (by decide +kernel)
theorem gw_551 : (Cond.methodLink nR_D 111 ny_D_inMemory) ∈ GW := List.mem_of_getElem? (i := 551) (by decide +kernel)
theorem gw_552 : (Cond.static ny_D_inMemory) ∈ GW := List.mem_of_getElem? (i := 552) (by decide +kernel)
theorem gw_553 : (Cond.code ny_D_inMemory nc_D_inMemory 3 (some .boolean)) ∈ GW := List.mem_of_getElem? (i := 553) (by decide +kernel)
theorem gw_554 : (Cond.constant nR_D 94 536870911) ∈ GW := List.mem_of_getElem? (i := 554) (by decide +kernel)
theorem gw_555 : (Cond.methodLink nR_D 197 ny_D_read) ∈ GW := List.mem_of_getElem? (i := 555) (by decide +kernel)
theorem gw_556 : (Cond.selects nR_D ny_D_read ny_D_read) ∈ GW := List.mem_of_getElem? (i := 556) (by decide +kernel)
theorem gw_557 : (Cond.instanceMethod ny_D_read) ∈ GW := List.mem_of_getElem? (i := 557) (by decide +kernel)
theorem gw_558 : (Cond.code ny_D_read nc_D_read 1 none) ∈ GW := List.mem_of_getElem? (i := 558) (by decide +kernel)
theorem gw_559 : (Cond.methodLink nR_D 200 ny_D_trouble) ∈ GW := List.mem_of_getElem? (i := 559) (by decide +kernel)
theorem gw_560 : (Cond.selects nR_D ny_D_trouble ny_D_trouble) ∈ GW := List.mem_of_getElem? (i := 560) (by decide +kernel)
theorem gw_561 : (Cond.instanceMethod ny_D_trouble) ∈ GW := List.mem_of_getElem? (i := 561) (by decide +kernel)
theorem gw_562 : (Cond.code ny_D_trouble nc_D_trouble 2 (some .int)) ∈ GW := List.mem_of_getElem? (i := 562) (by decide +kernel)
theorem gw_563 : (Cond.methodLink nR_D 115 ny_D_isKnown) ∈ GW := List.mem_of_getElem? (i := 563) (by decide +kernel)
theorem gw_564 : (Cond.selects nR_D ny_D_isKnown ny_D_isKnown) ∈ GW := List.mem_of_getElem? (i := 564) (by decide +kernel)
theorem gw_565 : (Cond.instanceMethod ny_D_isKnown) ∈ GW := List.mem_of_getElem? (i := 565) (by decide +kernel)
theorem gw_566 : (Cond.code ny_D_isKnown nc_D_isKnown 2 (some .boolean)) ∈ GW := List.mem_of_getElem? (i := 566) (by decide +kernel)
theorem gw_567 : (Cond.methodLink nR_D 90 ny_D_isBranch) ∈ GW := List.mem_of_getElem? (i := 567) (by decide +kernel)
theorem gw_568 : (Cond.selects nR_D ny_D_isBranch ny_D_isBranch) ∈ GW := List.mem_of_getElem? (i := 568) (by decide +kernel)
theorem gw_569 : (Cond.instanceMethod ny_D_isBranch) ∈ GW := List.mem_of_getElem? (i := 569) (by decide +kernel)
theorem gw_570 : (Cond.code ny_D_isBranch nc_D_isBranch 2 (some .boolean)) ∈ GW := List.mem_of_getElem? (i := 570) (by decide +kernel)
theorem gw_571 : (Cond.methodLink nR_D 121 ny_D_exact) ∈ GW := List.mem_of_getElem? (i := 571) (by decide +kernel)
theorem gw_572 : (Cond.static ny_D_exact) ∈ GW := List.mem_of_getElem? (i := 572) (by decide +kernel)
theorem gw_573 : (Cond.code ny_D_exact nc_D_exact 2 (some .boolean)) ∈ GW := List.mem_of_getElem? (i := 573) (by decide +kernel)
theorem gw_574 : (Cond.methodLink nR_D 98 ny_D_number) ∈ GW := List.mem_of_getElem? (i := 574) (by decide +kernel)
theorem gw_575 : (Cond.selects nR_D ny_D_number ny_D_number) ∈ GW := List.mem_of_getElem? (i := 575) (by decide +kernel)
theorem gw_576 : (Cond.instanceMethod ny_D_number) ∈ GW := List.mem_of_getElem? (i := 576) (by decide +kernel)
theorem gw_577 : (Cond.code ny_D_number nc_D_number 1 (some .int)) ∈ GW := List.mem_of_getElem? (i := 577) (by decide +kernel)
theorem gw_578 : (Cond.methodLink nR_D 125 ny_D_addressTrouble) ∈ GW := List.mem_of_getElem? (i := 578) (by decide +kernel)
theorem gw_579 : (Cond.selects nR_D ny_D_addressTrouble ny_D_addressTrouble) ∈ GW := List.mem_of_getElem? (i := 579) (by decide +kernel)
theorem gw_580 : (Cond.instanceMethod ny_D_addressTrouble) ∈ GW := List.mem_of_getElem? (i := 580) (by decide +kernel)
theorem gw_581 : (Cond.code ny_D_addressTrouble nc_D_addressTrouble 3 (some .int)) ∈ GW := List.mem_of_getElem? (i := 581) (by decide +kernel)
theorem gw_582 : (Cond.methodLink nR_D 102 ny_D_isPart) ∈ GW := List.mem_of_getElem? (i := 582) (by decide +kernel)
theorem gw_583 : (Cond.selects nR_D ny_D_isPart ny_D_isPart) ∈ GW := List.mem_of_getElem? (i := 583) (by decide +kernel)
theorem gw_584 : (Cond.instanceMethod ny_D_isPart) ∈ GW := List.mem_of_getElem? (i := 584) (by decide +kernel)
theorem gw_585 : (Cond.code ny_D_isPart nc_D_isPart 1 (some .boolean)) ∈ GW := List.mem_of_getElem? (i := 585) (by decide +kernel)
theorem gw_586 : (Cond.methodLink nR_D 105 ny_D_moved) ∈ GW := List.mem_of_getElem? (i := 586) (by decide +kernel)
theorem gw_587 : (Cond.selects nR_D ny_D_moved ny_D_moved) ∈ GW := List.mem_of_getElem? (i := 587) (by decide +kernel)
theorem gw_588 : (Cond.instanceMethod ny_D_moved) ∈ GW := List.mem_of_getElem? (i := 588) (by decide +kernel)
theorem gw_589 : (Cond.code ny_D_moved nc_D_moved 2 (some .int)) ∈ GW := List.mem_of_getElem? (i := 589) (by decide +kernel)
theorem gw_590 : (Cond.methodLink nR_D 203 ny_D_act) ∈ GW := List.mem_of_getElem? (i := 590) (by decide +kernel)
theorem gw_591 : (Cond.selects nR_D ny_D_act ny_D_act) ∈ GW := List.mem_of_getElem? (i := 591) (by decide +kernel)
theorem gw_592 : (Cond.instanceMethod ny_D_act) ∈ GW := List.mem_of_getElem? (i := 592) (by decide +kernel)
theorem gw_593 : (Cond.code ny_D_act nc_D_act 1 none) ∈ GW := List.mem_of_getElem? (i := 593) (by decide +kernel)
theorem gw_594 : (Cond.methodLink nR_D 172 ny_D_byRegisters) ∈ GW := List.mem_of_getElem? (i := 594) (by decide +kernel)
theorem gw_595 : (Cond.selects nR_D ny_D_byRegisters ny_D_byRegisters) ∈ GW := List.mem_of_getElem? (i := 595) (by decide +kernel)
theorem gw_596 : (Cond.instanceMethod ny_D_byRegisters) ∈ GW := List.mem_of_getElem? (i := 596) (by decide +kernel)
theorem gw_597 : (Cond.code ny_D_byRegisters nc_D_byRegisters 2 none) ∈ GW := List.mem_of_getElem? (i := 597) (by decide +kernel)
theorem gw_598 : (Cond.methodLink nR_D 136 ny_D_gives) ∈ GW := List.mem_of_getElem? (i := 598) (by decide +kernel)
theorem gw_599 : (Cond.selects nR_D ny_D_gives ny_D_gives) ∈ GW := List.mem_of_getElem? (i := 599) (by decide +kernel)
theorem gw_600 : (Cond.instanceMethod ny_D_gives) ∈ GW := List.mem_of_getElem? (i := 600) (by decide +kernel)
theorem gw_601 : (Cond.code ny_D_gives nc_D_gives 3 none) ∈ GW := List.mem_of_getElem? (i := 601) (by decide +kernel)
theorem gw_602 : (Cond.methodLink nR_D 143 ny_D_multiply) ∈ GW := List.mem_of_getElem? (i := 602) (by decide +kernel)
theorem gw_603 : (Cond.selects nR_D ny_D_multiply ny_D_multiply) ∈ GW := List.mem_of_getElem? (i := 603) (by decide +kernel)
theorem gw_604 : (Cond.instanceMethod ny_D_multiply) ∈ GW := List.mem_of_getElem? (i := 604) (by decide +kernel)
theorem gw_605 : (Cond.code ny_D_multiply nc_D_multiply 8 none) ∈ GW := List.mem_of_getElem? (i := 605) (by decide +kernel)
theorem gw_606 : (Cond.constantLong nR_D 134 4294967295) ∈ GW := List.mem_of_getElem? (i := 606) (by decide +kernel)
theorem gw_607 : (Cond.methodLink nR_D 147 ny_D_divide) ∈ GW := List.mem_of_getElem? (i := 607) (by decide +kernel)
theorem gw_608 : (Cond.selects nR_D ny_D_divide ny_D_divide) ∈ GW := List.mem_of_getElem? (i := 608) (by decide +kernel)
theorem gw_609 : (Cond.instanceMethod ny_D_divide) ∈ GW := List.mem_of_getElem? (i := 609) (by decide +kernel)
theorem gw_610 : (Cond.code ny_D_divide nc_D_divide 6 none) ∈ GW := List.mem_of_getElem? (i := 610) (by decide +kernel)
theorem gw_611 : (Cond.methodLink nR_D 150 ny_D_less) ∈ GW := List.mem_of_getElem? (i := 611) (by decide +kernel)
theorem gw_612 : (Cond.static ny_D_less) ∈ GW := List.mem_of_getElem? (i := 612) (by decide +kernel)
theorem gw_613 : (Cond.code ny_D_less nc_D_less 2 (some .boolean)) ∈ GW := List.mem_of_getElem? (i := 613) (by decide +kernel)
theorem gw_614 : (Cond.methodLink nR_D 153 ny_D_shifts) ∈ GW := List.mem_of_getElem? (i := 614) (by decide +kernel)
theorem gw_615 : (Cond.selects nR_D ny_D_shifts ny_D_shifts) ∈ GW := List.mem_of_getElem? (i := 615) (by decide +kernel)
theorem gw_616 : (Cond.instanceMethod ny_D_shifts) ∈ GW := List.mem_of_getElem? (i := 616) (by decide +kernel)
theorem gw_617 : (Cond.code ny_D_shifts nc_D_shifts 3 none) ∈ GW := List.mem_of_getElem? (i := 617) (by decide +kernel)
theorem gw_618 : (Cond.methodLink nR_D 175 ny_D_branch) ∈ GW := List.mem_of_getElem? (i := 618) (by decide +kernel)
theorem gw_619 : (Cond.selects nR_D ny_D_branch ny_D_branch) ∈ GW := List.mem_of_getElem? (i := 619) (by decide +kernel)
theorem gw_620 : (Cond.instanceMethod ny_D_branch) ∈ GW := List.mem_of_getElem? (i := 620) (by decide +kernel)
theorem gw_621 : (Cond.code ny_D_branch nc_D_branch 3 none) ∈ GW := List.mem_of_getElem? (i := 621) (by decide +kernel)
theorem gw_622 : (Cond.constant nR_D 157 (-268435456)) ∈ GW := List.mem_of_getElem? (i := 622) (by decide +kernel)
theorem gw_623 : (Cond.constant nR_D 158 67108863) ∈ GW := List.mem_of_getElem? (i := 623) (by decide +kernel)
theorem gw_624 : (Cond.methodLink nR_D 178 ny_D_byNumber) ∈ GW := List.mem_of_getElem? (i := 624) (by decide +kernel)
theorem gw_625 : (Cond.selects nR_D ny_D_byNumber ny_D_byNumber) ∈ GW := List.mem_of_getElem? (i := 625) (by decide +kernel)
theorem gw_626 : (Cond.instanceMethod ny_D_byNumber) ∈ GW := List.mem_of_getElem? (i := 626) (by decide +kernel)
theorem gw_627 : (Cond.code ny_D_byNumber nc_D_byNumber 3 none) ∈ GW := List.mem_of_getElem? (i := 627) (by decide +kernel)
theorem gw_628 : (Cond.constant nR_D 159 65535) ∈ GW := List.mem_of_getElem? (i := 628) (by decide +kernel)
theorem gw_629 : (Cond.methodLink nR_D 181 ny_D_control) ∈ GW := List.mem_of_getElem? (i := 629) (by decide +kernel)
theorem gw_630 : (Cond.selects nR_D ny_D_control ny_D_control) ∈ GW := List.mem_of_getElem? (i := 630) (by decide +kernel)
theorem gw_631 : (Cond.instanceMethod ny_D_control) ∈ GW := List.mem_of_getElem? (i := 631) (by decide +kernel)
theorem gw_632 : (Cond.code ny_D_control nc_D_control 3 none) ∈ GW := List.mem_of_getElem? (i := 632) (by decide +kernel)
theorem gw_633 : (Cond.methodLink nR_D 184 ny_D_memory) ∈ GW := List.mem_of_getElem? (i := 633) (by decide +kernel)
theorem gw_634 : (Cond.selects nR_D ny_D_memory ny_D_memory) ∈ GW := List.mem_of_getElem? (i := 634) (by decide +kernel)
theorem gw_635 : (Cond.instanceMethod ny_D_memory) ∈ GW := List.mem_of_getElem? (i := 635) (by decide +kernel)
theorem gw_636 : (Cond.code ny_D_memory nc_D_memory 5 none) ∈ GW := List.mem_of_getElem? (i := 636) (by decide +kernel)
theorem gw_637 : (Cond.methodLink nR_D 169 ny_D_part) ∈ GW := List.mem_of_getElem? (i := 637) (by decide +kernel)
theorem gw_638 : (Cond.selects nR_D ny_D_part ny_D_part) ∈ GW := List.mem_of_getElem? (i := 638) (by decide +kernel)
theorem gw_639 : (Cond.instanceMethod ny_D_part) ∈ GW := List.mem_of_getElem? (i := 639) (by decide +kernel)
theorem gw_640 : (Cond.code ny_D_part nc_D_part 8 none) ∈ GW := List.mem_of_getElem? (i := 640) (by decide +kernel)
theorem gw_644 : (Cond.code ny_D_run nc_D_run 4 (some .int)) ∈ GW := List.mem_of_getElem? (i := 644) (by decide +kernel)
theorem gw_648 : (Cond.code ny_D_look nc_D_look 2 (some .int)) ∈ GW := List.mem_of_getElem? (i := 648) (by decide +kernel)
theorem nm_0 : (Cond.methodLinkNest nR_S 11 ny_M_init nR_S) ∈ nwS := List.mem_of_getElem? (i := 0) (by decide +kernel)
theorem nm_1 : (Cond.methodLinkNest nR_S 18 ny_R_init nR_S) ∈ nwS := List.mem_of_getElem? (i := 1) (by decide +kernel)
theorem nm_2 : (Cond.fieldLinkNest nR_S 109 "SlotCore$Registers" "waitsFor" "I" nR_S) ∈ nwS := List.mem_of_getElem? (i := 2) (by decide +kernel)
theorem nm_3 : (Cond.fieldLinkNest nR_S 112 "SlotCore$Registers" "waitingValue" "I" nR_S) ∈ nwS := List.mem_of_getElem? (i := 3) (by decide +kernel)
theorem nm_4 : (Cond.methodLinkNest nR_S 25 ny_C_init nR_S) ∈ nwS := List.mem_of_getElem? (i := 4) (by decide +kernel)
theorem nm_5 : (Cond.fieldLinkNest nR_S 82 "SlotCore$Control" "statusBits" "I" nR_S) ∈ nwS := List.mem_of_getElem? (i := 5) (by decide +kernel)
theorem nm_6 : (Cond.fieldLinkNest nR_S 89 "SlotCore$Control" "lineBits" "I" nR_S) ∈ nwS := List.mem_of_getElem? (i := 6) (by decide +kernel)
theorem nm_7 : (Cond.fieldLinkNest nR_S 99 "SlotCore$Control" "returnAddress" "I" nR_S) ∈ nwS := List.mem_of_getElem? (i := 7) (by decide +kernel)
theorem nm_8 : (Cond.fieldLinkNest nR_S 102 "SlotCore$Control" "badAddress" "I" nR_S) ∈ nwS := List.mem_of_getElem? (i := 8) (by decide +kernel)
theorem nm_9 : (Cond.methodLinkNest nR_S 32 ny_O_init nR_S) ∈ nwS := List.mem_of_getElem? (i := 9) (by decide +kernel)
theorem nm_10 : (Cond.fieldLinkNest nR_S 146 "SlotCore$Outcome" "register" "I" nR_S) ∈ nwS := List.mem_of_getElem? (i := 10) (by decide +kernel)
theorem nm_11 : (Cond.fieldLinkNest nR_S 149 "SlotCore$Outcome" "value" "I" nR_S) ∈ nwS := List.mem_of_getElem? (i := 11) (by decide +kernel)
theorem nm_12 : (Cond.fieldLinkNest nR_S 143 "SlotCore$Outcome" "isLoad" "Z" nR_S) ∈ nwS := List.mem_of_getElem? (i := 12) (by decide +kernel)
theorem nm_13 : (Cond.fieldLinkNest nR_S 158 "SlotCore$Outcome" "isBranch" "Z" nR_S) ∈ nwS := List.mem_of_getElem? (i := 13) (by decide +kernel)
theorem nm_14 : (Cond.fieldLinkNest nR_S 155 "SlotCore$Outcome" "afterNext" "I" nR_S) ∈ nwS := List.mem_of_getElem? (i := 14) (by decide +kernel)
theorem nm_15 : (Cond.methodLinkNest nR_S 41 ny_R_clear nR_S) ∈ nwS := List.mem_of_getElem? (i := 15) (by decide +kernel)
theorem nm_16 : (Cond.methodLinkNest nR_S 44 ny_C_clear nR_S) ∈ nwS := List.mem_of_getElem? (i := 16) (by decide +kernel)
theorem nm_17 : (Cond.methodLinkNest nR_S 79 ny_R_dropLoad nR_S) ∈ nwS := List.mem_of_getElem? (i := 17) (by decide +kernel)
theorem nm_18 : (Cond.methodLinkNest nR_S 85 ny_C_change nR_S) ∈ nwS := List.mem_of_getElem? (i := 18) (by decide +kernel)
theorem nm_19 : (Cond.methodLinkNest nR_C 37 ny_S_exchange nR_S) ∈ nwS := List.mem_of_getElem? (i := 19) (by decide +kernel)
theorem nm_20 : (Cond.methodLinkNest nR_S 118 ny_C_interruptIsDue nR_S) ∈ nwS := List.mem_of_getElem? (i := 20) (by decide +kernel)
theorem nm_21 : (Cond.methodLinkNest nR_S 135 ny_R_landLoad nR_S) ∈ nwS := List.mem_of_getElem? (i := 21) (by decide +kernel)
theorem nm_22 : (Cond.methodLinkNest nR_S 138 ny_C_enter nR_S) ∈ nwS := List.mem_of_getElem? (i := 22) (by decide +kernel)
theorem nm_23 : (Cond.methodLinkNest nR_S 161 ny_C_forbids nR_S) ∈ nwS := List.mem_of_getElem? (i := 23) (by decide +kernel)
theorem nm_24 : (Cond.methodLinkNest nR_S 62 ny_M_wordAround nR_S) ∈ nwS := List.mem_of_getElem? (i := 24) (by decide +kernel)
theorem nm_25 : (Cond.methodLinkNest nR_S 164 ny_O_begin nR_S) ∈ nwS := List.mem_of_getElem? (i := 25) (by decide +kernel)
theorem nm_26 : (Cond.methodLinkNest nR_S 70 ny_R_valueOf nR_S) ∈ nwS := List.mem_of_getElem? (i := 26) (by decide +kernel)
theorem nm_27 : (Cond.methodLinkNest nR_S 73 ny_R_change nR_S) ∈ nwS := List.mem_of_getElem? (i := 27) (by decide +kernel)
theorem nm_28 : (Cond.methodLinkNest nR_S 289 ny_C_isUser nR_S) ∈ nwS := List.mem_of_getElem? (i := 28) (by decide +kernel)
theorem nm_29 : (Cond.methodLinkNest nR_S 292 ny_C_valueOf nR_S) ∈ nwS := List.mem_of_getElem? (i := 29) (by decide +kernel)
theorem nm_30 : (Cond.methodLinkNest nR_S 296 ny_C_leave nR_S) ∈ nwS := List.mem_of_getElem? (i := 30) (by decide +kernel)
theorem nm_31 : (Cond.methodLinkNest nR_S 309 ny_R_latestOf nR_S) ∈ nwS := List.mem_of_getElem? (i := 31) (by decide +kernel)
theorem nm_32 : (Cond.methodLinkNest nR_S 66 ny_M_replaceWord nR_S) ∈ nwS := List.mem_of_getElem? (i := 32) (by decide +kernel)
theorem nm_33 : (Cond.methodLinkNest nR_S 152 ny_R_holdLoad nR_S) ∈ nwS := List.mem_of_getElem? (i := 33) (by decide +kernel)
theorem nm_34 : (Cond.methodLinkNest nR_S 96 ny_C_wholeCause nR_S) ∈ nwS := List.mem_of_getElem? (i := 34) (by decide +kernel)
end
