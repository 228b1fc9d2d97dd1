section
/-! words for the state, the pure functions' joints, the contracts' forms, rows for calls and returns -/
abbrev St : Type := Nat → Nat → Int32
def sU (u : St) (i k : Nat) (v : Int32) : St := fun j => if j = i then upd (u i) k v else u j
def zb (x : Int32) : Int32 := if x = 0 then 0 else 1
def ush (x y : Int32) : Int32 := (x.toUInt32 >>> (y.toUInt32 &&& Int32.toUInt32 31)).toInt32
def inb (i : Int32) (n : Nat) : Bool := decide (0 ≤ i.toInt) && decide (i.toInt < n)
def fuel : Nat := 6000
def bnv {α β : Type} (x : α) (k : α → β) : β := k x
def bnd {α β γ : Type} (x : α × β) (k : α → β → γ) : γ := k x.1 x.2
def obv {α β : Type} (x : Option α) (k : α → Option β) : Option β := match x with | none => none | some a => k a
def obn {α β γ : Type} (x : Option (α × β)) (k : α → β → Option γ) : Option γ := match x with | none => none | some a => k a.1 a.2
theorem bnv_i {α β : Type} {x : α} {k : α → β} {t : β} (h : bnv x k = t) : ∃ a, x = a ∧ k a = t := ⟨x, rfl, h⟩
theorem bnd_i {α β γ : Type} {x : α × β} {k : α → β → γ} {t : γ} (h : bnd x k = t) : ∃ a b, x = (a, b) ∧ k a b = t := ⟨x.1, x.2, rfl, h⟩
theorem obv_i {α β : Type} {x : Option α} {k : α → Option β} {t : β} (h : obv x k = some t) : ∃ a, x = some a ∧ k a = some t := by
  cases x with
  | none => cases h
  | some a => exact ⟨a, rfl, h⟩
theorem obn_i {α β γ : Type} {x : Option (α × β)} {k : α → β → Option γ} {t : γ} (h : obn x k = some t) : ∃ a b, x = some (a, b) ∧ k a b = some t := by
  cases x with
  | none => cases h
  | some a => exact ⟨a.1, a.2, rfl, h⟩
theorem inb_i {i : Int32} {n : Nat} {α : Type} {A : Option α} {t : α} (h : (if inb i n then A else none) = some t) : vp_in i n ∧ A = some t := by
  by_cases hc : inb i n = true
  · rw [if_pos hc] at h
    refine ⟨vp_in_iff.mpr ?_, h⟩
    simp [inb] at hc
    exact hc
  · rw [if_neg hc] at h
    cases h
theorem nz_i {y : Int64} {α : Type} {A : Option α} {t : α} (h : (if y = 0 then none else A) = some t) : ¬ y = 0 ∧ A = some t := by
  by_cases hc : y = 0
  · rw [if_pos hc] at h
    cases h
  · rw [if_neg hc] at h
    exact ⟨hc, h⟩
theorem my_em {x : Int32} (v : Int32) : x = v ∨ ¬ x = v := Decidable.em _
theorem zb_n (x : Int32) : narrow .boolean (.int (zb x)) = .int (zb x) := by
  unfold zb
  split <;> rfl
theorem zb_f (x : Int32) : fits .boolean (.int (zb x)) = true := by
  unfold zb
  split <;> rfl
def my_ne (x : Int32) : List Int32 → Prop
  | [] => True
  | v :: t => (¬ x = v) ∧ my_ne x t
theorem my_nen {x : Int32} : my_ne x [] := trivial
theorem my_nec {x v : Int32} {t : List Int32} (h : ¬ x = v) (ht : my_ne x t) : my_ne x (v :: t) := ⟨h, ht⟩
theorem my_ne_mem {x : Int32} : ∀ {l : List Int32}, my_ne x l → ∀ v ∈ l, ¬ x = v
  | [], _, v, hv => by cases hv
  | a :: l, h, v, hv => by
    rcases List.mem_cons.mp hv with e | hv
    · rw [e]; exact h.1
    · exact my_ne_mem h.2 v hv
def D0 : va_G := (fun _ => 0, fun _ _ => 0)
/-! what is said of the links across the nest -/
def NWo : Cond → Bool
  | .fieldLinkNest _ _ _ _ _ _ => true
  | .methodLinkNest _ _ _ _ => true
  | _ => false
def NW (nw : List Cond) (U : State) : Prop := ∀ w ∈ nw, va_Nw w U
theorem NW.warm {nw : List Cond} {s U : State} (hn : nw.all NWo = true) (hW : s.WarmedH U.vm) (h : NW nw s) : NW nw U := by
  intro w hw
  have h1 := List.all_eq_true.mp hn w hw
  have h2 := h w hw
  unfold NWo at h1
  split at h1
  · exact va_Nw.warmF hW h2
  · exact va_Nw.warmM hW h2
  · cases h1
theorem NW.same {nw : List Cond} {s U : State} (hn : nw.all NWo = true) (hv : s.vm = U.vm) (h : NW nw s) : NW nw U := by
  intro w hw
  have h1 := List.all_eq_true.mp hn w hw
  have h2 := h w hw
  unfold NWo at h1
  split at h1
  · exact va_Nw.same rfl hv h2
  · exact va_Nw.same rfl hv h2
  · cases h1
section MY
variable {p : Program} {l : Launch} {e : Env} {R : Room} {s : State} {m : MethodId} {args : Array Value} {below : List Frame} {meth : Method} {c : Code} {H : Heap} {locs : List Loc} {cells slots : Nat} {Q : State → Prop}
variable {cc : ByteArray} {pc : Nat} {ls : Array Slot} {rest : List Value}
theorem my_swi (hexec : p.tables.exec = Jvm.exec) (hb : c.code = cc) {dflt lo hi : Int} {offs : Array Int} {len : Nat} {x v : Int32} {off : Int} {tgt : Nat} (hdg : decode cc pc = .ok (.tableswitch dflt lo hi offs, len)) (h : x = v) (h1 : ¬ v.toInt < lo) (h2 : ¬ hi < v.toInt) (ho : offs[(v.toInt - lo).toNat]? = some off) (ht : (pc : Int) + off = (tgt : Int))
    (k : W p l e R s m args below meth c H locs cells slots Q (F0 m tgt ls rest)) : W p l e R s m args below meth c H locs cells slots Q (F0 m pc ls (.int x :: rest)) := by
  subst h
  exact lv_tableIn hexec hb hdg h1 h2 ho ht k
theorem my_swd (hexec : p.tables.exec = Jvm.exec) (hb : c.code = cc) {dflt lo hi : Int} {offs : Array Int} {len : Nat} {x : Int32} {tgt : Nat} {lb : List Int32} (hdg : decode cc pc = .ok (.tableswitch dflt lo hi offs, len)) (hl : my_ne x lb)
    (hall : (List.range (hi - lo + 1).toNat).all (fun j => decide (offs[j]? = some dflt) || lb.any (fun v => decide (v.toInt = lo + j))) = true) (ht : (pc : Int) + dflt = (tgt : Int))
    (k : W p l e R s m args below meth c H locs cells slots Q (F0 m tgt ls rest)) : W p l e R s m args below meth c H locs cells slots Q (F0 m pc ls (.int x :: rest)) := by
  by_cases h1 : x.toInt < lo
  · exact lv_tableOut hexec hb hdg (Or.inl h1) ht k
  by_cases h2 : hi < x.toInt
  · exact lv_tableOut hexec hb hdg (Or.inr h2) ht k
  have h3 := List.all_eq_true.mp hall (x.toInt - lo).toNat (List.mem_range.mpr (by omega))
  rcases Bool.or_eq_true_iff.mp h3 with h4 | h4
  · exact lv_tableIn hexec hb hdg h1 h2 (of_decide_eq_true h4) ht k
  · obtain ⟨v, hv, h5⟩ := List.any_eq_true.mp h4
    have h6 : v.toInt = lo + ((x.toInt - lo).toNat : Int) := of_decide_eq_true h5
    have h7 : x = v := Int32.toInt_inj.mp (by omega)
    exact absurd h7 (my_ne_mem hl v hv)
end MY
theorem goodIn_sub9 {big : List Cond} {d : Cond} (hm : ∀ w ∈ d :: big, w ∈ big) (h : big.all goodWord = true) (hd : d ∈ big) : GoodIn big (d :: big) :=
  fun w hw => ⟨hm w hw, good_of_word (List.all_eq_true.mp h w (hm w hw))⟩
/-- the cells that a method may change are its caller's -/
theorem my_fr {A : Nat → Prop} {ws : va_W} {H0 H : Heap} {locs : List Loc} (hD : va_D A ws) (hS : va_S A H0 H locs) (hA : ∀ q, H0.size ≤ q → A q) : ∀ q, va_A ws H.size q → A q :=
  fun q h => h.elim (fun ⟨k, e, hk⟩ => hD.2 k (q, e) hk) (fun h => hA q (Nat.le_trans hS.1 h))
/-- the world at a method's start, at its end -/
abbrev WB (nw : List Cond) (cl : List vw_C) (D : va_G) (ty : List (ClassId × FieldType)) (ws : va_W) (sz : Nat) (U : State) : Prop := U.heap.size = sz ∧ va_P D cl ws U.heap ∧ va_K D cl ty U ∧ va_D (fun _ => True) ws ∧ NW nw U
abbrev WA (cl : List vw_C) (D : va_G) (ty : List (ClassId × FieldType)) (A : Nat → Prop) (ws : va_W) (t : State) : Prop := va_P D cl ws t.heap ∧ va_K D cl ty t ∧ va_D A ws
abbrev QI (cl : List vw_C) (D : va_G) (ty : List (ClassId × FieldType)) (wd : St → va_W) (F : Int32 × St) (A : Nat → Prop) : Array Value → State → Outcome → State → Prop := va_Qi (fun r u' => r = F.1 ∧ u' = F.2) (fun u' t => WA cl D ty A (wd u') t) A
abbrev QV (cl : List vw_C) (D : va_G) (ty : List (ClassId × FieldType)) (wd : St → va_W) (F : St) (A : Nat → Prop) : Array Value → State → Outcome → State → Prop := va_Qv (fun u' => u' = F) (fun u' t => WA cl D ty A (wd u') t) A
abbrev QP (F : Int32) : Array Value → State → Outcome → State → Prop := va_Qi (fun r (_ : Unit) => r = F) (fun _ _ => True) (fun _ => False)
abbrev QL (F : Int64) : Array Value → State → Outcome → State → Prop := va_Ql (fun r (_ : Unit) => r = F) (fun _ _ => True) (fun _ => False)
/-- a contract of a method that may change the world's cells, makes none, answers an int; answers nothing; of one that has no world -/
def MI (nw : List Cond) (cl : List vw_C) (l : Launch) (y : MethodName) (ws : List Cond) (rm : Room) (D : va_G) (ty : List (ClassId × FieldType)) (wd : St → va_W) (av : List Value) (u : St) (F : Int32 × St) : Prop :=
  ∀ sz : Nat, Met l y ws rm (va_Pc av (WB nw cl D ty (wd u) sz)) (QI cl D ty wd F (va_A (wd u) sz)) 0 0 (va_A (wd u) sz)
def MV (nw : List Cond) (cl : List vw_C) (l : Launch) (y : MethodName) (ws : List Cond) (rm : Room) (D : va_G) (ty : List (ClassId × FieldType)) (wd : St → va_W) (av : List Value) (u : St) (F : St) : Prop :=
  ∀ sz : Nat, Met l y ws rm (va_Pc av (WB nw cl D ty (wd u) sz)) (QV cl D ty wd F (va_A (wd u) sz)) 0 0 (va_A (wd u) sz)
def MP (l : Launch) (y : MethodName) (ws : List Cond) (rm : Room) (av : List Value) (F : Int32) : Prop := Met l y ws rm (va_Pc av (fun _ => True)) (QP F) 0 0 (fun _ => False)
def ML (l : Launch) (y : MethodName) (ws : List Cond) (rm : Room) (av : List Value) (F : Int64) : Prop := Met l y ws rm (va_Pc av (fun _ => True)) (QL F) 0 0 (fun _ => False)
theorem my_in {nw : List Cond} {cl : List vw_C} {l : Launch} {y : MethodName} {ws gw : List Cond} {rm : Room} {D : va_G} {ty : List (ClassId × FieldType)} {wd : St → va_W} {av : List Value} {u : St} {cc : ByteArray} {maxL : Nat} {ret : Option FieldType} {Qc : (Nat → Prop) → Array Value → State → Outcome → State → Prop}
    (hy : plainName y.cls = true) (hw : ws = Cond.code y cc maxL ret :: gw) (hlen : (lg_sl av).length ≤ maxL)
    (body : ∀ (p : Program) (e : Env) (s : State) (m : MethodId) (below : List Frame) (meth : Method) (c : Code) (A : Nat → Prop) (H : Heap) (locs : List Loc) (ls : Array Slot), p.tables.exec = Jvm.exec → c.code = cc → c.maxLocals = maxL → meth.sig.returnType = ret → (∀ w ∈ gw, w.before av.toArray s = true) → s.vm.findClass y.cls = some m.cls → meth.locks = false → va_K D cl ty s → NW nw s → (∀ q, s.heap.size ≤ q → A q) → va_P D cl (wd u) H → va_D A (wd u) → va_S A s.heap H locs → lv_has ls maxL (lv_args 0 av) →
      W p l e (headSpec ws rm).room s m av.toArray below meth c H locs 0 0 (MQ below (Qc A) av.toArray s 0 0 A) (F0 m 0 ls [])) :
    ∀ sz : Nat, Met l y ws rm (va_Pc av (WB nw cl D ty (wd u) sz)) (Qc (va_A (wd u) sz)) 0 0 (va_A (wd u) sz) := by
  intro sz
  refine Met.ofW (cc := cc) (maxL := maxL) (ret := ret) hy hw ?_
  intro p e s m args below meth c s₁ B hml hv
  obtain ⟨rfl, hsz, hP, hK, hD0, hN⟩ := hv
  have hts : ∀ w ∈ gw, w.before av.toArray s = true := fun w h => atoms_spec (ws := ws) B.pre w (by rw [hw]; exact List.mem_cons_of_mem _ h)
  have hown : s.vm.findClass y.cls = some m.cls := findClass_of_methodNamed B.named
  subst hsz
  have hD := hD0.self (sz := s.heap.size)
  have hl := lv_entry av (n := maxL) hlen
  rw [lg_entry_eq]
  exact body p e s m below meth c (va_A (wd u) s.heap.size) s.heap [] _ B.exec B.bytes hml B.returns hts hown B.notSynchronized hK hN (fun q h => Or.inr h) hP hD va_S.rf hl
theorem my_inP {l : Launch} {y : MethodName} {ws gw : List Cond} {rm : Room} {av : List Value} {cc : ByteArray} {maxL : Nat} {ret : Option FieldType} {Qc : Array Value → State → Outcome → State → Prop}
    (hy : plainName y.cls = true) (hw : ws = Cond.code y cc maxL ret :: gw) (hlen : (lg_sl av).length ≤ maxL)
    (body : ∀ (p : Program) (e : Env) (s : State) (m : MethodId) (below : List Frame) (meth : Method) (c : Code) (H : Heap) (locs : List Loc) (ls : Array Slot), p.tables.exec = Jvm.exec → c.code = cc → c.maxLocals = maxL → meth.sig.returnType = ret → (∀ w ∈ gw, w.before av.toArray s = true) → s.vm.findClass y.cls = some m.cls → meth.locks = false → va_S (fun _ => False) s.heap H locs → lv_has ls maxL (lv_args 0 av) →
      W p l e (headSpec ws rm).room s m av.toArray below meth c H locs 0 0 (MQ below Qc av.toArray s 0 0 (fun _ => False)) (F0 m 0 ls [])) :
    Met l y ws rm (va_Pc av (fun _ => True)) Qc 0 0 (fun _ => False) := by
  refine Met.ofW (cc := cc) (maxL := maxL) (ret := ret) hy hw ?_
  intro p e s m args below meth c s₁ B hml hv
  obtain ⟨rfl, -⟩ := hv
  have hts : ∀ w ∈ gw, w.before av.toArray s = true := fun w h => atoms_spec (ws := ws) B.pre w (by rw [hw]; exact List.mem_cons_of_mem _ h)
  have hown : s.vm.findClass y.cls = some m.cls := findClass_of_methodNamed B.named
  have hl := lv_entry av (n := maxL) hlen
  rw [lg_entry_eq]
  exact body p e s m below meth c s.heap [] _ B.exec B.bytes hml B.returns hts hown B.notSynchronized va_S.rf hl
section MYR
variable {p : Program} {l : Launch} {e : Env} {R : Room} {s : State} {m : MethodId} {args : Array Value} {below : List Frame} {meth : Method} {c : Code} {H : Heap} {locs : List Loc} {cells slots : Nat} {Q : State → Prop}
variable {cc : ByteArray} {pc : Nat} {ls : Array Slot} {rest st0 : List Value} {a : Array Value} {cl : List vw_C} {nw : List Cond} {D : va_G} {ty : List (ClassId × FieldType)} {wd : St → va_W} {A : Nat → Prop} {H0 : Heap} {u u' : St} {v : Int32}
theorem my_ri {F : Int32 × St} (hexec : p.tables.exec = Jvm.exec) (hb : c.code = cc) (hr : meth.sig.returnType = some .int) (hlocks : meth.locks = false) (hK : va_K D cl ty s) (hP : va_P D cl (wd u') H) (hD : va_D A (wd u')) (hS : va_S A s.heap H locs) (hF : (v, u') = F) (hdg : decode cc pc = .ok (.ireturn, 1)) :
    W p l e R s m args below meth c H locs cells slots (MQ below (QI cl D ty wd F A) args s cells slots A) (F0 m pc ls [.int v]) := by
  subst hF
  exact W.iret hexec hb hr (fun t ht hW => ⟨⟨v, u', rfl, ⟨rfl, rfl⟩, by rw [ht]; exact hP, va_K.moved hW.alike hK, hD⟩, hS.F ht⟩) hS.2.2 hdg hlocks
theorem my_rz {F : Int32 × St} {x : Int32} (hexec : p.tables.exec = Jvm.exec) (hb : c.code = cc) (hr : meth.sig.returnType = some .boolean) (hlocks : meth.locks = false) (hK : va_K D cl ty s) (hP : va_P D cl (wd u') H) (hD : va_D A (wd u')) (hS : va_S A s.heap H locs) (hF : (x, u') = F) (hv : zb x = v) (hdg : decode cc pc = .ok (.ireturn, 1)) :
    W p l e R s m args below meth c H locs cells slots (MQ below (QI cl D ty wd (zb F.1, F.2) A) args s cells slots A) (F0 m pc ls [.int v]) := by
  subst hF
  subst hv
  exact W.zret hexec hb hr (zb_n x) (fun t ht hW => ⟨⟨zb x, u', rfl, ⟨rfl, rfl⟩, by rw [ht]; exact hP, va_K.moved hW.alike hK, hD⟩, hS.F ht⟩) hS.2.2 hdg hlocks
theorem my_rzo {F : Int32} {x : Int32} (hexec : p.tables.exec = Jvm.exec) (hb : c.code = cc) (hr : meth.sig.returnType = some .boolean) (hlocks : meth.locks = false) (hK : va_K D cl ty s) (hP : va_P D cl (wd u') H) (hD : va_D A (wd u')) (hS : va_S A s.heap H locs) (hF : x = F) (hv : zb x = v) (hdg : decode cc pc = .ok (.ireturn, 1)) :
    W p l e R s m args below meth c H locs cells slots (MQ below (QI cl D ty wd (zb F, u') A) args s cells slots A) (F0 m pc ls [.int v]) := by
  subst hF
  subst hv
  exact W.zret hexec hb hr (zb_n x) (fun t ht hW => ⟨⟨zb x, u', rfl, ⟨rfl, rfl⟩, by rw [ht]; exact hP, va_K.moved hW.alike hK, hD⟩, hS.F ht⟩) hS.2.2 hdg hlocks
theorem my_rv {F : St} (hexec : p.tables.exec = Jvm.exec) (hb : c.code = cc) (hr : meth.sig.returnType = none) (hlocks : meth.locks = false) (hK : va_K D cl ty s) (hP : va_P D cl (wd u') H) (hD : va_D A (wd u')) (hS : va_S A s.heap H locs) (hF : u' = F) (hdg : decode cc pc = .ok (.return_, 1)) :
    W p l e R s m args below meth c H locs cells slots (MQ below (QV cl D ty wd F A) args s cells slots A) (F0 m pc ls []) := by
  subst hF
  exact W.vret hexec hb hr (fun t ht hW => ⟨⟨u', rfl, rfl, by rw [ht]; exact hP, va_K.moved hW.alike hK, hD⟩, hS.F ht⟩) hS.2.2 hdg hlocks
theorem my_rp {F : Int32} (hexec : p.tables.exec = Jvm.exec) (hb : c.code = cc) (hr : meth.sig.returnType = some .int) (hlocks : meth.locks = false) (hS : va_S (fun _ => False) s.heap H locs) (hF : v = F) (hdg : decode cc pc = .ok (.ireturn, 1)) :
    W p l e R s m args below meth c H locs cells slots (MQ below (QP F) args s cells slots (fun _ => False)) (F0 m pc ls [.int v]) := by
  subst hF
  exact W.iret hexec hb hr (fun t ht hW => ⟨⟨v, (), rfl, rfl, trivial⟩, hS.F ht⟩) hS.2.2 hdg hlocks
theorem my_rpz {F x : Int32} (hexec : p.tables.exec = Jvm.exec) (hb : c.code = cc) (hr : meth.sig.returnType = some .boolean) (hlocks : meth.locks = false) (hS : va_S (fun _ => False) s.heap H locs) (hF : x = F) (hv : zb x = v) (hdg : decode cc pc = .ok (.ireturn, 1)) :
    W p l e R s m args below meth c H locs cells slots (MQ below (QP (zb F)) args s cells slots (fun _ => False)) (F0 m pc ls [.int v]) := by
  subst hF
  subst hv
  exact W.zret hexec hb hr (zb_n x) (fun t ht hW => ⟨⟨zb x, (), rfl, rfl, trivial⟩, hS.F ht⟩) hS.2.2 hdg hlocks
theorem my_rl {F v : Int64} (hexec : p.tables.exec = Jvm.exec) (hb : c.code = cc) (hr : meth.sig.returnType = some .long) (hlocks : meth.locks = false) (hS : va_S (fun _ => False) s.heap H locs) (hF : v = F) (hdg : decode cc pc = .ok (.lreturn, 1)) :
    W p l e R s m args below meth c H locs cells slots (MQ below (QL F) args s cells slots (fun _ => False)) (F0 m pc ls [.long v]) := by
  subst hF
  exact W.lret hexec hb hr (fun t ht hW => ⟨⟨v, (), rfl, rfl, trivial⟩, hS.F ht⟩) hS.2.2 hdg hlocks
theorem my_ci {r : Int32} (hr : va_Run p l e R s m args below meth c H locs cells slots 0 0 (F0 m pc ls st0) rest (QI cl D ty wd (r, u') (va_A (wd u) H.size) a) (va_A (wd u) H.size)) (hD : va_D A (wd u)) (hS : va_S A H0 H locs) (hA : ∀ q, H0.size ≤ q → A q)
    (kk : ∀ (H1 : Heap) (locs1 : List Loc), va_P D cl (wd u') H1 → va_D A (wd u') → va_S A H0 H1 locs1 → W p l e R s m args below meth c H1 locs1 cells slots Q (F0 m (pc + 3) ls (.int r :: rest))) : W p l e R s m args below meth c H locs cells slots Q (F0 m pc ls st0) := by
  refine va_calli hr hS (fun q _ h => my_fr hD hS hA q h) (my_fr hD hS hA) (fun r1 u1 t H1 locs1 ht hvm hp hB hz hk hS1 => ?_)
  obtain ⟨h1, h2⟩ := hp
  have h1 : r1 = r := h1
  have h2 : u1 = u' := h2
  subst h1
  subst h2
  obtain ⟨hP1, hK1, hD1⟩ := hB
  rw [ht] at hP1
  exact kk H1 locs1 hP1 (hD1.weaken (fun _ _ _ h => my_fr hD hS hA _ h)) hS1
theorem my_cv {F : St} (hr : va_Run p l e R s m args below meth c H locs cells slots 0 0 (F0 m pc ls st0) rest (QV cl D ty wd F (va_A (wd u) H.size) a) (va_A (wd u) H.size)) (hD : va_D A (wd u)) (hS : va_S A H0 H locs) (hA : ∀ q, H0.size ≤ q → A q)
    (kk : ∀ (H1 : Heap) (locs1 : List Loc), va_P D cl (wd F) H1 → va_D A (wd F) → va_S A H0 H1 locs1 → W p l e R s m args below meth c H1 locs1 cells slots Q (F0 m (pc + 3) ls rest)) : W p l e R s m args below meth c H locs cells slots Q (F0 m pc ls st0) := by
  refine va_callv hr hS (fun q _ h => my_fr hD hS hA q h) (my_fr hD hS hA) (fun u1 t H1 locs1 ht hvm hp hB hz hk hS1 => ?_)
  subst hp
  obtain ⟨hP1, hK1, hD1⟩ := hB
  rw [ht] at hP1
  exact kk H1 locs1 hP1 (hD1.weaken (fun _ _ _ h => my_fr hD hS hA _ h)) hS1
/-- a call of a method without a world: the caller's stays -/
theorem my_cp {ws : va_W} {F : Int32} (hr : va_Run p l e R s m args below meth c H locs cells slots 0 0 (F0 m pc ls st0) rest (QP F a) (fun _ => False)) (hP : va_P D cl ws H) (hS : va_S A H0 H locs)
    (kk : ∀ (H1 : Heap) (locs1 : List Loc), va_P D cl ws H1 → va_S A H0 H1 locs1 → W p l e R s m args below meth c H1 locs1 cells slots Q (F0 m (pc + 3) ls (.int F :: rest))) : W p l e R s m args below meth c H locs cells slots Q (F0 m pc ls st0) := by
  refine va_calli hr hS (fun q _ h => h.elim) (fun q h => h.elim) (fun r u1 t H1 locs1 ht hvm hp hB hz hk hS1 => ?_)
  subst hp
  exact kk H1 locs1 (hP.kept (fun k q hq => hk q.1 (va_at.lt (hP k q hq)) (fun h => h))) hS1
theorem my_cl {ws : va_W} {F : Int64} (hr : va_Run p l e R s m args below meth c H locs cells slots 0 0 (F0 m pc ls st0) rest (QL F a) (fun _ => False)) (hP : va_P D cl ws H) (hS : va_S A H0 H locs)
    (kk : ∀ (H1 : Heap) (locs1 : List Loc), va_P D cl ws H1 → va_S A H0 H1 locs1 → W p l e R s m args below meth c H1 locs1 cells slots Q (F0 m (pc + 3) ls (.long F :: rest))) : W p l e R s m args below meth c H locs cells slots Q (F0 m pc ls st0) := by
  refine va_calll hr hS (fun q _ h => h.elim) (fun q h => h.elim) (fun r u1 t H1 locs1 ht hvm hp hB hz hk hS1 => ?_)
  subst hp
  exact kk H1 locs1 (hP.kept (fun k q hq => hk q.1 (va_at.lt (hP k q hq)) (fun h => h))) hS1
theorem my_nil : va_P D cl [] H := fun k q h => by simp at h
theorem my_preP {As : List Value} : PreS s H (va_Pc As (fun _ => True)) As := ⟨fun a U g mk q => q, fun U hU hW => ⟨rfl, trivial⟩⟩
theorem my_preV {C : String} {b : Addr} {As : List Value} {ws : va_W} (hn : nw.all NWo = true) (hP : va_P D cl ws H) (hK : va_K D cl ty s) (hD : va_D A ws) (hN : NW nw s) (hrec : ∃ cellB : Cell, H[b]? = some cellB ∧ cellB.vm.isStatics = false ∧ s.vm.findClass C = some cellB.cls) :
    PreV s H C b (va_Pc (.ref b :: As) (WB nw cl D ty ws H.size)) As :=
  ⟨fun a U g mk q => by
      obtain ⟨q0, q1, qP, qK, qD, qN⟩ := q
      exact ⟨q0, q1, qP, va_K.moved (u := U) (U := U.calling g mk a) (Vm.Alike.refl U.vm) qK, qD, NW.same (s := U) (U := U.calling g mk a) hn rfl qN⟩,
    hrec, fun U hU hW => ⟨rfl, by rw [hU], by rw [hU]; exact hP, va_K.moved hW.alike hK, hD.weaken (fun _ _ _ _ => trivial), NW.warm hn hW hN⟩⟩
end MYR
end
section
def nR_S : String := "SlotCore"
def nR_M : String := "SlotCore$Memory"
def nR_R : String := "SlotCore$Registers"
def nR_C : String := "SlotCore$Control"
def nR_O : String := "SlotCore$Outcome"
def nR_D : String := "SlotCoreModel"
def nR_L : String := "SlotCoreLaw"
def nT_S : u_T := fun k => match k with
  | 0 => ("SlotCore", "memory", "LSlotCore$Memory;", true)
  | 1 => ("SlotCore", "registers", "LSlotCore$Registers;", true)
  | 2 => ("SlotCore", "control", "LSlotCore$Control;", true)
  | 3 => ("SlotCore", "outcome", "LSlotCore$Outcome;", true)
  | 4 => ("SlotCore", "pc", "I", false)
  | 5 => ("SlotCore", "next", "I", false)
  | 6 => ("SlotCore", "inSlot", "Z", false)
  | 7 => ("SlotCore", "steps", "I", false)
  | _ => ("SlotCore", "exceptions", "I", false)
def nt_S : Nat → FieldType := fun k => match k with
  | 0 => .object "SlotCore$Memory"
  | 1 => .object "SlotCore$Registers"
  | 2 => .object "SlotCore$Control"
  | 3 => .object "SlotCore$Outcome"
  | 4 => .int
  | 5 => .int
  | 6 => .boolean
  | 7 => .int
  | _ => .int
theorem nn_S : ∀ a, a < 9 → ∀ b, b < 9 → a ≠ b → (nT_S a).2.1 ≠ (nT_S b).2.1 := by decide +kernel
theorem nto_S : ∀ k, k < 9 → parseFieldDescriptor (nT_S k).2.2.1 = some (nt_S k) := by decide +kernel
def nT_M : u_T := fun k => match k with
  | _ => ("SlotCore$Memory", "words", "[I", true)
def nt_M : Nat → FieldType := fun k => match k with
  | _ => .array .int
theorem nn_M : ∀ a, a < 1 → ∀ b, b < 1 → a ≠ b → (nT_M a).2.1 ≠ (nT_M b).2.1 := by decide +kernel
theorem nto_M : ∀ k, k < 1 → parseFieldDescriptor (nT_M k).2.2.1 = some (nt_M k) := by decide +kernel
def nT_R : u_T := fun k => match k with
  | 0 => ("SlotCore$Registers", "values", "[I", true)
  | 1 => ("SlotCore$Registers", "waitsFor", "I", false)
  | _ => ("SlotCore$Registers", "waitingValue", "I", false)
def nt_R : Nat → FieldType := fun k => match k with
  | 0 => .array .int
  | 1 => .int
  | _ => .int
theorem nn_R : ∀ a, a < 3 → ∀ b, b < 3 → a ≠ b → (nT_R a).2.1 ≠ (nT_R b).2.1 := by decide +kernel
theorem nto_R : ∀ k, k < 3 → parseFieldDescriptor (nT_R k).2.2.1 = some (nt_R k) := by decide +kernel
def nT_C : u_T := fun k => match k with
  | 0 => ("SlotCore$Control", "statusBits", "I", false)
  | 1 => ("SlotCore$Control", "causeBits", "I", false)
  | 2 => ("SlotCore$Control", "lineBits", "I", false)
  | 3 => ("SlotCore$Control", "returnAddress", "I", false)
  | _ => ("SlotCore$Control", "badAddress", "I", false)
def nt_C : Nat → FieldType := fun k => match k with
  | 0 => .int
  | 1 => .int
  | 2 => .int
  | 3 => .int
  | _ => .int
theorem nn_C : ∀ a, a < 5 → ∀ b, b < 5 → a ≠ b → (nT_C a).2.1 ≠ (nT_C b).2.1 := by decide +kernel
theorem nto_C : ∀ k, k < 5 → parseFieldDescriptor (nT_C k).2.2.1 = some (nt_C k) := by decide +kernel
def nT_O : u_T := fun k => match k with
  | 0 => ("SlotCore$Outcome", "register", "I", false)
  | 1 => ("SlotCore$Outcome", "value", "I", false)
  | 2 => ("SlotCore$Outcome", "isLoad", "Z", false)
  | 3 => ("SlotCore$Outcome", "isBranch", "Z", false)
  | _ => ("SlotCore$Outcome", "afterNext", "I", false)
def nt_O : Nat → FieldType := fun k => match k with
  | 0 => .int
  | 1 => .int
  | 2 => .boolean
  | 3 => .boolean
  | _ => .int
theorem nn_O : ∀ a, a < 5 → ∀ b, b < 5 → a ≠ b → (nT_O a).2.1 ≠ (nT_O b).2.1 := by decide +kernel
theorem nto_O : ∀ k, k < 5 → parseFieldDescriptor (nT_O k).2.2.1 = some (nt_O k) := by decide +kernel
def nT_D : u_T := fun k => match k with
  | 0 => ("SlotCoreModel", "thrown", "I", false)
  | 1 => ("SlotCoreModel", "bytes", "[I", true)
  | 2 => ("SlotCoreModel", "registers", "[I", true)
  | 3 => ("SlotCoreModel", "pc", "I", false)
  | 4 => ("SlotCoreModel", "next", "I", false)
  | 5 => ("SlotCoreModel", "status", "I", false)
  | 6 => ("SlotCoreModel", "code", "I", false)
  | 7 => ("SlotCoreModel", "soft", "I", false)
  | 8 => ("SlotCoreModel", "lines", "I", false)
  | 9 => ("SlotCoreModel", "behind", "Z", false)
  | 10 => ("SlotCoreModel", "back", "I", false)
  | 11 => ("SlotCoreModel", "bad", "I", false)
  | 12 => ("SlotCoreModel", "slot", "Z", false)
  | 13 => ("SlotCoreModel", "waits", "I", false)
  | 14 => ("SlotCoreModel", "value", "I", false)
  | 15 => ("SlotCoreModel", "steps", "I", false)
  | 16 => ("SlotCoreModel", "troubles", "I", false)
  | 17 => ("SlotCoreModel", "word", "I", false)
  | 18 => ("SlotCoreModel", "order", "I", false)
  | 19 => ("SlotCoreModel", "s", "I", false)
  | 20 => ("SlotCoreModel", "t", "I", false)
  | 21 => ("SlotCoreModel", "k", "I", false)
  | 22 => ("SlotCoreModel", "to", "I", false)
  | 23 => ("SlotCoreModel", "result", "I", false)
  | 24 => ("SlotCoreModel", "loads", "I", false)
  | 25 => ("SlotCoreModel", "loaded", "I", false)
  | 26 => ("SlotCoreModel", "target", "I", false)
  | _ => ("SlotCoreModel", "branches", "Z", false)
def nt_D : Nat → FieldType := fun k => match k with
  | 0 => .int
  | 1 => .array .int
  | 2 => .array .int
  | 3 => .int
  | 4 => .int
  | 5 => .int
  | 6 => .int
  | 7 => .int
  | 8 => .int
  | 9 => .boolean
  | 10 => .int
  | 11 => .int
  | 12 => .boolean
  | 13 => .int
  | 14 => .int
  | 15 => .int
  | 16 => .int
  | 17 => .int
  | 18 => .int
  | 19 => .int
  | 20 => .int
  | 21 => .int
  | 22 => .int
  | 23 => .int
  | 24 => .int
  | 25 => .int
  | 26 => .int
  | _ => .boolean
theorem nn_D : ∀ a, a < 28 → ∀ b, b < 28 → a ≠ b → (nT_D a).2.1 ≠ (nT_D b).2.1 := by decide +kernel
theorem nto_D : ∀ k, k < 28 → parseFieldDescriptor (nT_D k).2.2.1 = some (nt_D k) := by decide +kernel
abbrev vwCl : List vw_C := [(nR_S, nT_S, 9), (nR_M, nT_M, 1), (nR_R, nT_R, 3), (nR_C, nT_C, 5), (nR_O, nT_O, 5), (nR_D, nT_D, 28)]
abbrev nc_S_init : ByteArray := prog_1_method_1_code
def ny_S_init : MethodName := ⟨nR_S, "<init>", "()V"⟩
theorem nh_S_init : ny_S_init.cls ≠ "java/lang/invoke/MethodHandle" ∧ ny_S_init.cls ≠ "java/lang/invoke/VarHandle" ∧ (parseMethodDescriptor ny_S_init.desc).map (fun d => d.parameters.length) = some 0 := by decide +kernel
abbrev nc_S_reset : ByteArray := prog_1_method_2_code
def ny_S_reset : MethodName := ⟨nR_S, "reset", "()V"⟩
theorem nh_S_reset : ny_S_reset.cls ≠ "java/lang/invoke/MethodHandle" ∧ ny_S_reset.cls ≠ "java/lang/invoke/VarHandle" ∧ (parseMethodDescriptor ny_S_reset.desc).map (fun d => d.parameters.length) = some 0 := by decide +kernel
abbrev nc_S_put : ByteArray := prog_1_method_3_code
def ny_S_put : MethodName := ⟨nR_S, "put", "(II)I"⟩
theorem nh_S_put : ny_S_put.cls ≠ "java/lang/invoke/MethodHandle" ∧ ny_S_put.cls ≠ "java/lang/invoke/VarHandle" ∧ (parseMethodDescriptor ny_S_put.desc).map (fun d => d.parameters.length) = some 2 := by decide +kernel
abbrev nc_S_word : ByteArray := prog_1_method_4_code
def ny_S_word : MethodName := ⟨nR_S, "word", "(I)I"⟩
theorem nh_S_word : ny_S_word.cls ≠ "java/lang/invoke/MethodHandle" ∧ ny_S_word.cls ≠ "java/lang/invoke/VarHandle" ∧ (parseMethodDescriptor ny_S_word.desc).map (fun d => d.parameters.length) = some 1 := by decide +kernel
abbrev nc_S_set : ByteArray := prog_1_method_5_code
def ny_S_set : MethodName := ⟨nR_S, "set", "(II)I"⟩
theorem nh_S_set : ny_S_set.cls ≠ "java/lang/invoke/MethodHandle" ∧ ny_S_set.cls ≠ "java/lang/invoke/VarHandle" ∧ (parseMethodDescriptor ny_S_set.desc).map (fun d => d.parameters.length) = some 2 := by decide +kernel
abbrev nc_S_register : ByteArray := prog_1_method_6_code
def ny_S_register : MethodName := ⟨nR_S, "register", "(I)I"⟩
theorem nh_S_register : ny_S_register.cls ≠ "java/lang/invoke/MethodHandle" ∧ ny_S_register.cls ≠ "java/lang/invoke/VarHandle" ∧ (parseMethodDescriptor ny_S_register.desc).map (fun d => d.parameters.length) = some 1 := by decide +kernel
abbrev nc_S_go : ByteArray := prog_1_method_7_code
def ny_S_go : MethodName := ⟨nR_S, "go", "(I)I"⟩
theorem nh_S_go : ny_S_go.cls ≠ "java/lang/invoke/MethodHandle" ∧ ny_S_go.cls ≠ "java/lang/invoke/VarHandle" ∧ (parseMethodDescriptor ny_S_go.desc).map (fun d => d.parameters.length) = some 1 := by decide +kernel
abbrev nc_S_status : ByteArray := prog_1_method_8_code
def ny_S_status : MethodName := ⟨nR_S, "status", "(I)I"⟩
theorem nh_S_status : ny_S_status.cls ≠ "java/lang/invoke/MethodHandle" ∧ ny_S_status.cls ≠ "java/lang/invoke/VarHandle" ∧ (parseMethodDescriptor ny_S_status.desc).map (fun d => d.parameters.length) = some 1 := by decide +kernel
abbrev nc_S_lines : ByteArray := prog_1_method_9_code
def ny_S_lines : MethodName := ⟨nR_S, "lines", "(I)I"⟩
theorem nh_S_lines : ny_S_lines.cls ≠ "java/lang/invoke/MethodHandle" ∧ ny_S_lines.cls ≠ "java/lang/invoke/VarHandle" ∧ (parseMethodDescriptor ny_S_lines.desc).map (fun d => d.parameters.length) = some 1 := by decide +kernel
abbrev nc_S_step : ByteArray := prog_1_method_10_code
def ny_S_step : MethodName := ⟨nR_S, "step", "()I"⟩
theorem nh_S_step : ny_S_step.cls ≠ "java/lang/invoke/MethodHandle" ∧ ny_S_step.cls ≠ "java/lang/invoke/VarHandle" ∧ (parseMethodDescriptor ny_S_step.desc).map (fun d => d.parameters.length) = some 0 := by decide +kernel
abbrev nc_S_run : ByteArray := prog_1_method_11_code
def ny_S_run : MethodName := ⟨nR_S, "run", "(I)I"⟩
theorem nh_S_run : ny_S_run.cls ≠ "java/lang/invoke/MethodHandle" ∧ ny_S_run.cls ≠ "java/lang/invoke/VarHandle" ∧ (parseMethodDescriptor ny_S_run.desc).map (fun d => d.parameters.length) = some 1 := by decide +kernel
abbrev nc_S_look : ByteArray := prog_1_method_12_code
def ny_S_look : MethodName := ⟨nR_S, "look", "(I)I"⟩
theorem nh_S_look : ny_S_look.cls ≠ "java/lang/invoke/MethodHandle" ∧ ny_S_look.cls ≠ "java/lang/invoke/VarHandle" ∧ (parseMethodDescriptor ny_S_look.desc).map (fun d => d.parameters.length) = some 1 := by decide +kernel
abbrev nc_S_isPlaceOfWord : ByteArray := prog_1_method_13_code
def ny_S_isPlaceOfWord : MethodName := ⟨nR_S, "isPlaceOfWord", "(I)Z"⟩
theorem nh_S_isPlaceOfWord : ny_S_isPlaceOfWord.cls ≠ "java/lang/invoke/MethodHandle" ∧ ny_S_isPlaceOfWord.cls ≠ "java/lang/invoke/VarHandle" ∧ (parseMethodDescriptor ny_S_isPlaceOfWord.desc).map (fun d => d.parameters.length) = some 1 := by decide +kernel
abbrev nc_S_isInMemory : ByteArray := prog_1_method_14_code
def ny_S_isInMemory : MethodName := ⟨nR_S, "isInMemory", "(I)Z"⟩
theorem nh_S_isInMemory : ny_S_isInMemory.cls ≠ "java/lang/invoke/MethodHandle" ∧ ny_S_isInMemory.cls ≠ "java/lang/invoke/VarHandle" ∧ (parseMethodDescriptor ny_S_isInMemory.desc).map (fun d => d.parameters.length) = some 1 := by decide +kernel
abbrev nc_S_continueAt : ByteArray := prog_1_method_15_code
def ny_S_continueAt : MethodName := ⟨nR_S, "continueAt", "(I)V"⟩
theorem nh_S_continueAt : ny_S_continueAt.cls ≠ "java/lang/invoke/MethodHandle" ∧ ny_S_continueAt.cls ≠ "java/lang/invoke/VarHandle" ∧ (parseMethodDescriptor ny_S_continueAt.desc).map (fun d => d.parameters.length) = some 1 := by decide +kernel
abbrev nc_S_takeStep : ByteArray := prog_1_method_16_code
def ny_S_takeStep : MethodName := ⟨nR_S, "takeStep", "()I"⟩
theorem nh_S_takeStep : ny_S_takeStep.cls ≠ "java/lang/invoke/MethodHandle" ∧ ny_S_takeStep.cls ≠ "java/lang/invoke/VarHandle" ∧ (parseMethodDescriptor ny_S_takeStep.desc).map (fun d => d.parameters.length) = some 0 := by decide +kernel
abbrev nc_S_enterException : ByteArray := prog_1_method_17_code
def ny_S_enterException : MethodName := ⟨nR_S, "enterException", "(I)V"⟩
theorem nh_S_enterException : ny_S_enterException.cls ≠ "java/lang/invoke/MethodHandle" ∧ ny_S_enterException.cls ≠ "java/lang/invoke/VarHandle" ∧ (parseMethodDescriptor ny_S_enterException.desc).map (fun d => d.parameters.length) = some 1 := by decide +kernel
abbrev nc_S_finishInstruction : ByteArray := prog_1_method_18_code
def ny_S_finishInstruction : MethodName := ⟨nR_S, "finishInstruction", "()V"⟩
theorem nh_S_finishInstruction : ny_S_finishInstruction.cls ≠ "java/lang/invoke/MethodHandle" ∧ ny_S_finishInstruction.cls ≠ "java/lang/invoke/VarHandle" ∧ (parseMethodDescriptor ny_S_finishInstruction.desc).map (fun d => d.parameters.length) = some 0 := by decide +kernel
abbrev nc_S_faultAtPc : ByteArray := prog_1_method_19_code
def ny_S_faultAtPc : MethodName := ⟨nR_S, "faultAtPc", "()I"⟩
theorem nh_S_faultAtPc : ny_S_faultAtPc.cls ≠ "java/lang/invoke/MethodHandle" ∧ ny_S_faultAtPc.cls ≠ "java/lang/invoke/VarHandle" ∧ (parseMethodDescriptor ny_S_faultAtPc.desc).map (fun d => d.parameters.length) = some 0 := by decide +kernel
abbrev nc_S_perform : ByteArray := prog_1_method_20_code
def ny_S_perform : MethodName := ⟨nR_S, "perform", "(I)I"⟩
theorem nh_S_perform : ny_S_perform.cls ≠ "java/lang/invoke/MethodHandle" ∧ ny_S_perform.cls ≠ "java/lang/invoke/VarHandle" ∧ (parseMethodDescriptor ny_S_perform.desc).map (fun d => d.parameters.length) = some 1 := by decide +kernel
abbrev nc_S_orderOf : ByteArray := prog_1_method_21_code
def ny_S_orderOf : MethodName := ⟨nR_S, "orderOf", "(I)I"⟩
theorem nh_S_orderOf : ny_S_orderOf.cls ≠ "java/lang/invoke/MethodHandle" ∧ ny_S_orderOf.cls ≠ "java/lang/invoke/VarHandle" ∧ (parseMethodDescriptor ny_S_orderOf.desc).map (fun d => d.parameters.length) = some 1 := by decide +kernel
abbrev nc_S_numberS : ByteArray := prog_1_method_22_code
def ny_S_numberS : MethodName := ⟨nR_S, "numberS", "(I)I"⟩
theorem nh_S_numberS : ny_S_numberS.cls ≠ "java/lang/invoke/MethodHandle" ∧ ny_S_numberS.cls ≠ "java/lang/invoke/VarHandle" ∧ (parseMethodDescriptor ny_S_numberS.desc).map (fun d => d.parameters.length) = some 1 := by decide +kernel
abbrev nc_S_numberT : ByteArray := prog_1_method_23_code
def ny_S_numberT : MethodName := ⟨nR_S, "numberT", "(I)I"⟩
theorem nh_S_numberT : ny_S_numberT.cls ≠ "java/lang/invoke/MethodHandle" ∧ ny_S_numberT.cls ≠ "java/lang/invoke/VarHandle" ∧ (parseMethodDescriptor ny_S_numberT.desc).map (fun d => d.parameters.length) = some 1 := by decide +kernel
abbrev nc_S_numberD : ByteArray := prog_1_method_24_code
def ny_S_numberD : MethodName := ⟨nR_S, "numberD", "(I)I"⟩
theorem nh_S_numberD : ny_S_numberD.cls ≠ "java/lang/invoke/MethodHandle" ∧ ny_S_numberD.cls ≠ "java/lang/invoke/VarHandle" ∧ (parseMethodDescriptor ny_S_numberD.desc).map (fun d => d.parameters.length) = some 1 := by decide +kernel
abbrev nc_S_numberA : ByteArray := prog_1_method_25_code
def ny_S_numberA : MethodName := ⟨nR_S, "numberA", "(I)I"⟩
theorem nh_S_numberA : ny_S_numberA.cls ≠ "java/lang/invoke/MethodHandle" ∧ ny_S_numberA.cls ≠ "java/lang/invoke/VarHandle" ∧ (parseMethodDescriptor ny_S_numberA.desc).map (fun d => d.parameters.length) = some 1 := by decide +kernel
abbrev nc_S_numberK : ByteArray := prog_1_method_26_code
def ny_S_numberK : MethodName := ⟨nR_S, "numberK", "(I)I"⟩
theorem nh_S_numberK : ny_S_numberK.cls ≠ "java/lang/invoke/MethodHandle" ∧ ny_S_numberK.cls ≠ "java/lang/invoke/VarHandle" ∧ (parseMethodDescriptor ny_S_numberK.desc).map (fun d => d.parameters.length) = some 1 := by decide +kernel
abbrev nc_S_numberI : ByteArray := prog_1_method_27_code
def ny_S_numberI : MethodName := ⟨nR_S, "numberI", "(I)I"⟩
theorem nh_S_numberI : ny_S_numberI.cls ≠ "java/lang/invoke/MethodHandle" ∧ ny_S_numberI.cls ≠ "java/lang/invoke/VarHandle" ∧ (parseMethodDescriptor ny_S_numberI.desc).map (fun d => d.parameters.length) = some 1 := by decide +kernel
abbrev nc_S_numberU : ByteArray := prog_1_method_28_code
def ny_S_numberU : MethodName := ⟨nR_S, "numberU", "(I)I"⟩
theorem nh_S_numberU : ny_S_numberU.cls ≠ "java/lang/invoke/MethodHandle" ∧ ny_S_numberU.cls ≠ "java/lang/invoke/VarHandle" ∧ (parseMethodDescriptor ny_S_numberU.desc).map (fun d => d.parameters.length) = some 1 := by decide +kernel
abbrev nc_S_valueOfS : ByteArray := prog_1_method_29_code
def ny_S_valueOfS : MethodName := ⟨nR_S, "valueOfS", "(I)I"⟩
theorem nh_S_valueOfS : ny_S_valueOfS.cls ≠ "java/lang/invoke/MethodHandle" ∧ ny_S_valueOfS.cls ≠ "java/lang/invoke/VarHandle" ∧ (parseMethodDescriptor ny_S_valueOfS.desc).map (fun d => d.parameters.length) = some 1 := by decide +kernel
abbrev nc_S_valueOfT : ByteArray := prog_1_method_30_code
def ny_S_valueOfT : MethodName := ⟨nR_S, "valueOfT", "(I)I"⟩
theorem nh_S_valueOfT : ny_S_valueOfT.cls ≠ "java/lang/invoke/MethodHandle" ∧ ny_S_valueOfT.cls ≠ "java/lang/invoke/VarHandle" ∧ (parseMethodDescriptor ny_S_valueOfT.desc).map (fun d => d.parameters.length) = some 1 := by decide +kernel
abbrev nc_S_withoutSign : ByteArray := prog_1_method_31_code
def ny_S_withoutSign : MethodName := ⟨nR_S, "withoutSign", "(I)J"⟩
theorem nh_S_withoutSign : ny_S_withoutSign.cls ≠ "java/lang/invoke/MethodHandle" ∧ ny_S_withoutSign.cls ≠ "java/lang/invoke/VarHandle" ∧ (parseMethodDescriptor ny_S_withoutSign.desc).map (fun d => d.parameters.length) = some 1 := by decide +kernel
abbrev nc_S_give : ByteArray := prog_1_method_32_code
def ny_S_give : MethodName := ⟨nR_S, "give", "(II)I"⟩
theorem nh_S_give : ny_S_give.cls ≠ "java/lang/invoke/MethodHandle" ∧ ny_S_give.cls ≠ "java/lang/invoke/VarHandle" ∧ (parseMethodDescriptor ny_S_give.desc).map (fun d => d.parameters.length) = some 2 := by decide +kernel
abbrev nc_S_giveIfExact : ByteArray := prog_1_method_33_code
def ny_S_giveIfExact : MethodName := ⟨nR_S, "giveIfExact", "(IJ)I"⟩
theorem nh_S_giveIfExact : ny_S_giveIfExact.cls ≠ "java/lang/invoke/MethodHandle" ∧ ny_S_giveIfExact.cls ≠ "java/lang/invoke/VarHandle" ∧ (parseMethodDescriptor ny_S_giveIfExact.desc).map (fun d => d.parameters.length) = some 2 := by decide +kernel
abbrev nc_S_giveTruth : ByteArray := prog_1_method_34_code
def ny_S_giveTruth : MethodName := ⟨nR_S, "giveTruth", "(IZ)I"⟩
theorem nh_S_giveTruth : ny_S_giveTruth.cls ≠ "java/lang/invoke/MethodHandle" ∧ ny_S_giveTruth.cls ≠ "java/lang/invoke/VarHandle" ∧ (parseMethodDescriptor ny_S_giveTruth.desc).map (fun d => d.parameters.length) = some 2 := by decide +kernel
abbrev nc_S_giveLate : ByteArray := prog_1_method_35_code
def ny_S_giveLate : MethodName := ⟨nR_S, "giveLate", "(II)I"⟩
theorem nh_S_giveLate : ny_S_giveLate.cls ≠ "java/lang/invoke/MethodHandle" ∧ ny_S_giveLate.cls ≠ "java/lang/invoke/VarHandle" ∧ (parseMethodDescriptor ny_S_giveLate.desc).map (fun d => d.parameters.length) = some 2 := by decide +kernel
abbrev nc_S_branchIf : ByteArray := prog_1_method_36_code
def ny_S_branchIf : MethodName := ⟨nR_S, "branchIf", "(ZI)I"⟩
theorem nh_S_branchIf : ny_S_branchIf.cls ≠ "java/lang/invoke/MethodHandle" ∧ ny_S_branchIf.cls ≠ "java/lang/invoke/VarHandle" ∧ (parseMethodDescriptor ny_S_branchIf.desc).map (fun d => d.parameters.length) = some 2 := by decide +kernel
abbrev nc_S_keepHighAndLow : ByteArray := prog_1_method_37_code
def ny_S_keepHighAndLow : MethodName := ⟨nR_S, "keepHighAndLow", "(J)I"⟩
theorem nh_S_keepHighAndLow : ny_S_keepHighAndLow.cls ≠ "java/lang/invoke/MethodHandle" ∧ ny_S_keepHighAndLow.cls ≠ "java/lang/invoke/VarHandle" ∧ (parseMethodDescriptor ny_S_keepHighAndLow.desc).map (fun d => d.parameters.length) = some 1 := by decide +kernel
abbrev nc_S_performByK : ByteArray := prog_1_method_38_code
def ny_S_performByK : MethodName := ⟨nR_S, "performByK", "(I)I"⟩
theorem nh_S_performByK : ny_S_performByK.cls ≠ "java/lang/invoke/MethodHandle" ∧ ny_S_performByK.cls ≠ "java/lang/invoke/VarHandle" ∧ (parseMethodDescriptor ny_S_performByK.desc).map (fun d => d.parameters.length) = some 1 := by decide +kernel
abbrev nc_S_performShift : ByteArray := prog_1_method_39_code
def ny_S_performShift : MethodName := ⟨nR_S, "performShift", "(I)I"⟩
theorem nh_S_performShift : ny_S_performShift.cls ≠ "java/lang/invoke/MethodHandle" ∧ ny_S_performShift.cls ≠ "java/lang/invoke/VarHandle" ∧ (parseMethodDescriptor ny_S_performShift.desc).map (fun d => d.parameters.length) = some 1 := by decide +kernel
abbrev nc_S_performJumpToS : ByteArray := prog_1_method_40_code
def ny_S_performJumpToS : MethodName := ⟨nR_S, "performJumpToS", "(I)I"⟩
theorem nh_S_performJumpToS : ny_S_performJumpToS.cls ≠ "java/lang/invoke/MethodHandle" ∧ ny_S_performJumpToS.cls ≠ "java/lang/invoke/VarHandle" ∧ (parseMethodDescriptor ny_S_performJumpToS.desc).map (fun d => d.parameters.length) = some 1 := by decide +kernel
abbrev nc_S_performOnTwo : ByteArray := prog_1_method_41_code
def ny_S_performOnTwo : MethodName := ⟨nR_S, "performOnTwo", "(I)I"⟩
theorem nh_S_performOnTwo : ny_S_performOnTwo.cls ≠ "java/lang/invoke/MethodHandle" ∧ ny_S_performOnTwo.cls ≠ "java/lang/invoke/VarHandle" ∧ (parseMethodDescriptor ny_S_performOnTwo.desc).map (fun d => d.parameters.length) = some 1 := by decide +kernel
abbrev nc_S_performMove : ByteArray := prog_1_method_42_code
def ny_S_performMove : MethodName := ⟨nR_S, "performMove", "(I)I"⟩
theorem nh_S_performMove : ny_S_performMove.cls ≠ "java/lang/invoke/MethodHandle" ∧ ny_S_performMove.cls ≠ "java/lang/invoke/VarHandle" ∧ (parseMethodDescriptor ny_S_performMove.desc).map (fun d => d.parameters.length) = some 1 := by decide +kernel
abbrev nc_S_performProduct : ByteArray := prog_1_method_43_code
def ny_S_performProduct : MethodName := ⟨nR_S, "performProduct", "(I)I"⟩
theorem nh_S_performProduct : ny_S_performProduct.cls ≠ "java/lang/invoke/MethodHandle" ∧ ny_S_performProduct.cls ≠ "java/lang/invoke/VarHandle" ∧ (parseMethodDescriptor ny_S_performProduct.desc).map (fun d => d.parameters.length) = some 1 := by decide +kernel
abbrev nc_S_divide : ByteArray := prog_1_method_44_code
def ny_S_divide : MethodName := ⟨nR_S, "divide", "(II)J"⟩
theorem nh_S_divide : ny_S_divide.cls ≠ "java/lang/invoke/MethodHandle" ∧ ny_S_divide.cls ≠ "java/lang/invoke/VarHandle" ∧ (parseMethodDescriptor ny_S_divide.desc).map (fun d => d.parameters.length) = some 2 := by decide +kernel
abbrev nc_S_divideWithoutSign : ByteArray := prog_1_method_45_code
def ny_S_divideWithoutSign : MethodName := ⟨nR_S, "divideWithoutSign", "(II)J"⟩
theorem nh_S_divideWithoutSign : ny_S_divideWithoutSign.cls ≠ "java/lang/invoke/MethodHandle" ∧ ny_S_divideWithoutSign.cls ≠ "java/lang/invoke/VarHandle" ∧ (parseMethodDescriptor ny_S_divideWithoutSign.desc).map (fun d => d.parameters.length) = some 2 := by decide +kernel
abbrev nc_S_restAndQuotient : ByteArray := prog_1_method_46_code
def ny_S_restAndQuotient : MethodName := ⟨nR_S, "restAndQuotient", "(JJ)J"⟩
theorem nh_S_restAndQuotient : ny_S_restAndQuotient.cls ≠ "java/lang/invoke/MethodHandle" ∧ ny_S_restAndQuotient.cls ≠ "java/lang/invoke/VarHandle" ∧ (parseMethodDescriptor ny_S_restAndQuotient.desc).map (fun d => d.parameters.length) = some 2 := by decide +kernel
abbrev nc_S_isBranch : ByteArray := prog_1_method_47_code
def ny_S_isBranch : MethodName := ⟨nR_S, "isBranch", "(I)Z"⟩
theorem nh_S_isBranch : ny_S_isBranch.cls ≠ "java/lang/invoke/MethodHandle" ∧ ny_S_isBranch.cls ≠ "java/lang/invoke/VarHandle" ∧ (parseMethodDescriptor ny_S_isBranch.desc).map (fun d => d.parameters.length) = some 1 := by decide +kernel
abbrev nc_S_isBranchBySign : ByteArray := prog_1_method_48_code
def ny_S_isBranchBySign : MethodName := ⟨nR_S, "isBranchBySign", "(I)Z"⟩
theorem nh_S_isBranchBySign : ny_S_isBranchBySign.cls ≠ "java/lang/invoke/MethodHandle" ∧ ny_S_isBranchBySign.cls ≠ "java/lang/invoke/VarHandle" ∧ (parseMethodDescriptor ny_S_isBranchBySign.desc).map (fun d => d.parameters.length) = some 1 := by decide +kernel
abbrev nc_S_performBranchBySign : ByteArray := prog_1_method_49_code
def ny_S_performBranchBySign : MethodName := ⟨nR_S, "performBranchBySign", "(I)I"⟩
theorem nh_S_performBranchBySign : ny_S_performBranchBySign.cls ≠ "java/lang/invoke/MethodHandle" ∧ ny_S_performBranchBySign.cls ≠ "java/lang/invoke/VarHandle" ∧ (parseMethodDescriptor ny_S_performBranchBySign.desc).map (fun d => d.parameters.length) = some 1 := by decide +kernel
abbrev nc_S_performJump : ByteArray := prog_1_method_50_code
def ny_S_performJump : MethodName := ⟨nR_S, "performJump", "(I)I"⟩
theorem nh_S_performJump : ny_S_performJump.cls ≠ "java/lang/invoke/MethodHandle" ∧ ny_S_performJump.cls ≠ "java/lang/invoke/VarHandle" ∧ (parseMethodDescriptor ny_S_performJump.desc).map (fun d => d.parameters.length) = some 1 := by decide +kernel
abbrev nc_S_performBranch : ByteArray := prog_1_method_51_code
def ny_S_performBranch : MethodName := ⟨nR_S, "performBranch", "(I)I"⟩
theorem nh_S_performBranch : ny_S_performBranch.cls ≠ "java/lang/invoke/MethodHandle" ∧ ny_S_performBranch.cls ≠ "java/lang/invoke/VarHandle" ∧ (parseMethodDescriptor ny_S_performBranch.desc).map (fun d => d.parameters.length) = some 1 := by decide +kernel
abbrev nc_S_nearTarget : ByteArray := prog_1_method_52_code
def ny_S_nearTarget : MethodName := ⟨nR_S, "nearTarget", "(I)I"⟩
theorem nh_S_nearTarget : ny_S_nearTarget.cls ≠ "java/lang/invoke/MethodHandle" ∧ ny_S_nearTarget.cls ≠ "java/lang/invoke/VarHandle" ∧ (parseMethodDescriptor ny_S_nearTarget.desc).map (fun d => d.parameters.length) = some 1 := by decide +kernel
abbrev nc_S_farTarget : ByteArray := prog_1_method_53_code
def ny_S_farTarget : MethodName := ⟨nR_S, "farTarget", "(I)I"⟩
theorem nh_S_farTarget : ny_S_farTarget.cls ≠ "java/lang/invoke/MethodHandle" ∧ ny_S_farTarget.cls ≠ "java/lang/invoke/VarHandle" ∧ (parseMethodDescriptor ny_S_farTarget.desc).map (fun d => d.parameters.length) = some 1 := by decide +kernel
abbrev nc_S_performWithNumber : ByteArray := prog_1_method_54_code
def ny_S_performWithNumber : MethodName := ⟨nR_S, "performWithNumber", "(I)I"⟩
theorem nh_S_performWithNumber : ny_S_performWithNumber.cls ≠ "java/lang/invoke/MethodHandle" ∧ ny_S_performWithNumber.cls ≠ "java/lang/invoke/VarHandle" ∧ (parseMethodDescriptor ny_S_performWithNumber.desc).map (fun d => d.parameters.length) = some 1 := by decide +kernel
abbrev nc_S_performControl : ByteArray := prog_1_method_55_code
def ny_S_performControl : MethodName := ⟨nR_S, "performControl", "(I)I"⟩
theorem nh_S_performControl : ny_S_performControl.cls ≠ "java/lang/invoke/MethodHandle" ∧ ny_S_performControl.cls ≠ "java/lang/invoke/VarHandle" ∧ (parseMethodDescriptor ny_S_performControl.desc).map (fun d => d.parameters.length) = some 1 := by decide +kernel
abbrev nc_S_performLoad : ByteArray := prog_1_method_56_code
def ny_S_performLoad : MethodName := ⟨nR_S, "performLoad", "(I)I"⟩
theorem nh_S_performLoad : ny_S_performLoad.cls ≠ "java/lang/invoke/MethodHandle" ∧ ny_S_performLoad.cls ≠ "java/lang/invoke/VarHandle" ∧ (parseMethodDescriptor ny_S_performLoad.desc).map (fun d => d.parameters.length) = some 1 := by decide +kernel
abbrev nc_S_joinLoaded : ByteArray := prog_1_method_57_code
def ny_S_joinLoaded : MethodName := ⟨nR_S, "joinLoaded", "(IIII)I"⟩
theorem nh_S_joinLoaded : ny_S_joinLoaded.cls ≠ "java/lang/invoke/MethodHandle" ∧ ny_S_joinLoaded.cls ≠ "java/lang/invoke/VarHandle" ∧ (parseMethodDescriptor ny_S_joinLoaded.desc).map (fun d => d.parameters.length) = some 4 := by decide +kernel
abbrev nc_S_performStore : ByteArray := prog_1_method_58_code
def ny_S_performStore : MethodName := ⟨nR_S, "performStore", "(I)I"⟩
theorem nh_S_performStore : ny_S_performStore.cls ≠ "java/lang/invoke/MethodHandle" ∧ ny_S_performStore.cls ≠ "java/lang/invoke/VarHandle" ∧ (parseMethodDescriptor ny_S_performStore.desc).map (fun d => d.parameters.length) = some 1 := by decide +kernel
abbrev nc_S_joinStored : ByteArray := prog_1_method_59_code
def ny_S_joinStored : MethodName := ⟨nR_S, "joinStored", "(IIII)I"⟩
theorem nh_S_joinStored : ny_S_joinStored.cls ≠ "java/lang/invoke/MethodHandle" ∧ ny_S_joinStored.cls ≠ "java/lang/invoke/VarHandle" ∧ (parseMethodDescriptor ny_S_joinStored.desc).map (fun d => d.parameters.length) = some 4 := by decide +kernel
abbrev nc_S_addressOf : ByteArray := prog_1_method_60_code
def ny_S_addressOf : MethodName := ⟨nR_S, "addressOf", "(I)I"⟩
theorem nh_S_addressOf : ny_S_addressOf.cls ≠ "java/lang/invoke/MethodHandle" ∧ ny_S_addressOf.cls ≠ "java/lang/invoke/VarHandle" ∧ (parseMethodDescriptor ny_S_addressOf.desc).map (fun d => d.parameters.length) = some 1 := by decide +kernel
abbrev nc_S_faultOfData : ByteArray := prog_1_method_61_code
def ny_S_faultOfData : MethodName := ⟨nR_S, "faultOfData", "(III)I"⟩
theorem nh_S_faultOfData : ny_S_faultOfData.cls ≠ "java/lang/invoke/MethodHandle" ∧ ny_S_faultOfData.cls ≠ "java/lang/invoke/VarHandle" ∧ (parseMethodDescriptor ny_S_faultOfData.desc).map (fun d => d.parameters.length) = some 3 := by decide +kernel
abbrev nc_S_loadUnit : ByteArray := prog_1_method_62_code
def ny_S_loadUnit : MethodName := ⟨nR_S, "loadUnit", "(I)I"⟩
theorem nh_S_loadUnit : ny_S_loadUnit.cls ≠ "java/lang/invoke/MethodHandle" ∧ ny_S_loadUnit.cls ≠ "java/lang/invoke/VarHandle" ∧ (parseMethodDescriptor ny_S_loadUnit.desc).map (fun d => d.parameters.length) = some 1 := by decide +kernel
abbrev nc_S_storeUnit : ByteArray := prog_1_method_63_code
def ny_S_storeUnit : MethodName := ⟨nR_S, "storeUnit", "(I)I"⟩
theorem nh_S_storeUnit : ny_S_storeUnit.cls ≠ "java/lang/invoke/MethodHandle" ∧ ny_S_storeUnit.cls ≠ "java/lang/invoke/VarHandle" ∧ (parseMethodDescriptor ny_S_storeUnit.desc).map (fun d => d.parameters.length) = some 1 := by decide +kernel
abbrev nc_S_toLowest : ByteArray := prog_1_method_64_code
def ny_S_toLowest : MethodName := ⟨nR_S, "toLowest", "(II)I"⟩
theorem nh_S_toLowest : ny_S_toLowest.cls ≠ "java/lang/invoke/MethodHandle" ∧ ny_S_toLowest.cls ≠ "java/lang/invoke/VarHandle" ∧ (parseMethodDescriptor ny_S_toLowest.desc).map (fun d => d.parameters.length) = some 2 := by decide +kernel
abbrev nc_S_bitsAhead : ByteArray := prog_1_method_65_code
def ny_S_bitsAhead : MethodName := ⟨nR_S, "bitsAhead", "(I)I"⟩
theorem nh_S_bitsAhead : ny_S_bitsAhead.cls ≠ "java/lang/invoke/MethodHandle" ∧ ny_S_bitsAhead.cls ≠ "java/lang/invoke/VarHandle" ∧ (parseMethodDescriptor ny_S_bitsAhead.desc).map (fun d => d.parameters.length) = some 1 := by decide +kernel
abbrev nc_S_exchange : ByteArray := prog_1_method_66_code
def ny_S_exchange : MethodName := ⟨nR_S, "exchange", "(III)I"⟩
theorem nh_S_exchange : ny_S_exchange.cls ≠ "java/lang/invoke/MethodHandle" ∧ ny_S_exchange.cls ≠ "java/lang/invoke/VarHandle" ∧ (parseMethodDescriptor ny_S_exchange.desc).map (fun d => d.parameters.length) = some 3 := by decide +kernel
abbrev nc_D_init : ByteArray := prog_7_method_1_code
def ny_D_init : MethodName := ⟨nR_D, "<init>", "()V"⟩
theorem nh_D_init : ny_D_init.cls ≠ "java/lang/invoke/MethodHandle" ∧ ny_D_init.cls ≠ "java/lang/invoke/VarHandle" ∧ (parseMethodDescriptor ny_D_init.desc).map (fun d => d.parameters.length) = some 0 := by decide +kernel
abbrev nc_D_thrown : ByteArray := prog_7_method_2_code
def ny_D_thrown : MethodName := ⟨nR_D, "thrown", "()I"⟩
theorem nh_D_thrown : ny_D_thrown.cls ≠ "java/lang/invoke/MethodHandle" ∧ ny_D_thrown.cls ≠ "java/lang/invoke/VarHandle" ∧ (parseMethodDescriptor ny_D_thrown.desc).map (fun d => d.parameters.length) = some 0 := by decide +kernel
abbrev nc_D_goes : ByteArray := prog_7_method_3_code
def ny_D_goes : MethodName := ⟨nR_D, "goes", "(Z)Z"⟩
theorem nh_D_goes : ny_D_goes.cls ≠ "java/lang/invoke/MethodHandle" ∧ ny_D_goes.cls ≠ "java/lang/invoke/VarHandle" ∧ (parseMethodDescriptor ny_D_goes.desc).map (fun d => d.parameters.length) = some 1 := by decide +kernel
abbrev nc_D_reset : ByteArray := prog_7_method_4_code
def ny_D_reset : MethodName := ⟨nR_D, "reset", "()V"⟩
theorem nh_D_reset : ny_D_reset.cls ≠ "java/lang/invoke/MethodHandle" ∧ ny_D_reset.cls ≠ "java/lang/invoke/VarHandle" ∧ (parseMethodDescriptor ny_D_reset.desc).map (fun d => d.parameters.length) = some 0 := by decide +kernel
abbrev nc_D_load : ByteArray := prog_7_method_5_code
def ny_D_load : MethodName := ⟨nR_D, "load", "(II)I"⟩
theorem nh_D_load : ny_D_load.cls ≠ "java/lang/invoke/MethodHandle" ∧ ny_D_load.cls ≠ "java/lang/invoke/VarHandle" ∧ (parseMethodDescriptor ny_D_load.desc).map (fun d => d.parameters.length) = some 2 := by decide +kernel
abbrev nc_D_store : ByteArray := prog_7_method_6_code
def ny_D_store : MethodName := ⟨nR_D, "store", "(III)V"⟩
theorem nh_D_store : ny_D_store.cls ≠ "java/lang/invoke/MethodHandle" ∧ ny_D_store.cls ≠ "java/lang/invoke/VarHandle" ∧ (parseMethodDescriptor ny_D_store.desc).map (fun d => d.parameters.length) = some 3 := by decide +kernel
abbrev nc_D_isWord : ByteArray := prog_7_method_7_code
def ny_D_isWord : MethodName := ⟨nR_D, "isWord", "(I)Z"⟩
theorem nh_D_isWord : ny_D_isWord.cls ≠ "java/lang/invoke/MethodHandle" ∧ ny_D_isWord.cls ≠ "java/lang/invoke/VarHandle" ∧ (parseMethodDescriptor ny_D_isWord.desc).map (fun d => d.parameters.length) = some 1 := by decide +kernel
abbrev nc_D_put : ByteArray := prog_7_method_8_code
def ny_D_put : MethodName := ⟨nR_D, "put", "(II)I"⟩
theorem nh_D_put : ny_D_put.cls ≠ "java/lang/invoke/MethodHandle" ∧ ny_D_put.cls ≠ "java/lang/invoke/VarHandle" ∧ (parseMethodDescriptor ny_D_put.desc).map (fun d => d.parameters.length) = some 2 := by decide +kernel
abbrev nc_D_word : ByteArray := prog_7_method_9_code
def ny_D_word : MethodName := ⟨nR_D, "word", "(I)I"⟩
theorem nh_D_word : ny_D_word.cls ≠ "java/lang/invoke/MethodHandle" ∧ ny_D_word.cls ≠ "java/lang/invoke/VarHandle" ∧ (parseMethodDescriptor ny_D_word.desc).map (fun d => d.parameters.length) = some 1 := by decide +kernel
abbrev nc_D_set : ByteArray := prog_7_method_10_code
def ny_D_set : MethodName := ⟨nR_D, "set", "(II)I"⟩
theorem nh_D_set : ny_D_set.cls ≠ "java/lang/invoke/MethodHandle" ∧ ny_D_set.cls ≠ "java/lang/invoke/VarHandle" ∧ (parseMethodDescriptor ny_D_set.desc).map (fun d => d.parameters.length) = some 2 := by decide +kernel
abbrev nc_D_register : ByteArray := prog_7_method_11_code
def ny_D_register : MethodName := ⟨nR_D, "register", "(I)I"⟩
theorem nh_D_register : ny_D_register.cls ≠ "java/lang/invoke/MethodHandle" ∧ ny_D_register.cls ≠ "java/lang/invoke/VarHandle" ∧ (parseMethodDescriptor ny_D_register.desc).map (fun d => d.parameters.length) = some 1 := by decide +kernel
abbrev nc_D_go : ByteArray := prog_7_method_12_code
def ny_D_go : MethodName := ⟨nR_D, "go", "(I)I"⟩
theorem nh_D_go : ny_D_go.cls ≠ "java/lang/invoke/MethodHandle" ∧ ny_D_go.cls ≠ "java/lang/invoke/VarHandle" ∧ (parseMethodDescriptor ny_D_go.desc).map (fun d => d.parameters.length) = some 1 := by decide +kernel
abbrev nc_D_status : ByteArray := prog_7_method_13_code
def ny_D_status : MethodName := ⟨nR_D, "status", "(I)I"⟩
theorem nh_D_status : ny_D_status.cls ≠ "java/lang/invoke/MethodHandle" ∧ ny_D_status.cls ≠ "java/lang/invoke/VarHandle" ∧ (parseMethodDescriptor ny_D_status.desc).map (fun d => d.parameters.length) = some 1 := by decide +kernel
abbrev nc_D_lines : ByteArray := prog_7_method_14_code
def ny_D_lines : MethodName := ⟨nR_D, "lines", "(I)I"⟩
theorem nh_D_lines : ny_D_lines.cls ≠ "java/lang/invoke/MethodHandle" ∧ ny_D_lines.cls ≠ "java/lang/invoke/VarHandle" ∧ (parseMethodDescriptor ny_D_lines.desc).map (fun d => d.parameters.length) = some 1 := by decide +kernel
abbrev nc_D_cause : ByteArray := prog_7_method_15_code
def ny_D_cause : MethodName := ⟨nR_D, "cause", "()I"⟩
theorem nh_D_cause : ny_D_cause.cls ≠ "java/lang/invoke/MethodHandle" ∧ ny_D_cause.cls ≠ "java/lang/invoke/VarHandle" ∧ (parseMethodDescriptor ny_D_cause.desc).map (fun d => d.parameters.length) = some 0 := by decide +kernel
abbrev nc_D_user : ByteArray := prog_7_method_16_code
def ny_D_user : MethodName := ⟨nR_D, "user", "()Z"⟩
theorem nh_D_user : ny_D_user.cls ≠ "java/lang/invoke/MethodHandle" ∧ ny_D_user.cls ≠ "java/lang/invoke/VarHandle" ∧ (parseMethodDescriptor ny_D_user.desc).map (fun d => d.parameters.length) = some 0 := by decide +kernel
abbrev nc_D_isBranch : ByteArray := prog_7_method_17_code
def ny_D_isBranch : MethodName := ⟨nR_D, "isBranch", "()Z"⟩
theorem nh_D_isBranch : ny_D_isBranch.cls ≠ "java/lang/invoke/MethodHandle" ∧ ny_D_isBranch.cls ≠ "java/lang/invoke/VarHandle" ∧ (parseMethodDescriptor ny_D_isBranch.desc).map (fun d => d.parameters.length) = some 0 := by decide +kernel
abbrev nc_D_isKnown : ByteArray := prog_7_method_18_code
def ny_D_isKnown : MethodName := ⟨nR_D, "isKnown", "()Z"⟩
theorem nh_D_isKnown : ny_D_isKnown.cls ≠ "java/lang/invoke/MethodHandle" ∧ ny_D_isKnown.cls ≠ "java/lang/invoke/VarHandle" ∧ (parseMethodDescriptor ny_D_isKnown.desc).map (fun d => d.parameters.length) = some 0 := by decide +kernel
abbrev nc_D_exact : ByteArray := prog_7_method_19_code
def ny_D_exact : MethodName := ⟨nR_D, "exact", "(J)Z"⟩
theorem nh_D_exact : ny_D_exact.cls ≠ "java/lang/invoke/MethodHandle" ∧ ny_D_exact.cls ≠ "java/lang/invoke/VarHandle" ∧ (parseMethodDescriptor ny_D_exact.desc).map (fun d => d.parameters.length) = some 1 := by decide +kernel
abbrev nc_D_number : ByteArray := prog_7_method_20_code
def ny_D_number : MethodName := ⟨nR_D, "number", "()I"⟩
theorem nh_D_number : ny_D_number.cls ≠ "java/lang/invoke/MethodHandle" ∧ ny_D_number.cls ≠ "java/lang/invoke/VarHandle" ∧ (parseMethodDescriptor ny_D_number.desc).map (fun d => d.parameters.length) = some 0 := by decide +kernel
abbrev nc_D_moved : ByteArray := prog_7_method_21_code
def ny_D_moved : MethodName := ⟨nR_D, "moved", "()I"⟩
theorem nh_D_moved : ny_D_moved.cls ≠ "java/lang/invoke/MethodHandle" ∧ ny_D_moved.cls ≠ "java/lang/invoke/VarHandle" ∧ (parseMethodDescriptor ny_D_moved.desc).map (fun d => d.parameters.length) = some 0 := by decide +kernel
abbrev nc_D_inMemory : ByteArray := prog_7_method_22_code
def ny_D_inMemory : MethodName := ⟨nR_D, "inMemory", "(II)Z"⟩
theorem nh_D_inMemory : ny_D_inMemory.cls ≠ "java/lang/invoke/MethodHandle" ∧ ny_D_inMemory.cls ≠ "java/lang/invoke/VarHandle" ∧ (parseMethodDescriptor ny_D_inMemory.desc).map (fun d => d.parameters.length) = some 2 := by decide +kernel
abbrev nc_D_isPart : ByteArray := prog_7_method_23_code
def ny_D_isPart : MethodName := ⟨nR_D, "isPart", "()Z"⟩
theorem nh_D_isPart : ny_D_isPart.cls ≠ "java/lang/invoke/MethodHandle" ∧ ny_D_isPart.cls ≠ "java/lang/invoke/VarHandle" ∧ (parseMethodDescriptor ny_D_isPart.desc).map (fun d => d.parameters.length) = some 0 := by decide +kernel
abbrev nc_D_addressTrouble : ByteArray := prog_7_method_24_code
def ny_D_addressTrouble : MethodName := ⟨nR_D, "addressTrouble", "()I"⟩
theorem nh_D_addressTrouble : ny_D_addressTrouble.cls ≠ "java/lang/invoke/MethodHandle" ∧ ny_D_addressTrouble.cls ≠ "java/lang/invoke/VarHandle" ∧ (parseMethodDescriptor ny_D_addressTrouble.desc).map (fun d => d.parameters.length) = some 0 := by decide +kernel
abbrev nc_D_trouble : ByteArray := prog_7_method_25_code
def ny_D_trouble : MethodName := ⟨nR_D, "trouble", "()I"⟩
theorem nh_D_trouble : ny_D_trouble.cls ≠ "java/lang/invoke/MethodHandle" ∧ ny_D_trouble.cls ≠ "java/lang/invoke/VarHandle" ∧ (parseMethodDescriptor ny_D_trouble.desc).map (fun d => d.parameters.length) = some 0 := by decide +kernel
abbrev nc_D_gives : ByteArray := prog_7_method_26_code
def ny_D_gives : MethodName := ⟨nR_D, "gives", "(II)V"⟩
theorem nh_D_gives : ny_D_gives.cls ≠ "java/lang/invoke/MethodHandle" ∧ ny_D_gives.cls ≠ "java/lang/invoke/VarHandle" ∧ (parseMethodDescriptor ny_D_gives.desc).map (fun d => d.parameters.length) = some 2 := by decide +kernel
abbrev nc_D_less : ByteArray := prog_7_method_27_code
def ny_D_less : MethodName := ⟨nR_D, "less", "(II)Z"⟩
theorem nh_D_less : ny_D_less.cls ≠ "java/lang/invoke/MethodHandle" ∧ ny_D_less.cls ≠ "java/lang/invoke/VarHandle" ∧ (parseMethodDescriptor ny_D_less.desc).map (fun d => d.parameters.length) = some 2 := by decide +kernel
abbrev nc_D_multiply : ByteArray := prog_7_method_28_code
def ny_D_multiply : MethodName := ⟨nR_D, "multiply", "(Z)V"⟩
theorem nh_D_multiply : ny_D_multiply.cls ≠ "java/lang/invoke/MethodHandle" ∧ ny_D_multiply.cls ≠ "java/lang/invoke/VarHandle" ∧ (parseMethodDescriptor ny_D_multiply.desc).map (fun d => d.parameters.length) = some 1 := by decide +kernel
abbrev nc_D_divide : ByteArray := prog_7_method_29_code
def ny_D_divide : MethodName := ⟨nR_D, "divide", "(Z)V"⟩
theorem nh_D_divide : ny_D_divide.cls ≠ "java/lang/invoke/MethodHandle" ∧ ny_D_divide.cls ≠ "java/lang/invoke/VarHandle" ∧ (parseMethodDescriptor ny_D_divide.desc).map (fun d => d.parameters.length) = some 1 := by decide +kernel
abbrev nc_D_shifts : ByteArray := prog_7_method_30_code
def ny_D_shifts : MethodName := ⟨nR_D, "shifts", "(I)V"⟩
theorem nh_D_shifts : ny_D_shifts.cls ≠ "java/lang/invoke/MethodHandle" ∧ ny_D_shifts.cls ≠ "java/lang/invoke/VarHandle" ∧ (parseMethodDescriptor ny_D_shifts.desc).map (fun d => d.parameters.length) = some 1 := by decide +kernel
abbrev nc_D_byRegisters : ByteArray := prog_7_method_31_code
def ny_D_byRegisters : MethodName := ⟨nR_D, "byRegisters", "()V"⟩
theorem nh_D_byRegisters : ny_D_byRegisters.cls ≠ "java/lang/invoke/MethodHandle" ∧ ny_D_byRegisters.cls ≠ "java/lang/invoke/VarHandle" ∧ (parseMethodDescriptor ny_D_byRegisters.desc).map (fun d => d.parameters.length) = some 0 := by decide +kernel
abbrev nc_D_branch : ByteArray := prog_7_method_32_code
def ny_D_branch : MethodName := ⟨nR_D, "branch", "()V"⟩
theorem nh_D_branch : ny_D_branch.cls ≠ "java/lang/invoke/MethodHandle" ∧ ny_D_branch.cls ≠ "java/lang/invoke/VarHandle" ∧ (parseMethodDescriptor ny_D_branch.desc).map (fun d => d.parameters.length) = some 0 := by decide +kernel
abbrev nc_D_byNumber : ByteArray := prog_7_method_33_code
def ny_D_byNumber : MethodName := ⟨nR_D, "byNumber", "()V"⟩
theorem nh_D_byNumber : ny_D_byNumber.cls ≠ "java/lang/invoke/MethodHandle" ∧ ny_D_byNumber.cls ≠ "java/lang/invoke/VarHandle" ∧ (parseMethodDescriptor ny_D_byNumber.desc).map (fun d => d.parameters.length) = some 0 := by decide +kernel
abbrev nc_D_control : ByteArray := prog_7_method_34_code
def ny_D_control : MethodName := ⟨nR_D, "control", "()V"⟩
theorem nh_D_control : ny_D_control.cls ≠ "java/lang/invoke/MethodHandle" ∧ ny_D_control.cls ≠ "java/lang/invoke/VarHandle" ∧ (parseMethodDescriptor ny_D_control.desc).map (fun d => d.parameters.length) = some 0 := by decide +kernel
abbrev nc_D_part : ByteArray := prog_7_method_35_code
def ny_D_part : MethodName := ⟨nR_D, "part", "(I)V"⟩
theorem nh_D_part : ny_D_part.cls ≠ "java/lang/invoke/MethodHandle" ∧ ny_D_part.cls ≠ "java/lang/invoke/VarHandle" ∧ (parseMethodDescriptor ny_D_part.desc).map (fun d => d.parameters.length) = some 1 := by decide +kernel
abbrev nc_D_memory : ByteArray := prog_7_method_36_code
def ny_D_memory : MethodName := ⟨nR_D, "memory", "()V"⟩
theorem nh_D_memory : ny_D_memory.cls ≠ "java/lang/invoke/MethodHandle" ∧ ny_D_memory.cls ≠ "java/lang/invoke/VarHandle" ∧ (parseMethodDescriptor ny_D_memory.desc).map (fun d => d.parameters.length) = some 0 := by decide +kernel
abbrev nc_D_act : ByteArray := prog_7_method_37_code
def ny_D_act : MethodName := ⟨nR_D, "act", "()V"⟩
theorem nh_D_act : ny_D_act.cls ≠ "java/lang/invoke/MethodHandle" ∧ ny_D_act.cls ≠ "java/lang/invoke/VarHandle" ∧ (parseMethodDescriptor ny_D_act.desc).map (fun d => d.parameters.length) = some 0 := by decide +kernel
abbrev nc_D_settle : ByteArray := prog_7_method_38_code
def ny_D_settle : MethodName := ⟨nR_D, "settle", "()V"⟩
theorem nh_D_settle : ny_D_settle.cls ≠ "java/lang/invoke/MethodHandle" ∧ ny_D_settle.cls ≠ "java/lang/invoke/VarHandle" ∧ (parseMethodDescriptor ny_D_settle.desc).map (fun d => d.parameters.length) = some 0 := by decide +kernel
abbrev nc_D_except : ByteArray := prog_7_method_39_code
def ny_D_except : MethodName := ⟨nR_D, "except", "(I)V"⟩
theorem nh_D_except : ny_D_except.cls ≠ "java/lang/invoke/MethodHandle" ∧ ny_D_except.cls ≠ "java/lang/invoke/VarHandle" ∧ (parseMethodDescriptor ny_D_except.desc).map (fun d => d.parameters.length) = some 1 := by decide +kernel
abbrev nc_D_fetch : ByteArray := prog_7_method_40_code
def ny_D_fetch : MethodName := ⟨nR_D, "fetch", "()I"⟩
theorem nh_D_fetch : ny_D_fetch.cls ≠ "java/lang/invoke/MethodHandle" ∧ ny_D_fetch.cls ≠ "java/lang/invoke/VarHandle" ∧ (parseMethodDescriptor ny_D_fetch.desc).map (fun d => d.parameters.length) = some 0 := by decide +kernel
abbrev nc_D_read : ByteArray := prog_7_method_41_code
def ny_D_read : MethodName := ⟨nR_D, "read", "()V"⟩
theorem nh_D_read : ny_D_read.cls ≠ "java/lang/invoke/MethodHandle" ∧ ny_D_read.cls ≠ "java/lang/invoke/VarHandle" ∧ (parseMethodDescriptor ny_D_read.desc).map (fun d => d.parameters.length) = some 0 := by decide +kernel
abbrev nc_D_oneStep : ByteArray := prog_7_method_42_code
def ny_D_oneStep : MethodName := ⟨nR_D, "oneStep", "()I"⟩
theorem nh_D_oneStep : ny_D_oneStep.cls ≠ "java/lang/invoke/MethodHandle" ∧ ny_D_oneStep.cls ≠ "java/lang/invoke/VarHandle" ∧ (parseMethodDescriptor ny_D_oneStep.desc).map (fun d => d.parameters.length) = some 0 := by decide +kernel
abbrev nc_D_step : ByteArray := prog_7_method_43_code
def ny_D_step : MethodName := ⟨nR_D, "step", "()I"⟩
theorem nh_D_step : ny_D_step.cls ≠ "java/lang/invoke/MethodHandle" ∧ ny_D_step.cls ≠ "java/lang/invoke/VarHandle" ∧ (parseMethodDescriptor ny_D_step.desc).map (fun d => d.parameters.length) = some 0 := by decide +kernel
abbrev nc_D_run : ByteArray := prog_7_method_44_code
def ny_D_run : MethodName := ⟨nR_D, "run", "(I)I"⟩
theorem nh_D_run : ny_D_run.cls ≠ "java/lang/invoke/MethodHandle" ∧ ny_D_run.cls ≠ "java/lang/invoke/VarHandle" ∧ (parseMethodDescriptor ny_D_run.desc).map (fun d => d.parameters.length) = some 1 := by decide +kernel
abbrev nc_D_look : ByteArray := prog_7_method_45_code
def ny_D_look : MethodName := ⟨nR_D, "look", "(I)I"⟩
theorem nh_D_look : ny_D_look.cls ≠ "java/lang/invoke/MethodHandle" ∧ ny_D_look.cls ≠ "java/lang/invoke/VarHandle" ∧ (parseMethodDescriptor ny_D_look.desc).map (fun d => d.parameters.length) = some 1 := by decide +kernel
abbrev nc_C_init : ByteArray := prog_2_method_1_code
def ny_C_init : MethodName := ⟨nR_C, "<init>", "()V"⟩
theorem nh_C_init : ny_C_init.cls ≠ "java/lang/invoke/MethodHandle" ∧ ny_C_init.cls ≠ "java/lang/invoke/VarHandle" ∧ (parseMethodDescriptor ny_C_init.desc).map (fun d => d.parameters.length) = some 0 := by decide +kernel
abbrev nc_C_wholeCause : ByteArray := prog_2_method_2_code
def ny_C_wholeCause : MethodName := ⟨nR_C, "wholeCause", "()I"⟩
theorem nh_C_wholeCause : ny_C_wholeCause.cls ≠ "java/lang/invoke/MethodHandle" ∧ ny_C_wholeCause.cls ≠ "java/lang/invoke/VarHandle" ∧ (parseMethodDescriptor ny_C_wholeCause.desc).map (fun d => d.parameters.length) = some 0 := by decide +kernel
abbrev nc_C_isUser : ByteArray := prog_2_method_3_code
def ny_C_isUser : MethodName := ⟨nR_C, "isUser", "()Z"⟩
theorem nh_C_isUser : ny_C_isUser.cls ≠ "java/lang/invoke/MethodHandle" ∧ ny_C_isUser.cls ≠ "java/lang/invoke/VarHandle" ∧ (parseMethodDescriptor ny_C_isUser.desc).map (fun d => d.parameters.length) = some 0 := by decide +kernel
abbrev nc_C_forbids : ByteArray := prog_2_method_4_code
def ny_C_forbids : MethodName := ⟨nR_C, "forbids", "(I)Z"⟩
theorem nh_C_forbids : ny_C_forbids.cls ≠ "java/lang/invoke/MethodHandle" ∧ ny_C_forbids.cls ≠ "java/lang/invoke/VarHandle" ∧ (parseMethodDescriptor ny_C_forbids.desc).map (fun d => d.parameters.length) = some 1 := by decide +kernel
abbrev nc_C_interruptIsDue : ByteArray := prog_2_method_5_code
def ny_C_interruptIsDue : MethodName := ⟨nR_C, "interruptIsDue", "()Z"⟩
theorem nh_C_interruptIsDue : ny_C_interruptIsDue.cls ≠ "java/lang/invoke/MethodHandle" ∧ ny_C_interruptIsDue.cls ≠ "java/lang/invoke/VarHandle" ∧ (parseMethodDescriptor ny_C_interruptIsDue.desc).map (fun d => d.parameters.length) = some 0 := by decide +kernel
abbrev nc_C_valueOf : ByteArray := prog_2_method_6_code
def ny_C_valueOf : MethodName := ⟨nR_C, "valueOf", "(I)I"⟩
theorem nh_C_valueOf : ny_C_valueOf.cls ≠ "java/lang/invoke/MethodHandle" ∧ ny_C_valueOf.cls ≠ "java/lang/invoke/VarHandle" ∧ (parseMethodDescriptor ny_C_valueOf.desc).map (fun d => d.parameters.length) = some 1 := by decide +kernel
abbrev nc_C_change : ByteArray := prog_2_method_7_code
def ny_C_change : MethodName := ⟨nR_C, "change", "(II)V"⟩
theorem nh_C_change : ny_C_change.cls ≠ "java/lang/invoke/MethodHandle" ∧ ny_C_change.cls ≠ "java/lang/invoke/VarHandle" ∧ (parseMethodDescriptor ny_C_change.desc).map (fun d => d.parameters.length) = some 2 := by decide +kernel
abbrev nc_C_enter : ByteArray := prog_2_method_8_code
def ny_C_enter : MethodName := ⟨nR_C, "enter", "(IIZ)V"⟩
theorem nh_C_enter : ny_C_enter.cls ≠ "java/lang/invoke/MethodHandle" ∧ ny_C_enter.cls ≠ "java/lang/invoke/VarHandle" ∧ (parseMethodDescriptor ny_C_enter.desc).map (fun d => d.parameters.length) = some 3 := by decide +kernel
abbrev nc_C_leave : ByteArray := prog_2_method_9_code
def ny_C_leave : MethodName := ⟨nR_C, "leave", "()V"⟩
theorem nh_C_leave : ny_C_leave.cls ≠ "java/lang/invoke/MethodHandle" ∧ ny_C_leave.cls ≠ "java/lang/invoke/VarHandle" ∧ (parseMethodDescriptor ny_C_leave.desc).map (fun d => d.parameters.length) = some 0 := by decide +kernel
abbrev nc_C_clear : ByteArray := prog_2_method_10_code
def ny_C_clear : MethodName := ⟨nR_C, "clear", "()V"⟩
theorem nh_C_clear : ny_C_clear.cls ≠ "java/lang/invoke/MethodHandle" ∧ ny_C_clear.cls ≠ "java/lang/invoke/VarHandle" ∧ (parseMethodDescriptor ny_C_clear.desc).map (fun d => d.parameters.length) = some 0 := by decide +kernel
abbrev nc_M_init : ByteArray := prog_3_method_1_code
def ny_M_init : MethodName := ⟨nR_M, "<init>", "()V"⟩
theorem nh_M_init : ny_M_init.cls ≠ "java/lang/invoke/MethodHandle" ∧ ny_M_init.cls ≠ "java/lang/invoke/VarHandle" ∧ (parseMethodDescriptor ny_M_init.desc).map (fun d => d.parameters.length) = some 0 := by decide +kernel
abbrev nc_M_wordAround : ByteArray := prog_3_method_2_code
def ny_M_wordAround : MethodName := ⟨nR_M, "wordAround", "(I)I"⟩
theorem nh_M_wordAround : ny_M_wordAround.cls ≠ "java/lang/invoke/MethodHandle" ∧ ny_M_wordAround.cls ≠ "java/lang/invoke/VarHandle" ∧ (parseMethodDescriptor ny_M_wordAround.desc).map (fun d => d.parameters.length) = some 1 := by decide +kernel
abbrev nc_M_replaceWord : ByteArray := prog_3_method_3_code
def ny_M_replaceWord : MethodName := ⟨nR_M, "replaceWord", "(II)V"⟩
theorem nh_M_replaceWord : ny_M_replaceWord.cls ≠ "java/lang/invoke/MethodHandle" ∧ ny_M_replaceWord.cls ≠ "java/lang/invoke/VarHandle" ∧ (parseMethodDescriptor ny_M_replaceWord.desc).map (fun d => d.parameters.length) = some 2 := by decide +kernel
abbrev nc_M_indexOf : ByteArray := prog_3_method_4_code
def ny_M_indexOf : MethodName := ⟨nR_M, "indexOf", "(I)I"⟩
theorem nh_M_indexOf : ny_M_indexOf.cls ≠ "java/lang/invoke/MethodHandle" ∧ ny_M_indexOf.cls ≠ "java/lang/invoke/VarHandle" ∧ (parseMethodDescriptor ny_M_indexOf.desc).map (fun d => d.parameters.length) = some 1 := by decide +kernel
abbrev nc_O_init : ByteArray := prog_4_method_1_code
def ny_O_init : MethodName := ⟨nR_O, "<init>", "()V"⟩
theorem nh_O_init : ny_O_init.cls ≠ "java/lang/invoke/MethodHandle" ∧ ny_O_init.cls ≠ "java/lang/invoke/VarHandle" ∧ (parseMethodDescriptor ny_O_init.desc).map (fun d => d.parameters.length) = some 0 := by decide +kernel
abbrev nc_O_begin : ByteArray := prog_4_method_2_code
def ny_O_begin : MethodName := ⟨nR_O, "begin", "(I)V"⟩
theorem nh_O_begin : ny_O_begin.cls ≠ "java/lang/invoke/MethodHandle" ∧ ny_O_begin.cls ≠ "java/lang/invoke/VarHandle" ∧ (parseMethodDescriptor ny_O_begin.desc).map (fun d => d.parameters.length) = some 1 := by decide +kernel
abbrev nc_R_init : ByteArray := prog_5_method_1_code
def ny_R_init : MethodName := ⟨nR_R, "<init>", "()V"⟩
theorem nh_R_init : ny_R_init.cls ≠ "java/lang/invoke/MethodHandle" ∧ ny_R_init.cls ≠ "java/lang/invoke/VarHandle" ∧ (parseMethodDescriptor ny_R_init.desc).map (fun d => d.parameters.length) = some 0 := by decide +kernel
abbrev nc_R_valueOf : ByteArray := prog_5_method_2_code
def ny_R_valueOf : MethodName := ⟨nR_R, "valueOf", "(I)I"⟩
theorem nh_R_valueOf : ny_R_valueOf.cls ≠ "java/lang/invoke/MethodHandle" ∧ ny_R_valueOf.cls ≠ "java/lang/invoke/VarHandle" ∧ (parseMethodDescriptor ny_R_valueOf.desc).map (fun d => d.parameters.length) = some 1 := by decide +kernel
abbrev nc_R_change : ByteArray := prog_5_method_3_code
def ny_R_change : MethodName := ⟨nR_R, "change", "(II)V"⟩
theorem nh_R_change : ny_R_change.cls ≠ "java/lang/invoke/MethodHandle" ∧ ny_R_change.cls ≠ "java/lang/invoke/VarHandle" ∧ (parseMethodDescriptor ny_R_change.desc).map (fun d => d.parameters.length) = some 2 := by decide +kernel
abbrev nc_R_latestOf : ByteArray := prog_5_method_4_code
def ny_R_latestOf : MethodName := ⟨nR_R, "latestOf", "(I)I"⟩
theorem nh_R_latestOf : ny_R_latestOf.cls ≠ "java/lang/invoke/MethodHandle" ∧ ny_R_latestOf.cls ≠ "java/lang/invoke/VarHandle" ∧ (parseMethodDescriptor ny_R_latestOf.desc).map (fun d => d.parameters.length) = some 1 := by decide +kernel
abbrev nc_R_holdLoad : ByteArray := prog_5_method_5_code
def ny_R_holdLoad : MethodName := ⟨nR_R, "holdLoad", "(II)V"⟩
theorem nh_R_holdLoad : ny_R_holdLoad.cls ≠ "java/lang/invoke/MethodHandle" ∧ ny_R_holdLoad.cls ≠ "java/lang/invoke/VarHandle" ∧ (parseMethodDescriptor ny_R_holdLoad.desc).map (fun d => d.parameters.length) = some 2 := by decide +kernel
abbrev nc_R_landLoad : ByteArray := prog_5_method_6_code
def ny_R_landLoad : MethodName := ⟨nR_R, "landLoad", "()V"⟩
theorem nh_R_landLoad : ny_R_landLoad.cls ≠ "java/lang/invoke/MethodHandle" ∧ ny_R_landLoad.cls ≠ "java/lang/invoke/VarHandle" ∧ (parseMethodDescriptor ny_R_landLoad.desc).map (fun d => d.parameters.length) = some 0 := by decide +kernel
abbrev nc_R_dropLoad : ByteArray := prog_5_method_7_code
def ny_R_dropLoad : MethodName := ⟨nR_R, "dropLoad", "()V"⟩
theorem nh_R_dropLoad : ny_R_dropLoad.cls ≠ "java/lang/invoke/MethodHandle" ∧ ny_R_dropLoad.cls ≠ "java/lang/invoke/VarHandle" ∧ (parseMethodDescriptor ny_R_dropLoad.desc).map (fun d => d.parameters.length) = some 0 := by decide +kernel
abbrev nc_R_clear : ByteArray := prog_5_method_8_code
def ny_R_clear : MethodName := ⟨nR_R, "clear", "()V"⟩
theorem nh_R_clear : ny_R_clear.cls ≠ "java/lang/invoke/MethodHandle" ∧ ny_R_clear.cls ≠ "java/lang/invoke/VarHandle" ∧ (parseMethodDescriptor ny_R_clear.desc).map (fun d => d.parameters.length) = some 0 := by decide +kernel
abbrev nc_L_put : ByteArray := method_3_code
def ny_L_put : MethodName := ⟨nR_L, "put", "(LSlotCore;II[J)I"⟩
theorem nh_L_put : ny_L_put.cls ≠ "java/lang/invoke/MethodHandle" ∧ ny_L_put.cls ≠ "java/lang/invoke/VarHandle" ∧ (parseMethodDescriptor ny_L_put.desc).map (fun d => d.parameters.length) = some 4 := by decide +kernel
abbrev nc_L_word : ByteArray := method_4_code
def ny_L_word : MethodName := ⟨nR_L, "word", "(LSlotCore;I[J)I"⟩
theorem nh_L_word : ny_L_word.cls ≠ "java/lang/invoke/MethodHandle" ∧ ny_L_word.cls ≠ "java/lang/invoke/VarHandle" ∧ (parseMethodDescriptor ny_L_word.desc).map (fun d => d.parameters.length) = some 3 := by decide +kernel
abbrev nc_L_set : ByteArray := method_5_code
def ny_L_set : MethodName := ⟨nR_L, "set", "(LSlotCore;II[J)I"⟩
theorem nh_L_set : ny_L_set.cls ≠ "java/lang/invoke/MethodHandle" ∧ ny_L_set.cls ≠ "java/lang/invoke/VarHandle" ∧ (parseMethodDescriptor ny_L_set.desc).map (fun d => d.parameters.length) = some 4 := by decide +kernel
abbrev nc_L_register : ByteArray := method_6_code
def ny_L_register : MethodName := ⟨nR_L, "register", "(LSlotCore;I[J)I"⟩
theorem nh_L_register : ny_L_register.cls ≠ "java/lang/invoke/MethodHandle" ∧ ny_L_register.cls ≠ "java/lang/invoke/VarHandle" ∧ (parseMethodDescriptor ny_L_register.desc).map (fun d => d.parameters.length) = some 3 := by decide +kernel
abbrev nc_L_lines : ByteArray := method_7_code
def ny_L_lines : MethodName := ⟨nR_L, "lines", "(LSlotCore;I[J)I"⟩
theorem nh_L_lines : ny_L_lines.cls ≠ "java/lang/invoke/MethodHandle" ∧ ny_L_lines.cls ≠ "java/lang/invoke/VarHandle" ∧ (parseMethodDescriptor ny_L_lines.desc).map (fun d => d.parameters.length) = some 3 := by decide +kernel
abbrev nc_L_run : ByteArray := method_8_code
def ny_L_run : MethodName := ⟨nR_L, "run", "(LSlotCore;I[J)I"⟩
theorem nh_L_run : ny_L_run.cls ≠ "java/lang/invoke/MethodHandle" ∧ ny_L_run.cls ≠ "java/lang/invoke/VarHandle" ∧ (parseMethodDescriptor ny_L_run.desc).map (fun d => d.parameters.length) = some 3 := by decide +kernel
abbrev nc_L_look : ByteArray := method_9_code
def ny_L_look : MethodName := ⟨nR_L, "look", "(LSlotCore;I[J)I"⟩
theorem nh_L_look : ny_L_look.cls ≠ "java/lang/invoke/MethodHandle" ∧ ny_L_look.cls ≠ "java/lang/invoke/VarHandle" ∧ (parseMethodDescriptor ny_L_look.desc).map (fun d => d.parameters.length) = some 3 := by decide +kernel
def GW : List Cond := [.initialized nR_L,
  .initialized nR_S,
  .initialized nR_M,
  .initialized nR_R,
  .initialized nR_C,
  .initialized nR_O,
  .initialized nR_D,
  .classLink nR_L 8 nR_S,
  .instantiable nR_S 9,
  .methodLink nR_L 36 ny_S_init,
  .instanceMethod ny_S_init,
  .code ny_S_init nc_S_init 1 none,
  .methodLink nR_S 3 objectInit,
  .instanceMethod objectInit,
  .code objectInit ⟨#[0xb1]⟩ 1 none,
  .classLink nR_S 9 nR_M,
  .instantiable nR_M 1,
  .instanceMethod ny_M_init,
  .code ny_M_init nc_M_init 1 none,
  .methodLink nR_M 3 objectInit,
  .fieldLink nR_M 9 "SlotCore$Memory" "words" "[I",
  .laysFinal nR_M "SlotCore$Memory" "words" "[I",
  .arrayClass .int,
  .classLink nR_S 16 nR_R,
  .instantiable nR_R 3,
  .instanceMethod ny_R_init,
  .code ny_R_init nc_R_init 1 none,
  .methodLink nR_R 3 objectInit,
  .fieldLink nR_R 9 "SlotCore$Registers" "values" "[I",
  .fieldLink nR_R 15 "SlotCore$Registers" "waitsFor" "I",
  .fieldLink nR_R 19 "SlotCore$Registers" "waitingValue" "I",
  .laysFinal nR_R "SlotCore$Registers" "values" "[I",
  .lays nR_R "SlotCore$Registers" "waitsFor" "I",
  .lays nR_R "SlotCore$Registers" "waitingValue" "I",
  .classLink nR_S 23 nR_C,
  .instantiable nR_C 5,
  .instanceMethod ny_C_init,
  .code ny_C_init nc_C_init 1 none,
  .methodLink nR_C 3 objectInit,
  .fieldLink nR_C 18 "SlotCore$Control" "statusBits" "I",
  .fieldLink nR_C 9 "SlotCore$Control" "causeBits" "I",
  .fieldLink nR_C 15 "SlotCore$Control" "lineBits" "I",
  .fieldLink nR_C 30 "SlotCore$Control" "returnAddress" "I",
  .fieldLink nR_C 33 "SlotCore$Control" "badAddress" "I",
  .lays nR_C "SlotCore$Control" "statusBits" "I",
  .lays nR_C "SlotCore$Control" "causeBits" "I",
  .lays nR_C "SlotCore$Control" "lineBits" "I",
  .lays nR_C "SlotCore$Control" "returnAddress" "I",
  .lays nR_C "SlotCore$Control" "badAddress" "I",
  .classLink nR_S 30 nR_O,
  .instantiable nR_O 5,
  .instanceMethod ny_O_init,
  .code ny_O_init nc_O_init 1 none,
  .methodLink nR_O 3 objectInit,
  .fieldLink nR_O 9 "SlotCore$Outcome" "register" "I",
  .fieldLink nR_O 15 "SlotCore$Outcome" "isLoad" "Z",
  .fieldLink nR_O 19 "SlotCore$Outcome" "isBranch" "Z",
  .fieldLink nR_O 22 "SlotCore$Outcome" "afterNext" "I",
  .lays nR_O "SlotCore$Outcome" "register" "I",
  .lays nR_O "SlotCore$Outcome" "value" "I",
  .lays nR_O "SlotCore$Outcome" "isLoad" "Z",
  .lays nR_O "SlotCore$Outcome" "isBranch" "Z",
  .lays nR_O "SlotCore$Outcome" "afterNext" "I",
  .fieldLink nR_S 12 "SlotCore" "memory" "LSlotCore$Memory;",
  .fieldLink nR_S 19 "SlotCore" "registers" "LSlotCore$Registers;",
  .fieldLink nR_S 26 "SlotCore" "control" "LSlotCore$Control;",
  .fieldLink nR_S 33 "SlotCore" "outcome" "LSlotCore$Outcome;",
  .fieldLink nR_S 76 "SlotCore" "pc" "I",
  .fieldLink nR_S 37 "SlotCore" "next" "I",
  .fieldLink nR_S 105 "SlotCore" "inSlot" "Z",
  .fieldLink nR_S 49 "SlotCore" "steps" "I",
  .fieldLink nR_S 52 "SlotCore" "exceptions" "I",
  .laysFinal nR_S "SlotCore" "memory" "LSlotCore$Memory;",
  .laysFinal nR_S "SlotCore" "registers" "LSlotCore$Registers;",
  .laysFinal nR_S "SlotCore" "control" "LSlotCore$Control;",
  .laysFinal nR_S "SlotCore" "outcome" "LSlotCore$Outcome;",
  .lays nR_S "SlotCore" "pc" "I",
  .lays nR_S "SlotCore" "next" "I",
  .lays nR_S "SlotCore" "inSlot" "Z",
  .lays nR_S "SlotCore" "steps" "I",
  .lays nR_S "SlotCore" "exceptions" "I",
  .methodLink nR_L 40 ny_S_reset,
  .instanceMethod ny_S_reset,
  .selects nR_S ny_S_reset ny_S_reset,
  .code ny_S_reset nc_S_reset 1 none,
  .selects nR_R ny_R_clear ny_R_clear,
  .instanceMethod ny_R_clear,
  .code ny_R_clear nc_R_clear 2 none,
  .methodLink nR_R 30 ny_R_dropLoad,
  .selects nR_R ny_R_dropLoad ny_R_dropLoad,
  .instanceMethod ny_R_dropLoad,
  .code ny_R_dropLoad nc_R_dropLoad 1 none,
  .methodLink nR_R 33 ny_R_holdLoad,
  .selects nR_R ny_R_holdLoad ny_R_holdLoad,
  .instanceMethod ny_R_holdLoad,
  .code ny_R_holdLoad nc_R_holdLoad 3 none,
  .selects nR_C ny_C_clear ny_C_clear,
  .instanceMethod ny_C_clear,
  .code ny_C_clear nc_C_clear 1 none,
  .methodLink nR_S 45 ny_S_continueAt,
  .selects nR_S ny_S_continueAt ny_S_continueAt,
  .instanceMethod ny_S_continueAt,
  .code ny_S_continueAt nc_S_continueAt 2 none,
  .methodLink nR_L 64 ny_S_go,
  .instanceMethod ny_S_go,
  .selects nR_S ny_S_go ny_S_go,
  .code ny_S_go nc_S_go 3 (some .int),
  .methodLink nR_L 68 ny_S_status,
  .instanceMethod ny_S_status,
  .selects nR_S ny_S_status ny_S_status,
  .code ny_S_status nc_S_status 3 (some .int),
  .selects nR_C ny_C_change ny_C_change,
  .instanceMethod ny_C_change,
  .code ny_C_change nc_C_change 3 none,
  .constant nR_C 36 65343,
  .static ny_S_exchange,
  .code ny_S_exchange nc_S_exchange 3 (some .int),
  .methodLink nR_L 75 ny_S_step,
  .instanceMethod ny_S_step,
  .selects nR_S ny_S_step ny_S_step,
  .code ny_S_step nc_S_step 1 (some .int),
  .methodLink nR_S 92 ny_S_takeStep,
  .selects nR_S ny_S_takeStep ny_S_takeStep,
  .instanceMethod ny_S_takeStep,
  .code ny_S_takeStep nc_S_takeStep 2 (some .int),
  .selects nR_C ny_C_interruptIsDue ny_C_interruptIsDue,
  .instanceMethod ny_C_interruptIsDue,
  .code ny_C_interruptIsDue nc_C_interruptIsDue 1 (some .boolean),
  .methodLink nR_C 25 ny_C_wholeCause,
  .selects nR_C ny_C_wholeCause ny_C_wholeCause,
  .instanceMethod ny_C_wholeCause,
  .code ny_C_wholeCause nc_C_wholeCause 1 (some .int),
  .constant nR_C 29 65280,
  .methodLink nR_S 122 ny_S_enterException,
  .selects nR_S ny_S_enterException ny_S_enterException,
  .instanceMethod ny_S_enterException,
  .code ny_S_enterException nc_S_enterException 2 none,
  .selects nR_R ny_R_landLoad ny_R_landLoad,
  .instanceMethod ny_R_landLoad,
  .code ny_R_landLoad nc_R_landLoad 1 none,
  .methodLink nR_R 26 ny_R_change,
  .selects nR_R ny_R_change ny_R_change,
  .instanceMethod ny_R_change,
  .code ny_R_change nc_R_change 3 none,
  .selects nR_C ny_C_enter ny_C_enter,
  .instanceMethod ny_C_enter,
  .code ny_C_enter nc_C_enter 4 none,
  .constant nR_C 41 (-2147483648),
  .constant nR_S 142 (-2147483520),
  .methodLink nR_S 125 ny_S_faultAtPc,
  .selects nR_S ny_S_faultAtPc ny_S_faultAtPc,
  .instanceMethod ny_S_faultAtPc,
  .code ny_S_faultAtPc nc_S_faultAtPc 1 (some .int),
  .selects nR_C ny_C_forbids ny_C_forbids,
  .instanceMethod ny_C_forbids,
  .code ny_C_forbids nc_C_forbids 2 (some .boolean),
  .methodLink nR_C 21 ny_C_isUser,
  .selects nR_C ny_C_isUser ny_C_isUser,
  .instanceMethod ny_C_isUser,
  .code ny_C_isUser nc_C_isUser 1 (some .boolean),
  .constant nR_S 128 536870911,
  .methodLink nR_S 115 ny_S_isInMemory,
  .static ny_S_isInMemory,
  .code ny_S_isInMemory nc_S_isInMemory 1 (some .boolean),
  .selects nR_M ny_M_wordAround ny_M_wordAround,
  .instanceMethod ny_M_wordAround,
  .code ny_M_wordAround nc_M_wordAround 2 (some .int),
  .methodLink nR_M 15 ny_M_indexOf,
  .static ny_M_indexOf,
  .code ny_M_indexOf nc_M_indexOf 1 (some .int),
  .methodLink nR_S 129 ny_S_perform,
  .selects nR_S ny_S_perform ny_S_perform,
  .instanceMethod ny_S_perform,
  .code ny_S_perform nc_S_perform 2 (some .int),
  .selects nR_O ny_O_begin ny_O_begin,
  .instanceMethod ny_O_begin,
  .code ny_O_begin nc_O_begin 2 none,
  .methodLink nR_S 167 ny_S_isBranch,
  .static ny_S_isBranch,
  .code ny_S_isBranch nc_S_isBranch 2 (some .boolean),
  .methodLink nR_S 169 ny_S_orderOf,
  .static ny_S_orderOf,
  .code ny_S_orderOf nc_S_orderOf 1 (some .int),
  .methodLink nR_S 209 ny_S_numberK,
  .static ny_S_numberK,
  .code ny_S_numberK nc_S_numberK 1 (some .int),
  .methodLink nR_S 272 ny_S_isBranchBySign,
  .static ny_S_isBranchBySign,
  .code ny_S_isBranchBySign nc_S_isBranchBySign 2 (some .boolean),
  .methodLink nR_S 200 ny_S_numberT,
  .static ny_S_numberT,
  .code ny_S_numberT nc_S_numberT 1 (some .int),
  .methodLink nR_S 172 ny_S_performByK,
  .selects nR_S ny_S_performByK ny_S_performByK,
  .instanceMethod ny_S_performByK,
  .code ny_S_performByK nc_S_performByK 2 (some .int),
  .methodLink nR_S 212 ny_S_performShift,
  .selects nR_S ny_S_performShift ny_S_performShift,
  .instanceMethod ny_S_performShift,
  .code ny_S_performShift nc_S_performShift 5 (some .int),
  .methodLink nR_S 227 ny_S_valueOfT,
  .selects nR_S ny_S_valueOfT ny_S_valueOfT,
  .instanceMethod ny_S_valueOfT,
  .code ny_S_valueOfT nc_S_valueOfT 2 (some .int),
  .selects nR_R ny_R_valueOf ny_R_valueOf,
  .instanceMethod ny_R_valueOf,
  .code ny_R_valueOf nc_R_valueOf 2 (some .int),
  .methodLink nR_S 230 ny_S_numberD,
  .static ny_S_numberD,
  .code ny_S_numberD nc_S_numberD 1 (some .int),
  .methodLink nR_S 233 ny_S_valueOfS,
  .selects nR_S ny_S_valueOfS ny_S_valueOfS,
  .instanceMethod ny_S_valueOfS,
  .code ny_S_valueOfS nc_S_valueOfS 2 (some .int),
  .methodLink nR_S 197 ny_S_numberS,
  .static ny_S_numberS,
  .code ny_S_numberS nc_S_numberS 1 (some .int),
  .methodLink nR_S 236 ny_S_numberA,
  .static ny_S_numberA,
  .code ny_S_numberA nc_S_numberA 1 (some .int),
  .methodLink nR_S 205 ny_S_give,
  .selects nR_S ny_S_give ny_S_give,
  .instanceMethod ny_S_give,
  .code ny_S_give nc_S_give 3 (some .int),
  .methodLink nR_S 215 ny_S_performJumpToS,
  .selects nR_S ny_S_performJumpToS ny_S_performJumpToS,
  .instanceMethod ny_S_performJumpToS,
  .code ny_S_performJumpToS nc_S_performJumpToS 2 (some .int),
  .methodLink nR_S 239 ny_S_branchIf,
  .selects nR_S ny_S_branchIf ny_S_branchIf,
  .instanceMethod ny_S_branchIf,
  .code ny_S_branchIf nc_S_branchIf 3 (some .int),
  .methodLink nR_S 218 ny_S_performMove,
  .selects nR_S ny_S_performMove ny_S_performMove,
  .instanceMethod ny_S_performMove,
  .code ny_S_performMove nc_S_performMove 2 (some .int),
  .methodLink nR_S 221 ny_S_performProduct,
  .selects nR_S ny_S_performProduct ny_S_performProduct,
  .instanceMethod ny_S_performProduct,
  .code ny_S_performProduct nc_S_performProduct 4 (some .int),
  .methodLink nR_S 255 ny_S_keepHighAndLow,
  .selects nR_S ny_S_keepHighAndLow ny_S_keepHighAndLow,
  .instanceMethod ny_S_keepHighAndLow,
  .code ny_S_keepHighAndLow nc_S_keepHighAndLow 3 (some .int),
  .methodLink nR_S 251 ny_S_withoutSign,
  .static ny_S_withoutSign,
  .code ny_S_withoutSign nc_S_withoutSign 1 (some .long),
  .constantLong nR_S 203 4294967295,
  .methodLink nR_S 259 ny_S_divide,
  .static ny_S_divide,
  .code ny_S_divide nc_S_divide 4 (some .long),
  .constantLong nR_S 266 (-1),
  .methodLink nR_S 268 ny_S_restAndQuotient,
  .static ny_S_restAndQuotient,
  .code ny_S_restAndQuotient nc_S_restAndQuotient 4 (some .long),
  .methodLink nR_S 263 ny_S_divideWithoutSign,
  .static ny_S_divideWithoutSign,
  .code ny_S_divideWithoutSign nc_S_divideWithoutSign 6 (some .long),
  .methodLink nR_S 224 ny_S_performOnTwo,
  .selects nR_S ny_S_performOnTwo ny_S_performOnTwo,
  .instanceMethod ny_S_performOnTwo,
  .code ny_S_performOnTwo nc_S_performOnTwo 5 (some .int),
  .methodLink nR_S 243 ny_S_giveIfExact,
  .selects nR_S ny_S_giveIfExact ny_S_giveIfExact,
  .instanceMethod ny_S_giveIfExact,
  .code ny_S_giveIfExact nc_S_giveIfExact 4 (some .int),
  .methodLink nR_S 247 ny_S_giveTruth,
  .selects nR_S ny_S_giveTruth ny_S_giveTruth,
  .instanceMethod ny_S_giveTruth,
  .code ny_S_giveTruth nc_S_giveTruth 3 (some .int),
  .methodLink nR_S 175 ny_S_performBranchBySign,
  .selects nR_S ny_S_performBranchBySign ny_S_performBranchBySign,
  .instanceMethod ny_S_performBranchBySign,
  .code ny_S_performBranchBySign nc_S_performBranchBySign 5 (some .int),
  .methodLink nR_S 275 ny_S_nearTarget,
  .selects nR_S ny_S_nearTarget ny_S_nearTarget,
  .instanceMethod ny_S_nearTarget,
  .code ny_S_nearTarget nc_S_nearTarget 2 (some .int),
  .methodLink nR_S 281 ny_S_numberI,
  .static ny_S_numberI,
  .code ny_S_numberI nc_S_numberI 1 (some .int),
  .methodLink nR_S 178 ny_S_performJump,
  .selects nR_S ny_S_performJump ny_S_performJump,
  .instanceMethod ny_S_performJump,
  .code ny_S_performJump nc_S_performJump 2 (some .int),
  .methodLink nR_S 278 ny_S_farTarget,
  .selects nR_S ny_S_farTarget ny_S_farTarget,
  .instanceMethod ny_S_farTarget,
  .code ny_S_farTarget nc_S_farTarget 2 (some .int),
  .constant nR_S 284 (-268435456),
  .constant nR_S 285 268435455,
  .methodLink nR_S 181 ny_S_performBranch,
  .selects nR_S ny_S_performBranch ny_S_performBranch,
  .instanceMethod ny_S_performBranch,
  .code ny_S_performBranch nc_S_performBranch 4 (some .int),
  .methodLink nR_S 184 ny_S_performWithNumber,
  .selects nR_S ny_S_performWithNumber ny_S_performWithNumber,
  .instanceMethod ny_S_performWithNumber,
  .code ny_S_performWithNumber nc_S_performWithNumber 6 (some .int),
  .methodLink nR_S 286 ny_S_numberU,
  .static ny_S_numberU,
  .code ny_S_numberU nc_S_numberU 1 (some .int),
  .constant nR_S 196 65535,
  .methodLink nR_S 187 ny_S_performControl,
  .selects nR_S ny_S_performControl ny_S_performControl,
  .instanceMethod ny_S_performControl,
  .code ny_S_performControl nc_S_performControl 4 (some .int),
  .selects nR_C ny_C_valueOf ny_C_valueOf,
  .instanceMethod ny_C_valueOf,
  .code ny_C_valueOf nc_C_valueOf 2 (some .int),
  .methodLink nR_S 293 ny_S_giveLate,
  .selects nR_S ny_S_giveLate ny_S_giveLate,
  .instanceMethod ny_S_giveLate,
  .code ny_S_giveLate nc_S_giveLate 3 (some .int),
  .selects nR_C ny_C_leave ny_C_leave,
  .instanceMethod ny_C_leave,
  .code ny_C_leave nc_C_leave 1 none,
  .methodLink nR_S 190 ny_S_performLoad,
  .selects nR_S ny_S_performLoad ny_S_performLoad,
  .instanceMethod ny_S_performLoad,
  .code ny_S_performLoad nc_S_performLoad 6 (some .int),
  .methodLink nR_S 299 ny_S_addressOf,
  .selects nR_S ny_S_addressOf ny_S_addressOf,
  .instanceMethod ny_S_addressOf,
  .code ny_S_addressOf nc_S_addressOf 2 (some .int),
  .methodLink nR_S 302 ny_S_loadUnit,
  .static ny_S_loadUnit,
  .code ny_S_loadUnit nc_S_loadUnit 1 (some .int),
  .methodLink nR_S 305 ny_S_faultOfData,
  .selects nR_S ny_S_faultOfData ny_S_faultOfData,
  .instanceMethod ny_S_faultOfData,
  .code ny_S_faultOfData nc_S_faultOfData 4 (some .int),
  .selects nR_R ny_R_latestOf ny_R_latestOf,
  .instanceMethod ny_R_latestOf,
  .code ny_R_latestOf nc_R_latestOf 2 (some .int),
  .methodLink nR_R 22 ny_R_valueOf,
  .methodLink nR_S 312 ny_S_joinLoaded,
  .static ny_S_joinLoaded,
  .code ny_S_joinLoaded nc_S_joinLoaded 7 (some .int),
  .methodLink nR_S 316 ny_S_toLowest,
  .static ny_S_toLowest,
  .code ny_S_toLowest nc_S_toLowest 2 (some .int),
  .methodLink nR_S 319 ny_S_bitsAhead,
  .static ny_S_bitsAhead,
  .code ny_S_bitsAhead nc_S_bitsAhead 1 (some .int),
  .methodLink nR_S 322 ny_S_exchange,
  .methodLink nR_S 193 ny_S_performStore,
  .selects nR_S ny_S_performStore ny_S_performStore,
  .instanceMethod ny_S_performStore,
  .code ny_S_performStore nc_S_performStore 6 (some .int),
  .methodLink nR_S 325 ny_S_storeUnit,
  .static ny_S_storeUnit,
  .code ny_S_storeUnit nc_S_storeUnit 1 (some .int),
  .methodLink nR_S 328 ny_S_joinStored,
  .static ny_S_joinStored,
  .code ny_S_joinStored nc_S_joinStored 7 (some .int),
  .selects nR_M ny_M_replaceWord ny_M_replaceWord,
  .instanceMethod ny_M_replaceWord,
  .code ny_M_replaceWord nc_M_replaceWord 3 none,
  .methodLink nR_S 132 ny_S_finishInstruction,
  .selects nR_S ny_S_finishInstruction ny_S_finishInstruction,
  .instanceMethod ny_S_finishInstruction,
  .code ny_S_finishInstruction nc_S_finishInstruction 1 none,
  .methodLink nR_L 44 ny_L_put,
  .static ny_L_put,
  .methodLink nR_L 7 ny_S_put,
  .instanceMethod ny_S_put,
  .selects nR_S ny_S_put ny_S_put,
  .code ny_S_put nc_S_put 4 (some .int),
  .methodLink nR_S 55 ny_S_isPlaceOfWord,
  .static ny_S_isPlaceOfWord,
  .code ny_S_isPlaceOfWord nc_S_isPlaceOfWord 1 (some .boolean),
  .methodLink nR_L 54 ny_L_word,
  .static ny_L_word,
  .methodLink nR_L 15 ny_S_word,
  .instanceMethod ny_S_word,
  .selects nR_S ny_S_word ny_S_word,
  .code ny_S_word nc_S_word 2 (some .int),
  .methodLink nR_L 58 ny_L_set,
  .static ny_L_set,
  .methodLink nR_L 19 ny_S_set,
  .instanceMethod ny_S_set,
  .selects nR_S ny_S_set ny_S_set,
  .code ny_S_set nc_S_set 4 (some .int),
  .methodLink nR_L 61 ny_L_register,
  .static ny_L_register,
  .methodLink nR_L 22 ny_S_register,
  .instanceMethod ny_S_register,
  .selects nR_S ny_S_register ny_S_register,
  .code ny_S_register nc_S_register 2 (some .int),
  .methodLink nR_L 72 ny_L_lines,
  .static ny_L_lines,
  .methodLink nR_L 25 ny_S_lines,
  .instanceMethod ny_S_lines,
  .selects nR_S ny_S_lines ny_S_lines,
  .code ny_S_lines nc_S_lines 3 (some .int),
  .methodLink nR_L 79 ny_L_run,
  .static ny_L_run,
  .methodLink nR_L 30 ny_S_run,
  .instanceMethod ny_S_run,
  .selects nR_S ny_S_run ny_S_run,
  .code ny_S_run nc_S_run 4 (some .int),
  .methodLink nR_L 82 ny_L_look,
  .static ny_L_look,
  .methodLink nR_L 33 ny_S_look,
  .instanceMethod ny_S_look,
  .selects nR_S ny_S_look ny_S_look,
  .code ny_S_look nc_S_look 2 (some .int),
  .classLink nR_L 37 nR_D,
  .instantiable nR_D 28,
  .methodLink nR_L 39 ny_D_init,
  .instanceMethod ny_D_init,
  .code ny_D_init nc_D_init 1 none,
  .methodLink nR_D 1 objectInit,
  .fieldLink nR_D 23 "SlotCoreModel" "thrown" "I",
  .fieldLink nR_D 7 "SlotCoreModel" "bytes" "[I",
  .fieldLink nR_D 13 "SlotCoreModel" "registers" "[I",
  .fieldLink nR_D 26 "SlotCoreModel" "pc" "I",
  .fieldLink nR_D 16 "SlotCoreModel" "next" "I",
  .fieldLink nR_D 29 "SlotCoreModel" "status" "I",
  .fieldLink nR_D 32 "SlotCoreModel" "code" "I",
  .fieldLink nR_D 35 "SlotCoreModel" "soft" "I",
  .fieldLink nR_D 38 "SlotCoreModel" "lines" "I",
  .fieldLink nR_D 41 "SlotCoreModel" "behind" "Z",
  .fieldLink nR_D 45 "SlotCoreModel" "back" "I",
  .fieldLink nR_D 48 "SlotCoreModel" "bad" "I",
  .fieldLink nR_D 51 "SlotCoreModel" "slot" "Z",
  .fieldLink nR_D 20 "SlotCoreModel" "waits" "I",
  .fieldLink nR_D 54 "SlotCoreModel" "value" "I",
  .fieldLink nR_D 57 "SlotCoreModel" "steps" "I",
  .fieldLink nR_D 60 "SlotCoreModel" "troubles" "I",
  .fieldLink nR_D 81 "SlotCoreModel" "word" "I",
  .fieldLink nR_D 84 "SlotCoreModel" "order" "I",
  .fieldLink nR_D 95 "SlotCoreModel" "s" "I",
  .fieldLink nR_D 118 "SlotCoreModel" "t" "I",
  .fieldLink nR_D 87 "SlotCoreModel" "k" "I",
  .fieldLink nR_D 128 "SlotCoreModel" "to" "I",
  .fieldLink nR_D 131 "SlotCoreModel" "result" "I",
  .fieldLink nR_D 160 "SlotCoreModel" "loads" "I",
  .fieldLink nR_D 166 "SlotCoreModel" "loaded" "I",
  .fieldLink nR_D 140 "SlotCoreModel" "target" "I",
  .lays nR_D "SlotCoreModel" "thrown" "I",
  .laysFinal nR_D "SlotCoreModel" "bytes" "[I",
  .laysFinal nR_D "SlotCoreModel" "registers" "[I",
  .lays nR_D "SlotCoreModel" "pc" "I",
  .lays nR_D "SlotCoreModel" "next" "I",
  .lays nR_D "SlotCoreModel" "status" "I",
  .lays nR_D "SlotCoreModel" "code" "I",
  .lays nR_D "SlotCoreModel" "soft" "I",
  .lays nR_D "SlotCoreModel" "lines" "I",
  .lays nR_D "SlotCoreModel" "behind" "Z",
  .lays nR_D "SlotCoreModel" "back" "I",
  .lays nR_D "SlotCoreModel" "bad" "I",
  .lays nR_D "SlotCoreModel" "slot" "Z",
  .lays nR_D "SlotCoreModel" "waits" "I",
  .lays nR_D "SlotCoreModel" "value" "I",
  .lays nR_D "SlotCoreModel" "steps" "I",
  .lays nR_D "SlotCoreModel" "troubles" "I",
  .lays nR_D "SlotCoreModel" "word" "I",
  .lays nR_D "SlotCoreModel" "order" "I",
  .lays nR_D "SlotCoreModel" "s" "I",
  .lays nR_D "SlotCoreModel" "t" "I",
  .lays nR_D "SlotCoreModel" "k" "I",
  .lays nR_D "SlotCoreModel" "to" "I",
  .lays nR_D "SlotCoreModel" "result" "I",
  .lays nR_D "SlotCoreModel" "loads" "I",
  .lays nR_D "SlotCoreModel" "loaded" "I",
  .lays nR_D "SlotCoreModel" "target" "I",
  .lays nR_D "SlotCoreModel" "branches" "Z",
  .methodLink nR_L 50 ny_D_thrown,
  .instanceMethod ny_D_thrown,
  .selects nR_D ny_D_thrown ny_D_thrown,
  .code ny_D_thrown nc_D_thrown 1 (some .int),
  .methodLink nR_L 43 ny_D_reset,
  .instanceMethod ny_D_reset,
  .selects nR_D ny_D_reset ny_D_reset,
  .code ny_D_reset nc_D_reset 2 none,
  .methodLink nR_L 49 ny_D_put,
  .instanceMethod ny_D_put,
  .selects nR_D ny_D_put ny_D_put,
  .code ny_D_put nc_D_put 4 (some .int),
  .methodLink nR_D 63 ny_D_isWord,
  .static ny_D_isWord,
  .code ny_D_isWord nc_D_isWord 1 (some .boolean),
  .methodLink nR_D 67 ny_D_goes,
  .selects nR_D ny_D_goes ny_D_goes,
  .instanceMethod ny_D_goes,
  .code ny_D_goes nc_D_goes 2 (some .boolean),
  .methodLink nR_D 71 ny_D_load,
  .selects nR_D ny_D_load ny_D_load,
  .instanceMethod ny_D_load,
  .code ny_D_load nc_D_load 5 (some .int),
  .methodLink nR_D 75 ny_D_store,
  .selects nR_D ny_D_store ny_D_store,
  .instanceMethod ny_D_store,
  .code ny_D_store nc_D_store 5 none,
  .methodLink nR_L 57 ny_D_word,
  .instanceMethod ny_D_word,
  .selects nR_D ny_D_word ny_D_word,
  .code ny_D_word nc_D_word 2 (some .int),
  .methodLink nR_L 60 ny_D_set,
  .instanceMethod ny_D_set,
  .selects nR_D ny_D_set ny_D_set,
  .code ny_D_set nc_D_set 4 (some .int),
  .methodLink nR_L 63 ny_D_register,
  .instanceMethod ny_D_register,
  .selects nR_D ny_D_register ny_D_register,
  .code ny_D_register nc_D_register 2 (some .int),
  .methodLink nR_L 67 ny_D_go,
  .instanceMethod ny_D_go,
  .selects nR_D ny_D_go ny_D_go,
  .code ny_D_go nc_D_go 3 (some .int),
  .methodLink nR_L 71 ny_D_status,
  .instanceMethod ny_D_status,
  .selects nR_D ny_D_status ny_D_status,
  .code ny_D_status nc_D_status 3 (some .int),
  .constant nR_D 79 65343,
  .methodLink nR_L 74 ny_D_lines,
  .instanceMethod ny_D_lines,
  .selects nR_D ny_D_lines ny_D_lines,
  .code ny_D_lines nc_D_lines 3 (some .int),
  .methodLink nR_L 78 ny_D_step,
  .instanceMethod ny_D_step,
  .selects nR_D ny_D_step ny_D_step,
  .code ny_D_step nc_D_step 1 (some .int),
  .methodLink nR_D 206 ny_D_oneStep,
  .selects nR_D ny_D_oneStep ny_D_oneStep,
  .instanceMethod ny_D_oneStep,
  .code ny_D_oneStep nc_D_oneStep 2 (some .int),
  .methodLink nR_D 163 ny_D_cause,
  .selects nR_D ny_D_cause ny_D_cause,
  .instanceMethod ny_D_cause,
  .code ny_D_cause nc_D_cause 1 (some .int),
  .constant nR_D 80 (-2147483648),
  .methodLink nR_D 191 ny_D_except,
  .selects nR_D ny_D_except ny_D_except,
  .instanceMethod ny_D_except,
  .code ny_D_except nc_D_except 2 none,
  .constant nR_D 187 (-2147483520),
  .methodLink nR_D 188 ny_D_settle,
  .selects nR_D ny_D_settle ny_D_settle,
  .instanceMethod ny_D_settle,
  .code ny_D_settle nc_D_settle 1 none,
  .methodLink nR_D 194 ny_D_fetch,
  .selects nR_D ny_D_fetch ny_D_fetch,
  .instanceMethod ny_D_fetch,
  .code ny_D_fetch nc_D_fetch 1 (some .int),
  .methodLink nR_D 108 ny_D_user,
  .selects nR_D ny_D_user ny_D_user,
  .instanceMethod ny_D_user,
  .code ny_D_user nc_D_user 1 (some .boolean),
  .methodLink nR_D 111 ny_D_inMemory,
  .static ny_D_inMemory,
  .code ny_D_inMemory nc_D_inMemory 3 (some .boolean),
  .constant nR_D 94 536870911,
  .methodLink nR_D 197 ny_D_read,
  .selects nR_D ny_D_read ny_D_read,
  .instanceMethod ny_D_read,
  .code ny_D_read nc_D_read 1 none,
  .methodLink nR_D 200 ny_D_trouble,
  .selects nR_D ny_D_trouble ny_D_trouble,
  .instanceMethod ny_D_trouble,
  .code ny_D_trouble nc_D_trouble 2 (some .int),
  .methodLink nR_D 115 ny_D_isKnown,
  .selects nR_D ny_D_isKnown ny_D_isKnown,
  .instanceMethod ny_D_isKnown,
  .code ny_D_isKnown nc_D_isKnown 2 (some .boolean),
  .methodLink nR_D 90 ny_D_isBranch,
  .selects nR_D ny_D_isBranch ny_D_isBranch,
  .instanceMethod ny_D_isBranch,
  .code ny_D_isBranch nc_D_isBranch 2 (some .boolean),
  .methodLink nR_D 121 ny_D_exact,
  .static ny_D_exact,
  .code ny_D_exact nc_D_exact 2 (some .boolean),
  .methodLink nR_D 98 ny_D_number,
  .selects nR_D ny_D_number ny_D_number,
  .instanceMethod ny_D_number,
  .code ny_D_number nc_D_number 1 (some .int),
  .methodLink nR_D 125 ny_D_addressTrouble,
  .selects nR_D ny_D_addressTrouble ny_D_addressTrouble,
  .instanceMethod ny_D_addressTrouble,
  .code ny_D_addressTrouble nc_D_addressTrouble 3 (some .int),
  .methodLink nR_D 102 ny_D_isPart,
  .selects nR_D ny_D_isPart ny_D_isPart,
  .instanceMethod ny_D_isPart,
  .code ny_D_isPart nc_D_isPart 1 (some .boolean),
  .methodLink nR_D 105 ny_D_moved,
  .selects nR_D ny_D_moved ny_D_moved,
  .instanceMethod ny_D_moved,
  .code ny_D_moved nc_D_moved 2 (some .int),
  .methodLink nR_D 203 ny_D_act,
  .selects nR_D ny_D_act ny_D_act,
  .instanceMethod ny_D_act,
  .code ny_D_act nc_D_act 1 none,
  .methodLink nR_D 172 ny_D_byRegisters,
  .selects nR_D ny_D_byRegisters ny_D_byRegisters,
  .instanceMethod ny_D_byRegisters,
  .code ny_D_byRegisters nc_D_byRegisters 2 none,
  .methodLink nR_D 136 ny_D_gives,
  .selects nR_D ny_D_gives ny_D_gives,
  .instanceMethod ny_D_gives,
  .code ny_D_gives nc_D_gives 3 none,
  .methodLink nR_D 143 ny_D_multiply,
  .selects nR_D ny_D_multiply ny_D_multiply,
  .instanceMethod ny_D_multiply,
  .code ny_D_multiply nc_D_multiply 8 none,
  .constantLong nR_D 134 4294967295,
  .methodLink nR_D 147 ny_D_divide,
  .selects nR_D ny_D_divide ny_D_divide,
  .instanceMethod ny_D_divide,
  .code ny_D_divide nc_D_divide 6 none,
  .methodLink nR_D 150 ny_D_less,
  .static ny_D_less,
  .code ny_D_less nc_D_less 2 (some .boolean),
  .methodLink nR_D 153 ny_D_shifts,
  .selects nR_D ny_D_shifts ny_D_shifts,
  .instanceMethod ny_D_shifts,
  .code ny_D_shifts nc_D_shifts 3 none,
  .methodLink nR_D 175 ny_D_branch,
  .selects nR_D ny_D_branch ny_D_branch,
  .instanceMethod ny_D_branch,
  .code ny_D_branch nc_D_branch 3 none,
  .constant nR_D 157 (-268435456),
  .constant nR_D 158 67108863,
  .methodLink nR_D 178 ny_D_byNumber,
  .selects nR_D ny_D_byNumber ny_D_byNumber,
  .instanceMethod ny_D_byNumber,
  .code ny_D_byNumber nc_D_byNumber 3 none,
  .constant nR_D 159 65535,
  .methodLink nR_D 181 ny_D_control,
  .selects nR_D ny_D_control ny_D_control,
  .instanceMethod ny_D_control,
  .code ny_D_control nc_D_control 3 none,
  .methodLink nR_D 184 ny_D_memory,
  .selects nR_D ny_D_memory ny_D_memory,
  .instanceMethod ny_D_memory,
  .code ny_D_memory nc_D_memory 5 none,
  .methodLink nR_D 169 ny_D_part,
  .selects nR_D ny_D_part ny_D_part,
  .instanceMethod ny_D_part,
  .code ny_D_part nc_D_part 8 none,
  .methodLink nR_L 81 ny_D_run,
  .instanceMethod ny_D_run,
  .selects nR_D ny_D_run ny_D_run,
  .code ny_D_run nc_D_run 4 (some .int),
  .methodLink nR_L 84 ny_D_look,
  .instanceMethod ny_D_look,
  .selects nR_D ny_D_look ny_D_look,
  .code ny_D_look nc_D_look 2 (some .int),
  .arrayClass .long]
theorem gw_good : GW.all goodWord = true := by decide +kernel
theorem gw_in {d : Cond} (h : d ∈ GW) : GoodIn GW (d :: GW) := goodIn_sub9 (fun w hw => (List.mem_cons.mp hw).elim (fun e => e ▸ h) id) gw_good h
theorem nu_S : ∀ w ∈ u_ws nR_S nT_S 9, w ∈ GW := by decide +kernel
theorem nu_M : ∀ w ∈ u_ws nR_M nT_M 1, w ∈ GW := by decide +kernel
theorem nu_R : ∀ w ∈ u_ws nR_R nT_R 3, w ∈ GW := by decide +kernel
theorem nu_C : ∀ w ∈ u_ws nR_C nT_C 5, w ∈ GW := by decide +kernel
theorem nu_O : ∀ w ∈ u_ws nR_O nT_O 5, w ∈ GW := by decide +kernel
theorem nu_D : ∀ w ∈ u_ws nR_D nT_D 28, w ∈ GW := by decide +kernel
def nw_S_init : List Cond := .code ny_S_init nc_S_init 1 none :: GW
def nw_S_reset : List Cond := .code ny_S_reset nc_S_reset 1 none :: GW
def nw_S_put : List Cond := .code ny_S_put nc_S_put 4 (some .int) :: GW
def nw_S_word : List Cond := .code ny_S_word nc_S_word 2 (some .int) :: GW
def nw_S_set : List Cond := .code ny_S_set nc_S_set 4 (some .int) :: GW
def nw_S_register : List Cond := .code ny_S_register nc_S_register 2 (some .int) :: GW
def nw_S_go : List Cond := .code ny_S_go nc_S_go 3 (some .int) :: GW
def nw_S_status : List Cond := .code ny_S_status nc_S_status 3 (some .int) :: GW
def nw_S_lines : List Cond := .code ny_S_lines nc_S_lines 3 (some .int) :: GW
def nw_S_step : List Cond := .code ny_S_step nc_S_step 1 (some .int) :: GW
def nw_S_run : List Cond := .code ny_S_run nc_S_run 4 (some .int) :: GW
def nw_S_look : List Cond := .code ny_S_look nc_S_look 2 (some .int) :: GW
def nw_S_isPlaceOfWord : List Cond := .code ny_S_isPlaceOfWord nc_S_isPlaceOfWord 1 (some .boolean) :: GW
def nw_S_isInMemory : List Cond := .code ny_S_isInMemory nc_S_isInMemory 1 (some .boolean) :: GW
def nw_S_continueAt : List Cond := .code ny_S_continueAt nc_S_continueAt 2 none :: GW
def nw_S_takeStep : List Cond := .code ny_S_takeStep nc_S_takeStep 2 (some .int) :: GW
def nw_S_enterException : List Cond := .code ny_S_enterException nc_S_enterException 2 none :: GW
def nw_S_finishInstruction : List Cond := .code ny_S_finishInstruction nc_S_finishInstruction 1 none :: GW
def nw_S_faultAtPc : List Cond := .code ny_S_faultAtPc nc_S_faultAtPc 1 (some .int) :: GW
def nw_S_perform : List Cond := .code ny_S_perform nc_S_perform 2 (some .int) :: GW
def nw_S_orderOf : List Cond := .code ny_S_orderOf nc_S_orderOf 1 (some .int) :: GW
def nw_S_numberS : List Cond := .code ny_S_numberS nc_S_numberS 1 (some .int) :: GW
def nw_S_numberT : List Cond := .code ny_S_numberT nc_S_numberT 1 (some .int) :: GW
def nw_S_numberD : List Cond := .code ny_S_numberD nc_S_numberD 1 (some .int) :: GW
def nw_S_numberA : List Cond := .code ny_S_numberA nc_S_numberA 1 (some .int) :: GW
def nw_S_numberK : List Cond := .code ny_S_numberK nc_S_numberK 1 (some .int) :: GW
def nw_S_numberI : List Cond := .code ny_S_numberI nc_S_numberI 1 (some .int) :: GW
def nw_S_numberU : List Cond := .code ny_S_numberU nc_S_numberU 1 (some .int) :: GW
def nw_S_valueOfS : List Cond := .code ny_S_valueOfS nc_S_valueOfS 2 (some .int) :: GW
def nw_S_valueOfT : List Cond := .code ny_S_valueOfT nc_S_valueOfT 2 (some .int) :: GW
def nw_S_withoutSign : List Cond := .code ny_S_withoutSign nc_S_withoutSign 1 (some .long) :: GW
def nw_S_give : List Cond := .code ny_S_give nc_S_give 3 (some .int) :: GW
def nw_S_giveIfExact : List Cond := .code ny_S_giveIfExact nc_S_giveIfExact 4 (some .int) :: GW
def nw_S_giveTruth : List Cond := .code ny_S_giveTruth nc_S_giveTruth 3 (some .int) :: GW
def nw_S_giveLate : List Cond := .code ny_S_giveLate nc_S_giveLate 3 (some .int) :: GW
def nw_S_branchIf : List Cond := .code ny_S_branchIf nc_S_branchIf 3 (some .int) :: GW
def nw_S_keepHighAndLow : List Cond := .code ny_S_keepHighAndLow nc_S_keepHighAndLow 3 (some .int) :: GW
def nw_S_performByK : List Cond := .code ny_S_performByK nc_S_performByK 2 (some .int) :: GW
def nw_S_performShift : List Cond := .code ny_S_performShift nc_S_performShift 5 (some .int) :: GW
def nw_S_performJumpToS : List Cond := .code ny_S_performJumpToS nc_S_performJumpToS 2 (some .int) :: GW
def nw_S_performOnTwo : List Cond := .code ny_S_performOnTwo nc_S_performOnTwo 5 (some .int) :: GW
def nw_S_performMove : List Cond := .code ny_S_performMove nc_S_performMove 2 (some .int) :: GW
def nw_S_performProduct : List Cond := .code ny_S_performProduct nc_S_performProduct 4 (some .int) :: GW
def nw_S_divide : List Cond := .code ny_S_divide nc_S_divide 4 (some .long) :: GW
def nw_S_divideWithoutSign : List Cond := .code ny_S_divideWithoutSign nc_S_divideWithoutSign 6 (some .long) :: GW
def nw_S_restAndQuotient : List Cond := .code ny_S_restAndQuotient nc_S_restAndQuotient 4 (some .long) :: GW
def nw_S_isBranch : List Cond := .code ny_S_isBranch nc_S_isBranch 2 (some .boolean) :: GW
def nw_S_isBranchBySign : List Cond := .code ny_S_isBranchBySign nc_S_isBranchBySign 2 (some .boolean) :: GW
def nw_S_performBranchBySign : List Cond := .code ny_S_performBranchBySign nc_S_performBranchBySign 5 (some .int) :: GW
def nw_S_performJump : List Cond := .code ny_S_performJump nc_S_performJump 2 (some .int) :: GW
def nw_S_performBranch : List Cond := .code ny_S_performBranch nc_S_performBranch 4 (some .int) :: GW
def nw_S_nearTarget : List Cond := .code ny_S_nearTarget nc_S_nearTarget 2 (some .int) :: GW
def nw_S_farTarget : List Cond := .code ny_S_farTarget nc_S_farTarget 2 (some .int) :: GW
def nw_S_performWithNumber : List Cond := .code ny_S_performWithNumber nc_S_performWithNumber 6 (some .int) :: GW
def nw_S_performControl : List Cond := .code ny_S_performControl nc_S_performControl 4 (some .int) :: GW
def nw_S_performLoad : List Cond := .code ny_S_performLoad nc_S_performLoad 6 (some .int) :: GW
def nw_S_joinLoaded : List Cond := .code ny_S_joinLoaded nc_S_joinLoaded 7 (some .int) :: GW
def nw_S_performStore : List Cond := .code ny_S_performStore nc_S_performStore 6 (some .int) :: GW
def nw_S_joinStored : List Cond := .code ny_S_joinStored nc_S_joinStored 7 (some .int) :: GW
def nw_S_addressOf : List Cond := .code ny_S_addressOf nc_S_addressOf 2 (some .int) :: GW
def nw_S_faultOfData : List Cond := .code ny_S_faultOfData nc_S_faultOfData 4 (some .int) :: GW
def nw_S_loadUnit : List Cond := .code ny_S_loadUnit nc_S_loadUnit 1 (some .int) :: GW
def nw_S_storeUnit : List Cond := .code ny_S_storeUnit nc_S_storeUnit 1 (some .int) :: GW
def nw_S_toLowest : List Cond := .code ny_S_toLowest nc_S_toLowest 2 (some .int) :: GW
def nw_S_bitsAhead : List Cond := .code ny_S_bitsAhead nc_S_bitsAhead 1 (some .int) :: GW
def nw_S_exchange : List Cond := .code ny_S_exchange nc_S_exchange 3 (some .int) :: GW
def nw_D_init : List Cond := .code ny_D_init nc_D_init 1 none :: GW
def nw_D_thrown : List Cond := .code ny_D_thrown nc_D_thrown 1 (some .int) :: GW
def nw_D_goes : List Cond := .code ny_D_goes nc_D_goes 2 (some .boolean) :: GW
def nw_D_reset : List Cond := .code ny_D_reset nc_D_reset 2 none :: GW
def nw_D_load : List Cond := .code ny_D_load nc_D_load 5 (some .int) :: GW
def nw_D_store : List Cond := .code ny_D_store nc_D_store 5 none :: GW
def nw_D_isWord : List Cond := .code ny_D_isWord nc_D_isWord 1 (some .boolean) :: GW
def nw_D_put : List Cond := .code ny_D_put nc_D_put 4 (some .int) :: GW
def nw_D_word : List Cond := .code ny_D_word nc_D_word 2 (some .int) :: GW
def nw_D_set : List Cond := .code ny_D_set nc_D_set 4 (some .int) :: GW
def nw_D_register : List Cond := .code ny_D_register nc_D_register 2 (some .int) :: GW
def nw_D_go : List Cond := .code ny_D_go nc_D_go 3 (some .int) :: GW
def nw_D_status : List Cond := .code ny_D_status nc_D_status 3 (some .int) :: GW
def nw_D_lines : List Cond := .code ny_D_lines nc_D_lines 3 (some .int) :: GW
def nw_D_cause : List Cond := .code ny_D_cause nc_D_cause 1 (some .int) :: GW
def nw_D_user : List Cond := .code ny_D_user nc_D_user 1 (some .boolean) :: GW
def nw_D_isBranch : List Cond := .code ny_D_isBranch nc_D_isBranch 2 (some .boolean) :: GW
def nw_D_isKnown : List Cond := .code ny_D_isKnown nc_D_isKnown 2 (some .boolean) :: GW
def nw_D_exact : List Cond := .code ny_D_exact nc_D_exact 2 (some .boolean) :: GW
def nw_D_number : List Cond := .code ny_D_number nc_D_number 1 (some .int) :: GW
def nw_D_moved : List Cond := .code ny_D_moved nc_D_moved 2 (some .int) :: GW
def nw_D_inMemory : List Cond := .code ny_D_inMemory nc_D_inMemory 3 (some .boolean) :: GW
def nw_D_isPart : List Cond := .code ny_D_isPart nc_D_isPart 1 (some .boolean) :: GW
def nw_D_addressTrouble : List Cond := .code ny_D_addressTrouble nc_D_addressTrouble 3 (some .int) :: GW
def nw_D_trouble : List Cond := .code ny_D_trouble nc_D_trouble 2 (some .int) :: GW
def nw_D_gives : List Cond := .code ny_D_gives nc_D_gives 3 none :: GW
def nw_D_less : List Cond := .code ny_D_less nc_D_less 2 (some .boolean) :: GW
def nw_D_multiply : List Cond := .code ny_D_multiply nc_D_multiply 8 none :: GW
def nw_D_divide : List Cond := .code ny_D_divide nc_D_divide 6 none :: GW
def nw_D_shifts : List Cond := .code ny_D_shifts nc_D_shifts 3 none :: GW
def nw_D_byRegisters : List Cond := .code ny_D_byRegisters nc_D_byRegisters 2 none :: GW
def nw_D_branch : List Cond := .code ny_D_branch nc_D_branch 3 none :: GW
def nw_D_byNumber : List Cond := .code ny_D_byNumber nc_D_byNumber 3 none :: GW
def nw_D_control : List Cond := .code ny_D_control nc_D_control 3 none :: GW
def nw_D_part : List Cond := .code ny_D_part nc_D_part 8 none :: GW
def nw_D_memory : List Cond := .code ny_D_memory nc_D_memory 5 none :: GW
def nw_D_act : List Cond := .code ny_D_act nc_D_act 1 none :: GW
def nw_D_settle : List Cond := .code ny_D_settle nc_D_settle 1 none :: GW
def nw_D_except : List Cond := .code ny_D_except nc_D_except 2 none :: GW
def nw_D_fetch : List Cond := .code ny_D_fetch nc_D_fetch 1 (some .int) :: GW
def nw_D_read : List Cond := .code ny_D_read nc_D_read 1 none :: GW
def nw_D_oneStep : List Cond := .code ny_D_oneStep nc_D_oneStep 2 (some .int) :: GW
def nw_D_step : List Cond := .code ny_D_step nc_D_step 1 (some .int) :: GW
def nw_D_run : List Cond := .code ny_D_run nc_D_run 4 (some .int) :: GW
def nw_D_look : List Cond := .code ny_D_look nc_D_look 2 (some .int) :: GW
def nw_C_init : List Cond := .code ny_C_init nc_C_init 1 none :: GW
def nw_C_wholeCause : List Cond := .code ny_C_wholeCause nc_C_wholeCause 1 (some .int) :: GW
def nw_C_isUser : List Cond := .code ny_C_isUser nc_C_isUser 1 (some .boolean) :: GW
def nw_C_forbids : List Cond := .code ny_C_forbids nc_C_forbids 2 (some .boolean) :: GW
def nw_C_interruptIsDue : List Cond := .code ny_C_interruptIsDue nc_C_interruptIsDue 1 (some .boolean) :: GW
def nw_C_valueOf : List Cond := .code ny_C_valueOf nc_C_valueOf 2 (some .int) :: GW
def nw_C_change : List Cond := .code ny_C_change nc_C_change 3 none :: GW
def nw_C_enter : List Cond := .code ny_C_enter nc_C_enter 4 none :: GW
def nw_C_leave : List Cond := .code ny_C_leave nc_C_leave 1 none :: GW
def nw_C_clear : List Cond := .code ny_C_clear nc_C_clear 1 none :: GW
def nw_M_init : List Cond := .code ny_M_init nc_M_init 1 none :: GW
def nw_M_wordAround : List Cond := .code ny_M_wordAround nc_M_wordAround 2 (some .int) :: GW
def nw_M_replaceWord : List Cond := .code ny_M_replaceWord nc_M_replaceWord 3 none :: GW
def nw_M_indexOf : List Cond := .code ny_M_indexOf nc_M_indexOf 1 (some .int) :: GW
def nw_O_init : List Cond := .code ny_O_init nc_O_init 1 none :: GW
def nw_O_begin : List Cond := .code ny_O_begin nc_O_begin 2 none :: GW
def nw_R_init : List Cond := .code ny_R_init nc_R_init 1 none :: GW
def nw_R_valueOf : List Cond := .code ny_R_valueOf nc_R_valueOf 2 (some .int) :: GW
def nw_R_change : List Cond := .code ny_R_change nc_R_change 3 none :: GW
def nw_R_latestOf : List Cond := .code ny_R_latestOf nc_R_latestOf 2 (some .int) :: GW
def nw_R_holdLoad : List Cond := .code ny_R_holdLoad nc_R_holdLoad 3 none :: GW
def nw_R_landLoad : List Cond := .code ny_R_landLoad nc_R_landLoad 1 none :: GW
def nw_R_dropLoad : List Cond := .code ny_R_dropLoad nc_R_dropLoad 1 none :: GW
def nw_R_clear : List Cond := .code ny_R_clear nc_R_clear 2 none :: GW
def nwS : List Cond := [.methodLinkNest nR_S 11 ny_M_init nR_S,
  .methodLinkNest nR_S 18 ny_R_init nR_S,
  .fieldLinkNest nR_S 109 "SlotCore$Registers" "waitsFor" "I" nR_S,
  .fieldLinkNest nR_S 112 "SlotCore$Registers" "waitingValue" "I" nR_S,
  .methodLinkNest nR_S 25 ny_C_init nR_S,
  .fieldLinkNest nR_S 82 "SlotCore$Control" "statusBits" "I" nR_S,
  .fieldLinkNest nR_S 89 "SlotCore$Control" "lineBits" "I" nR_S,
  .fieldLinkNest nR_S 99 "SlotCore$Control" "returnAddress" "I" nR_S,
  .fieldLinkNest nR_S 102 "SlotCore$Control" "badAddress" "I" nR_S,
  .methodLinkNest nR_S 32 ny_O_init nR_S,
  .fieldLinkNest nR_S 146 "SlotCore$Outcome" "register" "I" nR_S,
  .fieldLinkNest nR_S 149 "SlotCore$Outcome" "value" "I" nR_S,
  .fieldLinkNest nR_S 143 "SlotCore$Outcome" "isLoad" "Z" nR_S,
  .fieldLinkNest nR_S 158 "SlotCore$Outcome" "isBranch" "Z" nR_S,
  .fieldLinkNest nR_S 155 "SlotCore$Outcome" "afterNext" "I" nR_S,
  .methodLinkNest nR_S 41 ny_R_clear nR_S,
  .methodLinkNest nR_S 44 ny_C_clear nR_S,
  .methodLinkNest nR_S 79 ny_R_dropLoad nR_S,
  .methodLinkNest nR_S 85 ny_C_change nR_S,
  .methodLinkNest nR_C 37 ny_S_exchange nR_S,
  .methodLinkNest nR_S 118 ny_C_interruptIsDue nR_S,
  .methodLinkNest nR_S 135 ny_R_landLoad nR_S,
  .methodLinkNest nR_S 138 ny_C_enter nR_S,
  .methodLinkNest nR_S 161 ny_C_forbids nR_S,
  .methodLinkNest nR_S 62 ny_M_wordAround nR_S,
  .methodLinkNest nR_S 164 ny_O_begin nR_S,
  .methodLinkNest nR_S 70 ny_R_valueOf nR_S,
  .methodLinkNest nR_S 73 ny_R_change nR_S,
  .methodLinkNest nR_S 289 ny_C_isUser nR_S,
  .methodLinkNest nR_S 292 ny_C_valueOf nR_S,
  .methodLinkNest nR_S 296 ny_C_leave nR_S,
  .methodLinkNest nR_S 309 ny_R_latestOf nR_S,
  .methodLinkNest nR_S 66 ny_M_replaceWord nR_S,
  .methodLinkNest nR_S 152 ny_R_holdLoad nR_S,
  .methodLinkNest nR_S 96 ny_C_wholeCause nR_S]
theorem nwOk : nwS.all NWo = true := by decide +kernel
theorem gw_1 : (Cond.initialized nR_S) ∈ GW := List.mem_of_getElem? (i := 1) (by decide +kernel)
theorem gw_2 : (Cond.initialized nR_M) ∈ GW := List.mem_of_getElem? (i := 2) (by decide +kernel)
theorem gw_3 : (Cond.initialized nR_R) ∈ GW := List.mem_of_getElem? (i := 3) (by decide +kernel)
theorem gw_4 : (Cond.initialized nR_C) ∈ GW := List.mem_of_getElem? (i := 4) (by decide +kernel)
theorem gw_5 : (Cond.initialized nR_O) ∈ GW := List.mem_of_getElem? (i := 5) (by decide +kernel)
theorem gw_6 : (Cond.initialized nR_D) ∈ GW := List.mem_of_getElem? (i := 6) (by decide +kernel)
theorem gw_11 : (Cond.code ny_S_init nc_S_init 1 none) ∈ GW := List.mem_of_getElem? (i := 11) (by decide +kernel)
theorem gw_18 : (Cond.code ny_M_init nc_M_init 1 none) ∈ GW := List.mem_of_getElem? (i := 18) (by decide +kernel)
theorem gw_20 : (Cond.fieldLink nR_M 9 "SlotCore$Memory" "words" "[I") ∈ GW := List.mem_of_getElem? (i := 20) (by decide +kernel)
theorem gw_26 : (Cond.code ny_R_init nc_R_init 1 none) ∈ GW := List.mem_of_getElem? (i := 26) (by decide +kernel)
theorem gw_28 : (Cond.fieldLink nR_R 9 "SlotCore$Registers" "values" "[I") ∈ GW := List.mem_of_getElem? (i := 28) (by decide +kernel)
theorem gw_29 : (Cond.fieldLink nR_R 15 "SlotCore$Registers" "waitsFor" "I") ∈ GW := List.mem_of_getElem? (i := 29) (by decide +kernel)
theorem gw_30 : (Cond.fieldLink nR_R 19 "SlotCore$Registers" "waitingValue" "I") ∈ GW := List.mem_of_getElem? (i := 30) (by decide +kernel)
theorem gw_37 : (Cond.code ny_C_init nc_C_init 1 none) ∈ GW := List.mem_of_getElem? (i := 37) (by decide +kernel)
theorem gw_39 : (Cond.fieldLink nR_C 18 "SlotCore$Control" "statusBits" "I") ∈ GW := List.mem_of_getElem? (i := 39) (by decide +kernel)
theorem gw_40 : (Cond.fieldLink nR_C 9 "SlotCore$Control" "causeBits" "I") ∈ GW := List.mem_of_getElem? (i := 40) (by decide +kernel)
theorem gw_41 : (Cond.fieldLink nR_C 15 "SlotCore$Control" "lineBits" "I") ∈ GW := List.mem_of_getElem? (i := 41) (by decide +kernel)
theorem gw_42 : (Cond.fieldLink nR_C 30 "SlotCore$Control" "returnAddress" "I") ∈ GW := List.mem_of_getElem? (i := 42) (by decide +kernel)
theorem gw_43 : (Cond.fieldLink nR_C 33 "SlotCore$Control" "badAddress" "I") ∈ GW := List.mem_of_getElem? (i := 43) (by decide +kernel)
theorem gw_52 : (Cond.code ny_O_init nc_O_init 1 none) ∈ GW := List.mem_of_getElem? (i := 52) (by decide +kernel)
theorem gw_54 : (Cond.fieldLink nR_O 9 "SlotCore$Outcome" "register" "I") ∈ GW := List.mem_of_getElem? (i := 54) (by decide +kernel)
theorem gw_55 : (Cond.fieldLink nR_O 15 "SlotCore$Outcome" "isLoad" "Z") ∈ GW := List.mem_of_getElem? (i := 55) (by decide +kernel)
theorem gw_56 : (Cond.fieldLink nR_O 19 "SlotCore$Outcome" "isBranch" "Z") ∈ GW := List.mem_of_getElem? (i := 56) (by decide +kernel)
theorem gw_57 : (Cond.fieldLink nR_O 22 "SlotCore$Outcome" "afterNext" "I") ∈ GW := List.mem_of_getElem? (i := 57) (by decide +kernel)
theorem gw_63 : (Cond.fieldLink nR_S 12 "SlotCore" "memory" "LSlotCore$Memory;") ∈ GW := List.mem_of_getElem? (i := 63) (by decide +kernel)
theorem gw_64 : (Cond.fieldLink nR_S 19 "SlotCore" "registers" "LSlotCore$Registers;") ∈ GW := List.mem_of_getElem? (i := 64) (by decide +kernel)
theorem gw_65 : (Cond.fieldLink nR_S 26 "SlotCore" "control" "LSlotCore$Control;") ∈ GW := List.mem_of_getElem? (i := 65) (by decide +kernel)
theorem gw_66 : (Cond.fieldLink nR_S 33 "SlotCore" "outcome" "LSlotCore$Outcome;") ∈ GW := List.mem_of_getElem? (i := 66) (by decide +kernel)
theorem gw_67 : (Cond.fieldLink nR_S 76 "SlotCore" "pc" "I") ∈ GW := List.mem_of_getElem? (i := 67) (by decide +kernel)
theorem gw_68 : (Cond.fieldLink nR_S 37 "SlotCore" "next" "I") ∈ GW := List.mem_of_getElem? (i := 68) (by decide +kernel)
theorem gw_69 : (Cond.fieldLink nR_S 105 "SlotCore" "inSlot" "Z") ∈ GW := List.mem_of_getElem? (i := 69) (by decide +kernel)
theorem gw_70 : (Cond.fieldLink nR_S 49 "SlotCore" "steps" "I") ∈ GW := List.mem_of_getElem? (i := 70) (by decide +kernel)
theorem gw_71 : (Cond.fieldLink nR_S 52 "SlotCore" "exceptions" "I") ∈ GW := List.mem_of_getElem? (i := 71) (by decide +kernel)
theorem gw_84 : (Cond.code ny_S_reset nc_S_reset 1 none) ∈ GW := List.mem_of_getElem? (i := 84) (by decide +kernel)
theorem gw_85 : (Cond.selects nR_R ny_R_clear ny_R_clear) ∈ GW := List.mem_of_getElem? (i := 85) (by decide +kernel)
theorem gw_86 : (Cond.instanceMethod ny_R_clear) ∈ GW := List.mem_of_getElem? (i := 86) (by decide +kernel)
theorem gw_87 : (Cond.code ny_R_clear nc_R_clear 2 none) ∈ GW := List.mem_of_getElem? (i := 87) (by decide +kernel)
theorem gw_88 : (Cond.methodLink nR_R 30 ny_R_dropLoad) ∈ GW := List.mem_of_getElem? (i := 88) (by decide +kernel)
theorem gw_89 : (Cond.selects nR_R ny_R_dropLoad ny_R_dropLoad) ∈ GW := List.mem_of_getElem? (i := 89) (by decide +kernel)
theorem gw_90 : (Cond.instanceMethod ny_R_dropLoad) ∈ GW := List.mem_of_getElem? (i := 90) (by decide +kernel)
theorem gw_91 : (Cond.code ny_R_dropLoad nc_R_dropLoad 1 none) ∈ GW := List.mem_of_getElem? (i := 91) (by decide +kernel)
theorem gw_92 : (Cond.methodLink nR_R 33 ny_R_holdLoad) ∈ GW := List.mem_of_getElem? (i := 92) (by decide +kernel)
theorem gw_93 : (Cond.selects nR_R ny_R_holdLoad ny_R_holdLoad) ∈ GW := List.mem_of_getElem? (i := 93) (by decide +kernel)
theorem gw_94 : (Cond.instanceMethod ny_R_holdLoad) ∈ GW := List.mem_of_getElem? (i := 94) (by decide +kernel)
theorem gw_95 : (Cond.code ny_R_holdLoad nc_R_holdLoad 3 none) ∈ GW := List.mem_of_getElem? (i := 95) (by decide +kernel)
theorem gw_96 : (Cond.selects nR_C ny_C_clear ny_C_clear) ∈ GW := List.mem_of_getElem? (i := 96) (by decide +kernel)
theorem gw_97 : (Cond.instanceMethod ny_C_clear) ∈ GW := List.mem_of_getElem? (i := 97) (by decide +kernel)
theorem gw_98 : (Cond.code ny_C_clear nc_C_clear 1 none) ∈ GW := List.mem_of_getElem? (i := 98) (by decide +kernel)
theorem gw_99 : (Cond.methodLink nR_S 45 ny_S_continueAt) ∈ GW := List.mem_of_getElem? (i := 99) (by decide +kernel)
theorem gw_100 : (Cond.selects nR_S ny_S_continueAt ny_S_continueAt) ∈ GW := List.mem_of_getElem? (i := 100) (by decide +kernel)
theorem gw_101 : (Cond.instanceMethod ny_S_continueAt) ∈ GW := List.mem_of_getElem? (i := 101) (by decide +kernel)
theorem gw_102 : (Cond.code ny_S_continueAt nc_S_continueAt 2 none) ∈ GW := List.mem_of_getElem? (i := 102) (by decide +kernel)
theorem gw_106 : (Cond.code ny_S_go nc_S_go 3 (some .int)) ∈ GW := List.mem_of_getElem? (i := 106) (by decide +kernel)
theorem gw_110 : (Cond.code ny_S_status nc_S_status 3 (some .int)) ∈ GW := List.mem_of_getElem? (i := 110) (by decide +kernel)
theorem gw_111 : (Cond.selects nR_C ny_C_change ny_C_change) ∈ GW := List.mem_of_getElem? (i := 111) (by decide +kernel)
theorem gw_112 : (Cond.instanceMethod ny_C_change) ∈ GW := List.mem_of_getElem? (i := 112) (by decide +kernel)
theorem gw_113 : (Cond.code ny_C_change nc_C_change 3 none) ∈ GW := List.mem_of_getElem? (i := 113) (by decide +kernel)
theorem gw_114 : (Cond.constant nR_C 36 65343) ∈ GW := List.mem_of_getElem? (i := 114) (by decide +kernel)
theorem gw_115 : (Cond.static ny_S_exchange) ∈ GW := List.mem_of_getElem? (i := 115) (by decide +kernel)
theorem gw_116 : (Cond.code ny_S_exchange nc_S_exchange 3 (some .int)) ∈ GW := List.mem_of_getElem? (i := 116) (by decide +kernel)
theorem gw_120 : (Cond.code ny_S_step nc_S_step 1 (some .int)) ∈ GW := List.mem_of_getElem? (i := 120) (by decide +kernel)
theorem gw_121 : (Cond.methodLink nR_S 92 ny_S_takeStep) ∈ GW := List.mem_of_getElem? (i := 121) (by decide +kernel)
theorem gw_122 : (Cond.selects nR_S ny_S_takeStep ny_S_takeStep) ∈ GW := List.mem_of_getElem? (i := 122) (by decide +kernel)
theorem gw_123 : (Cond.instanceMethod ny_S_takeStep) ∈ GW := List.mem_of_getElem? (i := 123) (by decide +kernel)
theorem gw_124 : (Cond.code ny_S_takeStep nc_S_takeStep 2 (some .int)) ∈ GW := List.mem_of_getElem? (i := 124) (by decide +kernel)
theorem gw_125 : (Cond.selects nR_C ny_C_interruptIsDue ny_C_interruptIsDue) ∈ GW := List.mem_of_getElem? (i := 125) (by decide +kernel)
theorem gw_126 : (Cond.instanceMethod ny_C_interruptIsDue) ∈ GW := List.mem_of_getElem? (i := 126) (by decide +kernel)
theorem gw_127 : (Cond.code ny_C_interruptIsDue nc_C_interruptIsDue 1 (some .boolean)) ∈ GW := List.mem_of_getElem? (i := 127) (by decide +kernel)
theorem gw_128 : (Cond.methodLink nR_C 25 ny_C_wholeCause) ∈ GW := List.mem_of_getElem? (i := 128) (by decide +kernel)
theorem gw_129 : (Cond.selects nR_C ny_C_wholeCause ny_C_wholeCause) ∈ GW := List.mem_of_getElem? (i := 129) (by decide +kernel)
theorem gw_130 : (Cond.instanceMethod ny_C_wholeCause) ∈ GW := List.mem_of_getElem? (i := 130) (by decide +kernel)
theorem gw_131 : (Cond.code ny_C_wholeCause nc_C_wholeCause 1 (some .int)) ∈ GW := List.mem_of_getElem? (i := 131) (by decide +kernel)
theorem gw_132 : (Cond.constant nR_C 29 65280) ∈ GW := List.mem_of_getElem? (i := 132) (by decide +kernel)
theorem gw_133 : (Cond.methodLink nR_S 122 ny_S_enterException) ∈ GW := List.mem_of_getElem? (i := 133) (by decide +kernel)
theorem gw_134 : (Cond.selects nR_S ny_S_enterException ny_S_enterException) ∈ GW := List.mem_of_getElem? (i := 134) (by decide +kernel)
theorem gw_135 : (Cond.instanceMethod ny_S_enterException) ∈ GW := List.mem_of_getElem? (i := 135) (by decide +kernel)
theorem gw_136 : (Cond.code ny_S_enterException nc_S_enterException 2 none) ∈ GW := List.mem_of_getElem? (i := 136) (by decide +kernel)
theorem gw_137 : (Cond.selects nR_R ny_R_landLoad ny_R_landLoad) ∈ GW := List.mem_of_getElem? (i := 137) (by decide +kernel)
theorem gw_138 : (Cond.instanceMethod ny_R_landLoad) ∈ GW := List.mem_of_getElem? (i := 138) (by decide +kernel)
theorem gw_139 : (Cond.code ny_R_landLoad nc_R_landLoad 1 none) ∈ GW := List.mem_of_getElem? (i := 139) (by decide +kernel)
theorem gw_140 : (Cond.methodLink nR_R 26 ny_R_change) ∈ GW := List.mem_of_getElem? (i := 140) (by decide +kernel)
theorem gw_141 : (Cond.selects nR_R ny_R_change ny_R_change) ∈ GW := List.mem_of_getElem? (i := 141) (by decide +kernel)
theorem gw_142 : (Cond.instanceMethod ny_R_change) ∈ GW := List.mem_of_getElem? (i := 142) (by decide +kernel)
theorem gw_143 : (Cond.code ny_R_change nc_R_change 3 none) ∈ GW := List.mem_of_getElem? (i := 143) (by decide +kernel)
theorem gw_144 : (Cond.selects nR_C ny_C_enter ny_C_enter) ∈ GW := List.mem_of_getElem? (i := 144) (by decide +kernel)
theorem gw_145 : (Cond.instanceMethod ny_C_enter) ∈ GW := List.mem_of_getElem? (i := 145) (by decide +kernel)
theorem gw_146 : (Cond.code ny_C_enter nc_C_enter 4 none) ∈ GW := List.mem_of_getElem? (i := 146) (by decide +kernel)
theorem gw_147 : (Cond.constant nR_C 41 (-2147483648)) ∈ GW := List.mem_of_getElem? (i := 147) (by decide +kernel)
theorem gw_148 : (Cond.constant nR_S 142 (-2147483520)) ∈ GW := List.mem_of_getElem? (i := 148) (by decide +kernel)
theorem gw_149 : (Cond.methodLink nR_S 125 ny_S_faultAtPc) ∈ GW := List.mem_of_getElem? (i := 149) (by decide +kernel)
theorem gw_150 : (Cond.selects nR_S ny_S_faultAtPc ny_S_faultAtPc) ∈ GW := List.mem_of_getElem? (i := 150) (by decide +kernel)
theorem gw_151 : (Cond.instanceMethod ny_S_faultAtPc) ∈ GW := List.mem_of_getElem? (i := 151) (by decide +kernel)
theorem gw_152 : (Cond.code ny_S_faultAtPc nc_S_faultAtPc 1 (some .int)) ∈ GW := List.mem_of_getElem? (i := 152) (by decide +kernel)
theorem gw_153 : (Cond.selects nR_C ny_C_forbids ny_C_forbids) ∈ GW := List.mem_of_getElem? (i := 153) (by decide +kernel)
theorem gw_154 : (Cond.instanceMethod ny_C_forbids) ∈ GW := List.mem_of_getElem? (i := 154) (by decide +kernel)
theorem gw_155 : (Cond.code ny_C_forbids nc_C_forbids 2 (some .boolean)) ∈ GW := List.mem_of_getElem? (i := 155) (by decide +kernel)
theorem gw_156 : (Cond.methodLink nR_C 21 ny_C_isUser) ∈ GW := List.mem_of_getElem? (i := 156) (by decide +kernel)
theorem gw_157 : (Cond.selects nR_C ny_C_isUser ny_C_isUser) ∈ GW := List.mem_of_getElem? (i := 157) (by decide +kernel)
theorem gw_158 : (Cond.instanceMethod ny_C_isUser) ∈ GW := List.mem_of_getElem? (i := 158) (by decide +kernel)
theorem gw_159 : (Cond.code ny_C_isUser nc_C_isUser 1 (some .boolean)) ∈ GW := List.mem_of_getElem? (i := 159) (by decide +kernel)
theorem gw_160 : (Cond.constant nR_S 128 536870911) ∈ GW := List.mem_of_getElem? (i := 160) (by decide +kernel)
theorem gw_161 : (Cond.methodLink nR_S 115 ny_S_isInMemory) ∈ GW := List.mem_of_getElem? (i := 161) (by decide +kernel)
theorem gw_162 : (Cond.static ny_S_isInMemory) ∈ GW := List.mem_of_getElem? (i := 162) (by decide +kernel)
theorem gw_163 : (Cond.code ny_S_isInMemory nc_S_isInMemory 1 (some .boolean)) ∈ GW := List.mem_of_getElem? (i := 163) (by decide +kernel)
theorem gw_164 : (Cond.selects nR_M ny_M_wordAround ny_M_wordAround) ∈ GW := List.mem_of_getElem? (i := 164) (by decide +kernel)
theorem gw_165 : (Cond.instanceMethod ny_M_wordAround) ∈ GW := List.mem_of_getElem? (i := 165) (by decide +kernel)
theorem gw_166 : (Cond.code ny_M_wordAround nc_M_wordAround 2 (some .int)) ∈ GW := List.mem_of_getElem? (i := 166) (by decide +kernel)
theorem gw_167 : (Cond.methodLink nR_M 15 ny_M_indexOf) ∈ GW := List.mem_of_getElem? (i := 167) (by decide +kernel)
theorem gw_168 : (Cond.static ny_M_indexOf) ∈ GW := List.mem_of_getElem? (i := 168) (by decide +kernel)
theorem gw_169 : (Cond.code ny_M_indexOf nc_M_indexOf 1 (some .int)) ∈ GW := List.mem_of_getElem? (i := 169) (by decide +kernel)
theorem gw_170 : (Cond.methodLink nR_S 129 ny_S_perform) ∈ GW := List.mem_of_getElem? (i := 170) (by decide +kernel)
theorem gw_171 : (Cond.selects nR_S ny_S_perform ny_S_perform) ∈ GW := List.mem_of_getElem? (i := 171) (by decide +kernel)
theorem gw_172 : (Cond.instanceMethod ny_S_perform) ∈ GW := List.mem_of_getElem? (i := 172) (by decide +kernel)
theorem gw_173 : (Cond.code ny_S_perform nc_S_perform 2 (some .int)) ∈ GW := List.mem_of_getElem? (i := 173) (by decide +kernel)
theorem gw_174 : (Cond.selects nR_O ny_O_begin ny_O_begin) ∈ GW := List.mem_of_getElem? (i := 174) (by decide +kernel)
theorem gw_175 : (Cond.instanceMethod ny_O_begin) ∈ GW := List.mem_of_getElem? (i := 175) (by decide +kernel)
theorem gw_176 : (Cond.code ny_O_begin nc_O_begin 2 none) ∈ GW := List.mem_of_getElem? (i := 176) (by decide +kernel)
theorem gw_177 : (Cond.methodLink nR_S 167 ny_S_isBranch) ∈ GW := List.mem_of_getElem? (i := 177) (by decide +kernel)
theorem gw_178 : (Cond.static ny_S_isBranch) ∈ GW := List.mem_of_getElem? (i := 178) (by decide +kernel)
theorem gw_179 : (Cond.code ny_S_isBranch nc_S_isBranch 2 (some .boolean)) ∈ GW := List.mem_of_getElem? (i := 179) (by decide +kernel)
theorem gw_180 : (Cond.methodLink nR_S 169 ny_S_orderOf) ∈ GW := List.mem_of_getElem? (i := 180) (by decide +kernel)
theorem gw_181 : (Cond.static ny_S_orderOf) ∈ GW := List.mem_of_getElem? (i := 181) (by decide +kernel)
theorem gw_182 : (Cond.code ny_S_orderOf nc_S_orderOf 1 (some .int)) ∈ GW := List.mem_of_getElem? (i := 182) (by decide +kernel)
theorem gw_183 : (Cond.methodLink nR_S 209 ny_S_numberK) ∈ GW := List.mem_of_getElem? (i := 183) (by decide +kernel)
theorem gw_184 : (Cond.static ny_S_numberK) ∈ GW := List.mem_of_getElem? (i := 184) (by decide +kernel)
theorem gw_185 : (Cond.code ny_S_numberK nc_S_numberK 1 (some .int)) ∈ GW := List.mem_of_getElem? (i := 185) (by decide +kernel)
theorem gw_186 : (Cond.methodLink nR_S 272 ny_S_isBranchBySign) ∈ GW := List.mem_of_getElem? (i := 186) (by decide +kernel)
theorem gw_187 : (Cond.static ny_S_isBranchBySign) ∈ GW := List.mem_of_getElem? (i := 187) (by decide +kernel)
theorem gw_188 : (Cond.code ny_S_isBranchBySign nc_S_isBranchBySign 2 (some .boolean)) ∈ GW := List.mem_of_getElem? (i := 188) (by decide +kernel)
theorem gw_189 : (Cond.methodLink nR_S 200 ny_S_numberT) ∈ GW := List.mem_of_getElem? (i := 189) (by decide +kernel)
theorem gw_190 : (Cond.static ny_S_numberT) ∈ GW := List.mem_of_getElem? (i := 190) (by decide +kernel)
theorem gw_191 : (Cond.code ny_S_numberT nc_S_numberT 1 (some .int)) ∈ GW := List.mem_of_getElem? (i := 191) (by decide +kernel)
theorem gw_192 : (Cond.methodLink nR_S 172 ny_S_performByK) ∈ GW := List.mem_of_getElem? (i := 192) (by decide +kernel)
theorem gw_193 : (Cond.selects nR_S ny_S_performByK ny_S_performByK) ∈ GW := List.mem_of_getElem? (i := 193) (by decide +kernel)
theorem gw_194 : (Cond.instanceMethod ny_S_performByK) ∈ GW := List.mem_of_getElem? (i := 194) (by decide +kernel)
theorem gw_195 : (Cond.code ny_S_performByK nc_S_performByK 2 (some .int)) ∈ GW := List.mem_of_getElem? (i := 195) (by decide +kernel)
theorem gw_196 : (Cond.methodLink nR_S 212 ny_S_performShift) ∈ GW := List.mem_of_getElem? (i := 196) (by decide +kernel)
theorem gw_197 : (Cond.selects nR_S ny_S_performShift ny_S_performShift) ∈ GW := List.mem_of_getElem? (i := 197) (by decide +kernel)
theorem gw_198 : (Cond.instanceMethod ny_S_performShift) ∈ GW := List.mem_of_getElem? (i := 198) (by decide +kernel)
theorem gw_199 : (Cond.code ny_S_performShift nc_S_performShift 5 (some .int)) ∈ GW := List.mem_of_getElem? (i := 199) (by decide +kernel)
theorem gw_200 : (Cond.methodLink nR_S 227 ny_S_valueOfT) ∈ GW := List.mem_of_getElem? (i := 200) (by decide +kernel)
theorem gw_201 : (Cond.selects nR_S ny_S_valueOfT ny_S_valueOfT) ∈ GW := List.mem_of_getElem? (i := 201) (by decide +kernel)
theorem gw_202 : (Cond.instanceMethod ny_S_valueOfT) ∈ GW := List.mem_of_getElem? (i := 202) (by decide +kernel)
theorem gw_203 : (Cond.code ny_S_valueOfT nc_S_valueOfT 2 (some .int)) ∈ GW := List.mem_of_getElem? (i := 203) (by decide +kernel)
theorem gw_204 : (Cond.selects nR_R ny_R_valueOf ny_R_valueOf) ∈ GW := List.mem_of_getElem? (i := 204) (by decide +kernel)
theorem gw_205 : (Cond.instanceMethod ny_R_valueOf) ∈ GW := List.mem_of_getElem? (i := 205) (by decide +kernel)
theorem gw_206 : (Cond.code ny_R_valueOf nc_R_valueOf 2 (some .int)) ∈ GW := List.mem_of_getElem? (i := 206) (by decide +kernel)
theorem gw_207 : (Cond.methodLink nR_S 230 ny_S_numberD) ∈ GW := List.mem_of_getElem? (i := 207) (by decide +kernel)
theorem gw_208 : (Cond.static ny_S_numberD) ∈ GW := List.mem_of_getElem? (i := 208) (by decide +kernel)
theorem gw_209 : (Cond.code ny_S_numberD nc_S_numberD 1 (some .int)) ∈ GW := List.mem_of_getElem? (i := 209) (by decide +kernel)
theorem gw_210 : (Cond.methodLink nR_S 233 ny_S_valueOfS) ∈ GW := List.mem_of_getElem? (i := 210) (by decide +kernel)
theorem gw_211 : (Cond.selects nR_S ny_S_valueOfS ny_S_valueOfS) ∈ GW := List.mem_of_getElem? (i := 211) (by decide +kernel)
theorem gw_212 : (Cond.instanceMethod ny_S_valueOfS) ∈ GW := List.mem_of_getElem? (i := 212) (by decide +kernel)
theorem gw_213 : (Cond.code ny_S_valueOfS nc_S_valueOfS 2 (some .int)) ∈ GW := List.mem_of_getElem? (i := 213) (by decide +kernel)
theorem gw_214 : (Cond.methodLink nR_S 197 ny_S_numberS) ∈ GW := List.mem_of_getElem? (i := 214) (by decide +kernel)
theorem gw_215 : (Cond.static ny_S_numberS) ∈ GW := List.mem_of_getElem? (i := 215) (by decide +kernel)
theorem gw_216 : (Cond.code ny_S_numberS nc_S_numberS 1 (some .int)) ∈ GW := List.mem_of_getElem? (i := 216) (by decide +kernel)
theorem gw_217 : (Cond.methodLink nR_S 236 ny_S_numberA) ∈ GW := List.mem_of_getElem? (i := 217) (by decide +kernel)
theorem gw_218 : (Cond.static ny_S_numberA) ∈ GW := List.mem_of_getElem? (i := 218) (by decide +kernel)
theorem gw_219 : (Cond.code ny_S_numberA nc_S_numberA 1 (some .int)) ∈ GW := List.mem_of_getElem? (i := 219) (by decide +kernel)
theorem gw_220 : (Cond.methodLink nR_S 205 ny_S_give) ∈ GW := List.mem_of_getElem? (i := 220) (by decide +kernel)
theorem gw_221 : (Cond.selects nR_S ny_S_give ny_S_give) ∈ GW := List.mem_of_getElem? (i := 221) (by decide +kernel)
theorem gw_222 : (Cond.instanceMethod ny_S_give) ∈ GW := List.mem_of_getElem? (i := 222) (by decide +kernel)
theorem gw_223 : (Cond.code ny_S_give nc_S_give 3 (some .int)) ∈ GW := List.mem_of_getElem? (i := 223) (by decide +kernel)
theorem gw_224 : (Cond.methodLink nR_S 215 ny_S_performJumpToS) ∈ GW := List.mem_of_getElem? (i := 224) (by decide +kernel)
theorem gw_225 : (Cond.selects nR_S ny_S_performJumpToS ny_S_performJumpToS) ∈ GW := List.mem_of_getElem? (i := 225) (by decide +kernel)
theorem gw_226 : (Cond.instanceMethod ny_S_performJumpToS) ∈ GW := List.mem_of_getElem? (i := 226) (by decide +kernel)
theorem gw_227 : (Cond.code ny_S_performJumpToS nc_S_performJumpToS 2 (some .int)) ∈ GW := List.mem_of_getElem? (i := 227) (by decide +kernel)
theorem gw_228 : (Cond.methodLink nR_S 239 ny_S_branchIf) ∈ GW := List.mem_of_getElem? (i := 228) (by decide +kernel)
theorem gw_229 : (Cond.selects nR_S ny_S_branchIf ny_S_branchIf) ∈ GW := List.mem_of_getElem? (i := 229) (by decide +kernel)
theorem gw_230 : (Cond.instanceMethod ny_S_branchIf) ∈ GW := List.mem_of_getElem? (i := 230) (by decide +kernel)
theorem gw_231 : (Cond.code ny_S_branchIf nc_S_branchIf 3 (some .int)) ∈ GW := List.mem_of_getElem? (i := 231) (by decide +kernel)
theorem gw_232 : (Cond.methodLink nR_S 218 ny_S_performMove) ∈ GW := List.mem_of_getElem? (i := 232) (by decide +kernel)
theorem gw_233 : (Cond.selects nR_S ny_S_performMove ny_S_performMove) ∈ GW := List.mem_of_getElem? (i := 233) (by decide +kernel)
theorem gw_234 : (Cond.instanceMethod ny_S_performMove) ∈ GW := List.mem_of_getElem? (i := 234) (by decide +kernel)
theorem gw_235 : (Cond.code ny_S_performMove nc_S_performMove 2 (some .int)) ∈ GW := List.mem_of_getElem? (i := 235) (by decide +kernel)
theorem gw_236 : (Cond.methodLink nR_S 221 ny_S_performProduct) ∈ GW := List.mem_of_getElem? (i := 236) (by decide +kernel)
theorem gw_237 : (Cond.selects nR_S ny_S_performProduct ny_S_performProduct) ∈ GW := List.mem_of_getElem? (i := 237) (by decide +kernel)
theorem gw_238 : (Cond.instanceMethod ny_S_performProduct) ∈ GW := List.mem_of_getElem? (i := 238) (by decide +kernel)
theorem gw_239 : (Cond.code ny_S_performProduct nc_S_performProduct 4 (some .int)) ∈ GW := List.mem_of_getElem? (i := 239) (by decide +kernel)
theorem gw_240 : (Cond.methodLink nR_S 255 ny_S_keepHighAndLow) ∈ GW := List.mem_of_getElem? (i := 240) (by decide +kernel)
theorem gw_241 : (Cond.selects nR_S ny_S_keepHighAndLow ny_S_keepHighAndLow) ∈ GW := List.mem_of_getElem? (i := 241) (by decide +kernel)
theorem gw_242 : (Cond.instanceMethod ny_S_keepHighAndLow) ∈ GW := List.mem_of_getElem? (i := 242) (by decide +kernel)
theorem gw_243 : (Cond.code ny_S_keepHighAndLow nc_S_keepHighAndLow 3 (some .int)) ∈ GW := List.mem_of_getElem? (i := 243) (by decide +kernel)
theorem gw_244 : (Cond.methodLink nR_S 251 ny_S_withoutSign) ∈ GW := List.mem_of_getElem? (i := 244) (by decide +kernel)
theorem gw_245 : (Cond.static ny_S_withoutSign) ∈ GW := List.mem_of_getElem? (i := 245) (by decide +kernel)
theorem gw_246 : (Cond.code ny_S_withoutSign nc_S_withoutSign 1 (some .long)) ∈ GW := List.mem_of_getElem? (i := 246) (by decide +kernel)
theorem gw_247 : (Cond.constantLong nR_S 203 4294967295) ∈ GW := List.mem_of_getElem? (i := 247) (by decide +kernel)
theorem gw_248 : (Cond.methodLink nR_S 259 ny_S_divide) ∈ GW := List.mem_of_getElem? (i := 248) (by decide +kernel)
theorem gw_249 : (Cond.static ny_S_divide) ∈ GW := List.mem_of_getElem? (i := 249) (by decide +kernel)
theorem gw_250 : (Cond.code ny_S_divide nc_S_divide 4 (some .long)) ∈ GW := List.mem_of_getElem? (i := 250) (by decide +kernel)
theorem gw_251 : (Cond.constantLong nR_S 266 (-1)) ∈ GW := List.mem_of_getElem? (i := 251) (by decide +kernel)
theorem gw_252 : (Cond.methodLink nR_S 268 ny_S_restAndQuotient) ∈ GW := List.mem_of_getElem? (i := 252) (by decide +kernel)
theorem gw_253 : (Cond.static ny_S_restAndQuotient) ∈ GW := List.mem_of_getElem? (i := 253) (by decide +kernel)
theorem gw_254 : (Cond.code ny_S_restAndQuotient nc_S_restAndQuotient 4 (some .long)) ∈ GW := List.mem_of_getElem? (i := 254) (by decide +kernel)
theorem gw_255 : (Cond.methodLink nR_S 263 ny_S_divideWithoutSign) ∈ GW := List.mem_of_getElem? (i := 255) (by decide +kernel)
theorem gw_256 : (Cond.static ny_S_divideWithoutSign) ∈ GW := List.mem_of_getElem? (i := 256) (by decide +kernel)
theorem gw_257 : (Cond.code ny_S_divideWithoutSign nc_S_divideWithoutSign 6 (some .long)) ∈ GW := List.mem_of_getElem? (i := 257) (by decide +kernel)
theorem gw_258 : (Cond.methodLink nR_S 224 ny_S_performOnTwo) ∈ GW := List.mem_of_getElem? (i := 258) (by decide +kernel)
theorem gw_259 : (Cond.selects nR_S ny_S_performOnTwo ny_S_performOnTwo) ∈ GW := List.mem_of_getElem? (i := 259) (by decide +kernel)
theorem gw_260 : (Cond.instanceMethod ny_S_performOnTwo) ∈ GW := List.mem_of_getElem? (i := 260) (by decide +kernel)
theorem gw_261 : (Cond.code ny_S_performOnTwo nc_S_performOnTwo 5 (some .int)) ∈ GW := List.mem_of_getElem? (i := 261) (by decide +kernel)
theorem gw_262 : (Cond.methodLink nR_S 243 ny_S_giveIfExact) ∈ GW := List.mem_of_getElem? (i := 262) (by decide +kernel)
theorem gw_263 : (Cond.selects nR_S ny_S_giveIfExact ny_S_giveIfExact) ∈ GW := List.mem_of_getElem? (i := 263) (by decide +kernel)
theorem gw_264 : (Cond.instanceMethod ny_S_giveIfExact) ∈ GW := List.mem_of_getElem? (i := 264) (by decide +kernel)
theorem gw_265 : (Cond.code ny_S_giveIfExact nc_S_giveIfExact 4 (some .int)) ∈ GW := List.mem_of_getElem? (i := 265) (by decide +kernel)
theorem gw_266 : (Cond.methodLink nR_S 247 ny_S_giveTruth) ∈ GW := List.mem_of_getElem? (i := 266) (by decide +kernel)
theorem gw_267 : (Cond.selects nR_S ny_S_giveTruth ny_S_giveTruth) ∈ GW := List.mem_of_getElem? (i := 267) (by decide +kernel)
theorem gw_268 : (Cond.instanceMethod ny_S_giveTruth) ∈ GW := List.mem_of_getElem? (i := 268) (by decide +kernel)
theorem gw_269 : (Cond.code ny_S_giveTruth nc_S_giveTruth 3 (some .int)) ∈ GW := List.mem_of_getElem? (i := 269) (by decide +kernel)
theorem gw_270 : (Cond.methodLink nR_S 175 ny_S_performBranchBySign) ∈ GW := List.mem_of_getElem? (i := 270) (by decide +kernel)
theorem gw_271 : (Cond.selects nR_S ny_S_performBranchBySign ny_S_performBranchBySign) ∈ GW := List.mem_of_getElem? (i := 271) (by decide +kernel)
theorem gw_272 : (Cond.instanceMethod ny_S_performBranchBySign) ∈ GW := List.mem_of_getElem? (i := 272) (by decide +kernel)
theorem gw_273 : (Cond.code ny_S_performBranchBySign nc_S_performBranchBySign 5 (some .int)) ∈ GW := List.mem_of_getElem? (i := 273) (by decide +kernel)
theorem gw_274 : (Cond.methodLink nR_S 275 ny_S_nearTarget) ∈ GW := List.mem_of_getElem? (i := 274) (by decide +kernel)
theorem gw_275 : (Cond.selects nR_S ny_S_nearTarget ny_S_nearTarget) ∈ GW := List.mem_of_getElem? (i := 275) (by decide +kernel)
theorem gw_276 : (Cond.instanceMethod ny_S_nearTarget) ∈ GW := List.mem_of_getElem? (i := 276) (by decide +kernel)
theorem gw_277 : (Cond.code ny_S_nearTarget nc_S_nearTarget 2 (some .int)) ∈ GW := List.mem_of_getElem? (i := 277) (by decide +kernel)
theorem gw_278 : (Cond.methodLink nR_S 281 ny_S_numberI) ∈ GW := List.mem_of_getElem? (i := 278) (by decide +kernel)
theorem gw_279 : (Cond.static ny_S_numberI) ∈ GW := List.mem_of_getElem? (i := 279) (by decide +kernel)
theorem gw_280 : (Cond.code ny_S_numberI nc_S_numberI 1 (some .int)) ∈ GW := List.mem_of_getElem? (i := 280) (by decide +kernel)
theorem gw_281 : (Cond.methodLink nR_S 178 ny_S_performJump) ∈ GW := List.mem_of_getElem? (i := 281) (by decide +kernel)
theorem gw_282 : (Cond.selects nR_S ny_S_performJump ny_S_performJump) ∈ GW := List.mem_of_getElem? (i := 282) (by decide +kernel)
theorem gw_283 : (Cond.instanceMethod ny_S_performJump) ∈ GW := List.mem_of_getElem? (i := 283) (by decide +kernel)
theorem gw_284 : (Cond.code ny_S_performJump nc_S_performJump 2 (some .int)) ∈ GW := List.mem_of_getElem? (i := 284) (by decide +kernel)
theorem gw_285 : (Cond.methodLink nR_S 278 ny_S_farTarget) ∈ GW := List.mem_of_getElem? (i := 285) (by decide +kernel)
theorem gw_286 : (Cond.selects nR_S ny_S_farTarget ny_S_farTarget) ∈ GW := List.mem_of_getElem? (i := 286) (by decide +kernel)
theorem gw_287 : (Cond.instanceMethod ny_S_farTarget) ∈ GW := List.mem_of_getElem? (i := 287) (by decide +kernel)
theorem gw_288 : (Cond.code ny_S_farTarget nc_S_farTarget 2 (some .int)) ∈ GW := List.mem_of_getElem? (i := 288) (by decide +kernel)
theorem gw_289 : (Cond.constant nR_S 284 (-268435456)) ∈ GW := List.mem_of_getElem? (i := 289) (by decide +kernel)
theorem gw_290 : (Cond.constant nR_S 285 268435455) ∈ GW := List.mem_of_getElem? (i := 290) (by decide +kernel)
theorem gw_291 : (Cond.methodLink nR_S 181 ny_S_performBranch) ∈ GW := List.mem_of_getElem? (i := 291) (by decide +kernel)
theorem gw_292 : (Cond.selects nR_S ny_S_performBranch ny_S_performBranch) ∈ GW := List.mem_of_getElem? (i := 292) (by decide +kernel)
theorem gw_293 : (Cond.instanceMethod ny_S_performBranch) ∈ GW := List.mem_of_getElem? (i := 293) (by decide +kernel)
theorem gw_294 : (Cond.code ny_S_performBranch nc_S_performBranch 4 (some .int)) ∈ GW := List.mem_of_getElem? (i := 294) (by decide +kernel)
theorem gw_295 : (Cond.methodLink nR_S 184 ny_S_performWithNumber) ∈ GW := List.mem_of_getElem? (i := 295) (by decide +kernel)
theorem gw_296 : (Cond.selects nR_S ny_S_performWithNumber ny_S_performWithNumber) ∈ GW := List.mem_of_getElem? (i := 296) (by decide +kernel)
theorem gw_297 : (Cond.instanceMethod ny_S_performWithNumber) ∈ GW := List.mem_of_getElem? (i := 297) (by decide +kernel)
theorem gw_298 : (Cond.code ny_S_performWithNumber nc_S_performWithNumber 6 (some .int)) ∈ GW := List.mem_of_getElem? (i := 298) (by decide +kernel)
theorem gw_299 : (Cond.methodLink nR_S 286 ny_S_numberU) ∈ GW := List.mem_of_getElem? (i := 299) (by decide +kernel)
theorem gw_300 : (Cond.static ny_S_numberU) ∈ GW := List.mem_of_getElem? (i := 300) (by decide +kernel)
theorem gw_301 : (Cond.code ny_S_numberU nc_S_numberU 1 (some .int)) ∈ GW := List.mem_of_getElem? (i := 301) (by decide +kernel)
theorem gw_302 : (Cond.constant nR_S 196 65535) ∈ GW := List.mem_of_getElem? (i := 302) (by decide +kernel)
theorem gw_303 : (Cond.methodLink nR_S 187 ny_S_performControl) ∈ GW := List.mem_of_getElem? (i := 303) (by decide +kernel)
theorem gw_304 : (Cond.selects nR_S ny_S_performControl ny_S_performControl) ∈ GW := List.mem_of_getElem? (i := 304) (by decide +kernel)
theorem gw_305 : (Cond.instanceMethod ny_S_performControl) ∈ GW := List.mem_of_getElem? (i := 305) (by decide +kernel)
theorem gw_306 : (Cond.code ny_S_performControl nc_S_performControl 4 (some .int)) ∈ GW := List.mem_of_getElem? (i := 306) (by decide +kernel)
theorem gw_307 : (Cond.selects nR_C ny_C_valueOf ny_C_valueOf) ∈ GW := List.mem_of_getElem? (i := 307) (by decide +kernel)
theorem gw_308 : (Cond.instanceMethod ny_C_valueOf) ∈ GW := List.mem_of_getElem? (i := 308) (by decide +kernel)
theorem gw_309 : (Cond.code ny_C_valueOf nc_C_valueOf 2 (some .int)) ∈ GW := List.mem_of_getElem? (i := 309) (by decide +kernel)
theorem gw_310 : (Cond.methodLink nR_S 293 ny_S_giveLate) ∈ GW := List.mem_of_getElem? (i := 310) (by decide +kernel)
theorem gw_311 : (Cond.selects nR_S ny_S_giveLate ny_S_giveLate) ∈ GW := List.mem_of_getElem? (i := 311) (by decide +kernel)
theorem gw_312 : (Cond.instanceMethod ny_S_giveLate) ∈ GW := List.mem_of_getElem? (i := 312) (by decide +kernel)
theorem gw_313 : (Cond.code ny_S_giveLate nc_S_giveLate 3 (some .int)) ∈ GW := List.mem_of_getElem? (i := 313) (by decide +kernel)
theorem gw_314 : (Cond.selects nR_C ny_C_leave ny_C_leave) ∈ GW := List.mem_of_getElem? (i := 314) (by decide +kernel)
theorem gw_315 : (Cond.instanceMethod ny_C_leave) ∈ GW := List.mem_of_getElem? (i := 315) (by decide +kernel)
theorem gw_316 : (Cond.code ny_C_leave nc_C_leave 1 none) ∈ GW := List.mem_of_getElem? (i := 316) (by decide +kernel)
theorem gw_317 : (Cond.methodLink nR_S 190 ny_S_performLoad) ∈ GW := List.mem_of_getElem? (i := 317) (by decide +kernel)
theorem gw_318 : (Cond.selects nR_S ny_S_performLoad ny_S_performLoad) ∈ GW := List.mem_of_getElem? (i := 318) (by decide +kernel)
theorem gw_319 : (Cond.instanceMethod ny_S_performLoad) ∈ GW := List.mem_of_getElem? (i := 319) (by decide +kernel)
theorem gw_320 : (Cond.code ny_S_performLoad nc_S_performLoad 6 (some .int)) ∈ GW := List.mem_of_getElem? (i := 320) (by decide +kernel)
theorem gw_321 : (Cond.methodLink nR_S 299 ny_S_addressOf) ∈ GW := List.mem_of_getElem? (i := 321) (by decide +kernel)
theorem gw_322 : (Cond.selects nR_S ny_S_addressOf ny_S_addressOf) ∈ GW := List.mem_of_getElem? (i := 322) (by decide +kernel)
theorem gw_323 : (Cond.instanceMethod ny_S_addressOf) ∈ GW := List.mem_of_getElem? (i := 323) (by decide +kernel)
theorem gw_324 : (Cond.code ny_S_addressOf nc_S_addressOf 2 (some .int)) ∈ GW := List.mem_of_getElem? (i := 324) (by decide +kernel)
theorem gw_325 : (Cond.methodLink nR_S 302 ny_S_loadUnit) ∈ GW := List.mem_of_getElem? (i := 325) (by decide +kernel)
theorem gw_326 : (Cond.static ny_S_loadUnit) ∈ GW := List.mem_of_getElem? (i := 326) (by decide +kernel)
theorem gw_327 : (Cond.code ny_S_loadUnit nc_S_loadUnit 1 (some .int)) ∈ GW := List.mem_of_getElem? (i := 327) (by decide +kernel)
theorem gw_328 : (Cond.methodLink nR_S 305 ny_S_faultOfData) ∈ GW := List.mem_of_getElem? (i := 328) (by decide +kernel)
theorem gw_329 : (Cond.selects nR_S ny_S_faultOfData ny_S_faultOfData) ∈ GW := List.mem_of_getElem? (i := 329) (by decide +kernel)
theorem gw_330 : (Cond.instanceMethod ny_S_faultOfData) ∈ GW := List.mem_of_getElem? (i := 330) (by decide +kernel)
theorem gw_331 : (Cond.code ny_S_faultOfData nc_S_faultOfData 4 (some .int)) ∈ GW := List.mem_of_getElem? (i := 331) (by decide +kernel)
theorem gw_332 : (Cond.selects nR_R ny_R_latestOf ny_R_latestOf) ∈ GW := List.mem_of_getElem? (i := 332) (by decide +kernel)
theorem gw_333 : (Cond.instanceMethod ny_R_latestOf) ∈ GW := List.mem_of_getElem? (i := 333) (by decide +kernel)
theorem gw_334 : (Cond.code ny_R_latestOf nc_R_latestOf 2 (some .int)) ∈ GW := List.mem_of_getElem? (i := 334) (by decide +kernel)
theorem gw_335 : (Cond.methodLink nR_R 22 ny_R_valueOf) ∈ GW := List.mem_of_getElem? (i := 335) (by decide +kernel)
theorem gw_336 : (Cond.methodLink nR_S 312 ny_S_joinLoaded) ∈ GW := List.mem_of_getElem? (i := 336) (by decide +kernel)
theorem gw_337 : (Cond.static ny_S_joinLoaded) ∈ GW := List.mem_of_getElem? (i := 337) (by decide +kernel)
theorem gw_338 : (Cond.code ny_S_joinLoaded nc_S_joinLoaded 7 (some .int)) ∈ GW := List.mem_of_getElem? (i := 338) (by decide +kernel)
theorem gw_339 : (Cond.methodLink nR_S 316 ny_S_toLowest) ∈ GW := List.mem_of_getElem? (i := 339) (by decide +kernel)
theorem gw_340 : (Cond.static ny_S_toLowest) ∈ GW := List.mem_of_getElem? (i := 340) (by decide +kernel)
theorem gw_341 : (Cond.code ny_S_toLowest nc_S_toLowest 2 (some .int)) ∈ GW := List.mem_of_getElem? (i := 341) (by decide +kernel)
theorem gw_342 : (Cond.methodLink nR_S 319 ny_S_bitsAhead) ∈ GW := List.mem_of_getElem? (i := 342) (by decide +kernel)
theorem gw_343 : (Cond.static ny_S_bitsAhead) ∈ GW := List.mem_of_getElem? (i := 343) (by decide +kernel)
theorem gw_344 : (Cond.code ny_S_bitsAhead nc_S_bitsAhead 1 (some .int)) ∈ GW := List.mem_of_getElem? (i := 344) (by decide +kernel)
theorem gw_345 : (Cond.methodLink nR_S 322 ny_S_exchange) ∈ GW := List.mem_of_getElem? (i := 345) (by decide +kernel)
theorem gw_346 : (Cond.methodLink nR_S 193 ny_S_performStore) ∈ GW := List.mem_of_getElem? (i := 346) (by decide +kernel)
theorem gw_347 : (Cond.selects nR_S ny_S_performStore ny_S_performStore) ∈ GW := List.mem_of_getElem? (i := 347) (by decide +kernel)
theorem gw_348 : (Cond.instanceMethod ny_S_performStore) ∈ GW := List.mem_of_getElem? (i := 348) (by decide +kernel)
theorem gw_349 : (Cond.code ny_S_performStore nc_S_performStore 6 (some .int)) ∈ GW := List.mem_of_getElem? (i := 349) (by decide +kernel)
theorem gw_350 : (Cond.methodLink nR_S 325 ny_S_storeUnit) ∈ GW := List.mem_of_getElem? (i := 350) (by decide +kernel)
theorem gw_351 : (Cond.static ny_S_storeUnit) ∈ GW := List.mem_of_getElem? (i := 351) (by decide +kernel)
theorem gw_352 : (Cond.code ny_S_storeUnit nc_S_storeUnit 1 (some .int)) ∈ GW := List.mem_of_getElem? (i := 352) (by decide +kernel)
theorem gw_353 : (Cond.methodLink nR_S 328 ny_S_joinStored) ∈ GW := List.mem_of_getElem? (i := 353) (by decide +kernel)
theorem gw_354 : (Cond.static ny_S_joinStored) ∈ GW := List.mem_of_getElem? (i := 354) (by decide +kernel)
theorem gw_355 : (Cond.code ny_S_joinStored nc_S_joinStored 7 (some .int)) ∈ GW := List.mem_of_getElem? (i := 355) (by decide +kernel)
theorem gw_356 : (Cond.selects nR_M ny_M_replaceWord ny_M_replaceWord) ∈ GW := List.mem_of_getElem? (i := 356) (by decide +kernel)
theorem gw_357 : (Cond.instanceMethod ny_M_replaceWord) ∈ GW := List.mem_of_getElem? (i := 357) (by decide +kernel)
theorem gw_358 : (Cond.code ny_M_replaceWord nc_M_replaceWord 3 none) ∈ GW := List.mem_of_getElem? (i := 358) (by decide +kernel)
theorem gw_359 : (Cond.methodLink nR_S 132 ny_S_finishInstruction) ∈ GW := List.mem_of_getElem? (i := 359) (by decide +kernel)
theorem gw_360 : (Cond.selects nR_S ny_S_finishInstruction ny_S_finishInstruction) ∈ GW := List.mem_of_getElem? (i := 360) (by decide +kernel)
theorem gw_361 : (Cond.instanceMethod ny_S_finishInstruction) ∈ GW := List.mem_of_getElem? (i := 361) (by decide +kernel)
theorem gw_362 : (Cond.code ny_S_finishInstruction nc_S_finishInstruction 1 none) ∈ GW := List.mem_of_getElem? (i := 362) (by decide +kernel)
theorem gw_368 : (Cond.code ny_S_put nc_S_put 4 (some .int)) ∈ GW := List.mem_of_getElem? (i := 368) (by decide +kernel)
theorem gw_369 : (Cond.methodLink nR_S 55 ny_S_isPlaceOfWord) ∈ GW := List.mem_of_getElem? (i := 369) (by decide +kernel)
theorem gw_370 : (Cond.static ny_S_isPlaceOfWord) ∈ GW := List.mem_of_getElem? (i := 370) (by decide +kernel)
theorem gw_371 : (Cond.code ny_S_isPlaceOfWord nc_S_isPlaceOfWord 1 (some .boolean)) ∈ GW := List.mem_of_getElem? (i := 371) (by decide +kernel)
theorem gw_377 : (Cond.code ny_S_word nc_S_word 2 (some .int)) ∈ GW := List.mem_of_getElem? (i := 377) (by decide +kernel)
theorem gw_383 : (Cond.code ny_S_set nc_S_set 4 (some .int)) ∈ GW := List.mem_of_getElem? (i := 383) (by decide +kernel)
theorem gw_389 : (Cond.code ny_S_register nc_S_register 2 (some .int)) ∈ GW := List.mem_of_getElem? (i := 389) (by decide +kernel)
theorem gw_395 : (Cond.code ny_S_lines nc_S_lines 3 (some .int)) ∈ GW := List.mem_of_getElem? (i := 395) (by decide +kernel)
theorem gw_401 : (Cond.code ny_S_run nc_S_run 4 (some .int)) ∈ GW := List.mem_of_getElem? (i := 401) (by decide +kernel)
theorem gw_407 : (Cond.code ny_S_look nc_S_look 2 (some .int)) ∈ GW := List.mem_of_getElem? (i := 407) (by decide +kernel)
theorem gw_412 : (Cond.code ny_D_init nc_D_init 1 none) ∈ GW := List.mem_of_getElem? (i := 412) (by decide +kernel)
theorem gw_414 : (Cond.fieldLink nR_D 23 "SlotCoreModel" "thrown" "I") ∈ GW := List.mem_of_getElem? (i := 414) (by decide +kernel)
theorem gw_415 : (Cond.fieldLink nR_D 7 "SlotCoreModel" "bytes" "[I") ∈ GW := List.mem_of_getElem? (i := 415) (by decide +kernel)
theorem gw_416 : (Cond.fieldLink nR_D 13 "SlotCoreModel" "registers" "[I") ∈ GW := List.mem_of_getElem? (i := 416) (by decide +kernel)
theorem gw_417 : (Cond.fieldLink nR_D 26 "SlotCoreModel" "pc" "I") ∈ GW := List.mem_of_getElem? (i := 417) (by decide +kernel)
theorem gw_418 : (Cond.fieldLink nR_D 16 "SlotCoreModel" "next" "I") ∈ GW := List.mem_of_getElem? (i := 418) (by decide +kernel)
theorem gw_419 : (Cond.fieldLink nR_D 29 "SlotCoreModel" "status" "I") ∈ GW := List.mem_of_getElem? (i := 419) (by decide +kernel)
theorem gw_420 : (Cond.fieldLink nR_D 32 "SlotCoreModel" "code" "I") ∈ GW := List.mem_of_getElem? (i := 420) (by decide +kernel)
theorem gw_421 : (Cond.fieldLink nR_D 35 "SlotCoreModel" "soft" "I") ∈ GW := List.mem_of_getElem? (i := 421) (by decide +kernel)
theorem gw_422 : (Cond.fieldLink nR_D 38 "SlotCoreModel" "lines" "I") ∈ GW := List.mem_of_getElem? (i := 422) (by decide +kernel)
theorem gw_423 : (Cond.fieldLink nR_D 41 "SlotCoreModel" "behind" "Z") ∈ GW := List.mem_of_getElem? (i := 423) (by decide +kernel)
theorem gw_424 : (Cond.fieldLink nR_D 45 "SlotCoreModel" "back" "I") ∈ GW := List.mem_of_getElem? (i := 424) (by decide +kernel)
theorem gw_425 : (Cond.fieldLink nR_D 48 "SlotCoreModel" "bad" "I") ∈ GW := List.mem_of_getElem? (i := 425) (by decide +kernel)
theorem gw_426 : (Cond.fieldLink nR_D 51 "SlotCoreModel" "slot" "Z") ∈ GW := List.mem_of_getElem? (i := 426) (by decide +kernel)
theorem gw_427 : (Cond.fieldLink nR_D 20 "SlotCoreModel" "waits" "I") ∈ GW := List.mem_of_getElem? (i := 427) (by decide +kernel)
theorem gw_428 : (Cond.fieldLink nR_D 54 "SlotCoreModel" "value" "I") ∈ GW := List.mem_of_getElem? (i := 428) (by decide +kernel)
theorem gw_429 : (Cond.fieldLink nR_D 57 "SlotCoreModel" "steps" "I") ∈ GW := List.mem_of_getElem? (i := 429) (by decide +kernel)
theorem gw_430 : (Cond.fieldLink nR_D 60 "SlotCoreModel" "troubles" "I") ∈ GW := List.mem_of_getElem? (i := 430) (by decide +kernel)
theorem gw_431 : (Cond.fieldLink nR_D 81 "SlotCoreModel" "word" "I") ∈ GW := List.mem_of_getElem? (i := 431) (by decide +kernel)
theorem gw_432 : (Cond.fieldLink nR_D 84 "SlotCoreModel" "order" "I") ∈ GW := List.mem_of_getElem? (i := 432) (by decide +kernel)
theorem gw_433 : (Cond.fieldLink nR_D 95 "SlotCoreModel" "s" "I") ∈ GW := List.mem_of_getElem? (i := 433) (by decide +kernel)
theorem gw_434 : (Cond.fieldLink nR_D 118 "SlotCoreModel" "t" "I") ∈ GW := List.mem_of_getElem? (i := 434) (by decide +kernel)
theorem gw_435 : (Cond.fieldLink nR_D 87 "SlotCoreModel" "k" "I") ∈ GW := List.mem_of_getElem? (i := 435) (by decide +kernel)
theorem gw_436 : (Cond.fieldLink nR_D 128 "SlotCoreModel" "to" "I") ∈ GW := List.mem_of_getElem? (i := 436) (by decide +kernel)
theorem gw_437 : (Cond.fieldLink nR_D 131 "SlotCoreModel" "result" "I") ∈ GW := List.mem_of_getElem? (i := 437) (by decide +kernel)
theorem gw_438 : (Cond.fieldLink nR_D 160 "SlotCoreModel" "loads" "I") ∈ GW := List.mem_of_getElem? (i := 438) (by decide +kernel)
theorem gw_439 : (Cond.fieldLink nR_D 166 "SlotCoreModel" "loaded" "I") ∈ GW := List.mem_of_getElem? (i := 439) (by decide +kernel)
theorem gw_440 : (Cond.fieldLink nR_D 140 "SlotCoreModel" "target" "I") ∈ GW := List.mem_of_getElem? (i := 440) (by decide +kernel)
theorem gw_472 : (Cond.code ny_D_thrown nc_D_thrown 1 (some .int)) ∈ GW := List.mem_of_getElem? (i := 472) (by decide +kernel)
theorem gw_476 : (Cond.code ny_D_reset nc_D_reset 2 none) ∈ GW := List.mem_of_getElem? (i := 476) (by decide +kernel)
theorem gw_480 : (Cond.code ny_D_put nc_D_put 4 (some .int)) ∈ GW := List.mem_of_getElem? (i := 480) (by decide +kernel)
theorem gw_481 : (Cond.methodLink nR_D 63 ny_D_isWord) ∈ GW := List.mem_of_getElem? (i := 481) (by decide +kernel)
theorem gw_482 : (Cond.static ny_D_isWord) ∈ GW := List.mem_of_getElem? (i := 482) (by decide +kernel)
theorem gw_483 : (Cond.code ny_D_isWord nc_D_isWord 1 (some .boolean)) ∈ GW := List.mem_of_getElem? (i := 483) (by decide +kernel)
theorem gw_484 : (Cond.methodLink nR_D 67 ny_D_goes) ∈ GW := List.mem_of_getElem? (i := 484) (by decide +kernel)
theorem gw_485 : (Cond.selects nR_D ny_D_goes ny_D_goes) ∈ GW := List.mem_of_getElem? (i := 485) (by decide +kernel)
theorem gw_486 : (Cond.instanceMethod ny_D_goes) ∈ GW := List.mem_of_getElem? (i := 486) (by decide +kernel)
theorem gw_487 : (Cond.code ny_D_goes nc_D_goes 2 (some .boolean)) ∈ GW := List.mem_of_getElem? (i := 487) (by decide +kernel)
theorem gw_488 : (Cond.methodLink nR_D 71 ny_D_load) ∈ GW := List.mem_of_getElem? (i := 488) (by decide +kernel)
theorem gw_489 : (Cond.selects nR_D ny_D_load ny_D_load) ∈ GW := List.mem_of_getElem? (i := 489) (by decide +kernel)
theorem gw_490 : (Cond.instanceMethod ny_D_load) ∈ GW := List.mem_of_getElem? (i := 490) (by decide +kernel)
theorem gw_491 : (Cond.code ny_D_load nc_D_load 5 (some .int)) ∈ GW := List.mem_of_getElem? (i := 491) (by decide +kernel)
theorem gw_492 : (Cond.methodLink nR_D 75 ny_D_store) ∈ GW := List.mem_of_getElem? (i := 492) (by decide +kernel)
theorem gw_493 : (Cond.selects nR_D ny_D_store ny_D_store) ∈ GW := List.mem_of_getElem? (i := 493) (by decide +kernel)
theorem gw_494 : (Cond.instanceMethod ny_D_store) ∈ GW := List.mem_of_getElem? (i := 494) (by decide +kernel)
theorem gw_495 : (Cond.code ny_D_store nc_D_store 5 none) ∈ GW := List.mem_of_getElem? (i := 495) (by decide +kernel)
theorem gw_499 : (Cond.code ny_D_word nc_D_word 2 (some .int)) ∈ GW := List.mem_of_getElem? (i := 499) (by decide +kernel)
theorem gw_503 : (Cond.code ny_D_set nc_D_set 4 (some .int)) ∈ GW := List.mem_of_getElem? (i := 503) (by decide +kernel)
theorem gw_507 : (Cond.code ny_D_register nc_D_register 2 (some .int)) ∈ GW := List.mem_of_getElem? (i := 507) (by decide +kernel)
theorem gw_511 : (Cond.code ny_D_go nc_D_go 3 (some .int)) ∈ GW := List.mem_of_getElem? (i := 511) (by decide +kernel)
theorem gw_515 : (Cond.code ny_D_status nc_D_status 3 (some .int)) ∈ GW := List.mem_of_getElem? (i := 515) (by decide +kernel)
theorem gw_516 : (Cond.constant nR_D 79 65343) ∈ GW := List.mem_of_getElem? (i := 516) (by decide +kernel)
theorem gw_520 : (Cond.code ny_D_lines nc_D_lines 3 (some .int)) ∈ GW := List.mem_of_getElem? (i := 520) (by decide +kernel)
theorem gw_524 : (Cond.code ny_D_step nc_D_step 1 (some .int)) ∈ GW := List.mem_of_getElem? (i := 524) (by decide +kernel)
theorem gw_525 : (Cond.methodLink nR_D 206 ny_D_oneStep) ∈ GW := List.mem_of_getElem? (i := 525) (by decide +kernel)
theorem gw_526 : (Cond.selects nR_D ny_D_oneStep ny_D_oneStep) ∈ GW := List.mem_of_getElem? (i := 526) (by decide +kernel)
theorem gw_527 : (Cond.instanceMethod ny_D_oneStep) ∈ GW := List.mem_of_getElem? (i := 527) (by decide +kernel)
theorem gw_528 : (Cond.code ny_D_oneStep nc_D_oneStep 2 (some .int)) ∈ GW := List.mem_of_getElem? (i := 528) (by decide +kernel)
theorem gw_529 : (Cond.methodLink nR_D 163 ny_D_cause) ∈ GW := List.mem_of_getElem? (i := 529) (by decide +kernel)
theorem gw_530 : (Cond.selects nR_D ny_D_cause ny_D_cause) ∈ GW := List.mem_of_getElem? (i := 530) (by decide +kernel)
theorem gw_531 : (Cond.instanceMethod ny_D_cause) ∈ GW := List.mem_of_getElem? (i := 531) (by decide +kernel)
theorem gw_532 : (Cond.code ny_D_cause nc_D_cause 1 (some .int)) ∈ GW := List.mem_of_getElem? (i := 532) (by decide +kernel)
theorem gw_533 : (Cond.constant nR_D 80 (-2147483648)) ∈ GW := List.mem_of_getElem? (i := 533) (by decide +kernel)
theorem gw_534 : (Cond.methodLink nR_D 191 ny_D_except) ∈ GW := List.mem_of_getElem? (i := 534) (by decide +kernel)
theorem gw_535 : (Cond.selects nR_D ny_D_except ny_D_except) ∈ GW := List.mem_of_getElem? (i := 535) (by decide +kernel)
theorem gw_536 : (Cond.instanceMethod ny_D_except) ∈ GW := List.mem_of_getElem? (i := 536) (by decide +kernel)
theorem gw_537 : (Cond.code ny_D_except nc_D_except 2 none) ∈ GW := List.mem_of_getElem? (i := 537) (by decide +kernel)
theorem gw_538 : (Cond.constant nR_D 187 (-2147483520)) ∈ GW := List.mem_of_getElem? (i := 538) (by decide +kernel)
theorem gw_539 : (Cond.methodLink nR_D 188 ny_D_settle) ∈ GW := List.mem_of_getElem? (i := 539) (by decide +kernel)
theorem gw_540 : (Cond.selects nR_D ny_D_settle ny_D_settle) ∈ GW := List.mem_of_getElem? (i := 540) (by decide +kernel)
theorem gw_541 : (Cond.instanceMethod ny_D_settle) ∈ GW := List.mem_of_getElem? (i := 541) (by decide +kernel)
theorem gw_542 : (Cond.code ny_D_settle nc_D_settle 1 none) ∈ GW := List.mem_of_getElem? (i := 542) (by decide +kernel)
theorem gw_543 : (Cond.methodLink nR_D 194 ny_D_fetch) ∈ GW := List.mem_of_getElem? (i := 543) (by decide +kernel)
theorem gw_544 : (Cond.selects nR_D ny_D_fetch ny_D_fetch) ∈ GW := List.mem_of_getElem? (i := 544) (by decide +kernel)
theorem gw_545 : (Cond.instanceMethod ny_D_fetch) ∈ GW := List.mem_of_getElem? (i := 545) (by decide +kernel)
theorem gw_546 : (Cond.code ny_D_fetch nc_D_fetch 1 (some .int)) ∈ GW := List.mem_of_getElem? (i := 546) (by decide +kernel)
theorem gw_547 : (Cond.methodLink nR_D 108 ny_D_user) ∈ GW := List.mem_of_getElem? (i := 547) (by decide +kernel)
theorem gw_548 : (Cond.selects nR_D ny_D_user ny_D_user) ∈ GW := List.mem_of_getElem? (i := 548) (by decide +kernel)
theorem gw_549 : (Cond.instanceMethod ny_D_user) ∈ GW := List.mem_of_getElem? (i := 549) (by decide +kernel)
theorem gw_550 : (Cond.code ny_D_user nc_D_user 1 (some .boolean)) ∈ GW := List.mem_of_getElem? (i := 550) (by decide +kernel)
theorem gw_551 : (Cond.methodLink nR_D 111 ny_D_inMemory) ∈ GW := List.mem_of_getElem? (i := 551) (by decide +kernel)
theorem gw_552 : (Cond.static ny_D_inMemory) ∈ GW := List.mem_of_getElem? (i := 552) (by decide +kernel)
theorem gw_553 : (Cond.code ny_D_inMemory nc_D_inMemory 3 (some .boolean)) ∈ GW := List.mem_of_getElem? (i := 553) (by decide +kernel)
theorem gw_554 : (Cond.constant nR_D 94 536870911) ∈ GW := List.mem_of_getElem? (i := 554) (by decide +kernel)
theorem gw_555 : (Cond.methodLink nR_D 197 ny_D_read) ∈ GW := List.mem_of_getElem? (i := 555) (by decide +kernel)
theorem gw_556 : (Cond.selects nR_D ny_D_read ny_D_read) ∈ GW := List.mem_of_getElem? (i := 556) (by decide +kernel)
theorem gw_557 : (Cond.instanceMethod ny_D_read) ∈ GW := List.mem_of_getElem? (i := 557) (by decide +kernel)
theorem gw_558 : (Cond.code ny_D_read nc_D_read 1 none) ∈ GW := List.mem_of_getElem? (i := 558) (by decide +kernel)
theorem gw_559 : (Cond.methodLink nR_D 200 ny_D_trouble) ∈ GW := List.mem_of_getElem? (i := 559) (by decide +kernel)
theorem gw_560 : (Cond.selects nR_D ny_D_trouble ny_D_trouble) ∈ GW := List.mem_of_getElem? (i := 560) (by decide +kernel)
theorem gw_561 : (Cond.instanceMethod ny_D_trouble) ∈ GW := List.mem_of_getElem? (i := 561) (by decide +kernel)
theorem gw_562 : (Cond.code ny_D_trouble nc_D_trouble 2 (some .int)) ∈ GW := List.mem_of_getElem? (i := 562) (by decide +kernel)
theorem gw_563 : (Cond.methodLink nR_D 115 ny_D_isKnown) ∈ GW := List.mem_of_getElem? (i := 563) (by decide +kernel)
theorem gw_564 : (Cond.selects nR_D ny_D_isKnown ny_D_isKnown) ∈ GW := List.mem_of_getElem? (i := 564) (by decide +kernel)
theorem gw_565 : (Cond.instanceMethod ny_D_isKnown) ∈ GW := List.mem_of_getElem? (i := 565) (by decide +kernel)
theorem gw_566 : (Cond.code ny_D_isKnown nc_D_isKnown 2 (some .boolean)) ∈ GW := List.mem_of_getElem? (i := 566) (by decide +kernel)
theorem gw_567 : (Cond.methodLink nR_D 90 ny_D_isBranch) ∈ GW := List.mem_of_getElem? (i := 567) (by decide +kernel)
theorem gw_568 : (Cond.selects nR_D ny_D_isBranch ny_D_isBranch) ∈ GW := List.mem_of_getElem? (i := 568) (by decide +kernel)
theorem gw_569 : (Cond.instanceMethod ny_D_isBranch) ∈ GW := List.mem_of_getElem? (i := 569) (by decide +kernel)
theorem gw_570 : (Cond.code ny_D_isBranch nc_D_isBranch 2 (some .boolean)) ∈ GW := List.mem_of_getElem? (i := 570) (by decide +kernel)
theorem gw_571 : (Cond.methodLink nR_D 121 ny_D_exact) ∈ GW := List.mem_of_getElem? (i := 571) (by decide +kernel)
theorem gw_572 : (Cond.static ny_D_exact) ∈ GW := List.mem_of_getElem? (i := 572) (by decide +kernel)
theorem gw_573 : (Cond.code ny_D_exact nc_D_exact 2 (some .boolean)) ∈ GW := List.mem_of_getElem? (i := 573) (by decide +kernel)
theorem gw_574 : (Cond.methodLink nR_D 98 ny_D_number) ∈ GW := List.mem_of_getElem? (i := 574) (by decide +kernel)
theorem gw_575 : (Cond.selects nR_D ny_D_number ny_D_number) ∈ GW := List.mem_of_getElem? (i := 575) (by decide +kernel)
theorem gw_576 : (Cond.instanceMethod ny_D_number) ∈ GW := List.mem_of_getElem? (i := 576) (by decide +kernel)
theorem gw_577 : (Cond.code ny_D_number nc_D_number 1 (some .int)) ∈ GW := List.mem_of_getElem? (i := 577) (by decide +kernel)
theorem gw_578 : (Cond.methodLink nR_D 125 ny_D_addressTrouble) ∈ GW := List.mem_of_getElem? (i := 578) (by decide +kernel)
theorem gw_579 : (Cond.selects nR_D ny_D_addressTrouble ny_D_addressTrouble) ∈ GW := List.mem_of_getElem? (i := 579) (by decide +kernel)
theorem gw_580 : (Cond.instanceMethod ny_D_addressTrouble) ∈ GW := List.mem_of_getElem? (i := 580) (by decide +kernel)
theorem gw_581 : (Cond.code ny_D_addressTrouble nc_D_addressTrouble 3 (some .int)) ∈ GW := List.mem_of_getElem? (i := 581) (by decide +kernel)
theorem gw_582 : (Cond.methodLink nR_D 102 ny_D_isPart) ∈ GW := List.mem_of_getElem? (i := 582) (by decide +kernel)
theorem gw_583 : (Cond.selects nR_D ny_D_isPart ny_D_isPart) ∈ GW := List.mem_of_getElem? (i := 583) (by decide +kernel)
theorem gw_584 : (Cond.instanceMethod ny_D_isPart) ∈ GW := List.mem_of_getElem? (i := 584) (by decide +kernel)
theorem gw_585 : (Cond.code ny_D_isPart nc_D_isPart 1 (some .boolean)) ∈ GW := List.mem_of_getElem? (i := 585) (by decide +kernel)
theorem gw_586 : (Cond.methodLink nR_D 105 ny_D_moved) ∈ GW := List.mem_of_getElem? (i := 586) (by decide +kernel)
theorem gw_587 : (Cond.selects nR_D ny_D_moved ny_D_moved) ∈ GW := List.mem_of_getElem? (i := 587) (by decide +kernel)
theorem gw_588 : (Cond.instanceMethod ny_D_moved) ∈ GW := List.mem_of_getElem? (i := 588) (by decide +kernel)
theorem gw_589 : (Cond.code ny_D_moved nc_D_moved 2 (some .int)) ∈ GW := List.mem_of_getElem? (i := 589) (by decide +kernel)
theorem gw_590 : (Cond.methodLink nR_D 203 ny_D_act) ∈ GW := List.mem_of_getElem? (i := 590) (by decide +kernel)
theorem gw_591 : (Cond.selects nR_D ny_D_act ny_D_act) ∈ GW := List.mem_of_getElem? (i := 591) (by decide +kernel)
theorem gw_592 : (Cond.instanceMethod ny_D_act) ∈ GW := List.mem_of_getElem? (i := 592) (by decide +kernel)
theorem gw_593 : (Cond.code ny_D_act nc_D_act 1 none) ∈ GW := List.mem_of_getElem? (i := 593) (by decide +kernel)
theorem gw_594 : (Cond.methodLink nR_D 172 ny_D_byRegisters) ∈ GW := List.mem_of_getElem? (i := 594) (by decide +kernel)
theorem gw_595 : (Cond.selects nR_D ny_D_byRegisters ny_D_byRegisters) ∈ GW := List.mem_of_getElem? (i := 595) (by decide +kernel)
theorem gw_596 : (Cond.instanceMethod ny_D_byRegisters) ∈ GW := List.mem_of_getElem? (i := 596) (by decide +kernel)
theorem gw_597 : (Cond.code ny_D_byRegisters nc_D_byRegisters 2 none) ∈ GW := List.mem_of_getElem? (i := 597) (by decide +kernel)
theorem gw_598 : (Cond.methodLink nR_D 136 ny_D_gives) ∈ GW := List.mem_of_getElem? (i := 598) (by decide +kernel)
theorem gw_599 : (Cond.selects nR_D ny_D_gives ny_D_gives) ∈ GW := List.mem_of_getElem? (i := 599) (by decide +kernel)
theorem gw_600 : (Cond.instanceMethod ny_D_gives) ∈ GW := List.mem_of_getElem? (i := 600) (by decide +kernel)
theorem gw_601 : (Cond.code ny_D_gives nc_D_gives 3 none) ∈ GW := List.mem_of_getElem? (i := 601) (by decide +kernel)
theorem gw_602 : (Cond.methodLink nR_D 143 ny_D_multiply) ∈ GW := List.mem_of_getElem? (i := 602) (by decide +kernel)
theorem gw_603 : (Cond.selects nR_D ny_D_multiply ny_D_multiply) ∈ GW := List.mem_of_getElem? (i := 603) (by decide +kernel)
theorem gw_604 : (Cond.instanceMethod ny_D_multiply) ∈ GW := List.mem_of_getElem? (i := 604) (by decide +kernel)
theorem gw_605 : (Cond.code ny_D_multiply nc_D_multiply 8 none) ∈ GW := List.mem_of_getElem? (i := 605) (by decide +kernel)
theorem gw_606 : (Cond.constantLong nR_D 134 4294967295) ∈ GW := List.mem_of_getElem? (i := 606) (by decide +kernel)
theorem gw_607 : (Cond.methodLink nR_D 147 ny_D_divide) ∈ GW := List.mem_of_getElem? (i := 607) (by decide +kernel)
theorem gw_608 : (Cond.selects nR_D ny_D_divide ny_D_divide) ∈ GW := List.mem_of_getElem? (i := 608) (by decide +kernel)
theorem gw_609 : (Cond.instanceMethod ny_D_divide) ∈ GW := List.mem_of_getElem? (i := 609) (by decide +kernel)
theorem gw_610 : (Cond.code ny_D_divide nc_D_divide 6 none) ∈ GW := List.mem_of_getElem? (i := 610) (by decide +kernel)
theorem gw_611 : (Cond.methodLink nR_D 150 ny_D_less) ∈ GW := List.mem_of_getElem? (i := 611) (by decide +kernel)
theorem gw_612 : (Cond.static ny_D_less) ∈ GW := List.mem_of_getElem? (i := 612) (by decide +kernel)
theorem gw_613 : (Cond.code ny_D_less nc_D_less 2 (some .boolean)) ∈ GW := List.mem_of_getElem? (i := 613) (by decide +kernel)
theorem gw_614 : (Cond.methodLink nR_D 153 ny_D_shifts) ∈ GW := List.mem_of_getElem? (i := 614) (by decide +kernel)
theorem gw_615 : (Cond.selects nR_D ny_D_shifts ny_D_shifts) ∈ GW := List.mem_of_getElem? (i := 615) (by decide +kernel)
theorem gw_616 : (Cond.instanceMethod ny_D_shifts) ∈ GW := List.mem_of_getElem? (i := 616) (by decide +kernel)
theorem gw_617 : (Cond.code ny_D_shifts nc_D_shifts 3 none) ∈ GW := List.mem_of_getElem? (i := 617) (by decide +kernel)
theorem gw_618 : (Cond.methodLink nR_D 175 ny_D_branch) ∈ GW := List.mem_of_getElem? (i := 618) (by decide +kernel)
theorem gw_619 : (Cond.selects nR_D ny_D_branch ny_D_branch) ∈ GW := List.mem_of_getElem? (i := 619) (by decide +kernel)
theorem gw_620 : (Cond.instanceMethod ny_D_branch) ∈ GW := List.mem_of_getElem? (i := 620) (by decide +kernel)
theorem gw_621 : (Cond.code ny_D_branch nc_D_branch 3 none) ∈ GW := List.mem_of_getElem? (i := 621) (by decide +kernel)
theorem gw_622 : (Cond.constant nR_D 157 (-268435456)) ∈ GW := List.mem_of_getElem? (i := 622) (by decide +kernel)
theorem gw_623 : (Cond.constant nR_D 158 67108863) ∈ GW := List.mem_of_getElem? (i := 623) (by decide +kernel)
theorem gw_624 : (Cond.methodLink nR_D 178 ny_D_byNumber) ∈ GW := List.mem_of_getElem? (i := 624) (by decide +kernel)
theorem gw_625 : (Cond.selects nR_D ny_D_byNumber ny_D_byNumber) ∈ GW := List.mem_of_getElem? (i := 625) (by decide +kernel)
theorem gw_626 : (Cond.instanceMethod ny_D_byNumber) ∈ GW := List.mem_of_getElem? (i := 626) (by decide +kernel)
theorem gw_627 : (Cond.code ny_D_byNumber nc_D_byNumber 3 none) ∈ GW := List.mem_of_getElem? (i := 627) (by decide +kernel)
theorem gw_628 : (Cond.constant nR_D 159 65535) ∈ GW := List.mem_of_getElem? (i := 628) (by decide +kernel)
theorem gw_629 : (Cond.methodLink nR_D 181 ny_D_control) ∈ GW := List.mem_of_getElem? (i := 629) (by decide +kernel)
theorem gw_630 : (Cond.selects nR_D ny_D_control ny_D_control) ∈ GW := List.mem_of_getElem? (i := 630) (by decide +kernel)
theorem gw_631 : (Cond.instanceMethod ny_D_control) ∈ GW := List.mem_of_getElem? (i := 631) (by decide +kernel)
theorem gw_632 : (Cond.code ny_D_control nc_D_control 3 none) ∈ GW := List.mem_of_getElem? (i := 632) (by decide +kernel)
theorem gw_633 : (Cond.methodLink nR_D 184 ny_D_memory) ∈ GW := List.mem_of_getElem? (i := 633) (by decide +kernel)
theorem gw_634 : (Cond.selects nR_D ny_D_memory ny_D_memory) ∈ GW := List.mem_of_getElem? (i := 634) (by decide +kernel)
theorem gw_635 : (Cond.instanceMethod ny_D_memory) ∈ GW := List.mem_of_getElem? (i := 635) (by decide +kernel)
theorem gw_636 : (Cond.code ny_D_memory nc_D_memory 5 none) ∈ GW := List.mem_of_getElem? (i := 636) (by decide +kernel)
theorem gw_637 : (Cond.methodLink nR_D 169 ny_D_part) ∈ GW := List.mem_of_getElem? (i := 637) (by decide +kernel)
theorem gw_638 : (Cond.selects nR_D ny_D_part ny_D_part) ∈ GW := List.mem_of_getElem? (i := 638) (by decide +kernel)
theorem gw_639 : (Cond.instanceMethod ny_D_part) ∈ GW := List.mem_of_getElem? (i := 639) (by decide +kernel)
theorem gw_640 : (Cond.code ny_D_part nc_D_part 8 none) ∈ GW := List.mem_of_getElem? (i := 640) (by decide +kernel)
theorem gw_644 : (Cond.code ny_D_run nc_D_run 4 (some .int)) ∈ GW := List.mem_of_getElem? (i := 644) (by decide +kernel)
theorem gw_648 : (Cond.code ny_D_look nc_D_look 2 (some .int)) ∈ GW := List.mem_of_getElem? (i := 648) (by decide +kernel)
theorem nm_0 : (Cond.methodLinkNest nR_S 11 ny_M_init nR_S) ∈ nwS := List.mem_of_getElem? (i := 0) (by decide +kernel)
theorem nm_1 : (Cond.methodLinkNest nR_S 18 ny_R_init nR_S) ∈ nwS := List.mem_of_getElem? (i := 1) (by decide +kernel)
theorem nm_2 : (Cond.fieldLinkNest nR_S 109 "SlotCore$Registers" "waitsFor" "I" nR_S) ∈ nwS := List.mem_of_getElem? (i := 2) (by decide +kernel)
theorem nm_3 : (Cond.fieldLinkNest nR_S 112 "SlotCore$Registers" "waitingValue" "I" nR_S) ∈ nwS := List.mem_of_getElem? (i := 3) (by decide +kernel)
theorem nm_4 : (Cond.methodLinkNest nR_S 25 ny_C_init nR_S) ∈ nwS := List.mem_of_getElem? (i := 4) (by decide +kernel)
theorem nm_5 : (Cond.fieldLinkNest nR_S 82 "SlotCore$Control" "statusBits" "I" nR_S) ∈ nwS := List.mem_of_getElem? (i := 5) (by decide +kernel)
theorem nm_6 : (Cond.fieldLinkNest nR_S 89 "SlotCore$Control" "lineBits" "I" nR_S) ∈ nwS := List.mem_of_getElem? (i := 6) (by decide +kernel)
theorem nm_7 : (Cond.fieldLinkNest nR_S 99 "SlotCore$Control" "returnAddress" "I" nR_S) ∈ nwS := List.mem_of_getElem? (i := 7) (by decide +kernel)
theorem nm_8 : (Cond.fieldLinkNest nR_S 102 "SlotCore$Control" "badAddress" "I" nR_S) ∈ nwS := List.mem_of_getElem? (i := 8) (by decide +kernel)
theorem nm_9 : (Cond.methodLinkNest nR_S 32 ny_O_init nR_S) ∈ nwS := List.mem_of_getElem? (i := 9) (by decide +kernel)
theorem nm_10 : (Cond.fieldLinkNest nR_S 146 "SlotCore$Outcome" "register" "I" nR_S) ∈ nwS := List.mem_of_getElem? (i := 10) (by decide +kernel)
theorem nm_11 : (Cond.fieldLinkNest nR_S 149 "SlotCore$Outcome" "value" "I" nR_S) ∈ nwS := List.mem_of_getElem? (i := 11) (by decide +kernel)
theorem nm_12 : (Cond.fieldLinkNest nR_S 143 "SlotCore$Outcome" "isLoad" "Z" nR_S) ∈ nwS := List.mem_of_getElem? (i := 12) (by decide +kernel)
theorem nm_13 : (Cond.fieldLinkNest nR_S 158 "SlotCore$Outcome" "isBranch" "Z" nR_S) ∈ nwS := List.mem_of_getElem? (i := 13) (by decide +kernel)
theorem nm_14 : (Cond.fieldLinkNest nR_S 155 "SlotCore$Outcome" "afterNext" "I" nR_S) ∈ nwS := List.mem_of_getElem? (i := 14) (by decide +kernel)
theorem nm_15 : (Cond.methodLinkNest nR_S 41 ny_R_clear nR_S) ∈ nwS := List.mem_of_getElem? (i := 15) (by decide +kernel)
theorem nm_16 : (Cond.methodLinkNest nR_S 44 ny_C_clear nR_S) ∈ nwS := List.mem_of_getElem? (i := 16) (by decide +kernel)
theorem nm_17 : (Cond.methodLinkNest nR_S 79 ny_R_dropLoad nR_S) ∈ nwS := List.mem_of_getElem? (i := 17) (by decide +kernel)
theorem nm_18 : (Cond.methodLinkNest nR_S 85 ny_C_change nR_S) ∈ nwS := List.mem_of_getElem? (i := 18) (by decide +kernel)
theorem nm_19 : (Cond.methodLinkNest nR_C 37 ny_S_exchange nR_S) ∈ nwS := List.mem_of_getElem? (i := 19) (by decide +kernel)
theorem nm_20 : (Cond.methodLinkNest nR_S 118 ny_C_interruptIsDue nR_S) ∈ nwS := List.mem_of_getElem? (i := 20) (by decide +kernel)
theorem nm_21 : (Cond.methodLinkNest nR_S 135 ny_R_landLoad nR_S) ∈ nwS := List.mem_of_getElem? (i := 21) (by decide +kernel)
theorem nm_22 : (Cond.methodLinkNest nR_S 138 ny_C_enter nR_S) ∈ nwS := List.mem_of_getElem? (i := 22) (by decide +kernel)
theorem nm_23 : (Cond.methodLinkNest nR_S 161 ny_C_forbids nR_S) ∈ nwS := List.mem_of_getElem? (i := 23) (by decide +kernel)
theorem nm_24 : (Cond.methodLinkNest nR_S 62 ny_M_wordAround nR_S) ∈ nwS := List.mem_of_getElem? (i := 24) (by decide +kernel)
theorem nm_25 : (Cond.methodLinkNest nR_S 164 ny_O_begin nR_S) ∈ nwS := List.mem_of_getElem? (i := 25) (by decide +kernel)
theorem nm_26 : (Cond.methodLinkNest nR_S 70 ny_R_valueOf nR_S) ∈ nwS := List.mem_of_getElem? (i := 26) (by decide +kernel)
theorem nm_27 : (Cond.methodLinkNest nR_S 73 ny_R_change nR_S) ∈ nwS := List.mem_of_getElem? (i := 27) (by decide +kernel)
theorem nm_28 : (Cond.methodLinkNest nR_S 289 ny_C_isUser nR_S) ∈ nwS := List.mem_of_getElem? (i := 28) (by decide +kernel)
theorem nm_29 : (Cond.methodLinkNest nR_S 292 ny_C_valueOf nR_S) ∈ nwS := List.mem_of_getElem? (i := 29) (by decide +kernel)
theorem nm_30 : (Cond.methodLinkNest nR_S 296 ny_C_leave nR_S) ∈ nwS := List.mem_of_getElem? (i := 30) (by decide +kernel)
theorem nm_31 : (Cond.methodLinkNest nR_S 309 ny_R_latestOf nR_S) ∈ nwS := List.mem_of_getElem? (i := 31) (by decide +kernel)
theorem nm_32 : (Cond.methodLinkNest nR_S 66 ny_M_replaceWord nR_S) ∈ nwS := List.mem_of_getElem? (i := 32) (by decide +kernel)
theorem nm_33 : (Cond.methodLinkNest nR_S 152 ny_R_holdLoad nR_S) ∈ nwS := List.mem_of_getElem? (i := 33) (by decide +kernel)
theorem nm_34 : (Cond.methodLinkNest nR_S 96 ny_C_wholeCause nR_S) ∈ nwS := List.mem_of_getElem? (i := 34) (by decide +kernel)
end
section
abbrev tyI (cA : Nat → ClassId) : List (ClassId × FieldType) := [(cA 0, .int), (cA 1, .int)]
def wSC (h : Nat → Nat) (cA : Nat → ClassId) (u : St) : va_W := [(h 0, .inr (0, [.ref (h 1), .ref (h 3), .ref (h 5), .ref (h 6), .int (u 0 4), .int (u 0 5), .int (zb (u 0 6)), .int (u 0 7), .int (u 0 8)])), (h 1, .inr (1, [.ref (h 2)])), (h 2, .inl (cA 0, 1024, .inl (u 2))), (h 3, .inr (2, [.ref (h 4), .int (u 3 1), .int (u 3 2)])), (h 4, .inl (cA 1, 34, .inl (u 4))), (h 5, .inr (3, [.int (u 5 0), .int (u 5 1), .int (u 5 2), .int (u 5 3), .int (u 5 4)])), (h 6, .inr (4, [.int (u 6 0), .int (u 6 1), .int (zb (u 6 2)), .int (zb (u 6 3)), .int (u 6 4)]))]
def wMD (h : Nat → Nat) (cA : Nat → ClassId) (u : St) : va_W := [(h 0, .inr (5, [.int (u 0 0), .ref (h 1), .ref (h 2), .int (u 0 3), .int (u 0 4), .int (u 0 5), .int (u 0 6), .int (u 0 7), .int (u 0 8), .int (zb (u 0 9)), .int (u 0 10), .int (u 0 11), .int (zb (u 0 12)), .int (u 0 13), .int (u 0 14), .int (u 0 15), .int (u 0 16), .int (u 0 17), .int (u 0 18), .int (u 0 19), .int (u 0 20), .int (u 0 21), .int (u 0 22), .int (u 0 23), .int (u 0 24), .int (u 0 25), .int (u 0 26), .int (zb (u 0 27))])), (h 1, .inl (cA 0, 4096, .inl (u 1))), (h 2, .inl (cA 1, 34, .inl (u 2)))]
def f_R_holdLoad (a1 : Int32) (a2 : Int32) (u : St) : St := sU (sU u 3 1 a1) 3 2 a2
def f_R_dropLoad (u : St) : St := bnv (f_R_holdLoad (-1 : Int32) (0 : Int32) u) (fun u3 => u3)
def f_R_clear_b2 : Nat → Int32 → St → Option (St)
  | 0 => fun _ _ => none
  | n + 1 => fun x1 u => if (34 : Int32) ≤ x1 then bnv (f_R_dropLoad u) (fun u22 => some (u22)) else if inb x1 34 then f_R_clear_b2 n (x1 + (1 : Int32)) (sU u 4 x1.toNatClampNeg (0 : Int32)) else none
theorem f_R_clear_b2_s (n : Nat) (x1 : Int32) (u : St) : f_R_clear_b2 (n + 1) x1 u = (if (34 : Int32) ≤ x1 then bnv (f_R_dropLoad u) (fun u22 => some (u22)) else if inb x1 34 then f_R_clear_b2 n (x1 + (1 : Int32)) (sU u 4 x1.toNatClampNeg (0 : Int32)) else none) := rfl
def f_R_clear (u : St) : Option (St) := f_R_clear_b2 fuel (0 : Int32) u
def f_C_clear (u : St) : St := sU (sU (sU (sU (sU u 5 0 (0 : Int32)) 5 1 (0 : Int32)) 5 2 (0 : Int32)) 5 3 (0 : Int32)) 5 4 (0 : Int32)
def f_S_continueAt (a1 : Int32) (u : St) : St := sU (sU (sU u 0 4 a1) 0 5 (a1 + (4 : Int32))) 0 6 (0 : Int32)
def f_S_reset (u : St) : Option (St) := obv (f_R_clear u) (fun u4 => bnv (f_C_clear u4) (fun u11 => bnv (f_S_continueAt (0 : Int32) u11) (fun u16 => some (sU (sU u16 0 7 (0 : Int32)) 0 8 (0 : Int32)))))
def f_S_isInMemory (a1 : Int32) : Int32 := if a1 < (0 : Int32) then (0 : Int32) else if (4096 : Int32) ≤ a1 then (0 : Int32) else (1 : Int32)
def f_S_isPlaceOfWord (a1 : Int32) : Int32 := if (a1 &&& (3 : Int32)) = (0 : Int32) then if (zb (f_S_isInMemory a1)) = (0 : Int32) then (0 : Int32) else (1 : Int32) else (0 : Int32)
def f_M_indexOf (a1 : Int32) : Int32 := (a1 >>> ((2 : Int32) &&& 31)) &&& (1023 : Int32)
def f_M_wordAround (a1 : Int32) (u : St) : Int32 := (u 2) (f_M_indexOf a1).toNatClampNeg
def f_M_replaceWord (a1 : Int32) (a2 : Int32) (u : St) : St := sU u 2 ((f_M_indexOf a1).toNatClampNeg) a2
def f_S_put (a1 : Int32) (a2 : Int32) (u : St) : Option (Int32 × St) := if (zb (f_S_isPlaceOfWord a1)) = (0 : Int32) then none else bnv (f_M_replaceWord a1 a2 u) (fun u30 => some ((f_M_wordAround a1 u, u30)))
def f_S_word (a1 : Int32) (u : St) : Option (Int32) := if (zb (f_S_isPlaceOfWord a1)) = (0 : Int32) then none else some (f_M_wordAround a1 u)
def f_R_valueOf (a1 : Int32) (u : St) : Int32 := if a1 < (0 : Int32) then (0 : Int32) else if (34 : Int32) ≤ a1 then (0 : Int32) else (u 4) a1.toNatClampNeg
def f_R_change (a1 : Int32) (a2 : Int32) (u : St) : St := if a1 ≤ (0 : Int32) then u else if (34 : Int32) ≤ a1 then u else sU u 4 a1.toNatClampNeg a2
def f_S_set_b10 (u : St) : Option (Int32 × St) := none
def f_S_set (a1 : Int32) (a2 : Int32) (u : St) : Option (Int32 × St) := if a1 < (0 : Int32) then f_S_set_b10 u else if a1 < (34 : Int32) then bnv (f_R_change a1 a2 u) (fun u33 => some ((f_R_valueOf a1 u, u33))) else f_S_set_b10 u
def f_S_register_b10 (u : St) : Option (Int32) := none
def f_S_register (a1 : Int32) (u : St) : Option (Int32) := if a1 < (0 : Int32) then f_S_register_b10 u else if a1 < (34 : Int32) then some (f_R_valueOf a1 u) else f_S_register_b10 u
def f_S_go (a1 : Int32) (u : St) : Int32 × St := bnv (f_R_dropLoad u) (fun u9 => bnv (f_S_continueAt a1 u9) (fun u14 => (u 0 4, u14)))
def f_S_exchange (a1 : Int32) (a2 : Int32) (a3 : Int32) : Int32 := (a1 &&& (a3 ^^^ (-1 : Int32))) ||| (a2 &&& a3)
def f_C_change (a1 : Int32) (a2 : Int32) (u : St) : St := if a1 = (12 : Int32) then sU u 5 0 (a2 &&& (65343 : Int32)) else if a1 = (13 : Int32) then sU u 5 1 (f_S_exchange (u 5 1) a2 (768 : Int32)) else if a1 = (14 : Int32) then sU u 5 3 a2 else u
def f_S_status (a1 : Int32) (u : St) : Int32 × St := bnv (f_C_change (12 : Int32) a1 u) (fun u15 => (u 5 0, u15))
def f_S_lines_b10 (u : St) : Option (Int32 × St) := none
def f_S_lines (a1 : Int32) (u : St) : Option (Int32 × St) := if a1 < (0 : Int32) then f_S_lines_b10 u else if a1 ≤ (63 : Int32) then some ((u 5 2, sU u 5 2 a1)) else f_S_lines_b10 u
def f_C_wholeCause (u : St) : Int32 := (u 5 1) ||| ((u 5 2) <<< ((10 : Int32) &&& 31))
def f_C_interruptIsDue (u : St) : Int32 := if ((u 5 0) &&& (1 : Int32)) = (0 : Int32) then (0 : Int32) else if (((f_C_wholeCause u) &&& (u 5 0)) &&& (65280 : Int32)) = (0 : Int32) then (0 : Int32) else (1 : Int32)
def f_R_landLoad (u : St) : St := bnv (f_R_change (u 3 1) (u 3 2) u) (fun u9 => bnv (f_R_dropLoad u9) (fun u13 => u13))
def f_C_enter_b28 (y0 : Int32) (y1 : Int32) (u : St) : St := sU (sU u 5 1 (y1 ||| y0)) 5 0 (f_S_exchange (u 5 0) ((u 5 0) <<< ((2 : Int32) &&& 31)) (63 : Int32))
def f_C_enter (a1 : Int32) (a2 : Int32) (a3 : Int32) (u : St) : St := if (zb a3) = (0 : Int32) then f_C_enter_b28 (0 : Int32) (((u 5 1) &&& (768 : Int32)) ||| (a1 <<< ((2 : Int32) &&& 31))) (sU u 5 3 a2) else f_C_enter_b28 (-2147483648 : Int32) (((u 5 1) &&& (768 : Int32)) ||| (a1 <<< ((2 : Int32) &&& 31))) (sU u 5 3 a2)
def f_S_enterException_b42 (y0 : Int32) (y1 : Int32) (u : St) : St := bnv (f_C_enter y1 y0 (u 0 6) u) (fun u46 => bnv (f_S_continueAt (-2147483520 : Int32) u46) (fun u52 => u52))
def f_S_enterException (a1 : Int32) (u : St) : St := bnv (f_R_landLoad (sU u 0 8 ((u 0 8) + (1 : Int32)))) (fun u14 => if (zb (u14 0 6)) = (0 : Int32) then f_S_enterException_b42 (u14 0 4) a1 u14 else f_S_enterException_b42 ((u14 0 4) - (4 : Int32)) a1 u14)
def f_C_isUser (u : St) : Int32 := if ((u 5 0) &&& (2 : Int32)) = (0 : Int32) then (0 : Int32) else (1 : Int32)
def f_C_forbids (a1 : Int32) (u : St) : Int32 := if (zb (f_C_isUser u)) = (0 : Int32) then (0 : Int32) else if (0 : Int32) ≤ a1 then (0 : Int32) else (1 : Int32)
def f_S_faultAtPc_b23 (u : St) : Int32 × St := ((4 : Int32), sU u 5 4 (u 0 4))
def f_S_faultAtPc (u : St) : Int32 × St := if ((u 0 4) &&& (3 : Int32)) = (0 : Int32) then if (zb (f_C_forbids (u 0 4) u)) = (0 : Int32) then if (zb (f_S_isInMemory ((u 0 4) &&& (536870911 : Int32)))) = (0 : Int32) then ((6 : Int32), u) else ((-1 : Int32), u) else f_S_faultAtPc_b23 u else f_S_faultAtPc_b23 u
def f_O_begin (a1 : Int32) (u : St) : St := sU (sU (sU (sU u 6 0 (-1 : Int32)) 6 2 (0 : Int32)) 6 3 (0 : Int32)) 6 4 a1
def f_S_orderOf (a1 : Int32) : Int32 := ush a1 (26 : Int32)
def f_S_numberK (a1 : Int32) : Int32 := a1 &&& (63 : Int32)
def f_S_numberT (a1 : Int32) : Int32 := (ush a1 (16 : Int32)) &&& (31 : Int32)
def f_S_isBranchBySign (a1 : Int32) : Int32 := if (f_S_numberT a1) = (0 : Int32) then (1 : Int32) else if (f_S_numberT a1) = (1 : Int32) then (1 : Int32) else if (f_S_numberT a1) = (16 : Int32) then (1 : Int32) else if (f_S_numberT a1) = (17 : Int32) then (1 : Int32) else (0 : Int32)
def f_S_isBranch (a1 : Int32) : Int32 := if (f_S_orderOf a1) = (0 : Int32) then if (f_S_numberK a1) = (8 : Int32) then (1 : Int32) else if (f_S_numberK a1) = (9 : Int32) then (1 : Int32) else (0 : Int32) else if (f_S_orderOf a1) = (1 : Int32) then f_S_isBranchBySign a1 else if (8 : Int32) ≤ (f_S_orderOf a1) then (0 : Int32) else (1 : Int32)
def f_S_valueOfT (a1 : Int32) (u : St) : Int32 := f_R_valueOf (f_S_numberT a1) u
def f_S_numberD (a1 : Int32) : Int32 := (ush a1 (11 : Int32)) &&& (31 : Int32)
def f_S_numberS (a1 : Int32) : Int32 := (ush a1 (21 : Int32)) &&& (31 : Int32)
def f_S_valueOfS (a1 : Int32) (u : St) : Int32 := f_R_valueOf (f_S_numberS a1) u
def f_S_numberA (a1 : Int32) : Int32 := (ush a1 (6 : Int32)) &&& (31 : Int32)
def f_S_give (a1 : Int32) (a2 : Int32) (u : St) : Int32 × St := ((-1 : Int32), sU (sU u 6 0 a1) 6 1 a2)
def f_S_performShift_b124 (x2 : Int32) (x3 : Int32) (x4 : Int32) (u : St) : Int32 × St := bnd (f_S_give x3 (x2 >>> (x4 &&& 31)) u) (fun r130 u130 => (r130, u130))
def f_S_performShift (a1 : Int32) (u : St) : Int32 × St := if (f_S_numberK a1) = (0 : Int32) then bnd (f_S_give (f_S_numberD a1) ((f_S_valueOfT a1 u) <<< ((f_S_numberA a1) &&& 31)) u) (fun r76 u76 => (r76, u76)) else if (f_S_numberK a1) = (2 : Int32) then bnd (f_S_give (f_S_numberD a1) (ush (f_S_valueOfT a1 u) (f_S_numberA a1)) u) (fun r88 u88 => (r88, u88)) else if (f_S_numberK a1) = (3 : Int32) then bnd (f_S_give (f_S_numberD a1) ((f_S_valueOfT a1 u) >>> ((f_S_numberA a1) &&& 31)) u) (fun r100 u100 => (r100, u100)) else if (f_S_numberK a1) = (4 : Int32) then bnd (f_S_give (f_S_numberD a1) ((f_S_valueOfT a1 u) <<< (((f_S_valueOfS a1 u) &&& (31 : Int32)) &&& 31)) u) (fun r110 u110 => (r110, u110)) else if (f_S_numberK a1) = (6 : Int32) then bnd (f_S_give (f_S_numberD a1) (ush (f_S_valueOfT a1 u) ((f_S_valueOfS a1 u) &&& (31 : Int32))) u) (fun r120 u120 => (r120, u120)) else f_S_performShift_b124 (f_S_valueOfT a1 u) (f_S_numberD a1) ((f_S_valueOfS a1 u) &&& (31 : Int32)) u
def f_S_branchIf (a1 : Int32) (a2 : Int32) (u : St) : Int32 × St := if (zb a1) = (0 : Int32) then ((-1 : Int32), sU u 6 3 (1 : Int32)) else ((-1 : Int32), sU (sU u 6 3 (1 : Int32)) 6 4 a2)
def f_S_performJumpToS_b25 (x1 : Int32) (u : St) : Int32 × St := bnd (f_S_branchIf (1 : Int32) (f_S_valueOfS x1 u) u) (fun r32 u32 => (r32, u32))
def f_S_performJumpToS (a1 : Int32) (u : St) : Int32 × St := if (f_S_numberK a1) = (9 : Int32) then bnd (f_S_give (f_S_numberD a1) ((u 0 4) + (8 : Int32)) u) (fun r21 u21 => f_S_performJumpToS_b25 a1 u21) else f_S_performJumpToS_b25 a1 u
def f_S_performMove (a1 : Int32) (u : St) : Int32 × St := if (f_S_numberK a1) = (16 : Int32) then bnd (f_S_give (f_S_numberD a1) (f_R_valueOf (32 : Int32) u) u) (fun r46 u46 => (r46, u46)) else if (f_S_numberK a1) = (17 : Int32) then bnd (f_S_give (32 : Int32) (f_S_valueOfS a1 u) u) (fun r58 u58 => (r58, u58)) else if (f_S_numberK a1) = (18 : Int32) then bnd (f_S_give (f_S_numberD a1) (f_R_valueOf (33 : Int32) u) u) (fun r76 u76 => (r76, u76)) else bnd (f_S_give (33 : Int32) (f_S_valueOfS a1 u) u) (fun r88 u88 => (r88, u88))
def f_S_keepHighAndLow (a1 : Int64) (u : St) : Int32 × St := bnv (f_R_change (32 : Int32) ((a1 >>> ((32 : Int32).toInt64 &&& 63)).toInt32) u) (fun u11 => bnv (f_R_change (33 : Int32) a1.toInt32 u11) (fun u22 => ((-1 : Int32), u22)))
def f_S_withoutSign (a1 : Int32) : Int64 := a1.toInt64 &&& (4294967295 : Int64)
def f_S_restAndQuotient (a1 : Int64) (a2 : Int64) : Int64 := (a1 <<< ((32 : Int32).toInt64 &&& 63)) ||| (a2 &&& (4294967295 : Int64))
def f_S_divide_b17 (y0 : Int64) (y1 : Int64) : Int64 := f_S_restAndQuotient y1 y0
def f_S_divide (a1 : Int32) (a2 : Int32) : Int64 := if a2 = (0 : Int32) then if (0 : Int32) ≤ a1 then f_S_divide_b17 (-1 : Int64) a1.toInt64 else f_S_divide_b17 (1 : Int64) a1.toInt64 else f_S_restAndQuotient (a1.toInt64 - a1.toInt64 / a2.toInt64 * a2.toInt64) (a1.toInt64 / a2.toInt64)
def f_S_divideWithoutSign (a1 : Int32) (a2 : Int32) : Int64 := if a2 = (0 : Int32) then f_S_restAndQuotient a1.toInt64 (-1 : Int64) else f_S_restAndQuotient ((f_S_withoutSign a1) - (f_S_withoutSign a1) / (f_S_withoutSign a2) * (f_S_withoutSign a2)) ((f_S_withoutSign a1) / (f_S_withoutSign a2))
def f_S_performProduct (a1 : Int32) (u : St) : Int32 × St := if (f_S_numberK a1) = (24 : Int32) then bnd (f_S_keepHighAndLow (((f_S_valueOfS a1 u).toInt64) * ((f_S_valueOfT a1 u).toInt64)) u) (fun r50 u50 => (r50, u50)) else if (f_S_numberK a1) = (25 : Int32) then bnd (f_S_keepHighAndLow ((f_S_withoutSign (f_S_valueOfS a1 u)) * (f_S_withoutSign (f_S_valueOfT a1 u))) u) (fun r64 u64 => (r64, u64)) else if (f_S_numberK a1) = (26 : Int32) then bnd (f_S_keepHighAndLow (f_S_divide (f_S_valueOfS a1 u) (f_S_valueOfT a1 u)) u) (fun r74 u74 => (r74, u74)) else bnd (f_S_keepHighAndLow (f_S_divideWithoutSign (f_S_valueOfS a1 u) (f_S_valueOfT a1 u)) u) (fun r84 u84 => (r84, u84))
def f_S_giveIfExact (a1 : Int32) (a2 : Int64) (u : St) : Int32 × St := if (lg_cmp a2 a2.toInt32.toInt64) = (0 : Int32) then bnd (f_S_give a1 a2.toInt32 u) (fun r15 u15 => (r15, u15)) else ((12 : Int32), u)
def f_S_giveTruth_b11 (y0 : Int32) (y1 : Int32) (u : St) : Int32 × St := bnd (f_S_give y1 y0 u) (fun r11 u11 => (r11, u11))
def f_S_giveTruth (a1 : Int32) (a2 : Int32) (u : St) : Int32 × St := if (zb a2) = (0 : Int32) then f_S_giveTruth_b11 (0 : Int32) a1 u else f_S_giveTruth_b11 (1 : Int32) a1 u
def f_S_performOnTwo_b183 (y0 : Int32) (y1 : Int32) (u : St) : Int32 × St := bnd (f_S_giveTruth y1 y0 u) (fun r183 u183 => (r183, u183))
def f_S_performOnTwo_b207 (y0 : Int32) (y1 : Int32) (u : St) : Int32 × St := bnd (f_S_giveTruth y1 y0 u) (fun r207 u207 => (r207, u207))
def f_S_performOnTwo (a1 : Int32) (u : St) : Int32 × St := if (f_S_numberK a1) = (32 : Int32) then bnd (f_S_giveIfExact (f_S_numberD a1) (((f_S_valueOfS a1 u).toInt64) + ((f_S_valueOfT a1 u).toInt64)) u) (fun r92 u92 => (r92, u92)) else if (f_S_numberK a1) = (33 : Int32) then bnd (f_S_give (f_S_numberD a1) ((f_S_valueOfS a1 u) + (f_S_valueOfT a1 u)) u) (fun r102 u102 => (r102, u102)) else if (f_S_numberK a1) = (34 : Int32) then bnd (f_S_giveIfExact (f_S_numberD a1) (((f_S_valueOfS a1 u).toInt64) - ((f_S_valueOfT a1 u).toInt64)) u) (fun r114 u114 => (r114, u114)) else if (f_S_numberK a1) = (35 : Int32) then bnd (f_S_give (f_S_numberD a1) ((f_S_valueOfS a1 u) - (f_S_valueOfT a1 u)) u) (fun r124 u124 => (r124, u124)) else if (f_S_numberK a1) = (36 : Int32) then bnd (f_S_give (f_S_numberD a1) ((f_S_valueOfS a1 u) &&& (f_S_valueOfT a1 u)) u) (fun r134 u134 => (r134, u134)) else if (f_S_numberK a1) = (37 : Int32) then bnd (f_S_give (f_S_numberD a1) ((f_S_valueOfS a1 u) ||| (f_S_valueOfT a1 u)) u) (fun r144 u144 => (r144, u144)) else if (f_S_numberK a1) = (38 : Int32) then bnd (f_S_give (f_S_numberD a1) ((f_S_valueOfS a1 u) ^^^ (f_S_valueOfT a1 u)) u) (fun r154 u154 => (r154, u154)) else if (f_S_numberK a1) = (39 : Int32) then bnd (f_S_give (f_S_numberD a1) (((f_S_valueOfS a1 u) ||| (f_S_valueOfT a1 u)) ^^^ (-1 : Int32)) u) (fun r166 u166 => (r166, u166)) else if (f_S_numberK a1) = (42 : Int32) then if (f_S_valueOfT a1 u) ≤ (f_S_valueOfS a1 u) then f_S_performOnTwo_b183 (0 : Int32) (f_S_numberD a1) u else f_S_performOnTwo_b183 (1 : Int32) (f_S_numberD a1) u else if (f_S_numberK a1) = (43 : Int32) then if (0 : Int32) ≤ (lg_cmp (f_S_withoutSign (f_S_valueOfS a1 u)) (f_S_withoutSign (f_S_valueOfT a1 u))) then f_S_performOnTwo_b207 (0 : Int32) (f_S_numberD a1) u else f_S_performOnTwo_b207 (1 : Int32) (f_S_numberD a1) u else ((10 : Int32), u)
def f_S_performByK_b132 (x1 : Int32) (u : St) : Int32 × St := bnd (f_S_performShift x1 u) (fun r134 u134 => (r134, u134))
def f_S_performByK_b138 (x1 : Int32) (u : St) : Int32 × St := bnd (f_S_performJumpToS x1 u) (fun r140 u140 => (r140, u140))
def f_S_performByK_b150 (x1 : Int32) (u : St) : Int32 × St := bnd (f_S_performMove x1 u) (fun r152 u152 => (r152, u152))
def f_S_performByK_b156 (x1 : Int32) (u : St) : Int32 × St := bnd (f_S_performProduct x1 u) (fun r158 u158 => (r158, u158))
def f_S_performByK_b162 (x1 : Int32) (u : St) : Int32 × St := bnd (f_S_performOnTwo x1 u) (fun r164 u164 => (r164, u164))
def f_S_performByK (a1 : Int32) (u : St) : Int32 × St := if (f_S_numberK a1) = (0 : Int32) then f_S_performByK_b132 a1 u else if (f_S_numberK a1) = (2 : Int32) then f_S_performByK_b132 a1 u else if (f_S_numberK a1) = (3 : Int32) then f_S_performByK_b132 a1 u else if (f_S_numberK a1) = (4 : Int32) then f_S_performByK_b132 a1 u else if (f_S_numberK a1) = (6 : Int32) then f_S_performByK_b132 a1 u else if (f_S_numberK a1) = (7 : Int32) then f_S_performByK_b132 a1 u else if (f_S_numberK a1) = (8 : Int32) then f_S_performByK_b138 a1 u else if (f_S_numberK a1) = (9 : Int32) then f_S_performByK_b138 a1 u else if (f_S_numberK a1) = (12 : Int32) then ((8 : Int32), u) else if (f_S_numberK a1) = (13 : Int32) then ((9 : Int32), u) else if (f_S_numberK a1) = (16 : Int32) then f_S_performByK_b150 a1 u else if (f_S_numberK a1) = (17 : Int32) then f_S_performByK_b150 a1 u else if (f_S_numberK a1) = (18 : Int32) then f_S_performByK_b150 a1 u else if (f_S_numberK a1) = (19 : Int32) then f_S_performByK_b150 a1 u else if (f_S_numberK a1) = (24 : Int32) then f_S_performByK_b156 a1 u else if (f_S_numberK a1) = (25 : Int32) then f_S_performByK_b156 a1 u else if (f_S_numberK a1) = (26 : Int32) then f_S_performByK_b156 a1 u else if (f_S_numberK a1) = (27 : Int32) then f_S_performByK_b156 a1 u else f_S_performByK_b162 a1 u
def f_S_numberI (a1 : Int32) : Int32 := a1.toInt16.toInt32
def f_S_nearTarget (a1 : Int32) (u : St) : Int32 := ((u 0 4) + (4 : Int32)) + ((4 : Int32) * (f_S_numberI a1))
def f_S_performBranchBySign_b84 (x1 : Int32) (y0 : Int32) (u : St) : Int32 × St := bnd (f_S_branchIf y0 (f_S_nearTarget x1 u) u) (fun r89 u89 => (r89, u89))
def f_S_performBranchBySign_b76 (x1 : Int32) (y0 : Int32) (y1 : Int32) (u : St) : Int32 × St := if y1 = y0 then f_S_performBranchBySign_b84 x1 (1 : Int32) u else f_S_performBranchBySign_b84 x1 (0 : Int32) u
def f_S_performBranchBySign_b62 (x1 : Int32) (x2 : Int32) (y0 : Int32) (u : St) : Int32 × St := if (0 : Int32) ≤ x2 then f_S_performBranchBySign_b76 x1 (0 : Int32) y0 u else f_S_performBranchBySign_b76 x1 (1 : Int32) y0 u
def f_S_performBranchBySign_b57 (x1 : Int32) (x2 : Int32) (u : St) : Int32 × St := f_S_performBranchBySign_b62 x1 x2 (1 : Int32) u
def f_S_performBranchBySign_b47 (x1 : Int32) (x2 : Int32) (x3 : Int32) (u : St) : Int32 × St := if x3 = (0 : Int32) then f_S_performBranchBySign_b57 x1 x2 u else if x3 = (16 : Int32) then f_S_performBranchBySign_b57 x1 x2 u else f_S_performBranchBySign_b62 x1 x2 (0 : Int32) u
def f_S_performBranchBySign_b33 (x1 : Int32) (x2 : Int32) (x3 : Int32) (u : St) : Int32 × St := bnd (f_S_give (31 : Int32) ((u 0 4) + (8 : Int32)) u) (fun r43 u43 => f_S_performBranchBySign_b47 x1 x2 x3 u43)
def f_S_performBranchBySign (a1 : Int32) (u : St) : Int32 × St := if (zb (f_S_isBranchBySign a1)) = (0 : Int32) then ((10 : Int32), u) else if (f_S_numberT a1) = (16 : Int32) then f_S_performBranchBySign_b33 a1 (f_S_valueOfS a1 u) (f_S_numberT a1) u else if (f_S_numberT a1) = (17 : Int32) then f_S_performBranchBySign_b33 a1 (f_S_valueOfS a1 u) (f_S_numberT a1) u else f_S_performBranchBySign_b47 a1 (f_S_valueOfS a1 u) (f_S_numberT a1) u
def f_S_farTarget (a1 : Int32) (u : St) : Int32 := (((u 0 4) + (4 : Int32)) &&& (-268435456 : Int32)) ||| ((a1 <<< ((2 : Int32) &&& 31)) &&& (268435455 : Int32))
def f_S_performJump_b22 (x1 : Int32) (u : St) : Int32 × St := bnd (f_S_branchIf (1 : Int32) (f_S_farTarget x1 u) u) (fun r29 u29 => (r29, u29))
def f_S_performJump (a1 : Int32) (u : St) : Int32 × St := if (f_S_orderOf a1) = (3 : Int32) then bnd (f_S_give (31 : Int32) ((u 0 4) + (8 : Int32)) u) (fun r18 u18 => f_S_performJump_b22 a1 u18) else f_S_performJump_b22 a1 u
def f_S_performBranch_b55 (x1 : Int32) (y0 : Int32) (u : St) : Int32 × St := bnd (f_S_branchIf y0 (f_S_nearTarget x1 u) u) (fun r60 u60 => (r60, u60))
def f_S_performBranch_b75 (x1 : Int32) (y0 : Int32) (u : St) : Int32 × St := bnd (f_S_branchIf y0 (f_S_nearTarget x1 u) u) (fun r80 u80 => (r80, u80))
def f_S_performBranch_b94 (x1 : Int32) (y0 : Int32) (u : St) : Int32 × St := bnd (f_S_branchIf y0 (f_S_nearTarget x1 u) u) (fun r99 u99 => (r99, u99))
def f_S_performBranch_b113 (x1 : Int32) (y0 : Int32) (u : St) : Int32 × St := bnd (f_S_branchIf y0 (f_S_nearTarget x1 u) u) (fun r118 u118 => (r118, u118))
def f_S_performBranch (a1 : Int32) (u : St) : Int32 × St := if (f_S_orderOf a1) = (4 : Int32) then if (f_S_valueOfS a1 u) = (f_S_valueOfT a1 u) then f_S_performBranch_b55 a1 (1 : Int32) u else f_S_performBranch_b55 a1 (0 : Int32) u else if (f_S_orderOf a1) = (5 : Int32) then if (f_S_valueOfS a1 u) = (f_S_valueOfT a1 u) then f_S_performBranch_b75 a1 (0 : Int32) u else f_S_performBranch_b75 a1 (1 : Int32) u else if (f_S_orderOf a1) = (6 : Int32) then if (0 : Int32) < (f_S_valueOfS a1 u) then f_S_performBranch_b94 a1 (0 : Int32) u else f_S_performBranch_b94 a1 (1 : Int32) u else if (f_S_valueOfS a1 u) ≤ (0 : Int32) then f_S_performBranch_b113 a1 (0 : Int32) u else f_S_performBranch_b113 a1 (1 : Int32) u
def f_S_numberU (a1 : Int32) : Int32 := a1 &&& (65535 : Int32)
def f_S_performWithNumber_b103 (y0 : Int32) (y1 : Int32) (u : St) : Int32 × St := bnd (f_S_giveTruth y1 y0 u) (fun r103 u103 => (r103, u103))
def f_S_performWithNumber_b127 (y0 : Int32) (y1 : Int32) (u : St) : Int32 × St := bnd (f_S_giveTruth y1 y0 u) (fun r127 u127 => (r127, u127))
def f_S_performWithNumber (a1 : Int32) (u : St) : Int32 × St := if (f_S_orderOf a1) = (8 : Int32) then bnd (f_S_giveIfExact (f_S_numberT a1) (((f_S_valueOfS a1 u).toInt64) + ((f_S_numberI a1).toInt64)) u) (fun r76 u76 => (r76, u76)) else if (f_S_orderOf a1) = (9 : Int32) then bnd (f_S_give (f_S_numberT a1) ((f_S_valueOfS a1 u) + (f_S_numberI a1)) u) (fun r86 u86 => (r86, u86)) else if (f_S_orderOf a1) = (10 : Int32) then if (f_S_numberI a1) ≤ (f_S_valueOfS a1 u) then f_S_performWithNumber_b103 (0 : Int32) (f_S_numberT a1) u else f_S_performWithNumber_b103 (1 : Int32) (f_S_numberT a1) u else if (f_S_orderOf a1) = (11 : Int32) then if (0 : Int32) ≤ (lg_cmp (f_S_withoutSign (f_S_valueOfS a1 u)) (f_S_withoutSign (f_S_numberI a1))) then f_S_performWithNumber_b127 (0 : Int32) (f_S_numberT a1) u else f_S_performWithNumber_b127 (1 : Int32) (f_S_numberT a1) u else if (f_S_orderOf a1) = (12 : Int32) then bnd (f_S_give (f_S_numberT a1) ((f_S_valueOfS a1 u) &&& (f_S_numberU a1)) u) (fun r137 u137 => (r137, u137)) else if (f_S_orderOf a1) = (13 : Int32) then bnd (f_S_give (f_S_numberT a1) ((f_S_valueOfS a1 u) ||| (f_S_numberU a1)) u) (fun r147 u147 => (r147, u147)) else if (f_S_orderOf a1) = (14 : Int32) then bnd (f_S_give (f_S_numberT a1) ((f_S_valueOfS a1 u) ^^^ (f_S_numberU a1)) u) (fun r157 u157 => (r157, u157)) else bnd (f_S_give (f_S_numberT a1) ((f_S_numberU a1) <<< ((16 : Int32) &&& 31)) u) (fun r168 u168 => (r168, u168))
def f_C_valueOf (a1 : Int32) (u : St) : Int32 := if a1 = (8 : Int32) then u 5 4 else if a1 = (12 : Int32) then u 5 0 else if a1 = (13 : Int32) then f_C_wholeCause u else if a1 = (14 : Int32) then u 5 3 else (0 : Int32)
def f_S_giveLate (a1 : Int32) (a2 : Int32) (u : St) : Int32 × St := bnd (f_S_give a1 a2 (sU u 6 2 (1 : Int32))) (fun r11 u11 => (r11, u11))
def f_C_leave (u : St) : St := sU u 5 0 (f_S_exchange (u 5 0) ((u 5 0) >>> ((2 : Int32) &&& 31)) (15 : Int32))
def f_S_performControl_b42 (x1 : Int32) (x2 : Int32) (x3 : Int32) (u : St) : Int32 × St := if (zb (f_C_isUser u)) = (0 : Int32) then if x2 = (0 : Int32) then bnd (f_S_giveLate (f_S_numberT x1) (f_C_valueOf (f_S_numberD x1) u) u) (fun r75 u75 => (r75, u75)) else if x3 = (0 : Int32) then bnv (f_C_change (f_S_numberD x1) (f_S_valueOfT x1 u) u) (fun u106 => ((-1 : Int32), u106)) else bnv (f_C_leave u) (fun u87 => ((-1 : Int32), u87)) else ((11 : Int32), u)
def f_S_performControl_b25 (x1 : Int32) (x2 : Int32) (y0 : Int32) (u : St) : Int32 × St := if x2 = (0 : Int32) then f_S_performControl_b42 x1 x2 y0 u else if x2 = (4 : Int32) then f_S_performControl_b42 x1 x2 y0 u else if y0 = (0 : Int32) then ((10 : Int32), u) else f_S_performControl_b42 x1 x2 y0 u
def f_S_performControl_b24 (x1 : Int32) (x2 : Int32) (u : St) : Int32 × St := f_S_performControl_b25 x1 x2 (0 : Int32) u
def f_S_performControl (a1 : Int32) (u : St) : Int32 × St := if (f_S_numberS a1) = (16 : Int32) then if (f_S_numberK a1) = (16 : Int32) then f_S_performControl_b25 a1 (f_S_numberS a1) (1 : Int32) u else f_S_performControl_b24 a1 (f_S_numberS a1) u else f_S_performControl_b24 a1 (f_S_numberS a1) u
def f_S_addressOf (a1 : Int32) (u : St) : Int32 := (f_S_valueOfS a1 u) + (f_S_numberI a1)
def f_S_loadUnit (a1 : Int32) : Int32 := if a1 = (35 : Int32) then (4 : Int32) else if a1 = (33 : Int32) then (2 : Int32) else if a1 = (37 : Int32) then (2 : Int32) else (1 : Int32)
def f_S_faultOfData_b19 (x1 : Int32) (x3 : Int32) (u : St) : Int32 × St := (x3, sU u 5 4 x1)
def f_S_faultOfData (a1 : Int32) (a2 : Int32) (a3 : Int32) (u : St) : Int32 × St := if (a1 &&& (a2 - (1 : Int32))) = (0 : Int32) then if (zb (f_C_forbids a1 u)) = (0 : Int32) then if (zb (f_S_isInMemory (a1 &&& (536870911 : Int32)))) = (0 : Int32) then ((7 : Int32), u) else ((-1 : Int32), u) else f_S_faultOfData_b19 a1 a3 u else f_S_faultOfData_b19 a1 a3 u
def f_R_latestOf (a1 : Int32) (u : St) : Int32 := if (u 3 1) = a1 then u 3 2 else f_R_valueOf a1 u
def f_S_toLowest (a1 : Int32) (a2 : Int32) : Int32 := ((8 : Int32) * (((4 : Int32) - a2) - (a1 &&& (3 : Int32)))) &&& (31 : Int32)
def f_S_bitsAhead (a1 : Int32) : Int32 := (8 : Int32) * (a1 &&& (3 : Int32))
def f_S_joinLoaded (a1 : Int32) (a2 : Int32) (a3 : Int32) (a4 : Int32) : Int32 := if a1 = (32 : Int32) then (a3 >>> ((f_S_toLowest a4 (1 : Int32)) &&& 31)).toInt8.toInt32 else if a1 = (33 : Int32) then (a3 >>> ((f_S_toLowest a4 (2 : Int32)) &&& 31)).toInt16.toInt32 else if a1 = (34 : Int32) then f_S_exchange a2 (a3 <<< ((f_S_bitsAhead a4) &&& 31)) ((-1 : Int32) <<< ((f_S_bitsAhead a4) &&& 31)) else if a1 = (35 : Int32) then a3 else if a1 = (36 : Int32) then (a3 >>> ((f_S_toLowest a4 (1 : Int32)) &&& 31)) &&& (255 : Int32) else if a1 = (37 : Int32) then (a3 >>> ((f_S_toLowest a4 (2 : Int32)) &&& 31)) &&& (65535 : Int32) else f_S_exchange a2 (ush a3 (f_S_toLowest a4 (1 : Int32))) (ush (-1 : Int32) (f_S_toLowest a4 (1 : Int32)))
def f_S_performLoad (a1 : Int32) (u : St) : Int32 × St := bnd (f_S_faultOfData (f_S_addressOf a1 u) (f_S_loadUnit (f_S_orderOf a1)) (4 : Int32) u) (fun r16 u16 => if r16 = (-1 : Int32) then bnd (f_S_giveLate (f_S_numberT a1) (f_S_joinLoaded (f_S_orderOf a1) (f_R_latestOf (f_S_numberT a1) u16) (f_M_wordAround ((f_S_addressOf a1 u) &&& (536870911 : Int32)) u16) (f_S_addressOf a1 u)) u16) (fun r68 u68 => (r68, u68)) else (r16, u16))
def f_S_storeUnit (a1 : Int32) : Int32 := if a1 = (43 : Int32) then (4 : Int32) else if a1 = (41 : Int32) then (2 : Int32) else (1 : Int32)
def f_S_joinStored (a1 : Int32) (a2 : Int32) (a3 : Int32) (a4 : Int32) : Int32 := if a1 = (40 : Int32) then f_S_exchange a2 (a3 <<< ((f_S_toLowest a4 (1 : Int32)) &&& 31)) ((255 : Int32) <<< ((f_S_toLowest a4 (1 : Int32)) &&& 31)) else if a1 = (41 : Int32) then f_S_exchange a2 (a3 <<< ((f_S_toLowest a4 (2 : Int32)) &&& 31)) ((65535 : Int32) <<< ((f_S_toLowest a4 (2 : Int32)) &&& 31)) else if a1 = (42 : Int32) then f_S_exchange a2 (ush a3 (f_S_bitsAhead a4)) (ush (-1 : Int32) (f_S_bitsAhead a4)) else if a1 = (43 : Int32) then a3 else f_S_exchange a2 (a3 <<< ((f_S_toLowest a4 (1 : Int32)) &&& 31)) ((-1 : Int32) <<< ((f_S_toLowest a4 (1 : Int32)) &&& 31))
def f_S_performStore (a1 : Int32) (u : St) : Int32 × St := bnd (f_S_faultOfData (f_S_addressOf a1 u) (f_S_storeUnit (f_S_orderOf a1)) (5 : Int32) u) (fun r16 u16 => if r16 = (-1 : Int32) then bnv (f_M_replaceWord ((f_S_addressOf a1 u) &&& (536870911 : Int32)) (f_S_joinStored (f_S_orderOf a1) (f_M_wordAround ((f_S_addressOf a1 u) &&& (536870911 : Int32)) u16) (f_S_valueOfT a1 u16) (f_S_addressOf a1 u)) u16) (fun u65 => ((-1 : Int32), u65)) else (r16, u16))
def f_S_perform_b248 (x1 : Int32) (u : St) : Int32 × St := bnd (f_S_performJump x1 u) (fun r250 u250 => (r250, u250))
def f_S_perform_b254 (x1 : Int32) (u : St) : Int32 × St := bnd (f_S_performBranch x1 u) (fun r256 u256 => (r256, u256))
def f_S_perform_b260 (x1 : Int32) (u : St) : Int32 × St := bnd (f_S_performWithNumber x1 u) (fun r262 u262 => (r262, u262))
def f_S_perform_b272 (x1 : Int32) (u : St) : Int32 × St := bnd (f_S_performLoad x1 u) (fun r274 u274 => (r274, u274))
def f_S_perform_b278 (x1 : Int32) (u : St) : Int32 × St := bnd (f_S_performStore x1 u) (fun r280 u280 => (r280, u280))
def f_S_perform_b30 (x1 : Int32) (u : St) : Int32 × St := if (f_S_orderOf x1) = (0 : Int32) then bnd (f_S_performByK x1 u) (fun r238 u238 => (r238, u238)) else if (f_S_orderOf x1) = (1 : Int32) then bnd (f_S_performBranchBySign x1 u) (fun r244 u244 => (r244, u244)) else if (f_S_orderOf x1) = (2 : Int32) then f_S_perform_b248 x1 u else if (f_S_orderOf x1) = (3 : Int32) then f_S_perform_b248 x1 u else if (f_S_orderOf x1) = (4 : Int32) then f_S_perform_b254 x1 u else if (f_S_orderOf x1) = (5 : Int32) then f_S_perform_b254 x1 u else if (f_S_orderOf x1) = (6 : Int32) then f_S_perform_b254 x1 u else if (f_S_orderOf x1) = (7 : Int32) then f_S_perform_b254 x1 u else if (f_S_orderOf x1) = (8 : Int32) then f_S_perform_b260 x1 u else if (f_S_orderOf x1) = (9 : Int32) then f_S_perform_b260 x1 u else if (f_S_orderOf x1) = (10 : Int32) then f_S_perform_b260 x1 u else if (f_S_orderOf x1) = (11 : Int32) then f_S_perform_b260 x1 u else if (f_S_orderOf x1) = (12 : Int32) then f_S_perform_b260 x1 u else if (f_S_orderOf x1) = (13 : Int32) then f_S_perform_b260 x1 u else if (f_S_orderOf x1) = (14 : Int32) then f_S_perform_b260 x1 u else if (f_S_orderOf x1) = (15 : Int32) then f_S_perform_b260 x1 u else if (f_S_orderOf x1) = (16 : Int32) then bnd (f_S_performControl x1 u) (fun r268 u268 => (r268, u268)) else if (f_S_orderOf x1) = (32 : Int32) then f_S_perform_b272 x1 u else if (f_S_orderOf x1) = (33 : Int32) then f_S_perform_b272 x1 u else if (f_S_orderOf x1) = (34 : Int32) then f_S_perform_b272 x1 u else if (f_S_orderOf x1) = (35 : Int32) then f_S_perform_b272 x1 u else if (f_S_orderOf x1) = (36 : Int32) then f_S_perform_b272 x1 u else if (f_S_orderOf x1) = (37 : Int32) then f_S_perform_b272 x1 u else if (f_S_orderOf x1) = (38 : Int32) then f_S_perform_b272 x1 u else if (f_S_orderOf x1) = (40 : Int32) then f_S_perform_b278 x1 u else if (f_S_orderOf x1) = (41 : Int32) then f_S_perform_b278 x1 u else if (f_S_orderOf x1) = (42 : Int32) then f_S_perform_b278 x1 u else if (f_S_orderOf x1) = (43 : Int32) then f_S_perform_b278 x1 u else if (f_S_orderOf x1) = (46 : Int32) then f_S_perform_b278 x1 u else ((10 : Int32), u)
def f_S_perform (a1 : Int32) (u : St) : Int32 × St := bnv (f_O_begin ((u 0 5) + (4 : Int32)) u) (fun u10 => if (zb (u10 0 6)) = (0 : Int32) then f_S_perform_b30 a1 u10 else if (zb (f_S_isBranch a1)) = (0 : Int32) then f_S_perform_b30 a1 u10 else ((10 : Int32), u10))
def f_S_finishInstruction_b62 (u : St) : St := sU (sU (sU u 0 4 (u 0 5)) 0 5 (u 6 4)) 0 6 (u 6 3)
def f_S_finishInstruction (u : St) : St := bnv (f_R_landLoad u) (fun u4 => if (zb (u4 6 2)) = (0 : Int32) then bnv (f_R_change (u4 6 0) (u4 6 1) u4) (fun u59 => f_S_finishInstruction_b62 u59) else bnv (f_R_holdLoad (u4 6 0) (u4 6 1) u4) (fun u35 => f_S_finishInstruction_b62 u35))
def f_S_takeStep_b56 (x1 : Int32) (u : St) : Int32 × St := if x1 = (-1 : Int32) then bnv (f_S_finishInstruction u) (fun u69 => ((0 : Int32), u69)) else bnv (f_S_enterException x1 u) (fun u63 => ((1 : Int32), u63))
def f_S_takeStep (u : St) : Int32 × St := if (zb (f_C_interruptIsDue (sU u 0 7 ((u 0 7) + (1 : Int32))))) = (0 : Int32) then bnd (f_S_faultAtPc (sU u 0 7 ((u 0 7) + (1 : Int32)))) (fun r28 u28 => if r28 = (-1 : Int32) then bnd (f_S_perform (f_M_wordAround ((u28 0 4) &&& (536870911 : Int32)) u28) u28) (fun r52 u52 => f_S_takeStep_b56 r52 u52) else f_S_takeStep_b56 r28 u28) else bnv (f_S_enterException (0 : Int32) (sU u 0 7 ((u 0 7) + (1 : Int32)))) (fun u22 => ((2 : Int32), u22))
def f_S_step (u : St) : Int32 × St := bnd (f_S_takeStep u) (fun r1 u1 => (r1, u1))
def f_S_run_b11 (u : St) : Option (Option (Int32 × St)) := some none
def f_S_run_b26 : Nat → Int32 → Int32 → Int32 → St → Option (Option (Int32 × St))
  | 0 => fun _ _ _ _ => none
  | n + 1 => fun x1 x2 x3 u => if x1 ≤ x3 then some (some (((u 0 8) - x2, u))) else bnd (f_S_takeStep u) (fun r32 u32 => f_S_run_b26 n x1 x2 (x3 + (1 : Int32)) u32)
theorem f_S_run_b26_s (n : Nat) (x1 : Int32) (x2 : Int32) (x3 : Int32) (u : St) : f_S_run_b26 (n + 1) x1 x2 x3 u = (if x1 ≤ x3 then some (some (((u 0 8) - x2, u))) else bnd (f_S_takeStep u) (fun r32 u32 => f_S_run_b26 n x1 x2 (x3 + (1 : Int32)) u32)) := rfl
def f_S_run (a1 : Int32) (u : St) : Option (Option (Int32 × St)) := if a1 < (0 : Int32) then f_S_run_b11 u else if a1 ≤ (5000 : Int32) then f_S_run_b26 fuel a1 (u 0 8) (0 : Int32) u else f_S_run_b11 u
def f_S_look (a1 : Int32) (u : St) : Option (Int32) := if a1 = (0 : Int32) then some (u 0 4) else if a1 = (1 : Int32) then some (u 0 5) else if a1 = (2 : Int32) then some (u 5 0) else if a1 = (3 : Int32) then some (f_C_wholeCause u) else if a1 = (4 : Int32) then some (u 5 3) else if a1 = (5 : Int32) then some (u 5 4) else if a1 = (6 : Int32) then if (zb (u 0 6)) = (0 : Int32) then some ((0 : Int32)) else some ((1 : Int32)) else if a1 = (7 : Int32) then some (u 3 1) else if a1 = (8 : Int32) then some (u 3 2) else if a1 = (9 : Int32) then some (u 0 7) else if a1 = (10 : Int32) then some (u 0 8) else none
def f_D_thrown (u : St) : Int32 := u 0 0
def f_D_goes (a1 : Int32) (u : St) : Int32 × St := if (zb a1) = (0 : Int32) then (a1, sU u 0 0 (1 : Int32)) else (a1, sU u 0 0 (0 : Int32))
def f_D_reset_b7 : Nat → Int32 → St → Option (St)
  | 0 => fun _ _ => none
  | n + 1 => fun x1 u => if (34 : Int32) ≤ x1 then some (sU (sU (sU (sU (sU (sU (sU (sU (sU (sU (sU (sU (sU (sU u 0 3 (0 : Int32)) 0 4 (4 : Int32)) 0 5 (0 : Int32)) 0 6 (0 : Int32)) 0 7 (0 : Int32)) 0 8 (0 : Int32)) 0 9 (0 : Int32)) 0 10 (0 : Int32)) 0 11 (0 : Int32)) 0 12 (0 : Int32)) 0 13 (-1 : Int32)) 0 14 (0 : Int32)) 0 15 (0 : Int32)) 0 16 (0 : Int32)) else if inb x1 34 then f_D_reset_b7 n (x1 + (1 : Int32)) (sU u 2 x1.toNatClampNeg (0 : Int32)) else none
theorem f_D_reset_b7_s (n : Nat) (x1 : Int32) (u : St) : f_D_reset_b7 (n + 1) x1 u = (if (34 : Int32) ≤ x1 then some (sU (sU (sU (sU (sU (sU (sU (sU (sU (sU (sU (sU (sU (sU u 0 3 (0 : Int32)) 0 4 (4 : Int32)) 0 5 (0 : Int32)) 0 6 (0 : Int32)) 0 7 (0 : Int32)) 0 8 (0 : Int32)) 0 9 (0 : Int32)) 0 10 (0 : Int32)) 0 11 (0 : Int32)) 0 12 (0 : Int32)) 0 13 (-1 : Int32)) 0 14 (0 : Int32)) 0 15 (0 : Int32)) 0 16 (0 : Int32)) else if inb x1 34 then f_D_reset_b7 n (x1 + (1 : Int32)) (sU u 2 x1.toNatClampNeg (0 : Int32)) else none) := rfl
def f_D_reset (u : St) : Option (St) := f_D_reset_b7 fuel (0 : Int32) (sU u 0 0 (0 : Int32))
def f_D_load_b5 : Nat → Int32 → Int32 → Int32 → Int32 → St → Option (Int32)
  | 0 => fun _ _ _ _ _ => none
  | n + 1 => fun x1 x2 x3 x4 u => if x2 ≤ x4 then some (x3) else if inb (x1 + x4) 4096 then f_D_load_b5 n x1 x2 ((x3 <<< ((8 : Int32) &&& 31)) ||| ((u 1) (x1 + x4).toNatClampNeg)) (x4 + (1 : Int32)) u else none
theorem f_D_load_b5_s (n : Nat) (x1 : Int32) (x2 : Int32) (x3 : Int32) (x4 : Int32) (u : St) : f_D_load_b5 (n + 1) x1 x2 x3 x4 u = (if x2 ≤ x4 then some (x3) else if inb (x1 + x4) 4096 then f_D_load_b5 n x1 x2 ((x3 <<< ((8 : Int32) &&& 31)) ||| ((u 1) (x1 + x4).toNatClampNeg)) (x4 + (1 : Int32)) u else none) := rfl
def f_D_load (a1 : Int32) (a2 : Int32) (u : St) : Option (Int32) := f_D_load_b5 fuel a1 a2 (0 : Int32) (0 : Int32) u
def f_D_store_b3 : Nat → Int32 → Int32 → Int32 → Int32 → St → Option (St)
  | 0 => fun _ _ _ _ _ => none
  | n + 1 => fun x1 x2 x3 x4 u => if x2 ≤ x4 then some (u) else if inb (x1 + x4) 4096 then f_D_store_b3 n x1 x2 x3 (x4 + (1 : Int32)) (sU u 1 ((x1 + x4).toNatClampNeg) ((x3 >>> (((8 : Int32) * ((x2 - (1 : Int32)) - x4)) &&& 31)) &&& (255 : Int32))) else none
theorem f_D_store_b3_s (n : Nat) (x1 : Int32) (x2 : Int32) (x3 : Int32) (x4 : Int32) (u : St) : f_D_store_b3 (n + 1) x1 x2 x3 x4 u = (if x2 ≤ x4 then some (u) else if inb (x1 + x4) 4096 then f_D_store_b3 n x1 x2 x3 (x4 + (1 : Int32)) (sU u 1 ((x1 + x4).toNatClampNeg) ((x3 >>> (((8 : Int32) * ((x2 - (1 : Int32)) - x4)) &&& 31)) &&& (255 : Int32))) else none) := rfl
def f_D_store (a1 : Int32) (a2 : Int32) (a3 : Int32) (u : St) : Option (St) := f_D_store_b3 fuel a1 a2 a3 (0 : Int32) u
def f_D_isWord (a1 : Int32) : Int32 := if a1 < (0 : Int32) then (0 : Int32) else if (4092 : Int32) < a1 then (0 : Int32) else if (a1 - a1 / (4 : Int32) * (4 : Int32)) = (0 : Int32) then (1 : Int32) else (0 : Int32)
def f_D_put (a1 : Int32) (a2 : Int32) (u : St) : Option (Int32 × St) := bnd (f_D_goes (f_D_isWord a1) u) (fun r5 u5 => if (zb r5) = (0 : Int32) then some (((0 : Int32), u5)) else obv (f_D_load a1 (4 : Int32) u5) (fun r16 => obv (f_D_store a1 (4 : Int32) a2 u5) (fun u24 => some ((r16, u24)))))
def f_D_word (a1 : Int32) (u : St) : Option (Int32 × St) := bnd (f_D_goes (f_D_isWord a1) u) (fun r5 u5 => if (zb r5) = (0 : Int32) then some (((0 : Int32), u5)) else obv (f_D_load a1 (4 : Int32) u5) (fun r14 => some ((r14, u5))))
def f_D_set_b16 (x1 : Int32) (x2 : Int32) (y0 : Int32) (u : St) : Option (Int32 × St) := bnd (f_D_goes y0 u) (fun r16 u16 => if (zb r16) = (0 : Int32) then some (((0 : Int32), u16)) else if inb x1 34 then if x1 = (0 : Int32) then if inb x1 34 then some (((u16 2) x1.toNatClampNeg, sU u16 2 x1.toNatClampNeg (0 : Int32))) else none else if inb x1 34 then some (((u16 2) x1.toNatClampNeg, sU u16 2 x1.toNatClampNeg x2)) else none else none)
def f_D_set_b15 (x1 : Int32) (x2 : Int32) (u : St) : Option (Int32 × St) := f_D_set_b16 x1 x2 (0 : Int32) u
def f_D_set (a1 : Int32) (a2 : Int32) (u : St) : Option (Int32 × St) := if a1 < (0 : Int32) then f_D_set_b15 a1 a2 u else if (34 : Int32) ≤ a1 then f_D_set_b15 a1 a2 u else f_D_set_b16 a1 a2 (1 : Int32) u
def f_D_register_b16 (x1 : Int32) (y0 : Int32) (u : St) : Option (Int32 × St) := bnd (f_D_goes y0 u) (fun r16 u16 => if (zb r16) = (0 : Int32) then some (((0 : Int32), u16)) else if inb x1 34 then some (((u16 2) x1.toNatClampNeg, u16)) else none)
def f_D_register_b15 (x1 : Int32) (u : St) : Option (Int32 × St) := f_D_register_b16 x1 (0 : Int32) u
def f_D_register (a1 : Int32) (u : St) : Option (Int32 × St) := if a1 < (0 : Int32) then f_D_register_b15 a1 u else if (34 : Int32) ≤ a1 then f_D_register_b15 a1 u else f_D_register_b16 a1 (1 : Int32) u
def f_D_go (a1 : Int32) (u : St) : Int32 × St := (u 0 3, sU (sU (sU (sU (sU (sU u 0 0 (0 : Int32)) 0 3 a1) 0 4 (a1 + (4 : Int32))) 0 12 (0 : Int32)) 0 13 (-1 : Int32)) 0 14 (0 : Int32))
def f_D_status (a1 : Int32) (u : St) : Int32 × St := (u 0 5, sU (sU u 0 0 (0 : Int32)) 0 5 (a1 &&& (65343 : Int32)))
def f_D_lines_b16 (x1 : Int32) (y0 : Int32) (u : St) : Int32 × St := bnd (f_D_goes y0 u) (fun r16 u16 => if (zb r16) = (0 : Int32) then ((0 : Int32), u16) else (u16 0 8, sU u16 0 8 x1))
def f_D_lines_b15 (x1 : Int32) (u : St) : Int32 × St := f_D_lines_b16 x1 (0 : Int32) u
def f_D_lines (a1 : Int32) (u : St) : Int32 × St := if a1 < (0 : Int32) then f_D_lines_b15 a1 u else if (63 : Int32) < a1 then f_D_lines_b15 a1 u else f_D_lines_b16 a1 (1 : Int32) u
def f_D_cause (u : St) : Int32 := if (zb (u 0 9)) = (0 : Int32) then ((((u 0 6) <<< ((2 : Int32) &&& 31)) ||| ((u 0 7) <<< ((8 : Int32) &&& 31))) ||| ((u 0 8) <<< ((10 : Int32) &&& 31))) ||| (0 : Int32) else ((((u 0 6) <<< ((2 : Int32) &&& 31)) ||| ((u 0 7) <<< ((8 : Int32) &&& 31))) ||| ((u 0 8) <<< ((10 : Int32) &&& 31))) ||| (-2147483648 : Int32)
def f_D_user (u : St) : Int32 := if (((u 0 5) >>> ((1 : Int32) &&& 31)) &&& (1 : Int32)) = (1 : Int32) then (1 : Int32) else (0 : Int32)
def f_D_isBranch_b61 (u : St) : Int32 := if (u 0 18) < (2 : Int32) then (0 : Int32) else if (7 : Int32) < (u 0 18) then (0 : Int32) else (1 : Int32)
def f_D_isBranch_b36 (x1 : Int32) (u : St) : Int32 := if (u 0 18) = (1 : Int32) then if x1 < (2 : Int32) then (1 : Int32) else if x1 = (16 : Int32) then (1 : Int32) else if x1 = (17 : Int32) then (1 : Int32) else f_D_isBranch_b61 u else f_D_isBranch_b61 u
def f_D_isBranch (u : St) : Int32 := if (u 0 18) = (0 : Int32) then if (u 0 21) = (8 : Int32) then (1 : Int32) else if (u 0 21) = (9 : Int32) then (1 : Int32) else f_D_isBranch_b36 (((u 0 17) >>> ((16 : Int32) &&& 31)) &&& (31 : Int32)) u else f_D_isBranch_b36 (((u 0 17) >>> ((16 : Int32) &&& 31)) &&& (31 : Int32)) u
def f_D_isKnown_b268 (u : St) : Int32 := if (u 0 18) = (46 : Int32) then (1 : Int32) else (0 : Int32)
def f_D_isKnown_b250 (u : St) : Int32 := if (u 0 18) < (40 : Int32) then f_D_isKnown_b268 u else if (u 0 18) ≤ (43 : Int32) then (1 : Int32) else f_D_isKnown_b268 u
def f_D_isKnown_b232 (u : St) : Int32 := if (u 0 18) < (32 : Int32) then f_D_isKnown_b250 u else if (u 0 18) ≤ (38 : Int32) then (1 : Int32) else f_D_isKnown_b250 u
def f_D_isKnown_b199 (x1 : Int32) (u : St) : Int32 := if (u 0 18) = (16 : Int32) then if x1 = (0 : Int32) then (1 : Int32) else if x1 = (4 : Int32) then (1 : Int32) else if x1 = (16 : Int32) then if (u 0 21) = (16 : Int32) then (1 : Int32) else f_D_isKnown_b232 u else f_D_isKnown_b232 u else f_D_isKnown_b232 u
def f_D_isKnown_b182 (x1 : Int32) (u : St) : Int32 := if (u 0 18) < (2 : Int32) then f_D_isKnown_b199 x1 u else if (u 0 18) ≤ (15 : Int32) then (1 : Int32) else f_D_isKnown_b199 x1 u
def f_D_isKnown_b132 (u : St) : Int32 := if (u 0 21) = (42 : Int32) then (1 : Int32) else if (u 0 21) = (43 : Int32) then (1 : Int32) else (0 : Int32)
def f_D_isKnown_b114 (u : St) : Int32 := if (u 0 21) < (32 : Int32) then f_D_isKnown_b132 u else if (u 0 21) ≤ (39 : Int32) then (1 : Int32) else f_D_isKnown_b132 u
def f_D_isKnown_b96 (u : St) : Int32 := if (u 0 21) < (24 : Int32) then f_D_isKnown_b114 u else if (u 0 21) ≤ (27 : Int32) then (1 : Int32) else f_D_isKnown_b114 u
def f_D_isKnown_b37 (y0 : Int32) (u : St) : Int32 := if y0 = (0 : Int32) then if (u 0 21) = (8 : Int32) then (1 : Int32) else if (u 0 21) = (9 : Int32) then (1 : Int32) else if (u 0 21) = (12 : Int32) then (1 : Int32) else if (u 0 21) = (13 : Int32) then (1 : Int32) else if (u 0 21) < (16 : Int32) then f_D_isKnown_b96 u else if (u 0 21) ≤ (19 : Int32) then (1 : Int32) else f_D_isKnown_b96 u else (1 : Int32)
def f_D_isKnown_b36 (u : St) : Int32 := f_D_isKnown_b37 (0 : Int32) u
def f_D_isKnown (u : St) : Int32 := if (u 0 18) = (0 : Int32) then if (7 : Int32) < (u 0 21) then f_D_isKnown_b36 u else if (u 0 21) = (1 : Int32) then f_D_isKnown_b36 u else if (u 0 21) = (5 : Int32) then f_D_isKnown_b36 u else f_D_isKnown_b37 (1 : Int32) u else if (u 0 18) = (1 : Int32) then if (zb (f_D_isBranch u)) = (0 : Int32) then f_D_isKnown_b182 (((u 0 17) >>> ((21 : Int32) &&& 31)) &&& (31 : Int32)) u else (1 : Int32) else f_D_isKnown_b182 (((u 0 17) >>> ((21 : Int32) &&& 31)) &&& (31 : Int32)) u
def f_D_exact (a1 : Int64) : Int32 := if (lg_cmp a1 a1.toInt32.toInt64) = (0 : Int32) then (1 : Int32) else (0 : Int32)
def f_D_number (u : St) : Int32 := ((u 0 17) <<< ((16 : Int32) &&& 31)) >>> ((16 : Int32) &&& 31)
def f_D_moved (u : St) : Int32 := if (u 0 18) = (34 : Int32) then (4 : Int32) else if (u 0 18) = (38 : Int32) then (4 : Int32) else if (u 0 18) = (42 : Int32) then (4 : Int32) else if (u 0 18) = (46 : Int32) then (4 : Int32) else if ((u 0 18) &&& (3 : Int32)) = (0 : Int32) then (1 : Int32) else if ((u 0 18) &&& (3 : Int32)) = (1 : Int32) then (2 : Int32) else (4 : Int32)
def f_D_inMemory (a1 : Int32) (a2 : Int32) : Int32 := if ((4096 : Int32) - a2) < (a1 &&& (536870911 : Int32)) then (0 : Int32) else (1 : Int32)
def f_D_isPart (u : St) : Int32 := if (u 0 18) = (34 : Int32) then (1 : Int32) else if (u 0 18) = (38 : Int32) then (1 : Int32) else if (u 0 18) = (42 : Int32) then (1 : Int32) else if (u 0 18) = (46 : Int32) then (1 : Int32) else (0 : Int32)
def f_D_addressTrouble_b45 (x1 : Int32) (u : St) : Int32 × St := if (40 : Int32) ≤ (u 0 18) then ((5 : Int32), sU u 0 11 x1) else ((4 : Int32), sU u 0 11 x1)
def f_D_addressTrouble_b80 (y0 : Int32) (u : St) : Int32 × St := if (zb (f_D_inMemory y0 (f_D_moved u))) = (0 : Int32) then ((7 : Int32), u) else ((0 : Int32), u)
def f_D_addressTrouble_b65 (x1 : Int32) (u : St) : Int32 × St := if (zb (f_D_isPart u)) = (0 : Int32) then f_D_addressTrouble_b80 x1 u else f_D_addressTrouble_b80 (x1 &&& (-4 : Int32)) u
def f_D_addressTrouble_b25 (x1 : Int32) (y0 : Int32) (u : St) : Int32 × St := if (x1 &&& (y0 - (1 : Int32))) = (0 : Int32) then if (0 : Int32) ≤ x1 then f_D_addressTrouble_b65 x1 u else if (zb (f_D_user u)) = (0 : Int32) then f_D_addressTrouble_b65 x1 u else f_D_addressTrouble_b45 x1 u else f_D_addressTrouble_b45 x1 u
def f_D_addressTrouble (u : St) : Int32 × St := if (zb (f_D_isPart u)) = (0 : Int32) then f_D_addressTrouble_b25 ((u 0 19) + (f_D_number u)) (f_D_moved u) u else f_D_addressTrouble_b25 ((u 0 19) + (f_D_number u)) (1 : Int32) u
def f_D_trouble_b88 (y0 : Int32) (u : St) : Int32 × St := if (u 0 21) = (12 : Int32) then ((8 : Int32), u) else if (u 0 21) = (13 : Int32) then ((9 : Int32), u) else if y0 = (0 : Int32) then ((0 : Int32), u) else ((12 : Int32), u)
def f_D_trouble_b87 (u : St) : Int32 × St := f_D_trouble_b88 (0 : Int32) u
def f_D_trouble_b83 (u : St) : Int32 × St := f_D_trouble_b88 (1 : Int32) u
def f_D_trouble_b57 (u : St) : Int32 × St := if (u 0 21) = (34 : Int32) then if (zb (f_D_exact (((u 0 19).toInt64) - ((u 0 20).toInt64)))) = (0 : Int32) then f_D_trouble_b83 u else f_D_trouble_b87 u else f_D_trouble_b87 u
def f_D_trouble_b24 (u : St) : Int32 × St := if (u 0 18) = (0 : Int32) then if (u 0 21) = (32 : Int32) then if (zb (f_D_exact (((u 0 19).toInt64) + ((u 0 20).toInt64)))) = (0 : Int32) then f_D_trouble_b83 u else f_D_trouble_b57 u else f_D_trouble_b57 u else if (u 0 18) = (8 : Int32) then if (zb (f_D_exact (((u 0 19).toInt64) + ((f_D_number u).toInt64)))) = (0 : Int32) then ((12 : Int32), u) else ((0 : Int32), u) else if (u 0 18) = (16 : Int32) then if (zb (f_D_user u)) = (0 : Int32) then ((0 : Int32), u) else ((11 : Int32), u) else if (u 0 18) < (32 : Int32) then ((0 : Int32), u) else bnd (f_D_addressTrouble u) (fun r194 u194 => (r194, u194))
def f_D_trouble (u : St) : Int32 × St := if (zb (f_D_isKnown u)) = (0 : Int32) then ((10 : Int32), u) else if (zb (u 0 12)) = (0 : Int32) then f_D_trouble_b24 u else if (zb (f_D_isBranch u)) = (0 : Int32) then f_D_trouble_b24 u else ((10 : Int32), u)
def f_D_gives (a1 : Int32) (a2 : Int32) (u : St) : St := sU (sU u 0 22 a1) 0 23 a2
def f_D_less (a1 : Int32) (a2 : Int32) : Int32 := if (a2 + (-2147483648 : Int32)) ≤ (a1 + (-2147483648 : Int32)) then (0 : Int32) else (1 : Int32)
def f_D_multiply_b43 (x2 : Int64) (y0 : Int64) (u : St) : St := sU (sU u 2 ((32 : Int32).toNatClampNeg) (((x2 * y0) >>> ((32 : Int32).toInt64 &&& 63)).toInt32)) 2 ((33 : Int32).toNatClampNeg) ((x2 * y0).toInt32)
def f_D_multiply_b21 (x1 : Int32) (y0 : Int64) (u : St) : St := if x1 = (0 : Int32) then f_D_multiply_b43 y0 (((u 0 20).toInt64) &&& (4294967295 : Int64)) u else f_D_multiply_b43 y0 ((u 0 20).toInt64) u
def f_D_multiply (a1 : Int32) (u : St) : St := if (zb a1) = (0 : Int32) then f_D_multiply_b21 (zb a1) (((u 0 19).toInt64) &&& (4294967295 : Int64)) u else f_D_multiply_b21 (zb a1) ((u 0 19).toInt64) u
def f_D_divide_b85 (x2 : Int64) (y0 : Int64) (u : St) : Option (St) := if y0 = 0 then none else if inb (33 : Int32) 34 then if y0 = 0 then none else if inb (32 : Int32) 34 then some (sU (sU u 2 ((33 : Int32).toNatClampNeg) ((x2 / y0).toInt32)) 2 ((32 : Int32).toNatClampNeg) ((x2 - x2 / y0 * y0).toInt32)) else none else none
def f_D_divide_b63 (x1 : Int32) (y0 : Int64) (u : St) : Option (St) := if x1 = (0 : Int32) then f_D_divide_b85 y0 (((u 0 20).toInt64) &&& (4294967295 : Int64)) u else f_D_divide_b85 y0 ((u 0 20).toInt64) u
def f_D_divide_b29 (y0 : Int32) (y1 : Int32) (u : St) : Option (St) := if inb y1 34 then if inb (32 : Int32) 34 then some (sU (sU u 2 y1.toNatClampNeg y0) 2 ((32 : Int32).toNatClampNeg) (u 0 19)) else none else none
def f_D_divide_b28 (y0 : Int32) (u : St) : Option (St) := f_D_divide_b29 (-1 : Int32) y0 u
def f_D_divide (a1 : Int32) (u : St) : Option (St) := if (u 0 20) = (0 : Int32) then if (zb a1) = (0 : Int32) then f_D_divide_b28 (33 : Int32) u else if (0 : Int32) ≤ (u 0 19) then f_D_divide_b28 (33 : Int32) u else f_D_divide_b29 (1 : Int32) (33 : Int32) u else if (zb a1) = (0 : Int32) then f_D_divide_b63 (zb a1) (((u 0 19).toInt64) &&& (4294967295 : Int64)) u else f_D_divide_b63 (zb a1) ((u 0 19).toInt64) u
def f_D_shifts_b74 (y0 : Int32) (y1 : Int32) (u : St) : St := bnv (f_D_gives y1 y0 u) (fun u74 => u74)
def f_D_shifts_b28 (x1 : Int32) (y0 : Int32) (u : St) : St := if ((u 0 21) - (u 0 21) / (4 : Int32) * (4 : Int32)) = (0 : Int32) then f_D_shifts_b74 ((u 0 20) <<< (y0 &&& 31)) x1 u else if ((u 0 21) - (u 0 21) / (4 : Int32) * (4 : Int32)) = (2 : Int32) then f_D_shifts_b74 (ush (u 0 20) y0) x1 u else f_D_shifts_b74 ((u 0 20) >>> (y0 &&& 31)) x1 u
def f_D_shifts (a1 : Int32) (u : St) : St := if (4 : Int32) ≤ (u 0 21) then f_D_shifts_b28 a1 ((u 0 19) &&& (31 : Int32)) u else f_D_shifts_b28 a1 (((u 0 17) >>> ((6 : Int32) &&& 31)) &&& (31 : Int32)) u
def f_D_byRegisters_b172 (x1 : Int32) (u : St) : Option (St) := if (u 0 21) = (9 : Int32) then bnv (f_D_gives x1 ((u 0 3) + (8 : Int32)) (sU u 0 26 (u 0 19))) (fun u198 => some (u198)) else some (sU u 0 26 (u 0 19))
def f_D_byRegisters_b226 (y0 : Int32) (y2 : Int32) (u : St) : Option (St) := if inb y0 34 then bnv (f_D_gives y2 ((u 2) y0.toNatClampNeg) u) (fun u227 => some (u227)) else none
def f_D_byRegisters_b204 (x1 : Int32) (u : St) : Option (St) := if (u 0 21) = (16 : Int32) then f_D_byRegisters_b226 (32 : Int32) x1 u else f_D_byRegisters_b226 (33 : Int32) x1 u
def f_D_byRegisters_b253 (y0 : Int32) (u : St) : Option (St) := if inb y0 34 then some (sU u 2 y0.toNatClampNeg (u 0 19)) else none
def f_D_byRegisters_b233 (u : St) : Option (St) := if (u 0 21) = (17 : Int32) then f_D_byRegisters_b253 (32 : Int32) u else f_D_byRegisters_b253 (33 : Int32) u
def f_D_byRegisters_b276 (y0 : Int32) (u : St) : Option (St) := bnv (f_D_multiply y0 u) (fun u276 => some (u276))
def f_D_byRegisters_b261 (u : St) : Option (St) := if (u 0 21) = (24 : Int32) then f_D_byRegisters_b276 (1 : Int32) u else f_D_byRegisters_b276 (0 : Int32) u
def f_D_byRegisters_b297 (y0 : Int32) (u : St) : Option (St) := obv (f_D_divide y0 u) (fun u297 => some (u297))
def f_D_byRegisters_b282 (u : St) : Option (St) := if (u 0 21) = (26 : Int32) then f_D_byRegisters_b297 (1 : Int32) u else f_D_byRegisters_b297 (0 : Int32) u
def f_D_byRegisters_b303 (x1 : Int32) (u : St) : Option (St) := bnv (f_D_gives x1 ((u 0 19) + (u 0 20)) u) (fun u314 => some (u314))
def f_D_byRegisters_b320 (x1 : Int32) (u : St) : Option (St) := bnv (f_D_gives x1 ((u 0 19) - (u 0 20)) u) (fun u331 => some (u331))
def f_D_byRegisters_b425 (y0 : Int32) (y1 : Int32) (u : St) : Option (St) := bnv (f_D_gives y1 y0 u) (fun u425 => some (u425))
def f_D_byRegisters_b452 (y0 : Int32) (y1 : Int32) (u : St) : Option (St) := bnv (f_D_gives y1 y0 u) (fun u452 => some (u452))
def f_D_byRegisters_b458 (x1 : Int32) (u : St) : Option (St) := bnv (f_D_shifts x1 u) (fun u460 => some (u460))
def f_D_byRegisters (u : St) : Option (St) := if (u 0 21) = (8 : Int32) then f_D_byRegisters_b172 (((u 0 17) >>> ((11 : Int32) &&& 31)) &&& (31 : Int32)) u else if (u 0 21) = (9 : Int32) then f_D_byRegisters_b172 (((u 0 17) >>> ((11 : Int32) &&& 31)) &&& (31 : Int32)) u else if (u 0 21) = (16 : Int32) then f_D_byRegisters_b204 (((u 0 17) >>> ((11 : Int32) &&& 31)) &&& (31 : Int32)) u else if (u 0 21) = (17 : Int32) then f_D_byRegisters_b233 u else if (u 0 21) = (18 : Int32) then f_D_byRegisters_b204 (((u 0 17) >>> ((11 : Int32) &&& 31)) &&& (31 : Int32)) u else if (u 0 21) = (19 : Int32) then f_D_byRegisters_b233 u else if (u 0 21) = (24 : Int32) then f_D_byRegisters_b261 u else if (u 0 21) = (25 : Int32) then f_D_byRegisters_b261 u else if (u 0 21) = (26 : Int32) then f_D_byRegisters_b282 u else if (u 0 21) = (27 : Int32) then f_D_byRegisters_b282 u else if (u 0 21) = (32 : Int32) then f_D_byRegisters_b303 (((u 0 17) >>> ((11 : Int32) &&& 31)) &&& (31 : Int32)) u else if (u 0 21) = (33 : Int32) then f_D_byRegisters_b303 (((u 0 17) >>> ((11 : Int32) &&& 31)) &&& (31 : Int32)) u else if (u 0 21) = (34 : Int32) then f_D_byRegisters_b320 (((u 0 17) >>> ((11 : Int32) &&& 31)) &&& (31 : Int32)) u else if (u 0 21) = (35 : Int32) then f_D_byRegisters_b320 (((u 0 17) >>> ((11 : Int32) &&& 31)) &&& (31 : Int32)) u else if (u 0 21) = (36 : Int32) then bnv (f_D_gives (((u 0 17) >>> ((11 : Int32) &&& 31)) &&& (31 : Int32)) ((u 0 19) &&& (u 0 20)) u) (fun u348 => some (u348)) else if (u 0 21) = (37 : Int32) then bnv (f_D_gives (((u 0 17) >>> ((11 : Int32) &&& 31)) &&& (31 : Int32)) ((u 0 19) ||| (u 0 20)) u) (fun u365 => some (u365)) else if (u 0 21) = (38 : Int32) then bnv (f_D_gives (((u 0 17) >>> ((11 : Int32) &&& 31)) &&& (31 : Int32)) ((u 0 19) ^^^ (u 0 20)) u) (fun u382 => some (u382)) else if (u 0 21) = (39 : Int32) then bnv (f_D_gives (((u 0 17) >>> ((11 : Int32) &&& 31)) &&& (31 : Int32)) (((u 0 19) ||| (u 0 20)) ^^^ (-1 : Int32)) u) (fun u401 => some (u401)) else if (u 0 21) = (42 : Int32) then if (u 0 20) ≤ (u 0 19) then f_D_byRegisters_b425 (0 : Int32) (((u 0 17) >>> ((11 : Int32) &&& 31)) &&& (31 : Int32)) u else f_D_byRegisters_b425 (1 : Int32) (((u 0 17) >>> ((11 : Int32) &&& 31)) &&& (31 : Int32)) u else if (u 0 21) = (43 : Int32) then if (zb (f_D_less (u 0 19) (u 0 20))) = (0 : Int32) then f_D_byRegisters_b452 (0 : Int32) (((u 0 17) >>> ((11 : Int32) &&& 31)) &&& (31 : Int32)) u else f_D_byRegisters_b452 (1 : Int32) (((u 0 17) >>> ((11 : Int32) &&& 31)) &&& (31 : Int32)) u else f_D_byRegisters_b458 (((u 0 17) >>> ((11 : Int32) &&& 31)) &&& (31 : Int32)) u
def f_D_branch_b232 (u : St) : St := bnv (f_D_gives (31 : Int32) ((u 0 3) + (8 : Int32)) u) (fun u242 => u242)
def f_D_branch_b210 (x1 : Int32) (u : St) : St := if (u 0 18) = (3 : Int32) then f_D_branch_b232 u else if (u 0 18) = (1 : Int32) then if x1 ≤ (15 : Int32) then u else f_D_branch_b232 u else u
def f_D_branch_b189 (x1 : Int32) (x2 : Int32) (u : St) : St := if x2 = (0 : Int32) then f_D_branch_b210 x1 u else f_D_branch_b210 x1 (sU u 0 26 (((u 0 3) + (4 : Int32)) + ((4 : Int32) * (f_D_number u))))
def f_D_branch_b146 (x1 : Int32) (y0 : Int32) (u : St) : St := if (4 : Int32) ≤ (u 0 18) then f_D_branch_b189 x1 y0 u else if (u 0 18) ≤ (1 : Int32) then f_D_branch_b189 x1 y0 u else f_D_branch_b210 x1 (sU u 0 26 ((((u 0 3) + (4 : Int32)) &&& (-268435456 : Int32)) ||| (((u 0 17) &&& (67108863 : Int32)) <<< ((2 : Int32) &&& 31))))
def f_D_branch (u : St) : St := if (u 0 18) = (4 : Int32) then if (u 0 19) = (u 0 20) then f_D_branch_b146 (((u 0 17) >>> ((16 : Int32) &&& 31)) &&& (31 : Int32)) (1 : Int32) u else f_D_branch_b146 (((u 0 17) >>> ((16 : Int32) &&& 31)) &&& (31 : Int32)) (0 : Int32) u else if (u 0 18) = (5 : Int32) then if (u 0 19) = (u 0 20) then f_D_branch_b146 (((u 0 17) >>> ((16 : Int32) &&& 31)) &&& (31 : Int32)) (0 : Int32) u else f_D_branch_b146 (((u 0 17) >>> ((16 : Int32) &&& 31)) &&& (31 : Int32)) (1 : Int32) u else if (u 0 18) = (6 : Int32) then if (0 : Int32) < (u 0 19) then f_D_branch_b146 (((u 0 17) >>> ((16 : Int32) &&& 31)) &&& (31 : Int32)) (0 : Int32) u else f_D_branch_b146 (((u 0 17) >>> ((16 : Int32) &&& 31)) &&& (31 : Int32)) (1 : Int32) u else if (u 0 18) = (7 : Int32) then if (u 0 19) ≤ (0 : Int32) then f_D_branch_b146 (((u 0 17) >>> ((16 : Int32) &&& 31)) &&& (31 : Int32)) (0 : Int32) u else f_D_branch_b146 (((u 0 17) >>> ((16 : Int32) &&& 31)) &&& (31 : Int32)) (1 : Int32) u else if ((((u 0 17) >>> ((16 : Int32) &&& 31)) &&& (31 : Int32)) - (((u 0 17) >>> ((16 : Int32) &&& 31)) &&& (31 : Int32)) / (2 : Int32) * (2 : Int32)) = (0 : Int32) then if (0 : Int32) ≤ (u 0 19) then f_D_branch_b146 (((u 0 17) >>> ((16 : Int32) &&& 31)) &&& (31 : Int32)) (0 : Int32) u else f_D_branch_b146 (((u 0 17) >>> ((16 : Int32) &&& 31)) &&& (31 : Int32)) (1 : Int32) u else if (u 0 19) < (0 : Int32) then f_D_branch_b146 (((u 0 17) >>> ((16 : Int32) &&& 31)) &&& (31 : Int32)) (0 : Int32) u else f_D_branch_b146 (((u 0 17) >>> ((16 : Int32) &&& 31)) &&& (31 : Int32)) (1 : Int32) u
def f_D_byNumber_b64 (x1 : Int32) (u : St) : St := bnv (f_D_gives x1 ((u 0 19) + (f_D_number u)) u) (fun u75 => u75)
def f_D_byNumber_b99 (y0 : Int32) (y1 : Int32) (u : St) : St := bnv (f_D_gives y1 y0 u) (fun u99 => u99)
def f_D_byNumber_b126 (y0 : Int32) (y1 : Int32) (u : St) : St := bnv (f_D_gives y1 y0 u) (fun u126 => u126)
def f_D_byNumber (u : St) : St := if (u 0 18) = (8 : Int32) then f_D_byNumber_b64 (((u 0 17) >>> ((16 : Int32) &&& 31)) &&& (31 : Int32)) u else if (u 0 18) = (9 : Int32) then f_D_byNumber_b64 (((u 0 17) >>> ((16 : Int32) &&& 31)) &&& (31 : Int32)) u else if (u 0 18) = (10 : Int32) then if (f_D_number u) ≤ (u 0 19) then f_D_byNumber_b99 (0 : Int32) (((u 0 17) >>> ((16 : Int32) &&& 31)) &&& (31 : Int32)) u else f_D_byNumber_b99 (1 : Int32) (((u 0 17) >>> ((16 : Int32) &&& 31)) &&& (31 : Int32)) u else if (u 0 18) = (11 : Int32) then if (zb (f_D_less (u 0 19) (f_D_number u))) = (0 : Int32) then f_D_byNumber_b126 (0 : Int32) (((u 0 17) >>> ((16 : Int32) &&& 31)) &&& (31 : Int32)) u else f_D_byNumber_b126 (1 : Int32) (((u 0 17) >>> ((16 : Int32) &&& 31)) &&& (31 : Int32)) u else if (u 0 18) = (12 : Int32) then bnv (f_D_gives (((u 0 17) >>> ((16 : Int32) &&& 31)) &&& (31 : Int32)) ((u 0 19) &&& ((u 0 17) &&& (65535 : Int32))) u) (fun u140 => u140) else if (u 0 18) = (13 : Int32) then bnv (f_D_gives (((u 0 17) >>> ((16 : Int32) &&& 31)) &&& (31 : Int32)) ((u 0 19) ||| ((u 0 17) &&& (65535 : Int32))) u) (fun u154 => u154) else if (u 0 18) = (14 : Int32) then bnv (f_D_gives (((u 0 17) >>> ((16 : Int32) &&& 31)) &&& (31 : Int32)) ((u 0 19) ^^^ ((u 0 17) &&& (65535 : Int32))) u) (fun u168 => u168) else bnv (f_D_gives (((u 0 17) >>> ((16 : Int32) &&& 31)) &&& (31 : Int32)) (((u 0 17) &&& (65535 : Int32)) <<< ((16 : Int32) &&& 31)) u) (fun u180 => u180)
def f_D_control (u : St) : St := if (((u 0 17) >>> ((21 : Int32) &&& 31)) &&& (31 : Int32)) = (0 : Int32) then if (((u 0 17) >>> ((11 : Int32) &&& 31)) &&& (31 : Int32)) = (12 : Int32) then sU (sU u 0 24 (((u 0 17) >>> ((16 : Int32) &&& 31)) &&& (31 : Int32))) 0 25 (u 0 5) else if (((u 0 17) >>> ((11 : Int32) &&& 31)) &&& (31 : Int32)) = (13 : Int32) then sU (sU u 0 24 (((u 0 17) >>> ((16 : Int32) &&& 31)) &&& (31 : Int32))) 0 25 (f_D_cause (sU u 0 24 (((u 0 17) >>> ((16 : Int32) &&& 31)) &&& (31 : Int32)))) else if (((u 0 17) >>> ((11 : Int32) &&& 31)) &&& (31 : Int32)) = (14 : Int32) then sU (sU u 0 24 (((u 0 17) >>> ((16 : Int32) &&& 31)) &&& (31 : Int32))) 0 25 (u 0 10) else if (((u 0 17) >>> ((11 : Int32) &&& 31)) &&& (31 : Int32)) = (8 : Int32) then sU (sU u 0 24 (((u 0 17) >>> ((16 : Int32) &&& 31)) &&& (31 : Int32))) 0 25 (u 0 11) else sU (sU u 0 24 (((u 0 17) >>> ((16 : Int32) &&& 31)) &&& (31 : Int32))) 0 25 (0 : Int32) else if (((u 0 17) >>> ((21 : Int32) &&& 31)) &&& (31 : Int32)) = (16 : Int32) then sU u 0 5 (((u 0 5) &&& (-16 : Int32)) ||| (((u 0 5) >>> ((2 : Int32) &&& 31)) &&& (15 : Int32))) else if (((u 0 17) >>> ((11 : Int32) &&& 31)) &&& (31 : Int32)) = (12 : Int32) then sU u 0 5 ((u 0 20) &&& (65343 : Int32)) else if (((u 0 17) >>> ((11 : Int32) &&& 31)) &&& (31 : Int32)) = (13 : Int32) then sU u 0 7 (((u 0 20) >>> ((8 : Int32) &&& 31)) &&& (3 : Int32)) else if (((u 0 17) >>> ((11 : Int32) &&& 31)) &&& (31 : Int32)) = (14 : Int32) then sU u 0 10 (u 0 20) else u
def f_D_part_b88 (x2 : Int32) (x3 : Int32) (x4 : Int32) (x5 : Int32) (x6 : Int32) (y0 : Int32) (u : St) : Option (St) := if (u 0 18) = (34 : Int32) then if y0 = (0 : Int32) then some (sU (sU u 0 24 x2) 0 25 x6) else some (sU (sU u 0 24 x2) 0 25 ((x6 <<< (y0 &&& 31)) ||| (x5 &&& (((1 : Int32) <<< (y0 &&& 31)) - (1 : Int32))))) else if (u 0 18) = (38 : Int32) then if y0 = (0 : Int32) then some (sU (sU u 0 24 x2) 0 25 x6) else some (sU (sU u 0 24 x2) 0 25 ((ush x6 y0) ||| (x5 &&& ((-1 : Int32) <<< (((32 : Int32) - y0) &&& 31))))) else if (u 0 18) = (42 : Int32) then obv (f_D_store (x3 + x4) ((4 : Int32) - x4) (ush (u 0 20) y0) u) (fun u208 => some (u208)) else obv (f_D_store x3 (x4 + (1 : Int32)) (u 0 20) u) (fun u224 => some (u224))
def f_D_part_b73 (x2 : Int32) (x3 : Int32) (x4 : Int32) (x5 : Int32) (x6 : Int32) (u : St) : Option (St) := f_D_part_b88 x2 x3 x4 x5 x6 ((8 : Int32) * x4) u
def f_D_part_b45 (x2 : Int32) (x3 : Int32) (x4 : Int32) (y0 : Int32) (u : St) : Option (St) := obv (f_D_load x3 (4 : Int32) u) (fun r50 => if (u 0 18) = (34 : Int32) then f_D_part_b73 x2 x3 x4 y0 r50 u else if (u 0 18) = (42 : Int32) then f_D_part_b73 x2 x3 x4 y0 r50 u else f_D_part_b88 x2 x3 x4 y0 r50 ((8 : Int32) * ((3 : Int32) - x4)) u)
def f_D_part (a1 : Int32) (u : St) : Option (St) := if (u 0 13) = (((u 0 17) >>> ((16 : Int32) &&& 31)) &&& (31 : Int32)) then f_D_part_b45 (((u 0 17) >>> ((16 : Int32) &&& 31)) &&& (31 : Int32)) ((a1 &&& (536870911 : Int32)) &&& (-4 : Int32)) (a1 &&& (3 : Int32)) (u 0 14) u else if inb (((u 0 17) >>> ((16 : Int32) &&& 31)) &&& (31 : Int32)) 34 then f_D_part_b45 (((u 0 17) >>> ((16 : Int32) &&& 31)) &&& (31 : Int32)) ((a1 &&& (536870911 : Int32)) &&& (-4 : Int32)) (a1 &&& (3 : Int32)) ((u 2) (((u 0 17) >>> ((16 : Int32) &&& 31)) &&& (31 : Int32)).toNatClampNeg) u else none
def f_D_memory (u : St) : Option (St) := if (zb (f_D_isPart u)) = (0 : Int32) then if (u 0 18) < (40 : Int32) then obv (f_D_load (((u 0 19) + (f_D_number u)) &&& (536870911 : Int32)) (f_D_moved u) u) (fun r56 => if (u 0 18) = (32 : Int32) then some (sU (sU u 0 24 (((u 0 17) >>> ((16 : Int32) &&& 31)) &&& (31 : Int32))) 0 25 ((r56 <<< ((24 : Int32) &&& 31)) >>> ((24 : Int32) &&& 31))) else if (u 0 18) = (33 : Int32) then some (sU (sU u 0 24 (((u 0 17) >>> ((16 : Int32) &&& 31)) &&& (31 : Int32))) 0 25 ((r56 <<< ((16 : Int32) &&& 31)) >>> ((16 : Int32) &&& 31))) else some (sU (sU u 0 24 (((u 0 17) >>> ((16 : Int32) &&& 31)) &&& (31 : Int32))) 0 25 r56)) else obv (f_D_store (((u 0 19) + (f_D_number u)) &&& (536870911 : Int32)) (f_D_moved u) (u 0 20) u) (fun u49 => some (u49)) else obv (f_D_part ((u 0 19) + (f_D_number u)) u) (fun u19 => some (u19))
def f_D_act (u : St) : Option (St) := if (u 0 18) = (0 : Int32) then obv (f_D_byRegisters u) (fun u8 => some (u8)) else if (8 : Int32) ≤ (u 0 18) then if (16 : Int32) ≤ (u 0 18) then if (u 0 18) = (16 : Int32) then bnv (f_D_control u) (fun u56 => some (u56)) else obv (f_D_memory u) (fun u63 => some (u63)) else bnv (f_D_byNumber u) (fun u40 => some (u40)) else bnv (f_D_branch u) (fun u24 => some (u24))
def f_D_settle_b20 (u : St) : Option (St) := some (sU (sU u 0 13 (-1 : Int32)) 0 14 (0 : Int32))
def f_D_settle (u : St) : Option (St) := if (u 0 13) ≤ (0 : Int32) then f_D_settle_b20 u else if inb (u 0 13) 34 then f_D_settle_b20 (sU u 2 ((u 0 13).toNatClampNeg) (u 0 14)) else none
def f_D_except_b21 (x1 : Int32) (y0 : Int32) (u : St) : Option (St) := obv (f_D_settle (sU (sU (sU (sU (sU (sU (sU (sU u 0 10 y0) 0 9 (u 0 12)) 0 6 x1) 0 5 (((u 0 5) &&& (-64 : Int32)) ||| (((u 0 5) <<< ((2 : Int32) &&& 31)) &&& (60 : Int32)))) 0 3 (-2147483520 : Int32)) 0 4 ((-2147483520 : Int32) + (4 : Int32))) 0 12 (0 : Int32)) 0 16 ((u 0 16) + (1 : Int32)))) (fun u90 => some (u90))
def f_D_except (a1 : Int32) (u : St) : Option (St) := if (zb (u 0 12)) = (0 : Int32) then f_D_except_b21 a1 (u 0 3) u else f_D_except_b21 a1 ((u 0 3) - (4 : Int32)) u
def f_D_fetch_b23 (u : St) : Int32 × St := ((4 : Int32), sU u 0 11 (u 0 3))
def f_D_fetch_b33 (u : St) : Int32 × St := if (zb (f_D_inMemory (u 0 3) (4 : Int32))) = (0 : Int32) then ((6 : Int32), u) else ((0 : Int32), u)
def f_D_fetch (u : St) : Int32 × St := if ((u 0 3) &&& (3 : Int32)) = (0 : Int32) then if (0 : Int32) ≤ (u 0 3) then f_D_fetch_b33 u else if (zb (f_D_user u)) = (0 : Int32) then f_D_fetch_b33 u else f_D_fetch_b23 u else f_D_fetch_b23 u
def f_D_read (u : St) : Option (St) := obv (f_D_load ((u 0 3) &&& (536870911 : Int32)) (4 : Int32) u) (fun r10 => some (sU (sU (sU (sU (sU (sU (sU (sU (sU u 0 17 r10) 0 18 (ush r10 (26 : Int32))) 0 19 ((u 2) ((r10 >>> ((21 : Int32) &&& 31)) &&& (31 : Int32)).toNatClampNeg)) 0 20 ((u 2) ((r10 >>> ((16 : Int32) &&& 31)) &&& (31 : Int32)).toNatClampNeg)) 0 21 (r10 &&& (63 : Int32))) 0 22 (-1 : Int32)) 0 24 (-1 : Int32)) 0 25 (0 : Int32)) 0 26 ((u 0 4) + (4 : Int32))))
def f_D_oneStep_b106 (u : St) : Option (Int32 × St) := some (((0 : Int32), sU (sU (sU (sU (sU u 0 13 (u 0 24)) 0 14 (u 0 25)) 0 12 (f_D_isBranch (sU (sU u 0 13 (u 0 24)) 0 14 (u 0 25)))) 0 3 (u 0 4)) 0 4 (u 0 26)))
def f_D_oneStep_b67 (x1 : Int32) (u : St) : Option (Int32 × St) := if x1 ≤ (0 : Int32) then obv (f_D_act u) (fun u79 => obv (f_D_settle u79) (fun u83 => if (u83 0 22) ≤ (0 : Int32) then f_D_oneStep_b106 u83 else if inb (u83 0 22) 34 then f_D_oneStep_b106 (sU u83 2 ((u83 0 22).toNatClampNeg) (u83 0 23)) else none)) else obv (f_D_except x1 u) (fun u73 => some (((1 : Int32), u73)))
def f_D_oneStep_b49 (u : St) : Option (Int32 × St) := bnd (f_D_fetch u) (fun r50 u50 => if r50 = (0 : Int32) then obv (f_D_read u50) (fun u59 => bnd (f_D_trouble u59) (fun r63 u63 => f_D_oneStep_b67 r63 u63)) else f_D_oneStep_b67 r50 u50)
def f_D_oneStep (u : St) : Option (Int32 × St) := if ((u 0 5) &&& (1 : Int32)) = (1 : Int32) then if ((((f_D_cause (sU u 0 15 ((u 0 15) + (1 : Int32)))) >>> ((8 : Int32) &&& 31)) &&& ((u 0 5) >>> ((8 : Int32) &&& 31))) &&& (255 : Int32)) = (0 : Int32) then f_D_oneStep_b49 (sU u 0 15 ((u 0 15) + (1 : Int32))) else obv (f_D_except (0 : Int32) (sU u 0 15 ((u 0 15) + (1 : Int32)))) (fun u44 => some (((2 : Int32), u44))) else f_D_oneStep_b49 (sU u 0 15 ((u 0 15) + (1 : Int32)))
def f_D_step (u : St) : Option (Int32 × St) := obn (f_D_oneStep (sU u 0 0 (0 : Int32))) (fun r6 u6 => some ((r6, u6)))
def f_D_run_b29 : Nat → Int32 → Int32 → Int32 → St → Option (Int32 × St)
  | 0 => fun _ _ _ _ => none
  | n + 1 => fun x1 x2 x3 u => if x1 ≤ x3 then some ((x2, u)) else obn (f_D_oneStep u) (fun r35 u35 => if r35 ≤ (0 : Int32) then f_D_run_b29 n x1 x2 (x3 + (1 : Int32)) u35 else f_D_run_b29 n x1 (x2 + (1 : Int32)) (x3 + (1 : Int32)) u35)
theorem f_D_run_b29_s (n : Nat) (x1 : Int32) (x2 : Int32) (x3 : Int32) (u : St) : f_D_run_b29 (n + 1) x1 x2 x3 u = (if x1 ≤ x3 then some ((x2, u)) else obn (f_D_oneStep u) (fun r35 u35 => if r35 ≤ (0 : Int32) then f_D_run_b29 n x1 x2 (x3 + (1 : Int32)) u35 else f_D_run_b29 n x1 (x2 + (1 : Int32)) (x3 + (1 : Int32)) u35)) := rfl
def f_D_run_b17 (x1 : Int32) (y0 : Int32) (u : St) : Option (Int32 × St) := bnd (f_D_goes y0 u) (fun r17 u17 => if (zb r17) = (0 : Int32) then some (((0 : Int32), u17)) else f_D_run_b29 fuel x1 (0 : Int32) (0 : Int32) u17)
def f_D_run_b16 (x1 : Int32) (u : St) : Option (Int32 × St) := f_D_run_b17 x1 (0 : Int32) u
def f_D_run (a1 : Int32) (u : St) : Option (Int32 × St) := if a1 < (0 : Int32) then f_D_run_b16 a1 u else if (5000 : Int32) < a1 then f_D_run_b16 a1 u else f_D_run_b17 a1 (1 : Int32) u
def f_D_look_b16 (x1 : Int32) (y0 : Int32) (u : St) : Int32 × St := bnd (f_D_goes y0 u) (fun r16 u16 => if (zb r16) = (0 : Int32) then ((0 : Int32), u16) else if x1 = (0 : Int32) then (u16 0 3, u16) else if x1 = (1 : Int32) then (u16 0 4, u16) else if x1 = (2 : Int32) then (u16 0 5, u16) else if x1 = (3 : Int32) then (f_D_cause u16, u16) else if x1 = (4 : Int32) then (u16 0 10, u16) else if x1 = (5 : Int32) then (u16 0 11, u16) else if x1 = (6 : Int32) then if (zb (u16 0 12)) = (0 : Int32) then ((0 : Int32), u16) else ((1 : Int32), u16) else if x1 = (7 : Int32) then (u16 0 13, u16) else if x1 = (8 : Int32) then (u16 0 14, u16) else if x1 = (9 : Int32) then (u16 0 15, u16) else (u16 0 16, u16))
def f_D_look_b15 (x1 : Int32) (u : St) : Int32 × St := f_D_look_b16 x1 (0 : Int32) u
def f_D_look (a1 : Int32) (u : St) : Int32 × St := if a1 < (0 : Int32) then f_D_look_b15 a1 u else if (10 : Int32) < a1 then f_D_look_b15 a1 u else f_D_look_b16 a1 (1 : Int32) u
theorem my_idx (x : Int32) : vp_in (f_M_indexOf x) 1024 := by
  unfold f_M_indexOf
  exact pk_andIn (k := 10) _ (by decide) (by decide)
theorem my_in34 {x : Int32} (h1 : ¬ x < 0) (h2 : ¬ 34 ≤ x) : vp_in x 34 := by
  rw [vp_in_iff]
  rw [Int32.lt_iff_toInt_lt] at h1
  rw [Int32.le_iff_toInt_le] at h2
  have e0 : (0 : Int32).toInt = 0 := rfl
  have e1 : (34 : Int32).toInt = 34 := rfl
  omega
theorem my_in34p {x : Int32} (h1 : ¬ x ≤ 0) (h2 : ¬ 34 ≤ x) : vp_in x 34 := by
  rw [vp_in_iff]
  rw [Int32.le_iff_toInt_le] at h1 h2
  have e0 : (0 : Int32).toInt = 0 := rfl
  have e1 : (34 : Int32).toInt = 34 := rfl
  omega
theorem my_c34 {x : Int32} (h : inb x 34 = true) : vp_in x 34 := by
  rw [vp_in_iff]
  simp [inb] at h
  exact h
theorem my_and31 (x : Int32) : vp_in (x &&& 31) 34 := by
  have h : vp_in (x &&& 31) 32 := pk_andIn (k := 5) x (by decide) (by decide)
  rw [vp_in_iff] at h ⊢
  omega
theorem my_nz {t : Int32} (h : ¬ t = 0) : ¬ t.toInt64 = 0 := by
  intro e
  apply h
  apply Int32.toInt_inj.mp
  have e2 := congrArg Int64.toInt e
  rw [Int32.toInt_toInt64] at e2
  exact e2
theorem my_nzu {t : Int32} (h : ¬ t = 0) : ¬ f_S_withoutSign t = 0 := by
  intro e
  apply h
  unfold f_S_withoutSign at e
  apply Int32.toBitVec_inj.mp
  have e2 : (BitVec.signExtend 64 t.toBitVec &&& 4294967295#64) = 0#64 := congrArg Int64.toBitVec e
  apply BitVec.eq_of_getLsbD_eq
  intro i hi
  have e3 := congrArg (fun b => b.getLsbD i) e2
  have e4 : (4294967295#64).getLsbD i = true := (by decide +kernel : ∀ i, i < 32 → (4294967295#64).getLsbD i = true) i hi
  simp only [BitVec.getLsbD_and, e4, BitVec.getLsbD_signExtend] at e3
  have h64 : i < 64 := by omega
  simpa [hi, h64] using e3
end
section
theorem nd_S_init_0 : decode nc_S_init 0 = .ok (.aload_n 0, 1) := by decide +kernel
theorem nd_S_init_1 : decode nc_S_init 1 = .ok (.invokespecial 3, 3) := by decide +kernel
theorem nd_S_init_4 : decode nc_S_init 4 = .ok (.aload_n 0, 1) := by decide +kernel
theorem nd_S_init_5 : decode nc_S_init 5 = .ok (.new 9, 3) := by decide +kernel
theorem nd_S_init_8 : decode nc_S_init 8 = .ok (.dup, 1) := by decide +kernel
theorem nd_S_init_9 : decode nc_S_init 9 = .ok (.invokespecial 11, 3) := by decide +kernel
theorem nd_S_init_12 : decode nc_S_init 12 = .ok (.putfield 12, 3) := by decide +kernel
theorem nd_S_init_15 : decode nc_S_init 15 = .ok (.aload_n 0, 1) := by decide +kernel
theorem nd_S_init_16 : decode nc_S_init 16 = .ok (.new 16, 3) := by decide +kernel
theorem nd_S_init_19 : decode nc_S_init 19 = .ok (.dup, 1) := by decide +kernel
theorem nd_S_init_20 : decode nc_S_init 20 = .ok (.invokespecial 18, 3) := by decide +kernel
theorem nd_S_init_23 : decode nc_S_init 23 = .ok (.putfield 19, 3) := by decide +kernel
theorem nd_S_init_26 : decode nc_S_init 26 = .ok (.aload_n 0, 1) := by decide +kernel
theorem nd_S_init_27 : decode nc_S_init 27 = .ok (.new 23, 3) := by decide +kernel
theorem nd_S_init_30 : decode nc_S_init 30 = .ok (.dup, 1) := by decide +kernel
theorem nd_S_init_31 : decode nc_S_init 31 = .ok (.invokespecial 25, 3) := by decide +kernel
theorem nd_S_init_34 : decode nc_S_init 34 = .ok (.putfield 26, 3) := by decide +kernel
theorem nd_S_init_37 : decode nc_S_init 37 = .ok (.aload_n 0, 1) := by decide +kernel
theorem nd_S_init_38 : decode nc_S_init 38 = .ok (.new 30, 3) := by decide +kernel
theorem nd_S_init_41 : decode nc_S_init 41 = .ok (.dup, 1) := by decide +kernel
theorem nd_S_init_42 : decode nc_S_init 42 = .ok (.invokespecial 32, 3) := by decide +kernel
theorem nd_S_init_45 : decode nc_S_init 45 = .ok (.putfield 33, 3) := by decide +kernel
theorem nd_S_init_48 : decode nc_S_init 48 = .ok (.aload_n 0, 1) := by decide +kernel
theorem nd_S_init_49 : decode nc_S_init 49 = .ok (.iconst 4, 1) := by decide +kernel
theorem nd_S_init_50 : decode nc_S_init 50 = .ok (.putfield 37, 3) := by decide +kernel
theorem nd_S_init_53 : decode nc_S_init 53 = .ok (.return_, 1) := by decide +kernel
theorem nd_S_reset_0 : decode nc_S_reset 0 = .ok (.aload_n 0, 1) := by decide +kernel
theorem nd_S_reset_1 : decode nc_S_reset 1 = .ok (.getfield 19, 3) := by decide +kernel
theorem nd_S_reset_4 : decode nc_S_reset 4 = .ok (.invokevirtual 41, 3) := by decide +kernel
theorem nd_S_reset_7 : decode nc_S_reset 7 = .ok (.aload_n 0, 1) := by decide +kernel
theorem nd_S_reset_8 : decode nc_S_reset 8 = .ok (.getfield 26, 3) := by decide +kernel
theorem nd_S_reset_11 : decode nc_S_reset 11 = .ok (.invokevirtual 44, 3) := by decide +kernel
theorem nd_S_reset_14 : decode nc_S_reset 14 = .ok (.aload_n 0, 1) := by decide +kernel
theorem nd_S_reset_15 : decode nc_S_reset 15 = .ok (.iconst 0, 1) := by decide +kernel
theorem nd_S_reset_16 : decode nc_S_reset 16 = .ok (.invokevirtual 45, 3) := by decide +kernel
theorem nd_S_reset_19 : decode nc_S_reset 19 = .ok (.aload_n 0, 1) := by decide +kernel
theorem nd_S_reset_20 : decode nc_S_reset 20 = .ok (.iconst 0, 1) := by decide +kernel
theorem nd_S_reset_21 : decode nc_S_reset 21 = .ok (.putfield 49, 3) := by decide +kernel
theorem nd_S_reset_24 : decode nc_S_reset 24 = .ok (.aload_n 0, 1) := by decide +kernel
theorem nd_S_reset_25 : decode nc_S_reset 25 = .ok (.iconst 0, 1) := by decide +kernel
theorem nd_S_reset_26 : decode nc_S_reset 26 = .ok (.putfield 52, 3) := by decide +kernel
theorem nd_S_reset_29 : decode nc_S_reset 29 = .ok (.return_, 1) := by decide +kernel
theorem nd_S_put_0 : decode nc_S_put 0 = .ok (.iload_n 1, 1) := by decide +kernel
theorem nd_S_put_1 : decode nc_S_put 1 = .ok (.invokestatic 55, 3) := by decide +kernel
theorem nd_S_put_4 : decode nc_S_put 4 = .ok (.ifCond .ne 11, 3) := by decide +kernel
theorem nd_S_put_7 : decode nc_S_put 7 = .ok (.new 59, 3) := by decide +kernel
theorem nd_S_put_10 : decode nc_S_put 10 = .ok (.dup, 1) := by decide +kernel
theorem nd_S_put_11 : decode nc_S_put 11 = .ok (.invokespecial 61, 3) := by decide +kernel
theorem nd_S_put_14 : decode nc_S_put 14 = .ok (.athrow, 1) := by decide +kernel
theorem nd_S_put_15 : decode nc_S_put 15 = .ok (.aload_n 0, 1) := by decide +kernel
theorem nd_S_put_16 : decode nc_S_put 16 = .ok (.getfield 12, 3) := by decide +kernel
theorem nd_S_put_19 : decode nc_S_put 19 = .ok (.iload_n 1, 1) := by decide +kernel
theorem nd_S_put_20 : decode nc_S_put 20 = .ok (.invokevirtual 62, 3) := by decide +kernel
theorem nd_S_put_23 : decode nc_S_put 23 = .ok (.istore_n 3, 1) := by decide +kernel
theorem nd_S_put_24 : decode nc_S_put 24 = .ok (.aload_n 0, 1) := by decide +kernel
theorem nd_S_put_25 : decode nc_S_put 25 = .ok (.getfield 12, 3) := by decide +kernel
theorem nd_S_put_28 : decode nc_S_put 28 = .ok (.iload_n 1, 1) := by decide +kernel
theorem nd_S_put_29 : decode nc_S_put 29 = .ok (.iload_n 2, 1) := by decide +kernel
theorem nd_S_put_30 : decode nc_S_put 30 = .ok (.invokevirtual 66, 3) := by decide +kernel
theorem nd_S_put_33 : decode nc_S_put 33 = .ok (.iload_n 3, 1) := by decide +kernel
theorem nd_S_put_34 : decode nc_S_put 34 = .ok (.ireturn, 1) := by decide +kernel
theorem nd_S_word_0 : decode nc_S_word 0 = .ok (.iload_n 1, 1) := by decide +kernel
theorem nd_S_word_1 : decode nc_S_word 1 = .ok (.invokestatic 55, 3) := by decide +kernel
theorem nd_S_word_4 : decode nc_S_word 4 = .ok (.ifCond .ne 11, 3) := by decide +kernel
theorem nd_S_word_7 : decode nc_S_word 7 = .ok (.new 59, 3) := by decide +kernel
theorem nd_S_word_10 : decode nc_S_word 10 = .ok (.dup, 1) := by decide +kernel
theorem nd_S_word_11 : decode nc_S_word 11 = .ok (.invokespecial 61, 3) := by decide +kernel
theorem nd_S_word_14 : decode nc_S_word 14 = .ok (.athrow, 1) := by decide +kernel
theorem nd_S_word_15 : decode nc_S_word 15 = .ok (.aload_n 0, 1) := by decide +kernel
theorem nd_S_word_16 : decode nc_S_word 16 = .ok (.getfield 12, 3) := by decide +kernel
theorem nd_S_word_19 : decode nc_S_word 19 = .ok (.iload_n 1, 1) := by decide +kernel
theorem nd_S_word_20 : decode nc_S_word 20 = .ok (.invokevirtual 62, 3) := by decide +kernel
theorem nd_S_word_23 : decode nc_S_word 23 = .ok (.ireturn, 1) := by decide +kernel
theorem nd_S_set_0 : decode nc_S_set 0 = .ok (.iload_n 1, 1) := by decide +kernel
theorem nd_S_set_1 : decode nc_S_set 1 = .ok (.ifCond .lt 9, 3) := by decide +kernel
theorem nd_S_set_4 : decode nc_S_set 4 = .ok (.iload_n 1, 1) := by decide +kernel
theorem nd_S_set_5 : decode nc_S_set 5 = .ok (.bipush 34, 2) := by decide +kernel
theorem nd_S_set_7 : decode nc_S_set 7 = .ok (.if_icmp .lt 11, 3) := by decide +kernel
theorem nd_S_set_10 : decode nc_S_set 10 = .ok (.new 59, 3) := by decide +kernel
theorem nd_S_set_13 : decode nc_S_set 13 = .ok (.dup, 1) := by decide +kernel
theorem nd_S_set_14 : decode nc_S_set 14 = .ok (.invokespecial 61, 3) := by decide +kernel
theorem nd_S_set_17 : decode nc_S_set 17 = .ok (.athrow, 1) := by decide +kernel
theorem nd_S_set_18 : decode nc_S_set 18 = .ok (.aload_n 0, 1) := by decide +kernel
theorem nd_S_set_19 : decode nc_S_set 19 = .ok (.getfield 19, 3) := by decide +kernel
theorem nd_S_set_22 : decode nc_S_set 22 = .ok (.iload_n 1, 1) := by decide +kernel
theorem nd_S_set_23 : decode nc_S_set 23 = .ok (.invokevirtual 70, 3) := by decide +kernel
theorem nd_S_set_26 : decode nc_S_set 26 = .ok (.istore_n 3, 1) := by decide +kernel
theorem nd_S_set_27 : decode nc_S_set 27 = .ok (.aload_n 0, 1) := by decide +kernel
theorem nd_S_set_28 : decode nc_S_set 28 = .ok (.getfield 19, 3) := by decide +kernel
theorem nd_S_set_31 : decode nc_S_set 31 = .ok (.iload_n 1, 1) := by decide +kernel
theorem nd_S_set_32 : decode nc_S_set 32 = .ok (.iload_n 2, 1) := by decide +kernel
theorem nd_S_set_33 : decode nc_S_set 33 = .ok (.invokevirtual 73, 3) := by decide +kernel
theorem nd_S_set_36 : decode nc_S_set 36 = .ok (.iload_n 3, 1) := by decide +kernel
theorem nd_S_set_37 : decode nc_S_set 37 = .ok (.ireturn, 1) := by decide +kernel
theorem nd_S_register_0 : decode nc_S_register 0 = .ok (.iload_n 1, 1) := by decide +kernel
theorem nd_S_register_1 : decode nc_S_register 1 = .ok (.ifCond .lt 9, 3) := by decide +kernel
theorem nd_S_register_4 : decode nc_S_register 4 = .ok (.iload_n 1, 1) := by decide +kernel
theorem nd_S_register_5 : decode nc_S_register 5 = .ok (.bipush 34, 2) := by decide +kernel
theorem nd_S_register_7 : decode nc_S_register 7 = .ok (.if_icmp .lt 11, 3) := by decide +kernel
theorem nd_S_register_10 : decode nc_S_register 10 = .ok (.new 59, 3) := by decide +kernel
theorem nd_S_register_13 : decode nc_S_register 13 = .ok (.dup, 1) := by decide +kernel
theorem nd_S_register_14 : decode nc_S_register 14 = .ok (.invokespecial 61, 3) := by decide +kernel
theorem nd_S_register_17 : decode nc_S_register 17 = .ok (.athrow, 1) := by decide +kernel
theorem nd_S_register_18 : decode nc_S_register 18 = .ok (.aload_n 0, 1) := by decide +kernel
theorem nd_S_register_19 : decode nc_S_register 19 = .ok (.getfield 19, 3) := by decide +kernel
theorem nd_S_register_22 : decode nc_S_register 22 = .ok (.iload_n 1, 1) := by decide +kernel
theorem nd_S_register_23 : decode nc_S_register 23 = .ok (.invokevirtual 70, 3) := by decide +kernel
theorem nd_S_register_26 : decode nc_S_register 26 = .ok (.ireturn, 1) := by decide +kernel
theorem nd_S_go_0 : decode nc_S_go 0 = .ok (.aload_n 0, 1) := by decide +kernel
theorem nd_S_go_1 : decode nc_S_go 1 = .ok (.getfield 76, 3) := by decide +kernel
theorem nd_S_go_4 : decode nc_S_go 4 = .ok (.istore_n 2, 1) := by decide +kernel
theorem nd_S_go_5 : decode nc_S_go 5 = .ok (.aload_n 0, 1) := by decide +kernel
theorem nd_S_go_6 : decode nc_S_go 6 = .ok (.getfield 19, 3) := by decide +kernel
theorem nd_S_go_9 : decode nc_S_go 9 = .ok (.invokevirtual 79, 3) := by decide +kernel
theorem nd_S_go_12 : decode nc_S_go 12 = .ok (.aload_n 0, 1) := by decide +kernel
theorem nd_S_go_13 : decode nc_S_go 13 = .ok (.iload_n 1, 1) := by decide +kernel
theorem nd_S_go_14 : decode nc_S_go 14 = .ok (.invokevirtual 45, 3) := by decide +kernel
theorem nd_S_go_17 : decode nc_S_go 17 = .ok (.iload_n 2, 1) := by decide +kernel
theorem nd_S_go_18 : decode nc_S_go 18 = .ok (.ireturn, 1) := by decide +kernel
theorem nd_S_status_0 : decode nc_S_status 0 = .ok (.aload_n 0, 1) := by decide +kernel
theorem nd_S_status_1 : decode nc_S_status 1 = .ok (.getfield 26, 3) := by decide +kernel
theorem nd_S_status_4 : decode nc_S_status 4 = .ok (.getfield 82, 3) := by decide +kernel
theorem nd_S_status_7 : decode nc_S_status 7 = .ok (.istore_n 2, 1) := by decide +kernel
theorem nd_S_status_8 : decode nc_S_status 8 = .ok (.aload_n 0, 1) := by decide +kernel
theorem nd_S_status_9 : decode nc_S_status 9 = .ok (.getfield 26, 3) := by decide +kernel
theorem nd_S_status_12 : decode nc_S_status 12 = .ok (.bipush 12, 2) := by decide +kernel
theorem nd_S_status_14 : decode nc_S_status 14 = .ok (.iload_n 1, 1) := by decide +kernel
theorem nd_S_status_15 : decode nc_S_status 15 = .ok (.invokevirtual 85, 3) := by decide +kernel
theorem nd_S_status_18 : decode nc_S_status 18 = .ok (.iload_n 2, 1) := by decide +kernel
theorem nd_S_status_19 : decode nc_S_status 19 = .ok (.ireturn, 1) := by decide +kernel
theorem nd_S_lines_0 : decode nc_S_lines 0 = .ok (.iload_n 1, 1) := by decide +kernel
theorem nd_S_lines_1 : decode nc_S_lines 1 = .ok (.ifCond .lt 9, 3) := by decide +kernel
theorem nd_S_lines_4 : decode nc_S_lines 4 = .ok (.iload_n 1, 1) := by decide +kernel
theorem nd_S_lines_5 : decode nc_S_lines 5 = .ok (.bipush 63, 2) := by decide +kernel
theorem nd_S_lines_7 : decode nc_S_lines 7 = .ok (.if_icmp .le 11, 3) := by decide +kernel
theorem nd_S_lines_10 : decode nc_S_lines 10 = .ok (.new 86, 3) := by decide +kernel
theorem nd_S_lines_13 : decode nc_S_lines 13 = .ok (.dup, 1) := by decide +kernel
theorem nd_S_lines_14 : decode nc_S_lines 14 = .ok (.invokespecial 88, 3) := by decide +kernel
theorem nd_S_lines_17 : decode nc_S_lines 17 = .ok (.athrow, 1) := by decide +kernel
theorem nd_S_lines_18 : decode nc_S_lines 18 = .ok (.aload_n 0, 1) := by decide +kernel
theorem nd_S_lines_19 : decode nc_S_lines 19 = .ok (.getfield 26, 3) := by decide +kernel
theorem nd_S_lines_22 : decode nc_S_lines 22 = .ok (.getfield 89, 3) := by decide +kernel
theorem nd_S_lines_25 : decode nc_S_lines 25 = .ok (.istore_n 2, 1) := by decide +kernel
theorem nd_S_lines_26 : decode nc_S_lines 26 = .ok (.aload_n 0, 1) := by decide +kernel
theorem nd_S_lines_27 : decode nc_S_lines 27 = .ok (.getfield 26, 3) := by decide +kernel
theorem nd_S_lines_30 : decode nc_S_lines 30 = .ok (.iload_n 1, 1) := by decide +kernel
theorem nd_S_lines_31 : decode nc_S_lines 31 = .ok (.putfield 89, 3) := by decide +kernel
theorem nd_S_lines_34 : decode nc_S_lines 34 = .ok (.iload_n 2, 1) := by decide +kernel
theorem nd_S_lines_35 : decode nc_S_lines 35 = .ok (.ireturn, 1) := by decide +kernel
theorem nd_S_step_0 : decode nc_S_step 0 = .ok (.aload_n 0, 1) := by decide +kernel
theorem nd_S_step_1 : decode nc_S_step 1 = .ok (.invokevirtual 92, 3) := by decide +kernel
theorem nd_S_step_4 : decode nc_S_step 4 = .ok (.ireturn, 1) := by decide +kernel
theorem nd_S_run_0 : decode nc_S_run 0 = .ok (.iload_n 1, 1) := by decide +kernel
theorem nd_S_run_1 : decode nc_S_run 1 = .ok (.ifCond .lt 10, 3) := by decide +kernel
theorem nd_S_run_4 : decode nc_S_run 4 = .ok (.iload_n 1, 1) := by decide +kernel
theorem nd_S_run_5 : decode nc_S_run 5 = .ok (.sipush 5000, 3) := by decide +kernel
theorem nd_S_run_8 : decode nc_S_run 8 = .ok (.if_icmp .le 11, 3) := by decide +kernel
theorem nd_S_run_11 : decode nc_S_run 11 = .ok (.new 86, 3) := by decide +kernel
theorem nd_S_run_14 : decode nc_S_run 14 = .ok (.dup, 1) := by decide +kernel
theorem nd_S_run_15 : decode nc_S_run 15 = .ok (.invokespecial 88, 3) := by decide +kernel
theorem nd_S_run_18 : decode nc_S_run 18 = .ok (.athrow, 1) := by decide +kernel
theorem nd_S_run_19 : decode nc_S_run 19 = .ok (.aload_n 0, 1) := by decide +kernel
theorem nd_S_run_20 : decode nc_S_run 20 = .ok (.getfield 52, 3) := by decide +kernel
theorem nd_S_run_23 : decode nc_S_run 23 = .ok (.istore_n 2, 1) := by decide +kernel
theorem nd_S_run_24 : decode nc_S_run 24 = .ok (.iconst 0, 1) := by decide +kernel
theorem nd_S_run_25 : decode nc_S_run 25 = .ok (.istore_n 3, 1) := by decide +kernel
theorem nd_S_run_26 : decode nc_S_run 26 = .ok (.iload_n 3, 1) := by decide +kernel
theorem nd_S_run_27 : decode nc_S_run 27 = .ok (.iload_n 1, 1) := by decide +kernel
theorem nd_S_run_28 : decode nc_S_run 28 = .ok (.if_icmp .ge 14, 3) := by decide +kernel
theorem nd_S_run_31 : decode nc_S_run 31 = .ok (.aload_n 0, 1) := by decide +kernel
theorem nd_S_run_32 : decode nc_S_run 32 = .ok (.invokevirtual 92, 3) := by decide +kernel
theorem nd_S_run_35 : decode nc_S_run 35 = .ok (.pop, 1) := by decide +kernel
theorem nd_S_run_36 : decode nc_S_run 36 = .ok (.iinc 3 1, 3) := by decide +kernel
theorem nd_S_run_39 : decode nc_S_run 39 = .ok (.goto (-13), 3) := by decide +kernel
theorem nd_S_run_42 : decode nc_S_run 42 = .ok (.aload_n 0, 1) := by decide +kernel
theorem nd_S_run_43 : decode nc_S_run 43 = .ok (.getfield 52, 3) := by decide +kernel
theorem nd_S_run_46 : decode nc_S_run 46 = .ok (.iload_n 2, 1) := by decide +kernel
theorem nd_S_run_47 : decode nc_S_run 47 = .ok (.isub, 1) := by decide +kernel
theorem nd_S_run_48 : decode nc_S_run 48 = .ok (.ireturn, 1) := by decide +kernel
theorem nd_S_look_0 : decode nc_S_look 0 = .ok (.iload_n 1, 1) := by decide +kernel
theorem nd_S_look_1 : decode nc_S_look 1 = .ok (.tableswitch 140 0 10 #[59, 64, 69, 77, 85, 93, 101, 114, 122, 130, 135], 59) := by decide +kernel
theorem nd_S_look_60 : decode nc_S_look 60 = .ok (.aload_n 0, 1) := by decide +kernel
theorem nd_S_look_61 : decode nc_S_look 61 = .ok (.getfield 76, 3) := by decide +kernel
theorem nd_S_look_64 : decode nc_S_look 64 = .ok (.ireturn, 1) := by decide +kernel
theorem nd_S_look_65 : decode nc_S_look 65 = .ok (.aload_n 0, 1) := by decide +kernel
theorem nd_S_look_66 : decode nc_S_look 66 = .ok (.getfield 37, 3) := by decide +kernel
theorem nd_S_look_69 : decode nc_S_look 69 = .ok (.ireturn, 1) := by decide +kernel
theorem nd_S_look_70 : decode nc_S_look 70 = .ok (.aload_n 0, 1) := by decide +kernel
theorem nd_S_look_71 : decode nc_S_look 71 = .ok (.getfield 26, 3) := by decide +kernel
theorem nd_S_look_74 : decode nc_S_look 74 = .ok (.getfield 82, 3) := by decide +kernel
theorem nd_S_look_77 : decode nc_S_look 77 = .ok (.ireturn, 1) := by decide +kernel
theorem nd_S_look_78 : decode nc_S_look 78 = .ok (.aload_n 0, 1) := by decide +kernel
theorem nd_S_look_79 : decode nc_S_look 79 = .ok (.getfield 26, 3) := by decide +kernel
theorem nd_S_look_82 : decode nc_S_look 82 = .ok (.invokevirtual 96, 3) := by decide +kernel
theorem nd_S_look_85 : decode nc_S_look 85 = .ok (.ireturn, 1) := by decide +kernel
theorem nd_S_look_86 : decode nc_S_look 86 = .ok (.aload_n 0, 1) := by decide +kernel
theorem nd_S_look_87 : decode nc_S_look 87 = .ok (.getfield 26, 3) := by decide +kernel
theorem nd_S_look_90 : decode nc_S_look 90 = .ok (.getfield 99, 3) := by decide +kernel
theorem nd_S_look_93 : decode nc_S_look 93 = .ok (.ireturn, 1) := by decide +kernel
theorem nd_S_look_94 : decode nc_S_look 94 = .ok (.aload_n 0, 1) := by decide +kernel
theorem nd_S_look_95 : decode nc_S_look 95 = .ok (.getfield 26, 3) := by decide +kernel
theorem nd_S_look_98 : decode nc_S_look 98 = .ok (.getfield 102, 3) := by decide +kernel
theorem nd_S_look_101 : decode nc_S_look 101 = .ok (.ireturn, 1) := by decide +kernel
theorem nd_S_look_102 : decode nc_S_look 102 = .ok (.aload_n 0, 1) := by decide +kernel
theorem nd_S_look_103 : decode nc_S_look 103 = .ok (.getfield 105, 3) := by decide +kernel
theorem nd_S_look_106 : decode nc_S_look 106 = .ok (.ifCond .eq 7, 3) := by decide +kernel
theorem nd_S_look_109 : decode nc_S_look 109 = .ok (.iconst 1, 1) := by decide +kernel
theorem nd_S_look_110 : decode nc_S_look 110 = .ok (.goto 4, 3) := by decide +kernel
theorem nd_S_look_113 : decode nc_S_look 113 = .ok (.iconst 0, 1) := by decide +kernel
theorem nd_S_look_114 : decode nc_S_look 114 = .ok (.ireturn, 1) := by decide +kernel
theorem nd_S_look_115 : decode nc_S_look 115 = .ok (.aload_n 0, 1) := by decide +kernel
theorem nd_S_look_116 : decode nc_S_look 116 = .ok (.getfield 19, 3) := by decide +kernel
theorem nd_S_look_119 : decode nc_S_look 119 = .ok (.getfield 109, 3) := by decide +kernel
theorem nd_S_look_122 : decode nc_S_look 122 = .ok (.ireturn, 1) := by decide +kernel
theorem nd_S_look_123 : decode nc_S_look 123 = .ok (.aload_n 0, 1) := by decide +kernel
theorem nd_S_look_124 : decode nc_S_look 124 = .ok (.getfield 19, 3) := by decide +kernel
theorem nd_S_look_127 : decode nc_S_look 127 = .ok (.getfield 112, 3) := by decide +kernel
theorem nd_S_look_130 : decode nc_S_look 130 = .ok (.ireturn, 1) := by decide +kernel
theorem nd_S_look_131 : decode nc_S_look 131 = .ok (.aload_n 0, 1) := by decide +kernel
theorem nd_S_look_132 : decode nc_S_look 132 = .ok (.getfield 49, 3) := by decide +kernel
theorem nd_S_look_135 : decode nc_S_look 135 = .ok (.ireturn, 1) := by decide +kernel
theorem nd_S_look_136 : decode nc_S_look 136 = .ok (.aload_n 0, 1) := by decide +kernel
theorem nd_S_look_137 : decode nc_S_look 137 = .ok (.getfield 52, 3) := by decide +kernel
theorem nd_S_look_140 : decode nc_S_look 140 = .ok (.ireturn, 1) := by decide +kernel
theorem nd_S_look_141 : decode nc_S_look 141 = .ok (.new 59, 3) := by decide +kernel
theorem nd_S_look_144 : decode nc_S_look 144 = .ok (.dup, 1) := by decide +kernel
theorem nd_S_look_145 : decode nc_S_look 145 = .ok (.invokespecial 61, 3) := by decide +kernel
theorem nd_S_look_148 : decode nc_S_look 148 = .ok (.athrow, 1) := by decide +kernel
theorem nd_S_isPlaceOfWord_0 : decode nc_S_isPlaceOfWord 0 = .ok (.iload_n 0, 1) := by decide +kernel
theorem nd_S_isPlaceOfWord_1 : decode nc_S_isPlaceOfWord 1 = .ok (.iconst 3, 1) := by decide +kernel
theorem nd_S_isPlaceOfWord_2 : decode nc_S_isPlaceOfWord 2 = .ok (.iand, 1) := by decide +kernel
theorem nd_S_isPlaceOfWord_3 : decode nc_S_isPlaceOfWord 3 = .ok (.ifCond .ne 14, 3) := by decide +kernel
theorem nd_S_isPlaceOfWord_6 : decode nc_S_isPlaceOfWord 6 = .ok (.iload_n 0, 1) := by decide +kernel
theorem nd_S_isPlaceOfWord_7 : decode nc_S_isPlaceOfWord 7 = .ok (.invokestatic 115, 3) := by decide +kernel
theorem nd_S_isPlaceOfWord_10 : decode nc_S_isPlaceOfWord 10 = .ok (.ifCond .eq 7, 3) := by decide +kernel
theorem nd_S_isPlaceOfWord_13 : decode nc_S_isPlaceOfWord 13 = .ok (.iconst 1, 1) := by decide +kernel
theorem nd_S_isPlaceOfWord_14 : decode nc_S_isPlaceOfWord 14 = .ok (.goto 4, 3) := by decide +kernel
theorem nd_S_isPlaceOfWord_17 : decode nc_S_isPlaceOfWord 17 = .ok (.iconst 0, 1) := by decide +kernel
theorem nd_S_isPlaceOfWord_18 : decode nc_S_isPlaceOfWord 18 = .ok (.ireturn, 1) := by decide +kernel
theorem nd_S_isInMemory_0 : decode nc_S_isInMemory 0 = .ok (.iload_n 0, 1) := by decide +kernel
theorem nd_S_isInMemory_1 : decode nc_S_isInMemory 1 = .ok (.ifCond .lt 14, 3) := by decide +kernel
theorem nd_S_isInMemory_4 : decode nc_S_isInMemory 4 = .ok (.iload_n 0, 1) := by decide +kernel
theorem nd_S_isInMemory_5 : decode nc_S_isInMemory 5 = .ok (.sipush 4096, 3) := by decide +kernel
theorem nd_S_isInMemory_8 : decode nc_S_isInMemory 8 = .ok (.if_icmp .ge 7, 3) := by decide +kernel
theorem nd_S_isInMemory_11 : decode nc_S_isInMemory 11 = .ok (.iconst 1, 1) := by decide +kernel
theorem nd_S_isInMemory_12 : decode nc_S_isInMemory 12 = .ok (.goto 4, 3) := by decide +kernel
theorem nd_S_isInMemory_15 : decode nc_S_isInMemory 15 = .ok (.iconst 0, 1) := by decide +kernel
theorem nd_S_isInMemory_16 : decode nc_S_isInMemory 16 = .ok (.ireturn, 1) := by decide +kernel
theorem nd_S_continueAt_0 : decode nc_S_continueAt 0 = .ok (.aload_n 0, 1) := by decide +kernel
theorem nd_S_continueAt_1 : decode nc_S_continueAt 1 = .ok (.iload_n 1, 1) := by decide +kernel
theorem nd_S_continueAt_2 : decode nc_S_continueAt 2 = .ok (.putfield 76, 3) := by decide +kernel
theorem nd_S_continueAt_5 : decode nc_S_continueAt 5 = .ok (.aload_n 0, 1) := by decide +kernel
theorem nd_S_continueAt_6 : decode nc_S_continueAt 6 = .ok (.iload_n 1, 1) := by decide +kernel
theorem nd_S_continueAt_7 : decode nc_S_continueAt 7 = .ok (.iconst 4, 1) := by decide +kernel
theorem nd_S_continueAt_8 : decode nc_S_continueAt 8 = .ok (.iadd, 1) := by decide +kernel
theorem nd_S_continueAt_9 : decode nc_S_continueAt 9 = .ok (.putfield 37, 3) := by decide +kernel
theorem nd_S_continueAt_12 : decode nc_S_continueAt 12 = .ok (.aload_n 0, 1) := by decide +kernel
theorem nd_S_continueAt_13 : decode nc_S_continueAt 13 = .ok (.iconst 0, 1) := by decide +kernel
theorem nd_S_continueAt_14 : decode nc_S_continueAt 14 = .ok (.putfield 105, 3) := by decide +kernel
theorem nd_S_continueAt_17 : decode nc_S_continueAt 17 = .ok (.return_, 1) := by decide +kernel
theorem nd_S_takeStep_0 : decode nc_S_takeStep 0 = .ok (.aload_n 0, 1) := by decide +kernel
theorem nd_S_takeStep_1 : decode nc_S_takeStep 1 = .ok (.dup, 1) := by decide +kernel
theorem nd_S_takeStep_2 : decode nc_S_takeStep 2 = .ok (.getfield 49, 3) := by decide +kernel
theorem nd_S_takeStep_5 : decode nc_S_takeStep 5 = .ok (.iconst 1, 1) := by decide +kernel
theorem nd_S_takeStep_6 : decode nc_S_takeStep 6 = .ok (.iadd, 1) := by decide +kernel
theorem nd_S_takeStep_7 : decode nc_S_takeStep 7 = .ok (.putfield 49, 3) := by decide +kernel
theorem nd_S_takeStep_10 : decode nc_S_takeStep 10 = .ok (.aload_n 0, 1) := by decide +kernel
theorem nd_S_takeStep_11 : decode nc_S_takeStep 11 = .ok (.getfield 26, 3) := by decide +kernel
theorem nd_S_takeStep_14 : decode nc_S_takeStep 14 = .ok (.invokevirtual 118, 3) := by decide +kernel
theorem nd_S_takeStep_17 : decode nc_S_takeStep 17 = .ok (.ifCond .eq 10, 3) := by decide +kernel
theorem nd_S_takeStep_20 : decode nc_S_takeStep 20 = .ok (.aload_n 0, 1) := by decide +kernel
theorem nd_S_takeStep_21 : decode nc_S_takeStep 21 = .ok (.iconst 0, 1) := by decide +kernel
theorem nd_S_takeStep_22 : decode nc_S_takeStep 22 = .ok (.invokevirtual 122, 3) := by decide +kernel
theorem nd_S_takeStep_25 : decode nc_S_takeStep 25 = .ok (.iconst 2, 1) := by decide +kernel
theorem nd_S_takeStep_26 : decode nc_S_takeStep 26 = .ok (.ireturn, 1) := by decide +kernel
theorem nd_S_takeStep_27 : decode nc_S_takeStep 27 = .ok (.aload_n 0, 1) := by decide +kernel
theorem nd_S_takeStep_28 : decode nc_S_takeStep 28 = .ok (.invokevirtual 125, 3) := by decide +kernel
theorem nd_S_takeStep_31 : decode nc_S_takeStep 31 = .ok (.istore_n 1, 1) := by decide +kernel
theorem nd_S_takeStep_32 : decode nc_S_takeStep 32 = .ok (.iload_n 1, 1) := by decide +kernel
theorem nd_S_takeStep_33 : decode nc_S_takeStep 33 = .ok (.iconst (-1), 1) := by decide +kernel
theorem nd_S_takeStep_34 : decode nc_S_takeStep 34 = .ok (.if_icmp .ne 22, 3) := by decide +kernel
theorem nd_S_takeStep_37 : decode nc_S_takeStep 37 = .ok (.aload_n 0, 1) := by decide +kernel
theorem nd_S_takeStep_38 : decode nc_S_takeStep 38 = .ok (.aload_n 0, 1) := by decide +kernel
theorem nd_S_takeStep_39 : decode nc_S_takeStep 39 = .ok (.getfield 12, 3) := by decide +kernel
theorem nd_S_takeStep_42 : decode nc_S_takeStep 42 = .ok (.aload_n 0, 1) := by decide +kernel
theorem nd_S_takeStep_43 : decode nc_S_takeStep 43 = .ok (.getfield 76, 3) := by decide +kernel
theorem nd_S_takeStep_46 : decode nc_S_takeStep 46 = .ok (.ldc 128, 2) := by decide +kernel
theorem nd_S_takeStep_48 : decode nc_S_takeStep 48 = .ok (.iand, 1) := by decide +kernel
theorem nd_S_takeStep_49 : decode nc_S_takeStep 49 = .ok (.invokevirtual 62, 3) := by decide +kernel
theorem nd_S_takeStep_52 : decode nc_S_takeStep 52 = .ok (.invokevirtual 129, 3) := by decide +kernel
theorem nd_S_takeStep_55 : decode nc_S_takeStep 55 = .ok (.istore_n 1, 1) := by decide +kernel
theorem nd_S_takeStep_56 : decode nc_S_takeStep 56 = .ok (.iload_n 1, 1) := by decide +kernel
theorem nd_S_takeStep_57 : decode nc_S_takeStep 57 = .ok (.iconst (-1), 1) := by decide +kernel
theorem nd_S_takeStep_58 : decode nc_S_takeStep 58 = .ok (.if_icmp .eq 10, 3) := by decide +kernel
theorem nd_S_takeStep_61 : decode nc_S_takeStep 61 = .ok (.aload_n 0, 1) := by decide +kernel
theorem nd_S_takeStep_62 : decode nc_S_takeStep 62 = .ok (.iload_n 1, 1) := by decide +kernel
theorem nd_S_takeStep_63 : decode nc_S_takeStep 63 = .ok (.invokevirtual 122, 3) := by decide +kernel
theorem nd_S_takeStep_66 : decode nc_S_takeStep 66 = .ok (.iconst 1, 1) := by decide +kernel
theorem nd_S_takeStep_67 : decode nc_S_takeStep 67 = .ok (.ireturn, 1) := by decide +kernel
theorem nd_S_takeStep_68 : decode nc_S_takeStep 68 = .ok (.aload_n 0, 1) := by decide +kernel
theorem nd_S_takeStep_69 : decode nc_S_takeStep 69 = .ok (.invokevirtual 132, 3) := by decide +kernel
theorem nd_S_takeStep_72 : decode nc_S_takeStep 72 = .ok (.iconst 0, 1) := by decide +kernel
theorem nd_S_takeStep_73 : decode nc_S_takeStep 73 = .ok (.ireturn, 1) := by decide +kernel
theorem nd_S_enterException_0 : decode nc_S_enterException 0 = .ok (.aload_n 0, 1) := by decide +kernel
theorem nd_S_enterException_1 : decode nc_S_enterException 1 = .ok (.dup, 1) := by decide +kernel
theorem nd_S_enterException_2 : decode nc_S_enterException 2 = .ok (.getfield 52, 3) := by decide +kernel
theorem nd_S_enterException_5 : decode nc_S_enterException 5 = .ok (.iconst 1, 1) := by decide +kernel
theorem nd_S_enterException_6 : decode nc_S_enterException 6 = .ok (.iadd, 1) := by decide +kernel
theorem nd_S_enterException_7 : decode nc_S_enterException 7 = .ok (.putfield 52, 3) := by decide +kernel
theorem nd_S_enterException_10 : decode nc_S_enterException 10 = .ok (.aload_n 0, 1) := by decide +kernel
theorem nd_S_enterException_11 : decode nc_S_enterException 11 = .ok (.getfield 19, 3) := by decide +kernel
theorem nd_S_enterException_14 : decode nc_S_enterException 14 = .ok (.invokevirtual 135, 3) := by decide +kernel
theorem nd_S_enterException_17 : decode nc_S_enterException 17 = .ok (.aload_n 0, 1) := by decide +kernel
theorem nd_S_enterException_18 : decode nc_S_enterException 18 = .ok (.getfield 26, 3) := by decide +kernel
theorem nd_S_enterException_21 : decode nc_S_enterException 21 = .ok (.iload_n 1, 1) := by decide +kernel
theorem nd_S_enterException_22 : decode nc_S_enterException 22 = .ok (.aload_n 0, 1) := by decide +kernel
theorem nd_S_enterException_23 : decode nc_S_enterException 23 = .ok (.getfield 105, 3) := by decide +kernel
theorem nd_S_enterException_26 : decode nc_S_enterException 26 = .ok (.ifCond .eq 12, 3) := by decide +kernel
theorem nd_S_enterException_29 : decode nc_S_enterException 29 = .ok (.aload_n 0, 1) := by decide +kernel
theorem nd_S_enterException_30 : decode nc_S_enterException 30 = .ok (.getfield 76, 3) := by decide +kernel
theorem nd_S_enterException_33 : decode nc_S_enterException 33 = .ok (.iconst 4, 1) := by decide +kernel
theorem nd_S_enterException_34 : decode nc_S_enterException 34 = .ok (.isub, 1) := by decide +kernel
theorem nd_S_enterException_35 : decode nc_S_enterException 35 = .ok (.goto 7, 3) := by decide +kernel
theorem nd_S_enterException_38 : decode nc_S_enterException 38 = .ok (.aload_n 0, 1) := by decide +kernel
theorem nd_S_enterException_39 : decode nc_S_enterException 39 = .ok (.getfield 76, 3) := by decide +kernel
theorem nd_S_enterException_42 : decode nc_S_enterException 42 = .ok (.aload_n 0, 1) := by decide +kernel
theorem nd_S_enterException_43 : decode nc_S_enterException 43 = .ok (.getfield 105, 3) := by decide +kernel
theorem nd_S_enterException_46 : decode nc_S_enterException 46 = .ok (.invokevirtual 138, 3) := by decide +kernel
theorem nd_S_enterException_49 : decode nc_S_enterException 49 = .ok (.aload_n 0, 1) := by decide +kernel
theorem nd_S_enterException_50 : decode nc_S_enterException 50 = .ok (.ldc 142, 2) := by decide +kernel
theorem nd_S_enterException_52 : decode nc_S_enterException 52 = .ok (.invokevirtual 45, 3) := by decide +kernel
theorem nd_S_enterException_55 : decode nc_S_enterException 55 = .ok (.return_, 1) := by decide +kernel
theorem nd_S_finishInstruction_0 : decode nc_S_finishInstruction 0 = .ok (.aload_n 0, 1) := by decide +kernel
theorem nd_S_finishInstruction_1 : decode nc_S_finishInstruction 1 = .ok (.getfield 19, 3) := by decide +kernel
theorem nd_S_finishInstruction_4 : decode nc_S_finishInstruction 4 = .ok (.invokevirtual 135, 3) := by decide +kernel
theorem nd_S_finishInstruction_7 : decode nc_S_finishInstruction 7 = .ok (.aload_n 0, 1) := by decide +kernel
theorem nd_S_finishInstruction_8 : decode nc_S_finishInstruction 8 = .ok (.getfield 33, 3) := by decide +kernel
theorem nd_S_finishInstruction_11 : decode nc_S_finishInstruction 11 = .ok (.getfield 143, 3) := by decide +kernel
theorem nd_S_finishInstruction_14 : decode nc_S_finishInstruction 14 = .ok (.ifCond .eq 27, 3) := by decide +kernel
theorem nd_S_finishInstruction_17 : decode nc_S_finishInstruction 17 = .ok (.aload_n 0, 1) := by decide +kernel
theorem nd_S_finishInstruction_18 : decode nc_S_finishInstruction 18 = .ok (.getfield 19, 3) := by decide +kernel
theorem nd_S_finishInstruction_21 : decode nc_S_finishInstruction 21 = .ok (.aload_n 0, 1) := by decide +kernel
theorem nd_S_finishInstruction_22 : decode nc_S_finishInstruction 22 = .ok (.getfield 33, 3) := by decide +kernel
theorem nd_S_finishInstruction_25 : decode nc_S_finishInstruction 25 = .ok (.getfield 146, 3) := by decide +kernel
theorem nd_S_finishInstruction_28 : decode nc_S_finishInstruction 28 = .ok (.aload_n 0, 1) := by decide +kernel
theorem nd_S_finishInstruction_29 : decode nc_S_finishInstruction 29 = .ok (.getfield 33, 3) := by decide +kernel
theorem nd_S_finishInstruction_32 : decode nc_S_finishInstruction 32 = .ok (.getfield 149, 3) := by decide +kernel
theorem nd_S_finishInstruction_35 : decode nc_S_finishInstruction 35 = .ok (.invokevirtual 152, 3) := by decide +kernel
theorem nd_S_finishInstruction_38 : decode nc_S_finishInstruction 38 = .ok (.goto 24, 3) := by decide +kernel
theorem nd_S_finishInstruction_41 : decode nc_S_finishInstruction 41 = .ok (.aload_n 0, 1) := by decide +kernel
theorem nd_S_finishInstruction_42 : decode nc_S_finishInstruction 42 = .ok (.getfield 19, 3) := by decide +kernel
theorem nd_S_finishInstruction_45 : decode nc_S_finishInstruction 45 = .ok (.aload_n 0, 1) := by decide +kernel
theorem nd_S_finishInstruction_46 : decode nc_S_finishInstruction 46 = .ok (.getfield 33, 3) := by decide +kernel
theorem nd_S_finishInstruction_49 : decode nc_S_finishInstruction 49 = .ok (.getfield 146, 3) := by decide +kernel
theorem nd_S_finishInstruction_52 : decode nc_S_finishInstruction 52 = .ok (.aload_n 0, 1) := by decide +kernel
theorem nd_S_finishInstruction_53 : decode nc_S_finishInstruction 53 = .ok (.getfield 33, 3) := by decide +kernel
theorem nd_S_finishInstruction_56 : decode nc_S_finishInstruction 56 = .ok (.getfield 149, 3) := by decide +kernel
theorem nd_S_finishInstruction_59 : decode nc_S_finishInstruction 59 = .ok (.invokevirtual 73, 3) := by decide +kernel
theorem nd_S_finishInstruction_62 : decode nc_S_finishInstruction 62 = .ok (.aload_n 0, 1) := by decide +kernel
theorem nd_S_finishInstruction_63 : decode nc_S_finishInstruction 63 = .ok (.aload_n 0, 1) := by decide +kernel
theorem nd_S_finishInstruction_64 : decode nc_S_finishInstruction 64 = .ok (.getfield 37, 3) := by decide +kernel
theorem nd_S_finishInstruction_67 : decode nc_S_finishInstruction 67 = .ok (.putfield 76, 3) := by decide +kernel
theorem nd_S_finishInstruction_70 : decode nc_S_finishInstruction 70 = .ok (.aload_n 0, 1) := by decide +kernel
theorem nd_S_finishInstruction_71 : decode nc_S_finishInstruction 71 = .ok (.aload_n 0, 1) := by decide +kernel
theorem nd_S_finishInstruction_72 : decode nc_S_finishInstruction 72 = .ok (.getfield 33, 3) := by decide +kernel
theorem nd_S_finishInstruction_75 : decode nc_S_finishInstruction 75 = .ok (.getfield 155, 3) := by decide +kernel
theorem nd_S_finishInstruction_78 : decode nc_S_finishInstruction 78 = .ok (.putfield 37, 3) := by decide +kernel
theorem nd_S_finishInstruction_81 : decode nc_S_finishInstruction 81 = .ok (.aload_n 0, 1) := by decide +kernel
theorem nd_S_finishInstruction_82 : decode nc_S_finishInstruction 82 = .ok (.aload_n 0, 1) := by decide +kernel
theorem nd_S_finishInstruction_83 : decode nc_S_finishInstruction 83 = .ok (.getfield 33, 3) := by decide +kernel
theorem nd_S_finishInstruction_86 : decode nc_S_finishInstruction 86 = .ok (.getfield 158, 3) := by decide +kernel
theorem nd_S_finishInstruction_89 : decode nc_S_finishInstruction 89 = .ok (.putfield 105, 3) := by decide +kernel
theorem nd_S_finishInstruction_92 : decode nc_S_finishInstruction 92 = .ok (.return_, 1) := by decide +kernel
theorem nd_S_faultAtPc_0 : decode nc_S_faultAtPc 0 = .ok (.aload_n 0, 1) := by decide +kernel
theorem nd_S_faultAtPc_1 : decode nc_S_faultAtPc 1 = .ok (.getfield 76, 3) := by decide +kernel
theorem nd_S_faultAtPc_4 : decode nc_S_faultAtPc 4 = .ok (.iconst 3, 1) := by decide +kernel
theorem nd_S_faultAtPc_5 : decode nc_S_faultAtPc 5 = .ok (.iand, 1) := by decide +kernel
theorem nd_S_faultAtPc_6 : decode nc_S_faultAtPc 6 = .ok (.ifCond .ne 17, 3) := by decide +kernel
theorem nd_S_faultAtPc_9 : decode nc_S_faultAtPc 9 = .ok (.aload_n 0, 1) := by decide +kernel
theorem nd_S_faultAtPc_10 : decode nc_S_faultAtPc 10 = .ok (.getfield 26, 3) := by decide +kernel
theorem nd_S_faultAtPc_13 : decode nc_S_faultAtPc 13 = .ok (.aload_n 0, 1) := by decide +kernel
theorem nd_S_faultAtPc_14 : decode nc_S_faultAtPc 14 = .ok (.getfield 76, 3) := by decide +kernel
theorem nd_S_faultAtPc_17 : decode nc_S_faultAtPc 17 = .ok (.invokevirtual 161, 3) := by decide +kernel
theorem nd_S_faultAtPc_20 : decode nc_S_faultAtPc 20 = .ok (.ifCond .eq 16, 3) := by decide +kernel
theorem nd_S_faultAtPc_23 : decode nc_S_faultAtPc 23 = .ok (.aload_n 0, 1) := by decide +kernel
theorem nd_S_faultAtPc_24 : decode nc_S_faultAtPc 24 = .ok (.getfield 26, 3) := by decide +kernel
theorem nd_S_faultAtPc_27 : decode nc_S_faultAtPc 27 = .ok (.aload_n 0, 1) := by decide +kernel
theorem nd_S_faultAtPc_28 : decode nc_S_faultAtPc 28 = .ok (.getfield 76, 3) := by decide +kernel
theorem nd_S_faultAtPc_31 : decode nc_S_faultAtPc 31 = .ok (.putfield 102, 3) := by decide +kernel
theorem nd_S_faultAtPc_34 : decode nc_S_faultAtPc 34 = .ok (.iconst 4, 1) := by decide +kernel
theorem nd_S_faultAtPc_35 : decode nc_S_faultAtPc 35 = .ok (.ireturn, 1) := by decide +kernel
theorem nd_S_faultAtPc_36 : decode nc_S_faultAtPc 36 = .ok (.aload_n 0, 1) := by decide +kernel
theorem nd_S_faultAtPc_37 : decode nc_S_faultAtPc 37 = .ok (.getfield 76, 3) := by decide +kernel
theorem nd_S_faultAtPc_40 : decode nc_S_faultAtPc 40 = .ok (.ldc 128, 2) := by decide +kernel
theorem nd_S_faultAtPc_42 : decode nc_S_faultAtPc 42 = .ok (.iand, 1) := by decide +kernel
theorem nd_S_faultAtPc_43 : decode nc_S_faultAtPc 43 = .ok (.invokestatic 115, 3) := by decide +kernel
theorem nd_S_faultAtPc_46 : decode nc_S_faultAtPc 46 = .ok (.ifCond .eq 7, 3) := by decide +kernel
theorem nd_S_faultAtPc_49 : decode nc_S_faultAtPc 49 = .ok (.iconst (-1), 1) := by decide +kernel
theorem nd_S_faultAtPc_50 : decode nc_S_faultAtPc 50 = .ok (.goto 5, 3) := by decide +kernel
theorem nd_S_faultAtPc_53 : decode nc_S_faultAtPc 53 = .ok (.bipush 6, 2) := by decide +kernel
theorem nd_S_faultAtPc_55 : decode nc_S_faultAtPc 55 = .ok (.ireturn, 1) := by decide +kernel
theorem nd_S_perform_0 : decode nc_S_perform 0 = .ok (.aload_n 0, 1) := by decide +kernel
theorem nd_S_perform_1 : decode nc_S_perform 1 = .ok (.getfield 33, 3) := by decide +kernel
theorem nd_S_perform_4 : decode nc_S_perform 4 = .ok (.aload_n 0, 1) := by decide +kernel
theorem nd_S_perform_5 : decode nc_S_perform 5 = .ok (.getfield 37, 3) := by decide +kernel
theorem nd_S_perform_8 : decode nc_S_perform 8 = .ok (.iconst 4, 1) := by decide +kernel
theorem nd_S_perform_9 : decode nc_S_perform 9 = .ok (.iadd, 1) := by decide +kernel
theorem nd_S_perform_10 : decode nc_S_perform 10 = .ok (.invokevirtual 164, 3) := by decide +kernel
theorem nd_S_perform_13 : decode nc_S_perform 13 = .ok (.aload_n 0, 1) := by decide +kernel
theorem nd_S_perform_14 : decode nc_S_perform 14 = .ok (.getfield 105, 3) := by decide +kernel
theorem nd_S_perform_17 : decode nc_S_perform 17 = .ok (.ifCond .eq 13, 3) := by decide +kernel
theorem nd_S_perform_20 : decode nc_S_perform 20 = .ok (.iload_n 1, 1) := by decide +kernel
theorem nd_S_perform_21 : decode nc_S_perform 21 = .ok (.invokestatic 167, 3) := by decide +kernel
theorem nd_S_perform_24 : decode nc_S_perform 24 = .ok (.ifCond .eq 6, 3) := by decide +kernel
theorem nd_S_perform_27 : decode nc_S_perform 27 = .ok (.bipush 10, 2) := by decide +kernel
theorem nd_S_perform_29 : decode nc_S_perform 29 = .ok (.ireturn, 1) := by decide +kernel
theorem nd_S_perform_30 : decode nc_S_perform 30 = .ok (.iload_n 1, 1) := by decide +kernel
theorem nd_S_perform_31 : decode nc_S_perform 31 = .ok (.invokestatic 169, 3) := by decide +kernel
theorem nd_S_perform_34 : decode nc_S_perform 34 = .ok (.tableswitch 250 0 46 #[202, 208, 214, 214, 220, 220, 220, 220, 226, 226, 226, 226, 226, 226, 226, 226, 232, 250, 250, 250, 250, 250, 250, 250, 250, 250, 250, 250, 250, 250, 250, 250, 238, 238, 238, 238, 238, 238, 238, 250, 244, 244, 244, 244, 250, 250, 244], 202) := by decide +kernel
theorem nd_S_perform_236 : decode nc_S_perform 236 = .ok (.aload_n 0, 1) := by decide +kernel
theorem nd_S_perform_237 : decode nc_S_perform 237 = .ok (.iload_n 1, 1) := by decide +kernel
theorem nd_S_perform_238 : decode nc_S_perform 238 = .ok (.invokevirtual 172, 3) := by decide +kernel
theorem nd_S_perform_241 : decode nc_S_perform 241 = .ok (.ireturn, 1) := by decide +kernel
theorem nd_S_perform_242 : decode nc_S_perform 242 = .ok (.aload_n 0, 1) := by decide +kernel
theorem nd_S_perform_243 : decode nc_S_perform 243 = .ok (.iload_n 1, 1) := by decide +kernel
theorem nd_S_perform_244 : decode nc_S_perform 244 = .ok (.invokevirtual 175, 3) := by decide +kernel
theorem nd_S_perform_247 : decode nc_S_perform 247 = .ok (.ireturn, 1) := by decide +kernel
theorem nd_S_perform_248 : decode nc_S_perform 248 = .ok (.aload_n 0, 1) := by decide +kernel
theorem nd_S_perform_249 : decode nc_S_perform 249 = .ok (.iload_n 1, 1) := by decide +kernel
theorem nd_S_perform_250 : decode nc_S_perform 250 = .ok (.invokevirtual 178, 3) := by decide +kernel
theorem nd_S_perform_253 : decode nc_S_perform 253 = .ok (.ireturn, 1) := by decide +kernel
theorem nd_S_perform_254 : decode nc_S_perform 254 = .ok (.aload_n 0, 1) := by decide +kernel
theorem nd_S_perform_255 : decode nc_S_perform 255 = .ok (.iload_n 1, 1) := by decide +kernel
theorem nd_S_perform_256 : decode nc_S_perform 256 = .ok (.invokevirtual 181, 3) := by decide +kernel
theorem nd_S_perform_259 : decode nc_S_perform 259 = .ok (.ireturn, 1) := by decide +kernel
theorem nd_S_perform_260 : decode nc_S_perform 260 = .ok (.aload_n 0, 1) := by decide +kernel
theorem nd_S_perform_261 : decode nc_S_perform 261 = .ok (.iload_n 1, 1) := by decide +kernel
theorem nd_S_perform_262 : decode nc_S_perform 262 = .ok (.invokevirtual 184, 3) := by decide +kernel
theorem nd_S_perform_265 : decode nc_S_perform 265 = .ok (.ireturn, 1) := by decide +kernel
theorem nd_S_perform_266 : decode nc_S_perform 266 = .ok (.aload_n 0, 1) := by decide +kernel
theorem nd_S_perform_267 : decode nc_S_perform 267 = .ok (.iload_n 1, 1) := by decide +kernel
theorem nd_S_perform_268 : decode nc_S_perform 268 = .ok (.invokevirtual 187, 3) := by decide +kernel
theorem nd_S_perform_271 : decode nc_S_perform 271 = .ok (.ireturn, 1) := by decide +kernel
theorem nd_S_perform_272 : decode nc_S_perform 272 = .ok (.aload_n 0, 1) := by decide +kernel
theorem nd_S_perform_273 : decode nc_S_perform 273 = .ok (.iload_n 1, 1) := by decide +kernel
theorem nd_S_perform_274 : decode nc_S_perform 274 = .ok (.invokevirtual 190, 3) := by decide +kernel
theorem nd_S_perform_277 : decode nc_S_perform 277 = .ok (.ireturn, 1) := by decide +kernel
theorem nd_S_perform_278 : decode nc_S_perform 278 = .ok (.aload_n 0, 1) := by decide +kernel
theorem nd_S_perform_279 : decode nc_S_perform 279 = .ok (.iload_n 1, 1) := by decide +kernel
theorem nd_S_perform_280 : decode nc_S_perform 280 = .ok (.invokevirtual 193, 3) := by decide +kernel
end
section
theorem nd_S_perform_283 : decode nc_S_perform 283 = .ok (.ireturn, 1) := by decide +kernel
theorem nd_S_perform_284 : decode nc_S_perform 284 = .ok (.bipush 10, 2) := by decide +kernel
theorem nd_S_perform_286 : decode nc_S_perform 286 = .ok (.ireturn, 1) := by decide +kernel
theorem nd_S_orderOf_0 : decode nc_S_orderOf 0 = .ok (.iload_n 0, 1) := by decide +kernel
theorem nd_S_orderOf_1 : decode nc_S_orderOf 1 = .ok (.bipush 26, 2) := by decide +kernel
theorem nd_S_orderOf_3 : decode nc_S_orderOf 3 = .ok (.iushr, 1) := by decide +kernel
theorem nd_S_orderOf_4 : decode nc_S_orderOf 4 = .ok (.ireturn, 1) := by decide +kernel
theorem nd_S_numberS_0 : decode nc_S_numberS 0 = .ok (.iload_n 0, 1) := by decide +kernel
theorem nd_S_numberS_1 : decode nc_S_numberS 1 = .ok (.bipush 21, 2) := by decide +kernel
theorem nd_S_numberS_3 : decode nc_S_numberS 3 = .ok (.iushr, 1) := by decide +kernel
theorem nd_S_numberS_4 : decode nc_S_numberS 4 = .ok (.bipush 31, 2) := by decide +kernel
theorem nd_S_numberS_6 : decode nc_S_numberS 6 = .ok (.iand, 1) := by decide +kernel
theorem nd_S_numberS_7 : decode nc_S_numberS 7 = .ok (.ireturn, 1) := by decide +kernel
theorem nd_S_numberT_0 : decode nc_S_numberT 0 = .ok (.iload_n 0, 1) := by decide +kernel
theorem nd_S_numberT_1 : decode nc_S_numberT 1 = .ok (.bipush 16, 2) := by decide +kernel
theorem nd_S_numberT_3 : decode nc_S_numberT 3 = .ok (.iushr, 1) := by decide +kernel
theorem nd_S_numberT_4 : decode nc_S_numberT 4 = .ok (.bipush 31, 2) := by decide +kernel
theorem nd_S_numberT_6 : decode nc_S_numberT 6 = .ok (.iand, 1) := by decide +kernel
theorem nd_S_numberT_7 : decode nc_S_numberT 7 = .ok (.ireturn, 1) := by decide +kernel
theorem nd_S_numberD_0 : decode nc_S_numberD 0 = .ok (.iload_n 0, 1) := by decide +kernel
theorem nd_S_numberD_1 : decode nc_S_numberD 1 = .ok (.bipush 11, 2) := by decide +kernel
theorem nd_S_numberD_3 : decode nc_S_numberD 3 = .ok (.iushr, 1) := by decide +kernel
theorem nd_S_numberD_4 : decode nc_S_numberD 4 = .ok (.bipush 31, 2) := by decide +kernel
theorem nd_S_numberD_6 : decode nc_S_numberD 6 = .ok (.iand, 1) := by decide +kernel
theorem nd_S_numberD_7 : decode nc_S_numberD 7 = .ok (.ireturn, 1) := by decide +kernel
theorem nd_S_numberA_0 : decode nc_S_numberA 0 = .ok (.iload_n 0, 1) := by decide +kernel
theorem nd_S_numberA_1 : decode nc_S_numberA 1 = .ok (.bipush 6, 2) := by decide +kernel
theorem nd_S_numberA_3 : decode nc_S_numberA 3 = .ok (.iushr, 1) := by decide +kernel
theorem nd_S_numberA_4 : decode nc_S_numberA 4 = .ok (.bipush 31, 2) := by decide +kernel
theorem nd_S_numberA_6 : decode nc_S_numberA 6 = .ok (.iand, 1) := by decide +kernel
theorem nd_S_numberA_7 : decode nc_S_numberA 7 = .ok (.ireturn, 1) := by decide +kernel
theorem nd_S_numberK_0 : decode nc_S_numberK 0 = .ok (.iload_n 0, 1) := by decide +kernel
theorem nd_S_numberK_1 : decode nc_S_numberK 1 = .ok (.bipush 63, 2) := by decide +kernel
theorem nd_S_numberK_3 : decode nc_S_numberK 3 = .ok (.iand, 1) := by decide +kernel
theorem nd_S_numberK_4 : decode nc_S_numberK 4 = .ok (.ireturn, 1) := by decide +kernel
theorem nd_S_numberI_0 : decode nc_S_numberI 0 = .ok (.iload_n 0, 1) := by decide +kernel
theorem nd_S_numberI_1 : decode nc_S_numberI 1 = .ok (.i2s, 1) := by decide +kernel
theorem nd_S_numberI_2 : decode nc_S_numberI 2 = .ok (.ireturn, 1) := by decide +kernel
theorem nd_S_numberU_0 : decode nc_S_numberU 0 = .ok (.iload_n 0, 1) := by decide +kernel
theorem nd_S_numberU_1 : decode nc_S_numberU 1 = .ok (.ldc 196, 2) := by decide +kernel
theorem nd_S_numberU_3 : decode nc_S_numberU 3 = .ok (.iand, 1) := by decide +kernel
theorem nd_S_numberU_4 : decode nc_S_numberU 4 = .ok (.ireturn, 1) := by decide +kernel
theorem nd_S_valueOfS_0 : decode nc_S_valueOfS 0 = .ok (.aload_n 0, 1) := by decide +kernel
theorem nd_S_valueOfS_1 : decode nc_S_valueOfS 1 = .ok (.getfield 19, 3) := by decide +kernel
theorem nd_S_valueOfS_4 : decode nc_S_valueOfS 4 = .ok (.iload_n 1, 1) := by decide +kernel
theorem nd_S_valueOfS_5 : decode nc_S_valueOfS 5 = .ok (.invokestatic 197, 3) := by decide +kernel
theorem nd_S_valueOfS_8 : decode nc_S_valueOfS 8 = .ok (.invokevirtual 70, 3) := by decide +kernel
theorem nd_S_valueOfS_11 : decode nc_S_valueOfS 11 = .ok (.ireturn, 1) := by decide +kernel
theorem nd_S_valueOfT_0 : decode nc_S_valueOfT 0 = .ok (.aload_n 0, 1) := by decide +kernel
theorem nd_S_valueOfT_1 : decode nc_S_valueOfT 1 = .ok (.getfield 19, 3) := by decide +kernel
theorem nd_S_valueOfT_4 : decode nc_S_valueOfT 4 = .ok (.iload_n 1, 1) := by decide +kernel
theorem nd_S_valueOfT_5 : decode nc_S_valueOfT 5 = .ok (.invokestatic 200, 3) := by decide +kernel
theorem nd_S_valueOfT_8 : decode nc_S_valueOfT 8 = .ok (.invokevirtual 70, 3) := by decide +kernel
theorem nd_S_valueOfT_11 : decode nc_S_valueOfT 11 = .ok (.ireturn, 1) := by decide +kernel
theorem nd_S_withoutSign_0 : decode nc_S_withoutSign 0 = .ok (.iload_n 0, 1) := by decide +kernel
theorem nd_S_withoutSign_1 : decode nc_S_withoutSign 1 = .ok (.i2l, 1) := by decide +kernel
theorem nd_S_withoutSign_2 : decode nc_S_withoutSign 2 = .ok (.ldc2_w 203, 3) := by decide +kernel
theorem nd_S_withoutSign_5 : decode nc_S_withoutSign 5 = .ok (.land, 1) := by decide +kernel
theorem nd_S_withoutSign_6 : decode nc_S_withoutSign 6 = .ok (.lreturn, 1) := by decide +kernel
theorem nd_S_give_0 : decode nc_S_give 0 = .ok (.aload_n 0, 1) := by decide +kernel
theorem nd_S_give_1 : decode nc_S_give 1 = .ok (.getfield 33, 3) := by decide +kernel
theorem nd_S_give_4 : decode nc_S_give 4 = .ok (.iload_n 1, 1) := by decide +kernel
theorem nd_S_give_5 : decode nc_S_give 5 = .ok (.putfield 146, 3) := by decide +kernel
theorem nd_S_give_8 : decode nc_S_give 8 = .ok (.aload_n 0, 1) := by decide +kernel
theorem nd_S_give_9 : decode nc_S_give 9 = .ok (.getfield 33, 3) := by decide +kernel
theorem nd_S_give_12 : decode nc_S_give 12 = .ok (.iload_n 2, 1) := by decide +kernel
theorem nd_S_give_13 : decode nc_S_give 13 = .ok (.putfield 149, 3) := by decide +kernel
theorem nd_S_give_16 : decode nc_S_give 16 = .ok (.iconst (-1), 1) := by decide +kernel
theorem nd_S_give_17 : decode nc_S_give 17 = .ok (.ireturn, 1) := by decide +kernel
theorem nd_S_giveIfExact_0 : decode nc_S_giveIfExact 0 = .ok (.lload_n 2, 1) := by decide +kernel
theorem nd_S_giveIfExact_1 : decode nc_S_giveIfExact 1 = .ok (.lload_n 2, 1) := by decide +kernel
theorem nd_S_giveIfExact_2 : decode nc_S_giveIfExact 2 = .ok (.l2i, 1) := by decide +kernel
theorem nd_S_giveIfExact_3 : decode nc_S_giveIfExact 3 = .ok (.i2l, 1) := by decide +kernel
theorem nd_S_giveIfExact_4 : decode nc_S_giveIfExact 4 = .ok (.lcmp, 1) := by decide +kernel
theorem nd_S_giveIfExact_5 : decode nc_S_giveIfExact 5 = .ok (.ifCond .eq 6, 3) := by decide +kernel
theorem nd_S_giveIfExact_8 : decode nc_S_giveIfExact 8 = .ok (.bipush 12, 2) := by decide +kernel
theorem nd_S_giveIfExact_10 : decode nc_S_giveIfExact 10 = .ok (.ireturn, 1) := by decide +kernel
theorem nd_S_giveIfExact_11 : decode nc_S_giveIfExact 11 = .ok (.aload_n 0, 1) := by decide +kernel
theorem nd_S_giveIfExact_12 : decode nc_S_giveIfExact 12 = .ok (.iload_n 1, 1) := by decide +kernel
theorem nd_S_giveIfExact_13 : decode nc_S_giveIfExact 13 = .ok (.lload_n 2, 1) := by decide +kernel
theorem nd_S_giveIfExact_14 : decode nc_S_giveIfExact 14 = .ok (.l2i, 1) := by decide +kernel
theorem nd_S_giveIfExact_15 : decode nc_S_giveIfExact 15 = .ok (.invokevirtual 205, 3) := by decide +kernel
theorem nd_S_giveIfExact_18 : decode nc_S_giveIfExact 18 = .ok (.ireturn, 1) := by decide +kernel
theorem nd_S_giveTruth_0 : decode nc_S_giveTruth 0 = .ok (.aload_n 0, 1) := by decide +kernel
theorem nd_S_giveTruth_1 : decode nc_S_giveTruth 1 = .ok (.iload_n 1, 1) := by decide +kernel
theorem nd_S_giveTruth_2 : decode nc_S_giveTruth 2 = .ok (.iload_n 2, 1) := by decide +kernel
theorem nd_S_giveTruth_3 : decode nc_S_giveTruth 3 = .ok (.ifCond .eq 7, 3) := by decide +kernel
theorem nd_S_giveTruth_6 : decode nc_S_giveTruth 6 = .ok (.iconst 1, 1) := by decide +kernel
theorem nd_S_giveTruth_7 : decode nc_S_giveTruth 7 = .ok (.goto 4, 3) := by decide +kernel
theorem nd_S_giveTruth_10 : decode nc_S_giveTruth 10 = .ok (.iconst 0, 1) := by decide +kernel
theorem nd_S_giveTruth_11 : decode nc_S_giveTruth 11 = .ok (.invokevirtual 205, 3) := by decide +kernel
theorem nd_S_giveTruth_14 : decode nc_S_giveTruth 14 = .ok (.ireturn, 1) := by decide +kernel
theorem nd_S_giveLate_0 : decode nc_S_giveLate 0 = .ok (.aload_n 0, 1) := by decide +kernel
theorem nd_S_giveLate_1 : decode nc_S_giveLate 1 = .ok (.getfield 33, 3) := by decide +kernel
theorem nd_S_giveLate_4 : decode nc_S_giveLate 4 = .ok (.iconst 1, 1) := by decide +kernel
theorem nd_S_giveLate_5 : decode nc_S_giveLate 5 = .ok (.putfield 143, 3) := by decide +kernel
theorem nd_S_giveLate_8 : decode nc_S_giveLate 8 = .ok (.aload_n 0, 1) := by decide +kernel
theorem nd_S_giveLate_9 : decode nc_S_giveLate 9 = .ok (.iload_n 1, 1) := by decide +kernel
theorem nd_S_giveLate_10 : decode nc_S_giveLate 10 = .ok (.iload_n 2, 1) := by decide +kernel
theorem nd_S_giveLate_11 : decode nc_S_giveLate 11 = .ok (.invokevirtual 205, 3) := by decide +kernel
theorem nd_S_giveLate_14 : decode nc_S_giveLate 14 = .ok (.ireturn, 1) := by decide +kernel
theorem nd_S_branchIf_0 : decode nc_S_branchIf 0 = .ok (.aload_n 0, 1) := by decide +kernel
theorem nd_S_branchIf_1 : decode nc_S_branchIf 1 = .ok (.getfield 33, 3) := by decide +kernel
theorem nd_S_branchIf_4 : decode nc_S_branchIf 4 = .ok (.iconst 1, 1) := by decide +kernel
theorem nd_S_branchIf_5 : decode nc_S_branchIf 5 = .ok (.putfield 158, 3) := by decide +kernel
theorem nd_S_branchIf_8 : decode nc_S_branchIf 8 = .ok (.iload_n 1, 1) := by decide +kernel
theorem nd_S_branchIf_9 : decode nc_S_branchIf 9 = .ok (.ifCond .eq 11, 3) := by decide +kernel
theorem nd_S_branchIf_12 : decode nc_S_branchIf 12 = .ok (.aload_n 0, 1) := by decide +kernel
theorem nd_S_branchIf_13 : decode nc_S_branchIf 13 = .ok (.getfield 33, 3) := by decide +kernel
theorem nd_S_branchIf_16 : decode nc_S_branchIf 16 = .ok (.iload_n 2, 1) := by decide +kernel
theorem nd_S_branchIf_17 : decode nc_S_branchIf 17 = .ok (.putfield 155, 3) := by decide +kernel
theorem nd_S_branchIf_20 : decode nc_S_branchIf 20 = .ok (.iconst (-1), 1) := by decide +kernel
theorem nd_S_branchIf_21 : decode nc_S_branchIf 21 = .ok (.ireturn, 1) := by decide +kernel
theorem nd_S_keepHighAndLow_0 : decode nc_S_keepHighAndLow 0 = .ok (.aload_n 0, 1) := by decide +kernel
theorem nd_S_keepHighAndLow_1 : decode nc_S_keepHighAndLow 1 = .ok (.getfield 19, 3) := by decide +kernel
theorem nd_S_keepHighAndLow_4 : decode nc_S_keepHighAndLow 4 = .ok (.bipush 32, 2) := by decide +kernel
theorem nd_S_keepHighAndLow_6 : decode nc_S_keepHighAndLow 6 = .ok (.lload_n 1, 1) := by decide +kernel
theorem nd_S_keepHighAndLow_7 : decode nc_S_keepHighAndLow 7 = .ok (.bipush 32, 2) := by decide +kernel
theorem nd_S_keepHighAndLow_9 : decode nc_S_keepHighAndLow 9 = .ok (.lshr, 1) := by decide +kernel
theorem nd_S_keepHighAndLow_10 : decode nc_S_keepHighAndLow 10 = .ok (.l2i, 1) := by decide +kernel
theorem nd_S_keepHighAndLow_11 : decode nc_S_keepHighAndLow 11 = .ok (.invokevirtual 73, 3) := by decide +kernel
theorem nd_S_keepHighAndLow_14 : decode nc_S_keepHighAndLow 14 = .ok (.aload_n 0, 1) := by decide +kernel
theorem nd_S_keepHighAndLow_15 : decode nc_S_keepHighAndLow 15 = .ok (.getfield 19, 3) := by decide +kernel
theorem nd_S_keepHighAndLow_18 : decode nc_S_keepHighAndLow 18 = .ok (.bipush 33, 2) := by decide +kernel
theorem nd_S_keepHighAndLow_20 : decode nc_S_keepHighAndLow 20 = .ok (.lload_n 1, 1) := by decide +kernel
theorem nd_S_keepHighAndLow_21 : decode nc_S_keepHighAndLow 21 = .ok (.l2i, 1) := by decide +kernel
theorem nd_S_keepHighAndLow_22 : decode nc_S_keepHighAndLow 22 = .ok (.invokevirtual 73, 3) := by decide +kernel
theorem nd_S_keepHighAndLow_25 : decode nc_S_keepHighAndLow 25 = .ok (.iconst (-1), 1) := by decide +kernel
theorem nd_S_keepHighAndLow_26 : decode nc_S_keepHighAndLow 26 = .ok (.ireturn, 1) := by decide +kernel
theorem nd_S_performByK_0 : decode nc_S_performByK 0 = .ok (.iload_n 1, 1) := by decide +kernel
theorem nd_S_performByK_1 : decode nc_S_performByK 1 = .ok (.invokestatic 209, 3) := by decide +kernel
theorem nd_S_performByK_4 : decode nc_S_performByK 4 = .ok (.tableswitch 158 0 27 #[128, 158, 128, 128, 128, 158, 128, 128, 134, 134, 158, 158, 140, 143, 158, 158, 146, 146, 146, 146, 158, 158, 158, 158, 152, 152, 152, 152], 128) := by decide +kernel
theorem nd_S_performByK_132 : decode nc_S_performByK 132 = .ok (.aload_n 0, 1) := by decide +kernel
theorem nd_S_performByK_133 : decode nc_S_performByK 133 = .ok (.iload_n 1, 1) := by decide +kernel
theorem nd_S_performByK_134 : decode nc_S_performByK 134 = .ok (.invokevirtual 212, 3) := by decide +kernel
theorem nd_S_performByK_137 : decode nc_S_performByK 137 = .ok (.ireturn, 1) := by decide +kernel
theorem nd_S_performByK_138 : decode nc_S_performByK 138 = .ok (.aload_n 0, 1) := by decide +kernel
theorem nd_S_performByK_139 : decode nc_S_performByK 139 = .ok (.iload_n 1, 1) := by decide +kernel
theorem nd_S_performByK_140 : decode nc_S_performByK 140 = .ok (.invokevirtual 215, 3) := by decide +kernel
theorem nd_S_performByK_143 : decode nc_S_performByK 143 = .ok (.ireturn, 1) := by decide +kernel
theorem nd_S_performByK_144 : decode nc_S_performByK 144 = .ok (.bipush 8, 2) := by decide +kernel
theorem nd_S_performByK_146 : decode nc_S_performByK 146 = .ok (.ireturn, 1) := by decide +kernel
theorem nd_S_performByK_147 : decode nc_S_performByK 147 = .ok (.bipush 9, 2) := by decide +kernel
theorem nd_S_performByK_149 : decode nc_S_performByK 149 = .ok (.ireturn, 1) := by decide +kernel
theorem nd_S_performByK_150 : decode nc_S_performByK 150 = .ok (.aload_n 0, 1) := by decide +kernel
theorem nd_S_performByK_151 : decode nc_S_performByK 151 = .ok (.iload_n 1, 1) := by decide +kernel
theorem nd_S_performByK_152 : decode nc_S_performByK 152 = .ok (.invokevirtual 218, 3) := by decide +kernel
theorem nd_S_performByK_155 : decode nc_S_performByK 155 = .ok (.ireturn, 1) := by decide +kernel
theorem nd_S_performByK_156 : decode nc_S_performByK 156 = .ok (.aload_n 0, 1) := by decide +kernel
theorem nd_S_performByK_157 : decode nc_S_performByK 157 = .ok (.iload_n 1, 1) := by decide +kernel
theorem nd_S_performByK_158 : decode nc_S_performByK 158 = .ok (.invokevirtual 221, 3) := by decide +kernel
theorem nd_S_performByK_161 : decode nc_S_performByK 161 = .ok (.ireturn, 1) := by decide +kernel
theorem nd_S_performByK_162 : decode nc_S_performByK 162 = .ok (.aload_n 0, 1) := by decide +kernel
theorem nd_S_performByK_163 : decode nc_S_performByK 163 = .ok (.iload_n 1, 1) := by decide +kernel
theorem nd_S_performByK_164 : decode nc_S_performByK 164 = .ok (.invokevirtual 224, 3) := by decide +kernel
theorem nd_S_performByK_167 : decode nc_S_performByK 167 = .ok (.ireturn, 1) := by decide +kernel
theorem nd_S_performShift_0 : decode nc_S_performShift 0 = .ok (.aload_n 0, 1) := by decide +kernel
theorem nd_S_performShift_1 : decode nc_S_performShift 1 = .ok (.iload_n 1, 1) := by decide +kernel
theorem nd_S_performShift_2 : decode nc_S_performShift 2 = .ok (.invokevirtual 227, 3) := by decide +kernel
theorem nd_S_performShift_5 : decode nc_S_performShift 5 = .ok (.istore_n 2, 1) := by decide +kernel
theorem nd_S_performShift_6 : decode nc_S_performShift 6 = .ok (.iload_n 1, 1) := by decide +kernel
theorem nd_S_performShift_7 : decode nc_S_performShift 7 = .ok (.invokestatic 230, 3) := by decide +kernel
theorem nd_S_performShift_10 : decode nc_S_performShift 10 = .ok (.istore_n 3, 1) := by decide +kernel
theorem nd_S_performShift_11 : decode nc_S_performShift 11 = .ok (.aload_n 0, 1) := by decide +kernel
theorem nd_S_performShift_12 : decode nc_S_performShift 12 = .ok (.iload_n 1, 1) := by decide +kernel
theorem nd_S_performShift_13 : decode nc_S_performShift 13 = .ok (.invokevirtual 233, 3) := by decide +kernel
theorem nd_S_performShift_16 : decode nc_S_performShift 16 = .ok (.bipush 31, 2) := by decide +kernel
theorem nd_S_performShift_18 : decode nc_S_performShift 18 = .ok (.iand, 1) := by decide +kernel
theorem nd_S_performShift_19 : decode nc_S_performShift 19 = .ok (.istore 4, 2) := by decide +kernel
theorem nd_S_performShift_21 : decode nc_S_performShift 21 = .ok (.iload_n 1, 1) := by decide +kernel
theorem nd_S_performShift_22 : decode nc_S_performShift 22 = .ok (.invokestatic 209, 3) := by decide +kernel
theorem nd_S_performShift_25 : decode nc_S_performShift 25 = .ok (.tableswitch 99 0 6 #[43, 99, 55, 67, 79, 99, 89], 43) := by decide +kernel
theorem nd_S_performShift_68 : decode nc_S_performShift 68 = .ok (.aload_n 0, 1) := by decide +kernel
theorem nd_S_performShift_69 : decode nc_S_performShift 69 = .ok (.iload_n 3, 1) := by decide +kernel
theorem nd_S_performShift_70 : decode nc_S_performShift 70 = .ok (.iload_n 2, 1) := by decide +kernel
theorem nd_S_performShift_71 : decode nc_S_performShift 71 = .ok (.iload_n 1, 1) := by decide +kernel
theorem nd_S_performShift_72 : decode nc_S_performShift 72 = .ok (.invokestatic 236, 3) := by decide +kernel
theorem nd_S_performShift_75 : decode nc_S_performShift 75 = .ok (.ishl, 1) := by decide +kernel
theorem nd_S_performShift_76 : decode nc_S_performShift 76 = .ok (.invokevirtual 205, 3) := by decide +kernel
theorem nd_S_performShift_79 : decode nc_S_performShift 79 = .ok (.ireturn, 1) := by decide +kernel
theorem nd_S_performShift_80 : decode nc_S_performShift 80 = .ok (.aload_n 0, 1) := by decide +kernel
theorem nd_S_performShift_81 : decode nc_S_performShift 81 = .ok (.iload_n 3, 1) := by decide +kernel
theorem nd_S_performShift_82 : decode nc_S_performShift 82 = .ok (.iload_n 2, 1) := by decide +kernel
theorem nd_S_performShift_83 : decode nc_S_performShift 83 = .ok (.iload_n 1, 1) := by decide +kernel
theorem nd_S_performShift_84 : decode nc_S_performShift 84 = .ok (.invokestatic 236, 3) := by decide +kernel
theorem nd_S_performShift_87 : decode nc_S_performShift 87 = .ok (.iushr, 1) := by decide +kernel
theorem nd_S_performShift_88 : decode nc_S_performShift 88 = .ok (.invokevirtual 205, 3) := by decide +kernel
theorem nd_S_performShift_91 : decode nc_S_performShift 91 = .ok (.ireturn, 1) := by decide +kernel
theorem nd_S_performShift_92 : decode nc_S_performShift 92 = .ok (.aload_n 0, 1) := by decide +kernel
theorem nd_S_performShift_93 : decode nc_S_performShift 93 = .ok (.iload_n 3, 1) := by decide +kernel
theorem nd_S_performShift_94 : decode nc_S_performShift 94 = .ok (.iload_n 2, 1) := by decide +kernel
theorem nd_S_performShift_95 : decode nc_S_performShift 95 = .ok (.iload_n 1, 1) := by decide +kernel
theorem nd_S_performShift_96 : decode nc_S_performShift 96 = .ok (.invokestatic 236, 3) := by decide +kernel
theorem nd_S_performShift_99 : decode nc_S_performShift 99 = .ok (.ishr, 1) := by decide +kernel
theorem nd_S_performShift_100 : decode nc_S_performShift 100 = .ok (.invokevirtual 205, 3) := by decide +kernel
theorem nd_S_performShift_103 : decode nc_S_performShift 103 = .ok (.ireturn, 1) := by decide +kernel
theorem nd_S_performShift_104 : decode nc_S_performShift 104 = .ok (.aload_n 0, 1) := by decide +kernel
theorem nd_S_performShift_105 : decode nc_S_performShift 105 = .ok (.iload_n 3, 1) := by decide +kernel
theorem nd_S_performShift_106 : decode nc_S_performShift 106 = .ok (.iload_n 2, 1) := by decide +kernel
theorem nd_S_performShift_107 : decode nc_S_performShift 107 = .ok (.iload 4, 2) := by decide +kernel
theorem nd_S_performShift_109 : decode nc_S_performShift 109 = .ok (.ishl, 1) := by decide +kernel
theorem nd_S_performShift_110 : decode nc_S_performShift 110 = .ok (.invokevirtual 205, 3) := by decide +kernel
theorem nd_S_performShift_113 : decode nc_S_performShift 113 = .ok (.ireturn, 1) := by decide +kernel
theorem nd_S_performShift_114 : decode nc_S_performShift 114 = .ok (.aload_n 0, 1) := by decide +kernel
theorem nd_S_performShift_115 : decode nc_S_performShift 115 = .ok (.iload_n 3, 1) := by decide +kernel
theorem nd_S_performShift_116 : decode nc_S_performShift 116 = .ok (.iload_n 2, 1) := by decide +kernel
theorem nd_S_performShift_117 : decode nc_S_performShift 117 = .ok (.iload 4, 2) := by decide +kernel
theorem nd_S_performShift_119 : decode nc_S_performShift 119 = .ok (.iushr, 1) := by decide +kernel
theorem nd_S_performShift_120 : decode nc_S_performShift 120 = .ok (.invokevirtual 205, 3) := by decide +kernel
theorem nd_S_performShift_123 : decode nc_S_performShift 123 = .ok (.ireturn, 1) := by decide +kernel
theorem nd_S_performShift_124 : decode nc_S_performShift 124 = .ok (.aload_n 0, 1) := by decide +kernel
theorem nd_S_performShift_125 : decode nc_S_performShift 125 = .ok (.iload_n 3, 1) := by decide +kernel
theorem nd_S_performShift_126 : decode nc_S_performShift 126 = .ok (.iload_n 2, 1) := by decide +kernel
theorem nd_S_performShift_127 : decode nc_S_performShift 127 = .ok (.iload 4, 2) := by decide +kernel
theorem nd_S_performShift_129 : decode nc_S_performShift 129 = .ok (.ishr, 1) := by decide +kernel
theorem nd_S_performShift_130 : decode nc_S_performShift 130 = .ok (.invokevirtual 205, 3) := by decide +kernel
theorem nd_S_performShift_133 : decode nc_S_performShift 133 = .ok (.ireturn, 1) := by decide +kernel
theorem nd_S_performJumpToS_0 : decode nc_S_performJumpToS 0 = .ok (.iload_n 1, 1) := by decide +kernel
theorem nd_S_performJumpToS_1 : decode nc_S_performJumpToS 1 = .ok (.invokestatic 209, 3) := by decide +kernel
theorem nd_S_performJumpToS_4 : decode nc_S_performJumpToS 4 = .ok (.bipush 9, 2) := by decide +kernel
theorem nd_S_performJumpToS_6 : decode nc_S_performJumpToS 6 = .ok (.if_icmp .ne 19, 3) := by decide +kernel
theorem nd_S_performJumpToS_9 : decode nc_S_performJumpToS 9 = .ok (.aload_n 0, 1) := by decide +kernel
theorem nd_S_performJumpToS_10 : decode nc_S_performJumpToS 10 = .ok (.iload_n 1, 1) := by decide +kernel
theorem nd_S_performJumpToS_11 : decode nc_S_performJumpToS 11 = .ok (.invokestatic 230, 3) := by decide +kernel
theorem nd_S_performJumpToS_14 : decode nc_S_performJumpToS 14 = .ok (.aload_n 0, 1) := by decide +kernel
theorem nd_S_performJumpToS_15 : decode nc_S_performJumpToS 15 = .ok (.getfield 76, 3) := by decide +kernel
theorem nd_S_performJumpToS_18 : decode nc_S_performJumpToS 18 = .ok (.bipush 8, 2) := by decide +kernel
theorem nd_S_performJumpToS_20 : decode nc_S_performJumpToS 20 = .ok (.iadd, 1) := by decide +kernel
theorem nd_S_performJumpToS_21 : decode nc_S_performJumpToS 21 = .ok (.invokevirtual 205, 3) := by decide +kernel
theorem nd_S_performJumpToS_24 : decode nc_S_performJumpToS 24 = .ok (.pop, 1) := by decide +kernel
theorem nd_S_performJumpToS_25 : decode nc_S_performJumpToS 25 = .ok (.aload_n 0, 1) := by decide +kernel
theorem nd_S_performJumpToS_26 : decode nc_S_performJumpToS 26 = .ok (.iconst 1, 1) := by decide +kernel
theorem nd_S_performJumpToS_27 : decode nc_S_performJumpToS 27 = .ok (.aload_n 0, 1) := by decide +kernel
theorem nd_S_performJumpToS_28 : decode nc_S_performJumpToS 28 = .ok (.iload_n 1, 1) := by decide +kernel
theorem nd_S_performJumpToS_29 : decode nc_S_performJumpToS 29 = .ok (.invokevirtual 233, 3) := by decide +kernel
theorem nd_S_performJumpToS_32 : decode nc_S_performJumpToS 32 = .ok (.invokevirtual 239, 3) := by decide +kernel
theorem nd_S_performJumpToS_35 : decode nc_S_performJumpToS 35 = .ok (.ireturn, 1) := by decide +kernel
theorem nd_S_performOnTwo_0 : decode nc_S_performOnTwo 0 = .ok (.aload_n 0, 1) := by decide +kernel
theorem nd_S_performOnTwo_1 : decode nc_S_performOnTwo 1 = .ok (.iload_n 1, 1) := by decide +kernel
theorem nd_S_performOnTwo_2 : decode nc_S_performOnTwo 2 = .ok (.invokevirtual 233, 3) := by decide +kernel
theorem nd_S_performOnTwo_5 : decode nc_S_performOnTwo 5 = .ok (.istore_n 2, 1) := by decide +kernel
theorem nd_S_performOnTwo_6 : decode nc_S_performOnTwo 6 = .ok (.aload_n 0, 1) := by decide +kernel
theorem nd_S_performOnTwo_7 : decode nc_S_performOnTwo 7 = .ok (.iload_n 1, 1) := by decide +kernel
theorem nd_S_performOnTwo_8 : decode nc_S_performOnTwo 8 = .ok (.invokevirtual 227, 3) := by decide +kernel
theorem nd_S_performOnTwo_11 : decode nc_S_performOnTwo 11 = .ok (.istore_n 3, 1) := by decide +kernel
theorem nd_S_performOnTwo_12 : decode nc_S_performOnTwo 12 = .ok (.iload_n 1, 1) := by decide +kernel
theorem nd_S_performOnTwo_13 : decode nc_S_performOnTwo 13 = .ok (.invokestatic 230, 3) := by decide +kernel
theorem nd_S_performOnTwo_16 : decode nc_S_performOnTwo 16 = .ok (.istore 4, 2) := by decide +kernel
theorem nd_S_performOnTwo_18 : decode nc_S_performOnTwo 18 = .ok (.iload_n 1, 1) := by decide +kernel
theorem nd_S_performOnTwo_19 : decode nc_S_performOnTwo 19 = .ok (.invokestatic 209, 3) := by decide +kernel
theorem nd_S_performOnTwo_22 : decode nc_S_performOnTwo 22 = .ok (.tableswitch 189 32 43 #[62, 74, 84, 96, 106, 116, 126, 136, 189, 189, 148, 165], 62) := by decide +kernel
theorem nd_S_performOnTwo_84 : decode nc_S_performOnTwo 84 = .ok (.aload_n 0, 1) := by decide +kernel
theorem nd_S_performOnTwo_85 : decode nc_S_performOnTwo 85 = .ok (.iload 4, 2) := by decide +kernel
theorem nd_S_performOnTwo_87 : decode nc_S_performOnTwo 87 = .ok (.iload_n 2, 1) := by decide +kernel
theorem nd_S_performOnTwo_88 : decode nc_S_performOnTwo 88 = .ok (.i2l, 1) := by decide +kernel
theorem nd_S_performOnTwo_89 : decode nc_S_performOnTwo 89 = .ok (.iload_n 3, 1) := by decide +kernel
theorem nd_S_performOnTwo_90 : decode nc_S_performOnTwo 90 = .ok (.i2l, 1) := by decide +kernel
theorem nd_S_performOnTwo_91 : decode nc_S_performOnTwo 91 = .ok (.ladd, 1) := by decide +kernel
theorem nd_S_performOnTwo_92 : decode nc_S_performOnTwo 92 = .ok (.invokevirtual 243, 3) := by decide +kernel
theorem nd_S_performOnTwo_95 : decode nc_S_performOnTwo 95 = .ok (.ireturn, 1) := by decide +kernel
theorem nd_S_performOnTwo_96 : decode nc_S_performOnTwo 96 = .ok (.aload_n 0, 1) := by decide +kernel
theorem nd_S_performOnTwo_97 : decode nc_S_performOnTwo 97 = .ok (.iload 4, 2) := by decide +kernel
theorem nd_S_performOnTwo_99 : decode nc_S_performOnTwo 99 = .ok (.iload_n 2, 1) := by decide +kernel
theorem nd_S_performOnTwo_100 : decode nc_S_performOnTwo 100 = .ok (.iload_n 3, 1) := by decide +kernel
theorem nd_S_performOnTwo_101 : decode nc_S_performOnTwo 101 = .ok (.iadd, 1) := by decide +kernel
theorem nd_S_performOnTwo_102 : decode nc_S_performOnTwo 102 = .ok (.invokevirtual 205, 3) := by decide +kernel
theorem nd_S_performOnTwo_105 : decode nc_S_performOnTwo 105 = .ok (.ireturn, 1) := by decide +kernel
theorem nd_S_performOnTwo_106 : decode nc_S_performOnTwo 106 = .ok (.aload_n 0, 1) := by decide +kernel
theorem nd_S_performOnTwo_107 : decode nc_S_performOnTwo 107 = .ok (.iload 4, 2) := by decide +kernel
theorem nd_S_performOnTwo_109 : decode nc_S_performOnTwo 109 = .ok (.iload_n 2, 1) := by decide +kernel
theorem nd_S_performOnTwo_110 : decode nc_S_performOnTwo 110 = .ok (.i2l, 1) := by decide +kernel
theorem nd_S_performOnTwo_111 : decode nc_S_performOnTwo 111 = .ok (.iload_n 3, 1) := by decide +kernel
theorem nd_S_performOnTwo_112 : decode nc_S_performOnTwo 112 = .ok (.i2l, 1) := by decide +kernel
theorem nd_S_performOnTwo_113 : decode nc_S_performOnTwo 113 = .ok (.lsub, 1) := by decide +kernel
theorem nd_S_performOnTwo_114 : decode nc_S_performOnTwo 114 = .ok (.invokevirtual 243, 3) := by decide +kernel
theorem nd_S_performOnTwo_117 : decode nc_S_performOnTwo 117 = .ok (.ireturn, 1) := by decide +kernel
theorem nd_S_performOnTwo_118 : decode nc_S_performOnTwo 118 = .ok (.aload_n 0, 1) := by decide +kernel
theorem nd_S_performOnTwo_119 : decode nc_S_performOnTwo 119 = .ok (.iload 4, 2) := by decide +kernel
theorem nd_S_performOnTwo_121 : decode nc_S_performOnTwo 121 = .ok (.iload_n 2, 1) := by decide +kernel
theorem nd_S_performOnTwo_122 : decode nc_S_performOnTwo 122 = .ok (.iload_n 3, 1) := by decide +kernel
theorem nd_S_performOnTwo_123 : decode nc_S_performOnTwo 123 = .ok (.isub, 1) := by decide +kernel
theorem nd_S_performOnTwo_124 : decode nc_S_performOnTwo 124 = .ok (.invokevirtual 205, 3) := by decide +kernel
theorem nd_S_performOnTwo_127 : decode nc_S_performOnTwo 127 = .ok (.ireturn, 1) := by decide +kernel
theorem nd_S_performOnTwo_128 : decode nc_S_performOnTwo 128 = .ok (.aload_n 0, 1) := by decide +kernel
theorem nd_S_performOnTwo_129 : decode nc_S_performOnTwo 129 = .ok (.iload 4, 2) := by decide +kernel
theorem nd_S_performOnTwo_131 : decode nc_S_performOnTwo 131 = .ok (.iload_n 2, 1) := by decide +kernel
theorem nd_S_performOnTwo_132 : decode nc_S_performOnTwo 132 = .ok (.iload_n 3, 1) := by decide +kernel
theorem nd_S_performOnTwo_133 : decode nc_S_performOnTwo 133 = .ok (.iand, 1) := by decide +kernel
theorem nd_S_performOnTwo_134 : decode nc_S_performOnTwo 134 = .ok (.invokevirtual 205, 3) := by decide +kernel
theorem nd_S_performOnTwo_137 : decode nc_S_performOnTwo 137 = .ok (.ireturn, 1) := by decide +kernel
theorem nd_S_performOnTwo_138 : decode nc_S_performOnTwo 138 = .ok (.aload_n 0, 1) := by decide +kernel
theorem nd_S_performOnTwo_139 : decode nc_S_performOnTwo 139 = .ok (.iload 4, 2) := by decide +kernel
theorem nd_S_performOnTwo_141 : decode nc_S_performOnTwo 141 = .ok (.iload_n 2, 1) := by decide +kernel
theorem nd_S_performOnTwo_142 : decode nc_S_performOnTwo 142 = .ok (.iload_n 3, 1) := by decide +kernel
theorem nd_S_performOnTwo_143 : decode nc_S_performOnTwo 143 = .ok (.ior, 1) := by decide +kernel
theorem nd_S_performOnTwo_144 : decode nc_S_performOnTwo 144 = .ok (.invokevirtual 205, 3) := by decide +kernel
theorem nd_S_performOnTwo_147 : decode nc_S_performOnTwo 147 = .ok (.ireturn, 1) := by decide +kernel
theorem nd_S_performOnTwo_148 : decode nc_S_performOnTwo 148 = .ok (.aload_n 0, 1) := by decide +kernel
theorem nd_S_performOnTwo_149 : decode nc_S_performOnTwo 149 = .ok (.iload 4, 2) := by decide +kernel
theorem nd_S_performOnTwo_151 : decode nc_S_performOnTwo 151 = .ok (.iload_n 2, 1) := by decide +kernel
theorem nd_S_performOnTwo_152 : decode nc_S_performOnTwo 152 = .ok (.iload_n 3, 1) := by decide +kernel
theorem nd_S_performOnTwo_153 : decode nc_S_performOnTwo 153 = .ok (.ixor, 1) := by decide +kernel
theorem nd_S_performOnTwo_154 : decode nc_S_performOnTwo 154 = .ok (.invokevirtual 205, 3) := by decide +kernel
theorem nd_S_performOnTwo_157 : decode nc_S_performOnTwo 157 = .ok (.ireturn, 1) := by decide +kernel
theorem nd_S_performOnTwo_158 : decode nc_S_performOnTwo 158 = .ok (.aload_n 0, 1) := by decide +kernel
theorem nd_S_performOnTwo_159 : decode nc_S_performOnTwo 159 = .ok (.iload 4, 2) := by decide +kernel
theorem nd_S_performOnTwo_161 : decode nc_S_performOnTwo 161 = .ok (.iload_n 2, 1) := by decide +kernel
theorem nd_S_performOnTwo_162 : decode nc_S_performOnTwo 162 = .ok (.iload_n 3, 1) := by decide +kernel
theorem nd_S_performOnTwo_163 : decode nc_S_performOnTwo 163 = .ok (.ior, 1) := by decide +kernel
theorem nd_S_performOnTwo_164 : decode nc_S_performOnTwo 164 = .ok (.iconst (-1), 1) := by decide +kernel
theorem nd_S_performOnTwo_165 : decode nc_S_performOnTwo 165 = .ok (.ixor, 1) := by decide +kernel
theorem nd_S_performOnTwo_166 : decode nc_S_performOnTwo 166 = .ok (.invokevirtual 205, 3) := by decide +kernel
theorem nd_S_performOnTwo_169 : decode nc_S_performOnTwo 169 = .ok (.ireturn, 1) := by decide +kernel
theorem nd_S_performOnTwo_170 : decode nc_S_performOnTwo 170 = .ok (.aload_n 0, 1) := by decide +kernel
theorem nd_S_performOnTwo_171 : decode nc_S_performOnTwo 171 = .ok (.iload 4, 2) := by decide +kernel
theorem nd_S_performOnTwo_173 : decode nc_S_performOnTwo 173 = .ok (.iload_n 2, 1) := by decide +kernel
theorem nd_S_performOnTwo_174 : decode nc_S_performOnTwo 174 = .ok (.iload_n 3, 1) := by decide +kernel
theorem nd_S_performOnTwo_175 : decode nc_S_performOnTwo 175 = .ok (.if_icmp .ge 7, 3) := by decide +kernel
theorem nd_S_performOnTwo_178 : decode nc_S_performOnTwo 178 = .ok (.iconst 1, 1) := by decide +kernel
theorem nd_S_performOnTwo_179 : decode nc_S_performOnTwo 179 = .ok (.goto 4, 3) := by decide +kernel
theorem nd_S_performOnTwo_182 : decode nc_S_performOnTwo 182 = .ok (.iconst 0, 1) := by decide +kernel
theorem nd_S_performOnTwo_183 : decode nc_S_performOnTwo 183 = .ok (.invokevirtual 247, 3) := by decide +kernel
theorem nd_S_performOnTwo_186 : decode nc_S_performOnTwo 186 = .ok (.ireturn, 1) := by decide +kernel
theorem nd_S_performOnTwo_187 : decode nc_S_performOnTwo 187 = .ok (.aload_n 0, 1) := by decide +kernel
theorem nd_S_performOnTwo_188 : decode nc_S_performOnTwo 188 = .ok (.iload 4, 2) := by decide +kernel
theorem nd_S_performOnTwo_190 : decode nc_S_performOnTwo 190 = .ok (.iload_n 2, 1) := by decide +kernel
theorem nd_S_performOnTwo_191 : decode nc_S_performOnTwo 191 = .ok (.invokestatic 251, 3) := by decide +kernel
theorem nd_S_performOnTwo_194 : decode nc_S_performOnTwo 194 = .ok (.iload_n 3, 1) := by decide +kernel
theorem nd_S_performOnTwo_195 : decode nc_S_performOnTwo 195 = .ok (.invokestatic 251, 3) := by decide +kernel
theorem nd_S_performOnTwo_198 : decode nc_S_performOnTwo 198 = .ok (.lcmp, 1) := by decide +kernel
theorem nd_S_performOnTwo_199 : decode nc_S_performOnTwo 199 = .ok (.ifCond .ge 7, 3) := by decide +kernel
theorem nd_S_performOnTwo_202 : decode nc_S_performOnTwo 202 = .ok (.iconst 1, 1) := by decide +kernel
theorem nd_S_performOnTwo_203 : decode nc_S_performOnTwo 203 = .ok (.goto 4, 3) := by decide +kernel
theorem nd_S_performOnTwo_206 : decode nc_S_performOnTwo 206 = .ok (.iconst 0, 1) := by decide +kernel
theorem nd_S_performOnTwo_207 : decode nc_S_performOnTwo 207 = .ok (.invokevirtual 247, 3) := by decide +kernel
theorem nd_S_performOnTwo_210 : decode nc_S_performOnTwo 210 = .ok (.ireturn, 1) := by decide +kernel
theorem nd_S_performOnTwo_211 : decode nc_S_performOnTwo 211 = .ok (.bipush 10, 2) := by decide +kernel
theorem nd_S_performOnTwo_213 : decode nc_S_performOnTwo 213 = .ok (.ireturn, 1) := by decide +kernel
theorem nd_S_performMove_0 : decode nc_S_performMove 0 = .ok (.iload_n 1, 1) := by decide +kernel
theorem nd_S_performMove_1 : decode nc_S_performMove 1 = .ok (.invokestatic 209, 3) := by decide +kernel
theorem nd_S_performMove_4 : decode nc_S_performMove 4 = .ok (.tableswitch 76 16 18 #[28, 46, 58], 28) := by decide +kernel
theorem nd_S_performMove_32 : decode nc_S_performMove 32 = .ok (.aload_n 0, 1) := by decide +kernel
theorem nd_S_performMove_33 : decode nc_S_performMove 33 = .ok (.iload_n 1, 1) := by decide +kernel
theorem nd_S_performMove_34 : decode nc_S_performMove 34 = .ok (.invokestatic 230, 3) := by decide +kernel
theorem nd_S_performMove_37 : decode nc_S_performMove 37 = .ok (.aload_n 0, 1) := by decide +kernel
theorem nd_S_performMove_38 : decode nc_S_performMove 38 = .ok (.getfield 19, 3) := by decide +kernel
theorem nd_S_performMove_41 : decode nc_S_performMove 41 = .ok (.bipush 32, 2) := by decide +kernel
theorem nd_S_performMove_43 : decode nc_S_performMove 43 = .ok (.invokevirtual 70, 3) := by decide +kernel
theorem nd_S_performMove_46 : decode nc_S_performMove 46 = .ok (.invokevirtual 205, 3) := by decide +kernel
theorem nd_S_performMove_49 : decode nc_S_performMove 49 = .ok (.ireturn, 1) := by decide +kernel
theorem nd_S_performMove_50 : decode nc_S_performMove 50 = .ok (.aload_n 0, 1) := by decide +kernel
theorem nd_S_performMove_51 : decode nc_S_performMove 51 = .ok (.bipush 32, 2) := by decide +kernel
theorem nd_S_performMove_53 : decode nc_S_performMove 53 = .ok (.aload_n 0, 1) := by decide +kernel
theorem nd_S_performMove_54 : decode nc_S_performMove 54 = .ok (.iload_n 1, 1) := by decide +kernel
theorem nd_S_performMove_55 : decode nc_S_performMove 55 = .ok (.invokevirtual 233, 3) := by decide +kernel
theorem nd_S_performMove_58 : decode nc_S_performMove 58 = .ok (.invokevirtual 205, 3) := by decide +kernel
theorem nd_S_performMove_61 : decode nc_S_performMove 61 = .ok (.ireturn, 1) := by decide +kernel
theorem nd_S_performMove_62 : decode nc_S_performMove 62 = .ok (.aload_n 0, 1) := by decide +kernel
theorem nd_S_performMove_63 : decode nc_S_performMove 63 = .ok (.iload_n 1, 1) := by decide +kernel
theorem nd_S_performMove_64 : decode nc_S_performMove 64 = .ok (.invokestatic 230, 3) := by decide +kernel
theorem nd_S_performMove_67 : decode nc_S_performMove 67 = .ok (.aload_n 0, 1) := by decide +kernel
theorem nd_S_performMove_68 : decode nc_S_performMove 68 = .ok (.getfield 19, 3) := by decide +kernel
theorem nd_S_performMove_71 : decode nc_S_performMove 71 = .ok (.bipush 33, 2) := by decide +kernel
theorem nd_S_performMove_73 : decode nc_S_performMove 73 = .ok (.invokevirtual 70, 3) := by decide +kernel
theorem nd_S_performMove_76 : decode nc_S_performMove 76 = .ok (.invokevirtual 205, 3) := by decide +kernel
theorem nd_S_performMove_79 : decode nc_S_performMove 79 = .ok (.ireturn, 1) := by decide +kernel
theorem nd_S_performMove_80 : decode nc_S_performMove 80 = .ok (.aload_n 0, 1) := by decide +kernel
theorem nd_S_performMove_81 : decode nc_S_performMove 81 = .ok (.bipush 33, 2) := by decide +kernel
theorem nd_S_performMove_83 : decode nc_S_performMove 83 = .ok (.aload_n 0, 1) := by decide +kernel
theorem nd_S_performMove_84 : decode nc_S_performMove 84 = .ok (.iload_n 1, 1) := by decide +kernel
theorem nd_S_performMove_85 : decode nc_S_performMove 85 = .ok (.invokevirtual 233, 3) := by decide +kernel
theorem nd_S_performMove_88 : decode nc_S_performMove 88 = .ok (.invokevirtual 205, 3) := by decide +kernel
theorem nd_S_performMove_91 : decode nc_S_performMove 91 = .ok (.ireturn, 1) := by decide +kernel
theorem nd_S_performProduct_0 : decode nc_S_performProduct 0 = .ok (.aload_n 0, 1) := by decide +kernel
theorem nd_S_performProduct_1 : decode nc_S_performProduct 1 = .ok (.iload_n 1, 1) := by decide +kernel
theorem nd_S_performProduct_2 : decode nc_S_performProduct 2 = .ok (.invokevirtual 233, 3) := by decide +kernel
theorem nd_S_performProduct_5 : decode nc_S_performProduct 5 = .ok (.istore_n 2, 1) := by decide +kernel
theorem nd_S_performProduct_6 : decode nc_S_performProduct 6 = .ok (.aload_n 0, 1) := by decide +kernel
theorem nd_S_performProduct_7 : decode nc_S_performProduct 7 = .ok (.iload_n 1, 1) := by decide +kernel
theorem nd_S_performProduct_8 : decode nc_S_performProduct 8 = .ok (.invokevirtual 227, 3) := by decide +kernel
theorem nd_S_performProduct_11 : decode nc_S_performProduct 11 = .ok (.istore_n 3, 1) := by decide +kernel
theorem nd_S_performProduct_12 : decode nc_S_performProduct 12 = .ok (.iload_n 1, 1) := by decide +kernel
theorem nd_S_performProduct_13 : decode nc_S_performProduct 13 = .ok (.invokestatic 209, 3) := by decide +kernel
theorem nd_S_performProduct_16 : decode nc_S_performProduct 16 = .ok (.tableswitch 62 24 26 #[28, 38, 52], 28) := by decide +kernel
theorem nd_S_performProduct_44 : decode nc_S_performProduct 44 = .ok (.aload_n 0, 1) := by decide +kernel
theorem nd_S_performProduct_45 : decode nc_S_performProduct 45 = .ok (.iload_n 2, 1) := by decide +kernel
theorem nd_S_performProduct_46 : decode nc_S_performProduct 46 = .ok (.i2l, 1) := by decide +kernel
theorem nd_S_performProduct_47 : decode nc_S_performProduct 47 = .ok (.iload_n 3, 1) := by decide +kernel
theorem nd_S_performProduct_48 : decode nc_S_performProduct 48 = .ok (.i2l, 1) := by decide +kernel
theorem nd_S_performProduct_49 : decode nc_S_performProduct 49 = .ok (.lmul, 1) := by decide +kernel
theorem nd_S_performProduct_50 : decode nc_S_performProduct 50 = .ok (.invokevirtual 255, 3) := by decide +kernel
theorem nd_S_performProduct_53 : decode nc_S_performProduct 53 = .ok (.ireturn, 1) := by decide +kernel
theorem nd_S_performProduct_54 : decode nc_S_performProduct 54 = .ok (.aload_n 0, 1) := by decide +kernel
theorem nd_S_performProduct_55 : decode nc_S_performProduct 55 = .ok (.iload_n 2, 1) := by decide +kernel
theorem nd_S_performProduct_56 : decode nc_S_performProduct 56 = .ok (.invokestatic 251, 3) := by decide +kernel
theorem nd_S_performProduct_59 : decode nc_S_performProduct 59 = .ok (.iload_n 3, 1) := by decide +kernel
theorem nd_S_performProduct_60 : decode nc_S_performProduct 60 = .ok (.invokestatic 251, 3) := by decide +kernel
theorem nd_S_performProduct_63 : decode nc_S_performProduct 63 = .ok (.lmul, 1) := by decide +kernel
theorem nd_S_performProduct_64 : decode nc_S_performProduct 64 = .ok (.invokevirtual 255, 3) := by decide +kernel
theorem nd_S_performProduct_67 : decode nc_S_performProduct 67 = .ok (.ireturn, 1) := by decide +kernel
theorem nd_S_performProduct_68 : decode nc_S_performProduct 68 = .ok (.aload_n 0, 1) := by decide +kernel
theorem nd_S_performProduct_69 : decode nc_S_performProduct 69 = .ok (.iload_n 2, 1) := by decide +kernel
theorem nd_S_performProduct_70 : decode nc_S_performProduct 70 = .ok (.iload_n 3, 1) := by decide +kernel
theorem nd_S_performProduct_71 : decode nc_S_performProduct 71 = .ok (.invokestatic 259, 3) := by decide +kernel
theorem nd_S_performProduct_74 : decode nc_S_performProduct 74 = .ok (.invokevirtual 255, 3) := by decide +kernel
theorem nd_S_performProduct_77 : decode nc_S_performProduct 77 = .ok (.ireturn, 1) := by decide +kernel
theorem nd_S_performProduct_78 : decode nc_S_performProduct 78 = .ok (.aload_n 0, 1) := by decide +kernel
theorem nd_S_performProduct_79 : decode nc_S_performProduct 79 = .ok (.iload_n 2, 1) := by decide +kernel
theorem nd_S_performProduct_80 : decode nc_S_performProduct 80 = .ok (.iload_n 3, 1) := by decide +kernel
theorem nd_S_performProduct_81 : decode nc_S_performProduct 81 = .ok (.invokestatic 263, 3) := by decide +kernel
theorem nd_S_performProduct_84 : decode nc_S_performProduct 84 = .ok (.invokevirtual 255, 3) := by decide +kernel
theorem nd_S_performProduct_87 : decode nc_S_performProduct 87 = .ok (.ireturn, 1) := by decide +kernel
theorem nd_S_divide_0 : decode nc_S_divide 0 = .ok (.iload_n 1, 1) := by decide +kernel
theorem nd_S_divide_1 : decode nc_S_divide 1 = .ok (.ifCond .ne 20, 3) := by decide +kernel
theorem nd_S_divide_4 : decode nc_S_divide 4 = .ok (.iload_n 0, 1) := by decide +kernel
theorem nd_S_divide_5 : decode nc_S_divide 5 = .ok (.i2l, 1) := by decide +kernel
theorem nd_S_divide_6 : decode nc_S_divide 6 = .ok (.iload_n 0, 1) := by decide +kernel
theorem nd_S_divide_7 : decode nc_S_divide 7 = .ok (.ifCond .ge 7, 3) := by decide +kernel
theorem nd_S_divide_10 : decode nc_S_divide 10 = .ok (.lconst 1, 1) := by decide +kernel
theorem nd_S_divide_11 : decode nc_S_divide 11 = .ok (.goto 6, 3) := by decide +kernel
theorem nd_S_divide_14 : decode nc_S_divide 14 = .ok (.ldc2_w 266, 3) := by decide +kernel
theorem nd_S_divide_17 : decode nc_S_divide 17 = .ok (.invokestatic 268, 3) := by decide +kernel
theorem nd_S_divide_20 : decode nc_S_divide 20 = .ok (.lreturn, 1) := by decide +kernel
theorem nd_S_divide_21 : decode nc_S_divide 21 = .ok (.iload_n 0, 1) := by decide +kernel
theorem nd_S_divide_22 : decode nc_S_divide 22 = .ok (.i2l, 1) := by decide +kernel
theorem nd_S_divide_23 : decode nc_S_divide 23 = .ok (.lstore_n 2, 1) := by decide +kernel
theorem nd_S_divide_24 : decode nc_S_divide 24 = .ok (.lload_n 2, 1) := by decide +kernel
theorem nd_S_divide_25 : decode nc_S_divide 25 = .ok (.iload_n 1, 1) := by decide +kernel
theorem nd_S_divide_26 : decode nc_S_divide 26 = .ok (.i2l, 1) := by decide +kernel
theorem nd_S_divide_27 : decode nc_S_divide 27 = .ok (.lrem, 1) := by decide +kernel
theorem nd_S_divide_28 : decode nc_S_divide 28 = .ok (.lload_n 2, 1) := by decide +kernel
theorem nd_S_divide_29 : decode nc_S_divide 29 = .ok (.iload_n 1, 1) := by decide +kernel
theorem nd_S_divide_30 : decode nc_S_divide 30 = .ok (.i2l, 1) := by decide +kernel
theorem nd_S_divide_31 : decode nc_S_divide 31 = .ok (.ldiv, 1) := by decide +kernel
theorem nd_S_divide_32 : decode nc_S_divide 32 = .ok (.invokestatic 268, 3) := by decide +kernel
theorem nd_S_divide_35 : decode nc_S_divide 35 = .ok (.lreturn, 1) := by decide +kernel
theorem nd_S_divideWithoutSign_0 : decode nc_S_divideWithoutSign 0 = .ok (.iload_n 1, 1) := by decide +kernel
theorem nd_S_divideWithoutSign_1 : decode nc_S_divideWithoutSign 1 = .ok (.ifCond .ne 12, 3) := by decide +kernel
theorem nd_S_divideWithoutSign_4 : decode nc_S_divideWithoutSign 4 = .ok (.iload_n 0, 1) := by decide +kernel
theorem nd_S_divideWithoutSign_5 : decode nc_S_divideWithoutSign 5 = .ok (.i2l, 1) := by decide +kernel
theorem nd_S_divideWithoutSign_6 : decode nc_S_divideWithoutSign 6 = .ok (.ldc2_w 266, 3) := by decide +kernel
theorem nd_S_divideWithoutSign_9 : decode nc_S_divideWithoutSign 9 = .ok (.invokestatic 268, 3) := by decide +kernel
theorem nd_S_divideWithoutSign_12 : decode nc_S_divideWithoutSign 12 = .ok (.lreturn, 1) := by decide +kernel
theorem nd_S_divideWithoutSign_13 : decode nc_S_divideWithoutSign 13 = .ok (.iload_n 0, 1) := by decide +kernel
theorem nd_S_divideWithoutSign_14 : decode nc_S_divideWithoutSign 14 = .ok (.invokestatic 251, 3) := by decide +kernel
theorem nd_S_divideWithoutSign_17 : decode nc_S_divideWithoutSign 17 = .ok (.lstore_n 2, 1) := by decide +kernel
theorem nd_S_divideWithoutSign_18 : decode nc_S_divideWithoutSign 18 = .ok (.iload_n 1, 1) := by decide +kernel
theorem nd_S_divideWithoutSign_19 : decode nc_S_divideWithoutSign 19 = .ok (.invokestatic 251, 3) := by decide +kernel
theorem nd_S_divideWithoutSign_22 : decode nc_S_divideWithoutSign 22 = .ok (.lstore 4, 2) := by decide +kernel
theorem nd_S_divideWithoutSign_24 : decode nc_S_divideWithoutSign 24 = .ok (.lload_n 2, 1) := by decide +kernel
end
section
theorem nd_S_divideWithoutSign_25 : decode nc_S_divideWithoutSign 25 = .ok (.lload 4, 2) := by decide +kernel
theorem nd_S_divideWithoutSign_27 : decode nc_S_divideWithoutSign 27 = .ok (.lrem, 1) := by decide +kernel
theorem nd_S_divideWithoutSign_28 : decode nc_S_divideWithoutSign 28 = .ok (.lload_n 2, 1) := by decide +kernel
theorem nd_S_divideWithoutSign_29 : decode nc_S_divideWithoutSign 29 = .ok (.lload 4, 2) := by decide +kernel
theorem nd_S_divideWithoutSign_31 : decode nc_S_divideWithoutSign 31 = .ok (.ldiv, 1) := by decide +kernel
theorem nd_S_divideWithoutSign_32 : decode nc_S_divideWithoutSign 32 = .ok (.invokestatic 268, 3) := by decide +kernel
theorem nd_S_divideWithoutSign_35 : decode nc_S_divideWithoutSign 35 = .ok (.lreturn, 1) := by decide +kernel
theorem nd_S_restAndQuotient_0 : decode nc_S_restAndQuotient 0 = .ok (.lload_n 0, 1) := by decide +kernel
theorem nd_S_restAndQuotient_1 : decode nc_S_restAndQuotient 1 = .ok (.bipush 32, 2) := by decide +kernel
theorem nd_S_restAndQuotient_3 : decode nc_S_restAndQuotient 3 = .ok (.lshl, 1) := by decide +kernel
theorem nd_S_restAndQuotient_4 : decode nc_S_restAndQuotient 4 = .ok (.lload_n 2, 1) := by decide +kernel
theorem nd_S_restAndQuotient_5 : decode nc_S_restAndQuotient 5 = .ok (.ldc2_w 203, 3) := by decide +kernel
theorem nd_S_restAndQuotient_8 : decode nc_S_restAndQuotient 8 = .ok (.land, 1) := by decide +kernel
theorem nd_S_restAndQuotient_9 : decode nc_S_restAndQuotient 9 = .ok (.lor, 1) := by decide +kernel
theorem nd_S_restAndQuotient_10 : decode nc_S_restAndQuotient 10 = .ok (.lreturn, 1) := by decide +kernel
theorem nd_S_isBranch_0 : decode nc_S_isBranch 0 = .ok (.iload_n 0, 1) := by decide +kernel
theorem nd_S_isBranch_1 : decode nc_S_isBranch 1 = .ok (.invokestatic 169, 3) := by decide +kernel
theorem nd_S_isBranch_4 : decode nc_S_isBranch 4 = .ok (.istore_n 1, 1) := by decide +kernel
theorem nd_S_isBranch_5 : decode nc_S_isBranch 5 = .ok (.iload_n 1, 1) := by decide +kernel
theorem nd_S_isBranch_6 : decode nc_S_isBranch 6 = .ok (.ifCond .ne 27, 3) := by decide +kernel
theorem nd_S_isBranch_9 : decode nc_S_isBranch 9 = .ok (.iload_n 0, 1) := by decide +kernel
theorem nd_S_isBranch_10 : decode nc_S_isBranch 10 = .ok (.invokestatic 209, 3) := by decide +kernel
theorem nd_S_isBranch_13 : decode nc_S_isBranch 13 = .ok (.bipush 8, 2) := by decide +kernel
theorem nd_S_isBranch_15 : decode nc_S_isBranch 15 = .ok (.if_icmp .eq 12, 3) := by decide +kernel
theorem nd_S_isBranch_18 : decode nc_S_isBranch 18 = .ok (.iload_n 0, 1) := by decide +kernel
theorem nd_S_isBranch_19 : decode nc_S_isBranch 19 = .ok (.invokestatic 209, 3) := by decide +kernel
theorem nd_S_isBranch_22 : decode nc_S_isBranch 22 = .ok (.bipush 9, 2) := by decide +kernel
theorem nd_S_isBranch_24 : decode nc_S_isBranch 24 = .ok (.if_icmp .ne 7, 3) := by decide +kernel
theorem nd_S_isBranch_27 : decode nc_S_isBranch 27 = .ok (.iconst 1, 1) := by decide +kernel
theorem nd_S_isBranch_28 : decode nc_S_isBranch 28 = .ok (.goto 4, 3) := by decide +kernel
theorem nd_S_isBranch_31 : decode nc_S_isBranch 31 = .ok (.iconst 0, 1) := by decide +kernel
theorem nd_S_isBranch_32 : decode nc_S_isBranch 32 = .ok (.ireturn, 1) := by decide +kernel
theorem nd_S_isBranch_33 : decode nc_S_isBranch 33 = .ok (.iload_n 1, 1) := by decide +kernel
theorem nd_S_isBranch_34 : decode nc_S_isBranch 34 = .ok (.iconst 1, 1) := by decide +kernel
theorem nd_S_isBranch_35 : decode nc_S_isBranch 35 = .ok (.if_icmp .ne 8, 3) := by decide +kernel
theorem nd_S_isBranch_38 : decode nc_S_isBranch 38 = .ok (.iload_n 0, 1) := by decide +kernel
theorem nd_S_isBranch_39 : decode nc_S_isBranch 39 = .ok (.invokestatic 272, 3) := by decide +kernel
theorem nd_S_isBranch_42 : decode nc_S_isBranch 42 = .ok (.ireturn, 1) := by decide +kernel
theorem nd_S_isBranch_43 : decode nc_S_isBranch 43 = .ok (.iload_n 1, 1) := by decide +kernel
theorem nd_S_isBranch_44 : decode nc_S_isBranch 44 = .ok (.bipush 8, 2) := by decide +kernel
theorem nd_S_isBranch_46 : decode nc_S_isBranch 46 = .ok (.if_icmp .ge 7, 3) := by decide +kernel
theorem nd_S_isBranch_49 : decode nc_S_isBranch 49 = .ok (.iconst 1, 1) := by decide +kernel
theorem nd_S_isBranch_50 : decode nc_S_isBranch 50 = .ok (.goto 4, 3) := by decide +kernel
theorem nd_S_isBranch_53 : decode nc_S_isBranch 53 = .ok (.iconst 0, 1) := by decide +kernel
theorem nd_S_isBranch_54 : decode nc_S_isBranch 54 = .ok (.ireturn, 1) := by decide +kernel
theorem nd_S_isBranchBySign_0 : decode nc_S_isBranchBySign 0 = .ok (.iload_n 0, 1) := by decide +kernel
theorem nd_S_isBranchBySign_1 : decode nc_S_isBranchBySign 1 = .ok (.invokestatic 200, 3) := by decide +kernel
theorem nd_S_isBranchBySign_4 : decode nc_S_isBranchBySign 4 = .ok (.istore_n 1, 1) := by decide +kernel
theorem nd_S_isBranchBySign_5 : decode nc_S_isBranchBySign 5 = .ok (.iload_n 1, 1) := by decide +kernel
theorem nd_S_isBranchBySign_6 : decode nc_S_isBranchBySign 6 = .ok (.ifCond .eq 20, 3) := by decide +kernel
theorem nd_S_isBranchBySign_9 : decode nc_S_isBranchBySign 9 = .ok (.iload_n 1, 1) := by decide +kernel
theorem nd_S_isBranchBySign_10 : decode nc_S_isBranchBySign 10 = .ok (.iconst 1, 1) := by decide +kernel
theorem nd_S_isBranchBySign_11 : decode nc_S_isBranchBySign 11 = .ok (.if_icmp .eq 15, 3) := by decide +kernel
theorem nd_S_isBranchBySign_14 : decode nc_S_isBranchBySign 14 = .ok (.iload_n 1, 1) := by decide +kernel
theorem nd_S_isBranchBySign_15 : decode nc_S_isBranchBySign 15 = .ok (.bipush 16, 2) := by decide +kernel
theorem nd_S_isBranchBySign_17 : decode nc_S_isBranchBySign 17 = .ok (.if_icmp .eq 9, 3) := by decide +kernel
theorem nd_S_isBranchBySign_20 : decode nc_S_isBranchBySign 20 = .ok (.iload_n 1, 1) := by decide +kernel
theorem nd_S_isBranchBySign_21 : decode nc_S_isBranchBySign 21 = .ok (.bipush 17, 2) := by decide +kernel
theorem nd_S_isBranchBySign_23 : decode nc_S_isBranchBySign 23 = .ok (.if_icmp .ne 7, 3) := by decide +kernel
theorem nd_S_isBranchBySign_26 : decode nc_S_isBranchBySign 26 = .ok (.iconst 1, 1) := by decide +kernel
theorem nd_S_isBranchBySign_27 : decode nc_S_isBranchBySign 27 = .ok (.goto 4, 3) := by decide +kernel
theorem nd_S_isBranchBySign_30 : decode nc_S_isBranchBySign 30 = .ok (.iconst 0, 1) := by decide +kernel
theorem nd_S_isBranchBySign_31 : decode nc_S_isBranchBySign 31 = .ok (.ireturn, 1) := by decide +kernel
theorem nd_S_performBranchBySign_0 : decode nc_S_performBranchBySign 0 = .ok (.iload_n 1, 1) := by decide +kernel
theorem nd_S_performBranchBySign_1 : decode nc_S_performBranchBySign 1 = .ok (.invokestatic 272, 3) := by decide +kernel
theorem nd_S_performBranchBySign_4 : decode nc_S_performBranchBySign 4 = .ok (.ifCond .ne 6, 3) := by decide +kernel
theorem nd_S_performBranchBySign_7 : decode nc_S_performBranchBySign 7 = .ok (.bipush 10, 2) := by decide +kernel
theorem nd_S_performBranchBySign_9 : decode nc_S_performBranchBySign 9 = .ok (.ireturn, 1) := by decide +kernel
theorem nd_S_performBranchBySign_10 : decode nc_S_performBranchBySign 10 = .ok (.aload_n 0, 1) := by decide +kernel
theorem nd_S_performBranchBySign_11 : decode nc_S_performBranchBySign 11 = .ok (.iload_n 1, 1) := by decide +kernel
theorem nd_S_performBranchBySign_12 : decode nc_S_performBranchBySign 12 = .ok (.invokevirtual 233, 3) := by decide +kernel
theorem nd_S_performBranchBySign_15 : decode nc_S_performBranchBySign 15 = .ok (.istore_n 2, 1) := by decide +kernel
theorem nd_S_performBranchBySign_16 : decode nc_S_performBranchBySign 16 = .ok (.iload_n 1, 1) := by decide +kernel
theorem nd_S_performBranchBySign_17 : decode nc_S_performBranchBySign 17 = .ok (.invokestatic 200, 3) := by decide +kernel
theorem nd_S_performBranchBySign_20 : decode nc_S_performBranchBySign 20 = .ok (.istore_n 3, 1) := by decide +kernel
theorem nd_S_performBranchBySign_21 : decode nc_S_performBranchBySign 21 = .ok (.iload_n 3, 1) := by decide +kernel
theorem nd_S_performBranchBySign_22 : decode nc_S_performBranchBySign 22 = .ok (.bipush 16, 2) := by decide +kernel
theorem nd_S_performBranchBySign_24 : decode nc_S_performBranchBySign 24 = .ok (.if_icmp .eq 9, 3) := by decide +kernel
theorem nd_S_performBranchBySign_27 : decode nc_S_performBranchBySign 27 = .ok (.iload_n 3, 1) := by decide +kernel
theorem nd_S_performBranchBySign_28 : decode nc_S_performBranchBySign 28 = .ok (.bipush 17, 2) := by decide +kernel
theorem nd_S_performBranchBySign_30 : decode nc_S_performBranchBySign 30 = .ok (.if_icmp .ne 17, 3) := by decide +kernel
theorem nd_S_performBranchBySign_33 : decode nc_S_performBranchBySign 33 = .ok (.aload_n 0, 1) := by decide +kernel
theorem nd_S_performBranchBySign_34 : decode nc_S_performBranchBySign 34 = .ok (.bipush 31, 2) := by decide +kernel
theorem nd_S_performBranchBySign_36 : decode nc_S_performBranchBySign 36 = .ok (.aload_n 0, 1) := by decide +kernel
theorem nd_S_performBranchBySign_37 : decode nc_S_performBranchBySign 37 = .ok (.getfield 76, 3) := by decide +kernel
theorem nd_S_performBranchBySign_40 : decode nc_S_performBranchBySign 40 = .ok (.bipush 8, 2) := by decide +kernel
theorem nd_S_performBranchBySign_42 : decode nc_S_performBranchBySign 42 = .ok (.iadd, 1) := by decide +kernel
theorem nd_S_performBranchBySign_43 : decode nc_S_performBranchBySign 43 = .ok (.invokevirtual 205, 3) := by decide +kernel
theorem nd_S_performBranchBySign_46 : decode nc_S_performBranchBySign 46 = .ok (.pop, 1) := by decide +kernel
theorem nd_S_performBranchBySign_47 : decode nc_S_performBranchBySign 47 = .ok (.iload_n 3, 1) := by decide +kernel
theorem nd_S_performBranchBySign_48 : decode nc_S_performBranchBySign 48 = .ok (.ifCond .eq 9, 3) := by decide +kernel
theorem nd_S_performBranchBySign_51 : decode nc_S_performBranchBySign 51 = .ok (.iload_n 3, 1) := by decide +kernel
theorem nd_S_performBranchBySign_52 : decode nc_S_performBranchBySign 52 = .ok (.bipush 16, 2) := by decide +kernel
theorem nd_S_performBranchBySign_54 : decode nc_S_performBranchBySign 54 = .ok (.if_icmp .ne 7, 3) := by decide +kernel
theorem nd_S_performBranchBySign_57 : decode nc_S_performBranchBySign 57 = .ok (.iconst 1, 1) := by decide +kernel
theorem nd_S_performBranchBySign_58 : decode nc_S_performBranchBySign 58 = .ok (.goto 4, 3) := by decide +kernel
theorem nd_S_performBranchBySign_61 : decode nc_S_performBranchBySign 61 = .ok (.iconst 0, 1) := by decide +kernel
theorem nd_S_performBranchBySign_62 : decode nc_S_performBranchBySign 62 = .ok (.istore 4, 2) := by decide +kernel
theorem nd_S_performBranchBySign_64 : decode nc_S_performBranchBySign 64 = .ok (.aload_n 0, 1) := by decide +kernel
theorem nd_S_performBranchBySign_65 : decode nc_S_performBranchBySign 65 = .ok (.iload 4, 2) := by decide +kernel
theorem nd_S_performBranchBySign_67 : decode nc_S_performBranchBySign 67 = .ok (.iload_n 2, 1) := by decide +kernel
theorem nd_S_performBranchBySign_68 : decode nc_S_performBranchBySign 68 = .ok (.ifCond .ge 7, 3) := by decide +kernel
theorem nd_S_performBranchBySign_71 : decode nc_S_performBranchBySign 71 = .ok (.iconst 1, 1) := by decide +kernel
theorem nd_S_performBranchBySign_72 : decode nc_S_performBranchBySign 72 = .ok (.goto 4, 3) := by decide +kernel
theorem nd_S_performBranchBySign_75 : decode nc_S_performBranchBySign 75 = .ok (.iconst 0, 1) := by decide +kernel
theorem nd_S_performBranchBySign_76 : decode nc_S_performBranchBySign 76 = .ok (.if_icmp .ne 7, 3) := by decide +kernel
theorem nd_S_performBranchBySign_79 : decode nc_S_performBranchBySign 79 = .ok (.iconst 1, 1) := by decide +kernel
theorem nd_S_performBranchBySign_80 : decode nc_S_performBranchBySign 80 = .ok (.goto 4, 3) := by decide +kernel
theorem nd_S_performBranchBySign_83 : decode nc_S_performBranchBySign 83 = .ok (.iconst 0, 1) := by decide +kernel
theorem nd_S_performBranchBySign_84 : decode nc_S_performBranchBySign 84 = .ok (.aload_n 0, 1) := by decide +kernel
theorem nd_S_performBranchBySign_85 : decode nc_S_performBranchBySign 85 = .ok (.iload_n 1, 1) := by decide +kernel
theorem nd_S_performBranchBySign_86 : decode nc_S_performBranchBySign 86 = .ok (.invokevirtual 275, 3) := by decide +kernel
theorem nd_S_performBranchBySign_89 : decode nc_S_performBranchBySign 89 = .ok (.invokevirtual 239, 3) := by decide +kernel
theorem nd_S_performBranchBySign_92 : decode nc_S_performBranchBySign 92 = .ok (.ireturn, 1) := by decide +kernel
theorem nd_S_performJump_0 : decode nc_S_performJump 0 = .ok (.iload_n 1, 1) := by decide +kernel
theorem nd_S_performJump_1 : decode nc_S_performJump 1 = .ok (.invokestatic 169, 3) := by decide +kernel
theorem nd_S_performJump_4 : decode nc_S_performJump 4 = .ok (.iconst 3, 1) := by decide +kernel
theorem nd_S_performJump_5 : decode nc_S_performJump 5 = .ok (.if_icmp .ne 17, 3) := by decide +kernel
theorem nd_S_performJump_8 : decode nc_S_performJump 8 = .ok (.aload_n 0, 1) := by decide +kernel
theorem nd_S_performJump_9 : decode nc_S_performJump 9 = .ok (.bipush 31, 2) := by decide +kernel
theorem nd_S_performJump_11 : decode nc_S_performJump 11 = .ok (.aload_n 0, 1) := by decide +kernel
theorem nd_S_performJump_12 : decode nc_S_performJump 12 = .ok (.getfield 76, 3) := by decide +kernel
theorem nd_S_performJump_15 : decode nc_S_performJump 15 = .ok (.bipush 8, 2) := by decide +kernel
theorem nd_S_performJump_17 : decode nc_S_performJump 17 = .ok (.iadd, 1) := by decide +kernel
theorem nd_S_performJump_18 : decode nc_S_performJump 18 = .ok (.invokevirtual 205, 3) := by decide +kernel
theorem nd_S_performJump_21 : decode nc_S_performJump 21 = .ok (.pop, 1) := by decide +kernel
theorem nd_S_performJump_22 : decode nc_S_performJump 22 = .ok (.aload_n 0, 1) := by decide +kernel
theorem nd_S_performJump_23 : decode nc_S_performJump 23 = .ok (.iconst 1, 1) := by decide +kernel
theorem nd_S_performJump_24 : decode nc_S_performJump 24 = .ok (.aload_n 0, 1) := by decide +kernel
theorem nd_S_performJump_25 : decode nc_S_performJump 25 = .ok (.iload_n 1, 1) := by decide +kernel
theorem nd_S_performJump_26 : decode nc_S_performJump 26 = .ok (.invokevirtual 278, 3) := by decide +kernel
theorem nd_S_performJump_29 : decode nc_S_performJump 29 = .ok (.invokevirtual 239, 3) := by decide +kernel
theorem nd_S_performJump_32 : decode nc_S_performJump 32 = .ok (.ireturn, 1) := by decide +kernel
theorem nd_S_performBranch_0 : decode nc_S_performBranch 0 = .ok (.aload_n 0, 1) := by decide +kernel
theorem nd_S_performBranch_1 : decode nc_S_performBranch 1 = .ok (.iload_n 1, 1) := by decide +kernel
theorem nd_S_performBranch_2 : decode nc_S_performBranch 2 = .ok (.invokevirtual 233, 3) := by decide +kernel
theorem nd_S_performBranch_5 : decode nc_S_performBranch 5 = .ok (.istore_n 2, 1) := by decide +kernel
theorem nd_S_performBranch_6 : decode nc_S_performBranch 6 = .ok (.aload_n 0, 1) := by decide +kernel
theorem nd_S_performBranch_7 : decode nc_S_performBranch 7 = .ok (.iload_n 1, 1) := by decide +kernel
theorem nd_S_performBranch_8 : decode nc_S_performBranch 8 = .ok (.invokevirtual 227, 3) := by decide +kernel
theorem nd_S_performBranch_11 : decode nc_S_performBranch 11 = .ok (.istore_n 3, 1) := by decide +kernel
theorem nd_S_performBranch_12 : decode nc_S_performBranch 12 = .ok (.iload_n 1, 1) := by decide +kernel
theorem nd_S_performBranch_13 : decode nc_S_performBranch 13 = .ok (.invokestatic 169, 3) := by decide +kernel
theorem nd_S_performBranch_16 : decode nc_S_performBranch 16 = .ok (.tableswitch 87 4 6 #[28, 48, 68], 28) := by decide +kernel
theorem nd_S_performBranch_44 : decode nc_S_performBranch 44 = .ok (.aload_n 0, 1) := by decide +kernel
theorem nd_S_performBranch_45 : decode nc_S_performBranch 45 = .ok (.iload_n 2, 1) := by decide +kernel
theorem nd_S_performBranch_46 : decode nc_S_performBranch 46 = .ok (.iload_n 3, 1) := by decide +kernel
theorem nd_S_performBranch_47 : decode nc_S_performBranch 47 = .ok (.if_icmp .ne 7, 3) := by decide +kernel
theorem nd_S_performBranch_50 : decode nc_S_performBranch 50 = .ok (.iconst 1, 1) := by decide +kernel
theorem nd_S_performBranch_51 : decode nc_S_performBranch 51 = .ok (.goto 4, 3) := by decide +kernel
theorem nd_S_performBranch_54 : decode nc_S_performBranch 54 = .ok (.iconst 0, 1) := by decide +kernel
theorem nd_S_performBranch_55 : decode nc_S_performBranch 55 = .ok (.aload_n 0, 1) := by decide +kernel
theorem nd_S_performBranch_56 : decode nc_S_performBranch 56 = .ok (.iload_n 1, 1) := by decide +kernel
theorem nd_S_performBranch_57 : decode nc_S_performBranch 57 = .ok (.invokevirtual 275, 3) := by decide +kernel
theorem nd_S_performBranch_60 : decode nc_S_performBranch 60 = .ok (.invokevirtual 239, 3) := by decide +kernel
theorem nd_S_performBranch_63 : decode nc_S_performBranch 63 = .ok (.ireturn, 1) := by decide +kernel
theorem nd_S_performBranch_64 : decode nc_S_performBranch 64 = .ok (.aload_n 0, 1) := by decide +kernel
theorem nd_S_performBranch_65 : decode nc_S_performBranch 65 = .ok (.iload_n 2, 1) := by decide +kernel
theorem nd_S_performBranch_66 : decode nc_S_performBranch 66 = .ok (.iload_n 3, 1) := by decide +kernel
theorem nd_S_performBranch_67 : decode nc_S_performBranch 67 = .ok (.if_icmp .eq 7, 3) := by decide +kernel
theorem nd_S_performBranch_70 : decode nc_S_performBranch 70 = .ok (.iconst 1, 1) := by decide +kernel
theorem nd_S_performBranch_71 : decode nc_S_performBranch 71 = .ok (.goto 4, 3) := by decide +kernel
theorem nd_S_performBranch_74 : decode nc_S_performBranch 74 = .ok (.iconst 0, 1) := by decide +kernel
theorem nd_S_performBranch_75 : decode nc_S_performBranch 75 = .ok (.aload_n 0, 1) := by decide +kernel
theorem nd_S_performBranch_76 : decode nc_S_performBranch 76 = .ok (.iload_n 1, 1) := by decide +kernel
theorem nd_S_performBranch_77 : decode nc_S_performBranch 77 = .ok (.invokevirtual 275, 3) := by decide +kernel
theorem nd_S_performBranch_80 : decode nc_S_performBranch 80 = .ok (.invokevirtual 239, 3) := by decide +kernel
theorem nd_S_performBranch_83 : decode nc_S_performBranch 83 = .ok (.ireturn, 1) := by decide +kernel
theorem nd_S_performBranch_84 : decode nc_S_performBranch 84 = .ok (.aload_n 0, 1) := by decide +kernel
theorem nd_S_performBranch_85 : decode nc_S_performBranch 85 = .ok (.iload_n 2, 1) := by decide +kernel
theorem nd_S_performBranch_86 : decode nc_S_performBranch 86 = .ok (.ifCond .gt 7, 3) := by decide +kernel
theorem nd_S_performBranch_89 : decode nc_S_performBranch 89 = .ok (.iconst 1, 1) := by decide +kernel
theorem nd_S_performBranch_90 : decode nc_S_performBranch 90 = .ok (.goto 4, 3) := by decide +kernel
theorem nd_S_performBranch_93 : decode nc_S_performBranch 93 = .ok (.iconst 0, 1) := by decide +kernel
theorem nd_S_performBranch_94 : decode nc_S_performBranch 94 = .ok (.aload_n 0, 1) := by decide +kernel
theorem nd_S_performBranch_95 : decode nc_S_performBranch 95 = .ok (.iload_n 1, 1) := by decide +kernel
theorem nd_S_performBranch_96 : decode nc_S_performBranch 96 = .ok (.invokevirtual 275, 3) := by decide +kernel
theorem nd_S_performBranch_99 : decode nc_S_performBranch 99 = .ok (.invokevirtual 239, 3) := by decide +kernel
theorem nd_S_performBranch_102 : decode nc_S_performBranch 102 = .ok (.ireturn, 1) := by decide +kernel
theorem nd_S_performBranch_103 : decode nc_S_performBranch 103 = .ok (.aload_n 0, 1) := by decide +kernel
theorem nd_S_performBranch_104 : decode nc_S_performBranch 104 = .ok (.iload_n 2, 1) := by decide +kernel
theorem nd_S_performBranch_105 : decode nc_S_performBranch 105 = .ok (.ifCond .le 7, 3) := by decide +kernel
theorem nd_S_performBranch_108 : decode nc_S_performBranch 108 = .ok (.iconst 1, 1) := by decide +kernel
theorem nd_S_performBranch_109 : decode nc_S_performBranch 109 = .ok (.goto 4, 3) := by decide +kernel
theorem nd_S_performBranch_112 : decode nc_S_performBranch 112 = .ok (.iconst 0, 1) := by decide +kernel
theorem nd_S_performBranch_113 : decode nc_S_performBranch 113 = .ok (.aload_n 0, 1) := by decide +kernel
theorem nd_S_performBranch_114 : decode nc_S_performBranch 114 = .ok (.iload_n 1, 1) := by decide +kernel
theorem nd_S_performBranch_115 : decode nc_S_performBranch 115 = .ok (.invokevirtual 275, 3) := by decide +kernel
theorem nd_S_performBranch_118 : decode nc_S_performBranch 118 = .ok (.invokevirtual 239, 3) := by decide +kernel
theorem nd_S_performBranch_121 : decode nc_S_performBranch 121 = .ok (.ireturn, 1) := by decide +kernel
theorem nd_S_nearTarget_0 : decode nc_S_nearTarget 0 = .ok (.aload_n 0, 1) := by decide +kernel
theorem nd_S_nearTarget_1 : decode nc_S_nearTarget 1 = .ok (.getfield 76, 3) := by decide +kernel
theorem nd_S_nearTarget_4 : decode nc_S_nearTarget 4 = .ok (.iconst 4, 1) := by decide +kernel
theorem nd_S_nearTarget_5 : decode nc_S_nearTarget 5 = .ok (.iadd, 1) := by decide +kernel
theorem nd_S_nearTarget_6 : decode nc_S_nearTarget 6 = .ok (.iconst 4, 1) := by decide +kernel
theorem nd_S_nearTarget_7 : decode nc_S_nearTarget 7 = .ok (.iload_n 1, 1) := by decide +kernel
theorem nd_S_nearTarget_8 : decode nc_S_nearTarget 8 = .ok (.invokestatic 281, 3) := by decide +kernel
theorem nd_S_nearTarget_11 : decode nc_S_nearTarget 11 = .ok (.imul, 1) := by decide +kernel
theorem nd_S_nearTarget_12 : decode nc_S_nearTarget 12 = .ok (.iadd, 1) := by decide +kernel
theorem nd_S_nearTarget_13 : decode nc_S_nearTarget 13 = .ok (.ireturn, 1) := by decide +kernel
theorem nd_S_farTarget_0 : decode nc_S_farTarget 0 = .ok (.aload_n 0, 1) := by decide +kernel
theorem nd_S_farTarget_1 : decode nc_S_farTarget 1 = .ok (.getfield 76, 3) := by decide +kernel
theorem nd_S_farTarget_4 : decode nc_S_farTarget 4 = .ok (.iconst 4, 1) := by decide +kernel
theorem nd_S_farTarget_5 : decode nc_S_farTarget 5 = .ok (.iadd, 1) := by decide +kernel
theorem nd_S_farTarget_6 : decode nc_S_farTarget 6 = .ok (.ldc_w 284, 3) := by decide +kernel
theorem nd_S_farTarget_9 : decode nc_S_farTarget 9 = .ok (.iand, 1) := by decide +kernel
theorem nd_S_farTarget_10 : decode nc_S_farTarget 10 = .ok (.iload_n 1, 1) := by decide +kernel
theorem nd_S_farTarget_11 : decode nc_S_farTarget 11 = .ok (.iconst 2, 1) := by decide +kernel
theorem nd_S_farTarget_12 : decode nc_S_farTarget 12 = .ok (.ishl, 1) := by decide +kernel
theorem nd_S_farTarget_13 : decode nc_S_farTarget 13 = .ok (.ldc_w 285, 3) := by decide +kernel
theorem nd_S_farTarget_16 : decode nc_S_farTarget 16 = .ok (.iand, 1) := by decide +kernel
theorem nd_S_farTarget_17 : decode nc_S_farTarget 17 = .ok (.ior, 1) := by decide +kernel
theorem nd_S_farTarget_18 : decode nc_S_farTarget 18 = .ok (.ireturn, 1) := by decide +kernel
theorem nd_S_performWithNumber_0 : decode nc_S_performWithNumber 0 = .ok (.aload_n 0, 1) := by decide +kernel
theorem nd_S_performWithNumber_1 : decode nc_S_performWithNumber 1 = .ok (.iload_n 1, 1) := by decide +kernel
theorem nd_S_performWithNumber_2 : decode nc_S_performWithNumber 2 = .ok (.invokevirtual 233, 3) := by decide +kernel
theorem nd_S_performWithNumber_5 : decode nc_S_performWithNumber 5 = .ok (.istore_n 2, 1) := by decide +kernel
theorem nd_S_performWithNumber_6 : decode nc_S_performWithNumber 6 = .ok (.iload_n 1, 1) := by decide +kernel
theorem nd_S_performWithNumber_7 : decode nc_S_performWithNumber 7 = .ok (.invokestatic 200, 3) := by decide +kernel
theorem nd_S_performWithNumber_10 : decode nc_S_performWithNumber 10 = .ok (.istore_n 3, 1) := by decide +kernel
theorem nd_S_performWithNumber_11 : decode nc_S_performWithNumber 11 = .ok (.iload_n 1, 1) := by decide +kernel
theorem nd_S_performWithNumber_12 : decode nc_S_performWithNumber 12 = .ok (.invokestatic 281, 3) := by decide +kernel
theorem nd_S_performWithNumber_15 : decode nc_S_performWithNumber 15 = .ok (.istore 4, 2) := by decide +kernel
theorem nd_S_performWithNumber_17 : decode nc_S_performWithNumber 17 = .ok (.iload_n 1, 1) := by decide +kernel
theorem nd_S_performWithNumber_18 : decode nc_S_performWithNumber 18 = .ok (.invokestatic 286, 3) := by decide +kernel
theorem nd_S_performWithNumber_21 : decode nc_S_performWithNumber 21 = .ok (.istore 5, 2) := by decide +kernel
theorem nd_S_performWithNumber_23 : decode nc_S_performWithNumber 23 = .ok (.iload_n 1, 1) := by decide +kernel
theorem nd_S_performWithNumber_24 : decode nc_S_performWithNumber 24 = .ok (.invokestatic 169, 3) := by decide +kernel
theorem nd_S_performWithNumber_27 : decode nc_S_performWithNumber 27 = .ok (.tableswitch 134 8 14 #[41, 53, 63, 80, 104, 114, 124], 41) := by decide +kernel
theorem nd_S_performWithNumber_68 : decode nc_S_performWithNumber 68 = .ok (.aload_n 0, 1) := by decide +kernel
theorem nd_S_performWithNumber_69 : decode nc_S_performWithNumber 69 = .ok (.iload_n 3, 1) := by decide +kernel
theorem nd_S_performWithNumber_70 : decode nc_S_performWithNumber 70 = .ok (.iload_n 2, 1) := by decide +kernel
theorem nd_S_performWithNumber_71 : decode nc_S_performWithNumber 71 = .ok (.i2l, 1) := by decide +kernel
theorem nd_S_performWithNumber_72 : decode nc_S_performWithNumber 72 = .ok (.iload 4, 2) := by decide +kernel
theorem nd_S_performWithNumber_74 : decode nc_S_performWithNumber 74 = .ok (.i2l, 1) := by decide +kernel
theorem nd_S_performWithNumber_75 : decode nc_S_performWithNumber 75 = .ok (.ladd, 1) := by decide +kernel
theorem nd_S_performWithNumber_76 : decode nc_S_performWithNumber 76 = .ok (.invokevirtual 243, 3) := by decide +kernel
theorem nd_S_performWithNumber_79 : decode nc_S_performWithNumber 79 = .ok (.ireturn, 1) := by decide +kernel
theorem nd_S_performWithNumber_80 : decode nc_S_performWithNumber 80 = .ok (.aload_n 0, 1) := by decide +kernel
theorem nd_S_performWithNumber_81 : decode nc_S_performWithNumber 81 = .ok (.iload_n 3, 1) := by decide +kernel
theorem nd_S_performWithNumber_82 : decode nc_S_performWithNumber 82 = .ok (.iload_n 2, 1) := by decide +kernel
theorem nd_S_performWithNumber_83 : decode nc_S_performWithNumber 83 = .ok (.iload 4, 2) := by decide +kernel
theorem nd_S_performWithNumber_85 : decode nc_S_performWithNumber 85 = .ok (.iadd, 1) := by decide +kernel
theorem nd_S_performWithNumber_86 : decode nc_S_performWithNumber 86 = .ok (.invokevirtual 205, 3) := by decide +kernel
theorem nd_S_performWithNumber_89 : decode nc_S_performWithNumber 89 = .ok (.ireturn, 1) := by decide +kernel
theorem nd_S_performWithNumber_90 : decode nc_S_performWithNumber 90 = .ok (.aload_n 0, 1) := by decide +kernel
theorem nd_S_performWithNumber_91 : decode nc_S_performWithNumber 91 = .ok (.iload_n 3, 1) := by decide +kernel
theorem nd_S_performWithNumber_92 : decode nc_S_performWithNumber 92 = .ok (.iload_n 2, 1) := by decide +kernel
theorem nd_S_performWithNumber_93 : decode nc_S_performWithNumber 93 = .ok (.iload 4, 2) := by decide +kernel
theorem nd_S_performWithNumber_95 : decode nc_S_performWithNumber 95 = .ok (.if_icmp .ge 7, 3) := by decide +kernel
theorem nd_S_performWithNumber_98 : decode nc_S_performWithNumber 98 = .ok (.iconst 1, 1) := by decide +kernel
theorem nd_S_performWithNumber_99 : decode nc_S_performWithNumber 99 = .ok (.goto 4, 3) := by decide +kernel
theorem nd_S_performWithNumber_102 : decode nc_S_performWithNumber 102 = .ok (.iconst 0, 1) := by decide +kernel
theorem nd_S_performWithNumber_103 : decode nc_S_performWithNumber 103 = .ok (.invokevirtual 247, 3) := by decide +kernel
theorem nd_S_performWithNumber_106 : decode nc_S_performWithNumber 106 = .ok (.ireturn, 1) := by decide +kernel
theorem nd_S_performWithNumber_107 : decode nc_S_performWithNumber 107 = .ok (.aload_n 0, 1) := by decide +kernel
theorem nd_S_performWithNumber_108 : decode nc_S_performWithNumber 108 = .ok (.iload_n 3, 1) := by decide +kernel
theorem nd_S_performWithNumber_109 : decode nc_S_performWithNumber 109 = .ok (.iload_n 2, 1) := by decide +kernel
theorem nd_S_performWithNumber_110 : decode nc_S_performWithNumber 110 = .ok (.invokestatic 251, 3) := by decide +kernel
theorem nd_S_performWithNumber_113 : decode nc_S_performWithNumber 113 = .ok (.iload 4, 2) := by decide +kernel
theorem nd_S_performWithNumber_115 : decode nc_S_performWithNumber 115 = .ok (.invokestatic 251, 3) := by decide +kernel
theorem nd_S_performWithNumber_118 : decode nc_S_performWithNumber 118 = .ok (.lcmp, 1) := by decide +kernel
theorem nd_S_performWithNumber_119 : decode nc_S_performWithNumber 119 = .ok (.ifCond .ge 7, 3) := by decide +kernel
theorem nd_S_performWithNumber_122 : decode nc_S_performWithNumber 122 = .ok (.iconst 1, 1) := by decide +kernel
theorem nd_S_performWithNumber_123 : decode nc_S_performWithNumber 123 = .ok (.goto 4, 3) := by decide +kernel
theorem nd_S_performWithNumber_126 : decode nc_S_performWithNumber 126 = .ok (.iconst 0, 1) := by decide +kernel
theorem nd_S_performWithNumber_127 : decode nc_S_performWithNumber 127 = .ok (.invokevirtual 247, 3) := by decide +kernel
theorem nd_S_performWithNumber_130 : decode nc_S_performWithNumber 130 = .ok (.ireturn, 1) := by decide +kernel
theorem nd_S_performWithNumber_131 : decode nc_S_performWithNumber 131 = .ok (.aload_n 0, 1) := by decide +kernel
theorem nd_S_performWithNumber_132 : decode nc_S_performWithNumber 132 = .ok (.iload_n 3, 1) := by decide +kernel
theorem nd_S_performWithNumber_133 : decode nc_S_performWithNumber 133 = .ok (.iload_n 2, 1) := by decide +kernel
theorem nd_S_performWithNumber_134 : decode nc_S_performWithNumber 134 = .ok (.iload 5, 2) := by decide +kernel
theorem nd_S_performWithNumber_136 : decode nc_S_performWithNumber 136 = .ok (.iand, 1) := by decide +kernel
theorem nd_S_performWithNumber_137 : decode nc_S_performWithNumber 137 = .ok (.invokevirtual 205, 3) := by decide +kernel
theorem nd_S_performWithNumber_140 : decode nc_S_performWithNumber 140 = .ok (.ireturn, 1) := by decide +kernel
theorem nd_S_performWithNumber_141 : decode nc_S_performWithNumber 141 = .ok (.aload_n 0, 1) := by decide +kernel
theorem nd_S_performWithNumber_142 : decode nc_S_performWithNumber 142 = .ok (.iload_n 3, 1) := by decide +kernel
theorem nd_S_performWithNumber_143 : decode nc_S_performWithNumber 143 = .ok (.iload_n 2, 1) := by decide +kernel
theorem nd_S_performWithNumber_144 : decode nc_S_performWithNumber 144 = .ok (.iload 5, 2) := by decide +kernel
theorem nd_S_performWithNumber_146 : decode nc_S_performWithNumber 146 = .ok (.ior, 1) := by decide +kernel
theorem nd_S_performWithNumber_147 : decode nc_S_performWithNumber 147 = .ok (.invokevirtual 205, 3) := by decide +kernel
theorem nd_S_performWithNumber_150 : decode nc_S_performWithNumber 150 = .ok (.ireturn, 1) := by decide +kernel
theorem nd_S_performWithNumber_151 : decode nc_S_performWithNumber 151 = .ok (.aload_n 0, 1) := by decide +kernel
theorem nd_S_performWithNumber_152 : decode nc_S_performWithNumber 152 = .ok (.iload_n 3, 1) := by decide +kernel
theorem nd_S_performWithNumber_153 : decode nc_S_performWithNumber 153 = .ok (.iload_n 2, 1) := by decide +kernel
theorem nd_S_performWithNumber_154 : decode nc_S_performWithNumber 154 = .ok (.iload 5, 2) := by decide +kernel
theorem nd_S_performWithNumber_156 : decode nc_S_performWithNumber 156 = .ok (.ixor, 1) := by decide +kernel
theorem nd_S_performWithNumber_157 : decode nc_S_performWithNumber 157 = .ok (.invokevirtual 205, 3) := by decide +kernel
theorem nd_S_performWithNumber_160 : decode nc_S_performWithNumber 160 = .ok (.ireturn, 1) := by decide +kernel
theorem nd_S_performWithNumber_161 : decode nc_S_performWithNumber 161 = .ok (.aload_n 0, 1) := by decide +kernel
theorem nd_S_performWithNumber_162 : decode nc_S_performWithNumber 162 = .ok (.iload_n 3, 1) := by decide +kernel
theorem nd_S_performWithNumber_163 : decode nc_S_performWithNumber 163 = .ok (.iload 5, 2) := by decide +kernel
theorem nd_S_performWithNumber_165 : decode nc_S_performWithNumber 165 = .ok (.bipush 16, 2) := by decide +kernel
theorem nd_S_performWithNumber_167 : decode nc_S_performWithNumber 167 = .ok (.ishl, 1) := by decide +kernel
theorem nd_S_performWithNumber_168 : decode nc_S_performWithNumber 168 = .ok (.invokevirtual 205, 3) := by decide +kernel
theorem nd_S_performWithNumber_171 : decode nc_S_performWithNumber 171 = .ok (.ireturn, 1) := by decide +kernel
theorem nd_S_performControl_0 : decode nc_S_performControl 0 = .ok (.iload_n 1, 1) := by decide +kernel
theorem nd_S_performControl_1 : decode nc_S_performControl 1 = .ok (.invokestatic 197, 3) := by decide +kernel
theorem nd_S_performControl_4 : decode nc_S_performControl 4 = .ok (.istore_n 2, 1) := by decide +kernel
theorem nd_S_performControl_5 : decode nc_S_performControl 5 = .ok (.iload_n 2, 1) := by decide +kernel
theorem nd_S_performControl_6 : decode nc_S_performControl 6 = .ok (.bipush 16, 2) := by decide +kernel
theorem nd_S_performControl_8 : decode nc_S_performControl 8 = .ok (.if_icmp .ne 16, 3) := by decide +kernel
theorem nd_S_performControl_11 : decode nc_S_performControl 11 = .ok (.iload_n 1, 1) := by decide +kernel
theorem nd_S_performControl_12 : decode nc_S_performControl 12 = .ok (.invokestatic 209, 3) := by decide +kernel
theorem nd_S_performControl_15 : decode nc_S_performControl 15 = .ok (.bipush 16, 2) := by decide +kernel
theorem nd_S_performControl_17 : decode nc_S_performControl 17 = .ok (.if_icmp .ne 7, 3) := by decide +kernel
theorem nd_S_performControl_20 : decode nc_S_performControl 20 = .ok (.iconst 1, 1) := by decide +kernel
theorem nd_S_performControl_21 : decode nc_S_performControl 21 = .ok (.goto 4, 3) := by decide +kernel
theorem nd_S_performControl_24 : decode nc_S_performControl 24 = .ok (.iconst 0, 1) := by decide +kernel
theorem nd_S_performControl_25 : decode nc_S_performControl 25 = .ok (.istore_n 3, 1) := by decide +kernel
theorem nd_S_performControl_26 : decode nc_S_performControl 26 = .ok (.iload_n 2, 1) := by decide +kernel
theorem nd_S_performControl_27 : decode nc_S_performControl 27 = .ok (.ifCond .eq 15, 3) := by decide +kernel
theorem nd_S_performControl_30 : decode nc_S_performControl 30 = .ok (.iload_n 2, 1) := by decide +kernel
theorem nd_S_performControl_31 : decode nc_S_performControl 31 = .ok (.iconst 4, 1) := by decide +kernel
theorem nd_S_performControl_32 : decode nc_S_performControl 32 = .ok (.if_icmp .eq 10, 3) := by decide +kernel
theorem nd_S_performControl_35 : decode nc_S_performControl 35 = .ok (.iload_n 3, 1) := by decide +kernel
theorem nd_S_performControl_36 : decode nc_S_performControl 36 = .ok (.ifCond .ne 6, 3) := by decide +kernel
theorem nd_S_performControl_39 : decode nc_S_performControl 39 = .ok (.bipush 10, 2) := by decide +kernel
theorem nd_S_performControl_41 : decode nc_S_performControl 41 = .ok (.ireturn, 1) := by decide +kernel
theorem nd_S_performControl_42 : decode nc_S_performControl 42 = .ok (.aload_n 0, 1) := by decide +kernel
theorem nd_S_performControl_43 : decode nc_S_performControl 43 = .ok (.getfield 26, 3) := by decide +kernel
theorem nd_S_performControl_46 : decode nc_S_performControl 46 = .ok (.invokevirtual 289, 3) := by decide +kernel
theorem nd_S_performControl_49 : decode nc_S_performControl 49 = .ok (.ifCond .eq 6, 3) := by decide +kernel
theorem nd_S_performControl_52 : decode nc_S_performControl 52 = .ok (.bipush 11, 2) := by decide +kernel
theorem nd_S_performControl_54 : decode nc_S_performControl 54 = .ok (.ireturn, 1) := by decide +kernel
theorem nd_S_performControl_55 : decode nc_S_performControl 55 = .ok (.iload_n 2, 1) := by decide +kernel
theorem nd_S_performControl_56 : decode nc_S_performControl 56 = .ok (.ifCond .ne 23, 3) := by decide +kernel
theorem nd_S_performControl_59 : decode nc_S_performControl 59 = .ok (.aload_n 0, 1) := by decide +kernel
theorem nd_S_performControl_60 : decode nc_S_performControl 60 = .ok (.iload_n 1, 1) := by decide +kernel
theorem nd_S_performControl_61 : decode nc_S_performControl 61 = .ok (.invokestatic 200, 3) := by decide +kernel
theorem nd_S_performControl_64 : decode nc_S_performControl 64 = .ok (.aload_n 0, 1) := by decide +kernel
theorem nd_S_performControl_65 : decode nc_S_performControl 65 = .ok (.getfield 26, 3) := by decide +kernel
theorem nd_S_performControl_68 : decode nc_S_performControl 68 = .ok (.iload_n 1, 1) := by decide +kernel
theorem nd_S_performControl_69 : decode nc_S_performControl 69 = .ok (.invokestatic 230, 3) := by decide +kernel
theorem nd_S_performControl_72 : decode nc_S_performControl 72 = .ok (.invokevirtual 292, 3) := by decide +kernel
theorem nd_S_performControl_75 : decode nc_S_performControl 75 = .ok (.invokevirtual 293, 3) := by decide +kernel
theorem nd_S_performControl_78 : decode nc_S_performControl 78 = .ok (.ireturn, 1) := by decide +kernel
theorem nd_S_performControl_79 : decode nc_S_performControl 79 = .ok (.iload_n 3, 1) := by decide +kernel
theorem nd_S_performControl_80 : decode nc_S_performControl 80 = .ok (.ifCond .eq 13, 3) := by decide +kernel
theorem nd_S_performControl_83 : decode nc_S_performControl 83 = .ok (.aload_n 0, 1) := by decide +kernel
theorem nd_S_performControl_84 : decode nc_S_performControl 84 = .ok (.getfield 26, 3) := by decide +kernel
theorem nd_S_performControl_87 : decode nc_S_performControl 87 = .ok (.invokevirtual 296, 3) := by decide +kernel
theorem nd_S_performControl_90 : decode nc_S_performControl 90 = .ok (.goto 19, 3) := by decide +kernel
theorem nd_S_performControl_93 : decode nc_S_performControl 93 = .ok (.aload_n 0, 1) := by decide +kernel
theorem nd_S_performControl_94 : decode nc_S_performControl 94 = .ok (.getfield 26, 3) := by decide +kernel
theorem nd_S_performControl_97 : decode nc_S_performControl 97 = .ok (.iload_n 1, 1) := by decide +kernel
theorem nd_S_performControl_98 : decode nc_S_performControl 98 = .ok (.invokestatic 230, 3) := by decide +kernel
theorem nd_S_performControl_101 : decode nc_S_performControl 101 = .ok (.aload_n 0, 1) := by decide +kernel
theorem nd_S_performControl_102 : decode nc_S_performControl 102 = .ok (.iload_n 1, 1) := by decide +kernel
theorem nd_S_performControl_103 : decode nc_S_performControl 103 = .ok (.invokevirtual 227, 3) := by decide +kernel
theorem nd_S_performControl_106 : decode nc_S_performControl 106 = .ok (.invokevirtual 85, 3) := by decide +kernel
theorem nd_S_performControl_109 : decode nc_S_performControl 109 = .ok (.iconst (-1), 1) := by decide +kernel
theorem nd_S_performControl_110 : decode nc_S_performControl 110 = .ok (.ireturn, 1) := by decide +kernel
theorem nd_S_performLoad_0 : decode nc_S_performLoad 0 = .ok (.aload_n 0, 1) := by decide +kernel
theorem nd_S_performLoad_1 : decode nc_S_performLoad 1 = .ok (.iload_n 1, 1) := by decide +kernel
theorem nd_S_performLoad_2 : decode nc_S_performLoad 2 = .ok (.invokevirtual 299, 3) := by decide +kernel
theorem nd_S_performLoad_5 : decode nc_S_performLoad 5 = .ok (.istore_n 2, 1) := by decide +kernel
theorem nd_S_performLoad_6 : decode nc_S_performLoad 6 = .ok (.aload_n 0, 1) := by decide +kernel
theorem nd_S_performLoad_7 : decode nc_S_performLoad 7 = .ok (.iload_n 2, 1) := by decide +kernel
theorem nd_S_performLoad_8 : decode nc_S_performLoad 8 = .ok (.iload_n 1, 1) := by decide +kernel
theorem nd_S_performLoad_9 : decode nc_S_performLoad 9 = .ok (.invokestatic 169, 3) := by decide +kernel
theorem nd_S_performLoad_12 : decode nc_S_performLoad 12 = .ok (.invokestatic 302, 3) := by decide +kernel
theorem nd_S_performLoad_15 : decode nc_S_performLoad 15 = .ok (.iconst 4, 1) := by decide +kernel
theorem nd_S_performLoad_16 : decode nc_S_performLoad 16 = .ok (.invokevirtual 305, 3) := by decide +kernel
theorem nd_S_performLoad_19 : decode nc_S_performLoad 19 = .ok (.istore_n 3, 1) := by decide +kernel
theorem nd_S_performLoad_20 : decode nc_S_performLoad 20 = .ok (.iload_n 3, 1) := by decide +kernel
theorem nd_S_performLoad_21 : decode nc_S_performLoad 21 = .ok (.iconst (-1), 1) := by decide +kernel
theorem nd_S_performLoad_22 : decode nc_S_performLoad 22 = .ok (.if_icmp .eq 5, 3) := by decide +kernel
theorem nd_S_performLoad_25 : decode nc_S_performLoad 25 = .ok (.iload_n 3, 1) := by decide +kernel
theorem nd_S_performLoad_26 : decode nc_S_performLoad 26 = .ok (.ireturn, 1) := by decide +kernel
theorem nd_S_performLoad_27 : decode nc_S_performLoad 27 = .ok (.iload_n 1, 1) := by decide +kernel
theorem nd_S_performLoad_28 : decode nc_S_performLoad 28 = .ok (.invokestatic 200, 3) := by decide +kernel
theorem nd_S_performLoad_31 : decode nc_S_performLoad 31 = .ok (.istore 4, 2) := by decide +kernel
theorem nd_S_performLoad_33 : decode nc_S_performLoad 33 = .ok (.aload_n 0, 1) := by decide +kernel
theorem nd_S_performLoad_34 : decode nc_S_performLoad 34 = .ok (.getfield 12, 3) := by decide +kernel
theorem nd_S_performLoad_37 : decode nc_S_performLoad 37 = .ok (.iload_n 2, 1) := by decide +kernel
theorem nd_S_performLoad_38 : decode nc_S_performLoad 38 = .ok (.ldc 128, 2) := by decide +kernel
theorem nd_S_performLoad_40 : decode nc_S_performLoad 40 = .ok (.iand, 1) := by decide +kernel
theorem nd_S_performLoad_41 : decode nc_S_performLoad 41 = .ok (.invokevirtual 62, 3) := by decide +kernel
theorem nd_S_performLoad_44 : decode nc_S_performLoad 44 = .ok (.istore 5, 2) := by decide +kernel
theorem nd_S_performLoad_46 : decode nc_S_performLoad 46 = .ok (.aload_n 0, 1) := by decide +kernel
theorem nd_S_performLoad_47 : decode nc_S_performLoad 47 = .ok (.iload 4, 2) := by decide +kernel
theorem nd_S_performLoad_49 : decode nc_S_performLoad 49 = .ok (.iload_n 1, 1) := by decide +kernel
theorem nd_S_performLoad_50 : decode nc_S_performLoad 50 = .ok (.invokestatic 169, 3) := by decide +kernel
theorem nd_S_performLoad_53 : decode nc_S_performLoad 53 = .ok (.aload_n 0, 1) := by decide +kernel
theorem nd_S_performLoad_54 : decode nc_S_performLoad 54 = .ok (.getfield 19, 3) := by decide +kernel
theorem nd_S_performLoad_57 : decode nc_S_performLoad 57 = .ok (.iload 4, 2) := by decide +kernel
theorem nd_S_performLoad_59 : decode nc_S_performLoad 59 = .ok (.invokevirtual 309, 3) := by decide +kernel
theorem nd_S_performLoad_62 : decode nc_S_performLoad 62 = .ok (.iload 5, 2) := by decide +kernel
theorem nd_S_performLoad_64 : decode nc_S_performLoad 64 = .ok (.iload_n 2, 1) := by decide +kernel
theorem nd_S_performLoad_65 : decode nc_S_performLoad 65 = .ok (.invokestatic 312, 3) := by decide +kernel
theorem nd_S_performLoad_68 : decode nc_S_performLoad 68 = .ok (.invokevirtual 293, 3) := by decide +kernel
theorem nd_S_performLoad_71 : decode nc_S_performLoad 71 = .ok (.ireturn, 1) := by decide +kernel
theorem nd_S_joinLoaded_0 : decode nc_S_joinLoaded 0 = .ok (.iload_n 3, 1) := by decide +kernel
theorem nd_S_joinLoaded_1 : decode nc_S_joinLoaded 1 = .ok (.iconst 1, 1) := by decide +kernel
theorem nd_S_joinLoaded_2 : decode nc_S_joinLoaded 2 = .ok (.invokestatic 316, 3) := by decide +kernel
theorem nd_S_joinLoaded_5 : decode nc_S_joinLoaded 5 = .ok (.istore 4, 2) := by decide +kernel
theorem nd_S_joinLoaded_7 : decode nc_S_joinLoaded 7 = .ok (.iload_n 3, 1) := by decide +kernel
theorem nd_S_joinLoaded_8 : decode nc_S_joinLoaded 8 = .ok (.iconst 2, 1) := by decide +kernel
theorem nd_S_joinLoaded_9 : decode nc_S_joinLoaded 9 = .ok (.invokestatic 316, 3) := by decide +kernel
theorem nd_S_joinLoaded_12 : decode nc_S_joinLoaded 12 = .ok (.istore 5, 2) := by decide +kernel
theorem nd_S_joinLoaded_14 : decode nc_S_joinLoaded 14 = .ok (.iload_n 3, 1) := by decide +kernel
theorem nd_S_joinLoaded_15 : decode nc_S_joinLoaded 15 = .ok (.invokestatic 319, 3) := by decide +kernel
theorem nd_S_joinLoaded_18 : decode nc_S_joinLoaded 18 = .ok (.istore 6, 2) := by decide +kernel
theorem nd_S_joinLoaded_20 : decode nc_S_joinLoaded 20 = .ok (.iload_n 0, 1) := by decide +kernel
theorem nd_S_joinLoaded_21 : decode nc_S_joinLoaded 21 = .ok (.tableswitch 83 32 37 #[39, 45, 51, 64, 66, 75], 39) := by decide +kernel
theorem nd_S_joinLoaded_60 : decode nc_S_joinLoaded 60 = .ok (.iload_n 2, 1) := by decide +kernel
theorem nd_S_joinLoaded_61 : decode nc_S_joinLoaded 61 = .ok (.iload 4, 2) := by decide +kernel
theorem nd_S_joinLoaded_63 : decode nc_S_joinLoaded 63 = .ok (.ishr, 1) := by decide +kernel
theorem nd_S_joinLoaded_64 : decode nc_S_joinLoaded 64 = .ok (.i2b, 1) := by decide +kernel
theorem nd_S_joinLoaded_65 : decode nc_S_joinLoaded 65 = .ok (.ireturn, 1) := by decide +kernel
theorem nd_S_joinLoaded_66 : decode nc_S_joinLoaded 66 = .ok (.iload_n 2, 1) := by decide +kernel
theorem nd_S_joinLoaded_67 : decode nc_S_joinLoaded 67 = .ok (.iload 5, 2) := by decide +kernel
theorem nd_S_joinLoaded_69 : decode nc_S_joinLoaded 69 = .ok (.ishr, 1) := by decide +kernel
theorem nd_S_joinLoaded_70 : decode nc_S_joinLoaded 70 = .ok (.i2s, 1) := by decide +kernel
theorem nd_S_joinLoaded_71 : decode nc_S_joinLoaded 71 = .ok (.ireturn, 1) := by decide +kernel
theorem nd_S_joinLoaded_72 : decode nc_S_joinLoaded 72 = .ok (.iload_n 1, 1) := by decide +kernel
theorem nd_S_joinLoaded_73 : decode nc_S_joinLoaded 73 = .ok (.iload_n 2, 1) := by decide +kernel
theorem nd_S_joinLoaded_74 : decode nc_S_joinLoaded 74 = .ok (.iload 6, 2) := by decide +kernel
theorem nd_S_joinLoaded_76 : decode nc_S_joinLoaded 76 = .ok (.ishl, 1) := by decide +kernel
theorem nd_S_joinLoaded_77 : decode nc_S_joinLoaded 77 = .ok (.iconst (-1), 1) := by decide +kernel
theorem nd_S_joinLoaded_78 : decode nc_S_joinLoaded 78 = .ok (.iload 6, 2) := by decide +kernel
theorem nd_S_joinLoaded_80 : decode nc_S_joinLoaded 80 = .ok (.ishl, 1) := by decide +kernel
theorem nd_S_joinLoaded_81 : decode nc_S_joinLoaded 81 = .ok (.invokestatic 322, 3) := by decide +kernel
theorem nd_S_joinLoaded_84 : decode nc_S_joinLoaded 84 = .ok (.ireturn, 1) := by decide +kernel
theorem nd_S_joinLoaded_85 : decode nc_S_joinLoaded 85 = .ok (.iload_n 2, 1) := by decide +kernel
theorem nd_S_joinLoaded_86 : decode nc_S_joinLoaded 86 = .ok (.ireturn, 1) := by decide +kernel
theorem nd_S_joinLoaded_87 : decode nc_S_joinLoaded 87 = .ok (.iload_n 2, 1) := by decide +kernel
theorem nd_S_joinLoaded_88 : decode nc_S_joinLoaded 88 = .ok (.iload 4, 2) := by decide +kernel
theorem nd_S_joinLoaded_90 : decode nc_S_joinLoaded 90 = .ok (.ishr, 1) := by decide +kernel
theorem nd_S_joinLoaded_91 : decode nc_S_joinLoaded 91 = .ok (.sipush 255, 3) := by decide +kernel
theorem nd_S_joinLoaded_94 : decode nc_S_joinLoaded 94 = .ok (.iand, 1) := by decide +kernel
theorem nd_S_joinLoaded_95 : decode nc_S_joinLoaded 95 = .ok (.ireturn, 1) := by decide +kernel
theorem nd_S_joinLoaded_96 : decode nc_S_joinLoaded 96 = .ok (.iload_n 2, 1) := by decide +kernel
theorem nd_S_joinLoaded_97 : decode nc_S_joinLoaded 97 = .ok (.iload 5, 2) := by decide +kernel
theorem nd_S_joinLoaded_99 : decode nc_S_joinLoaded 99 = .ok (.ishr, 1) := by decide +kernel
theorem nd_S_joinLoaded_100 : decode nc_S_joinLoaded 100 = .ok (.ldc 196, 2) := by decide +kernel
theorem nd_S_joinLoaded_102 : decode nc_S_joinLoaded 102 = .ok (.iand, 1) := by decide +kernel
theorem nd_S_joinLoaded_103 : decode nc_S_joinLoaded 103 = .ok (.ireturn, 1) := by decide +kernel
theorem nd_S_joinLoaded_104 : decode nc_S_joinLoaded 104 = .ok (.iload_n 1, 1) := by decide +kernel
theorem nd_S_joinLoaded_105 : decode nc_S_joinLoaded 105 = .ok (.iload_n 2, 1) := by decide +kernel
theorem nd_S_joinLoaded_106 : decode nc_S_joinLoaded 106 = .ok (.iload 4, 2) := by decide +kernel
theorem nd_S_joinLoaded_108 : decode nc_S_joinLoaded 108 = .ok (.iushr, 1) := by decide +kernel
theorem nd_S_joinLoaded_109 : decode nc_S_joinLoaded 109 = .ok (.iconst (-1), 1) := by decide +kernel
theorem nd_S_joinLoaded_110 : decode nc_S_joinLoaded 110 = .ok (.iload 4, 2) := by decide +kernel
theorem nd_S_joinLoaded_112 : decode nc_S_joinLoaded 112 = .ok (.iushr, 1) := by decide +kernel
theorem nd_S_joinLoaded_113 : decode nc_S_joinLoaded 113 = .ok (.invokestatic 322, 3) := by decide +kernel
theorem nd_S_joinLoaded_116 : decode nc_S_joinLoaded 116 = .ok (.ireturn, 1) := by decide +kernel
theorem nd_S_performStore_0 : decode nc_S_performStore 0 = .ok (.aload_n 0, 1) := by decide +kernel
theorem nd_S_performStore_1 : decode nc_S_performStore 1 = .ok (.iload_n 1, 1) := by decide +kernel
end
section
theorem nd_S_performStore_2 : decode nc_S_performStore 2 = .ok (.invokevirtual 299, 3) := by decide +kernel
theorem nd_S_performStore_5 : decode nc_S_performStore 5 = .ok (.istore_n 2, 1) := by decide +kernel
theorem nd_S_performStore_6 : decode nc_S_performStore 6 = .ok (.aload_n 0, 1) := by decide +kernel
theorem nd_S_performStore_7 : decode nc_S_performStore 7 = .ok (.iload_n 2, 1) := by decide +kernel
theorem nd_S_performStore_8 : decode nc_S_performStore 8 = .ok (.iload_n 1, 1) := by decide +kernel
theorem nd_S_performStore_9 : decode nc_S_performStore 9 = .ok (.invokestatic 169, 3) := by decide +kernel
theorem nd_S_performStore_12 : decode nc_S_performStore 12 = .ok (.invokestatic 325, 3) := by decide +kernel
theorem nd_S_performStore_15 : decode nc_S_performStore 15 = .ok (.iconst 5, 1) := by decide +kernel
theorem nd_S_performStore_16 : decode nc_S_performStore 16 = .ok (.invokevirtual 305, 3) := by decide +kernel
theorem nd_S_performStore_19 : decode nc_S_performStore 19 = .ok (.istore_n 3, 1) := by decide +kernel
theorem nd_S_performStore_20 : decode nc_S_performStore 20 = .ok (.iload_n 3, 1) := by decide +kernel
theorem nd_S_performStore_21 : decode nc_S_performStore 21 = .ok (.iconst (-1), 1) := by decide +kernel
theorem nd_S_performStore_22 : decode nc_S_performStore 22 = .ok (.if_icmp .eq 5, 3) := by decide +kernel
theorem nd_S_performStore_25 : decode nc_S_performStore 25 = .ok (.iload_n 3, 1) := by decide +kernel
theorem nd_S_performStore_26 : decode nc_S_performStore 26 = .ok (.ireturn, 1) := by decide +kernel
theorem nd_S_performStore_27 : decode nc_S_performStore 27 = .ok (.iload_n 2, 1) := by decide +kernel
theorem nd_S_performStore_28 : decode nc_S_performStore 28 = .ok (.ldc 128, 2) := by decide +kernel
theorem nd_S_performStore_30 : decode nc_S_performStore 30 = .ok (.iand, 1) := by decide +kernel
theorem nd_S_performStore_31 : decode nc_S_performStore 31 = .ok (.istore 4, 2) := by decide +kernel
theorem nd_S_performStore_33 : decode nc_S_performStore 33 = .ok (.aload_n 0, 1) := by decide +kernel
theorem nd_S_performStore_34 : decode nc_S_performStore 34 = .ok (.getfield 12, 3) := by decide +kernel
theorem nd_S_performStore_37 : decode nc_S_performStore 37 = .ok (.iload 4, 2) := by decide +kernel
theorem nd_S_performStore_39 : decode nc_S_performStore 39 = .ok (.invokevirtual 62, 3) := by decide +kernel
theorem nd_S_performStore_42 : decode nc_S_performStore 42 = .ok (.istore 5, 2) := by decide +kernel
theorem nd_S_performStore_44 : decode nc_S_performStore 44 = .ok (.aload_n 0, 1) := by decide +kernel
theorem nd_S_performStore_45 : decode nc_S_performStore 45 = .ok (.getfield 12, 3) := by decide +kernel
theorem nd_S_performStore_48 : decode nc_S_performStore 48 = .ok (.iload 4, 2) := by decide +kernel
theorem nd_S_performStore_50 : decode nc_S_performStore 50 = .ok (.iload_n 1, 1) := by decide +kernel
theorem nd_S_performStore_51 : decode nc_S_performStore 51 = .ok (.invokestatic 169, 3) := by decide +kernel
theorem nd_S_performStore_54 : decode nc_S_performStore 54 = .ok (.iload 5, 2) := by decide +kernel
theorem nd_S_performStore_56 : decode nc_S_performStore 56 = .ok (.aload_n 0, 1) := by decide +kernel
theorem nd_S_performStore_57 : decode nc_S_performStore 57 = .ok (.iload_n 1, 1) := by decide +kernel
theorem nd_S_performStore_58 : decode nc_S_performStore 58 = .ok (.invokevirtual 227, 3) := by decide +kernel
theorem nd_S_performStore_61 : decode nc_S_performStore 61 = .ok (.iload_n 2, 1) := by decide +kernel
theorem nd_S_performStore_62 : decode nc_S_performStore 62 = .ok (.invokestatic 328, 3) := by decide +kernel
theorem nd_S_performStore_65 : decode nc_S_performStore 65 = .ok (.invokevirtual 66, 3) := by decide +kernel
theorem nd_S_performStore_68 : decode nc_S_performStore 68 = .ok (.iconst (-1), 1) := by decide +kernel
theorem nd_S_performStore_69 : decode nc_S_performStore 69 = .ok (.ireturn, 1) := by decide +kernel
theorem nd_S_joinStored_0 : decode nc_S_joinStored 0 = .ok (.iload_n 3, 1) := by decide +kernel
theorem nd_S_joinStored_1 : decode nc_S_joinStored 1 = .ok (.iconst 1, 1) := by decide +kernel
theorem nd_S_joinStored_2 : decode nc_S_joinStored 2 = .ok (.invokestatic 316, 3) := by decide +kernel
theorem nd_S_joinStored_5 : decode nc_S_joinStored 5 = .ok (.istore 4, 2) := by decide +kernel
theorem nd_S_joinStored_7 : decode nc_S_joinStored 7 = .ok (.iload_n 3, 1) := by decide +kernel
theorem nd_S_joinStored_8 : decode nc_S_joinStored 8 = .ok (.iconst 2, 1) := by decide +kernel
theorem nd_S_joinStored_9 : decode nc_S_joinStored 9 = .ok (.invokestatic 316, 3) := by decide +kernel
theorem nd_S_joinStored_12 : decode nc_S_joinStored 12 = .ok (.istore 5, 2) := by decide +kernel
theorem nd_S_joinStored_14 : decode nc_S_joinStored 14 = .ok (.iload_n 3, 1) := by decide +kernel
theorem nd_S_joinStored_15 : decode nc_S_joinStored 15 = .ok (.invokestatic 319, 3) := by decide +kernel
theorem nd_S_joinStored_18 : decode nc_S_joinStored 18 = .ok (.istore 6, 2) := by decide +kernel
theorem nd_S_joinStored_20 : decode nc_S_joinStored 20 = .ok (.iload_n 0, 1) := by decide +kernel
theorem nd_S_joinStored_21 : decode nc_S_joinStored 21 = .ok (.tableswitch 75 40 43 #[31, 46, 60, 73], 31) := by decide +kernel
theorem nd_S_joinStored_52 : decode nc_S_joinStored 52 = .ok (.iload_n 1, 1) := by decide +kernel
theorem nd_S_joinStored_53 : decode nc_S_joinStored 53 = .ok (.iload_n 2, 1) := by decide +kernel
theorem nd_S_joinStored_54 : decode nc_S_joinStored 54 = .ok (.iload 4, 2) := by decide +kernel
theorem nd_S_joinStored_56 : decode nc_S_joinStored 56 = .ok (.ishl, 1) := by decide +kernel
theorem nd_S_joinStored_57 : decode nc_S_joinStored 57 = .ok (.sipush 255, 3) := by decide +kernel
theorem nd_S_joinStored_60 : decode nc_S_joinStored 60 = .ok (.iload 4, 2) := by decide +kernel
theorem nd_S_joinStored_62 : decode nc_S_joinStored 62 = .ok (.ishl, 1) := by decide +kernel
theorem nd_S_joinStored_63 : decode nc_S_joinStored 63 = .ok (.invokestatic 322, 3) := by decide +kernel
theorem nd_S_joinStored_66 : decode nc_S_joinStored 66 = .ok (.ireturn, 1) := by decide +kernel
theorem nd_S_joinStored_67 : decode nc_S_joinStored 67 = .ok (.iload_n 1, 1) := by decide +kernel
theorem nd_S_joinStored_68 : decode nc_S_joinStored 68 = .ok (.iload_n 2, 1) := by decide +kernel
theorem nd_S_joinStored_69 : decode nc_S_joinStored 69 = .ok (.iload 5, 2) := by decide +kernel
theorem nd_S_joinStored_71 : decode nc_S_joinStored 71 = .ok (.ishl, 1) := by decide +kernel
theorem nd_S_joinStored_72 : decode nc_S_joinStored 72 = .ok (.ldc 196, 2) := by decide +kernel
theorem nd_S_joinStored_74 : decode nc_S_joinStored 74 = .ok (.iload 5, 2) := by decide +kernel
theorem nd_S_joinStored_76 : decode nc_S_joinStored 76 = .ok (.ishl, 1) := by decide +kernel
theorem nd_S_joinStored_77 : decode nc_S_joinStored 77 = .ok (.invokestatic 322, 3) := by decide +kernel
theorem nd_S_joinStored_80 : decode nc_S_joinStored 80 = .ok (.ireturn, 1) := by decide +kernel
theorem nd_S_joinStored_81 : decode nc_S_joinStored 81 = .ok (.iload_n 1, 1) := by decide +kernel
theorem nd_S_joinStored_82 : decode nc_S_joinStored 82 = .ok (.iload_n 2, 1) := by decide +kernel
theorem nd_S_joinStored_83 : decode nc_S_joinStored 83 = .ok (.iload 6, 2) := by decide +kernel
theorem nd_S_joinStored_85 : decode nc_S_joinStored 85 = .ok (.iushr, 1) := by decide +kernel
theorem nd_S_joinStored_86 : decode nc_S_joinStored 86 = .ok (.iconst (-1), 1) := by decide +kernel
theorem nd_S_joinStored_87 : decode nc_S_joinStored 87 = .ok (.iload 6, 2) := by decide +kernel
theorem nd_S_joinStored_89 : decode nc_S_joinStored 89 = .ok (.iushr, 1) := by decide +kernel
theorem nd_S_joinStored_90 : decode nc_S_joinStored 90 = .ok (.invokestatic 322, 3) := by decide +kernel
theorem nd_S_joinStored_93 : decode nc_S_joinStored 93 = .ok (.ireturn, 1) := by decide +kernel
theorem nd_S_joinStored_94 : decode nc_S_joinStored 94 = .ok (.iload_n 2, 1) := by decide +kernel
theorem nd_S_joinStored_95 : decode nc_S_joinStored 95 = .ok (.ireturn, 1) := by decide +kernel
theorem nd_S_joinStored_96 : decode nc_S_joinStored 96 = .ok (.iload_n 1, 1) := by decide +kernel
theorem nd_S_joinStored_97 : decode nc_S_joinStored 97 = .ok (.iload_n 2, 1) := by decide +kernel
theorem nd_S_joinStored_98 : decode nc_S_joinStored 98 = .ok (.iload 4, 2) := by decide +kernel
theorem nd_S_joinStored_100 : decode nc_S_joinStored 100 = .ok (.ishl, 1) := by decide +kernel
theorem nd_S_joinStored_101 : decode nc_S_joinStored 101 = .ok (.iconst (-1), 1) := by decide +kernel
theorem nd_S_joinStored_102 : decode nc_S_joinStored 102 = .ok (.iload 4, 2) := by decide +kernel
theorem nd_S_joinStored_104 : decode nc_S_joinStored 104 = .ok (.ishl, 1) := by decide +kernel
theorem nd_S_joinStored_105 : decode nc_S_joinStored 105 = .ok (.invokestatic 322, 3) := by decide +kernel
theorem nd_S_joinStored_108 : decode nc_S_joinStored 108 = .ok (.ireturn, 1) := by decide +kernel
theorem nd_S_addressOf_0 : decode nc_S_addressOf 0 = .ok (.aload_n 0, 1) := by decide +kernel
theorem nd_S_addressOf_1 : decode nc_S_addressOf 1 = .ok (.iload_n 1, 1) := by decide +kernel
theorem nd_S_addressOf_2 : decode nc_S_addressOf 2 = .ok (.invokevirtual 233, 3) := by decide +kernel
theorem nd_S_addressOf_5 : decode nc_S_addressOf 5 = .ok (.iload_n 1, 1) := by decide +kernel
theorem nd_S_addressOf_6 : decode nc_S_addressOf 6 = .ok (.invokestatic 281, 3) := by decide +kernel
theorem nd_S_addressOf_9 : decode nc_S_addressOf 9 = .ok (.iadd, 1) := by decide +kernel
theorem nd_S_addressOf_10 : decode nc_S_addressOf 10 = .ok (.ireturn, 1) := by decide +kernel
theorem nd_S_faultOfData_0 : decode nc_S_faultOfData 0 = .ok (.iload_n 1, 1) := by decide +kernel
theorem nd_S_faultOfData_1 : decode nc_S_faultOfData 1 = .ok (.iload_n 2, 1) := by decide +kernel
theorem nd_S_faultOfData_2 : decode nc_S_faultOfData 2 = .ok (.iconst 1, 1) := by decide +kernel
theorem nd_S_faultOfData_3 : decode nc_S_faultOfData 3 = .ok (.isub, 1) := by decide +kernel
theorem nd_S_faultOfData_4 : decode nc_S_faultOfData 4 = .ok (.iand, 1) := by decide +kernel
theorem nd_S_faultOfData_5 : decode nc_S_faultOfData 5 = .ok (.ifCond .ne 14, 3) := by decide +kernel
theorem nd_S_faultOfData_8 : decode nc_S_faultOfData 8 = .ok (.aload_n 0, 1) := by decide +kernel
theorem nd_S_faultOfData_9 : decode nc_S_faultOfData 9 = .ok (.getfield 26, 3) := by decide +kernel
theorem nd_S_faultOfData_12 : decode nc_S_faultOfData 12 = .ok (.iload_n 1, 1) := by decide +kernel
theorem nd_S_faultOfData_13 : decode nc_S_faultOfData 13 = .ok (.invokevirtual 161, 3) := by decide +kernel
theorem nd_S_faultOfData_16 : decode nc_S_faultOfData 16 = .ok (.ifCond .eq 13, 3) := by decide +kernel
theorem nd_S_faultOfData_19 : decode nc_S_faultOfData 19 = .ok (.aload_n 0, 1) := by decide +kernel
theorem nd_S_faultOfData_20 : decode nc_S_faultOfData 20 = .ok (.getfield 26, 3) := by decide +kernel
theorem nd_S_faultOfData_23 : decode nc_S_faultOfData 23 = .ok (.iload_n 1, 1) := by decide +kernel
theorem nd_S_faultOfData_24 : decode nc_S_faultOfData 24 = .ok (.putfield 102, 3) := by decide +kernel
theorem nd_S_faultOfData_27 : decode nc_S_faultOfData 27 = .ok (.iload_n 3, 1) := by decide +kernel
theorem nd_S_faultOfData_28 : decode nc_S_faultOfData 28 = .ok (.ireturn, 1) := by decide +kernel
theorem nd_S_faultOfData_29 : decode nc_S_faultOfData 29 = .ok (.iload_n 1, 1) := by decide +kernel
theorem nd_S_faultOfData_30 : decode nc_S_faultOfData 30 = .ok (.ldc 128, 2) := by decide +kernel
theorem nd_S_faultOfData_32 : decode nc_S_faultOfData 32 = .ok (.iand, 1) := by decide +kernel
theorem nd_S_faultOfData_33 : decode nc_S_faultOfData 33 = .ok (.invokestatic 115, 3) := by decide +kernel
theorem nd_S_faultOfData_36 : decode nc_S_faultOfData 36 = .ok (.ifCond .eq 7, 3) := by decide +kernel
theorem nd_S_faultOfData_39 : decode nc_S_faultOfData 39 = .ok (.iconst (-1), 1) := by decide +kernel
theorem nd_S_faultOfData_40 : decode nc_S_faultOfData 40 = .ok (.goto 5, 3) := by decide +kernel
theorem nd_S_faultOfData_43 : decode nc_S_faultOfData 43 = .ok (.bipush 7, 2) := by decide +kernel
theorem nd_S_faultOfData_45 : decode nc_S_faultOfData 45 = .ok (.ireturn, 1) := by decide +kernel
theorem nd_S_loadUnit_0 : decode nc_S_loadUnit 0 = .ok (.iload_n 0, 1) := by decide +kernel
theorem nd_S_loadUnit_1 : decode nc_S_loadUnit 1 = .ok (.bipush 35, 2) := by decide +kernel
theorem nd_S_loadUnit_3 : decode nc_S_loadUnit 3 = .ok (.if_icmp .ne 5, 3) := by decide +kernel
theorem nd_S_loadUnit_6 : decode nc_S_loadUnit 6 = .ok (.iconst 4, 1) := by decide +kernel
theorem nd_S_loadUnit_7 : decode nc_S_loadUnit 7 = .ok (.ireturn, 1) := by decide +kernel
theorem nd_S_loadUnit_8 : decode nc_S_loadUnit 8 = .ok (.iload_n 0, 1) := by decide +kernel
theorem nd_S_loadUnit_9 : decode nc_S_loadUnit 9 = .ok (.bipush 33, 2) := by decide +kernel
theorem nd_S_loadUnit_11 : decode nc_S_loadUnit 11 = .ok (.if_icmp .eq 9, 3) := by decide +kernel
theorem nd_S_loadUnit_14 : decode nc_S_loadUnit 14 = .ok (.iload_n 0, 1) := by decide +kernel
theorem nd_S_loadUnit_15 : decode nc_S_loadUnit 15 = .ok (.bipush 37, 2) := by decide +kernel
theorem nd_S_loadUnit_17 : decode nc_S_loadUnit 17 = .ok (.if_icmp .ne 7, 3) := by decide +kernel
theorem nd_S_loadUnit_20 : decode nc_S_loadUnit 20 = .ok (.iconst 2, 1) := by decide +kernel
theorem nd_S_loadUnit_21 : decode nc_S_loadUnit 21 = .ok (.goto 4, 3) := by decide +kernel
theorem nd_S_loadUnit_24 : decode nc_S_loadUnit 24 = .ok (.iconst 1, 1) := by decide +kernel
theorem nd_S_loadUnit_25 : decode nc_S_loadUnit 25 = .ok (.ireturn, 1) := by decide +kernel
theorem nd_S_storeUnit_0 : decode nc_S_storeUnit 0 = .ok (.iload_n 0, 1) := by decide +kernel
theorem nd_S_storeUnit_1 : decode nc_S_storeUnit 1 = .ok (.bipush 43, 2) := by decide +kernel
theorem nd_S_storeUnit_3 : decode nc_S_storeUnit 3 = .ok (.if_icmp .ne 5, 3) := by decide +kernel
theorem nd_S_storeUnit_6 : decode nc_S_storeUnit 6 = .ok (.iconst 4, 1) := by decide +kernel
theorem nd_S_storeUnit_7 : decode nc_S_storeUnit 7 = .ok (.ireturn, 1) := by decide +kernel
theorem nd_S_storeUnit_8 : decode nc_S_storeUnit 8 = .ok (.iload_n 0, 1) := by decide +kernel
theorem nd_S_storeUnit_9 : decode nc_S_storeUnit 9 = .ok (.bipush 41, 2) := by decide +kernel
theorem nd_S_storeUnit_11 : decode nc_S_storeUnit 11 = .ok (.if_icmp .ne 7, 3) := by decide +kernel
theorem nd_S_storeUnit_14 : decode nc_S_storeUnit 14 = .ok (.iconst 2, 1) := by decide +kernel
theorem nd_S_storeUnit_15 : decode nc_S_storeUnit 15 = .ok (.goto 4, 3) := by decide +kernel
theorem nd_S_storeUnit_18 : decode nc_S_storeUnit 18 = .ok (.iconst 1, 1) := by decide +kernel
theorem nd_S_storeUnit_19 : decode nc_S_storeUnit 19 = .ok (.ireturn, 1) := by decide +kernel
theorem nd_S_toLowest_0 : decode nc_S_toLowest 0 = .ok (.bipush 8, 2) := by decide +kernel
theorem nd_S_toLowest_2 : decode nc_S_toLowest 2 = .ok (.iconst 4, 1) := by decide +kernel
theorem nd_S_toLowest_3 : decode nc_S_toLowest 3 = .ok (.iload_n 1, 1) := by decide +kernel
theorem nd_S_toLowest_4 : decode nc_S_toLowest 4 = .ok (.isub, 1) := by decide +kernel
theorem nd_S_toLowest_5 : decode nc_S_toLowest 5 = .ok (.iload_n 0, 1) := by decide +kernel
theorem nd_S_toLowest_6 : decode nc_S_toLowest 6 = .ok (.iconst 3, 1) := by decide +kernel
theorem nd_S_toLowest_7 : decode nc_S_toLowest 7 = .ok (.iand, 1) := by decide +kernel
theorem nd_S_toLowest_8 : decode nc_S_toLowest 8 = .ok (.isub, 1) := by decide +kernel
theorem nd_S_toLowest_9 : decode nc_S_toLowest 9 = .ok (.imul, 1) := by decide +kernel
theorem nd_S_toLowest_10 : decode nc_S_toLowest 10 = .ok (.bipush 31, 2) := by decide +kernel
theorem nd_S_toLowest_12 : decode nc_S_toLowest 12 = .ok (.iand, 1) := by decide +kernel
theorem nd_S_toLowest_13 : decode nc_S_toLowest 13 = .ok (.ireturn, 1) := by decide +kernel
theorem nd_S_bitsAhead_0 : decode nc_S_bitsAhead 0 = .ok (.bipush 8, 2) := by decide +kernel
theorem nd_S_bitsAhead_2 : decode nc_S_bitsAhead 2 = .ok (.iload_n 0, 1) := by decide +kernel
theorem nd_S_bitsAhead_3 : decode nc_S_bitsAhead 3 = .ok (.iconst 3, 1) := by decide +kernel
theorem nd_S_bitsAhead_4 : decode nc_S_bitsAhead 4 = .ok (.iand, 1) := by decide +kernel
theorem nd_S_bitsAhead_5 : decode nc_S_bitsAhead 5 = .ok (.imul, 1) := by decide +kernel
theorem nd_S_bitsAhead_6 : decode nc_S_bitsAhead 6 = .ok (.ireturn, 1) := by decide +kernel
theorem nd_S_exchange_0 : decode nc_S_exchange 0 = .ok (.iload_n 0, 1) := by decide +kernel
theorem nd_S_exchange_1 : decode nc_S_exchange 1 = .ok (.iload_n 2, 1) := by decide +kernel
theorem nd_S_exchange_2 : decode nc_S_exchange 2 = .ok (.iconst (-1), 1) := by decide +kernel
theorem nd_S_exchange_3 : decode nc_S_exchange 3 = .ok (.ixor, 1) := by decide +kernel
theorem nd_S_exchange_4 : decode nc_S_exchange 4 = .ok (.iand, 1) := by decide +kernel
theorem nd_S_exchange_5 : decode nc_S_exchange 5 = .ok (.iload_n 1, 1) := by decide +kernel
theorem nd_S_exchange_6 : decode nc_S_exchange 6 = .ok (.iload_n 2, 1) := by decide +kernel
theorem nd_S_exchange_7 : decode nc_S_exchange 7 = .ok (.iand, 1) := by decide +kernel
theorem nd_S_exchange_8 : decode nc_S_exchange 8 = .ok (.ior, 1) := by decide +kernel
theorem nd_S_exchange_9 : decode nc_S_exchange 9 = .ok (.ireturn, 1) := by decide +kernel
theorem nd_C_init_0 : decode nc_C_init 0 = .ok (.aload_n 0, 1) := by decide +kernel
theorem nd_C_init_1 : decode nc_C_init 1 = .ok (.invokespecial 3, 3) := by decide +kernel
theorem nd_C_init_4 : decode nc_C_init 4 = .ok (.return_, 1) := by decide +kernel
theorem nd_C_wholeCause_0 : decode nc_C_wholeCause 0 = .ok (.aload_n 0, 1) := by decide +kernel
theorem nd_C_wholeCause_1 : decode nc_C_wholeCause 1 = .ok (.getfield 9, 3) := by decide +kernel
theorem nd_C_wholeCause_4 : decode nc_C_wholeCause 4 = .ok (.aload_n 0, 1) := by decide +kernel
theorem nd_C_wholeCause_5 : decode nc_C_wholeCause 5 = .ok (.getfield 15, 3) := by decide +kernel
theorem nd_C_wholeCause_8 : decode nc_C_wholeCause 8 = .ok (.bipush 10, 2) := by decide +kernel
theorem nd_C_wholeCause_10 : decode nc_C_wholeCause 10 = .ok (.ishl, 1) := by decide +kernel
theorem nd_C_wholeCause_11 : decode nc_C_wholeCause 11 = .ok (.ior, 1) := by decide +kernel
theorem nd_C_wholeCause_12 : decode nc_C_wholeCause 12 = .ok (.ireturn, 1) := by decide +kernel
theorem nd_C_isUser_0 : decode nc_C_isUser 0 = .ok (.aload_n 0, 1) := by decide +kernel
theorem nd_C_isUser_1 : decode nc_C_isUser 1 = .ok (.getfield 18, 3) := by decide +kernel
theorem nd_C_isUser_4 : decode nc_C_isUser 4 = .ok (.iconst 2, 1) := by decide +kernel
theorem nd_C_isUser_5 : decode nc_C_isUser 5 = .ok (.iand, 1) := by decide +kernel
theorem nd_C_isUser_6 : decode nc_C_isUser 6 = .ok (.ifCond .eq 7, 3) := by decide +kernel
theorem nd_C_isUser_9 : decode nc_C_isUser 9 = .ok (.iconst 1, 1) := by decide +kernel
theorem nd_C_isUser_10 : decode nc_C_isUser 10 = .ok (.goto 4, 3) := by decide +kernel
theorem nd_C_isUser_13 : decode nc_C_isUser 13 = .ok (.iconst 0, 1) := by decide +kernel
theorem nd_C_isUser_14 : decode nc_C_isUser 14 = .ok (.ireturn, 1) := by decide +kernel
theorem nd_C_forbids_0 : decode nc_C_forbids 0 = .ok (.aload_n 0, 1) := by decide +kernel
theorem nd_C_forbids_1 : decode nc_C_forbids 1 = .ok (.invokevirtual 21, 3) := by decide +kernel
theorem nd_C_forbids_4 : decode nc_C_forbids 4 = .ok (.ifCond .eq 11, 3) := by decide +kernel
theorem nd_C_forbids_7 : decode nc_C_forbids 7 = .ok (.iload_n 1, 1) := by decide +kernel
theorem nd_C_forbids_8 : decode nc_C_forbids 8 = .ok (.ifCond .ge 7, 3) := by decide +kernel
theorem nd_C_forbids_11 : decode nc_C_forbids 11 = .ok (.iconst 1, 1) := by decide +kernel
theorem nd_C_forbids_12 : decode nc_C_forbids 12 = .ok (.goto 4, 3) := by decide +kernel
theorem nd_C_forbids_15 : decode nc_C_forbids 15 = .ok (.iconst 0, 1) := by decide +kernel
theorem nd_C_forbids_16 : decode nc_C_forbids 16 = .ok (.ireturn, 1) := by decide +kernel
theorem nd_C_interruptIsDue_0 : decode nc_C_interruptIsDue 0 = .ok (.aload_n 0, 1) := by decide +kernel
theorem nd_C_interruptIsDue_1 : decode nc_C_interruptIsDue 1 = .ok (.getfield 18, 3) := by decide +kernel
theorem nd_C_interruptIsDue_4 : decode nc_C_interruptIsDue 4 = .ok (.iconst 1, 1) := by decide +kernel
theorem nd_C_interruptIsDue_5 : decode nc_C_interruptIsDue 5 = .ok (.iand, 1) := by decide +kernel
theorem nd_C_interruptIsDue_6 : decode nc_C_interruptIsDue 6 = .ok (.ifCond .eq 22, 3) := by decide +kernel
theorem nd_C_interruptIsDue_9 : decode nc_C_interruptIsDue 9 = .ok (.aload_n 0, 1) := by decide +kernel
theorem nd_C_interruptIsDue_10 : decode nc_C_interruptIsDue 10 = .ok (.invokevirtual 25, 3) := by decide +kernel
theorem nd_C_interruptIsDue_13 : decode nc_C_interruptIsDue 13 = .ok (.aload_n 0, 1) := by decide +kernel
theorem nd_C_interruptIsDue_14 : decode nc_C_interruptIsDue 14 = .ok (.getfield 18, 3) := by decide +kernel
theorem nd_C_interruptIsDue_17 : decode nc_C_interruptIsDue 17 = .ok (.iand, 1) := by decide +kernel
theorem nd_C_interruptIsDue_18 : decode nc_C_interruptIsDue 18 = .ok (.ldc 29, 2) := by decide +kernel
theorem nd_C_interruptIsDue_20 : decode nc_C_interruptIsDue 20 = .ok (.iand, 1) := by decide +kernel
theorem nd_C_interruptIsDue_21 : decode nc_C_interruptIsDue 21 = .ok (.ifCond .eq 7, 3) := by decide +kernel
theorem nd_C_interruptIsDue_24 : decode nc_C_interruptIsDue 24 = .ok (.iconst 1, 1) := by decide +kernel
theorem nd_C_interruptIsDue_25 : decode nc_C_interruptIsDue 25 = .ok (.goto 4, 3) := by decide +kernel
theorem nd_C_interruptIsDue_28 : decode nc_C_interruptIsDue 28 = .ok (.iconst 0, 1) := by decide +kernel
theorem nd_C_interruptIsDue_29 : decode nc_C_interruptIsDue 29 = .ok (.ireturn, 1) := by decide +kernel
theorem nd_C_valueOf_0 : decode nc_C_valueOf 0 = .ok (.iload_n 1, 1) := by decide +kernel
theorem nd_C_valueOf_1 : decode nc_C_valueOf 1 = .ok (.tableswitch 63 8 14 #[58, 63, 63, 63, 43, 48, 53], 43) := by decide +kernel
theorem nd_C_valueOf_44 : decode nc_C_valueOf 44 = .ok (.aload_n 0, 1) := by decide +kernel
theorem nd_C_valueOf_45 : decode nc_C_valueOf 45 = .ok (.getfield 18, 3) := by decide +kernel
theorem nd_C_valueOf_48 : decode nc_C_valueOf 48 = .ok (.ireturn, 1) := by decide +kernel
theorem nd_C_valueOf_49 : decode nc_C_valueOf 49 = .ok (.aload_n 0, 1) := by decide +kernel
theorem nd_C_valueOf_50 : decode nc_C_valueOf 50 = .ok (.invokevirtual 25, 3) := by decide +kernel
theorem nd_C_valueOf_53 : decode nc_C_valueOf 53 = .ok (.ireturn, 1) := by decide +kernel
theorem nd_C_valueOf_54 : decode nc_C_valueOf 54 = .ok (.aload_n 0, 1) := by decide +kernel
theorem nd_C_valueOf_55 : decode nc_C_valueOf 55 = .ok (.getfield 30, 3) := by decide +kernel
theorem nd_C_valueOf_58 : decode nc_C_valueOf 58 = .ok (.ireturn, 1) := by decide +kernel
theorem nd_C_valueOf_59 : decode nc_C_valueOf 59 = .ok (.aload_n 0, 1) := by decide +kernel
theorem nd_C_valueOf_60 : decode nc_C_valueOf 60 = .ok (.getfield 33, 3) := by decide +kernel
theorem nd_C_valueOf_63 : decode nc_C_valueOf 63 = .ok (.ireturn, 1) := by decide +kernel
theorem nd_C_valueOf_64 : decode nc_C_valueOf 64 = .ok (.iconst 0, 1) := by decide +kernel
theorem nd_C_valueOf_65 : decode nc_C_valueOf 65 = .ok (.ireturn, 1) := by decide +kernel
theorem nd_C_change_0 : decode nc_C_change 0 = .ok (.iload_n 1, 1) := by decide +kernel
theorem nd_C_change_1 : decode nc_C_change 1 = .ok (.tableswitch 64 12 14 #[27, 38, 56], 27) := by decide +kernel
theorem nd_C_change_28 : decode nc_C_change 28 = .ok (.aload_n 0, 1) := by decide +kernel
theorem nd_C_change_29 : decode nc_C_change 29 = .ok (.iload_n 2, 1) := by decide +kernel
theorem nd_C_change_30 : decode nc_C_change 30 = .ok (.ldc 36, 2) := by decide +kernel
theorem nd_C_change_32 : decode nc_C_change 32 = .ok (.iand, 1) := by decide +kernel
theorem nd_C_change_33 : decode nc_C_change 33 = .ok (.putfield 18, 3) := by decide +kernel
theorem nd_C_change_36 : decode nc_C_change 36 = .ok (.goto 29, 3) := by decide +kernel
theorem nd_C_change_39 : decode nc_C_change 39 = .ok (.aload_n 0, 1) := by decide +kernel
theorem nd_C_change_40 : decode nc_C_change 40 = .ok (.aload_n 0, 1) := by decide +kernel
theorem nd_C_change_41 : decode nc_C_change 41 = .ok (.getfield 9, 3) := by decide +kernel
theorem nd_C_change_44 : decode nc_C_change 44 = .ok (.iload_n 2, 1) := by decide +kernel
theorem nd_C_change_45 : decode nc_C_change 45 = .ok (.sipush 768, 3) := by decide +kernel
theorem nd_C_change_48 : decode nc_C_change 48 = .ok (.invokestatic 37, 3) := by decide +kernel
theorem nd_C_change_51 : decode nc_C_change 51 = .ok (.putfield 9, 3) := by decide +kernel
theorem nd_C_change_54 : decode nc_C_change 54 = .ok (.goto 11, 3) := by decide +kernel
theorem nd_C_change_57 : decode nc_C_change 57 = .ok (.aload_n 0, 1) := by decide +kernel
theorem nd_C_change_58 : decode nc_C_change 58 = .ok (.iload_n 2, 1) := by decide +kernel
theorem nd_C_change_59 : decode nc_C_change 59 = .ok (.putfield 30, 3) := by decide +kernel
theorem nd_C_change_62 : decode nc_C_change 62 = .ok (.goto 3, 3) := by decide +kernel
theorem nd_C_change_65 : decode nc_C_change 65 = .ok (.return_, 1) := by decide +kernel
theorem nd_C_enter_0 : decode nc_C_enter 0 = .ok (.aload_n 0, 1) := by decide +kernel
theorem nd_C_enter_1 : decode nc_C_enter 1 = .ok (.iload_n 2, 1) := by decide +kernel
theorem nd_C_enter_2 : decode nc_C_enter 2 = .ok (.putfield 30, 3) := by decide +kernel
theorem nd_C_enter_5 : decode nc_C_enter 5 = .ok (.aload_n 0, 1) := by decide +kernel
theorem nd_C_enter_6 : decode nc_C_enter 6 = .ok (.aload_n 0, 1) := by decide +kernel
theorem nd_C_enter_7 : decode nc_C_enter 7 = .ok (.getfield 9, 3) := by decide +kernel
theorem nd_C_enter_10 : decode nc_C_enter 10 = .ok (.sipush 768, 3) := by decide +kernel
theorem nd_C_enter_13 : decode nc_C_enter 13 = .ok (.iand, 1) := by decide +kernel
theorem nd_C_enter_14 : decode nc_C_enter 14 = .ok (.iload_n 1, 1) := by decide +kernel
theorem nd_C_enter_15 : decode nc_C_enter 15 = .ok (.iconst 2, 1) := by decide +kernel
theorem nd_C_enter_16 : decode nc_C_enter 16 = .ok (.ishl, 1) := by decide +kernel
theorem nd_C_enter_17 : decode nc_C_enter 17 = .ok (.ior, 1) := by decide +kernel
theorem nd_C_enter_18 : decode nc_C_enter 18 = .ok (.iload_n 3, 1) := by decide +kernel
theorem nd_C_enter_19 : decode nc_C_enter 19 = .ok (.ifCond .eq 8, 3) := by decide +kernel
theorem nd_C_enter_22 : decode nc_C_enter 22 = .ok (.ldc 41, 2) := by decide +kernel
theorem nd_C_enter_24 : decode nc_C_enter 24 = .ok (.goto 4, 3) := by decide +kernel
theorem nd_C_enter_27 : decode nc_C_enter 27 = .ok (.iconst 0, 1) := by decide +kernel
theorem nd_C_enter_28 : decode nc_C_enter 28 = .ok (.ior, 1) := by decide +kernel
theorem nd_C_enter_29 : decode nc_C_enter 29 = .ok (.putfield 9, 3) := by decide +kernel
theorem nd_C_enter_32 : decode nc_C_enter 32 = .ok (.aload_n 0, 1) := by decide +kernel
theorem nd_C_enter_33 : decode nc_C_enter 33 = .ok (.aload_n 0, 1) := by decide +kernel
theorem nd_C_enter_34 : decode nc_C_enter 34 = .ok (.getfield 18, 3) := by decide +kernel
theorem nd_C_enter_37 : decode nc_C_enter 37 = .ok (.aload_n 0, 1) := by decide +kernel
theorem nd_C_enter_38 : decode nc_C_enter 38 = .ok (.getfield 18, 3) := by decide +kernel
theorem nd_C_enter_41 : decode nc_C_enter 41 = .ok (.iconst 2, 1) := by decide +kernel
theorem nd_C_enter_42 : decode nc_C_enter 42 = .ok (.ishl, 1) := by decide +kernel
theorem nd_C_enter_43 : decode nc_C_enter 43 = .ok (.bipush 63, 2) := by decide +kernel
theorem nd_C_enter_45 : decode nc_C_enter 45 = .ok (.invokestatic 37, 3) := by decide +kernel
theorem nd_C_enter_48 : decode nc_C_enter 48 = .ok (.putfield 18, 3) := by decide +kernel
theorem nd_C_enter_51 : decode nc_C_enter 51 = .ok (.return_, 1) := by decide +kernel
theorem nd_C_leave_0 : decode nc_C_leave 0 = .ok (.aload_n 0, 1) := by decide +kernel
theorem nd_C_leave_1 : decode nc_C_leave 1 = .ok (.aload_n 0, 1) := by decide +kernel
theorem nd_C_leave_2 : decode nc_C_leave 2 = .ok (.getfield 18, 3) := by decide +kernel
theorem nd_C_leave_5 : decode nc_C_leave 5 = .ok (.aload_n 0, 1) := by decide +kernel
theorem nd_C_leave_6 : decode nc_C_leave 6 = .ok (.getfield 18, 3) := by decide +kernel
theorem nd_C_leave_9 : decode nc_C_leave 9 = .ok (.iconst 2, 1) := by decide +kernel
theorem nd_C_leave_10 : decode nc_C_leave 10 = .ok (.ishr, 1) := by decide +kernel
theorem nd_C_leave_11 : decode nc_C_leave 11 = .ok (.bipush 15, 2) := by decide +kernel
theorem nd_C_leave_13 : decode nc_C_leave 13 = .ok (.invokestatic 37, 3) := by decide +kernel
theorem nd_C_leave_16 : decode nc_C_leave 16 = .ok (.putfield 18, 3) := by decide +kernel
theorem nd_C_leave_19 : decode nc_C_leave 19 = .ok (.return_, 1) := by decide +kernel
theorem nd_C_clear_0 : decode nc_C_clear 0 = .ok (.aload_n 0, 1) := by decide +kernel
theorem nd_C_clear_1 : decode nc_C_clear 1 = .ok (.iconst 0, 1) := by decide +kernel
theorem nd_C_clear_2 : decode nc_C_clear 2 = .ok (.putfield 18, 3) := by decide +kernel
theorem nd_C_clear_5 : decode nc_C_clear 5 = .ok (.aload_n 0, 1) := by decide +kernel
theorem nd_C_clear_6 : decode nc_C_clear 6 = .ok (.iconst 0, 1) := by decide +kernel
theorem nd_C_clear_7 : decode nc_C_clear 7 = .ok (.putfield 9, 3) := by decide +kernel
theorem nd_C_clear_10 : decode nc_C_clear 10 = .ok (.aload_n 0, 1) := by decide +kernel
theorem nd_C_clear_11 : decode nc_C_clear 11 = .ok (.iconst 0, 1) := by decide +kernel
theorem nd_C_clear_12 : decode nc_C_clear 12 = .ok (.putfield 15, 3) := by decide +kernel
theorem nd_C_clear_15 : decode nc_C_clear 15 = .ok (.aload_n 0, 1) := by decide +kernel
theorem nd_C_clear_16 : decode nc_C_clear 16 = .ok (.iconst 0, 1) := by decide +kernel
theorem nd_C_clear_17 : decode nc_C_clear 17 = .ok (.putfield 30, 3) := by decide +kernel
theorem nd_C_clear_20 : decode nc_C_clear 20 = .ok (.aload_n 0, 1) := by decide +kernel
theorem nd_C_clear_21 : decode nc_C_clear 21 = .ok (.iconst 0, 1) := by decide +kernel
theorem nd_C_clear_22 : decode nc_C_clear 22 = .ok (.putfield 33, 3) := by decide +kernel
theorem nd_C_clear_25 : decode nc_C_clear 25 = .ok (.return_, 1) := by decide +kernel
theorem nd_M_init_0 : decode nc_M_init 0 = .ok (.aload_n 0, 1) := by decide +kernel
theorem nd_M_init_1 : decode nc_M_init 1 = .ok (.invokespecial 3, 3) := by decide +kernel
theorem nd_M_init_4 : decode nc_M_init 4 = .ok (.aload_n 0, 1) := by decide +kernel
theorem nd_M_init_5 : decode nc_M_init 5 = .ok (.sipush 1024, 3) := by decide +kernel
theorem nd_M_init_8 : decode nc_M_init 8 = .ok (.newarray .int, 2) := by decide +kernel
theorem nd_M_init_10 : decode nc_M_init 10 = .ok (.putfield 9, 3) := by decide +kernel
theorem nd_M_init_13 : decode nc_M_init 13 = .ok (.return_, 1) := by decide +kernel
theorem nd_M_wordAround_0 : decode nc_M_wordAround 0 = .ok (.aload_n 0, 1) := by decide +kernel
theorem nd_M_wordAround_1 : decode nc_M_wordAround 1 = .ok (.getfield 9, 3) := by decide +kernel
theorem nd_M_wordAround_4 : decode nc_M_wordAround 4 = .ok (.iload_n 1, 1) := by decide +kernel
theorem nd_M_wordAround_5 : decode nc_M_wordAround 5 = .ok (.invokestatic 15, 3) := by decide +kernel
theorem nd_M_wordAround_8 : decode nc_M_wordAround 8 = .ok (.iaload, 1) := by decide +kernel
theorem nd_M_wordAround_9 : decode nc_M_wordAround 9 = .ok (.ireturn, 1) := by decide +kernel
theorem nd_M_replaceWord_0 : decode nc_M_replaceWord 0 = .ok (.aload_n 0, 1) := by decide +kernel
theorem nd_M_replaceWord_1 : decode nc_M_replaceWord 1 = .ok (.getfield 9, 3) := by decide +kernel
theorem nd_M_replaceWord_4 : decode nc_M_replaceWord 4 = .ok (.iload_n 1, 1) := by decide +kernel
theorem nd_M_replaceWord_5 : decode nc_M_replaceWord 5 = .ok (.invokestatic 15, 3) := by decide +kernel
theorem nd_M_replaceWord_8 : decode nc_M_replaceWord 8 = .ok (.iload_n 2, 1) := by decide +kernel
theorem nd_M_replaceWord_9 : decode nc_M_replaceWord 9 = .ok (.iastore, 1) := by decide +kernel
theorem nd_M_replaceWord_10 : decode nc_M_replaceWord 10 = .ok (.return_, 1) := by decide +kernel
theorem nd_M_indexOf_0 : decode nc_M_indexOf 0 = .ok (.iload_n 0, 1) := by decide +kernel
theorem nd_M_indexOf_1 : decode nc_M_indexOf 1 = .ok (.iconst 2, 1) := by decide +kernel
theorem nd_M_indexOf_2 : decode nc_M_indexOf 2 = .ok (.ishr, 1) := by decide +kernel
theorem nd_M_indexOf_3 : decode nc_M_indexOf 3 = .ok (.sipush 1023, 3) := by decide +kernel
theorem nd_M_indexOf_6 : decode nc_M_indexOf 6 = .ok (.iand, 1) := by decide +kernel
theorem nd_M_indexOf_7 : decode nc_M_indexOf 7 = .ok (.ireturn, 1) := by decide +kernel
theorem nd_O_init_0 : decode nc_O_init 0 = .ok (.aload_n 0, 1) := by decide +kernel
theorem nd_O_init_1 : decode nc_O_init 1 = .ok (.invokespecial 3, 3) := by decide +kernel
theorem nd_O_init_4 : decode nc_O_init 4 = .ok (.return_, 1) := by decide +kernel
theorem nd_O_begin_0 : decode nc_O_begin 0 = .ok (.aload_n 0, 1) := by decide +kernel
theorem nd_O_begin_1 : decode nc_O_begin 1 = .ok (.iconst (-1), 1) := by decide +kernel
theorem nd_O_begin_2 : decode nc_O_begin 2 = .ok (.putfield 9, 3) := by decide +kernel
theorem nd_O_begin_5 : decode nc_O_begin 5 = .ok (.aload_n 0, 1) := by decide +kernel
theorem nd_O_begin_6 : decode nc_O_begin 6 = .ok (.iconst 0, 1) := by decide +kernel
theorem nd_O_begin_7 : decode nc_O_begin 7 = .ok (.putfield 15, 3) := by decide +kernel
theorem nd_O_begin_10 : decode nc_O_begin 10 = .ok (.aload_n 0, 1) := by decide +kernel
theorem nd_O_begin_11 : decode nc_O_begin 11 = .ok (.iconst 0, 1) := by decide +kernel
theorem nd_O_begin_12 : decode nc_O_begin 12 = .ok (.putfield 19, 3) := by decide +kernel
theorem nd_O_begin_15 : decode nc_O_begin 15 = .ok (.aload_n 0, 1) := by decide +kernel
theorem nd_O_begin_16 : decode nc_O_begin 16 = .ok (.iload_n 1, 1) := by decide +kernel
theorem nd_O_begin_17 : decode nc_O_begin 17 = .ok (.putfield 22, 3) := by decide +kernel
theorem nd_O_begin_20 : decode nc_O_begin 20 = .ok (.return_, 1) := by decide +kernel
theorem nd_R_init_0 : decode nc_R_init 0 = .ok (.aload_n 0, 1) := by decide +kernel
theorem nd_R_init_1 : decode nc_R_init 1 = .ok (.invokespecial 3, 3) := by decide +kernel
theorem nd_R_init_4 : decode nc_R_init 4 = .ok (.aload_n 0, 1) := by decide +kernel
theorem nd_R_init_5 : decode nc_R_init 5 = .ok (.bipush 34, 2) := by decide +kernel
theorem nd_R_init_7 : decode nc_R_init 7 = .ok (.newarray .int, 2) := by decide +kernel
theorem nd_R_init_9 : decode nc_R_init 9 = .ok (.putfield 9, 3) := by decide +kernel
theorem nd_R_init_12 : decode nc_R_init 12 = .ok (.aload_n 0, 1) := by decide +kernel
theorem nd_R_init_13 : decode nc_R_init 13 = .ok (.iconst (-1), 1) := by decide +kernel
theorem nd_R_init_14 : decode nc_R_init 14 = .ok (.putfield 15, 3) := by decide +kernel
theorem nd_R_init_17 : decode nc_R_init 17 = .ok (.return_, 1) := by decide +kernel
theorem nd_R_valueOf_0 : decode nc_R_valueOf 0 = .ok (.iload_n 1, 1) := by decide +kernel
theorem nd_R_valueOf_1 : decode nc_R_valueOf 1 = .ok (.ifCond .lt 18, 3) := by decide +kernel
theorem nd_R_valueOf_4 : decode nc_R_valueOf 4 = .ok (.iload_n 1, 1) := by decide +kernel
theorem nd_R_valueOf_5 : decode nc_R_valueOf 5 = .ok (.bipush 34, 2) := by decide +kernel
theorem nd_R_valueOf_7 : decode nc_R_valueOf 7 = .ok (.if_icmp .ge 12, 3) := by decide +kernel
theorem nd_R_valueOf_10 : decode nc_R_valueOf 10 = .ok (.aload_n 0, 1) := by decide +kernel
theorem nd_R_valueOf_11 : decode nc_R_valueOf 11 = .ok (.getfield 9, 3) := by decide +kernel
theorem nd_R_valueOf_14 : decode nc_R_valueOf 14 = .ok (.iload_n 1, 1) := by decide +kernel
theorem nd_R_valueOf_15 : decode nc_R_valueOf 15 = .ok (.iaload, 1) := by decide +kernel
theorem nd_R_valueOf_16 : decode nc_R_valueOf 16 = .ok (.goto 4, 3) := by decide +kernel
theorem nd_R_valueOf_19 : decode nc_R_valueOf 19 = .ok (.iconst 0, 1) := by decide +kernel
theorem nd_R_valueOf_20 : decode nc_R_valueOf 20 = .ok (.ireturn, 1) := by decide +kernel
theorem nd_R_change_0 : decode nc_R_change 0 = .ok (.iload_n 1, 1) := by decide +kernel
theorem nd_R_change_1 : decode nc_R_change 1 = .ok (.ifCond .le 16, 3) := by decide +kernel
theorem nd_R_change_4 : decode nc_R_change 4 = .ok (.iload_n 1, 1) := by decide +kernel
theorem nd_R_change_5 : decode nc_R_change 5 = .ok (.bipush 34, 2) := by decide +kernel
theorem nd_R_change_7 : decode nc_R_change 7 = .ok (.if_icmp .ge 10, 3) := by decide +kernel
theorem nd_R_change_10 : decode nc_R_change 10 = .ok (.aload_n 0, 1) := by decide +kernel
theorem nd_R_change_11 : decode nc_R_change 11 = .ok (.getfield 9, 3) := by decide +kernel
theorem nd_R_change_14 : decode nc_R_change 14 = .ok (.iload_n 1, 1) := by decide +kernel
theorem nd_R_change_15 : decode nc_R_change 15 = .ok (.iload_n 2, 1) := by decide +kernel
theorem nd_R_change_16 : decode nc_R_change 16 = .ok (.iastore, 1) := by decide +kernel
theorem nd_R_change_17 : decode nc_R_change 17 = .ok (.return_, 1) := by decide +kernel
theorem nd_R_latestOf_0 : decode nc_R_latestOf 0 = .ok (.aload_n 0, 1) := by decide +kernel
theorem nd_R_latestOf_1 : decode nc_R_latestOf 1 = .ok (.getfield 15, 3) := by decide +kernel
theorem nd_R_latestOf_4 : decode nc_R_latestOf 4 = .ok (.iload_n 1, 1) := by decide +kernel
theorem nd_R_latestOf_5 : decode nc_R_latestOf 5 = .ok (.if_icmp .ne 10, 3) := by decide +kernel
theorem nd_R_latestOf_8 : decode nc_R_latestOf 8 = .ok (.aload_n 0, 1) := by decide +kernel
theorem nd_R_latestOf_9 : decode nc_R_latestOf 9 = .ok (.getfield 19, 3) := by decide +kernel
theorem nd_R_latestOf_12 : decode nc_R_latestOf 12 = .ok (.goto 8, 3) := by decide +kernel
theorem nd_R_latestOf_15 : decode nc_R_latestOf 15 = .ok (.aload_n 0, 1) := by decide +kernel
theorem nd_R_latestOf_16 : decode nc_R_latestOf 16 = .ok (.iload_n 1, 1) := by decide +kernel
theorem nd_R_latestOf_17 : decode nc_R_latestOf 17 = .ok (.invokevirtual 22, 3) := by decide +kernel
theorem nd_R_latestOf_20 : decode nc_R_latestOf 20 = .ok (.ireturn, 1) := by decide +kernel
theorem nd_R_holdLoad_0 : decode nc_R_holdLoad 0 = .ok (.aload_n 0, 1) := by decide +kernel
theorem nd_R_holdLoad_1 : decode nc_R_holdLoad 1 = .ok (.iload_n 1, 1) := by decide +kernel
theorem nd_R_holdLoad_2 : decode nc_R_holdLoad 2 = .ok (.putfield 15, 3) := by decide +kernel
theorem nd_R_holdLoad_5 : decode nc_R_holdLoad 5 = .ok (.aload_n 0, 1) := by decide +kernel
theorem nd_R_holdLoad_6 : decode nc_R_holdLoad 6 = .ok (.iload_n 2, 1) := by decide +kernel
theorem nd_R_holdLoad_7 : decode nc_R_holdLoad 7 = .ok (.putfield 19, 3) := by decide +kernel
theorem nd_R_holdLoad_10 : decode nc_R_holdLoad 10 = .ok (.return_, 1) := by decide +kernel
theorem nd_R_landLoad_0 : decode nc_R_landLoad 0 = .ok (.aload_n 0, 1) := by decide +kernel
theorem nd_R_landLoad_1 : decode nc_R_landLoad 1 = .ok (.aload_n 0, 1) := by decide +kernel
theorem nd_R_landLoad_2 : decode nc_R_landLoad 2 = .ok (.getfield 15, 3) := by decide +kernel
theorem nd_R_landLoad_5 : decode nc_R_landLoad 5 = .ok (.aload_n 0, 1) := by decide +kernel
theorem nd_R_landLoad_6 : decode nc_R_landLoad 6 = .ok (.getfield 19, 3) := by decide +kernel
theorem nd_R_landLoad_9 : decode nc_R_landLoad 9 = .ok (.invokevirtual 26, 3) := by decide +kernel
theorem nd_R_landLoad_12 : decode nc_R_landLoad 12 = .ok (.aload_n 0, 1) := by decide +kernel
theorem nd_R_landLoad_13 : decode nc_R_landLoad 13 = .ok (.invokevirtual 30, 3) := by decide +kernel
theorem nd_R_landLoad_16 : decode nc_R_landLoad 16 = .ok (.return_, 1) := by decide +kernel
theorem nd_R_dropLoad_0 : decode nc_R_dropLoad 0 = .ok (.aload_n 0, 1) := by decide +kernel
theorem nd_R_dropLoad_1 : decode nc_R_dropLoad 1 = .ok (.iconst (-1), 1) := by decide +kernel
theorem nd_R_dropLoad_2 : decode nc_R_dropLoad 2 = .ok (.iconst 0, 1) := by decide +kernel
theorem nd_R_dropLoad_3 : decode nc_R_dropLoad 3 = .ok (.invokevirtual 33, 3) := by decide +kernel
theorem nd_R_dropLoad_6 : decode nc_R_dropLoad 6 = .ok (.return_, 1) := by decide +kernel
theorem nd_R_clear_0 : decode nc_R_clear 0 = .ok (.iconst 0, 1) := by decide +kernel
theorem nd_R_clear_1 : decode nc_R_clear 1 = .ok (.istore_n 1, 1) := by decide +kernel
theorem nd_R_clear_2 : decode nc_R_clear 2 = .ok (.iload_n 1, 1) := by decide +kernel
theorem nd_R_clear_3 : decode nc_R_clear 3 = .ok (.bipush 34, 2) := by decide +kernel
theorem nd_R_clear_5 : decode nc_R_clear 5 = .ok (.if_icmp .ge 16, 3) := by decide +kernel
theorem nd_R_clear_8 : decode nc_R_clear 8 = .ok (.aload_n 0, 1) := by decide +kernel
theorem nd_R_clear_9 : decode nc_R_clear 9 = .ok (.getfield 9, 3) := by decide +kernel
theorem nd_R_clear_12 : decode nc_R_clear 12 = .ok (.iload_n 1, 1) := by decide +kernel
theorem nd_R_clear_13 : decode nc_R_clear 13 = .ok (.iconst 0, 1) := by decide +kernel
theorem nd_R_clear_14 : decode nc_R_clear 14 = .ok (.iastore, 1) := by decide +kernel
theorem nd_R_clear_15 : decode nc_R_clear 15 = .ok (.iinc 1 1, 3) := by decide +kernel
theorem nd_R_clear_18 : decode nc_R_clear 18 = .ok (.goto (-16), 3) := by decide +kernel
theorem nd_R_clear_21 : decode nc_R_clear 21 = .ok (.aload_n 0, 1) := by decide +kernel
theorem nd_R_clear_22 : decode nc_R_clear 22 = .ok (.invokevirtual 30, 3) := by decide +kernel
theorem nd_R_clear_25 : decode nc_R_clear 25 = .ok (.return_, 1) := by decide +kernel
end
section
set_option maxHeartbeats 4000000 in
set_option maxRecDepth 100000 in
theorem c_S_isInMemory (l : Launch) (a1 : Int32) (F : Int32) (hw : f_S_isInMemory a1 = F) : MP l ny_S_isInMemory nw_S_isInMemory ({ frames := 0, cells := 0, slots := 0, locals := 0 }) ([.int a1] : List Value) (zb F) := by
  unfold MP
  refine my_inP (gw := GW) (cc := nc_S_isInMemory) (maxL := 1) (ret := (some .boolean)) (by decide) rfl (Nat.le_of_ble_eq_true rfl) ?_
  intro p e s m below meth c H locs ls hx hb hml hr hts hown hlocks hS hl
  have hown : s.vm.findClass nR_S = some m.cls := hown
  have hl : lv_has ls 1 [(0, .int a1)] := hl
  unfold f_S_isInMemory at hw
  refine lv_iload_n hx hb nd_S_isInMemory_0 rfl (lv_at hl 0 rfl) ?_
  refine lv_if_lt (tgt := 15) hx hb nd_S_isInMemory_1 (by decide) (fun h1 => ?_) (fun h1 => ?_)
  · have hw := (if_pos h1).symm.trans hw
    refine lv_iconst (v := (0 : Int32)) hx hb nd_S_isInMemory_15 (by decide) ?_
    exact my_rpz hx hb hr hlocks hS hw rfl nd_S_isInMemory_16
  have hw := (if_neg h1).symm.trans hw
  refine lv_iload_n hx hb nd_S_isInMemory_4 rfl (lv_at hl 0 rfl) ?_
  refine lv_sipush (v := (4096 : Int32)) hx hb nd_S_isInMemory_5 (by decide) ?_
  refine lv_icmp_ge (tgt := 15) hx hb nd_S_isInMemory_8 (by decide) (fun h8 => ?_) (fun h8 => ?_)
  · have hw := (if_pos h8).symm.trans hw
    refine lv_iconst (v := (0 : Int32)) hx hb nd_S_isInMemory_15 (by decide) ?_
    exact my_rpz hx hb hr hlocks hS hw rfl nd_S_isInMemory_16
  have hw := (if_neg h8).symm.trans hw
  refine lv_iconst (v := (1 : Int32)) hx hb nd_S_isInMemory_11 (by decide) ?_
  refine lv_goto (tgt := 16) hx hb nd_S_isInMemory_12 (by decide) ?_
  exact my_rpz hx hb hr hlocks hS hw rfl nd_S_isInMemory_16
set_option maxHeartbeats 4000000 in
set_option maxRecDepth 100000 in
theorem c_S_isPlaceOfWord (l : Launch) (a1 : Int32) (F : Int32) (hw : f_S_isPlaceOfWord a1 = F) : MP l ny_S_isPlaceOfWord nw_S_isPlaceOfWord ({ frames := 1, cells := 0, slots := 0, locals := 20 }) ([.int a1] : List Value) (zb F) := by
  unfold MP
  refine my_inP (gw := GW) (cc := nc_S_isPlaceOfWord) (maxL := 1) (ret := (some .boolean)) (by decide) rfl (Nat.le_of_ble_eq_true rfl) ?_
  intro p e s m below meth c H locs ls hx hb hml hr hts hown hlocks hS hl
  have hown : s.vm.findClass nR_S = some m.cls := hown
  have hl : lv_has ls 1 [(0, .int a1)] := hl
  unfold f_S_isPlaceOfWord at hw
  refine lv_iload_n hx hb nd_S_isPlaceOfWord_0 rfl (lv_at hl 0 rfl) ?_
  refine lv_iconst (v := (3 : Int32)) hx hb nd_S_isPlaceOfWord_1 (by decide) ?_
  refine lv_iand hx hb nd_S_isPlaceOfWord_2 ?_
  refine lv_if_ne (tgt := 17) hx hb nd_S_isPlaceOfWord_3 (by decide) (fun h3 => ?_) (fun h3 => ?_)
  · have hw := (if_neg h3).symm.trans hw
    refine lv_iconst (v := (0 : Int32)) hx hb nd_S_isPlaceOfWord_17 (by decide) ?_
    exact my_rpz hx hb hr hlocks hS hw rfl nd_S_isPlaceOfWord_18
  have hw := (if_pos h3).symm.trans hw
  refine lv_iload_n hx hb nd_S_isPlaceOfWord_6 rfl (lv_at hl 0 rfl) ?_
  refine my_cp (F := zb (f_S_isInMemory a1)) (D := D0) (cl := []) (ws := []) (va_runS (As := [.int a1]) (rest := []) ⟨hx, hb, hml, hown, hts⟩ (c_S_isInMemory l a1 _ rfl) ⟨callB_of 1 hts (gw_in gw_163) rfl rfl rfl (hts _ gw_1) (hts _ gw_161) nh_S_isInMemory ⟨Nat.le_of_ble_eq_true rfl, Nat.le_of_ble_eq_true rfl⟩, (hts _ gw_162)⟩ my_preP rfl rfl hl.1 rfl (lv_room (Nat.le_of_ble_eq_true rfl)) nd_S_isPlaceOfWord_7 ⟨Nat.le_of_ble_eq_true rfl, Nat.le_of_ble_eq_true rfl⟩) my_nil hS (fun H locs _ hS => ?_)
  refine lv_if_eq (tgt := 17) hx hb nd_S_isPlaceOfWord_10 (by decide) (fun h10 => ?_) (fun h10 => ?_)
  · have hw := (if_pos h10).symm.trans hw
    refine lv_iconst (v := (0 : Int32)) hx hb nd_S_isPlaceOfWord_17 (by decide) ?_
    exact my_rpz hx hb hr hlocks hS hw rfl nd_S_isPlaceOfWord_18
  have hw := (if_neg h10).symm.trans hw
  refine lv_iconst (v := (1 : Int32)) hx hb nd_S_isPlaceOfWord_13 (by decide) ?_
  refine lv_goto (tgt := 18) hx hb nd_S_isPlaceOfWord_14 (by decide) ?_
  exact my_rpz hx hb hr hlocks hS hw rfl nd_S_isPlaceOfWord_18
set_option maxHeartbeats 4000000 in
set_option maxRecDepth 100000 in
theorem c_M_indexOf (l : Launch) (a1 : Int32) (F : Int32) (hw : f_M_indexOf a1 = F) : MP l ny_M_indexOf nw_M_indexOf ({ frames := 0, cells := 0, slots := 0, locals := 0 }) ([.int a1] : List Value) F := by
  unfold MP
  refine my_inP (gw := GW) (cc := nc_M_indexOf) (maxL := 1) (ret := (some .int)) (by decide) rfl (Nat.le_of_ble_eq_true rfl) ?_
  intro p e s m below meth c H locs ls hx hb hml hr hts hown hlocks hS hl
  have hown : s.vm.findClass nR_M = some m.cls := hown
  have hl : lv_has ls 1 [(0, .int a1)] := hl
  unfold f_M_indexOf at hw
  refine lv_iload_n hx hb nd_M_indexOf_0 rfl (lv_at hl 0 rfl) ?_
  refine lv_iconst (v := (2 : Int32)) hx hb nd_M_indexOf_1 (by decide) ?_
  refine lv_ishr hx hb nd_M_indexOf_2 ?_
  refine lv_sipush (v := (1023 : Int32)) hx hb nd_M_indexOf_3 (by decide) ?_
  refine lv_iand hx hb nd_M_indexOf_6 ?_
  exact my_rp hx hb hr hlocks hS hw nd_M_indexOf_7
set_option maxHeartbeats 4000000 in
set_option maxRecDepth 100000 in
theorem c_S_exchange (l : Launch) (a1 : Int32) (a2 : Int32) (a3 : Int32) (F : Int32) (hw : f_S_exchange a1 a2 a3 = F) : MP l ny_S_exchange nw_S_exchange ({ frames := 0, cells := 0, slots := 0, locals := 0 }) ([.int a1, .int a2, .int a3] : List Value) F := by
  unfold MP
  refine my_inP (gw := GW) (cc := nc_S_exchange) (maxL := 3) (ret := (some .int)) (by decide) rfl (Nat.le_of_ble_eq_true rfl) ?_
  intro p e s m below meth c H locs ls hx hb hml hr hts hown hlocks hS hl
  have hown : s.vm.findClass nR_S = some m.cls := hown
  have hl : lv_has ls 3 [(0, .int a1), (1, .int a2), (2, .int a3)] := hl
  unfold f_S_exchange at hw
  refine lv_iload_n hx hb nd_S_exchange_0 rfl (lv_at hl 0 rfl) ?_
  refine lv_iload_n hx hb nd_S_exchange_1 rfl (lv_at hl 2 rfl) ?_
  refine lv_iconst (v := (-1 : Int32)) hx hb nd_S_exchange_2 (by decide) ?_
  refine lv_ixor hx hb nd_S_exchange_3 ?_
  refine lv_iand hx hb nd_S_exchange_4 ?_
  refine lv_iload_n hx hb nd_S_exchange_5 rfl (lv_at hl 1 rfl) ?_
  refine lv_iload_n hx hb nd_S_exchange_6 rfl (lv_at hl 2 rfl) ?_
  refine lv_iand hx hb nd_S_exchange_7 ?_
  refine lv_ior hx hb nd_S_exchange_8 ?_
  exact my_rp hx hb hr hlocks hS hw nd_S_exchange_9
set_option maxHeartbeats 4000000 in
set_option maxRecDepth 100000 in
theorem c_S_orderOf (l : Launch) (a1 : Int32) (F : Int32) (hw : f_S_orderOf a1 = F) : MP l ny_S_orderOf nw_S_orderOf ({ frames := 0, cells := 0, slots := 0, locals := 0 }) ([.int a1] : List Value) F := by
  unfold MP
  refine my_inP (gw := GW) (cc := nc_S_orderOf) (maxL := 1) (ret := (some .int)) (by decide) rfl (Nat.le_of_ble_eq_true rfl) ?_
  intro p e s m below meth c H locs ls hx hb hml hr hts hown hlocks hS hl
  have hown : s.vm.findClass nR_S = some m.cls := hown
  have hl : lv_has ls 1 [(0, .int a1)] := hl
  unfold f_S_orderOf at hw
  refine lv_iload_n hx hb nd_S_orderOf_0 rfl (lv_at hl 0 rfl) ?_
  refine lv_bipush (v := (26 : Int32)) hx hb nd_S_orderOf_1 (by decide) ?_
  refine lv_iushr (v := ush a1 (26 : Int32)) hx hb nd_S_orderOf_3 rfl ?_
  exact my_rp hx hb hr hlocks hS hw nd_S_orderOf_4
set_option maxHeartbeats 4000000 in
set_option maxRecDepth 100000 in
theorem c_S_numberK (l : Launch) (a1 : Int32) (F : Int32) (hw : f_S_numberK a1 = F) : MP l ny_S_numberK nw_S_numberK ({ frames := 0, cells := 0, slots := 0, locals := 0 }) ([.int a1] : List Value) F := by
  unfold MP
  refine my_inP (gw := GW) (cc := nc_S_numberK) (maxL := 1) (ret := (some .int)) (by decide) rfl (Nat.le_of_ble_eq_true rfl) ?_
  intro p e s m below meth c H locs ls hx hb hml hr hts hown hlocks hS hl
  have hown : s.vm.findClass nR_S = some m.cls := hown
  have hl : lv_has ls 1 [(0, .int a1)] := hl
  unfold f_S_numberK at hw
  refine lv_iload_n hx hb nd_S_numberK_0 rfl (lv_at hl 0 rfl) ?_
  refine lv_bipush (v := (63 : Int32)) hx hb nd_S_numberK_1 (by decide) ?_
  refine lv_iand hx hb nd_S_numberK_3 ?_
  exact my_rp hx hb hr hlocks hS hw nd_S_numberK_4
set_option maxHeartbeats 4000000 in
set_option maxRecDepth 100000 in
theorem c_S_numberT (l : Launch) (a1 : Int32) (F : Int32) (hw : f_S_numberT a1 = F) : MP l ny_S_numberT nw_S_numberT ({ frames := 0, cells := 0, slots := 0, locals := 0 }) ([.int a1] : List Value) F := by
  unfold MP
  refine my_inP (gw := GW) (cc := nc_S_numberT) (maxL := 1) (ret := (some .int)) (by decide) rfl (Nat.le_of_ble_eq_true rfl) ?_
  intro p e s m below meth c H locs ls hx hb hml hr hts hown hlocks hS hl
  have hown : s.vm.findClass nR_S = some m.cls := hown
  have hl : lv_has ls 1 [(0, .int a1)] := hl
  unfold f_S_numberT at hw
  refine lv_iload_n hx hb nd_S_numberT_0 rfl (lv_at hl 0 rfl) ?_
  refine lv_bipush (v := (16 : Int32)) hx hb nd_S_numberT_1 (by decide) ?_
  refine lv_iushr (v := ush a1 (16 : Int32)) hx hb nd_S_numberT_3 rfl ?_
  refine lv_bipush (v := (31 : Int32)) hx hb nd_S_numberT_4 (by decide) ?_
  refine lv_iand hx hb nd_S_numberT_6 ?_
  exact my_rp hx hb hr hlocks hS hw nd_S_numberT_7
set_option maxHeartbeats 4000000 in
set_option maxRecDepth 100000 in
theorem c_S_isBranchBySign (l : Launch) (a1 : Int32) (F : Int32) (hw : f_S_isBranchBySign a1 = F) : MP l ny_S_isBranchBySign nw_S_isBranchBySign ({ frames := 1, cells := 0, slots := 0, locals := 20 }) ([.int a1] : List Value) (zb F) := by
  unfold MP
  refine my_inP (gw := GW) (cc := nc_S_isBranchBySign) (maxL := 2) (ret := (some .boolean)) (by decide) rfl (Nat.le_of_ble_eq_true rfl) ?_
  intro p e s m below meth c H locs ls hx hb hml hr hts hown hlocks hS hl
  have hown : s.vm.findClass nR_S = some m.cls := hown
  have hl : lv_has ls 2 [(0, .int a1)] := hl
  unfold f_S_isBranchBySign at hw
  refine lv_iload_n hx hb nd_S_isBranchBySign_0 rfl (lv_at hl 0 rfl) ?_
  refine my_cp (F := f_S_numberT a1) (D := D0) (cl := []) (ws := []) (va_runS (As := [.int a1]) (rest := []) ⟨hx, hb, hml, hown, hts⟩ (c_S_numberT l a1 _ rfl) ⟨callB_of 1 hts (gw_in gw_191) rfl rfl rfl (hts _ gw_1) (hts _ gw_189) nh_S_numberT ⟨Nat.le_of_ble_eq_true rfl, Nat.le_of_ble_eq_true rfl⟩, (hts _ gw_190)⟩ my_preP rfl rfl hl.1 rfl (lv_room (Nat.le_of_ble_eq_true rfl)) nd_S_isBranchBySign_1 ⟨Nat.le_of_ble_eq_true rfl, Nat.le_of_ble_eq_true rfl⟩) my_nil hS (fun H locs _ hS => ?_)
  refine lv_istore_n (lv' := [(1, .int (f_S_numberT a1)), (0, .int a1)]) hx hb nd_S_isBranchBySign_4 rfl hl (by decide) rfl (fun ls hl => ?_)
  refine lv_iload_n hx hb nd_S_isBranchBySign_5 rfl (lv_at hl 0 rfl) ?_
  refine lv_if_eq (tgt := 26) hx hb nd_S_isBranchBySign_6 (by decide) (fun h6 => ?_) (fun h6 => ?_)
  · have hw := (if_pos h6).symm.trans hw
    refine lv_iconst (v := (1 : Int32)) hx hb nd_S_isBranchBySign_26 (by decide) ?_
    refine lv_goto (tgt := 31) hx hb nd_S_isBranchBySign_27 (by decide) ?_
    exact my_rpz hx hb hr hlocks hS hw rfl nd_S_isBranchBySign_31
  have hw := (if_neg h6).symm.trans hw
  refine lv_iload_n hx hb nd_S_isBranchBySign_9 rfl (lv_at hl 0 rfl) ?_
  refine lv_iconst (v := (1 : Int32)) hx hb nd_S_isBranchBySign_10 (by decide) ?_
  refine lv_icmp_eq (tgt := 26) hx hb nd_S_isBranchBySign_11 (by decide) (fun h11 => ?_) (fun h11 => ?_)
  · have hw := (if_pos h11).symm.trans hw
    refine lv_iconst (v := (1 : Int32)) hx hb nd_S_isBranchBySign_26 (by decide) ?_
    refine lv_goto (tgt := 31) hx hb nd_S_isBranchBySign_27 (by decide) ?_
    exact my_rpz hx hb hr hlocks hS hw rfl nd_S_isBranchBySign_31
  have hw := (if_neg h11).symm.trans hw
  refine lv_iload_n hx hb nd_S_isBranchBySign_14 rfl (lv_at hl 0 rfl) ?_
  refine lv_bipush (v := (16 : Int32)) hx hb nd_S_isBranchBySign_15 (by decide) ?_
  refine lv_icmp_eq (tgt := 26) hx hb nd_S_isBranchBySign_17 (by decide) (fun h17 => ?_) (fun h17 => ?_)
  · have hw := (if_pos h17).symm.trans hw
    refine lv_iconst (v := (1 : Int32)) hx hb nd_S_isBranchBySign_26 (by decide) ?_
    refine lv_goto (tgt := 31) hx hb nd_S_isBranchBySign_27 (by decide) ?_
    exact my_rpz hx hb hr hlocks hS hw rfl nd_S_isBranchBySign_31
  have hw := (if_neg h17).symm.trans hw
  refine lv_iload_n hx hb nd_S_isBranchBySign_20 rfl (lv_at hl 0 rfl) ?_
  refine lv_bipush (v := (17 : Int32)) hx hb nd_S_isBranchBySign_21 (by decide) ?_
  refine lv_icmp_ne (tgt := 30) hx hb nd_S_isBranchBySign_23 (by decide) (fun h23 => ?_) (fun h23 => ?_)
  · have hw := (if_neg h23).symm.trans hw
    refine lv_iconst (v := (0 : Int32)) hx hb nd_S_isBranchBySign_30 (by decide) ?_
    exact my_rpz hx hb hr hlocks hS hw rfl nd_S_isBranchBySign_31
  have hw := (if_pos h23).symm.trans hw
  refine lv_iconst (v := (1 : Int32)) hx hb nd_S_isBranchBySign_26 (by decide) ?_
  refine lv_goto (tgt := 31) hx hb nd_S_isBranchBySign_27 (by decide) ?_
  exact my_rpz hx hb hr hlocks hS hw rfl nd_S_isBranchBySign_31
set_option maxHeartbeats 4000000 in
set_option maxRecDepth 100000 in
theorem c_S_isBranch (l : Launch) (a1 : Int32) (F : Int32) (hw : f_S_isBranch a1 = F) : MP l ny_S_isBranch nw_S_isBranch ({ frames := 2, cells := 0, slots := 0, locals := 41 }) ([.int a1] : List Value) (zb F) := by
  unfold MP
  refine my_inP (gw := GW) (cc := nc_S_isBranch) (maxL := 2) (ret := (some .boolean)) (by decide) rfl (Nat.le_of_ble_eq_true rfl) ?_
  intro p e s m below meth c H locs ls hx hb hml hr hts hown hlocks hS hl
  have hown : s.vm.findClass nR_S = some m.cls := hown
  have hl : lv_has ls 2 [(0, .int a1)] := hl
  unfold f_S_isBranch at hw
  refine lv_iload_n hx hb nd_S_isBranch_0 rfl (lv_at hl 0 rfl) ?_
  refine my_cp (F := f_S_orderOf a1) (D := D0) (cl := []) (ws := []) (va_runS (As := [.int a1]) (rest := []) ⟨hx, hb, hml, hown, hts⟩ (c_S_orderOf l a1 _ rfl) ⟨callB_of 1 hts (gw_in gw_182) rfl rfl rfl (hts _ gw_1) (hts _ gw_180) nh_S_orderOf ⟨Nat.le_of_ble_eq_true rfl, Nat.le_of_ble_eq_true rfl⟩, (hts _ gw_181)⟩ my_preP rfl rfl hl.1 rfl (lv_room (Nat.le_of_ble_eq_true rfl)) nd_S_isBranch_1 ⟨Nat.le_of_ble_eq_true rfl, Nat.le_of_ble_eq_true rfl⟩) my_nil hS (fun H locs _ hS => ?_)
  refine lv_istore_n (lv' := [(1, .int (f_S_orderOf a1)), (0, .int a1)]) hx hb nd_S_isBranch_4 rfl hl (by decide) rfl (fun ls hl => ?_)
  refine lv_iload_n hx hb nd_S_isBranch_5 rfl (lv_at hl 0 rfl) ?_
  refine lv_if_ne (tgt := 33) hx hb nd_S_isBranch_6 (by decide) (fun h6 => ?_) (fun h6 => ?_)
  · have hw := (if_neg h6).symm.trans hw
    refine lv_iload_n hx hb nd_S_isBranch_33 rfl (lv_at hl 0 rfl) ?_
    refine lv_iconst (v := (1 : Int32)) hx hb nd_S_isBranch_34 (by decide) ?_
    refine lv_icmp_ne (tgt := 43) hx hb nd_S_isBranch_35 (by decide) (fun h35 => ?_) (fun h35 => ?_)
    · have hw := (if_neg h35).symm.trans hw
      refine lv_iload_n hx hb nd_S_isBranch_43 rfl (lv_at hl 0 rfl) ?_
      refine lv_bipush (v := (8 : Int32)) hx hb nd_S_isBranch_44 (by decide) ?_
      refine lv_icmp_ge (tgt := 53) hx hb nd_S_isBranch_46 (by decide) (fun h46 => ?_) (fun h46 => ?_)
      · have hw := (if_pos h46).symm.trans hw
        refine lv_iconst (v := (0 : Int32)) hx hb nd_S_isBranch_53 (by decide) ?_
        exact my_rpz hx hb hr hlocks hS hw rfl nd_S_isBranch_54
      have hw := (if_neg h46).symm.trans hw
      refine lv_iconst (v := (1 : Int32)) hx hb nd_S_isBranch_49 (by decide) ?_
      refine lv_goto (tgt := 54) hx hb nd_S_isBranch_50 (by decide) ?_
      exact my_rpz hx hb hr hlocks hS hw rfl nd_S_isBranch_54
    have hw := (if_pos h35).symm.trans hw
    refine lv_iload_n hx hb nd_S_isBranch_38 rfl (lv_at hl 1 rfl) ?_
    refine my_cp (F := zb (f_S_isBranchBySign a1)) (D := D0) (cl := []) (ws := []) (va_runS (As := [.int a1]) (rest := []) ⟨hx, hb, hml, hown, hts⟩ (c_S_isBranchBySign l a1 _ rfl) ⟨callB_of 1 hts (gw_in gw_188) rfl rfl rfl (hts _ gw_1) (hts _ gw_186) nh_S_isBranchBySign ⟨Nat.le_of_ble_eq_true rfl, Nat.le_of_ble_eq_true rfl⟩, (hts _ gw_187)⟩ my_preP rfl rfl hl.1 rfl (lv_room (Nat.le_of_ble_eq_true rfl)) nd_S_isBranch_39 ⟨Nat.le_of_ble_eq_true rfl, Nat.le_of_ble_eq_true rfl⟩) my_nil hS (fun H locs _ hS => ?_)
    exact my_rpz hx hb hr hlocks hS hw rfl nd_S_isBranch_42
  have hw := (if_pos h6).symm.trans hw
  refine lv_iload_n hx hb nd_S_isBranch_9 rfl (lv_at hl 1 rfl) ?_
  refine my_cp (F := f_S_numberK a1) (D := D0) (cl := []) (ws := []) (va_runS (As := [.int a1]) (rest := []) ⟨hx, hb, hml, hown, hts⟩ (c_S_numberK l a1 _ rfl) ⟨callB_of 1 hts (gw_in gw_185) rfl rfl rfl (hts _ gw_1) (hts _ gw_183) nh_S_numberK ⟨Nat.le_of_ble_eq_true rfl, Nat.le_of_ble_eq_true rfl⟩, (hts _ gw_184)⟩ my_preP rfl rfl hl.1 rfl (lv_room (Nat.le_of_ble_eq_true rfl)) nd_S_isBranch_10 ⟨Nat.le_of_ble_eq_true rfl, Nat.le_of_ble_eq_true rfl⟩) my_nil hS (fun H locs _ hS => ?_)
  refine lv_bipush (v := (8 : Int32)) hx hb nd_S_isBranch_13 (by decide) ?_
  refine lv_icmp_eq (tgt := 27) hx hb nd_S_isBranch_15 (by decide) (fun h15 => ?_) (fun h15 => ?_)
  · have hw := (if_pos h15).symm.trans hw
    refine lv_iconst (v := (1 : Int32)) hx hb nd_S_isBranch_27 (by decide) ?_
    refine lv_goto (tgt := 32) hx hb nd_S_isBranch_28 (by decide) ?_
    exact my_rpz hx hb hr hlocks hS hw rfl nd_S_isBranch_32
  have hw := (if_neg h15).symm.trans hw
  refine lv_iload_n hx hb nd_S_isBranch_18 rfl (lv_at hl 1 rfl) ?_
  refine my_cp (F := f_S_numberK a1) (D := D0) (cl := []) (ws := []) (va_runS (As := [.int a1]) (rest := []) ⟨hx, hb, hml, hown, hts⟩ (c_S_numberK l a1 _ rfl) ⟨callB_of 1 hts (gw_in gw_185) rfl rfl rfl (hts _ gw_1) (hts _ gw_183) nh_S_numberK ⟨Nat.le_of_ble_eq_true rfl, Nat.le_of_ble_eq_true rfl⟩, (hts _ gw_184)⟩ my_preP rfl rfl hl.1 rfl (lv_room (Nat.le_of_ble_eq_true rfl)) nd_S_isBranch_19 ⟨Nat.le_of_ble_eq_true rfl, Nat.le_of_ble_eq_true rfl⟩) my_nil hS (fun H locs _ hS => ?_)
  refine lv_bipush (v := (9 : Int32)) hx hb nd_S_isBranch_22 (by decide) ?_
  refine lv_icmp_ne (tgt := 31) hx hb nd_S_isBranch_24 (by decide) (fun h24 => ?_) (fun h24 => ?_)
  · have hw := (if_neg h24).symm.trans hw
    refine lv_iconst (v := (0 : Int32)) hx hb nd_S_isBranch_31 (by decide) ?_
    exact my_rpz hx hb hr hlocks hS hw rfl nd_S_isBranch_32
  have hw := (if_pos h24).symm.trans hw
  refine lv_iconst (v := (1 : Int32)) hx hb nd_S_isBranch_27 (by decide) ?_
  refine lv_goto (tgt := 32) hx hb nd_S_isBranch_28 (by decide) ?_
  exact my_rpz hx hb hr hlocks hS hw rfl nd_S_isBranch_32
set_option maxHeartbeats 4000000 in
set_option maxRecDepth 100000 in
theorem c_S_numberD (l : Launch) (a1 : Int32) (F : Int32) (hw : f_S_numberD a1 = F) : MP l ny_S_numberD nw_S_numberD ({ frames := 0, cells := 0, slots := 0, locals := 0 }) ([.int a1] : List Value) F := by
  unfold MP
  refine my_inP (gw := GW) (cc := nc_S_numberD) (maxL := 1) (ret := (some .int)) (by decide) rfl (Nat.le_of_ble_eq_true rfl) ?_
  intro p e s m below meth c H locs ls hx hb hml hr hts hown hlocks hS hl
  have hown : s.vm.findClass nR_S = some m.cls := hown
  have hl : lv_has ls 1 [(0, .int a1)] := hl
  unfold f_S_numberD at hw
  refine lv_iload_n hx hb nd_S_numberD_0 rfl (lv_at hl 0 rfl) ?_
  refine lv_bipush (v := (11 : Int32)) hx hb nd_S_numberD_1 (by decide) ?_
  refine lv_iushr (v := ush a1 (11 : Int32)) hx hb nd_S_numberD_3 rfl ?_
  refine lv_bipush (v := (31 : Int32)) hx hb nd_S_numberD_4 (by decide) ?_
  refine lv_iand hx hb nd_S_numberD_6 ?_
  exact my_rp hx hb hr hlocks hS hw nd_S_numberD_7
set_option maxHeartbeats 4000000 in
set_option maxRecDepth 100000 in
theorem c_S_numberS (l : Launch) (a1 : Int32) (F : Int32) (hw : f_S_numberS a1 = F) : MP l ny_S_numberS nw_S_numberS ({ frames := 0, cells := 0, slots := 0, locals := 0 }) ([.int a1] : List Value) F := by
  unfold MP
  refine my_inP (gw := GW) (cc := nc_S_numberS) (maxL := 1) (ret := (some .int)) (by decide) rfl (Nat.le_of_ble_eq_true rfl) ?_
  intro p e s m below meth c H locs ls hx hb hml hr hts hown hlocks hS hl
  have hown : s.vm.findClass nR_S = some m.cls := hown
  have hl : lv_has ls 1 [(0, .int a1)] := hl
  unfold f_S_numberS at hw
  refine lv_iload_n hx hb nd_S_numberS_0 rfl (lv_at hl 0 rfl) ?_
  refine lv_bipush (v := (21 : Int32)) hx hb nd_S_numberS_1 (by decide) ?_
  refine lv_iushr (v := ush a1 (21 : Int32)) hx hb nd_S_numberS_3 rfl ?_
  refine lv_bipush (v := (31 : Int32)) hx hb nd_S_numberS_4 (by decide) ?_
  refine lv_iand hx hb nd_S_numberS_6 ?_
  exact my_rp hx hb hr hlocks hS hw nd_S_numberS_7
set_option maxHeartbeats 4000000 in
set_option maxRecDepth 100000 in
theorem c_S_numberA (l : Launch) (a1 : Int32) (F : Int32) (hw : f_S_numberA a1 = F) : MP l ny_S_numberA nw_S_numberA ({ frames := 0, cells := 0, slots := 0, locals := 0 }) ([.int a1] : List Value) F := by
  unfold MP
  refine my_inP (gw := GW) (cc := nc_S_numberA) (maxL := 1) (ret := (some .int)) (by decide) rfl (Nat.le_of_ble_eq_true rfl) ?_
  intro p e s m below meth c H locs ls hx hb hml hr hts hown hlocks hS hl
  have hown : s.vm.findClass nR_S = some m.cls := hown
  have hl : lv_has ls 1 [(0, .int a1)] := hl
  unfold f_S_numberA at hw
  refine lv_iload_n hx hb nd_S_numberA_0 rfl (lv_at hl 0 rfl) ?_
  refine lv_bipush (v := (6 : Int32)) hx hb nd_S_numberA_1 (by decide) ?_
  refine lv_iushr (v := ush a1 (6 : Int32)) hx hb nd_S_numberA_3 rfl ?_
  refine lv_bipush (v := (31 : Int32)) hx hb nd_S_numberA_4 (by decide) ?_
  refine lv_iand hx hb nd_S_numberA_6 ?_
  exact my_rp hx hb hr hlocks hS hw nd_S_numberA_7
set_option maxHeartbeats 4000000 in
set_option maxRecDepth 100000 in
theorem c_S_withoutSign (l : Launch) (a1 : Int32) (F : Int64) (hw : f_S_withoutSign a1 = F) : ML l ny_S_withoutSign nw_S_withoutSign ({ frames := 0, cells := 0, slots := 0, locals := 0 }) ([.int a1] : List Value) F := by
  unfold ML
  refine my_inP (gw := GW) (cc := nc_S_withoutSign) (maxL := 1) (ret := (some .long)) (by decide) rfl (Nat.le_of_ble_eq_true rfl) ?_
  intro p e s m below meth c H locs ls hx hb hml hr hts hown hlocks hS hl
  have hown : s.vm.findClass nR_S = some m.cls := hown
  have hl : lv_has ls 1 [(0, .int a1)] := hl
  unfold f_S_withoutSign at hw
  refine lv_iload_n hx hb nd_S_withoutSign_0 rfl (lv_at hl 0 rfl) ?_
  refine lv_i2l (v := a1.toInt64) hx hb nd_S_withoutSign_1 rfl ?_
  refine lv_ldc2 (own := nR_S) (v := (4294967295 : Int64)) hx hb hown (hts _ gw_247) nd_S_withoutSign_2 ?_
  refine lv_land hx hb nd_S_withoutSign_5 ?_
  exact my_rl hx hb hr hlocks hS hw nd_S_withoutSign_6
set_option maxHeartbeats 4000000 in
set_option maxRecDepth 100000 in
theorem c_S_restAndQuotient (l : Launch) (a1 : Int64) (a2 : Int64) (F : Int64) (hw : f_S_restAndQuotient a1 a2 = F) : ML l ny_S_restAndQuotient nw_S_restAndQuotient ({ frames := 0, cells := 0, slots := 0, locals := 0 }) ([.long a1, .long a2] : List Value) F := by
  unfold ML
  refine my_inP (gw := GW) (cc := nc_S_restAndQuotient) (maxL := 4) (ret := (some .long)) (by decide) rfl (Nat.le_of_ble_eq_true rfl) ?_
  intro p e s m below meth c H locs ls hx hb hml hr hts hown hlocks hS hl
  have hown : s.vm.findClass nR_S = some m.cls := hown
  have hl : lv_has ls 4 [(0, .long a1), (2, .long a2)] := hl
  unfold f_S_restAndQuotient at hw
  refine lv_lload_n hx hb nd_S_restAndQuotient_0 rfl (lv_at hl 0 rfl) ?_
  refine lv_bipush (v := (32 : Int32)) hx hb nd_S_restAndQuotient_1 (by decide) ?_
  refine lv_lshl (v := a1 <<< ((32 : Int32).toInt64 &&& 63)) hx hb nd_S_restAndQuotient_3 rfl ?_
  refine lv_lload_n hx hb nd_S_restAndQuotient_4 rfl (lv_at hl 1 rfl) ?_
  refine lv_ldc2 (own := nR_S) (v := (4294967295 : Int64)) hx hb hown (hts _ gw_247) nd_S_restAndQuotient_5 ?_
  refine lv_land hx hb nd_S_restAndQuotient_8 ?_
  refine lv_lor hx hb nd_S_restAndQuotient_9 ?_
  exact my_rl hx hb hr hlocks hS hw nd_S_restAndQuotient_10
set_option maxHeartbeats 4000000 in
set_option maxRecDepth 100000 in
theorem c_S_divide (l : Launch) (a1 : Int32) (a2 : Int32) (F : Int64) (hw : f_S_divide a1 a2 = F) : ML l ny_S_divide nw_S_divide ({ frames := 1, cells := 0, slots := 0, locals := 23 }) ([.int a1, .int a2] : List Value) F := by
  unfold ML
  refine my_inP (gw := GW) (cc := nc_S_divide) (maxL := 4) (ret := (some .long)) (by decide) rfl (Nat.le_of_ble_eq_true rfl) ?_
  intro p e s m below meth c H locs ls hx hb hml hr hts hown hlocks hS hl
  have hown : s.vm.findClass nR_S = some m.cls := hown
  have hl : lv_has ls 4 [(0, .int a1), (1, .int a2)] := hl
  have J17 : ∀ (y0 : Int64) (y1 : Int64) (H : Heap) (locs : List Loc) (ls : Array Slot), va_S (fun _ => False) s.heap H locs → lv_has ls 4 [] → f_S_divide_b17 y0 y1 = F →
      W p l e (headSpec nw_S_divide ({ frames := 1, cells := 0, slots := 0, locals := 23 })).room s m ([.int a1, .int a2] : List Value).toArray below meth c H locs 0 0 (MQ below (QL F) ([.int a1, .int a2] : List Value).toArray s 0 0 (fun _ => False)) (F0 m 17 ls [.long y0, .long y1]) := by
    intro y0 y1 H locs ls hS hl hw
    unfold f_S_divide_b17 at hw
    refine my_cl (F := f_S_restAndQuotient y1 y0) (D := D0) (cl := []) (ws := []) (va_runS (As := [.long y1, .long y0]) (rest := []) ⟨hx, hb, hml, hown, hts⟩ (c_S_restAndQuotient l y1 y0 _ rfl) ⟨callB_of 2 hts (gw_in gw_254) rfl rfl rfl (hts _ gw_1) (hts _ gw_252) nh_S_restAndQuotient ⟨Nat.le_of_ble_eq_true rfl, Nat.le_of_ble_eq_true rfl⟩, (hts _ gw_253)⟩ my_preP rfl rfl hl.1 rfl (lv_room (Nat.le_of_ble_eq_true rfl)) nd_S_divide_17 ⟨Nat.le_of_ble_eq_true rfl, Nat.le_of_ble_eq_true rfl⟩) my_nil hS (fun H locs _ hS => ?_)
    exact my_rl hx hb hr hlocks hS hw nd_S_divide_20
  unfold f_S_divide at hw
  refine lv_iload_n hx hb nd_S_divide_0 rfl (lv_at hl 1 rfl) ?_
  refine lv_if_ne (tgt := 21) hx hb nd_S_divide_1 (by decide) (fun h1 => ?_) (fun h1 => ?_)
  · have hw := (if_neg h1).symm.trans hw
    refine lv_iload_n hx hb nd_S_divide_21 rfl (lv_at hl 0 rfl) ?_
    refine lv_i2l (v := a1.toInt64) hx hb nd_S_divide_22 rfl ?_
    refine lv_lstore_n (lv' := [(2, .long a1.toInt64), (0, .int a1), (1, .int a2)]) hx hb nd_S_divide_23 rfl hl (by decide) rfl (fun ls hl => ?_)
    refine lv_lload_n hx hb nd_S_divide_24 rfl (lv_at hl 0 rfl) ?_
    refine lv_iload_n hx hb nd_S_divide_25 rfl (lv_at hl 2 rfl) ?_
    refine lv_i2l (v := a2.toInt64) hx hb nd_S_divide_26 rfl ?_
    refine lv_lrem hx hb nd_S_divide_27 (my_nz h1) ?_
    refine lv_lload_n hx hb nd_S_divide_28 rfl (lv_at hl 0 rfl) ?_
    refine lv_iload_n hx hb nd_S_divide_29 rfl (lv_at hl 2 rfl) ?_
    refine lv_i2l (v := a2.toInt64) hx hb nd_S_divide_30 rfl ?_
    refine lv_ldiv hx hb nd_S_divide_31 (my_nz h1) ?_
    refine my_cl (F := f_S_restAndQuotient (a1.toInt64 - a1.toInt64 / a2.toInt64 * a2.toInt64) (a1.toInt64 / a2.toInt64)) (D := D0) (cl := []) (ws := []) (va_runS (As := [.long (a1.toInt64 - a1.toInt64 / a2.toInt64 * a2.toInt64), .long (a1.toInt64 / a2.toInt64)]) (rest := []) ⟨hx, hb, hml, hown, hts⟩ (c_S_restAndQuotient l (a1.toInt64 - a1.toInt64 / a2.toInt64 * a2.toInt64) (a1.toInt64 / a2.toInt64) _ rfl) ⟨callB_of 2 hts (gw_in gw_254) rfl rfl rfl (hts _ gw_1) (hts _ gw_252) nh_S_restAndQuotient ⟨Nat.le_of_ble_eq_true rfl, Nat.le_of_ble_eq_true rfl⟩, (hts _ gw_253)⟩ my_preP rfl rfl hl.1 rfl (lv_room (Nat.le_of_ble_eq_true rfl)) nd_S_divide_32 ⟨Nat.le_of_ble_eq_true rfl, Nat.le_of_ble_eq_true rfl⟩) my_nil hS (fun H locs _ hS => ?_)
    exact my_rl hx hb hr hlocks hS hw nd_S_divide_35
  have hw := (if_pos h1).symm.trans hw
  refine lv_iload_n hx hb nd_S_divide_4 rfl (lv_at hl 0 rfl) ?_
  refine lv_i2l (v := a1.toInt64) hx hb nd_S_divide_5 rfl ?_
  refine lv_iload_n hx hb nd_S_divide_6 rfl (lv_at hl 0 rfl) ?_
  refine lv_if_ge (tgt := 14) hx hb nd_S_divide_7 (by decide) (fun h7 => ?_) (fun h7 => ?_)
  · have hw := (if_pos h7).symm.trans hw
    refine lv_ldc2 (own := nR_S) (v := (-1 : Int64)) hx hb hown (hts _ gw_251) nd_S_divide_14 ?_
    exact J17 (-1 : Int64) a1.toInt64 H locs ls hS (lv_sub hl [] rfl) hw
  have hw := (if_neg h7).symm.trans hw
  refine lv_lconst (v := (1 : Int64)) hx hb nd_S_divide_10 (by decide) ?_
  refine lv_goto (tgt := 17) hx hb nd_S_divide_11 (by decide) ?_
  exact J17 (1 : Int64) a1.toInt64 H locs ls hS (lv_sub hl [] rfl) hw
set_option maxHeartbeats 4000000 in
set_option maxRecDepth 100000 in
theorem c_S_divideWithoutSign (l : Launch) (a1 : Int32) (a2 : Int32) (F : Int64) (hw : f_S_divideWithoutSign a1 a2 = F) : ML l ny_S_divideWithoutSign nw_S_divideWithoutSign ({ frames := 1, cells := 0, slots := 0, locals := 23 }) ([.int a1, .int a2] : List Value) F := by
  unfold ML
  refine my_inP (gw := GW) (cc := nc_S_divideWithoutSign) (maxL := 6) (ret := (some .long)) (by decide) rfl (Nat.le_of_ble_eq_true rfl) ?_
  intro p e s m below meth c H locs ls hx hb hml hr hts hown hlocks hS hl
  have hown : s.vm.findClass nR_S = some m.cls := hown
  have hl : lv_has ls 6 [(0, .int a1), (1, .int a2)] := hl
  unfold f_S_divideWithoutSign at hw
  refine lv_iload_n hx hb nd_S_divideWithoutSign_0 rfl (lv_at hl 1 rfl) ?_
  refine lv_if_ne (tgt := 13) hx hb nd_S_divideWithoutSign_1 (by decide) (fun h1 => ?_) (fun h1 => ?_)
  · have hw := (if_neg h1).symm.trans hw
    refine lv_iload_n hx hb nd_S_divideWithoutSign_13 rfl (lv_at hl 0 rfl) ?_
    refine my_cl (F := f_S_withoutSign a1) (D := D0) (cl := []) (ws := []) (va_runS (As := [.int a1]) (rest := []) ⟨hx, hb, hml, hown, hts⟩ (c_S_withoutSign l a1 _ rfl) ⟨callB_of 1 hts (gw_in gw_246) rfl rfl rfl (hts _ gw_1) (hts _ gw_244) nh_S_withoutSign ⟨Nat.le_of_ble_eq_true rfl, Nat.le_of_ble_eq_true rfl⟩, (hts _ gw_245)⟩ my_preP rfl rfl hl.1 rfl (lv_room (Nat.le_of_ble_eq_true rfl)) nd_S_divideWithoutSign_14 ⟨Nat.le_of_ble_eq_true rfl, Nat.le_of_ble_eq_true rfl⟩) my_nil hS (fun H locs _ hS => ?_)
    refine lv_lstore_n (lv' := [(2, .long (f_S_withoutSign a1)), (0, .int a1), (1, .int a2)]) hx hb nd_S_divideWithoutSign_17 rfl hl (by decide) rfl (fun ls hl => ?_)
    refine lv_iload_n hx hb nd_S_divideWithoutSign_18 rfl (lv_at hl 2 rfl) ?_
    refine my_cl (F := f_S_withoutSign a2) (D := D0) (cl := []) (ws := []) (va_runS (As := [.int a2]) (rest := []) ⟨hx, hb, hml, hown, hts⟩ (c_S_withoutSign l a2 _ rfl) ⟨callB_of 1 hts (gw_in gw_246) rfl rfl rfl (hts _ gw_1) (hts _ gw_244) nh_S_withoutSign ⟨Nat.le_of_ble_eq_true rfl, Nat.le_of_ble_eq_true rfl⟩, (hts _ gw_245)⟩ my_preP rfl rfl hl.1 rfl (lv_room (Nat.le_of_ble_eq_true rfl)) nd_S_divideWithoutSign_19 ⟨Nat.le_of_ble_eq_true rfl, Nat.le_of_ble_eq_true rfl⟩) my_nil hS (fun H locs _ hS => ?_)
    refine lv_lstore (lv' := [(4, .long (f_S_withoutSign a2)), (2, .long (f_S_withoutSign a1)), (0, .int a1), (1, .int a2)]) hx hb nd_S_divideWithoutSign_22 hl (by decide) rfl (fun ls hl => ?_)
    refine lv_lload_n hx hb nd_S_divideWithoutSign_24 rfl (lv_at hl 1 rfl) ?_
    refine lv_lload hx hb nd_S_divideWithoutSign_25 (lv_at hl 0 rfl) ?_
    refine lv_lrem hx hb nd_S_divideWithoutSign_27 (my_nzu h1) ?_
    refine lv_lload_n hx hb nd_S_divideWithoutSign_28 rfl (lv_at hl 1 rfl) ?_
    refine lv_lload hx hb nd_S_divideWithoutSign_29 (lv_at hl 0 rfl) ?_
    refine lv_ldiv hx hb nd_S_divideWithoutSign_31 (my_nzu h1) ?_
    refine my_cl (F := f_S_restAndQuotient ((f_S_withoutSign a1) - (f_S_withoutSign a1) / (f_S_withoutSign a2) * (f_S_withoutSign a2)) ((f_S_withoutSign a1) / (f_S_withoutSign a2))) (D := D0) (cl := []) (ws := []) (va_runS (As := [.long ((f_S_withoutSign a1) - (f_S_withoutSign a1) / (f_S_withoutSign a2) * (f_S_withoutSign a2)), .long ((f_S_withoutSign a1) / (f_S_withoutSign a2))]) (rest := []) ⟨hx, hb, hml, hown, hts⟩ (c_S_restAndQuotient l ((f_S_withoutSign a1) - (f_S_withoutSign a1) / (f_S_withoutSign a2) * (f_S_withoutSign a2)) ((f_S_withoutSign a1) / (f_S_withoutSign a2)) _ rfl) ⟨callB_of 2 hts (gw_in gw_254) rfl rfl rfl (hts _ gw_1) (hts _ gw_252) nh_S_restAndQuotient ⟨Nat.le_of_ble_eq_true rfl, Nat.le_of_ble_eq_true rfl⟩, (hts _ gw_253)⟩ my_preP rfl rfl hl.1 rfl (lv_room (Nat.le_of_ble_eq_true rfl)) nd_S_divideWithoutSign_32 ⟨Nat.le_of_ble_eq_true rfl, Nat.le_of_ble_eq_true rfl⟩) my_nil hS (fun H locs _ hS => ?_)
    exact my_rl hx hb hr hlocks hS hw nd_S_divideWithoutSign_35
  have hw := (if_pos h1).symm.trans hw
  refine lv_iload_n hx hb nd_S_divideWithoutSign_4 rfl (lv_at hl 0 rfl) ?_
  refine lv_i2l (v := a1.toInt64) hx hb nd_S_divideWithoutSign_5 rfl ?_
  refine lv_ldc2 (own := nR_S) (v := (-1 : Int64)) hx hb hown (hts _ gw_251) nd_S_divideWithoutSign_6 ?_
  refine my_cl (F := f_S_restAndQuotient a1.toInt64 (-1 : Int64)) (D := D0) (cl := []) (ws := []) (va_runS (As := [.long a1.toInt64, .long (-1 : Int64)]) (rest := []) ⟨hx, hb, hml, hown, hts⟩ (c_S_restAndQuotient l a1.toInt64 (-1 : Int64) _ rfl) ⟨callB_of 2 hts (gw_in gw_254) rfl rfl rfl (hts _ gw_1) (hts _ gw_252) nh_S_restAndQuotient ⟨Nat.le_of_ble_eq_true rfl, Nat.le_of_ble_eq_true rfl⟩, (hts _ gw_253)⟩ my_preP rfl rfl hl.1 rfl (lv_room (Nat.le_of_ble_eq_true rfl)) nd_S_divideWithoutSign_9 ⟨Nat.le_of_ble_eq_true rfl, Nat.le_of_ble_eq_true rfl⟩) my_nil hS (fun H locs _ hS => ?_)
  exact my_rl hx hb hr hlocks hS hw nd_S_divideWithoutSign_12
set_option maxHeartbeats 4000000 in
set_option maxRecDepth 100000 in
theorem c_S_numberI (l : Launch) (a1 : Int32) (F : Int32) (hw : f_S_numberI a1 = F) : MP l ny_S_numberI nw_S_numberI ({ frames := 0, cells := 0, slots := 0, locals := 0 }) ([.int a1] : List Value) F := by
  unfold MP
  refine my_inP (gw := GW) (cc := nc_S_numberI) (maxL := 1) (ret := (some .int)) (by decide) rfl (Nat.le_of_ble_eq_true rfl) ?_
  intro p e s m below meth c H locs ls hx hb hml hr hts hown hlocks hS hl
  have hown : s.vm.findClass nR_S = some m.cls := hown
  have hl : lv_has ls 1 [(0, .int a1)] := hl
  unfold f_S_numberI at hw
  refine lv_iload_n hx hb nd_S_numberI_0 rfl (lv_at hl 0 rfl) ?_
  refine lv_i2s (v := a1.toInt16.toInt32) hx hb nd_S_numberI_1 rfl ?_
  exact my_rp hx hb hr hlocks hS hw nd_S_numberI_2
set_option maxHeartbeats 4000000 in
set_option maxRecDepth 100000 in
theorem c_S_numberU (l : Launch) (a1 : Int32) (F : Int32) (hw : f_S_numberU a1 = F) : MP l ny_S_numberU nw_S_numberU ({ frames := 0, cells := 0, slots := 0, locals := 0 }) ([.int a1] : List Value) F := by
  unfold MP
  refine my_inP (gw := GW) (cc := nc_S_numberU) (maxL := 1) (ret := (some .int)) (by decide) rfl (Nat.le_of_ble_eq_true rfl) ?_
  intro p e s m below meth c H locs ls hx hb hml hr hts hown hlocks hS hl
  have hown : s.vm.findClass nR_S = some m.cls := hown
  have hl : lv_has ls 1 [(0, .int a1)] := hl
  unfold f_S_numberU at hw
  refine lv_iload_n hx hb nd_S_numberU_0 rfl (lv_at hl 0 rfl) ?_
  refine lv_ldc (own := nR_S) (v := (65535 : Int32)) hx hb hown (hts _ gw_302) nd_S_numberU_1 ?_
  refine lv_iand hx hb nd_S_numberU_3 ?_
  exact my_rp hx hb hr hlocks hS hw nd_S_numberU_4
set_option maxHeartbeats 4000000 in
set_option maxRecDepth 100000 in
theorem c_S_loadUnit (l : Launch) (a1 : Int32) (F : Int32) (hw : f_S_loadUnit a1 = F) : MP l ny_S_loadUnit nw_S_loadUnit ({ frames := 0, cells := 0, slots := 0, locals := 0 }) ([.int a1] : List Value) F := by
  unfold MP
  refine my_inP (gw := GW) (cc := nc_S_loadUnit) (maxL := 1) (ret := (some .int)) (by decide) rfl (Nat.le_of_ble_eq_true rfl) ?_
  intro p e s m below meth c H locs ls hx hb hml hr hts hown hlocks hS hl
  have hown : s.vm.findClass nR_S = some m.cls := hown
  have hl : lv_has ls 1 [(0, .int a1)] := hl
  unfold f_S_loadUnit at hw
  refine lv_iload_n hx hb nd_S_loadUnit_0 rfl (lv_at hl 0 rfl) ?_
  refine lv_bipush (v := (35 : Int32)) hx hb nd_S_loadUnit_1 (by decide) ?_
  refine lv_icmp_ne (tgt := 8) hx hb nd_S_loadUnit_3 (by decide) (fun h3 => ?_) (fun h3 => ?_)
  · have hw := (if_neg h3).symm.trans hw
    refine lv_iload_n hx hb nd_S_loadUnit_8 rfl (lv_at hl 0 rfl) ?_
    refine lv_bipush (v := (33 : Int32)) hx hb nd_S_loadUnit_9 (by decide) ?_
    refine lv_icmp_eq (tgt := 20) hx hb nd_S_loadUnit_11 (by decide) (fun h11 => ?_) (fun h11 => ?_)
    · have hw := (if_pos h11).symm.trans hw
      refine lv_iconst (v := (2 : Int32)) hx hb nd_S_loadUnit_20 (by decide) ?_
      refine lv_goto (tgt := 25) hx hb nd_S_loadUnit_21 (by decide) ?_
      exact my_rp hx hb hr hlocks hS hw nd_S_loadUnit_25
    have hw := (if_neg h11).symm.trans hw
    refine lv_iload_n hx hb nd_S_loadUnit_14 rfl (lv_at hl 0 rfl) ?_
    refine lv_bipush (v := (37 : Int32)) hx hb nd_S_loadUnit_15 (by decide) ?_
    refine lv_icmp_ne (tgt := 24) hx hb nd_S_loadUnit_17 (by decide) (fun h17 => ?_) (fun h17 => ?_)
    · have hw := (if_neg h17).symm.trans hw
      refine lv_iconst (v := (1 : Int32)) hx hb nd_S_loadUnit_24 (by decide) ?_
      exact my_rp hx hb hr hlocks hS hw nd_S_loadUnit_25
    have hw := (if_pos h17).symm.trans hw
    refine lv_iconst (v := (2 : Int32)) hx hb nd_S_loadUnit_20 (by decide) ?_
    refine lv_goto (tgt := 25) hx hb nd_S_loadUnit_21 (by decide) ?_
    exact my_rp hx hb hr hlocks hS hw nd_S_loadUnit_25
  have hw := (if_pos h3).symm.trans hw
  refine lv_iconst (v := (4 : Int32)) hx hb nd_S_loadUnit_6 (by decide) ?_
  exact my_rp hx hb hr hlocks hS hw nd_S_loadUnit_7
set_option maxHeartbeats 4000000 in
set_option maxRecDepth 100000 in
theorem c_S_toLowest (l : Launch) (a1 : Int32) (a2 : Int32) (F : Int32) (hw : f_S_toLowest a1 a2 = F) : MP l ny_S_toLowest nw_S_toLowest ({ frames := 0, cells := 0, slots := 0, locals := 0 }) ([.int a1, .int a2] : List Value) F := by
  unfold MP
  refine my_inP (gw := GW) (cc := nc_S_toLowest) (maxL := 2) (ret := (some .int)) (by decide) rfl (Nat.le_of_ble_eq_true rfl) ?_
  intro p e s m below meth c H locs ls hx hb hml hr hts hown hlocks hS hl
  have hown : s.vm.findClass nR_S = some m.cls := hown
  have hl : lv_has ls 2 [(0, .int a1), (1, .int a2)] := hl
  unfold f_S_toLowest at hw
  refine lv_bipush (v := (8 : Int32)) hx hb nd_S_toLowest_0 (by decide) ?_
  refine lv_iconst (v := (4 : Int32)) hx hb nd_S_toLowest_2 (by decide) ?_
  refine lv_iload_n hx hb nd_S_toLowest_3 rfl (lv_at hl 1 rfl) ?_
  refine lv_isub hx hb nd_S_toLowest_4 ?_
  refine lv_iload_n hx hb nd_S_toLowest_5 rfl (lv_at hl 0 rfl) ?_
  refine lv_iconst (v := (3 : Int32)) hx hb nd_S_toLowest_6 (by decide) ?_
  refine lv_iand hx hb nd_S_toLowest_7 ?_
  refine lv_isub hx hb nd_S_toLowest_8 ?_
  refine lv_imul hx hb nd_S_toLowest_9 ?_
  refine lv_bipush (v := (31 : Int32)) hx hb nd_S_toLowest_10 (by decide) ?_
  refine lv_iand hx hb nd_S_toLowest_12 ?_
  exact my_rp hx hb hr hlocks hS hw nd_S_toLowest_13
set_option maxHeartbeats 4000000 in
set_option maxRecDepth 100000 in
theorem c_S_bitsAhead (l : Launch) (a1 : Int32) (F : Int32) (hw : f_S_bitsAhead a1 = F) : MP l ny_S_bitsAhead nw_S_bitsAhead ({ frames := 0, cells := 0, slots := 0, locals := 0 }) ([.int a1] : List Value) F := by
  unfold MP
  refine my_inP (gw := GW) (cc := nc_S_bitsAhead) (maxL := 1) (ret := (some .int)) (by decide) rfl (Nat.le_of_ble_eq_true rfl) ?_
  intro p e s m below meth c H locs ls hx hb hml hr hts hown hlocks hS hl
  have hown : s.vm.findClass nR_S = some m.cls := hown
  have hl : lv_has ls 1 [(0, .int a1)] := hl
  unfold f_S_bitsAhead at hw
  refine lv_bipush (v := (8 : Int32)) hx hb nd_S_bitsAhead_0 (by decide) ?_
  refine lv_iload_n hx hb nd_S_bitsAhead_2 rfl (lv_at hl 0 rfl) ?_
  refine lv_iconst (v := (3 : Int32)) hx hb nd_S_bitsAhead_3 (by decide) ?_
  refine lv_iand hx hb nd_S_bitsAhead_4 ?_
  refine lv_imul hx hb nd_S_bitsAhead_5 ?_
  exact my_rp hx hb hr hlocks hS hw nd_S_bitsAhead_6
set_option maxHeartbeats 4000000 in
set_option maxRecDepth 100000 in
theorem c_S_joinLoaded (l : Launch) (a1 : Int32) (a2 : Int32) (a3 : Int32) (a4 : Int32) (F : Int32) (hw : f_S_joinLoaded a1 a2 a3 a4 = F) : MP l ny_S_joinLoaded nw_S_joinLoaded ({ frames := 1, cells := 0, slots := 0, locals := 22 }) ([.int a1, .int a2, .int a3, .int a4] : List Value) F := by
  unfold MP
  refine my_inP (gw := GW) (cc := nc_S_joinLoaded) (maxL := 7) (ret := (some .int)) (by decide) rfl (Nat.le_of_ble_eq_true rfl) ?_
  intro p e s m below meth c H locs ls hx hb hml hr hts hown hlocks hS hl
  have hown : s.vm.findClass nR_S = some m.cls := hown
  have hl : lv_has ls 7 [(0, .int a1), (1, .int a2), (2, .int a3), (3, .int a4)] := hl
  unfold f_S_joinLoaded at hw
  refine lv_iload_n hx hb nd_S_joinLoaded_0 rfl (lv_at hl 3 rfl) ?_
  refine lv_iconst (v := (1 : Int32)) hx hb nd_S_joinLoaded_1 (by decide) ?_
  refine my_cp (F := f_S_toLowest a4 (1 : Int32)) (D := D0) (cl := []) (ws := []) (va_runS (As := [.int a4, .int (1 : Int32)]) (rest := []) ⟨hx, hb, hml, hown, hts⟩ (c_S_toLowest l a4 (1 : Int32) _ rfl) ⟨callB_of 2 hts (gw_in gw_341) rfl rfl rfl (hts _ gw_1) (hts _ gw_339) nh_S_toLowest ⟨Nat.le_of_ble_eq_true rfl, Nat.le_of_ble_eq_true rfl⟩, (hts _ gw_340)⟩ my_preP rfl rfl hl.1 rfl (lv_room (Nat.le_of_ble_eq_true rfl)) nd_S_joinLoaded_2 ⟨Nat.le_of_ble_eq_true rfl, Nat.le_of_ble_eq_true rfl⟩) my_nil hS (fun H locs _ hS => ?_)
  refine lv_istore (lv' := [(4, .int (f_S_toLowest a4 (1 : Int32))), (0, .int a1), (1, .int a2), (2, .int a3), (3, .int a4)]) hx hb nd_S_joinLoaded_5 hl (by decide) rfl (fun ls hl => ?_)
  refine lv_iload_n hx hb nd_S_joinLoaded_7 rfl (lv_at hl 4 rfl) ?_
  refine lv_iconst (v := (2 : Int32)) hx hb nd_S_joinLoaded_8 (by decide) ?_
  refine my_cp (F := f_S_toLowest a4 (2 : Int32)) (D := D0) (cl := []) (ws := []) (va_runS (As := [.int a4, .int (2 : Int32)]) (rest := []) ⟨hx, hb, hml, hown, hts⟩ (c_S_toLowest l a4 (2 : Int32) _ rfl) ⟨callB_of 2 hts (gw_in gw_341) rfl rfl rfl (hts _ gw_1) (hts _ gw_339) nh_S_toLowest ⟨Nat.le_of_ble_eq_true rfl, Nat.le_of_ble_eq_true rfl⟩, (hts _ gw_340)⟩ my_preP rfl rfl hl.1 rfl (lv_room (Nat.le_of_ble_eq_true rfl)) nd_S_joinLoaded_9 ⟨Nat.le_of_ble_eq_true rfl, Nat.le_of_ble_eq_true rfl⟩) my_nil hS (fun H locs _ hS => ?_)
  refine lv_istore (lv' := [(5, .int (f_S_toLowest a4 (2 : Int32))), (4, .int (f_S_toLowest a4 (1 : Int32))), (0, .int a1), (1, .int a2), (2, .int a3), (3, .int a4)]) hx hb nd_S_joinLoaded_12 hl (by decide) rfl (fun ls hl => ?_)
  refine lv_iload_n hx hb nd_S_joinLoaded_14 rfl (lv_at hl 5 rfl) ?_
  refine my_cp (F := f_S_bitsAhead a4) (D := D0) (cl := []) (ws := []) (va_runS (As := [.int a4]) (rest := []) ⟨hx, hb, hml, hown, hts⟩ (c_S_bitsAhead l a4 _ rfl) ⟨callB_of 1 hts (gw_in gw_344) rfl rfl rfl (hts _ gw_1) (hts _ gw_342) nh_S_bitsAhead ⟨Nat.le_of_ble_eq_true rfl, Nat.le_of_ble_eq_true rfl⟩, (hts _ gw_343)⟩ my_preP rfl rfl hl.1 rfl (lv_room (Nat.le_of_ble_eq_true rfl)) nd_S_joinLoaded_15 ⟨Nat.le_of_ble_eq_true rfl, Nat.le_of_ble_eq_true rfl⟩) my_nil hS (fun H locs _ hS => ?_)
  refine lv_istore (lv' := [(6, .int (f_S_bitsAhead a4)), (5, .int (f_S_toLowest a4 (2 : Int32))), (4, .int (f_S_toLowest a4 (1 : Int32))), (0, .int a1), (1, .int a2), (2, .int a3), (3, .int a4)]) hx hb nd_S_joinLoaded_18 hl (by decide) rfl (fun ls hl => ?_)
  refine lv_iload_n hx hb nd_S_joinLoaded_20 rfl (lv_at hl 3 rfl) ?_
  rcases my_em (x := a1) (32 : Int32) with h21_32 | h21_32
  · have hw := (if_pos h21_32).symm.trans hw
    refine my_swi (tgt := 60) hx hb nd_S_joinLoaded_21 h21_32 (by decide) (by decide) rfl (by decide) ?_
    refine lv_iload_n hx hb nd_S_joinLoaded_60 rfl (lv_at hl 5 rfl) ?_
    refine lv_iload hx hb nd_S_joinLoaded_61 (lv_at hl 2 rfl) ?_
    refine lv_ishr hx hb nd_S_joinLoaded_63 ?_
    refine lv_i2b (v := (a3 >>> ((f_S_toLowest a4 (1 : Int32)) &&& 31)).toInt8.toInt32) hx hb nd_S_joinLoaded_64 rfl ?_
    exact my_rp hx hb hr hlocks hS hw nd_S_joinLoaded_65
  have hw := (if_neg h21_32).symm.trans hw
  rcases my_em (x := a1) (33 : Int32) with h21_33 | h21_33
  · have hw := (if_pos h21_33).symm.trans hw
    refine my_swi (tgt := 66) hx hb nd_S_joinLoaded_21 h21_33 (by decide) (by decide) rfl (by decide) ?_
    refine lv_iload_n hx hb nd_S_joinLoaded_66 rfl (lv_at hl 5 rfl) ?_
    refine lv_iload hx hb nd_S_joinLoaded_67 (lv_at hl 1 rfl) ?_
    refine lv_ishr hx hb nd_S_joinLoaded_69 ?_
    refine lv_i2s (v := (a3 >>> ((f_S_toLowest a4 (2 : Int32)) &&& 31)).toInt16.toInt32) hx hb nd_S_joinLoaded_70 rfl ?_
    exact my_rp hx hb hr hlocks hS hw nd_S_joinLoaded_71
  have hw := (if_neg h21_33).symm.trans hw
  rcases my_em (x := a1) (34 : Int32) with h21_34 | h21_34
  · have hw := (if_pos h21_34).symm.trans hw
    refine my_swi (tgt := 72) hx hb nd_S_joinLoaded_21 h21_34 (by decide) (by decide) rfl (by decide) ?_
    refine lv_iload_n hx hb nd_S_joinLoaded_72 rfl (lv_at hl 4 rfl) ?_
    refine lv_iload_n hx hb nd_S_joinLoaded_73 rfl (lv_at hl 5 rfl) ?_
    refine lv_iload hx hb nd_S_joinLoaded_74 (lv_at hl 0 rfl) ?_
    refine lv_ishl hx hb nd_S_joinLoaded_76 ?_
    refine lv_iconst (v := (-1 : Int32)) hx hb nd_S_joinLoaded_77 (by decide) ?_
    refine lv_iload hx hb nd_S_joinLoaded_78 (lv_at hl 0 rfl) ?_
    refine lv_ishl hx hb nd_S_joinLoaded_80 ?_
    refine my_cp (F := f_S_exchange a2 (a3 <<< ((f_S_bitsAhead a4) &&& 31)) ((-1 : Int32) <<< ((f_S_bitsAhead a4) &&& 31))) (D := D0) (cl := []) (ws := []) (va_runS (As := [.int a2, .int (a3 <<< ((f_S_bitsAhead a4) &&& 31)), .int ((-1 : Int32) <<< ((f_S_bitsAhead a4) &&& 31))]) (rest := []) ⟨hx, hb, hml, hown, hts⟩ (c_S_exchange l a2 (a3 <<< ((f_S_bitsAhead a4) &&& 31)) ((-1 : Int32) <<< ((f_S_bitsAhead a4) &&& 31)) _ rfl) ⟨callB_of 3 hts (gw_in gw_116) rfl rfl rfl (hts _ gw_1) (hts _ gw_345) nh_S_exchange ⟨Nat.le_of_ble_eq_true rfl, Nat.le_of_ble_eq_true rfl⟩, (hts _ gw_115)⟩ my_preP rfl rfl hl.1 rfl (lv_room (Nat.le_of_ble_eq_true rfl)) nd_S_joinLoaded_81 ⟨Nat.le_of_ble_eq_true rfl, Nat.le_of_ble_eq_true rfl⟩) my_nil hS (fun H locs _ hS => ?_)
    exact my_rp hx hb hr hlocks hS hw nd_S_joinLoaded_84
  have hw := (if_neg h21_34).symm.trans hw
  rcases my_em (x := a1) (35 : Int32) with h21_35 | h21_35
  · have hw := (if_pos h21_35).symm.trans hw
    refine my_swi (tgt := 85) hx hb nd_S_joinLoaded_21 h21_35 (by decide) (by decide) rfl (by decide) ?_
    refine lv_iload_n hx hb nd_S_joinLoaded_85 rfl (lv_at hl 5 rfl) ?_
    exact my_rp hx hb hr hlocks hS hw nd_S_joinLoaded_86
  have hw := (if_neg h21_35).symm.trans hw
  rcases my_em (x := a1) (36 : Int32) with h21_36 | h21_36
  · have hw := (if_pos h21_36).symm.trans hw
    refine my_swi (tgt := 87) hx hb nd_S_joinLoaded_21 h21_36 (by decide) (by decide) rfl (by decide) ?_
    refine lv_iload_n hx hb nd_S_joinLoaded_87 rfl (lv_at hl 5 rfl) ?_
    refine lv_iload hx hb nd_S_joinLoaded_88 (lv_at hl 2 rfl) ?_
    refine lv_ishr hx hb nd_S_joinLoaded_90 ?_
    refine lv_sipush (v := (255 : Int32)) hx hb nd_S_joinLoaded_91 (by decide) ?_
    refine lv_iand hx hb nd_S_joinLoaded_94 ?_
    exact my_rp hx hb hr hlocks hS hw nd_S_joinLoaded_95
  have hw := (if_neg h21_36).symm.trans hw
  rcases my_em (x := a1) (37 : Int32) with h21_37 | h21_37
  · have hw := (if_pos h21_37).symm.trans hw
    refine my_swi (tgt := 96) hx hb nd_S_joinLoaded_21 h21_37 (by decide) (by decide) rfl (by decide) ?_
    refine lv_iload_n hx hb nd_S_joinLoaded_96 rfl (lv_at hl 5 rfl) ?_
    refine lv_iload hx hb nd_S_joinLoaded_97 (lv_at hl 1 rfl) ?_
    refine lv_ishr hx hb nd_S_joinLoaded_99 ?_
    refine lv_ldc (own := nR_S) (v := (65535 : Int32)) hx hb hown (hts _ gw_302) nd_S_joinLoaded_100 ?_
    refine lv_iand hx hb nd_S_joinLoaded_102 ?_
    exact my_rp hx hb hr hlocks hS hw nd_S_joinLoaded_103
  have hw := (if_neg h21_37).symm.trans hw
  refine my_swd (tgt := 104) hx hb nd_S_joinLoaded_21 (my_nec h21_32 (my_nec h21_33 (my_nec h21_34 (my_nec h21_35 (my_nec h21_36 (my_nec h21_37 my_nen)))))) (by decide +kernel) (by decide) ?_
  refine lv_iload_n hx hb nd_S_joinLoaded_104 rfl (lv_at hl 4 rfl) ?_
  refine lv_iload_n hx hb nd_S_joinLoaded_105 rfl (lv_at hl 5 rfl) ?_
  refine lv_iload hx hb nd_S_joinLoaded_106 (lv_at hl 2 rfl) ?_
  refine lv_iushr (v := ush a3 (f_S_toLowest a4 (1 : Int32))) hx hb nd_S_joinLoaded_108 rfl ?_
  refine lv_iconst (v := (-1 : Int32)) hx hb nd_S_joinLoaded_109 (by decide) ?_
  refine lv_iload hx hb nd_S_joinLoaded_110 (lv_at hl 2 rfl) ?_
  refine lv_iushr (v := ush (-1 : Int32) (f_S_toLowest a4 (1 : Int32))) hx hb nd_S_joinLoaded_112 rfl ?_
  refine my_cp (F := f_S_exchange a2 (ush a3 (f_S_toLowest a4 (1 : Int32))) (ush (-1 : Int32) (f_S_toLowest a4 (1 : Int32)))) (D := D0) (cl := []) (ws := []) (va_runS (As := [.int a2, .int (ush a3 (f_S_toLowest a4 (1 : Int32))), .int (ush (-1 : Int32) (f_S_toLowest a4 (1 : Int32)))]) (rest := []) ⟨hx, hb, hml, hown, hts⟩ (c_S_exchange l a2 (ush a3 (f_S_toLowest a4 (1 : Int32))) (ush (-1 : Int32) (f_S_toLowest a4 (1 : Int32))) _ rfl) ⟨callB_of 3 hts (gw_in gw_116) rfl rfl rfl (hts _ gw_1) (hts _ gw_345) nh_S_exchange ⟨Nat.le_of_ble_eq_true rfl, Nat.le_of_ble_eq_true rfl⟩, (hts _ gw_115)⟩ my_preP rfl rfl hl.1 rfl (lv_room (Nat.le_of_ble_eq_true rfl)) nd_S_joinLoaded_113 ⟨Nat.le_of_ble_eq_true rfl, Nat.le_of_ble_eq_true rfl⟩) my_nil hS (fun H locs _ hS => ?_)
  exact my_rp hx hb hr hlocks hS hw nd_S_joinLoaded_116
set_option maxHeartbeats 4000000 in
set_option maxRecDepth 100000 in
theorem c_S_storeUnit (l : Launch) (a1 : Int32) (F : Int32) (hw : f_S_storeUnit a1 = F) : MP l ny_S_storeUnit nw_S_storeUnit ({ frames := 0, cells := 0, slots := 0, locals := 0 }) ([.int a1] : List Value) F := by
  unfold MP
  refine my_inP (gw := GW) (cc := nc_S_storeUnit) (maxL := 1) (ret := (some .int)) (by decide) rfl (Nat.le_of_ble_eq_true rfl) ?_
  intro p e s m below meth c H locs ls hx hb hml hr hts hown hlocks hS hl
  have hown : s.vm.findClass nR_S = some m.cls := hown
  have hl : lv_has ls 1 [(0, .int a1)] := hl
  unfold f_S_storeUnit at hw
  refine lv_iload_n hx hb nd_S_storeUnit_0 rfl (lv_at hl 0 rfl) ?_
  refine lv_bipush (v := (43 : Int32)) hx hb nd_S_storeUnit_1 (by decide) ?_
  refine lv_icmp_ne (tgt := 8) hx hb nd_S_storeUnit_3 (by decide) (fun h3 => ?_) (fun h3 => ?_)
  · have hw := (if_neg h3).symm.trans hw
    refine lv_iload_n hx hb nd_S_storeUnit_8 rfl (lv_at hl 0 rfl) ?_
    refine lv_bipush (v := (41 : Int32)) hx hb nd_S_storeUnit_9 (by decide) ?_
    refine lv_icmp_ne (tgt := 18) hx hb nd_S_storeUnit_11 (by decide) (fun h11 => ?_) (fun h11 => ?_)
    · have hw := (if_neg h11).symm.trans hw
      refine lv_iconst (v := (1 : Int32)) hx hb nd_S_storeUnit_18 (by decide) ?_
      exact my_rp hx hb hr hlocks hS hw nd_S_storeUnit_19
    have hw := (if_pos h11).symm.trans hw
    refine lv_iconst (v := (2 : Int32)) hx hb nd_S_storeUnit_14 (by decide) ?_
    refine lv_goto (tgt := 19) hx hb nd_S_storeUnit_15 (by decide) ?_
    exact my_rp hx hb hr hlocks hS hw nd_S_storeUnit_19
  have hw := (if_pos h3).symm.trans hw
  refine lv_iconst (v := (4 : Int32)) hx hb nd_S_storeUnit_6 (by decide) ?_
  exact my_rp hx hb hr hlocks hS hw nd_S_storeUnit_7
set_option maxHeartbeats 4000000 in
set_option maxRecDepth 100000 in
theorem c_S_joinStored (l : Launch) (a1 : Int32) (a2 : Int32) (a3 : Int32) (a4 : Int32) (F : Int32) (hw : f_S_joinStored a1 a2 a3 a4 = F) : MP l ny_S_joinStored nw_S_joinStored ({ frames := 1, cells := 0, slots := 0, locals := 22 }) ([.int a1, .int a2, .int a3, .int a4] : List Value) F := by
  unfold MP
  refine my_inP (gw := GW) (cc := nc_S_joinStored) (maxL := 7) (ret := (some .int)) (by decide) rfl (Nat.le_of_ble_eq_true rfl) ?_
  intro p e s m below meth c H locs ls hx hb hml hr hts hown hlocks hS hl
  have hown : s.vm.findClass nR_S = some m.cls := hown
  have hl : lv_has ls 7 [(0, .int a1), (1, .int a2), (2, .int a3), (3, .int a4)] := hl
  unfold f_S_joinStored at hw
  refine lv_iload_n hx hb nd_S_joinStored_0 rfl (lv_at hl 3 rfl) ?_
  refine lv_iconst (v := (1 : Int32)) hx hb nd_S_joinStored_1 (by decide) ?_
  refine my_cp (F := f_S_toLowest a4 (1 : Int32)) (D := D0) (cl := []) (ws := []) (va_runS (As := [.int a4, .int (1 : Int32)]) (rest := []) ⟨hx, hb, hml, hown, hts⟩ (c_S_toLowest l a4 (1 : Int32) _ rfl) ⟨callB_of 2 hts (gw_in gw_341) rfl rfl rfl (hts _ gw_1) (hts _ gw_339) nh_S_toLowest ⟨Nat.le_of_ble_eq_true rfl, Nat.le_of_ble_eq_true rfl⟩, (hts _ gw_340)⟩ my_preP rfl rfl hl.1 rfl (lv_room (Nat.le_of_ble_eq_true rfl)) nd_S_joinStored_2 ⟨Nat.le_of_ble_eq_true rfl, Nat.le_of_ble_eq_true rfl⟩) my_nil hS (fun H locs _ hS => ?_)
  refine lv_istore (lv' := [(4, .int (f_S_toLowest a4 (1 : Int32))), (0, .int a1), (1, .int a2), (2, .int a3), (3, .int a4)]) hx hb nd_S_joinStored_5 hl (by decide) rfl (fun ls hl => ?_)
  refine lv_iload_n hx hb nd_S_joinStored_7 rfl (lv_at hl 4 rfl) ?_
  refine lv_iconst (v := (2 : Int32)) hx hb nd_S_joinStored_8 (by decide) ?_
  refine my_cp (F := f_S_toLowest a4 (2 : Int32)) (D := D0) (cl := []) (ws := []) (va_runS (As := [.int a4, .int (2 : Int32)]) (rest := []) ⟨hx, hb, hml, hown, hts⟩ (c_S_toLowest l a4 (2 : Int32) _ rfl) ⟨callB_of 2 hts (gw_in gw_341) rfl rfl rfl (hts _ gw_1) (hts _ gw_339) nh_S_toLowest ⟨Nat.le_of_ble_eq_true rfl, Nat.le_of_ble_eq_true rfl⟩, (hts _ gw_340)⟩ my_preP rfl rfl hl.1 rfl (lv_room (Nat.le_of_ble_eq_true rfl)) nd_S_joinStored_9 ⟨Nat.le_of_ble_eq_true rfl, Nat.le_of_ble_eq_true rfl⟩) my_nil hS (fun H locs _ hS => ?_)
  refine lv_istore (lv' := [(5, .int (f_S_toLowest a4 (2 : Int32))), (4, .int (f_S_toLowest a4 (1 : Int32))), (0, .int a1), (1, .int a2), (2, .int a3), (3, .int a4)]) hx hb nd_S_joinStored_12 hl (by decide) rfl (fun ls hl => ?_)
  refine lv_iload_n hx hb nd_S_joinStored_14 rfl (lv_at hl 5 rfl) ?_
  refine my_cp (F := f_S_bitsAhead a4) (D := D0) (cl := []) (ws := []) (va_runS (As := [.int a4]) (rest := []) ⟨hx, hb, hml, hown, hts⟩ (c_S_bitsAhead l a4 _ rfl) ⟨callB_of 1 hts (gw_in gw_344) rfl rfl rfl (hts _ gw_1) (hts _ gw_342) nh_S_bitsAhead ⟨Nat.le_of_ble_eq_true rfl, Nat.le_of_ble_eq_true rfl⟩, (hts _ gw_343)⟩ my_preP rfl rfl hl.1 rfl (lv_room (Nat.le_of_ble_eq_true rfl)) nd_S_joinStored_15 ⟨Nat.le_of_ble_eq_true rfl, Nat.le_of_ble_eq_true rfl⟩) my_nil hS (fun H locs _ hS => ?_)
  refine lv_istore (lv' := [(6, .int (f_S_bitsAhead a4)), (5, .int (f_S_toLowest a4 (2 : Int32))), (4, .int (f_S_toLowest a4 (1 : Int32))), (0, .int a1), (1, .int a2), (2, .int a3), (3, .int a4)]) hx hb nd_S_joinStored_18 hl (by decide) rfl (fun ls hl => ?_)
  refine lv_iload_n hx hb nd_S_joinStored_20 rfl (lv_at hl 3 rfl) ?_
  rcases my_em (x := a1) (40 : Int32) with h21_40 | h21_40
  · have hw := (if_pos h21_40).symm.trans hw
    refine my_swi (tgt := 52) hx hb nd_S_joinStored_21 h21_40 (by decide) (by decide) rfl (by decide) ?_
    refine lv_iload_n hx hb nd_S_joinStored_52 rfl (lv_at hl 4 rfl) ?_
    refine lv_iload_n hx hb nd_S_joinStored_53 rfl (lv_at hl 5 rfl) ?_
    refine lv_iload hx hb nd_S_joinStored_54 (lv_at hl 2 rfl) ?_
    refine lv_ishl hx hb nd_S_joinStored_56 ?_
    refine lv_sipush (v := (255 : Int32)) hx hb nd_S_joinStored_57 (by decide) ?_
    refine lv_iload hx hb nd_S_joinStored_60 (lv_at hl 2 rfl) ?_
    refine lv_ishl hx hb nd_S_joinStored_62 ?_
    refine my_cp (F := f_S_exchange a2 (a3 <<< ((f_S_toLowest a4 (1 : Int32)) &&& 31)) ((255 : Int32) <<< ((f_S_toLowest a4 (1 : Int32)) &&& 31))) (D := D0) (cl := []) (ws := []) (va_runS (As := [.int a2, .int (a3 <<< ((f_S_toLowest a4 (1 : Int32)) &&& 31)), .int ((255 : Int32) <<< ((f_S_toLowest a4 (1 : Int32)) &&& 31))]) (rest := []) ⟨hx, hb, hml, hown, hts⟩ (c_S_exchange l a2 (a3 <<< ((f_S_toLowest a4 (1 : Int32)) &&& 31)) ((255 : Int32) <<< ((f_S_toLowest a4 (1 : Int32)) &&& 31)) _ rfl) ⟨callB_of 3 hts (gw_in gw_116) rfl rfl rfl (hts _ gw_1) (hts _ gw_345) nh_S_exchange ⟨Nat.le_of_ble_eq_true rfl, Nat.le_of_ble_eq_true rfl⟩, (hts _ gw_115)⟩ my_preP rfl rfl hl.1 rfl (lv_room (Nat.le_of_ble_eq_true rfl)) nd_S_joinStored_63 ⟨Nat.le_of_ble_eq_true rfl, Nat.le_of_ble_eq_true rfl⟩) my_nil hS (fun H locs _ hS => ?_)
    exact my_rp hx hb hr hlocks hS hw nd_S_joinStored_66
  have hw := (if_neg h21_40).symm.trans hw
  rcases my_em (x := a1) (41 : Int32) with h21_41 | h21_41
  · have hw := (if_pos h21_41).symm.trans hw
    refine my_swi (tgt := 67) hx hb nd_S_joinStored_21 h21_41 (by decide) (by decide) rfl (by decide) ?_
    refine lv_iload_n hx hb nd_S_joinStored_67 rfl (lv_at hl 4 rfl) ?_
    refine lv_iload_n hx hb nd_S_joinStored_68 rfl (lv_at hl 5 rfl) ?_
    refine lv_iload hx hb nd_S_joinStored_69 (lv_at hl 1 rfl) ?_
    refine lv_ishl hx hb nd_S_joinStored_71 ?_
    refine lv_ldc (own := nR_S) (v := (65535 : Int32)) hx hb hown (hts _ gw_302) nd_S_joinStored_72 ?_
    refine lv_iload hx hb nd_S_joinStored_74 (lv_at hl 1 rfl) ?_
    refine lv_ishl hx hb nd_S_joinStored_76 ?_
    refine my_cp (F := f_S_exchange a2 (a3 <<< ((f_S_toLowest a4 (2 : Int32)) &&& 31)) ((65535 : Int32) <<< ((f_S_toLowest a4 (2 : Int32)) &&& 31))) (D := D0) (cl := []) (ws := []) (va_runS (As := [.int a2, .int (a3 <<< ((f_S_toLowest a4 (2 : Int32)) &&& 31)), .int ((65535 : Int32) <<< ((f_S_toLowest a4 (2 : Int32)) &&& 31))]) (rest := []) ⟨hx, hb, hml, hown, hts⟩ (c_S_exchange l a2 (a3 <<< ((f_S_toLowest a4 (2 : Int32)) &&& 31)) ((65535 : Int32) <<< ((f_S_toLowest a4 (2 : Int32)) &&& 31)) _ rfl) ⟨callB_of 3 hts (gw_in gw_116) rfl rfl rfl (hts _ gw_1) (hts _ gw_345) nh_S_exchange ⟨Nat.le_of_ble_eq_true rfl, Nat.le_of_ble_eq_true rfl⟩, (hts _ gw_115)⟩ my_preP rfl rfl hl.1 rfl (lv_room (Nat.le_of_ble_eq_true rfl)) nd_S_joinStored_77 ⟨Nat.le_of_ble_eq_true rfl, Nat.le_of_ble_eq_true rfl⟩) my_nil hS (fun H locs _ hS => ?_)
    exact my_rp hx hb hr hlocks hS hw nd_S_joinStored_80
  have hw := (if_neg h21_41).symm.trans hw
  rcases my_em (x := a1) (42 : Int32) with h21_42 | h21_42
  · have hw := (if_pos h21_42).symm.trans hw
    refine my_swi (tgt := 81) hx hb nd_S_joinStored_21 h21_42 (by decide) (by decide) rfl (by decide) ?_
    refine lv_iload_n hx hb nd_S_joinStored_81 rfl (lv_at hl 4 rfl) ?_
    refine lv_iload_n hx hb nd_S_joinStored_82 rfl (lv_at hl 5 rfl) ?_
    refine lv_iload hx hb nd_S_joinStored_83 (lv_at hl 0 rfl) ?_
    refine lv_iushr (v := ush a3 (f_S_bitsAhead a4)) hx hb nd_S_joinStored_85 rfl ?_
    refine lv_iconst (v := (-1 : Int32)) hx hb nd_S_joinStored_86 (by decide) ?_
    refine lv_iload hx hb nd_S_joinStored_87 (lv_at hl 0 rfl) ?_
    refine lv_iushr (v := ush (-1 : Int32) (f_S_bitsAhead a4)) hx hb nd_S_joinStored_89 rfl ?_
    refine my_cp (F := f_S_exchange a2 (ush a3 (f_S_bitsAhead a4)) (ush (-1 : Int32) (f_S_bitsAhead a4))) (D := D0) (cl := []) (ws := []) (va_runS (As := [.int a2, .int (ush a3 (f_S_bitsAhead a4)), .int (ush (-1 : Int32) (f_S_bitsAhead a4))]) (rest := []) ⟨hx, hb, hml, hown, hts⟩ (c_S_exchange l a2 (ush a3 (f_S_bitsAhead a4)) (ush (-1 : Int32) (f_S_bitsAhead a4)) _ rfl) ⟨callB_of 3 hts (gw_in gw_116) rfl rfl rfl (hts _ gw_1) (hts _ gw_345) nh_S_exchange ⟨Nat.le_of_ble_eq_true rfl, Nat.le_of_ble_eq_true rfl⟩, (hts _ gw_115)⟩ my_preP rfl rfl hl.1 rfl (lv_room (Nat.le_of_ble_eq_true rfl)) nd_S_joinStored_90 ⟨Nat.le_of_ble_eq_true rfl, Nat.le_of_ble_eq_true rfl⟩) my_nil hS (fun H locs _ hS => ?_)
    exact my_rp hx hb hr hlocks hS hw nd_S_joinStored_93
  have hw := (if_neg h21_42).symm.trans hw
  rcases my_em (x := a1) (43 : Int32) with h21_43 | h21_43
  · have hw := (if_pos h21_43).symm.trans hw
    refine my_swi (tgt := 94) hx hb nd_S_joinStored_21 h21_43 (by decide) (by decide) rfl (by decide) ?_
    refine lv_iload_n hx hb nd_S_joinStored_94 rfl (lv_at hl 5 rfl) ?_
    exact my_rp hx hb hr hlocks hS hw nd_S_joinStored_95
  have hw := (if_neg h21_43).symm.trans hw
  refine my_swd (tgt := 96) hx hb nd_S_joinStored_21 (my_nec h21_40 (my_nec h21_41 (my_nec h21_42 (my_nec h21_43 my_nen)))) (by decide +kernel) (by decide) ?_
  refine lv_iload_n hx hb nd_S_joinStored_96 rfl (lv_at hl 4 rfl) ?_
  refine lv_iload_n hx hb nd_S_joinStored_97 rfl (lv_at hl 5 rfl) ?_
  refine lv_iload hx hb nd_S_joinStored_98 (lv_at hl 2 rfl) ?_
  refine lv_ishl hx hb nd_S_joinStored_100 ?_
  refine lv_iconst (v := (-1 : Int32)) hx hb nd_S_joinStored_101 (by decide) ?_
  refine lv_iload hx hb nd_S_joinStored_102 (lv_at hl 2 rfl) ?_
  refine lv_ishl hx hb nd_S_joinStored_104 ?_
  refine my_cp (F := f_S_exchange a2 (a3 <<< ((f_S_toLowest a4 (1 : Int32)) &&& 31)) ((-1 : Int32) <<< ((f_S_toLowest a4 (1 : Int32)) &&& 31))) (D := D0) (cl := []) (ws := []) (va_runS (As := [.int a2, .int (a3 <<< ((f_S_toLowest a4 (1 : Int32)) &&& 31)), .int ((-1 : Int32) <<< ((f_S_toLowest a4 (1 : Int32)) &&& 31))]) (rest := []) ⟨hx, hb, hml, hown, hts⟩ (c_S_exchange l a2 (a3 <<< ((f_S_toLowest a4 (1 : Int32)) &&& 31)) ((-1 : Int32) <<< ((f_S_toLowest a4 (1 : Int32)) &&& 31)) _ rfl) ⟨callB_of 3 hts (gw_in gw_116) rfl rfl rfl (hts _ gw_1) (hts _ gw_345) nh_S_exchange ⟨Nat.le_of_ble_eq_true rfl, Nat.le_of_ble_eq_true rfl⟩, (hts _ gw_115)⟩ my_preP rfl rfl hl.1 rfl (lv_room (Nat.le_of_ble_eq_true rfl)) nd_S_joinStored_105 ⟨Nat.le_of_ble_eq_true rfl, Nat.le_of_ble_eq_true rfl⟩) my_nil hS (fun H locs _ hS => ?_)
  exact my_rp hx hb hr hlocks hS hw nd_S_joinStored_108
end
section
set_option maxHeartbeats 4000000 in
set_option maxRecDepth 100000 in
theorem c_R_holdLoad (l : Launch) (D : va_G) (h : Nat → Nat) (cA : Nat → ClassId) (u : St) (a1 : Int32) (a2 : Int32) (F : St) (hw : f_R_holdLoad a1 a2 u = F) : MV nwS vwCl l ny_R_holdLoad nw_R_holdLoad ({ frames := 0, cells := 0, slots := 0, locals := 0 }) D (tyI cA) (wSC h cA) ([.ref (h 3), .int a1, .int a2] : List Value) u F := by
  refine my_in (gw := GW) (cc := nc_R_holdLoad) (maxL := 3) (ret := none) (Qc := fun A => QV vwCl D (tyI cA) (wSC h cA) F A) (by decide) rfl (Nat.le_of_ble_eq_true rfl) ?_
  intro p e s m below meth c A H locs ls hx hb hml hr hts hown hlocks hK hN hA hP hD hS hl
  have hown : s.vm.findClass nR_R = some m.cls := hown
  have hl : lv_has ls 3 [(0, .ref (h 3)), (1, .int a1), (2, .int a2)] := hl
  unfold f_R_holdLoad at hw
  refine lv_aload_n hx hb nd_R_holdLoad_0 rfl (lv_at hl 0 rfl) ?_
  refine lv_iload_n hx hb nd_R_holdLoad_1 rfl (lv_at hl 1 rfl) ?_
  refine va_put (D := D) (ci := 2) (v := .int a1) (ty := .int) (C := nR_R) (T := nT_R) (N := 3) hx hb hts nu_R nt_R nto_R nn_R hown hK hP hD hS 3 rfl rfl 1 (by decide) (hts _ gw_29) (fun _ h9 => h9) rfl (by decide +kernel) rfl rfl (Nat.le_of_ble_eq_true rfl) nd_R_holdLoad_2 (fun H locs hP hD hS => ?_)
  have hP : va_P D vwCl (wSC h cA (sU u 3 1 a1)) H := hP
  have hD : va_D A (wSC h cA (sU u 3 1 a1)) := hD
  refine lv_aload_n hx hb nd_R_holdLoad_5 rfl (lv_at hl 0 rfl) ?_
  refine lv_iload_n hx hb nd_R_holdLoad_6 rfl (lv_at hl 2 rfl) ?_
  refine va_put (D := D) (ci := 2) (v := .int a2) (ty := .int) (C := nR_R) (T := nT_R) (N := 3) hx hb hts nu_R nt_R nto_R nn_R hown hK hP hD hS 3 rfl rfl 2 (by decide) (hts _ gw_30) (fun _ h9 => h9) rfl (by decide +kernel) rfl rfl (Nat.le_of_ble_eq_true rfl) nd_R_holdLoad_7 (fun H locs hP hD hS => ?_)
  have hP : va_P D vwCl (wSC h cA (sU (sU u 3 1 a1) 3 2 a2)) H := hP
  have hD : va_D A (wSC h cA (sU (sU u 3 1 a1) 3 2 a2)) := hD
  exact my_rv (u' := sU (sU u 3 1 a1) 3 2 a2) hx hb hr hlocks hK hP hD hS hw nd_R_holdLoad_10
set_option maxHeartbeats 4000000 in
set_option maxRecDepth 100000 in
theorem c_R_dropLoad (l : Launch) (D : va_G) (h : Nat → Nat) (cA : Nat → ClassId) (u : St) (F : St) (hw : f_R_dropLoad u = F) : MV nwS vwCl l ny_R_dropLoad nw_R_dropLoad ({ frames := 1, cells := 0, slots := 0, locals := 22 }) D (tyI cA) (wSC h cA) ([.ref (h 3)] : List Value) u F := by
  refine my_in (gw := GW) (cc := nc_R_dropLoad) (maxL := 1) (ret := none) (Qc := fun A => QV vwCl D (tyI cA) (wSC h cA) F A) (by decide) rfl (Nat.le_of_ble_eq_true rfl) ?_
  intro p e s m below meth c A H locs ls hx hb hml hr hts hown hlocks hK hN hA hP hD hS hl
  have hown : s.vm.findClass nR_R = some m.cls := hown
  have hl : lv_has ls 1 [(0, .ref (h 3))] := hl
  unfold f_R_dropLoad at hw
  refine lv_aload_n hx hb nd_R_dropLoad_0 rfl (lv_at hl 0 rfl) ?_
  refine lv_iconst (v := (-1 : Int32)) hx hb nd_R_dropLoad_1 (by decide) ?_
  refine lv_iconst (v := (0 : Int32)) hx hb nd_R_dropLoad_2 (by decide) ?_
  obtain ⟨u3, hq3, hw⟩ := bnv_i hw
  refine my_cv (wd := wSC h cA) (F := u3) (va_runV (As := [.int (-1 : Int32), .int (0 : Int32)]) (rest := []) ⟨hx, hb, hml, hown, hts⟩ (c_R_holdLoad l D h cA u (-1 : Int32) (0 : Int32) u3 hq3 _) ⟨callB_of 2 hts (gw_in gw_95) rfl rfl rfl (hts _ gw_3) (hts _ gw_92) nh_R_holdLoad ⟨Nat.le_of_ble_eq_true rfl, Nat.le_of_ble_eq_true rfl⟩, (hts _ gw_94), (hts _ gw_93)⟩ (my_preV nwOk hP hK hD hN (va_recv hK hP (ci := 2) (q0 := 3) rfl rfl)) rfl rfl hl.1 rfl (lv_room (Nat.le_of_ble_eq_true rfl)) nd_R_dropLoad_3 ⟨Nat.le_of_ble_eq_true rfl, Nat.le_of_ble_eq_true rfl⟩) hD hS hA (fun H locs hP hD hS => ?_)
  exact my_rv (u' := u3) hx hb hr hlocks hK hP hD hS hw nd_R_dropLoad_6
set_option maxHeartbeats 4000000 in
set_option maxRecDepth 100000 in
theorem c_R_clear (l : Launch) (D : va_G) (h : Nat → Nat) (cA : Nat → ClassId) (u : St) (F : St) (hw : f_R_clear u = some F) : MV nwS vwCl l ny_R_clear nw_R_clear ({ frames := 2, cells := 0, slots := 0, locals := 42 }) D (tyI cA) (wSC h cA) ([.ref (h 3)] : List Value) u F := by
  refine my_in (gw := GW) (cc := nc_R_clear) (maxL := 2) (ret := none) (Qc := fun A => QV vwCl D (tyI cA) (wSC h cA) F A) (by decide) rfl (Nat.le_of_ble_eq_true rfl) ?_
  intro p e s m below meth c A H locs ls hx hb hml hr hts hown hlocks hK hN hA hP hD hS hl
  have hown : s.vm.findClass nR_R = some m.cls := hown
  have hl : lv_has ls 2 [(0, .ref (h 3))] := hl
  have J2 : ∀ (n : Nat) (x1 : Int32) (u : St) (H : Heap) (locs : List Loc) (ls : Array Slot), va_P D vwCl (wSC h cA u) H → va_D A (wSC h cA u) → va_S A s.heap H locs → lv_has ls 2 [(0, .ref (h 3)), (1, .int x1)] → f_R_clear_b2 n x1 u = some F →
      W p l e (headSpec nw_R_clear ({ frames := 2, cells := 0, slots := 0, locals := 42 })).room s m ([.ref (h 3)] : List Value).toArray below meth c H locs 0 0 (MQ below (QV vwCl D (tyI cA) (wSC h cA) F A) ([.ref (h 3)] : List Value).toArray s 0 0 A) (F0 m 2 ls []) := by
    intro n
    induction n with
    | zero =>
      intro x1 u H locs ls hP hD hS hl hw
      have hw : none = some F := hw
      cases hw
    | succ n ih =>
      intro x1 u H locs ls hP hD hS hl hw
      have hw := (f_R_clear_b2_s n x1 u).symm.trans hw
      refine lv_iload_n hx hb nd_R_clear_2 rfl (lv_at hl 1 rfl) ?_
      refine lv_bipush (v := (34 : Int32)) hx hb nd_R_clear_3 (by decide) ?_
      refine lv_icmp_ge (tgt := 21) hx hb nd_R_clear_5 (by decide) (fun h5 => ?_) (fun h5 => ?_)
      · have hw := (if_pos h5).symm.trans hw
        refine lv_aload_n hx hb nd_R_clear_21 rfl (lv_at hl 0 rfl) ?_
        obtain ⟨u22, hq22, hw⟩ := bnv_i hw
        refine my_cv (wd := wSC h cA) (F := u22) (va_runV (As := []) (rest := []) ⟨hx, hb, hml, hown, hts⟩ (c_R_dropLoad l D h cA u u22 hq22 _) ⟨callB_of 0 hts (gw_in gw_91) rfl rfl rfl (hts _ gw_3) (hts _ gw_88) nh_R_dropLoad ⟨Nat.le_of_ble_eq_true rfl, Nat.le_of_ble_eq_true rfl⟩, (hts _ gw_90), (hts _ gw_89)⟩ (my_preV nwOk hP hK hD hN (va_recv hK hP (ci := 2) (q0 := 3) rfl rfl)) rfl rfl hl.1 rfl (lv_room (Nat.le_of_ble_eq_true rfl)) nd_R_clear_22 ⟨Nat.le_of_ble_eq_true rfl, Nat.le_of_ble_eq_true rfl⟩) hD hS hA (fun H locs hP hD hS => ?_)
        exact my_rv (u' := u22) hx hb hr hlocks hK hP hD hS (Option.some.inj hw) nd_R_clear_25
      have hw := (if_neg h5).symm.trans hw
      refine lv_aload_n hx hb nd_R_clear_8 rfl (lv_at hl 0 rfl) ?_
      refine va_get (D := D) (ci := 2) (v := .ref (h 4)) (C := nR_R) (T := nT_R) (N := 3) hx hb hts nu_R hown hK hP 3 rfl rfl 0 (by decide) (hts _ gw_28) (fun _ h9 => h9) rfl nd_R_clear_9 ?_
      refine lv_iload_n hx hb nd_R_clear_12 rfl (lv_at hl 1 rfl) ?_
      refine lv_iconst (v := (0 : Int32)) hx hb nd_R_clear_13 (by decide) ?_
      obtain ⟨hi14, hw⟩ := inb_i hw
      refine va_iast hx hb hK hP hD hS 4 1 rfl rfl hi14 nd_R_clear_14 (fun H locs hP hD hS => ?_)
      have hP : va_P D vwCl (wSC h cA (sU u 4 x1.toNatClampNeg (0 : Int32))) H := hP
      have hD : va_D A (wSC h cA (sU u 4 x1.toNatClampNeg (0 : Int32))) := hD
      refine lv_iinc (k := 1) (v := x1 + (1 : Int32)) (lv' := [(1, .int (x1 + (1 : Int32))), (0, .ref (h 3))]) hx hb nd_R_clear_15 hl rfl rfl (by decide) rfl (fun ls hl => ?_)
      refine lv_goto (tgt := 2) hx hb nd_R_clear_18 (by decide) ?_
      exact ih (x1 + (1 : Int32)) (sU u 4 x1.toNatClampNeg (0 : Int32)) H locs ls hP hD hS (lv_sub hl [1, 0] rfl) hw
  unfold f_R_clear at hw
  refine lv_iconst (v := (0 : Int32)) hx hb nd_R_clear_0 (by decide) ?_
  refine lv_istore_n (lv' := [(1, .int (0 : Int32)), (0, .ref (h 3))]) hx hb nd_R_clear_1 rfl hl (by decide) rfl (fun ls hl => ?_)
  exact J2 fuel (0 : Int32) u H locs ls hP hD hS (lv_sub hl [1, 0] rfl) hw
set_option maxHeartbeats 4000000 in
set_option maxRecDepth 100000 in
theorem c_C_clear (l : Launch) (D : va_G) (h : Nat → Nat) (cA : Nat → ClassId) (u : St) (F : St) (hw : f_C_clear u = F) : MV nwS vwCl l ny_C_clear nw_C_clear ({ frames := 0, cells := 0, slots := 0, locals := 0 }) D (tyI cA) (wSC h cA) ([.ref (h 5)] : List Value) u F := by
  refine my_in (gw := GW) (cc := nc_C_clear) (maxL := 1) (ret := none) (Qc := fun A => QV vwCl D (tyI cA) (wSC h cA) F A) (by decide) rfl (Nat.le_of_ble_eq_true rfl) ?_
  intro p e s m below meth c A H locs ls hx hb hml hr hts hown hlocks hK hN hA hP hD hS hl
  have hown : s.vm.findClass nR_C = some m.cls := hown
  have hl : lv_has ls 1 [(0, .ref (h 5))] := hl
  unfold f_C_clear at hw
  refine lv_aload_n hx hb nd_C_clear_0 rfl (lv_at hl 0 rfl) ?_
  refine lv_iconst (v := (0 : Int32)) hx hb nd_C_clear_1 (by decide) ?_
  refine va_put (D := D) (ci := 3) (v := .int (0 : Int32)) (ty := .int) (C := nR_C) (T := nT_C) (N := 5) hx hb hts nu_C nt_C nto_C nn_C hown hK hP hD hS 5 rfl rfl 0 (by decide) (hts _ gw_39) (fun _ h9 => h9) rfl (by decide +kernel) rfl rfl (Nat.le_of_ble_eq_true rfl) nd_C_clear_2 (fun H locs hP hD hS => ?_)
  have hP : va_P D vwCl (wSC h cA (sU u 5 0 (0 : Int32))) H := hP
  have hD : va_D A (wSC h cA (sU u 5 0 (0 : Int32))) := hD
  refine lv_aload_n hx hb nd_C_clear_5 rfl (lv_at hl 0 rfl) ?_
  refine lv_iconst (v := (0 : Int32)) hx hb nd_C_clear_6 (by decide) ?_
  refine va_put (D := D) (ci := 3) (v := .int (0 : Int32)) (ty := .int) (C := nR_C) (T := nT_C) (N := 5) hx hb hts nu_C nt_C nto_C nn_C hown hK hP hD hS 5 rfl rfl 1 (by decide) (hts _ gw_40) (fun _ h9 => h9) rfl (by decide +kernel) rfl rfl (Nat.le_of_ble_eq_true rfl) nd_C_clear_7 (fun H locs hP hD hS => ?_)
  have hP : va_P D vwCl (wSC h cA (sU (sU u 5 0 (0 : Int32)) 5 1 (0 : Int32))) H := hP
  have hD : va_D A (wSC h cA (sU (sU u 5 0 (0 : Int32)) 5 1 (0 : Int32))) := hD
  refine lv_aload_n hx hb nd_C_clear_10 rfl (lv_at hl 0 rfl) ?_
  refine lv_iconst (v := (0 : Int32)) hx hb nd_C_clear_11 (by decide) ?_
  refine va_put (D := D) (ci := 3) (v := .int (0 : Int32)) (ty := .int) (C := nR_C) (T := nT_C) (N := 5) hx hb hts nu_C nt_C nto_C nn_C hown hK hP hD hS 5 rfl rfl 2 (by decide) (hts _ gw_41) (fun _ h9 => h9) rfl (by decide +kernel) rfl rfl (Nat.le_of_ble_eq_true rfl) nd_C_clear_12 (fun H locs hP hD hS => ?_)
  have hP : va_P D vwCl (wSC h cA (sU (sU (sU u 5 0 (0 : Int32)) 5 1 (0 : Int32)) 5 2 (0 : Int32))) H := hP
  have hD : va_D A (wSC h cA (sU (sU (sU u 5 0 (0 : Int32)) 5 1 (0 : Int32)) 5 2 (0 : Int32))) := hD
  refine lv_aload_n hx hb nd_C_clear_15 rfl (lv_at hl 0 rfl) ?_
  refine lv_iconst (v := (0 : Int32)) hx hb nd_C_clear_16 (by decide) ?_
  refine va_put (D := D) (ci := 3) (v := .int (0 : Int32)) (ty := .int) (C := nR_C) (T := nT_C) (N := 5) hx hb hts nu_C nt_C nto_C nn_C hown hK hP hD hS 5 rfl rfl 3 (by decide) (hts _ gw_42) (fun _ h9 => h9) rfl (by decide +kernel) rfl rfl (Nat.le_of_ble_eq_true rfl) nd_C_clear_17 (fun H locs hP hD hS => ?_)
  have hP : va_P D vwCl (wSC h cA (sU (sU (sU (sU u 5 0 (0 : Int32)) 5 1 (0 : Int32)) 5 2 (0 : Int32)) 5 3 (0 : Int32))) H := hP
  have hD : va_D A (wSC h cA (sU (sU (sU (sU u 5 0 (0 : Int32)) 5 1 (0 : Int32)) 5 2 (0 : Int32)) 5 3 (0 : Int32))) := hD
  refine lv_aload_n hx hb nd_C_clear_20 rfl (lv_at hl 0 rfl) ?_
  refine lv_iconst (v := (0 : Int32)) hx hb nd_C_clear_21 (by decide) ?_
  refine va_put (D := D) (ci := 3) (v := .int (0 : Int32)) (ty := .int) (C := nR_C) (T := nT_C) (N := 5) hx hb hts nu_C nt_C nto_C nn_C hown hK hP hD hS 5 rfl rfl 4 (by decide) (hts _ gw_43) (fun _ h9 => h9) rfl (by decide +kernel) rfl rfl (Nat.le_of_ble_eq_true rfl) nd_C_clear_22 (fun H locs hP hD hS => ?_)
  have hP : va_P D vwCl (wSC h cA (sU (sU (sU (sU (sU u 5 0 (0 : Int32)) 5 1 (0 : Int32)) 5 2 (0 : Int32)) 5 3 (0 : Int32)) 5 4 (0 : Int32))) H := hP
  have hD : va_D A (wSC h cA (sU (sU (sU (sU (sU u 5 0 (0 : Int32)) 5 1 (0 : Int32)) 5 2 (0 : Int32)) 5 3 (0 : Int32)) 5 4 (0 : Int32))) := hD
  exact my_rv (u' := sU (sU (sU (sU (sU u 5 0 (0 : Int32)) 5 1 (0 : Int32)) 5 2 (0 : Int32)) 5 3 (0 : Int32)) 5 4 (0 : Int32)) hx hb hr hlocks hK hP hD hS hw nd_C_clear_25
set_option maxHeartbeats 4000000 in
set_option maxRecDepth 100000 in
theorem c_M_wordAround (l : Launch) (D : va_G) (h : Nat → Nat) (cA : Nat → ClassId) (u : St) (a1 : Int32) (F : Int32) (hw : f_M_wordAround a1 u = F) : MI nwS vwCl l ny_M_wordAround nw_M_wordAround ({ frames := 1, cells := 0, slots := 0, locals := 20 }) D (tyI cA) (wSC h cA) ([.ref (h 1), .int a1] : List Value) u (F, u) := by
  refine my_in (gw := GW) (cc := nc_M_wordAround) (maxL := 2) (ret := (some .int)) (Qc := fun A => QI vwCl D (tyI cA) (wSC h cA) (F, u) A) (by decide) rfl (Nat.le_of_ble_eq_true rfl) ?_
  intro p e s m below meth c A H locs ls hx hb hml hr hts hown hlocks hK hN hA hP hD hS hl
  have hown : s.vm.findClass nR_M = some m.cls := hown
  have hl : lv_has ls 2 [(0, .ref (h 1)), (1, .int a1)] := hl
  unfold f_M_wordAround at hw
  refine lv_aload_n hx hb nd_M_wordAround_0 rfl (lv_at hl 0 rfl) ?_
  refine va_get (D := D) (ci := 1) (v := .ref (h 2)) (C := nR_M) (T := nT_M) (N := 1) hx hb hts nu_M hown hK hP 1 rfl rfl 0 (by decide) (hts _ gw_20) (fun _ h9 => h9) rfl nd_M_wordAround_1 ?_
  refine lv_iload_n hx hb nd_M_wordAround_4 rfl (lv_at hl 1 rfl) ?_
  refine my_cp (F := f_M_indexOf a1) (va_runS (As := [.int a1]) (rest := [.ref (h 2)]) ⟨hx, hb, hml, hown, hts⟩ (c_M_indexOf l a1 _ rfl) ⟨callB_of 1 hts (gw_in gw_169) rfl rfl rfl (hts _ gw_2) (hts _ gw_167) nh_M_indexOf ⟨Nat.le_of_ble_eq_true rfl, Nat.le_of_ble_eq_true rfl⟩, (hts _ gw_168)⟩ my_preP rfl rfl hl.1 rfl (lv_room (Nat.le_of_ble_eq_true rfl)) nd_M_wordAround_5 ⟨Nat.le_of_ble_eq_true rfl, Nat.le_of_ble_eq_true rfl⟩) hP hS (fun H locs hP hS => ?_)
  refine va_iald hx hb hK hP 2 0 rfl rfl (my_idx _) nd_M_wordAround_8 ?_
  exact my_ri (u' := u) (v := (u 2) (f_M_indexOf a1).toNatClampNeg) hx hb hr hlocks hK hP hD hS (congrArg (fun z9 => (z9, u)) hw) nd_M_wordAround_9
set_option maxHeartbeats 4000000 in
set_option maxRecDepth 100000 in
theorem c_M_replaceWord (l : Launch) (D : va_G) (h : Nat → Nat) (cA : Nat → ClassId) (u : St) (a1 : Int32) (a2 : Int32) (F : St) (hw : f_M_replaceWord a1 a2 u = F) : MV nwS vwCl l ny_M_replaceWord nw_M_replaceWord ({ frames := 1, cells := 0, slots := 0, locals := 20 }) D (tyI cA) (wSC h cA) ([.ref (h 1), .int a1, .int a2] : List Value) u F := by
  refine my_in (gw := GW) (cc := nc_M_replaceWord) (maxL := 3) (ret := none) (Qc := fun A => QV vwCl D (tyI cA) (wSC h cA) F A) (by decide) rfl (Nat.le_of_ble_eq_true rfl) ?_
  intro p e s m below meth c A H locs ls hx hb hml hr hts hown hlocks hK hN hA hP hD hS hl
  have hown : s.vm.findClass nR_M = some m.cls := hown
  have hl : lv_has ls 3 [(0, .ref (h 1)), (1, .int a1), (2, .int a2)] := hl
  unfold f_M_replaceWord at hw
  refine lv_aload_n hx hb nd_M_replaceWord_0 rfl (lv_at hl 0 rfl) ?_
  refine va_get (D := D) (ci := 1) (v := .ref (h 2)) (C := nR_M) (T := nT_M) (N := 1) hx hb hts nu_M hown hK hP 1 rfl rfl 0 (by decide) (hts _ gw_20) (fun _ h9 => h9) rfl nd_M_replaceWord_1 ?_
  refine lv_iload_n hx hb nd_M_replaceWord_4 rfl (lv_at hl 1 rfl) ?_
  refine my_cp (F := f_M_indexOf a1) (va_runS (As := [.int a1]) (rest := [.ref (h 2)]) ⟨hx, hb, hml, hown, hts⟩ (c_M_indexOf l a1 _ rfl) ⟨callB_of 1 hts (gw_in gw_169) rfl rfl rfl (hts _ gw_2) (hts _ gw_167) nh_M_indexOf ⟨Nat.le_of_ble_eq_true rfl, Nat.le_of_ble_eq_true rfl⟩, (hts _ gw_168)⟩ my_preP rfl rfl hl.1 rfl (lv_room (Nat.le_of_ble_eq_true rfl)) nd_M_replaceWord_5 ⟨Nat.le_of_ble_eq_true rfl, Nat.le_of_ble_eq_true rfl⟩) hP hS (fun H locs hP hS => ?_)
  refine lv_iload_n hx hb nd_M_replaceWord_8 rfl (lv_at hl 2 rfl) ?_
  refine va_iast hx hb hK hP hD hS 2 0 rfl rfl (my_idx _) nd_M_replaceWord_9 (fun H locs hP hD hS => ?_)
  have hP : va_P D vwCl (wSC h cA (sU u 2 ((f_M_indexOf a1).toNatClampNeg) a2)) H := hP
  have hD : va_D A (wSC h cA (sU u 2 ((f_M_indexOf a1).toNatClampNeg) a2)) := hD
  exact my_rv (u' := sU u 2 ((f_M_indexOf a1).toNatClampNeg) a2) hx hb hr hlocks hK hP hD hS hw nd_M_replaceWord_10
set_option maxHeartbeats 4000000 in
set_option maxRecDepth 100000 in
theorem c_R_valueOf (l : Launch) (D : va_G) (h : Nat → Nat) (cA : Nat → ClassId) (u : St) (a1 : Int32) (F : Int32) (hw : f_R_valueOf a1 u = F) : MI nwS vwCl l ny_R_valueOf nw_R_valueOf ({ frames := 0, cells := 0, slots := 0, locals := 0 }) D (tyI cA) (wSC h cA) ([.ref (h 3), .int a1] : List Value) u (F, u) := by
  refine my_in (gw := GW) (cc := nc_R_valueOf) (maxL := 2) (ret := (some .int)) (Qc := fun A => QI vwCl D (tyI cA) (wSC h cA) (F, u) A) (by decide) rfl (Nat.le_of_ble_eq_true rfl) ?_
  intro p e s m below meth c A H locs ls hx hb hml hr hts hown hlocks hK hN hA hP hD hS hl
  have hown : s.vm.findClass nR_R = some m.cls := hown
  have hl : lv_has ls 2 [(0, .ref (h 3)), (1, .int a1)] := hl
  unfold f_R_valueOf at hw
  refine lv_iload_n hx hb nd_R_valueOf_0 rfl (lv_at hl 1 rfl) ?_
  refine lv_if_lt (tgt := 19) hx hb nd_R_valueOf_1 (by decide) (fun h1 => ?_) (fun h1 => ?_)
  · have hw := (if_pos h1).symm.trans hw
    refine lv_iconst (v := (0 : Int32)) hx hb nd_R_valueOf_19 (by decide) ?_
    exact my_ri (u' := u) (v := (0 : Int32)) hx hb hr hlocks hK hP hD hS (congrArg (fun z9 => (z9, u)) hw) nd_R_valueOf_20
  have hw := (if_neg h1).symm.trans hw
  refine lv_iload_n hx hb nd_R_valueOf_4 rfl (lv_at hl 1 rfl) ?_
  refine lv_bipush (v := (34 : Int32)) hx hb nd_R_valueOf_5 (by decide) ?_
  refine lv_icmp_ge (tgt := 19) hx hb nd_R_valueOf_7 (by decide) (fun h7 => ?_) (fun h7 => ?_)
  · have hw := (if_pos h7).symm.trans hw
    refine lv_iconst (v := (0 : Int32)) hx hb nd_R_valueOf_19 (by decide) ?_
    exact my_ri (u' := u) (v := (0 : Int32)) hx hb hr hlocks hK hP hD hS (congrArg (fun z9 => (z9, u)) hw) nd_R_valueOf_20
  have hw := (if_neg h7).symm.trans hw
  refine lv_aload_n hx hb nd_R_valueOf_10 rfl (lv_at hl 0 rfl) ?_
  refine va_get (D := D) (ci := 2) (v := .ref (h 4)) (C := nR_R) (T := nT_R) (N := 3) hx hb hts nu_R hown hK hP 3 rfl rfl 0 (by decide) (hts _ gw_28) (fun _ h9 => h9) rfl nd_R_valueOf_11 ?_
  refine lv_iload_n hx hb nd_R_valueOf_14 rfl (lv_at hl 1 rfl) ?_
  refine va_iald hx hb hK hP 4 1 rfl rfl (my_in34 h1 h7) nd_R_valueOf_15 ?_
  refine lv_goto (tgt := 20) hx hb nd_R_valueOf_16 (by decide) ?_
  exact my_ri (u' := u) (v := (u 4) a1.toNatClampNeg) hx hb hr hlocks hK hP hD hS (congrArg (fun z9 => (z9, u)) hw) nd_R_valueOf_20
set_option maxHeartbeats 4000000 in
set_option maxRecDepth 100000 in
theorem c_R_change (l : Launch) (D : va_G) (h : Nat → Nat) (cA : Nat → ClassId) (u : St) (a1 : Int32) (a2 : Int32) (F : St) (hw : f_R_change a1 a2 u = F) : MV nwS vwCl l ny_R_change nw_R_change ({ frames := 0, cells := 0, slots := 0, locals := 0 }) D (tyI cA) (wSC h cA) ([.ref (h 3), .int a1, .int a2] : List Value) u F := by
  refine my_in (gw := GW) (cc := nc_R_change) (maxL := 3) (ret := none) (Qc := fun A => QV vwCl D (tyI cA) (wSC h cA) F A) (by decide) rfl (Nat.le_of_ble_eq_true rfl) ?_
  intro p e s m below meth c A H locs ls hx hb hml hr hts hown hlocks hK hN hA hP hD hS hl
  have hown : s.vm.findClass nR_R = some m.cls := hown
  have hl : lv_has ls 3 [(0, .ref (h 3)), (1, .int a1), (2, .int a2)] := hl
  unfold f_R_change at hw
  refine lv_iload_n hx hb nd_R_change_0 rfl (lv_at hl 1 rfl) ?_
  refine lv_if_le (tgt := 17) hx hb nd_R_change_1 (by decide) (fun h1 => ?_) (fun h1 => ?_)
  · have hw := (if_pos h1).symm.trans hw
    exact my_rv (u' := u) hx hb hr hlocks hK hP hD hS hw nd_R_change_17
  have hw := (if_neg h1).symm.trans hw
  refine lv_iload_n hx hb nd_R_change_4 rfl (lv_at hl 1 rfl) ?_
  refine lv_bipush (v := (34 : Int32)) hx hb nd_R_change_5 (by decide) ?_
  refine lv_icmp_ge (tgt := 17) hx hb nd_R_change_7 (by decide) (fun h7 => ?_) (fun h7 => ?_)
  · have hw := (if_pos h7).symm.trans hw
    exact my_rv (u' := u) hx hb hr hlocks hK hP hD hS hw nd_R_change_17
  have hw := (if_neg h7).symm.trans hw
  refine lv_aload_n hx hb nd_R_change_10 rfl (lv_at hl 0 rfl) ?_
  refine va_get (D := D) (ci := 2) (v := .ref (h 4)) (C := nR_R) (T := nT_R) (N := 3) hx hb hts nu_R hown hK hP 3 rfl rfl 0 (by decide) (hts _ gw_28) (fun _ h9 => h9) rfl nd_R_change_11 ?_
  refine lv_iload_n hx hb nd_R_change_14 rfl (lv_at hl 1 rfl) ?_
  refine lv_iload_n hx hb nd_R_change_15 rfl (lv_at hl 2 rfl) ?_
  refine va_iast hx hb hK hP hD hS 4 1 rfl rfl (my_in34p h1 h7) nd_R_change_16 (fun H locs hP hD hS => ?_)
  have hP : va_P D vwCl (wSC h cA (sU u 4 a1.toNatClampNeg a2)) H := hP
  have hD : va_D A (wSC h cA (sU u 4 a1.toNatClampNeg a2)) := hD
  exact my_rv (u' := sU u 4 a1.toNatClampNeg a2) hx hb hr hlocks hK hP hD hS hw nd_R_change_17
set_option maxHeartbeats 4000000 in
set_option maxRecDepth 100000 in
theorem c_C_change (l : Launch) (D : va_G) (h : Nat → Nat) (cA : Nat → ClassId) (u : St) (a1 : Int32) (a2 : Int32) (F : St) (hw : f_C_change a1 a2 u = F) : MV nwS vwCl l ny_C_change nw_C_change ({ frames := 1, cells := 0, slots := 0, locals := 22 }) D (tyI cA) (wSC h cA) ([.ref (h 5), .int a1, .int a2] : List Value) u F := by
  refine my_in (gw := GW) (cc := nc_C_change) (maxL := 3) (ret := none) (Qc := fun A => QV vwCl D (tyI cA) (wSC h cA) F A) (by decide) rfl (Nat.le_of_ble_eq_true rfl) ?_
  intro p e s m below meth c A H locs ls hx hb hml hr hts hown hlocks hK hN hA hP hD hS hl
  have hown : s.vm.findClass nR_C = some m.cls := hown
  have hl : lv_has ls 3 [(0, .ref (h 5)), (1, .int a1), (2, .int a2)] := hl
  unfold f_C_change at hw
  refine lv_iload_n hx hb nd_C_change_0 rfl (lv_at hl 1 rfl) ?_
  rcases my_em (x := a1) (12 : Int32) with h1_12 | h1_12
  · have hw := (if_pos h1_12).symm.trans hw
    refine my_swi (tgt := 28) hx hb nd_C_change_1 h1_12 (by decide) (by decide) rfl (by decide) ?_
    refine lv_aload_n hx hb nd_C_change_28 rfl (lv_at hl 0 rfl) ?_
    refine lv_iload_n hx hb nd_C_change_29 rfl (lv_at hl 2 rfl) ?_
    refine lv_ldc (own := nR_C) (v := (65343 : Int32)) hx hb hown (hts _ gw_114) nd_C_change_30 ?_
    refine lv_iand hx hb nd_C_change_32 ?_
    refine va_put (D := D) (ci := 3) (v := .int (a2 &&& (65343 : Int32))) (ty := .int) (C := nR_C) (T := nT_C) (N := 5) hx hb hts nu_C nt_C nto_C nn_C hown hK hP hD hS 5 rfl rfl 0 (by decide) (hts _ gw_39) (fun _ h9 => h9) rfl (by decide +kernel) rfl rfl (Nat.le_of_ble_eq_true rfl) nd_C_change_33 (fun H locs hP hD hS => ?_)
    have hP : va_P D vwCl (wSC h cA (sU u 5 0 (a2 &&& (65343 : Int32)))) H := hP
    have hD : va_D A (wSC h cA (sU u 5 0 (a2 &&& (65343 : Int32)))) := hD
    refine lv_goto (tgt := 65) hx hb nd_C_change_36 (by decide) ?_
    exact my_rv (u' := sU u 5 0 (a2 &&& (65343 : Int32))) hx hb hr hlocks hK hP hD hS hw nd_C_change_65
  have hw := (if_neg h1_12).symm.trans hw
  rcases my_em (x := a1) (13 : Int32) with h1_13 | h1_13
  · have hw := (if_pos h1_13).symm.trans hw
    refine my_swi (tgt := 39) hx hb nd_C_change_1 h1_13 (by decide) (by decide) rfl (by decide) ?_
    refine lv_aload_n hx hb nd_C_change_39 rfl (lv_at hl 0 rfl) ?_
    refine lv_aload_n hx hb nd_C_change_40 rfl (lv_at hl 0 rfl) ?_
    refine va_get (D := D) (ci := 3) (v := .int (u 5 1)) (C := nR_C) (T := nT_C) (N := 5) hx hb hts nu_C hown hK hP 5 rfl rfl 1 (by decide) (hts _ gw_40) (fun _ h9 => h9) rfl nd_C_change_41 ?_
    refine lv_iload_n hx hb nd_C_change_44 rfl (lv_at hl 2 rfl) ?_
    refine lv_sipush (v := (768 : Int32)) hx hb nd_C_change_45 (by decide) ?_
    refine my_cp (F := f_S_exchange (u 5 1) a2 (768 : Int32)) (va_runSN (As := [.int (u 5 1), .int a2, .int (768 : Int32)]) (rest := [.ref (h 5)]) ⟨hx, hb, hml, hown, hts⟩ (c_S_exchange l (u 5 1) a2 (768 : Int32) _ rfl) ⟨va_cnB 3 hts (gw_in gw_116) rfl rfl rfl (hN _ nm_19) (hts _ gw_1) nh_S_exchange ⟨Nat.le_of_ble_eq_true rfl, Nat.le_of_ble_eq_true rfl⟩, (hts _ gw_115), trivial⟩ my_preP rfl rfl hl.1 rfl (lv_room (Nat.le_of_ble_eq_true rfl)) nd_C_change_48 ⟨Nat.le_of_ble_eq_true rfl, Nat.le_of_ble_eq_true rfl⟩) hP hS (fun H locs hP hS => ?_)
    refine va_put (D := D) (ci := 3) (v := .int (f_S_exchange (u 5 1) a2 (768 : Int32))) (ty := .int) (C := nR_C) (T := nT_C) (N := 5) hx hb hts nu_C nt_C nto_C nn_C hown hK hP hD hS 5 rfl rfl 1 (by decide) (hts _ gw_40) (fun _ h9 => h9) rfl (by decide +kernel) rfl rfl (Nat.le_of_ble_eq_true rfl) nd_C_change_51 (fun H locs hP hD hS => ?_)
    have hP : va_P D vwCl (wSC h cA (sU u 5 1 (f_S_exchange (u 5 1) a2 (768 : Int32)))) H := hP
    have hD : va_D A (wSC h cA (sU u 5 1 (f_S_exchange (u 5 1) a2 (768 : Int32)))) := hD
    refine lv_goto (tgt := 65) hx hb nd_C_change_54 (by decide) ?_
    exact my_rv (u' := sU u 5 1 (f_S_exchange (u 5 1) a2 (768 : Int32))) hx hb hr hlocks hK hP hD hS hw nd_C_change_65
  have hw := (if_neg h1_13).symm.trans hw
  rcases my_em (x := a1) (14 : Int32) with h1_14 | h1_14
  · have hw := (if_pos h1_14).symm.trans hw
    refine my_swi (tgt := 57) hx hb nd_C_change_1 h1_14 (by decide) (by decide) rfl (by decide) ?_
    refine lv_aload_n hx hb nd_C_change_57 rfl (lv_at hl 0 rfl) ?_
    refine lv_iload_n hx hb nd_C_change_58 rfl (lv_at hl 2 rfl) ?_
    refine va_put (D := D) (ci := 3) (v := .int a2) (ty := .int) (C := nR_C) (T := nT_C) (N := 5) hx hb hts nu_C nt_C nto_C nn_C hown hK hP hD hS 5 rfl rfl 3 (by decide) (hts _ gw_42) (fun _ h9 => h9) rfl (by decide +kernel) rfl rfl (Nat.le_of_ble_eq_true rfl) nd_C_change_59 (fun H locs hP hD hS => ?_)
    have hP : va_P D vwCl (wSC h cA (sU u 5 3 a2)) H := hP
    have hD : va_D A (wSC h cA (sU u 5 3 a2)) := hD
    refine lv_goto (tgt := 65) hx hb nd_C_change_62 (by decide) ?_
    exact my_rv (u' := sU u 5 3 a2) hx hb hr hlocks hK hP hD hS hw nd_C_change_65
  have hw := (if_neg h1_14).symm.trans hw
  refine my_swd (tgt := 65) hx hb nd_C_change_1 (my_nec h1_12 (my_nec h1_13 (my_nec h1_14 my_nen))) (by decide +kernel) (by decide) ?_
  exact my_rv (u' := u) hx hb hr hlocks hK hP hD hS hw nd_C_change_65
set_option maxHeartbeats 4000000 in
set_option maxRecDepth 100000 in
theorem c_C_wholeCause (l : Launch) (D : va_G) (h : Nat → Nat) (cA : Nat → ClassId) (u : St) (F : Int32) (hw : f_C_wholeCause u = F) : MI nwS vwCl l ny_C_wholeCause nw_C_wholeCause ({ frames := 0, cells := 0, slots := 0, locals := 0 }) D (tyI cA) (wSC h cA) ([.ref (h 5)] : List Value) u (F, u) := by
  refine my_in (gw := GW) (cc := nc_C_wholeCause) (maxL := 1) (ret := (some .int)) (Qc := fun A => QI vwCl D (tyI cA) (wSC h cA) (F, u) A) (by decide) rfl (Nat.le_of_ble_eq_true rfl) ?_
  intro p e s m below meth c A H locs ls hx hb hml hr hts hown hlocks hK hN hA hP hD hS hl
  have hown : s.vm.findClass nR_C = some m.cls := hown
  have hl : lv_has ls 1 [(0, .ref (h 5))] := hl
  unfold f_C_wholeCause at hw
  refine lv_aload_n hx hb nd_C_wholeCause_0 rfl (lv_at hl 0 rfl) ?_
  refine va_get (D := D) (ci := 3) (v := .int (u 5 1)) (C := nR_C) (T := nT_C) (N := 5) hx hb hts nu_C hown hK hP 5 rfl rfl 1 (by decide) (hts _ gw_40) (fun _ h9 => h9) rfl nd_C_wholeCause_1 ?_
  refine lv_aload_n hx hb nd_C_wholeCause_4 rfl (lv_at hl 0 rfl) ?_
  refine va_get (D := D) (ci := 3) (v := .int (u 5 2)) (C := nR_C) (T := nT_C) (N := 5) hx hb hts nu_C hown hK hP 5 rfl rfl 2 (by decide) (hts _ gw_41) (fun _ h9 => h9) rfl nd_C_wholeCause_5 ?_
  refine lv_bipush (v := (10 : Int32)) hx hb nd_C_wholeCause_8 (by decide) ?_
  refine lv_ishl hx hb nd_C_wholeCause_10 ?_
  refine lv_ior hx hb nd_C_wholeCause_11 ?_
  exact my_ri (u' := u) (v := (u 5 1) ||| ((u 5 2) <<< ((10 : Int32) &&& 31))) hx hb hr hlocks hK hP hD hS (congrArg (fun z9 => (z9, u)) hw) nd_C_wholeCause_12
set_option maxHeartbeats 4000000 in
set_option maxRecDepth 100000 in
theorem c_C_interruptIsDue (l : Launch) (D : va_G) (h : Nat → Nat) (cA : Nat → ClassId) (u : St) (F : Int32) (hw : f_C_interruptIsDue u = F) : MI nwS vwCl l ny_C_interruptIsDue nw_C_interruptIsDue ({ frames := 1, cells := 0, slots := 0, locals := 20 }) D (tyI cA) (wSC h cA) ([.ref (h 5)] : List Value) u (zb F, u) := by
  refine my_in (gw := GW) (cc := nc_C_interruptIsDue) (maxL := 1) (ret := (some .boolean)) (Qc := fun A => QI vwCl D (tyI cA) (wSC h cA) (zb F, u) A) (by decide) rfl (Nat.le_of_ble_eq_true rfl) ?_
  intro p e s m below meth c A H locs ls hx hb hml hr hts hown hlocks hK hN hA hP hD hS hl
  have hown : s.vm.findClass nR_C = some m.cls := hown
  have hl : lv_has ls 1 [(0, .ref (h 5))] := hl
  unfold f_C_interruptIsDue at hw
  refine lv_aload_n hx hb nd_C_interruptIsDue_0 rfl (lv_at hl 0 rfl) ?_
  refine va_get (D := D) (ci := 3) (v := .int (u 5 0)) (C := nR_C) (T := nT_C) (N := 5) hx hb hts nu_C hown hK hP 5 rfl rfl 0 (by decide) (hts _ gw_39) (fun _ h9 => h9) rfl nd_C_interruptIsDue_1 ?_
  refine lv_iconst (v := (1 : Int32)) hx hb nd_C_interruptIsDue_4 (by decide) ?_
  refine lv_iand hx hb nd_C_interruptIsDue_5 ?_
  refine lv_if_eq (tgt := 28) hx hb nd_C_interruptIsDue_6 (by decide) (fun h6 => ?_) (fun h6 => ?_)
  · have hw := (if_pos h6).symm.trans hw
    refine lv_iconst (v := (0 : Int32)) hx hb nd_C_interruptIsDue_28 (by decide) ?_
    exact my_rzo (u' := u) (x := (0 : Int32)) hx hb hr hlocks hK hP hD hS hw rfl nd_C_interruptIsDue_29
  have hw := (if_neg h6).symm.trans hw
  refine lv_aload_n hx hb nd_C_interruptIsDue_9 rfl (lv_at hl 0 rfl) ?_
  refine my_ci (wd := wSC h cA) (r := f_C_wholeCause u) (u' := u) (va_runV (As := []) (rest := []) ⟨hx, hb, hml, hown, hts⟩ (c_C_wholeCause l D h cA u _ rfl _) ⟨callB_of 0 hts (gw_in gw_131) rfl rfl rfl (hts _ gw_4) (hts _ gw_128) nh_C_wholeCause ⟨Nat.le_of_ble_eq_true rfl, Nat.le_of_ble_eq_true rfl⟩, (hts _ gw_130), (hts _ gw_129)⟩ (my_preV nwOk hP hK hD hN (va_recv hK hP (ci := 3) (q0 := 5) rfl rfl)) rfl rfl hl.1 rfl (lv_room (Nat.le_of_ble_eq_true rfl)) nd_C_interruptIsDue_10 ⟨Nat.le_of_ble_eq_true rfl, Nat.le_of_ble_eq_true rfl⟩) hD hS hA (fun H locs hP hD hS => ?_)
  refine lv_aload_n hx hb nd_C_interruptIsDue_13 rfl (lv_at hl 0 rfl) ?_
  refine va_get (D := D) (ci := 3) (v := .int (u 5 0)) (C := nR_C) (T := nT_C) (N := 5) hx hb hts nu_C hown hK hP 5 rfl rfl 0 (by decide) (hts _ gw_39) (fun _ h9 => h9) rfl nd_C_interruptIsDue_14 ?_
  refine lv_iand hx hb nd_C_interruptIsDue_17 ?_
  refine lv_ldc (own := nR_C) (v := (65280 : Int32)) hx hb hown (hts _ gw_132) nd_C_interruptIsDue_18 ?_
  refine lv_iand hx hb nd_C_interruptIsDue_20 ?_
  refine lv_if_eq (tgt := 28) hx hb nd_C_interruptIsDue_21 (by decide) (fun h21 => ?_) (fun h21 => ?_)
  · have hw := (if_pos h21).symm.trans hw
    refine lv_iconst (v := (0 : Int32)) hx hb nd_C_interruptIsDue_28 (by decide) ?_
    exact my_rzo (u' := u) (x := (0 : Int32)) hx hb hr hlocks hK hP hD hS hw rfl nd_C_interruptIsDue_29
  have hw := (if_neg h21).symm.trans hw
  refine lv_iconst (v := (1 : Int32)) hx hb nd_C_interruptIsDue_24 (by decide) ?_
  refine lv_goto (tgt := 29) hx hb nd_C_interruptIsDue_25 (by decide) ?_
  exact my_rzo (u' := u) (x := (1 : Int32)) hx hb hr hlocks hK hP hD hS hw rfl nd_C_interruptIsDue_29
set_option maxHeartbeats 4000000 in
set_option maxRecDepth 100000 in
theorem c_R_landLoad (l : Launch) (D : va_G) (h : Nat → Nat) (cA : Nat → ClassId) (u : St) (F : St) (hw : f_R_landLoad u = F) : MV nwS vwCl l ny_R_landLoad nw_R_landLoad ({ frames := 2, cells := 0, slots := 0, locals := 42 }) D (tyI cA) (wSC h cA) ([.ref (h 3)] : List Value) u F := by
  refine my_in (gw := GW) (cc := nc_R_landLoad) (maxL := 1) (ret := none) (Qc := fun A => QV vwCl D (tyI cA) (wSC h cA) F A) (by decide) rfl (Nat.le_of_ble_eq_true rfl) ?_
  intro p e s m below meth c A H locs ls hx hb hml hr hts hown hlocks hK hN hA hP hD hS hl
  have hown : s.vm.findClass nR_R = some m.cls := hown
  have hl : lv_has ls 1 [(0, .ref (h 3))] := hl
  unfold f_R_landLoad at hw
  refine lv_aload_n hx hb nd_R_landLoad_0 rfl (lv_at hl 0 rfl) ?_
  refine lv_aload_n hx hb nd_R_landLoad_1 rfl (lv_at hl 0 rfl) ?_
  refine va_get (D := D) (ci := 2) (v := .int (u 3 1)) (C := nR_R) (T := nT_R) (N := 3) hx hb hts nu_R hown hK hP 3 rfl rfl 1 (by decide) (hts _ gw_29) (fun _ h9 => h9) rfl nd_R_landLoad_2 ?_
  refine lv_aload_n hx hb nd_R_landLoad_5 rfl (lv_at hl 0 rfl) ?_
  refine va_get (D := D) (ci := 2) (v := .int (u 3 2)) (C := nR_R) (T := nT_R) (N := 3) hx hb hts nu_R hown hK hP 3 rfl rfl 2 (by decide) (hts _ gw_30) (fun _ h9 => h9) rfl nd_R_landLoad_6 ?_
  obtain ⟨u9, hq9, hw⟩ := bnv_i hw
  refine my_cv (wd := wSC h cA) (F := u9) (va_runV (As := [.int (u 3 1), .int (u 3 2)]) (rest := []) ⟨hx, hb, hml, hown, hts⟩ (c_R_change l D h cA u (u 3 1) (u 3 2) u9 hq9 _) ⟨callB_of 2 hts (gw_in gw_143) rfl rfl rfl (hts _ gw_3) (hts _ gw_140) nh_R_change ⟨Nat.le_of_ble_eq_true rfl, Nat.le_of_ble_eq_true rfl⟩, (hts _ gw_142), (hts _ gw_141)⟩ (my_preV nwOk hP hK hD hN (va_recv hK hP (ci := 2) (q0 := 3) rfl rfl)) rfl rfl hl.1 rfl (lv_room (Nat.le_of_ble_eq_true rfl)) nd_R_landLoad_9 ⟨Nat.le_of_ble_eq_true rfl, Nat.le_of_ble_eq_true rfl⟩) hD hS hA (fun H locs hP hD hS => ?_)
  refine lv_aload_n hx hb nd_R_landLoad_12 rfl (lv_at hl 0 rfl) ?_
  obtain ⟨u13, hq13, hw⟩ := bnv_i hw
  refine my_cv (wd := wSC h cA) (F := u13) (va_runV (As := []) (rest := []) ⟨hx, hb, hml, hown, hts⟩ (c_R_dropLoad l D h cA u9 u13 hq13 _) ⟨callB_of 0 hts (gw_in gw_91) rfl rfl rfl (hts _ gw_3) (hts _ gw_88) nh_R_dropLoad ⟨Nat.le_of_ble_eq_true rfl, Nat.le_of_ble_eq_true rfl⟩, (hts _ gw_90), (hts _ gw_89)⟩ (my_preV nwOk hP hK hD hN (va_recv hK hP (ci := 2) (q0 := 3) rfl rfl)) rfl rfl hl.1 rfl (lv_room (Nat.le_of_ble_eq_true rfl)) nd_R_landLoad_13 ⟨Nat.le_of_ble_eq_true rfl, Nat.le_of_ble_eq_true rfl⟩) hD hS hA (fun H locs hP hD hS => ?_)
  exact my_rv (u' := u13) hx hb hr hlocks hK hP hD hS hw nd_R_landLoad_16
set_option maxHeartbeats 4000000 in
set_option maxRecDepth 100000 in
theorem c_C_enter (l : Launch) (D : va_G) (h : Nat → Nat) (cA : Nat → ClassId) (u : St) (a1 : Int32) (a2 : Int32) (a3 : Int32) (F : St) (hw : f_C_enter a1 a2 a3 u = F) : MV nwS vwCl l ny_C_enter nw_C_enter ({ frames := 1, cells := 0, slots := 0, locals := 22 }) D (tyI cA) (wSC h cA) ([.ref (h 5), .int a1, .int a2, .int (zb a3)] : List Value) u F := by
  refine my_in (gw := GW) (cc := nc_C_enter) (maxL := 4) (ret := none) (Qc := fun A => QV vwCl D (tyI cA) (wSC h cA) F A) (by decide) rfl (Nat.le_of_ble_eq_true rfl) ?_
  intro p e s m below meth c A H locs ls hx hb hml hr hts hown hlocks hK hN hA hP hD hS hl
  have hown : s.vm.findClass nR_C = some m.cls := hown
  have hl : lv_has ls 4 [(0, .ref (h 5)), (1, .int a1), (2, .int a2), (3, .int (zb a3))] := hl
  have J28 : ∀ (y0 : Int32) (y1 : Int32) (u : St) (H : Heap) (locs : List Loc) (ls : Array Slot), va_P D vwCl (wSC h cA u) H → va_D A (wSC h cA u) → va_S A s.heap H locs → lv_has ls 4 [(0, .ref (h 5))] → f_C_enter_b28 y0 y1 u = F →
      W p l e (headSpec nw_C_enter ({ frames := 1, cells := 0, slots := 0, locals := 22 })).room s m ([.ref (h 5), .int a1, .int a2, .int (zb a3)] : List Value).toArray below meth c H locs 0 0 (MQ below (QV vwCl D (tyI cA) (wSC h cA) F A) ([.ref (h 5), .int a1, .int a2, .int (zb a3)] : List Value).toArray s 0 0 A) (F0 m 28 ls [.int y0, .int y1, .ref (h 5)]) := by
    intro y0 y1 u H locs ls hP hD hS hl hw
    unfold f_C_enter_b28 at hw
    refine lv_ior hx hb nd_C_enter_28 ?_
    refine va_put (D := D) (ci := 3) (v := .int (y1 ||| y0)) (ty := .int) (C := nR_C) (T := nT_C) (N := 5) hx hb hts nu_C nt_C nto_C nn_C hown hK hP hD hS 5 rfl rfl 1 (by decide) (hts _ gw_40) (fun _ h9 => h9) rfl (by decide +kernel) rfl rfl (Nat.le_of_ble_eq_true rfl) nd_C_enter_29 (fun H locs hP hD hS => ?_)
    have hP : va_P D vwCl (wSC h cA (sU u 5 1 (y1 ||| y0))) H := hP
    have hD : va_D A (wSC h cA (sU u 5 1 (y1 ||| y0))) := hD
    refine lv_aload_n hx hb nd_C_enter_32 rfl (lv_at hl 0 rfl) ?_
    refine lv_aload_n hx hb nd_C_enter_33 rfl (lv_at hl 0 rfl) ?_
    refine va_get (D := D) (ci := 3) (v := .int (u 5 0)) (C := nR_C) (T := nT_C) (N := 5) hx hb hts nu_C hown hK hP 5 rfl rfl 0 (by decide) (hts _ gw_39) (fun _ h9 => h9) rfl nd_C_enter_34 ?_
    refine lv_aload_n hx hb nd_C_enter_37 rfl (lv_at hl 0 rfl) ?_
    refine va_get (D := D) (ci := 3) (v := .int (u 5 0)) (C := nR_C) (T := nT_C) (N := 5) hx hb hts nu_C hown hK hP 5 rfl rfl 0 (by decide) (hts _ gw_39) (fun _ h9 => h9) rfl nd_C_enter_38 ?_
    refine lv_iconst (v := (2 : Int32)) hx hb nd_C_enter_41 (by decide) ?_
    refine lv_ishl hx hb nd_C_enter_42 ?_
    refine lv_bipush (v := (63 : Int32)) hx hb nd_C_enter_43 (by decide) ?_
    refine my_cp (F := f_S_exchange (u 5 0) ((u 5 0) <<< ((2 : Int32) &&& 31)) (63 : Int32)) (va_runSN (As := [.int (u 5 0), .int ((u 5 0) <<< ((2 : Int32) &&& 31)), .int (63 : Int32)]) (rest := [.ref (h 5)]) ⟨hx, hb, hml, hown, hts⟩ (c_S_exchange l (u 5 0) ((u 5 0) <<< ((2 : Int32) &&& 31)) (63 : Int32) _ rfl) ⟨va_cnB 3 hts (gw_in gw_116) rfl rfl rfl (hN _ nm_19) (hts _ gw_1) nh_S_exchange ⟨Nat.le_of_ble_eq_true rfl, Nat.le_of_ble_eq_true rfl⟩, (hts _ gw_115), trivial⟩ my_preP rfl rfl hl.1 rfl (lv_room (Nat.le_of_ble_eq_true rfl)) nd_C_enter_45 ⟨Nat.le_of_ble_eq_true rfl, Nat.le_of_ble_eq_true rfl⟩) hP hS (fun H locs hP hS => ?_)
    refine va_put (D := D) (ci := 3) (v := .int (f_S_exchange (u 5 0) ((u 5 0) <<< ((2 : Int32) &&& 31)) (63 : Int32))) (ty := .int) (C := nR_C) (T := nT_C) (N := 5) hx hb hts nu_C nt_C nto_C nn_C hown hK hP hD hS 5 rfl rfl 0 (by decide) (hts _ gw_39) (fun _ h9 => h9) rfl (by decide +kernel) rfl rfl (Nat.le_of_ble_eq_true rfl) nd_C_enter_48 (fun H locs hP hD hS => ?_)
    have hP : va_P D vwCl (wSC h cA (sU (sU u 5 1 (y1 ||| y0)) 5 0 (f_S_exchange (u 5 0) ((u 5 0) <<< ((2 : Int32) &&& 31)) (63 : Int32)))) H := hP
    have hD : va_D A (wSC h cA (sU (sU u 5 1 (y1 ||| y0)) 5 0 (f_S_exchange (u 5 0) ((u 5 0) <<< ((2 : Int32) &&& 31)) (63 : Int32)))) := hD
    exact my_rv (u' := sU (sU u 5 1 (y1 ||| y0)) 5 0 (f_S_exchange (u 5 0) ((u 5 0) <<< ((2 : Int32) &&& 31)) (63 : Int32))) hx hb hr hlocks hK hP hD hS hw nd_C_enter_51
  unfold f_C_enter at hw
  refine lv_aload_n hx hb nd_C_enter_0 rfl (lv_at hl 0 rfl) ?_
  refine lv_iload_n hx hb nd_C_enter_1 rfl (lv_at hl 2 rfl) ?_
  refine va_put (D := D) (ci := 3) (v := .int a2) (ty := .int) (C := nR_C) (T := nT_C) (N := 5) hx hb hts nu_C nt_C nto_C nn_C hown hK hP hD hS 5 rfl rfl 3 (by decide) (hts _ gw_42) (fun _ h9 => h9) rfl (by decide +kernel) rfl rfl (Nat.le_of_ble_eq_true rfl) nd_C_enter_2 (fun H locs hP hD hS => ?_)
  have hP : va_P D vwCl (wSC h cA (sU u 5 3 a2)) H := hP
  have hD : va_D A (wSC h cA (sU u 5 3 a2)) := hD
  refine lv_aload_n hx hb nd_C_enter_5 rfl (lv_at hl 0 rfl) ?_
  refine lv_aload_n hx hb nd_C_enter_6 rfl (lv_at hl 0 rfl) ?_
  refine va_get (D := D) (ci := 3) (v := .int (u 5 1)) (C := nR_C) (T := nT_C) (N := 5) hx hb hts nu_C hown hK hP 5 rfl rfl 1 (by decide) (hts _ gw_40) (fun _ h9 => h9) rfl nd_C_enter_7 ?_
  refine lv_sipush (v := (768 : Int32)) hx hb nd_C_enter_10 (by decide) ?_
  refine lv_iand hx hb nd_C_enter_13 ?_
  refine lv_iload_n hx hb nd_C_enter_14 rfl (lv_at hl 1 rfl) ?_
  refine lv_iconst (v := (2 : Int32)) hx hb nd_C_enter_15 (by decide) ?_
  refine lv_ishl hx hb nd_C_enter_16 ?_
  refine lv_ior hx hb nd_C_enter_17 ?_
  refine lv_iload_n hx hb nd_C_enter_18 rfl (lv_at hl 3 rfl) ?_
  refine lv_if_eq (tgt := 27) hx hb nd_C_enter_19 (by decide) (fun h19 => ?_) (fun h19 => ?_)
  · have hw := (if_pos h19).symm.trans hw
    refine lv_iconst (v := (0 : Int32)) hx hb nd_C_enter_27 (by decide) ?_
    exact J28 (0 : Int32) (((u 5 1) &&& (768 : Int32)) ||| (a1 <<< ((2 : Int32) &&& 31))) (sU u 5 3 a2) H locs ls hP hD hS (lv_sub hl [0] rfl) hw
  have hw := (if_neg h19).symm.trans hw
  refine lv_ldc (own := nR_C) (v := (-2147483648 : Int32)) hx hb hown (hts _ gw_147) nd_C_enter_22 ?_
  refine lv_goto (tgt := 28) hx hb nd_C_enter_24 (by decide) ?_
  exact J28 (-2147483648 : Int32) (((u 5 1) &&& (768 : Int32)) ||| (a1 <<< ((2 : Int32) &&& 31))) (sU u 5 3 a2) H locs ls hP hD hS (lv_sub hl [0] rfl) hw
set_option maxHeartbeats 4000000 in
set_option maxRecDepth 100000 in
theorem c_C_isUser (l : Launch) (D : va_G) (h : Nat → Nat) (cA : Nat → ClassId) (u : St) (F : Int32) (hw : f_C_isUser u = F) : MI nwS vwCl l ny_C_isUser nw_C_isUser ({ frames := 0, cells := 0, slots := 0, locals := 0 }) D (tyI cA) (wSC h cA) ([.ref (h 5)] : List Value) u (zb F, u) := by
  refine my_in (gw := GW) (cc := nc_C_isUser) (maxL := 1) (ret := (some .boolean)) (Qc := fun A => QI vwCl D (tyI cA) (wSC h cA) (zb F, u) A) (by decide) rfl (Nat.le_of_ble_eq_true rfl) ?_
  intro p e s m below meth c A H locs ls hx hb hml hr hts hown hlocks hK hN hA hP hD hS hl
  have hown : s.vm.findClass nR_C = some m.cls := hown
  have hl : lv_has ls 1 [(0, .ref (h 5))] := hl
  unfold f_C_isUser at hw
  refine lv_aload_n hx hb nd_C_isUser_0 rfl (lv_at hl 0 rfl) ?_
  refine va_get (D := D) (ci := 3) (v := .int (u 5 0)) (C := nR_C) (T := nT_C) (N := 5) hx hb hts nu_C hown hK hP 5 rfl rfl 0 (by decide) (hts _ gw_39) (fun _ h9 => h9) rfl nd_C_isUser_1 ?_
  refine lv_iconst (v := (2 : Int32)) hx hb nd_C_isUser_4 (by decide) ?_
  refine lv_iand hx hb nd_C_isUser_5 ?_
  refine lv_if_eq (tgt := 13) hx hb nd_C_isUser_6 (by decide) (fun h6 => ?_) (fun h6 => ?_)
  · have hw := (if_pos h6).symm.trans hw
    refine lv_iconst (v := (0 : Int32)) hx hb nd_C_isUser_13 (by decide) ?_
    exact my_rzo (u' := u) (x := (0 : Int32)) hx hb hr hlocks hK hP hD hS hw rfl nd_C_isUser_14
  have hw := (if_neg h6).symm.trans hw
  refine lv_iconst (v := (1 : Int32)) hx hb nd_C_isUser_9 (by decide) ?_
  refine lv_goto (tgt := 14) hx hb nd_C_isUser_10 (by decide) ?_
  exact my_rzo (u' := u) (x := (1 : Int32)) hx hb hr hlocks hK hP hD hS hw rfl nd_C_isUser_14
set_option maxHeartbeats 4000000 in
set_option maxRecDepth 100000 in
theorem c_C_forbids (l : Launch) (D : va_G) (h : Nat → Nat) (cA : Nat → ClassId) (u : St) (a1 : Int32) (F : Int32) (hw : f_C_forbids a1 u = F) : MI nwS vwCl l ny_C_forbids nw_C_forbids ({ frames := 1, cells := 0, slots := 0, locals := 20 }) D (tyI cA) (wSC h cA) ([.ref (h 5), .int a1] : List Value) u (zb F, u) := by
  refine my_in (gw := GW) (cc := nc_C_forbids) (maxL := 2) (ret := (some .boolean)) (Qc := fun A => QI vwCl D (tyI cA) (wSC h cA) (zb F, u) A) (by decide) rfl (Nat.le_of_ble_eq_true rfl) ?_
  intro p e s m below meth c A H locs ls hx hb hml hr hts hown hlocks hK hN hA hP hD hS hl
  have hown : s.vm.findClass nR_C = some m.cls := hown
  have hl : lv_has ls 2 [(0, .ref (h 5)), (1, .int a1)] := hl
  unfold f_C_forbids at hw
  refine lv_aload_n hx hb nd_C_forbids_0 rfl (lv_at hl 0 rfl) ?_
  refine my_ci (wd := wSC h cA) (r := zb (f_C_isUser u)) (u' := u) (va_runV (As := []) (rest := []) ⟨hx, hb, hml, hown, hts⟩ (c_C_isUser l D h cA u _ rfl _) ⟨callB_of 0 hts (gw_in gw_159) rfl rfl rfl (hts _ gw_4) (hts _ gw_156) nh_C_isUser ⟨Nat.le_of_ble_eq_true rfl, Nat.le_of_ble_eq_true rfl⟩, (hts _ gw_158), (hts _ gw_157)⟩ (my_preV nwOk hP hK hD hN (va_recv hK hP (ci := 3) (q0 := 5) rfl rfl)) rfl rfl hl.1 rfl (lv_room (Nat.le_of_ble_eq_true rfl)) nd_C_forbids_1 ⟨Nat.le_of_ble_eq_true rfl, Nat.le_of_ble_eq_true rfl⟩) hD hS hA (fun H locs hP hD hS => ?_)
  refine lv_if_eq (tgt := 15) hx hb nd_C_forbids_4 (by decide) (fun h4 => ?_) (fun h4 => ?_)
  · have hw := (if_pos h4).symm.trans hw
    refine lv_iconst (v := (0 : Int32)) hx hb nd_C_forbids_15 (by decide) ?_
    exact my_rzo (u' := u) (x := (0 : Int32)) hx hb hr hlocks hK hP hD hS hw rfl nd_C_forbids_16
  have hw := (if_neg h4).symm.trans hw
  refine lv_iload_n hx hb nd_C_forbids_7 rfl (lv_at hl 1 rfl) ?_
  refine lv_if_ge (tgt := 15) hx hb nd_C_forbids_8 (by decide) (fun h8 => ?_) (fun h8 => ?_)
  · have hw := (if_pos h8).symm.trans hw
    refine lv_iconst (v := (0 : Int32)) hx hb nd_C_forbids_15 (by decide) ?_
    exact my_rzo (u' := u) (x := (0 : Int32)) hx hb hr hlocks hK hP hD hS hw rfl nd_C_forbids_16
  have hw := (if_neg h8).symm.trans hw
  refine lv_iconst (v := (1 : Int32)) hx hb nd_C_forbids_11 (by decide) ?_
  refine lv_goto (tgt := 16) hx hb nd_C_forbids_12 (by decide) ?_
  exact my_rzo (u' := u) (x := (1 : Int32)) hx hb hr hlocks hK hP hD hS hw rfl nd_C_forbids_16
set_option maxHeartbeats 4000000 in
set_option maxRecDepth 100000 in
theorem c_O_begin (l : Launch) (D : va_G) (h : Nat → Nat) (cA : Nat → ClassId) (u : St) (a1 : Int32) (F : St) (hw : f_O_begin a1 u = F) : MV nwS vwCl l ny_O_begin nw_O_begin ({ frames := 0, cells := 0, slots := 0, locals := 0 }) D (tyI cA) (wSC h cA) ([.ref (h 6), .int a1] : List Value) u F := by
  refine my_in (gw := GW) (cc := nc_O_begin) (maxL := 2) (ret := none) (Qc := fun A => QV vwCl D (tyI cA) (wSC h cA) F A) (by decide) rfl (Nat.le_of_ble_eq_true rfl) ?_
  intro p e s m below meth c A H locs ls hx hb hml hr hts hown hlocks hK hN hA hP hD hS hl
  have hown : s.vm.findClass nR_O = some m.cls := hown
  have hl : lv_has ls 2 [(0, .ref (h 6)), (1, .int a1)] := hl
  unfold f_O_begin at hw
  refine lv_aload_n hx hb nd_O_begin_0 rfl (lv_at hl 0 rfl) ?_
  refine lv_iconst (v := (-1 : Int32)) hx hb nd_O_begin_1 (by decide) ?_
  refine va_put (D := D) (ci := 4) (v := .int (-1 : Int32)) (ty := .int) (C := nR_O) (T := nT_O) (N := 5) hx hb hts nu_O nt_O nto_O nn_O hown hK hP hD hS 6 rfl rfl 0 (by decide) (hts _ gw_54) (fun _ h9 => h9) rfl (by decide +kernel) rfl rfl (Nat.le_of_ble_eq_true rfl) nd_O_begin_2 (fun H locs hP hD hS => ?_)
  have hP : va_P D vwCl (wSC h cA (sU u 6 0 (-1 : Int32))) H := hP
  have hD : va_D A (wSC h cA (sU u 6 0 (-1 : Int32))) := hD
  refine lv_aload_n hx hb nd_O_begin_5 rfl (lv_at hl 0 rfl) ?_
  refine lv_iconst (v := (0 : Int32)) hx hb nd_O_begin_6 (by decide) ?_
  refine va_put (D := D) (ci := 4) (v := .int (zb (0 : Int32))) (ty := .boolean) (C := nR_O) (T := nT_O) (N := 5) hx hb hts nu_O nt_O nto_O nn_O hown hK hP hD hS 6 rfl rfl 2 (by decide) (hts _ gw_55) (fun _ h9 => h9) rfl (by decide +kernel) (zb_n _) (zb_f _) (Nat.le_of_ble_eq_true rfl) nd_O_begin_7 (fun H locs hP hD hS => ?_)
  have hP : va_P D vwCl (wSC h cA (sU (sU u 6 0 (-1 : Int32)) 6 2 (0 : Int32))) H := hP
  have hD : va_D A (wSC h cA (sU (sU u 6 0 (-1 : Int32)) 6 2 (0 : Int32))) := hD
  refine lv_aload_n hx hb nd_O_begin_10 rfl (lv_at hl 0 rfl) ?_
  refine lv_iconst (v := (0 : Int32)) hx hb nd_O_begin_11 (by decide) ?_
  refine va_put (D := D) (ci := 4) (v := .int (zb (0 : Int32))) (ty := .boolean) (C := nR_O) (T := nT_O) (N := 5) hx hb hts nu_O nt_O nto_O nn_O hown hK hP hD hS 6 rfl rfl 3 (by decide) (hts _ gw_56) (fun _ h9 => h9) rfl (by decide +kernel) (zb_n _) (zb_f _) (Nat.le_of_ble_eq_true rfl) nd_O_begin_12 (fun H locs hP hD hS => ?_)
  have hP : va_P D vwCl (wSC h cA (sU (sU (sU u 6 0 (-1 : Int32)) 6 2 (0 : Int32)) 6 3 (0 : Int32))) H := hP
  have hD : va_D A (wSC h cA (sU (sU (sU u 6 0 (-1 : Int32)) 6 2 (0 : Int32)) 6 3 (0 : Int32))) := hD
  refine lv_aload_n hx hb nd_O_begin_15 rfl (lv_at hl 0 rfl) ?_
  refine lv_iload_n hx hb nd_O_begin_16 rfl (lv_at hl 1 rfl) ?_
  refine va_put (D := D) (ci := 4) (v := .int a1) (ty := .int) (C := nR_O) (T := nT_O) (N := 5) hx hb hts nu_O nt_O nto_O nn_O hown hK hP hD hS 6 rfl rfl 4 (by decide) (hts _ gw_57) (fun _ h9 => h9) rfl (by decide +kernel) rfl rfl (Nat.le_of_ble_eq_true rfl) nd_O_begin_17 (fun H locs hP hD hS => ?_)
  have hP : va_P D vwCl (wSC h cA (sU (sU (sU (sU u 6 0 (-1 : Int32)) 6 2 (0 : Int32)) 6 3 (0 : Int32)) 6 4 a1)) H := hP
  have hD : va_D A (wSC h cA (sU (sU (sU (sU u 6 0 (-1 : Int32)) 6 2 (0 : Int32)) 6 3 (0 : Int32)) 6 4 a1)) := hD
  exact my_rv (u' := sU (sU (sU (sU u 6 0 (-1 : Int32)) 6 2 (0 : Int32)) 6 3 (0 : Int32)) 6 4 a1) hx hb hr hlocks hK hP hD hS hw nd_O_begin_20
set_option maxHeartbeats 4000000 in
set_option maxRecDepth 100000 in
theorem c_C_valueOf (l : Launch) (D : va_G) (h : Nat → Nat) (cA : Nat → ClassId) (u : St) (a1 : Int32) (F : Int32) (hw : f_C_valueOf a1 u = F) : MI nwS vwCl l ny_C_valueOf nw_C_valueOf ({ frames := 1, cells := 0, slots := 0, locals := 20 }) D (tyI cA) (wSC h cA) ([.ref (h 5), .int a1] : List Value) u (F, u) := by
  refine my_in (gw := GW) (cc := nc_C_valueOf) (maxL := 2) (ret := (some .int)) (Qc := fun A => QI vwCl D (tyI cA) (wSC h cA) (F, u) A) (by decide) rfl (Nat.le_of_ble_eq_true rfl) ?_
  intro p e s m below meth c A H locs ls hx hb hml hr hts hown hlocks hK hN hA hP hD hS hl
  have hown : s.vm.findClass nR_C = some m.cls := hown
  have hl : lv_has ls 2 [(0, .ref (h 5)), (1, .int a1)] := hl
  unfold f_C_valueOf at hw
  refine lv_iload_n hx hb nd_C_valueOf_0 rfl (lv_at hl 1 rfl) ?_
  rcases my_em (x := a1) (8 : Int32) with h1_8 | h1_8
  · have hw := (if_pos h1_8).symm.trans hw
    refine my_swi (tgt := 59) hx hb nd_C_valueOf_1 h1_8 (by decide) (by decide) rfl (by decide) ?_
    refine lv_aload_n hx hb nd_C_valueOf_59 rfl (lv_at hl 0 rfl) ?_
    refine va_get (D := D) (ci := 3) (v := .int (u 5 4)) (C := nR_C) (T := nT_C) (N := 5) hx hb hts nu_C hown hK hP 5 rfl rfl 4 (by decide) (hts _ gw_43) (fun _ h9 => h9) rfl nd_C_valueOf_60 ?_
    exact my_ri (u' := u) (v := u 5 4) hx hb hr hlocks hK hP hD hS (congrArg (fun z9 => (z9, u)) hw) nd_C_valueOf_63
  have hw := (if_neg h1_8).symm.trans hw
  rcases my_em (x := a1) (12 : Int32) with h1_12 | h1_12
  · have hw := (if_pos h1_12).symm.trans hw
    refine my_swi (tgt := 44) hx hb nd_C_valueOf_1 h1_12 (by decide) (by decide) rfl (by decide) ?_
    refine lv_aload_n hx hb nd_C_valueOf_44 rfl (lv_at hl 0 rfl) ?_
    refine va_get (D := D) (ci := 3) (v := .int (u 5 0)) (C := nR_C) (T := nT_C) (N := 5) hx hb hts nu_C hown hK hP 5 rfl rfl 0 (by decide) (hts _ gw_39) (fun _ h9 => h9) rfl nd_C_valueOf_45 ?_
    exact my_ri (u' := u) (v := u 5 0) hx hb hr hlocks hK hP hD hS (congrArg (fun z9 => (z9, u)) hw) nd_C_valueOf_48
  have hw := (if_neg h1_12).symm.trans hw
  rcases my_em (x := a1) (13 : Int32) with h1_13 | h1_13
  · have hw := (if_pos h1_13).symm.trans hw
    refine my_swi (tgt := 49) hx hb nd_C_valueOf_1 h1_13 (by decide) (by decide) rfl (by decide) ?_
    refine lv_aload_n hx hb nd_C_valueOf_49 rfl (lv_at hl 0 rfl) ?_
    refine my_ci (wd := wSC h cA) (r := f_C_wholeCause u) (u' := u) (va_runV (As := []) (rest := []) ⟨hx, hb, hml, hown, hts⟩ (c_C_wholeCause l D h cA u _ rfl _) ⟨callB_of 0 hts (gw_in gw_131) rfl rfl rfl (hts _ gw_4) (hts _ gw_128) nh_C_wholeCause ⟨Nat.le_of_ble_eq_true rfl, Nat.le_of_ble_eq_true rfl⟩, (hts _ gw_130), (hts _ gw_129)⟩ (my_preV nwOk hP hK hD hN (va_recv hK hP (ci := 3) (q0 := 5) rfl rfl)) rfl rfl hl.1 rfl (lv_room (Nat.le_of_ble_eq_true rfl)) nd_C_valueOf_50 ⟨Nat.le_of_ble_eq_true rfl, Nat.le_of_ble_eq_true rfl⟩) hD hS hA (fun H locs hP hD hS => ?_)
    exact my_ri (u' := u) (v := f_C_wholeCause u) hx hb hr hlocks hK hP hD hS (congrArg (fun z9 => (z9, u)) hw) nd_C_valueOf_53
  have hw := (if_neg h1_13).symm.trans hw
  rcases my_em (x := a1) (14 : Int32) with h1_14 | h1_14
  · have hw := (if_pos h1_14).symm.trans hw
    refine my_swi (tgt := 54) hx hb nd_C_valueOf_1 h1_14 (by decide) (by decide) rfl (by decide) ?_
    refine lv_aload_n hx hb nd_C_valueOf_54 rfl (lv_at hl 0 rfl) ?_
    refine va_get (D := D) (ci := 3) (v := .int (u 5 3)) (C := nR_C) (T := nT_C) (N := 5) hx hb hts nu_C hown hK hP 5 rfl rfl 3 (by decide) (hts _ gw_42) (fun _ h9 => h9) rfl nd_C_valueOf_55 ?_
    exact my_ri (u' := u) (v := u 5 3) hx hb hr hlocks hK hP hD hS (congrArg (fun z9 => (z9, u)) hw) nd_C_valueOf_58
  have hw := (if_neg h1_14).symm.trans hw
  refine my_swd (tgt := 64) hx hb nd_C_valueOf_1 (my_nec h1_8 (my_nec h1_12 (my_nec h1_13 (my_nec h1_14 my_nen)))) (by decide +kernel) (by decide) ?_
  refine lv_iconst (v := (0 : Int32)) hx hb nd_C_valueOf_64 (by decide) ?_
  exact my_ri (u' := u) (v := (0 : Int32)) hx hb hr hlocks hK hP hD hS (congrArg (fun z9 => (z9, u)) hw) nd_C_valueOf_65
set_option maxHeartbeats 4000000 in
set_option maxRecDepth 100000 in
theorem c_C_leave (l : Launch) (D : va_G) (h : Nat → Nat) (cA : Nat → ClassId) (u : St) (F : St) (hw : f_C_leave u = F) : MV nwS vwCl l ny_C_leave nw_C_leave ({ frames := 1, cells := 0, slots := 0, locals := 22 }) D (tyI cA) (wSC h cA) ([.ref (h 5)] : List Value) u F := by
  refine my_in (gw := GW) (cc := nc_C_leave) (maxL := 1) (ret := none) (Qc := fun A => QV vwCl D (tyI cA) (wSC h cA) F A) (by decide) rfl (Nat.le_of_ble_eq_true rfl) ?_
  intro p e s m below meth c A H locs ls hx hb hml hr hts hown hlocks hK hN hA hP hD hS hl
  have hown : s.vm.findClass nR_C = some m.cls := hown
  have hl : lv_has ls 1 [(0, .ref (h 5))] := hl
  unfold f_C_leave at hw
  refine lv_aload_n hx hb nd_C_leave_0 rfl (lv_at hl 0 rfl) ?_
  refine lv_aload_n hx hb nd_C_leave_1 rfl (lv_at hl 0 rfl) ?_
  refine va_get (D := D) (ci := 3) (v := .int (u 5 0)) (C := nR_C) (T := nT_C) (N := 5) hx hb hts nu_C hown hK hP 5 rfl rfl 0 (by decide) (hts _ gw_39) (fun _ h9 => h9) rfl nd_C_leave_2 ?_
  refine lv_aload_n hx hb nd_C_leave_5 rfl (lv_at hl 0 rfl) ?_
  refine va_get (D := D) (ci := 3) (v := .int (u 5 0)) (C := nR_C) (T := nT_C) (N := 5) hx hb hts nu_C hown hK hP 5 rfl rfl 0 (by decide) (hts _ gw_39) (fun _ h9 => h9) rfl nd_C_leave_6 ?_
  refine lv_iconst (v := (2 : Int32)) hx hb nd_C_leave_9 (by decide) ?_
  refine lv_ishr hx hb nd_C_leave_10 ?_
  refine lv_bipush (v := (15 : Int32)) hx hb nd_C_leave_11 (by decide) ?_
  refine my_cp (F := f_S_exchange (u 5 0) ((u 5 0) >>> ((2 : Int32) &&& 31)) (15 : Int32)) (va_runSN (As := [.int (u 5 0), .int ((u 5 0) >>> ((2 : Int32) &&& 31)), .int (15 : Int32)]) (rest := [.ref (h 5)]) ⟨hx, hb, hml, hown, hts⟩ (c_S_exchange l (u 5 0) ((u 5 0) >>> ((2 : Int32) &&& 31)) (15 : Int32) _ rfl) ⟨va_cnB 3 hts (gw_in gw_116) rfl rfl rfl (hN _ nm_19) (hts _ gw_1) nh_S_exchange ⟨Nat.le_of_ble_eq_true rfl, Nat.le_of_ble_eq_true rfl⟩, (hts _ gw_115), trivial⟩ my_preP rfl rfl hl.1 rfl (lv_room (Nat.le_of_ble_eq_true rfl)) nd_C_leave_13 ⟨Nat.le_of_ble_eq_true rfl, Nat.le_of_ble_eq_true rfl⟩) hP hS (fun H locs hP hS => ?_)
  refine va_put (D := D) (ci := 3) (v := .int (f_S_exchange (u 5 0) ((u 5 0) >>> ((2 : Int32) &&& 31)) (15 : Int32))) (ty := .int) (C := nR_C) (T := nT_C) (N := 5) hx hb hts nu_C nt_C nto_C nn_C hown hK hP hD hS 5 rfl rfl 0 (by decide) (hts _ gw_39) (fun _ h9 => h9) rfl (by decide +kernel) rfl rfl (Nat.le_of_ble_eq_true rfl) nd_C_leave_16 (fun H locs hP hD hS => ?_)
  have hP : va_P D vwCl (wSC h cA (sU u 5 0 (f_S_exchange (u 5 0) ((u 5 0) >>> ((2 : Int32) &&& 31)) (15 : Int32)))) H := hP
  have hD : va_D A (wSC h cA (sU u 5 0 (f_S_exchange (u 5 0) ((u 5 0) >>> ((2 : Int32) &&& 31)) (15 : Int32)))) := hD
  exact my_rv (u' := sU u 5 0 (f_S_exchange (u 5 0) ((u 5 0) >>> ((2 : Int32) &&& 31)) (15 : Int32))) hx hb hr hlocks hK hP hD hS hw nd_C_leave_19
set_option maxHeartbeats 4000000 in
set_option maxRecDepth 100000 in
theorem c_R_latestOf (l : Launch) (D : va_G) (h : Nat → Nat) (cA : Nat → ClassId) (u : St) (a1 : Int32) (F : Int32) (hw : f_R_latestOf a1 u = F) : MI nwS vwCl l ny_R_latestOf nw_R_latestOf ({ frames := 1, cells := 0, slots := 0, locals := 21 }) D (tyI cA) (wSC h cA) ([.ref (h 3), .int a1] : List Value) u (F, u) := by
  refine my_in (gw := GW) (cc := nc_R_latestOf) (maxL := 2) (ret := (some .int)) (Qc := fun A => QI vwCl D (tyI cA) (wSC h cA) (F, u) A) (by decide) rfl (Nat.le_of_ble_eq_true rfl) ?_
  intro p e s m below meth c A H locs ls hx hb hml hr hts hown hlocks hK hN hA hP hD hS hl
  have hown : s.vm.findClass nR_R = some m.cls := hown
  have hl : lv_has ls 2 [(0, .ref (h 3)), (1, .int a1)] := hl
  unfold f_R_latestOf at hw
  refine lv_aload_n hx hb nd_R_latestOf_0 rfl (lv_at hl 0 rfl) ?_
  refine va_get (D := D) (ci := 2) (v := .int (u 3 1)) (C := nR_R) (T := nT_R) (N := 3) hx hb hts nu_R hown hK hP 3 rfl rfl 1 (by decide) (hts _ gw_29) (fun _ h9 => h9) rfl nd_R_latestOf_1 ?_
  refine lv_iload_n hx hb nd_R_latestOf_4 rfl (lv_at hl 1 rfl) ?_
  refine lv_icmp_ne (tgt := 15) hx hb nd_R_latestOf_5 (by decide) (fun h5 => ?_) (fun h5 => ?_)
  · have hw := (if_neg h5).symm.trans hw
    refine lv_aload_n hx hb nd_R_latestOf_15 rfl (lv_at hl 0 rfl) ?_
    refine lv_iload_n hx hb nd_R_latestOf_16 rfl (lv_at hl 1 rfl) ?_
    refine my_ci (wd := wSC h cA) (r := f_R_valueOf a1 u) (u' := u) (va_runV (As := [.int a1]) (rest := []) ⟨hx, hb, hml, hown, hts⟩ (c_R_valueOf l D h cA u a1 _ rfl _) ⟨callB_of 1 hts (gw_in gw_206) rfl rfl rfl (hts _ gw_3) (hts _ gw_335) nh_R_valueOf ⟨Nat.le_of_ble_eq_true rfl, Nat.le_of_ble_eq_true rfl⟩, (hts _ gw_205), (hts _ gw_204)⟩ (my_preV nwOk hP hK hD hN (va_recv hK hP (ci := 2) (q0 := 3) rfl rfl)) rfl rfl hl.1 rfl (lv_room (Nat.le_of_ble_eq_true rfl)) nd_R_latestOf_17 ⟨Nat.le_of_ble_eq_true rfl, Nat.le_of_ble_eq_true rfl⟩) hD hS hA (fun H locs hP hD hS => ?_)
    exact my_ri (u' := u) (v := f_R_valueOf a1 u) hx hb hr hlocks hK hP hD hS (congrArg (fun z9 => (z9, u)) hw) nd_R_latestOf_20
  have hw := (if_pos h5).symm.trans hw
  refine lv_aload_n hx hb nd_R_latestOf_8 rfl (lv_at hl 0 rfl) ?_
  refine va_get (D := D) (ci := 2) (v := .int (u 3 2)) (C := nR_R) (T := nT_R) (N := 3) hx hb hts nu_R hown hK hP 3 rfl rfl 2 (by decide) (hts _ gw_30) (fun _ h9 => h9) rfl nd_R_latestOf_9 ?_
  refine lv_goto (tgt := 20) hx hb nd_R_latestOf_12 (by decide) ?_
  exact my_ri (u' := u) (v := u 3 2) hx hb hr hlocks hK hP hD hS (congrArg (fun z9 => (z9, u)) hw) nd_R_latestOf_20
end
section
set_option maxHeartbeats 4000000 in
set_option maxRecDepth 100000 in
theorem c_S_continueAt (l : Launch) (D : va_G) (h : Nat → Nat) (cA : Nat → ClassId) (u : St) (a1 : Int32) (F : St) (hw : f_S_continueAt a1 u = F) : MV nwS vwCl l ny_S_continueAt nw_S_continueAt ({ frames := 0, cells := 0, slots := 0, locals := 0 }) D (tyI cA) (wSC h cA) ([.ref (h 0), .int a1] : List Value) u F := by
  refine my_in (gw := GW) (cc := nc_S_continueAt) (maxL := 2) (ret := none) (Qc := fun A => QV vwCl D (tyI cA) (wSC h cA) F A) (by decide) rfl (Nat.le_of_ble_eq_true rfl) ?_
  intro p e s m below meth c A H locs ls hx hb hml hr hts hown hlocks hK hN hA hP hD hS hl
  have hown : s.vm.findClass nR_S = some m.cls := hown
  have hl : lv_has ls 2 [(0, .ref (h 0)), (1, .int a1)] := hl
  unfold f_S_continueAt at hw
  refine lv_aload_n hx hb nd_S_continueAt_0 rfl (lv_at hl 0 rfl) ?_
  refine lv_iload_n hx hb nd_S_continueAt_1 rfl (lv_at hl 1 rfl) ?_
  refine va_put (D := D) (ci := 0) (v := .int a1) (ty := .int) (C := nR_S) (T := nT_S) (N := 9) hx hb hts nu_S nt_S nto_S nn_S hown hK hP hD hS 0 rfl rfl 4 (by decide) (hts _ gw_67) (fun _ h9 => h9) rfl (by decide +kernel) rfl rfl (Nat.le_of_ble_eq_true rfl) nd_S_continueAt_2 (fun H locs hP hD hS => ?_)
  have hP : va_P D vwCl (wSC h cA (sU u 0 4 a1)) H := hP
  have hD : va_D A (wSC h cA (sU u 0 4 a1)) := hD
  refine lv_aload_n hx hb nd_S_continueAt_5 rfl (lv_at hl 0 rfl) ?_
  refine lv_iload_n hx hb nd_S_continueAt_6 rfl (lv_at hl 1 rfl) ?_
  refine lv_iconst (v := (4 : Int32)) hx hb nd_S_continueAt_7 (by decide) ?_
  refine lv_iadd hx hb nd_S_continueAt_8 ?_
  refine va_put (D := D) (ci := 0) (v := .int (a1 + (4 : Int32))) (ty := .int) (C := nR_S) (T := nT_S) (N := 9) hx hb hts nu_S nt_S nto_S nn_S hown hK hP hD hS 0 rfl rfl 5 (by decide) (hts _ gw_68) (fun _ h9 => h9) rfl (by decide +kernel) rfl rfl (Nat.le_of_ble_eq_true rfl) nd_S_continueAt_9 (fun H locs hP hD hS => ?_)
  have hP : va_P D vwCl (wSC h cA (sU (sU u 0 4 a1) 0 5 (a1 + (4 : Int32)))) H := hP
  have hD : va_D A (wSC h cA (sU (sU u 0 4 a1) 0 5 (a1 + (4 : Int32)))) := hD
  refine lv_aload_n hx hb nd_S_continueAt_12 rfl (lv_at hl 0 rfl) ?_
  refine lv_iconst (v := (0 : Int32)) hx hb nd_S_continueAt_13 (by decide) ?_
  refine va_put (D := D) (ci := 0) (v := .int (zb (0 : Int32))) (ty := .boolean) (C := nR_S) (T := nT_S) (N := 9) hx hb hts nu_S nt_S nto_S nn_S hown hK hP hD hS 0 rfl rfl 6 (by decide) (hts _ gw_69) (fun _ h9 => h9) rfl (by decide +kernel) (zb_n _) (zb_f _) (Nat.le_of_ble_eq_true rfl) nd_S_continueAt_14 (fun H locs hP hD hS => ?_)
  have hP : va_P D vwCl (wSC h cA (sU (sU (sU u 0 4 a1) 0 5 (a1 + (4 : Int32))) 0 6 (0 : Int32))) H := hP
  have hD : va_D A (wSC h cA (sU (sU (sU u 0 4 a1) 0 5 (a1 + (4 : Int32))) 0 6 (0 : Int32))) := hD
  exact my_rv (u' := sU (sU (sU u 0 4 a1) 0 5 (a1 + (4 : Int32))) 0 6 (0 : Int32)) hx hb hr hlocks hK hP hD hS hw nd_S_continueAt_17
set_option maxHeartbeats 4000000 in
set_option maxRecDepth 100000 in
theorem c_S_reset (l : Launch) (D : va_G) (h : Nat → Nat) (cA : Nat → ClassId) (u : St) (F : St) (hw : f_S_reset u = some F) : MV nwS vwCl l ny_S_reset nw_S_reset ({ frames := 3, cells := 0, slots := 0, locals := 63 }) D (tyI cA) (wSC h cA) ([.ref (h 0)] : List Value) u F := by
  refine my_in (gw := GW) (cc := nc_S_reset) (maxL := 1) (ret := none) (Qc := fun A => QV vwCl D (tyI cA) (wSC h cA) F A) (by decide) rfl (Nat.le_of_ble_eq_true rfl) ?_
  intro p e s m below meth c A H locs ls hx hb hml hr hts hown hlocks hK hN hA hP hD hS hl
  have hown : s.vm.findClass nR_S = some m.cls := hown
  have hl : lv_has ls 1 [(0, .ref (h 0))] := hl
  unfold f_S_reset at hw
  refine lv_aload_n hx hb nd_S_reset_0 rfl (lv_at hl 0 rfl) ?_
  refine va_get (D := D) (ci := 0) (v := .ref (h 3)) (C := nR_S) (T := nT_S) (N := 9) hx hb hts nu_S hown hK hP 0 rfl rfl 1 (by decide) (hts _ gw_64) (fun _ h9 => h9) rfl nd_S_reset_1 ?_
  obtain ⟨u4, hq4, hw⟩ := obv_i hw
  refine my_cv (wd := wSC h cA) (F := u4) (va_runVN (As := []) (rest := []) ⟨hx, hb, hml, hown, hts⟩ (c_R_clear l D h cA u u4 hq4 _) ⟨va_cnB 0 hts (gw_in gw_87) rfl rfl rfl (hN _ nm_15) (hts _ gw_3) nh_R_clear ⟨Nat.le_of_ble_eq_true rfl, Nat.le_of_ble_eq_true rfl⟩, (hts _ gw_86), (hts _ gw_85)⟩ (my_preV nwOk hP hK hD hN (va_recv hK hP (ci := 2) (q0 := 3) rfl rfl)) rfl rfl hl.1 rfl (lv_room (Nat.le_of_ble_eq_true rfl)) nd_S_reset_4 ⟨Nat.le_of_ble_eq_true rfl, Nat.le_of_ble_eq_true rfl⟩) hD hS hA (fun H locs hP hD hS => ?_)
  refine lv_aload_n hx hb nd_S_reset_7 rfl (lv_at hl 0 rfl) ?_
  refine va_get (D := D) (ci := 0) (v := .ref (h 5)) (C := nR_S) (T := nT_S) (N := 9) hx hb hts nu_S hown hK hP 0 rfl rfl 2 (by decide) (hts _ gw_65) (fun _ h9 => h9) rfl nd_S_reset_8 ?_
  obtain ⟨u11, hq11, hw⟩ := bnv_i hw
  refine my_cv (wd := wSC h cA) (F := u11) (va_runVN (As := []) (rest := []) ⟨hx, hb, hml, hown, hts⟩ (c_C_clear l D h cA u4 u11 hq11 _) ⟨va_cnB 0 hts (gw_in gw_98) rfl rfl rfl (hN _ nm_16) (hts _ gw_4) nh_C_clear ⟨Nat.le_of_ble_eq_true rfl, Nat.le_of_ble_eq_true rfl⟩, (hts _ gw_97), (hts _ gw_96)⟩ (my_preV nwOk hP hK hD hN (va_recv hK hP (ci := 3) (q0 := 5) rfl rfl)) rfl rfl hl.1 rfl (lv_room (Nat.le_of_ble_eq_true rfl)) nd_S_reset_11 ⟨Nat.le_of_ble_eq_true rfl, Nat.le_of_ble_eq_true rfl⟩) hD hS hA (fun H locs hP hD hS => ?_)
  refine lv_aload_n hx hb nd_S_reset_14 rfl (lv_at hl 0 rfl) ?_
  refine lv_iconst (v := (0 : Int32)) hx hb nd_S_reset_15 (by decide) ?_
  obtain ⟨u16, hq16, hw⟩ := bnv_i hw
  refine my_cv (wd := wSC h cA) (F := u16) (va_runV (As := [.int (0 : Int32)]) (rest := []) ⟨hx, hb, hml, hown, hts⟩ (c_S_continueAt l D h cA u11 (0 : Int32) u16 hq16 _) ⟨callB_of 1 hts (gw_in gw_102) rfl rfl rfl (hts _ gw_1) (hts _ gw_99) nh_S_continueAt ⟨Nat.le_of_ble_eq_true rfl, Nat.le_of_ble_eq_true rfl⟩, (hts _ gw_101), (hts _ gw_100)⟩ (my_preV nwOk hP hK hD hN (va_recv hK hP (ci := 0) (q0 := 0) rfl rfl)) rfl rfl hl.1 rfl (lv_room (Nat.le_of_ble_eq_true rfl)) nd_S_reset_16 ⟨Nat.le_of_ble_eq_true rfl, Nat.le_of_ble_eq_true rfl⟩) hD hS hA (fun H locs hP hD hS => ?_)
  refine lv_aload_n hx hb nd_S_reset_19 rfl (lv_at hl 0 rfl) ?_
  refine lv_iconst (v := (0 : Int32)) hx hb nd_S_reset_20 (by decide) ?_
  refine va_put (D := D) (ci := 0) (v := .int (0 : Int32)) (ty := .int) (C := nR_S) (T := nT_S) (N := 9) hx hb hts nu_S nt_S nto_S nn_S hown hK hP hD hS 0 rfl rfl 7 (by decide) (hts _ gw_70) (fun _ h9 => h9) rfl (by decide +kernel) rfl rfl (Nat.le_of_ble_eq_true rfl) nd_S_reset_21 (fun H locs hP hD hS => ?_)
  have hP : va_P D vwCl (wSC h cA (sU u16 0 7 (0 : Int32))) H := hP
  have hD : va_D A (wSC h cA (sU u16 0 7 (0 : Int32))) := hD
  refine lv_aload_n hx hb nd_S_reset_24 rfl (lv_at hl 0 rfl) ?_
  refine lv_iconst (v := (0 : Int32)) hx hb nd_S_reset_25 (by decide) ?_
  refine va_put (D := D) (ci := 0) (v := .int (0 : Int32)) (ty := .int) (C := nR_S) (T := nT_S) (N := 9) hx hb hts nu_S nt_S nto_S nn_S hown hK hP hD hS 0 rfl rfl 8 (by decide) (hts _ gw_71) (fun _ h9 => h9) rfl (by decide +kernel) rfl rfl (Nat.le_of_ble_eq_true rfl) nd_S_reset_26 (fun H locs hP hD hS => ?_)
  have hP : va_P D vwCl (wSC h cA (sU (sU u16 0 7 (0 : Int32)) 0 8 (0 : Int32))) H := hP
  have hD : va_D A (wSC h cA (sU (sU u16 0 7 (0 : Int32)) 0 8 (0 : Int32))) := hD
  exact my_rv (u' := sU (sU u16 0 7 (0 : Int32)) 0 8 (0 : Int32)) hx hb hr hlocks hK hP hD hS (Option.some.inj hw) nd_S_reset_29
set_option maxHeartbeats 4000000 in
set_option maxRecDepth 100000 in
theorem c_S_go (l : Launch) (D : va_G) (h : Nat → Nat) (cA : Nat → ClassId) (u : St) (a1 : Int32) (F : Int32 × St) (hw : f_S_go a1 u = F) : MI nwS vwCl l ny_S_go nw_S_go ({ frames := 2, cells := 0, slots := 0, locals := 42 }) D (tyI cA) (wSC h cA) ([.ref (h 0), .int a1] : List Value) u F := by
  refine my_in (gw := GW) (cc := nc_S_go) (maxL := 3) (ret := (some .int)) (Qc := fun A => QI vwCl D (tyI cA) (wSC h cA) F A) (by decide) rfl (Nat.le_of_ble_eq_true rfl) ?_
  intro p e s m below meth c A H locs ls hx hb hml hr hts hown hlocks hK hN hA hP hD hS hl
  have hown : s.vm.findClass nR_S = some m.cls := hown
  have hl : lv_has ls 3 [(0, .ref (h 0)), (1, .int a1)] := hl
  unfold f_S_go at hw
  refine lv_aload_n hx hb nd_S_go_0 rfl (lv_at hl 0 rfl) ?_
  refine va_get (D := D) (ci := 0) (v := .int (u 0 4)) (C := nR_S) (T := nT_S) (N := 9) hx hb hts nu_S hown hK hP 0 rfl rfl 4 (by decide) (hts _ gw_67) (fun _ h9 => h9) rfl nd_S_go_1 ?_
  refine lv_istore_n (lv' := [(2, .int (u 0 4)), (0, .ref (h 0)), (1, .int a1)]) hx hb nd_S_go_4 rfl hl (by decide) rfl (fun ls hl => ?_)
  refine lv_aload_n hx hb nd_S_go_5 rfl (lv_at hl 1 rfl) ?_
  refine va_get (D := D) (ci := 0) (v := .ref (h 3)) (C := nR_S) (T := nT_S) (N := 9) hx hb hts nu_S hown hK hP 0 rfl rfl 1 (by decide) (hts _ gw_64) (fun _ h9 => h9) rfl nd_S_go_6 ?_
  obtain ⟨u9, hq9, hw⟩ := bnv_i hw
  refine my_cv (wd := wSC h cA) (F := u9) (va_runVN (As := []) (rest := []) ⟨hx, hb, hml, hown, hts⟩ (c_R_dropLoad l D h cA u u9 hq9 _) ⟨va_cnB 0 hts (gw_in gw_91) rfl rfl rfl (hN _ nm_17) (hts _ gw_3) nh_R_dropLoad ⟨Nat.le_of_ble_eq_true rfl, Nat.le_of_ble_eq_true rfl⟩, (hts _ gw_90), (hts _ gw_89)⟩ (my_preV nwOk hP hK hD hN (va_recv hK hP (ci := 2) (q0 := 3) rfl rfl)) rfl rfl hl.1 rfl (lv_room (Nat.le_of_ble_eq_true rfl)) nd_S_go_9 ⟨Nat.le_of_ble_eq_true rfl, Nat.le_of_ble_eq_true rfl⟩) hD hS hA (fun H locs hP hD hS => ?_)
  refine lv_aload_n hx hb nd_S_go_12 rfl (lv_at hl 1 rfl) ?_
  refine lv_iload_n hx hb nd_S_go_13 rfl (lv_at hl 2 rfl) ?_
  obtain ⟨u14, hq14, hw⟩ := bnv_i hw
  refine my_cv (wd := wSC h cA) (F := u14) (va_runV (As := [.int a1]) (rest := []) ⟨hx, hb, hml, hown, hts⟩ (c_S_continueAt l D h cA u9 a1 u14 hq14 _) ⟨callB_of 1 hts (gw_in gw_102) rfl rfl rfl (hts _ gw_1) (hts _ gw_99) nh_S_continueAt ⟨Nat.le_of_ble_eq_true rfl, Nat.le_of_ble_eq_true rfl⟩, (hts _ gw_101), (hts _ gw_100)⟩ (my_preV nwOk hP hK hD hN (va_recv hK hP (ci := 0) (q0 := 0) rfl rfl)) rfl rfl hl.1 rfl (lv_room (Nat.le_of_ble_eq_true rfl)) nd_S_go_14 ⟨Nat.le_of_ble_eq_true rfl, Nat.le_of_ble_eq_true rfl⟩) hD hS hA (fun H locs hP hD hS => ?_)
  refine lv_iload_n hx hb nd_S_go_17 rfl (lv_at hl 0 rfl) ?_
  exact my_ri (u' := u14) (v := u 0 4) hx hb hr hlocks hK hP hD hS hw nd_S_go_18
set_option maxHeartbeats 4000000 in
set_option maxRecDepth 100000 in
theorem c_S_status (l : Launch) (D : va_G) (h : Nat → Nat) (cA : Nat → ClassId) (u : St) (a1 : Int32) (F : Int32 × St) (hw : f_S_status a1 u = F) : MI nwS vwCl l ny_S_status nw_S_status ({ frames := 2, cells := 0, slots := 0, locals := 44 }) D (tyI cA) (wSC h cA) ([.ref (h 0), .int a1] : List Value) u F := by
  refine my_in (gw := GW) (cc := nc_S_status) (maxL := 3) (ret := (some .int)) (Qc := fun A => QI vwCl D (tyI cA) (wSC h cA) F A) (by decide) rfl (Nat.le_of_ble_eq_true rfl) ?_
  intro p e s m below meth c A H locs ls hx hb hml hr hts hown hlocks hK hN hA hP hD hS hl
  have hown : s.vm.findClass nR_S = some m.cls := hown
  have hl : lv_has ls 3 [(0, .ref (h 0)), (1, .int a1)] := hl
  unfold f_S_status at hw
  refine lv_aload_n hx hb nd_S_status_0 rfl (lv_at hl 0 rfl) ?_
  refine va_get (D := D) (ci := 0) (v := .ref (h 5)) (C := nR_S) (T := nT_S) (N := 9) hx hb hts nu_S hown hK hP 0 rfl rfl 2 (by decide) (hts _ gw_65) (fun _ h9 => h9) rfl nd_S_status_1 ?_
  refine va_getN (D := D) (ci := 3) (v := .int (u 5 0)) (C := nR_C) (T := nT_C) (N := 5) hx hb hts nu_C hown hK hP 5 rfl rfl 0 (by decide) (va_Nw.use rfl (hN _ nm_5)) (fun _ h9 => h9) rfl nd_S_status_4 ?_
  refine lv_istore_n (lv' := [(2, .int (u 5 0)), (0, .ref (h 0)), (1, .int a1)]) hx hb nd_S_status_7 rfl hl (by decide) rfl (fun ls hl => ?_)
  refine lv_aload_n hx hb nd_S_status_8 rfl (lv_at hl 1 rfl) ?_
  refine va_get (D := D) (ci := 0) (v := .ref (h 5)) (C := nR_S) (T := nT_S) (N := 9) hx hb hts nu_S hown hK hP 0 rfl rfl 2 (by decide) (hts _ gw_65) (fun _ h9 => h9) rfl nd_S_status_9 ?_
  refine lv_bipush (v := (12 : Int32)) hx hb nd_S_status_12 (by decide) ?_
  refine lv_iload_n hx hb nd_S_status_14 rfl (lv_at hl 2 rfl) ?_
  obtain ⟨u15, hq15, hw⟩ := bnv_i hw
  refine my_cv (wd := wSC h cA) (F := u15) (va_runVN (As := [.int (12 : Int32), .int a1]) (rest := []) ⟨hx, hb, hml, hown, hts⟩ (c_C_change l D h cA u (12 : Int32) a1 u15 hq15 _) ⟨va_cnB 2 hts (gw_in gw_113) rfl rfl rfl (hN _ nm_18) (hts _ gw_4) nh_C_change ⟨Nat.le_of_ble_eq_true rfl, Nat.le_of_ble_eq_true rfl⟩, (hts _ gw_112), (hts _ gw_111)⟩ (my_preV nwOk hP hK hD hN (va_recv hK hP (ci := 3) (q0 := 5) rfl rfl)) rfl rfl hl.1 rfl (lv_room (Nat.le_of_ble_eq_true rfl)) nd_S_status_15 ⟨Nat.le_of_ble_eq_true rfl, Nat.le_of_ble_eq_true rfl⟩) hD hS hA (fun H locs hP hD hS => ?_)
  refine lv_iload_n hx hb nd_S_status_18 rfl (lv_at hl 0 rfl) ?_
  exact my_ri (u' := u15) (v := u 5 0) hx hb hr hlocks hK hP hD hS hw nd_S_status_19
set_option maxHeartbeats 4000000 in
set_option maxRecDepth 100000 in
theorem c_S_valueOfT (l : Launch) (D : va_G) (h : Nat → Nat) (cA : Nat → ClassId) (u : St) (a1 : Int32) (F : Int32) (hw : f_S_valueOfT a1 u = F) : MI nwS vwCl l ny_S_valueOfT nw_S_valueOfT ({ frames := 1, cells := 0, slots := 0, locals := 21 }) D (tyI cA) (wSC h cA) ([.ref (h 0), .int a1] : List Value) u (F, u) := by
  refine my_in (gw := GW) (cc := nc_S_valueOfT) (maxL := 2) (ret := (some .int)) (Qc := fun A => QI vwCl D (tyI cA) (wSC h cA) (F, u) A) (by decide) rfl (Nat.le_of_ble_eq_true rfl) ?_
  intro p e s m below meth c A H locs ls hx hb hml hr hts hown hlocks hK hN hA hP hD hS hl
  have hown : s.vm.findClass nR_S = some m.cls := hown
  have hl : lv_has ls 2 [(0, .ref (h 0)), (1, .int a1)] := hl
  unfold f_S_valueOfT at hw
  refine lv_aload_n hx hb nd_S_valueOfT_0 rfl (lv_at hl 0 rfl) ?_
  refine va_get (D := D) (ci := 0) (v := .ref (h 3)) (C := nR_S) (T := nT_S) (N := 9) hx hb hts nu_S hown hK hP 0 rfl rfl 1 (by decide) (hts _ gw_64) (fun _ h9 => h9) rfl nd_S_valueOfT_1 ?_
  refine lv_iload_n hx hb nd_S_valueOfT_4 rfl (lv_at hl 1 rfl) ?_
  refine my_cp (F := f_S_numberT a1) (va_runS (As := [.int a1]) (rest := [.ref (h 3)]) ⟨hx, hb, hml, hown, hts⟩ (c_S_numberT l a1 _ rfl) ⟨callB_of 1 hts (gw_in gw_191) rfl rfl rfl (hts _ gw_1) (hts _ gw_189) nh_S_numberT ⟨Nat.le_of_ble_eq_true rfl, Nat.le_of_ble_eq_true rfl⟩, (hts _ gw_190)⟩ my_preP rfl rfl hl.1 rfl (lv_room (Nat.le_of_ble_eq_true rfl)) nd_S_valueOfT_5 ⟨Nat.le_of_ble_eq_true rfl, Nat.le_of_ble_eq_true rfl⟩) hP hS (fun H locs hP hS => ?_)
  refine my_ci (wd := wSC h cA) (r := f_R_valueOf (f_S_numberT a1) u) (u' := u) (va_runVN (As := [.int (f_S_numberT a1)]) (rest := []) ⟨hx, hb, hml, hown, hts⟩ (c_R_valueOf l D h cA u (f_S_numberT a1) _ rfl _) ⟨va_cnB 1 hts (gw_in gw_206) rfl rfl rfl (hN _ nm_26) (hts _ gw_3) nh_R_valueOf ⟨Nat.le_of_ble_eq_true rfl, Nat.le_of_ble_eq_true rfl⟩, (hts _ gw_205), (hts _ gw_204)⟩ (my_preV nwOk hP hK hD hN (va_recv hK hP (ci := 2) (q0 := 3) rfl rfl)) rfl rfl hl.1 rfl (lv_room (Nat.le_of_ble_eq_true rfl)) nd_S_valueOfT_8 ⟨Nat.le_of_ble_eq_true rfl, Nat.le_of_ble_eq_true rfl⟩) hD hS hA (fun H locs hP hD hS => ?_)
  exact my_ri (u' := u) (v := f_R_valueOf (f_S_numberT a1) u) hx hb hr hlocks hK hP hD hS (congrArg (fun z9 => (z9, u)) hw) nd_S_valueOfT_11
set_option maxHeartbeats 4000000 in
set_option maxRecDepth 100000 in
theorem c_S_valueOfS (l : Launch) (D : va_G) (h : Nat → Nat) (cA : Nat → ClassId) (u : St) (a1 : Int32) (F : Int32) (hw : f_S_valueOfS a1 u = F) : MI nwS vwCl l ny_S_valueOfS nw_S_valueOfS ({ frames := 1, cells := 0, slots := 0, locals := 21 }) D (tyI cA) (wSC h cA) ([.ref (h 0), .int a1] : List Value) u (F, u) := by
  refine my_in (gw := GW) (cc := nc_S_valueOfS) (maxL := 2) (ret := (some .int)) (Qc := fun A => QI vwCl D (tyI cA) (wSC h cA) (F, u) A) (by decide) rfl (Nat.le_of_ble_eq_true rfl) ?_
  intro p e s m below meth c A H locs ls hx hb hml hr hts hown hlocks hK hN hA hP hD hS hl
  have hown : s.vm.findClass nR_S = some m.cls := hown
  have hl : lv_has ls 2 [(0, .ref (h 0)), (1, .int a1)] := hl
  unfold f_S_valueOfS at hw
  refine lv_aload_n hx hb nd_S_valueOfS_0 rfl (lv_at hl 0 rfl) ?_
  refine va_get (D := D) (ci := 0) (v := .ref (h 3)) (C := nR_S) (T := nT_S) (N := 9) hx hb hts nu_S hown hK hP 0 rfl rfl 1 (by decide) (hts _ gw_64) (fun _ h9 => h9) rfl nd_S_valueOfS_1 ?_
  refine lv_iload_n hx hb nd_S_valueOfS_4 rfl (lv_at hl 1 rfl) ?_
  refine my_cp (F := f_S_numberS a1) (va_runS (As := [.int a1]) (rest := [.ref (h 3)]) ⟨hx, hb, hml, hown, hts⟩ (c_S_numberS l a1 _ rfl) ⟨callB_of 1 hts (gw_in gw_216) rfl rfl rfl (hts _ gw_1) (hts _ gw_214) nh_S_numberS ⟨Nat.le_of_ble_eq_true rfl, Nat.le_of_ble_eq_true rfl⟩, (hts _ gw_215)⟩ my_preP rfl rfl hl.1 rfl (lv_room (Nat.le_of_ble_eq_true rfl)) nd_S_valueOfS_5 ⟨Nat.le_of_ble_eq_true rfl, Nat.le_of_ble_eq_true rfl⟩) hP hS (fun H locs hP hS => ?_)
  refine my_ci (wd := wSC h cA) (r := f_R_valueOf (f_S_numberS a1) u) (u' := u) (va_runVN (As := [.int (f_S_numberS a1)]) (rest := []) ⟨hx, hb, hml, hown, hts⟩ (c_R_valueOf l D h cA u (f_S_numberS a1) _ rfl _) ⟨va_cnB 1 hts (gw_in gw_206) rfl rfl rfl (hN _ nm_26) (hts _ gw_3) nh_R_valueOf ⟨Nat.le_of_ble_eq_true rfl, Nat.le_of_ble_eq_true rfl⟩, (hts _ gw_205), (hts _ gw_204)⟩ (my_preV nwOk hP hK hD hN (va_recv hK hP (ci := 2) (q0 := 3) rfl rfl)) rfl rfl hl.1 rfl (lv_room (Nat.le_of_ble_eq_true rfl)) nd_S_valueOfS_8 ⟨Nat.le_of_ble_eq_true rfl, Nat.le_of_ble_eq_true rfl⟩) hD hS hA (fun H locs hP hD hS => ?_)
  exact my_ri (u' := u) (v := f_R_valueOf (f_S_numberS a1) u) hx hb hr hlocks hK hP hD hS (congrArg (fun z9 => (z9, u)) hw) nd_S_valueOfS_11
set_option maxHeartbeats 4000000 in
set_option maxRecDepth 100000 in
theorem c_S_give (l : Launch) (D : va_G) (h : Nat → Nat) (cA : Nat → ClassId) (u : St) (a1 : Int32) (a2 : Int32) (F : Int32 × St) (hw : f_S_give a1 a2 u = F) : MI nwS vwCl l ny_S_give nw_S_give ({ frames := 0, cells := 0, slots := 0, locals := 0 }) D (tyI cA) (wSC h cA) ([.ref (h 0), .int a1, .int a2] : List Value) u F := by
  refine my_in (gw := GW) (cc := nc_S_give) (maxL := 3) (ret := (some .int)) (Qc := fun A => QI vwCl D (tyI cA) (wSC h cA) F A) (by decide) rfl (Nat.le_of_ble_eq_true rfl) ?_
  intro p e s m below meth c A H locs ls hx hb hml hr hts hown hlocks hK hN hA hP hD hS hl
  have hown : s.vm.findClass nR_S = some m.cls := hown
  have hl : lv_has ls 3 [(0, .ref (h 0)), (1, .int a1), (2, .int a2)] := hl
  unfold f_S_give at hw
  refine lv_aload_n hx hb nd_S_give_0 rfl (lv_at hl 0 rfl) ?_
  refine va_get (D := D) (ci := 0) (v := .ref (h 6)) (C := nR_S) (T := nT_S) (N := 9) hx hb hts nu_S hown hK hP 0 rfl rfl 3 (by decide) (hts _ gw_66) (fun _ h9 => h9) rfl nd_S_give_1 ?_
  refine lv_iload_n hx hb nd_S_give_4 rfl (lv_at hl 1 rfl) ?_
  refine va_putN (D := D) (ci := 4) (v := .int a1) (ty := .int) (C := nR_O) (T := nT_O) (N := 5) hx hb hts nu_O nt_O nto_O nn_O hown hK hP hD hS 6 rfl rfl 0 (by decide) (va_Nw.use rfl (hN _ nm_10)) (fun _ h9 => h9) rfl (by decide +kernel) rfl rfl (Nat.le_of_ble_eq_true rfl) nd_S_give_5 (fun H locs hP hD hS => ?_)
  have hP : va_P D vwCl (wSC h cA (sU u 6 0 a1)) H := hP
  have hD : va_D A (wSC h cA (sU u 6 0 a1)) := hD
  refine lv_aload_n hx hb nd_S_give_8 rfl (lv_at hl 0 rfl) ?_
  refine va_get (D := D) (ci := 0) (v := .ref (h 6)) (C := nR_S) (T := nT_S) (N := 9) hx hb hts nu_S hown hK hP 0 rfl rfl 3 (by decide) (hts _ gw_66) (fun _ h9 => h9) rfl nd_S_give_9 ?_
  refine lv_iload_n hx hb nd_S_give_12 rfl (lv_at hl 2 rfl) ?_
  refine va_putN (D := D) (ci := 4) (v := .int a2) (ty := .int) (C := nR_O) (T := nT_O) (N := 5) hx hb hts nu_O nt_O nto_O nn_O hown hK hP hD hS 6 rfl rfl 1 (by decide) (va_Nw.use rfl (hN _ nm_11)) (fun _ h9 => h9) rfl (by decide +kernel) rfl rfl (Nat.le_of_ble_eq_true rfl) nd_S_give_13 (fun H locs hP hD hS => ?_)
  have hP : va_P D vwCl (wSC h cA (sU (sU u 6 0 a1) 6 1 a2)) H := hP
  have hD : va_D A (wSC h cA (sU (sU u 6 0 a1) 6 1 a2)) := hD
  refine lv_iconst (v := (-1 : Int32)) hx hb nd_S_give_16 (by decide) ?_
  exact my_ri (u' := sU (sU u 6 0 a1) 6 1 a2) (v := (-1 : Int32)) hx hb hr hlocks hK hP hD hS hw nd_S_give_17
set_option maxHeartbeats 4000000 in
set_option maxRecDepth 100000 in
theorem c_S_branchIf (l : Launch) (D : va_G) (h : Nat → Nat) (cA : Nat → ClassId) (u : St) (a1 : Int32) (a2 : Int32) (F : Int32 × St) (hw : f_S_branchIf a1 a2 u = F) : MI nwS vwCl l ny_S_branchIf nw_S_branchIf ({ frames := 0, cells := 0, slots := 0, locals := 0 }) D (tyI cA) (wSC h cA) ([.ref (h 0), .int (zb a1), .int a2] : List Value) u F := by
  refine my_in (gw := GW) (cc := nc_S_branchIf) (maxL := 3) (ret := (some .int)) (Qc := fun A => QI vwCl D (tyI cA) (wSC h cA) F A) (by decide) rfl (Nat.le_of_ble_eq_true rfl) ?_
  intro p e s m below meth c A H locs ls hx hb hml hr hts hown hlocks hK hN hA hP hD hS hl
  have hown : s.vm.findClass nR_S = some m.cls := hown
  have hl : lv_has ls 3 [(0, .ref (h 0)), (1, .int (zb a1)), (2, .int a2)] := hl
  unfold f_S_branchIf at hw
  refine lv_aload_n hx hb nd_S_branchIf_0 rfl (lv_at hl 0 rfl) ?_
  refine va_get (D := D) (ci := 0) (v := .ref (h 6)) (C := nR_S) (T := nT_S) (N := 9) hx hb hts nu_S hown hK hP 0 rfl rfl 3 (by decide) (hts _ gw_66) (fun _ h9 => h9) rfl nd_S_branchIf_1 ?_
  refine lv_iconst (v := (1 : Int32)) hx hb nd_S_branchIf_4 (by decide) ?_
  refine va_putN (D := D) (ci := 4) (v := .int (zb (1 : Int32))) (ty := .boolean) (C := nR_O) (T := nT_O) (N := 5) hx hb hts nu_O nt_O nto_O nn_O hown hK hP hD hS 6 rfl rfl 3 (by decide) (va_Nw.use rfl (hN _ nm_13)) (fun _ h9 => h9) rfl (by decide +kernel) (zb_n _) (zb_f _) (Nat.le_of_ble_eq_true rfl) nd_S_branchIf_5 (fun H locs hP hD hS => ?_)
  have hP : va_P D vwCl (wSC h cA (sU u 6 3 (1 : Int32))) H := hP
  have hD : va_D A (wSC h cA (sU u 6 3 (1 : Int32))) := hD
  refine lv_iload_n hx hb nd_S_branchIf_8 rfl (lv_at hl 1 rfl) ?_
  refine lv_if_eq (tgt := 20) hx hb nd_S_branchIf_9 (by decide) (fun h9 => ?_) (fun h9 => ?_)
  · have hw := (if_pos h9).symm.trans hw
    refine lv_iconst (v := (-1 : Int32)) hx hb nd_S_branchIf_20 (by decide) ?_
    exact my_ri (u' := sU u 6 3 (1 : Int32)) (v := (-1 : Int32)) hx hb hr hlocks hK hP hD hS hw nd_S_branchIf_21
  have hw := (if_neg h9).symm.trans hw
  refine lv_aload_n hx hb nd_S_branchIf_12 rfl (lv_at hl 0 rfl) ?_
  refine va_get (D := D) (ci := 0) (v := .ref (h 6)) (C := nR_S) (T := nT_S) (N := 9) hx hb hts nu_S hown hK hP 0 rfl rfl 3 (by decide) (hts _ gw_66) (fun _ h9 => h9) rfl nd_S_branchIf_13 ?_
  refine lv_iload_n hx hb nd_S_branchIf_16 rfl (lv_at hl 2 rfl) ?_
  refine va_putN (D := D) (ci := 4) (v := .int a2) (ty := .int) (C := nR_O) (T := nT_O) (N := 5) hx hb hts nu_O nt_O nto_O nn_O hown hK hP hD hS 6 rfl rfl 4 (by decide) (va_Nw.use rfl (hN _ nm_14)) (fun _ h9 => h9) rfl (by decide +kernel) rfl rfl (Nat.le_of_ble_eq_true rfl) nd_S_branchIf_17 (fun H locs hP hD hS => ?_)
  have hP : va_P D vwCl (wSC h cA (sU (sU u 6 3 (1 : Int32)) 6 4 a2)) H := hP
  have hD : va_D A (wSC h cA (sU (sU u 6 3 (1 : Int32)) 6 4 a2)) := hD
  refine lv_iconst (v := (-1 : Int32)) hx hb nd_S_branchIf_20 (by decide) ?_
  exact my_ri (u' := sU (sU u 6 3 (1 : Int32)) 6 4 a2) (v := (-1 : Int32)) hx hb hr hlocks hK hP hD hS hw nd_S_branchIf_21
set_option maxHeartbeats 4000000 in
set_option maxRecDepth 100000 in
theorem c_S_keepHighAndLow (l : Launch) (D : va_G) (h : Nat → Nat) (cA : Nat → ClassId) (u : St) (a1 : Int64) (F : Int32 × St) (hw : f_S_keepHighAndLow a1 u = F) : MI nwS vwCl l ny_S_keepHighAndLow nw_S_keepHighAndLow ({ frames := 1, cells := 0, slots := 0, locals := 22 }) D (tyI cA) (wSC h cA) ([.ref (h 0), .long a1] : List Value) u F := by
  refine my_in (gw := GW) (cc := nc_S_keepHighAndLow) (maxL := 3) (ret := (some .int)) (Qc := fun A => QI vwCl D (tyI cA) (wSC h cA) F A) (by decide) rfl (Nat.le_of_ble_eq_true rfl) ?_
  intro p e s m below meth c A H locs ls hx hb hml hr hts hown hlocks hK hN hA hP hD hS hl
  have hown : s.vm.findClass nR_S = some m.cls := hown
  have hl : lv_has ls 3 [(0, .ref (h 0)), (1, .long a1)] := hl
  unfold f_S_keepHighAndLow at hw
  refine lv_aload_n hx hb nd_S_keepHighAndLow_0 rfl (lv_at hl 0 rfl) ?_
  refine va_get (D := D) (ci := 0) (v := .ref (h 3)) (C := nR_S) (T := nT_S) (N := 9) hx hb hts nu_S hown hK hP 0 rfl rfl 1 (by decide) (hts _ gw_64) (fun _ h9 => h9) rfl nd_S_keepHighAndLow_1 ?_
  refine lv_bipush (v := (32 : Int32)) hx hb nd_S_keepHighAndLow_4 (by decide) ?_
  refine lv_lload_n hx hb nd_S_keepHighAndLow_6 rfl (lv_at hl 1 rfl) ?_
  refine lv_bipush (v := (32 : Int32)) hx hb nd_S_keepHighAndLow_7 (by decide) ?_
  refine lv_lshr (v := a1 >>> ((32 : Int32).toInt64 &&& 63)) hx hb nd_S_keepHighAndLow_9 rfl ?_
  refine lv_l2i (v := (a1 >>> ((32 : Int32).toInt64 &&& 63)).toInt32) hx hb nd_S_keepHighAndLow_10 rfl ?_
  obtain ⟨u11, hq11, hw⟩ := bnv_i hw
  refine my_cv (wd := wSC h cA) (F := u11) (va_runVN (As := [.int (32 : Int32), .int ((a1 >>> ((32 : Int32).toInt64 &&& 63)).toInt32)]) (rest := []) ⟨hx, hb, hml, hown, hts⟩ (c_R_change l D h cA u (32 : Int32) ((a1 >>> ((32 : Int32).toInt64 &&& 63)).toInt32) u11 hq11 _) ⟨va_cnB 2 hts (gw_in gw_143) rfl rfl rfl (hN _ nm_27) (hts _ gw_3) nh_R_change ⟨Nat.le_of_ble_eq_true rfl, Nat.le_of_ble_eq_true rfl⟩, (hts _ gw_142), (hts _ gw_141)⟩ (my_preV nwOk hP hK hD hN (va_recv hK hP (ci := 2) (q0 := 3) rfl rfl)) rfl rfl hl.1 rfl (lv_room (Nat.le_of_ble_eq_true rfl)) nd_S_keepHighAndLow_11 ⟨Nat.le_of_ble_eq_true rfl, Nat.le_of_ble_eq_true rfl⟩) hD hS hA (fun H locs hP hD hS => ?_)
  refine lv_aload_n hx hb nd_S_keepHighAndLow_14 rfl (lv_at hl 0 rfl) ?_
  refine va_get (D := D) (ci := 0) (v := .ref (h 3)) (C := nR_S) (T := nT_S) (N := 9) hx hb hts nu_S hown hK hP 0 rfl rfl 1 (by decide) (hts _ gw_64) (fun _ h9 => h9) rfl nd_S_keepHighAndLow_15 ?_
  refine lv_bipush (v := (33 : Int32)) hx hb nd_S_keepHighAndLow_18 (by decide) ?_
  refine lv_lload_n hx hb nd_S_keepHighAndLow_20 rfl (lv_at hl 1 rfl) ?_
  refine lv_l2i (v := a1.toInt32) hx hb nd_S_keepHighAndLow_21 rfl ?_
  obtain ⟨u22, hq22, hw⟩ := bnv_i hw
  refine my_cv (wd := wSC h cA) (F := u22) (va_runVN (As := [.int (33 : Int32), .int a1.toInt32]) (rest := []) ⟨hx, hb, hml, hown, hts⟩ (c_R_change l D h cA u11 (33 : Int32) a1.toInt32 u22 hq22 _) ⟨va_cnB 2 hts (gw_in gw_143) rfl rfl rfl (hN _ nm_27) (hts _ gw_3) nh_R_change ⟨Nat.le_of_ble_eq_true rfl, Nat.le_of_ble_eq_true rfl⟩, (hts _ gw_142), (hts _ gw_141)⟩ (my_preV nwOk hP hK hD hN (va_recv hK hP (ci := 2) (q0 := 3) rfl rfl)) rfl rfl hl.1 rfl (lv_room (Nat.le_of_ble_eq_true rfl)) nd_S_keepHighAndLow_22 ⟨Nat.le_of_ble_eq_true rfl, Nat.le_of_ble_eq_true rfl⟩) hD hS hA (fun H locs hP hD hS => ?_)
  refine lv_iconst (v := (-1 : Int32)) hx hb nd_S_keepHighAndLow_25 (by decide) ?_
  exact my_ri (u' := u22) (v := (-1 : Int32)) hx hb hr hlocks hK hP hD hS hw nd_S_keepHighAndLow_26
set_option maxHeartbeats 4000000 in
set_option maxRecDepth 100000 in
theorem c_S_giveIfExact (l : Launch) (D : va_G) (h : Nat → Nat) (cA : Nat → ClassId) (u : St) (a1 : Int32) (a2 : Int64) (F : Int32 × St) (hw : f_S_giveIfExact a1 a2 u = F) : MI nwS vwCl l ny_S_giveIfExact nw_S_giveIfExact ({ frames := 1, cells := 0, slots := 0, locals := 22 }) D (tyI cA) (wSC h cA) ([.ref (h 0), .int a1, .long a2] : List Value) u F := by
  refine my_in (gw := GW) (cc := nc_S_giveIfExact) (maxL := 4) (ret := (some .int)) (Qc := fun A => QI vwCl D (tyI cA) (wSC h cA) F A) (by decide) rfl (Nat.le_of_ble_eq_true rfl) ?_
  intro p e s m below meth c A H locs ls hx hb hml hr hts hown hlocks hK hN hA hP hD hS hl
  have hown : s.vm.findClass nR_S = some m.cls := hown
  have hl : lv_has ls 4 [(0, .ref (h 0)), (1, .int a1), (2, .long a2)] := hl
  unfold f_S_giveIfExact at hw
  refine lv_lload_n hx hb nd_S_giveIfExact_0 rfl (lv_at hl 2 rfl) ?_
  refine lv_lload_n hx hb nd_S_giveIfExact_1 rfl (lv_at hl 2 rfl) ?_
  refine lv_l2i (v := a2.toInt32) hx hb nd_S_giveIfExact_2 rfl ?_
  refine lv_i2l (v := a2.toInt32.toInt64) hx hb nd_S_giveIfExact_3 rfl ?_
  refine W.lcmp hx hb nd_S_giveIfExact_4 ?_
  refine lv_if_eq (tgt := 11) hx hb nd_S_giveIfExact_5 (by decide) (fun h5 => ?_) (fun h5 => ?_)
  · have hw := (if_pos h5).symm.trans hw
    refine lv_aload_n hx hb nd_S_giveIfExact_11 rfl (lv_at hl 0 rfl) ?_
    refine lv_iload_n hx hb nd_S_giveIfExact_12 rfl (lv_at hl 1 rfl) ?_
    refine lv_lload_n hx hb nd_S_giveIfExact_13 rfl (lv_at hl 2 rfl) ?_
    refine lv_l2i (v := a2.toInt32) hx hb nd_S_giveIfExact_14 rfl ?_
    obtain ⟨r15, u15, hq15, hw⟩ := bnd_i hw
    refine my_ci (wd := wSC h cA) (r := r15) (u' := u15) (va_runV (As := [.int a1, .int a2.toInt32]) (rest := []) ⟨hx, hb, hml, hown, hts⟩ (c_S_give l D h cA u a1 a2.toInt32 (r15, u15) hq15 _) ⟨callB_of 2 hts (gw_in gw_223) rfl rfl rfl (hts _ gw_1) (hts _ gw_220) nh_S_give ⟨Nat.le_of_ble_eq_true rfl, Nat.le_of_ble_eq_true rfl⟩, (hts _ gw_222), (hts _ gw_221)⟩ (my_preV nwOk hP hK hD hN (va_recv hK hP (ci := 0) (q0 := 0) rfl rfl)) rfl rfl hl.1 rfl (lv_room (Nat.le_of_ble_eq_true rfl)) nd_S_giveIfExact_15 ⟨Nat.le_of_ble_eq_true rfl, Nat.le_of_ble_eq_true rfl⟩) hD hS hA (fun H locs hP hD hS => ?_)
    exact my_ri (u' := u15) (v := r15) hx hb hr hlocks hK hP hD hS hw nd_S_giveIfExact_18
  have hw := (if_neg h5).symm.trans hw
  refine lv_bipush (v := (12 : Int32)) hx hb nd_S_giveIfExact_8 (by decide) ?_
  exact my_ri (u' := u) (v := (12 : Int32)) hx hb hr hlocks hK hP hD hS hw nd_S_giveIfExact_10
set_option maxHeartbeats 4000000 in
set_option maxRecDepth 100000 in
theorem c_S_giveTruth (l : Launch) (D : va_G) (h : Nat → Nat) (cA : Nat → ClassId) (u : St) (a1 : Int32) (a2 : Int32) (F : Int32 × St) (hw : f_S_giveTruth a1 a2 u = F) : MI nwS vwCl l ny_S_giveTruth nw_S_giveTruth ({ frames := 1, cells := 0, slots := 0, locals := 22 }) D (tyI cA) (wSC h cA) ([.ref (h 0), .int a1, .int (zb a2)] : List Value) u F := by
  refine my_in (gw := GW) (cc := nc_S_giveTruth) (maxL := 3) (ret := (some .int)) (Qc := fun A => QI vwCl D (tyI cA) (wSC h cA) F A) (by decide) rfl (Nat.le_of_ble_eq_true rfl) ?_
  intro p e s m below meth c A H locs ls hx hb hml hr hts hown hlocks hK hN hA hP hD hS hl
  have hown : s.vm.findClass nR_S = some m.cls := hown
  have hl : lv_has ls 3 [(0, .ref (h 0)), (1, .int a1), (2, .int (zb a2))] := hl
  have J11 : ∀ (y0 : Int32) (y1 : Int32) (u : St) (H : Heap) (locs : List Loc) (ls : Array Slot), va_P D vwCl (wSC h cA u) H → va_D A (wSC h cA u) → va_S A s.heap H locs → lv_has ls 3 [] → f_S_giveTruth_b11 y0 y1 u = F →
      W p l e (headSpec nw_S_giveTruth ({ frames := 1, cells := 0, slots := 0, locals := 22 })).room s m ([.ref (h 0), .int a1, .int (zb a2)] : List Value).toArray below meth c H locs 0 0 (MQ below (QI vwCl D (tyI cA) (wSC h cA) F A) ([.ref (h 0), .int a1, .int (zb a2)] : List Value).toArray s 0 0 A) (F0 m 11 ls [.int y0, .int y1, .ref (h 0)]) := by
    intro y0 y1 u H locs ls hP hD hS hl hw
    unfold f_S_giveTruth_b11 at hw
    obtain ⟨r11, u11, hq11, hw⟩ := bnd_i hw
    refine my_ci (wd := wSC h cA) (r := r11) (u' := u11) (va_runV (As := [.int y1, .int y0]) (rest := []) ⟨hx, hb, hml, hown, hts⟩ (c_S_give l D h cA u y1 y0 (r11, u11) hq11 _) ⟨callB_of 2 hts (gw_in gw_223) rfl rfl rfl (hts _ gw_1) (hts _ gw_220) nh_S_give ⟨Nat.le_of_ble_eq_true rfl, Nat.le_of_ble_eq_true rfl⟩, (hts _ gw_222), (hts _ gw_221)⟩ (my_preV nwOk hP hK hD hN (va_recv hK hP (ci := 0) (q0 := 0) rfl rfl)) rfl rfl hl.1 rfl (lv_room (Nat.le_of_ble_eq_true rfl)) nd_S_giveTruth_11 ⟨Nat.le_of_ble_eq_true rfl, Nat.le_of_ble_eq_true rfl⟩) hD hS hA (fun H locs hP hD hS => ?_)
    exact my_ri (u' := u11) (v := r11) hx hb hr hlocks hK hP hD hS hw nd_S_giveTruth_14
  unfold f_S_giveTruth at hw
  refine lv_aload_n hx hb nd_S_giveTruth_0 rfl (lv_at hl 0 rfl) ?_
  refine lv_iload_n hx hb nd_S_giveTruth_1 rfl (lv_at hl 1 rfl) ?_
  refine lv_iload_n hx hb nd_S_giveTruth_2 rfl (lv_at hl 2 rfl) ?_
  refine lv_if_eq (tgt := 10) hx hb nd_S_giveTruth_3 (by decide) (fun h3 => ?_) (fun h3 => ?_)
  · have hw := (if_pos h3).symm.trans hw
    refine lv_iconst (v := (0 : Int32)) hx hb nd_S_giveTruth_10 (by decide) ?_
    exact J11 (0 : Int32) a1 u H locs ls hP hD hS (lv_sub hl [] rfl) hw
  have hw := (if_neg h3).symm.trans hw
  refine lv_iconst (v := (1 : Int32)) hx hb nd_S_giveTruth_6 (by decide) ?_
  refine lv_goto (tgt := 11) hx hb nd_S_giveTruth_7 (by decide) ?_
  exact J11 (1 : Int32) a1 u H locs ls hP hD hS (lv_sub hl [] rfl) hw
set_option maxHeartbeats 4000000 in
set_option maxRecDepth 100000 in
theorem c_S_nearTarget (l : Launch) (D : va_G) (h : Nat → Nat) (cA : Nat → ClassId) (u : St) (a1 : Int32) (F : Int32) (hw : f_S_nearTarget a1 u = F) : MI nwS vwCl l ny_S_nearTarget nw_S_nearTarget ({ frames := 1, cells := 0, slots := 0, locals := 20 }) D (tyI cA) (wSC h cA) ([.ref (h 0), .int a1] : List Value) u (F, u) := by
  refine my_in (gw := GW) (cc := nc_S_nearTarget) (maxL := 2) (ret := (some .int)) (Qc := fun A => QI vwCl D (tyI cA) (wSC h cA) (F, u) A) (by decide) rfl (Nat.le_of_ble_eq_true rfl) ?_
  intro p e s m below meth c A H locs ls hx hb hml hr hts hown hlocks hK hN hA hP hD hS hl
  have hown : s.vm.findClass nR_S = some m.cls := hown
  have hl : lv_has ls 2 [(0, .ref (h 0)), (1, .int a1)] := hl
  unfold f_S_nearTarget at hw
  refine lv_aload_n hx hb nd_S_nearTarget_0 rfl (lv_at hl 0 rfl) ?_
  refine va_get (D := D) (ci := 0) (v := .int (u 0 4)) (C := nR_S) (T := nT_S) (N := 9) hx hb hts nu_S hown hK hP 0 rfl rfl 4 (by decide) (hts _ gw_67) (fun _ h9 => h9) rfl nd_S_nearTarget_1 ?_
  refine lv_iconst (v := (4 : Int32)) hx hb nd_S_nearTarget_4 (by decide) ?_
  refine lv_iadd hx hb nd_S_nearTarget_5 ?_
  refine lv_iconst (v := (4 : Int32)) hx hb nd_S_nearTarget_6 (by decide) ?_
  refine lv_iload_n hx hb nd_S_nearTarget_7 rfl (lv_at hl 1 rfl) ?_
  refine my_cp (F := f_S_numberI a1) (va_runS (As := [.int a1]) (rest := [.int (4 : Int32), .int ((u 0 4) + (4 : Int32))]) ⟨hx, hb, hml, hown, hts⟩ (c_S_numberI l a1 _ rfl) ⟨callB_of 1 hts (gw_in gw_280) rfl rfl rfl (hts _ gw_1) (hts _ gw_278) nh_S_numberI ⟨Nat.le_of_ble_eq_true rfl, Nat.le_of_ble_eq_true rfl⟩, (hts _ gw_279)⟩ my_preP rfl rfl hl.1 rfl (lv_room (Nat.le_of_ble_eq_true rfl)) nd_S_nearTarget_8 ⟨Nat.le_of_ble_eq_true rfl, Nat.le_of_ble_eq_true rfl⟩) hP hS (fun H locs hP hS => ?_)
  refine lv_imul hx hb nd_S_nearTarget_11 ?_
  refine lv_iadd hx hb nd_S_nearTarget_12 ?_
  exact my_ri (u' := u) (v := ((u 0 4) + (4 : Int32)) + ((4 : Int32) * (f_S_numberI a1))) hx hb hr hlocks hK hP hD hS (congrArg (fun z9 => (z9, u)) hw) nd_S_nearTarget_13
set_option maxHeartbeats 4000000 in
set_option maxRecDepth 100000 in
theorem c_S_farTarget (l : Launch) (D : va_G) (h : Nat → Nat) (cA : Nat → ClassId) (u : St) (a1 : Int32) (F : Int32) (hw : f_S_farTarget a1 u = F) : MI nwS vwCl l ny_S_farTarget nw_S_farTarget ({ frames := 0, cells := 0, slots := 0, locals := 0 }) D (tyI cA) (wSC h cA) ([.ref (h 0), .int a1] : List Value) u (F, u) := by
  refine my_in (gw := GW) (cc := nc_S_farTarget) (maxL := 2) (ret := (some .int)) (Qc := fun A => QI vwCl D (tyI cA) (wSC h cA) (F, u) A) (by decide) rfl (Nat.le_of_ble_eq_true rfl) ?_
  intro p e s m below meth c A H locs ls hx hb hml hr hts hown hlocks hK hN hA hP hD hS hl
  have hown : s.vm.findClass nR_S = some m.cls := hown
  have hl : lv_has ls 2 [(0, .ref (h 0)), (1, .int a1)] := hl
  unfold f_S_farTarget at hw
  refine lv_aload_n hx hb nd_S_farTarget_0 rfl (lv_at hl 0 rfl) ?_
  refine va_get (D := D) (ci := 0) (v := .int (u 0 4)) (C := nR_S) (T := nT_S) (N := 9) hx hb hts nu_S hown hK hP 0 rfl rfl 4 (by decide) (hts _ gw_67) (fun _ h9 => h9) rfl nd_S_farTarget_1 ?_
  refine lv_iconst (v := (4 : Int32)) hx hb nd_S_farTarget_4 (by decide) ?_
  refine lv_iadd hx hb nd_S_farTarget_5 ?_
  refine lv_ldcw (own := nR_S) (v := (-268435456 : Int32)) hx hb hown (hts _ gw_289) nd_S_farTarget_6 ?_
  refine lv_iand hx hb nd_S_farTarget_9 ?_
  refine lv_iload_n hx hb nd_S_farTarget_10 rfl (lv_at hl 1 rfl) ?_
  refine lv_iconst (v := (2 : Int32)) hx hb nd_S_farTarget_11 (by decide) ?_
  refine lv_ishl hx hb nd_S_farTarget_12 ?_
  refine lv_ldcw (own := nR_S) (v := (268435455 : Int32)) hx hb hown (hts _ gw_290) nd_S_farTarget_13 ?_
  refine lv_iand hx hb nd_S_farTarget_16 ?_
  refine lv_ior hx hb nd_S_farTarget_17 ?_
  exact my_ri (u' := u) (v := (((u 0 4) + (4 : Int32)) &&& (-268435456 : Int32)) ||| ((a1 <<< ((2 : Int32) &&& 31)) &&& (268435455 : Int32))) hx hb hr hlocks hK hP hD hS (congrArg (fun z9 => (z9, u)) hw) nd_S_farTarget_18
set_option maxHeartbeats 4000000 in
set_option maxRecDepth 100000 in
theorem c_S_giveLate (l : Launch) (D : va_G) (h : Nat → Nat) (cA : Nat → ClassId) (u : St) (a1 : Int32) (a2 : Int32) (F : Int32 × St) (hw : f_S_giveLate a1 a2 u = F) : MI nwS vwCl l ny_S_giveLate nw_S_giveLate ({ frames := 1, cells := 0, slots := 0, locals := 22 }) D (tyI cA) (wSC h cA) ([.ref (h 0), .int a1, .int a2] : List Value) u F := by
  refine my_in (gw := GW) (cc := nc_S_giveLate) (maxL := 3) (ret := (some .int)) (Qc := fun A => QI vwCl D (tyI cA) (wSC h cA) F A) (by decide) rfl (Nat.le_of_ble_eq_true rfl) ?_
  intro p e s m below meth c A H locs ls hx hb hml hr hts hown hlocks hK hN hA hP hD hS hl
  have hown : s.vm.findClass nR_S = some m.cls := hown
  have hl : lv_has ls 3 [(0, .ref (h 0)), (1, .int a1), (2, .int a2)] := hl
  unfold f_S_giveLate at hw
  refine lv_aload_n hx hb nd_S_giveLate_0 rfl (lv_at hl 0 rfl) ?_
  refine va_get (D := D) (ci := 0) (v := .ref (h 6)) (C := nR_S) (T := nT_S) (N := 9) hx hb hts nu_S hown hK hP 0 rfl rfl 3 (by decide) (hts _ gw_66) (fun _ h9 => h9) rfl nd_S_giveLate_1 ?_
  refine lv_iconst (v := (1 : Int32)) hx hb nd_S_giveLate_4 (by decide) ?_
  refine va_putN (D := D) (ci := 4) (v := .int (zb (1 : Int32))) (ty := .boolean) (C := nR_O) (T := nT_O) (N := 5) hx hb hts nu_O nt_O nto_O nn_O hown hK hP hD hS 6 rfl rfl 2 (by decide) (va_Nw.use rfl (hN _ nm_12)) (fun _ h9 => h9) rfl (by decide +kernel) (zb_n _) (zb_f _) (Nat.le_of_ble_eq_true rfl) nd_S_giveLate_5 (fun H locs hP hD hS => ?_)
  have hP : va_P D vwCl (wSC h cA (sU u 6 2 (1 : Int32))) H := hP
  have hD : va_D A (wSC h cA (sU u 6 2 (1 : Int32))) := hD
  refine lv_aload_n hx hb nd_S_giveLate_8 rfl (lv_at hl 0 rfl) ?_
  refine lv_iload_n hx hb nd_S_giveLate_9 rfl (lv_at hl 1 rfl) ?_
  refine lv_iload_n hx hb nd_S_giveLate_10 rfl (lv_at hl 2 rfl) ?_
  obtain ⟨r11, u11, hq11, hw⟩ := bnd_i hw
  refine my_ci (wd := wSC h cA) (r := r11) (u' := u11) (va_runV (As := [.int a1, .int a2]) (rest := []) ⟨hx, hb, hml, hown, hts⟩ (c_S_give l D h cA (sU u 6 2 (1 : Int32)) a1 a2 (r11, u11) hq11 _) ⟨callB_of 2 hts (gw_in gw_223) rfl rfl rfl (hts _ gw_1) (hts _ gw_220) nh_S_give ⟨Nat.le_of_ble_eq_true rfl, Nat.le_of_ble_eq_true rfl⟩, (hts _ gw_222), (hts _ gw_221)⟩ (my_preV nwOk hP hK hD hN (va_recv hK hP (ci := 0) (q0 := 0) rfl rfl)) rfl rfl hl.1 rfl (lv_room (Nat.le_of_ble_eq_true rfl)) nd_S_giveLate_11 ⟨Nat.le_of_ble_eq_true rfl, Nat.le_of_ble_eq_true rfl⟩) hD hS hA (fun H locs hP hD hS => ?_)
  exact my_ri (u' := u11) (v := r11) hx hb hr hlocks hK hP hD hS hw nd_S_giveLate_14
set_option maxHeartbeats 4000000 in
set_option maxRecDepth 100000 in
theorem c_S_addressOf (l : Launch) (D : va_G) (h : Nat → Nat) (cA : Nat → ClassId) (u : St) (a1 : Int32) (F : Int32) (hw : f_S_addressOf a1 u = F) : MI nwS vwCl l ny_S_addressOf nw_S_addressOf ({ frames := 2, cells := 0, slots := 0, locals := 42 }) D (tyI cA) (wSC h cA) ([.ref (h 0), .int a1] : List Value) u (F, u) := by
  refine my_in (gw := GW) (cc := nc_S_addressOf) (maxL := 2) (ret := (some .int)) (Qc := fun A => QI vwCl D (tyI cA) (wSC h cA) (F, u) A) (by decide) rfl (Nat.le_of_ble_eq_true rfl) ?_
  intro p e s m below meth c A H locs ls hx hb hml hr hts hown hlocks hK hN hA hP hD hS hl
  have hown : s.vm.findClass nR_S = some m.cls := hown
  have hl : lv_has ls 2 [(0, .ref (h 0)), (1, .int a1)] := hl
  unfold f_S_addressOf at hw
  refine lv_aload_n hx hb nd_S_addressOf_0 rfl (lv_at hl 0 rfl) ?_
  refine lv_iload_n hx hb nd_S_addressOf_1 rfl (lv_at hl 1 rfl) ?_
  refine my_ci (wd := wSC h cA) (r := f_S_valueOfS a1 u) (u' := u) (va_runV (As := [.int a1]) (rest := []) ⟨hx, hb, hml, hown, hts⟩ (c_S_valueOfS l D h cA u a1 _ rfl _) ⟨callB_of 1 hts (gw_in gw_213) rfl rfl rfl (hts _ gw_1) (hts _ gw_210) nh_S_valueOfS ⟨Nat.le_of_ble_eq_true rfl, Nat.le_of_ble_eq_true rfl⟩, (hts _ gw_212), (hts _ gw_211)⟩ (my_preV nwOk hP hK hD hN (va_recv hK hP (ci := 0) (q0 := 0) rfl rfl)) rfl rfl hl.1 rfl (lv_room (Nat.le_of_ble_eq_true rfl)) nd_S_addressOf_2 ⟨Nat.le_of_ble_eq_true rfl, Nat.le_of_ble_eq_true rfl⟩) hD hS hA (fun H locs hP hD hS => ?_)
  refine lv_iload_n hx hb nd_S_addressOf_5 rfl (lv_at hl 1 rfl) ?_
  refine my_cp (F := f_S_numberI a1) (va_runS (As := [.int a1]) (rest := [.int (f_S_valueOfS a1 u)]) ⟨hx, hb, hml, hown, hts⟩ (c_S_numberI l a1 _ rfl) ⟨callB_of 1 hts (gw_in gw_280) rfl rfl rfl (hts _ gw_1) (hts _ gw_278) nh_S_numberI ⟨Nat.le_of_ble_eq_true rfl, Nat.le_of_ble_eq_true rfl⟩, (hts _ gw_279)⟩ my_preP rfl rfl hl.1 rfl (lv_room (Nat.le_of_ble_eq_true rfl)) nd_S_addressOf_6 ⟨Nat.le_of_ble_eq_true rfl, Nat.le_of_ble_eq_true rfl⟩) hP hS (fun H locs hP hS => ?_)
  refine lv_iadd hx hb nd_S_addressOf_9 ?_
  exact my_ri (u' := u) (v := (f_S_valueOfS a1 u) + (f_S_numberI a1)) hx hb hr hlocks hK hP hD hS (congrArg (fun z9 => (z9, u)) hw) nd_S_addressOf_10
set_option maxHeartbeats 4000000 in
set_option maxRecDepth 100000 in
theorem c_S_faultOfData (l : Launch) (D : va_G) (h : Nat → Nat) (cA : Nat → ClassId) (u : St) (a1 : Int32) (a2 : Int32) (a3 : Int32) (F : Int32 × St) (hw : f_S_faultOfData a1 a2 a3 u = F) : MI nwS vwCl l ny_S_faultOfData nw_S_faultOfData ({ frames := 2, cells := 0, slots := 0, locals := 41 }) D (tyI cA) (wSC h cA) ([.ref (h 0), .int a1, .int a2, .int a3] : List Value) u F := by
  refine my_in (gw := GW) (cc := nc_S_faultOfData) (maxL := 4) (ret := (some .int)) (Qc := fun A => QI vwCl D (tyI cA) (wSC h cA) F A) (by decide) rfl (Nat.le_of_ble_eq_true rfl) ?_
  intro p e s m below meth c A H locs ls hx hb hml hr hts hown hlocks hK hN hA hP hD hS hl
  have hown : s.vm.findClass nR_S = some m.cls := hown
  have hl : lv_has ls 4 [(0, .ref (h 0)), (1, .int a1), (2, .int a2), (3, .int a3)] := hl
  have J19 : ∀ (x1 : Int32) (x3 : Int32) (u : St) (H : Heap) (locs : List Loc) (ls : Array Slot), va_P D vwCl (wSC h cA u) H → va_D A (wSC h cA u) → va_S A s.heap H locs → lv_has ls 4 [(0, .ref (h 0)), (1, .int x1), (3, .int x3)] → f_S_faultOfData_b19 x1 x3 u = F →
      W p l e (headSpec nw_S_faultOfData ({ frames := 2, cells := 0, slots := 0, locals := 41 })).room s m ([.ref (h 0), .int a1, .int a2, .int a3] : List Value).toArray below meth c H locs 0 0 (MQ below (QI vwCl D (tyI cA) (wSC h cA) F A) ([.ref (h 0), .int a1, .int a2, .int a3] : List Value).toArray s 0 0 A) (F0 m 19 ls []) := by
    intro x1 x3 u H locs ls hP hD hS hl hw
    unfold f_S_faultOfData_b19 at hw
    refine lv_aload_n hx hb nd_S_faultOfData_19 rfl (lv_at hl 0 rfl) ?_
    refine va_get (D := D) (ci := 0) (v := .ref (h 5)) (C := nR_S) (T := nT_S) (N := 9) hx hb hts nu_S hown hK hP 0 rfl rfl 2 (by decide) (hts _ gw_65) (fun _ h9 => h9) rfl nd_S_faultOfData_20 ?_
    refine lv_iload_n hx hb nd_S_faultOfData_23 rfl (lv_at hl 1 rfl) ?_
    refine va_putN (D := D) (ci := 3) (v := .int x1) (ty := .int) (C := nR_C) (T := nT_C) (N := 5) hx hb hts nu_C nt_C nto_C nn_C hown hK hP hD hS 5 rfl rfl 4 (by decide) (va_Nw.use rfl (hN _ nm_8)) (fun _ h9 => h9) rfl (by decide +kernel) rfl rfl (Nat.le_of_ble_eq_true rfl) nd_S_faultOfData_24 (fun H locs hP hD hS => ?_)
    have hP : va_P D vwCl (wSC h cA (sU u 5 4 x1)) H := hP
    have hD : va_D A (wSC h cA (sU u 5 4 x1)) := hD
    refine lv_iload_n hx hb nd_S_faultOfData_27 rfl (lv_at hl 2 rfl) ?_
    exact my_ri (u' := sU u 5 4 x1) (v := x3) hx hb hr hlocks hK hP hD hS hw nd_S_faultOfData_28
  unfold f_S_faultOfData at hw
  refine lv_iload_n hx hb nd_S_faultOfData_0 rfl (lv_at hl 1 rfl) ?_
  refine lv_iload_n hx hb nd_S_faultOfData_1 rfl (lv_at hl 2 rfl) ?_
  refine lv_iconst (v := (1 : Int32)) hx hb nd_S_faultOfData_2 (by decide) ?_
  refine lv_isub hx hb nd_S_faultOfData_3 ?_
  refine lv_iand hx hb nd_S_faultOfData_4 ?_
  refine lv_if_ne (tgt := 19) hx hb nd_S_faultOfData_5 (by decide) (fun h5 => ?_) (fun h5 => ?_)
  · have hw := (if_neg h5).symm.trans hw
    exact J19 a1 a3 u H locs ls hP hD hS (lv_sub hl [0, 1, 3] rfl) hw
  have hw := (if_pos h5).symm.trans hw
  refine lv_aload_n hx hb nd_S_faultOfData_8 rfl (lv_at hl 0 rfl) ?_
  refine va_get (D := D) (ci := 0) (v := .ref (h 5)) (C := nR_S) (T := nT_S) (N := 9) hx hb hts nu_S hown hK hP 0 rfl rfl 2 (by decide) (hts _ gw_65) (fun _ h9 => h9) rfl nd_S_faultOfData_9 ?_
  refine lv_iload_n hx hb nd_S_faultOfData_12 rfl (lv_at hl 1 rfl) ?_
  refine my_ci (wd := wSC h cA) (r := zb (f_C_forbids a1 u)) (u' := u) (va_runVN (As := [.int a1]) (rest := []) ⟨hx, hb, hml, hown, hts⟩ (c_C_forbids l D h cA u a1 _ rfl _) ⟨va_cnB 1 hts (gw_in gw_155) rfl rfl rfl (hN _ nm_23) (hts _ gw_4) nh_C_forbids ⟨Nat.le_of_ble_eq_true rfl, Nat.le_of_ble_eq_true rfl⟩, (hts _ gw_154), (hts _ gw_153)⟩ (my_preV nwOk hP hK hD hN (va_recv hK hP (ci := 3) (q0 := 5) rfl rfl)) rfl rfl hl.1 rfl (lv_room (Nat.le_of_ble_eq_true rfl)) nd_S_faultOfData_13 ⟨Nat.le_of_ble_eq_true rfl, Nat.le_of_ble_eq_true rfl⟩) hD hS hA (fun H locs hP hD hS => ?_)
  refine lv_if_eq (tgt := 29) hx hb nd_S_faultOfData_16 (by decide) (fun h16 => ?_) (fun h16 => ?_)
  · have hw := (if_pos h16).symm.trans hw
    refine lv_iload_n hx hb nd_S_faultOfData_29 rfl (lv_at hl 1 rfl) ?_
    refine lv_ldc (own := nR_S) (v := (536870911 : Int32)) hx hb hown (hts _ gw_160) nd_S_faultOfData_30 ?_
    refine lv_iand hx hb nd_S_faultOfData_32 ?_
    refine my_cp (F := zb (f_S_isInMemory (a1 &&& (536870911 : Int32)))) (va_runS (As := [.int (a1 &&& (536870911 : Int32))]) (rest := []) ⟨hx, hb, hml, hown, hts⟩ (c_S_isInMemory l (a1 &&& (536870911 : Int32)) _ rfl) ⟨callB_of 1 hts (gw_in gw_163) rfl rfl rfl (hts _ gw_1) (hts _ gw_161) nh_S_isInMemory ⟨Nat.le_of_ble_eq_true rfl, Nat.le_of_ble_eq_true rfl⟩, (hts _ gw_162)⟩ my_preP rfl rfl hl.1 rfl (lv_room (Nat.le_of_ble_eq_true rfl)) nd_S_faultOfData_33 ⟨Nat.le_of_ble_eq_true rfl, Nat.le_of_ble_eq_true rfl⟩) hP hS (fun H locs hP hS => ?_)
    refine lv_if_eq (tgt := 43) hx hb nd_S_faultOfData_36 (by decide) (fun h36 => ?_) (fun h36 => ?_)
    · have hw := (if_pos h36).symm.trans hw
      refine lv_bipush (v := (7 : Int32)) hx hb nd_S_faultOfData_43 (by decide) ?_
      exact my_ri (u' := u) (v := (7 : Int32)) hx hb hr hlocks hK hP hD hS hw nd_S_faultOfData_45
    have hw := (if_neg h36).symm.trans hw
    refine lv_iconst (v := (-1 : Int32)) hx hb nd_S_faultOfData_39 (by decide) ?_
    refine lv_goto (tgt := 45) hx hb nd_S_faultOfData_40 (by decide) ?_
    exact my_ri (u' := u) (v := (-1 : Int32)) hx hb hr hlocks hK hP hD hS hw nd_S_faultOfData_45
  have hw := (if_neg h16).symm.trans hw
  exact J19 a1 a3 u H locs ls hP hD hS (lv_sub hl [0, 1, 3] rfl) hw
end
section
set_option maxHeartbeats 4000000 in
set_option maxRecDepth 100000 in
theorem c_S_performShift (l : Launch) (D : va_G) (h : Nat → Nat) (cA : Nat → ClassId) (u : St) (a1 : Int32) (F : Int32 × St) (hw : f_S_performShift a1 u = F) : MI nwS vwCl l ny_S_performShift nw_S_performShift ({ frames := 2, cells := 0, slots := 0, locals := 42 }) D (tyI cA) (wSC h cA) ([.ref (h 0), .int a1] : List Value) u F := by
  refine my_in (gw := GW) (cc := nc_S_performShift) (maxL := 5) (ret := (some .int)) (Qc := fun A => QI vwCl D (tyI cA) (wSC h cA) F A) (by decide) rfl (Nat.le_of_ble_eq_true rfl) ?_
  intro p e s m below meth c A H locs ls hx hb hml hr hts hown hlocks hK hN hA hP hD hS hl
  have hown : s.vm.findClass nR_S = some m.cls := hown
  have hl : lv_has ls 5 [(0, .ref (h 0)), (1, .int a1)] := hl
  have J124 : ∀ (x2 : Int32) (x3 : Int32) (x4 : Int32) (u : St) (H : Heap) (locs : List Loc) (ls : Array Slot), va_P D vwCl (wSC h cA u) H → va_D A (wSC h cA u) → va_S A s.heap H locs → lv_has ls 5 [(0, .ref (h 0)), (2, .int x2), (3, .int x3), (4, .int x4)] → f_S_performShift_b124 x2 x3 x4 u = F →
      W p l e (headSpec nw_S_performShift ({ frames := 2, cells := 0, slots := 0, locals := 42 })).room s m ([.ref (h 0), .int a1] : List Value).toArray below meth c H locs 0 0 (MQ below (QI vwCl D (tyI cA) (wSC h cA) F A) ([.ref (h 0), .int a1] : List Value).toArray s 0 0 A) (F0 m 124 ls []) := by
    intro x2 x3 x4 u H locs ls hP hD hS hl hw
    unfold f_S_performShift_b124 at hw
    refine lv_aload_n hx hb nd_S_performShift_124 rfl (lv_at hl 0 rfl) ?_
    refine lv_iload_n hx hb nd_S_performShift_125 rfl (lv_at hl 2 rfl) ?_
    refine lv_iload_n hx hb nd_S_performShift_126 rfl (lv_at hl 1 rfl) ?_
    refine lv_iload hx hb nd_S_performShift_127 (lv_at hl 3 rfl) ?_
    refine lv_ishr hx hb nd_S_performShift_129 ?_
    obtain ⟨r130, u130, hq130, hw⟩ := bnd_i hw
    refine my_ci (wd := wSC h cA) (r := r130) (u' := u130) (va_runV (As := [.int x3, .int (x2 >>> (x4 &&& 31))]) (rest := []) ⟨hx, hb, hml, hown, hts⟩ (c_S_give l D h cA u x3 (x2 >>> (x4 &&& 31)) (r130, u130) hq130 _) ⟨callB_of 2 hts (gw_in gw_223) rfl rfl rfl (hts _ gw_1) (hts _ gw_220) nh_S_give ⟨Nat.le_of_ble_eq_true rfl, Nat.le_of_ble_eq_true rfl⟩, (hts _ gw_222), (hts _ gw_221)⟩ (my_preV nwOk hP hK hD hN (va_recv hK hP (ci := 0) (q0 := 0) rfl rfl)) rfl rfl hl.1 rfl (lv_room (Nat.le_of_ble_eq_true rfl)) nd_S_performShift_130 ⟨Nat.le_of_ble_eq_true rfl, Nat.le_of_ble_eq_true rfl⟩) hD hS hA (fun H locs hP hD hS => ?_)
    exact my_ri (u' := u130) (v := r130) hx hb hr hlocks hK hP hD hS hw nd_S_performShift_133
  unfold f_S_performShift at hw
  refine lv_aload_n hx hb nd_S_performShift_0 rfl (lv_at hl 0 rfl) ?_
  refine lv_iload_n hx hb nd_S_performShift_1 rfl (lv_at hl 1 rfl) ?_
  refine my_ci (wd := wSC h cA) (r := f_S_valueOfT a1 u) (u' := u) (va_runV (As := [.int a1]) (rest := []) ⟨hx, hb, hml, hown, hts⟩ (c_S_valueOfT l D h cA u a1 _ rfl _) ⟨callB_of 1 hts (gw_in gw_203) rfl rfl rfl (hts _ gw_1) (hts _ gw_200) nh_S_valueOfT ⟨Nat.le_of_ble_eq_true rfl, Nat.le_of_ble_eq_true rfl⟩, (hts _ gw_202), (hts _ gw_201)⟩ (my_preV nwOk hP hK hD hN (va_recv hK hP (ci := 0) (q0 := 0) rfl rfl)) rfl rfl hl.1 rfl (lv_room (Nat.le_of_ble_eq_true rfl)) nd_S_performShift_2 ⟨Nat.le_of_ble_eq_true rfl, Nat.le_of_ble_eq_true rfl⟩) hD hS hA (fun H locs hP hD hS => ?_)
  refine lv_istore_n (lv' := [(2, .int (f_S_valueOfT a1 u)), (0, .ref (h 0)), (1, .int a1)]) hx hb nd_S_performShift_5 rfl hl (by decide) rfl (fun ls hl => ?_)
  refine lv_iload_n hx hb nd_S_performShift_6 rfl (lv_at hl 2 rfl) ?_
  refine my_cp (F := f_S_numberD a1) (va_runS (As := [.int a1]) (rest := []) ⟨hx, hb, hml, hown, hts⟩ (c_S_numberD l a1 _ rfl) ⟨callB_of 1 hts (gw_in gw_209) rfl rfl rfl (hts _ gw_1) (hts _ gw_207) nh_S_numberD ⟨Nat.le_of_ble_eq_true rfl, Nat.le_of_ble_eq_true rfl⟩, (hts _ gw_208)⟩ my_preP rfl rfl hl.1 rfl (lv_room (Nat.le_of_ble_eq_true rfl)) nd_S_performShift_7 ⟨Nat.le_of_ble_eq_true rfl, Nat.le_of_ble_eq_true rfl⟩) hP hS (fun H locs hP hS => ?_)
  refine lv_istore_n (lv' := [(3, .int (f_S_numberD a1)), (2, .int (f_S_valueOfT a1 u)), (0, .ref (h 0)), (1, .int a1)]) hx hb nd_S_performShift_10 rfl hl (by decide) rfl (fun ls hl => ?_)
  refine lv_aload_n hx hb nd_S_performShift_11 rfl (lv_at hl 2 rfl) ?_
  refine lv_iload_n hx hb nd_S_performShift_12 rfl (lv_at hl 3 rfl) ?_
  refine my_ci (wd := wSC h cA) (r := f_S_valueOfS a1 u) (u' := u) (va_runV (As := [.int a1]) (rest := []) ⟨hx, hb, hml, hown, hts⟩ (c_S_valueOfS l D h cA u a1 _ rfl _) ⟨callB_of 1 hts (gw_in gw_213) rfl rfl rfl (hts _ gw_1) (hts _ gw_210) nh_S_valueOfS ⟨Nat.le_of_ble_eq_true rfl, Nat.le_of_ble_eq_true rfl⟩, (hts _ gw_212), (hts _ gw_211)⟩ (my_preV nwOk hP hK hD hN (va_recv hK hP (ci := 0) (q0 := 0) rfl rfl)) rfl rfl hl.1 rfl (lv_room (Nat.le_of_ble_eq_true rfl)) nd_S_performShift_13 ⟨Nat.le_of_ble_eq_true rfl, Nat.le_of_ble_eq_true rfl⟩) hD hS hA (fun H locs hP hD hS => ?_)
  refine lv_bipush (v := (31 : Int32)) hx hb nd_S_performShift_16 (by decide) ?_
  refine lv_iand hx hb nd_S_performShift_18 ?_
  refine lv_istore (lv' := [(4, .int ((f_S_valueOfS a1 u) &&& (31 : Int32))), (3, .int (f_S_numberD a1)), (2, .int (f_S_valueOfT a1 u)), (0, .ref (h 0)), (1, .int a1)]) hx hb nd_S_performShift_19 hl (by decide) rfl (fun ls hl => ?_)
  refine lv_iload_n hx hb nd_S_performShift_21 rfl (lv_at hl 4 rfl) ?_
  refine my_cp (F := f_S_numberK a1) (va_runS (As := [.int a1]) (rest := []) ⟨hx, hb, hml, hown, hts⟩ (c_S_numberK l a1 _ rfl) ⟨callB_of 1 hts (gw_in gw_185) rfl rfl rfl (hts _ gw_1) (hts _ gw_183) nh_S_numberK ⟨Nat.le_of_ble_eq_true rfl, Nat.le_of_ble_eq_true rfl⟩, (hts _ gw_184)⟩ my_preP rfl rfl hl.1 rfl (lv_room (Nat.le_of_ble_eq_true rfl)) nd_S_performShift_22 ⟨Nat.le_of_ble_eq_true rfl, Nat.le_of_ble_eq_true rfl⟩) hP hS (fun H locs hP hS => ?_)
  rcases my_em (x := f_S_numberK a1) (0 : Int32) with h25_0 | h25_0
  · have hw := (if_pos h25_0).symm.trans hw
    refine my_swi (tgt := 68) hx hb nd_S_performShift_25 h25_0 (by decide) (by decide) rfl (by decide) ?_
    refine lv_aload_n hx hb nd_S_performShift_68 rfl (lv_at hl 3 rfl) ?_
    refine lv_iload_n hx hb nd_S_performShift_69 rfl (lv_at hl 1 rfl) ?_
    refine lv_iload_n hx hb nd_S_performShift_70 rfl (lv_at hl 2 rfl) ?_
    refine lv_iload_n hx hb nd_S_performShift_71 rfl (lv_at hl 4 rfl) ?_
    refine my_cp (F := f_S_numberA a1) (va_runS (As := [.int a1]) (rest := [.int (f_S_valueOfT a1 u), .int (f_S_numberD a1), .ref (h 0)]) ⟨hx, hb, hml, hown, hts⟩ (c_S_numberA l a1 _ rfl) ⟨callB_of 1 hts (gw_in gw_219) rfl rfl rfl (hts _ gw_1) (hts _ gw_217) nh_S_numberA ⟨Nat.le_of_ble_eq_true rfl, Nat.le_of_ble_eq_true rfl⟩, (hts _ gw_218)⟩ my_preP rfl rfl hl.1 rfl (lv_room (Nat.le_of_ble_eq_true rfl)) nd_S_performShift_72 ⟨Nat.le_of_ble_eq_true rfl, Nat.le_of_ble_eq_true rfl⟩) hP hS (fun H locs hP hS => ?_)
    refine lv_ishl hx hb nd_S_performShift_75 ?_
    obtain ⟨r76, u76, hq76, hw⟩ := bnd_i hw
    refine my_ci (wd := wSC h cA) (r := r76) (u' := u76) (va_runV (As := [.int (f_S_numberD a1), .int ((f_S_valueOfT a1 u) <<< ((f_S_numberA a1) &&& 31))]) (rest := []) ⟨hx, hb, hml, hown, hts⟩ (c_S_give l D h cA u (f_S_numberD a1) ((f_S_valueOfT a1 u) <<< ((f_S_numberA a1) &&& 31)) (r76, u76) hq76 _) ⟨callB_of 2 hts (gw_in gw_223) rfl rfl rfl (hts _ gw_1) (hts _ gw_220) nh_S_give ⟨Nat.le_of_ble_eq_true rfl, Nat.le_of_ble_eq_true rfl⟩, (hts _ gw_222), (hts _ gw_221)⟩ (my_preV nwOk hP hK hD hN (va_recv hK hP (ci := 0) (q0 := 0) rfl rfl)) rfl rfl hl.1 rfl (lv_room (Nat.le_of_ble_eq_true rfl)) nd_S_performShift_76 ⟨Nat.le_of_ble_eq_true rfl, Nat.le_of_ble_eq_true rfl⟩) hD hS hA (fun H locs hP hD hS => ?_)
    exact my_ri (u' := u76) (v := r76) hx hb hr hlocks hK hP hD hS hw nd_S_performShift_79
  have hw := (if_neg h25_0).symm.trans hw
  rcases my_em (x := f_S_numberK a1) (2 : Int32) with h25_2 | h25_2
  · have hw := (if_pos h25_2).symm.trans hw
    refine my_swi (tgt := 80) hx hb nd_S_performShift_25 h25_2 (by decide) (by decide) rfl (by decide) ?_
    refine lv_aload_n hx hb nd_S_performShift_80 rfl (lv_at hl 3 rfl) ?_
    refine lv_iload_n hx hb nd_S_performShift_81 rfl (lv_at hl 1 rfl) ?_
    refine lv_iload_n hx hb nd_S_performShift_82 rfl (lv_at hl 2 rfl) ?_
    refine lv_iload_n hx hb nd_S_performShift_83 rfl (lv_at hl 4 rfl) ?_
    refine my_cp (F := f_S_numberA a1) (va_runS (As := [.int a1]) (rest := [.int (f_S_valueOfT a1 u), .int (f_S_numberD a1), .ref (h 0)]) ⟨hx, hb, hml, hown, hts⟩ (c_S_numberA l a1 _ rfl) ⟨callB_of 1 hts (gw_in gw_219) rfl rfl rfl (hts _ gw_1) (hts _ gw_217) nh_S_numberA ⟨Nat.le_of_ble_eq_true rfl, Nat.le_of_ble_eq_true rfl⟩, (hts _ gw_218)⟩ my_preP rfl rfl hl.1 rfl (lv_room (Nat.le_of_ble_eq_true rfl)) nd_S_performShift_84 ⟨Nat.le_of_ble_eq_true rfl, Nat.le_of_ble_eq_true rfl⟩) hP hS (fun H locs hP hS => ?_)
    refine lv_iushr (v := ush (f_S_valueOfT a1 u) (f_S_numberA a1)) hx hb nd_S_performShift_87 rfl ?_
    obtain ⟨r88, u88, hq88, hw⟩ := bnd_i hw
    refine my_ci (wd := wSC h cA) (r := r88) (u' := u88) (va_runV (As := [.int (f_S_numberD a1), .int (ush (f_S_valueOfT a1 u) (f_S_numberA a1))]) (rest := []) ⟨hx, hb, hml, hown, hts⟩ (c_S_give l D h cA u (f_S_numberD a1) (ush (f_S_valueOfT a1 u) (f_S_numberA a1)) (r88, u88) hq88 _) ⟨callB_of 2 hts (gw_in gw_223) rfl rfl rfl (hts _ gw_1) (hts _ gw_220) nh_S_give ⟨Nat.le_of_ble_eq_true rfl, Nat.le_of_ble_eq_true rfl⟩, (hts _ gw_222), (hts _ gw_221)⟩ (my_preV nwOk hP hK hD hN (va_recv hK hP (ci := 0) (q0 := 0) rfl rfl)) rfl rfl hl.1 rfl (lv_room (Nat.le_of_ble_eq_true rfl)) nd_S_performShift_88 ⟨Nat.le_of_ble_eq_true rfl, Nat.le_of_ble_eq_true rfl⟩) hD hS hA (fun H locs hP hD hS => ?_)
    exact my_ri (u' := u88) (v := r88) hx hb hr hlocks hK hP hD hS hw nd_S_performShift_91
  have hw := (if_neg h25_2).symm.trans hw
  rcases my_em (x := f_S_numberK a1) (3 : Int32) with h25_3 | h25_3
  · have hw := (if_pos h25_3).symm.trans hw
    refine my_swi (tgt := 92) hx hb nd_S_performShift_25 h25_3 (by decide) (by decide) rfl (by decide) ?_
    refine lv_aload_n hx hb nd_S_performShift_92 rfl (lv_at hl 3 rfl) ?_
    refine lv_iload_n hx hb nd_S_performShift_93 rfl (lv_at hl 1 rfl) ?_
    refine lv_iload_n hx hb nd_S_performShift_94 rfl (lv_at hl 2 rfl) ?_
    refine lv_iload_n hx hb nd_S_performShift_95 rfl (lv_at hl 4 rfl) ?_
    refine my_cp (F := f_S_numberA a1) (va_runS (As := [.int a1]) (rest := [.int (f_S_valueOfT a1 u), .int (f_S_numberD a1), .ref (h 0)]) ⟨hx, hb, hml, hown, hts⟩ (c_S_numberA l a1 _ rfl) ⟨callB_of 1 hts (gw_in gw_219) rfl rfl rfl (hts _ gw_1) (hts _ gw_217) nh_S_numberA ⟨Nat.le_of_ble_eq_true rfl, Nat.le_of_ble_eq_true rfl⟩, (hts _ gw_218)⟩ my_preP rfl rfl hl.1 rfl (lv_room (Nat.le_of_ble_eq_true rfl)) nd_S_performShift_96 ⟨Nat.le_of_ble_eq_true rfl, Nat.le_of_ble_eq_true rfl⟩) hP hS (fun H locs hP hS => ?_)
    refine lv_ishr hx hb nd_S_performShift_99 ?_
    obtain ⟨r100, u100, hq100, hw⟩ := bnd_i hw
    refine my_ci (wd := wSC h cA) (r := r100) (u' := u100) (va_runV (As := [.int (f_S_numberD a1), .int ((f_S_valueOfT a1 u) >>> ((f_S_numberA a1) &&& 31))]) (rest := []) ⟨hx, hb, hml, hown, hts⟩ (c_S_give l D h cA u (f_S_numberD a1) ((f_S_valueOfT a1 u) >>> ((f_S_numberA a1) &&& 31)) (r100, u100) hq100 _) ⟨callB_of 2 hts (gw_in gw_223) rfl rfl rfl (hts _ gw_1) (hts _ gw_220) nh_S_give ⟨Nat.le_of_ble_eq_true rfl, Nat.le_of_ble_eq_true rfl⟩, (hts _ gw_222), (hts _ gw_221)⟩ (my_preV nwOk hP hK hD hN (va_recv hK hP (ci := 0) (q0 := 0) rfl rfl)) rfl rfl hl.1 rfl (lv_room (Nat.le_of_ble_eq_true rfl)) nd_S_performShift_100 ⟨Nat.le_of_ble_eq_true rfl, Nat.le_of_ble_eq_true rfl⟩) hD hS hA (fun H locs hP hD hS => ?_)
    exact my_ri (u' := u100) (v := r100) hx hb hr hlocks hK hP hD hS hw nd_S_performShift_103
  have hw := (if_neg h25_3).symm.trans hw
  rcases my_em (x := f_S_numberK a1) (4 : Int32) with h25_4 | h25_4
  · have hw := (if_pos h25_4).symm.trans hw
    refine my_swi (tgt := 104) hx hb nd_S_performShift_25 h25_4 (by decide) (by decide) rfl (by decide) ?_
    refine lv_aload_n hx hb nd_S_performShift_104 rfl (lv_at hl 3 rfl) ?_
    refine lv_iload_n hx hb nd_S_performShift_105 rfl (lv_at hl 1 rfl) ?_
    refine lv_iload_n hx hb nd_S_performShift_106 rfl (lv_at hl 2 rfl) ?_
    refine lv_iload hx hb nd_S_performShift_107 (lv_at hl 0 rfl) ?_
    refine lv_ishl hx hb nd_S_performShift_109 ?_
    obtain ⟨r110, u110, hq110, hw⟩ := bnd_i hw
    refine my_ci (wd := wSC h cA) (r := r110) (u' := u110) (va_runV (As := [.int (f_S_numberD a1), .int ((f_S_valueOfT a1 u) <<< (((f_S_valueOfS a1 u) &&& (31 : Int32)) &&& 31))]) (rest := []) ⟨hx, hb, hml, hown, hts⟩ (c_S_give l D h cA u (f_S_numberD a1) ((f_S_valueOfT a1 u) <<< (((f_S_valueOfS a1 u) &&& (31 : Int32)) &&& 31)) (r110, u110) hq110 _) ⟨callB_of 2 hts (gw_in gw_223) rfl rfl rfl (hts _ gw_1) (hts _ gw_220) nh_S_give ⟨Nat.le_of_ble_eq_true rfl, Nat.le_of_ble_eq_true rfl⟩, (hts _ gw_222), (hts _ gw_221)⟩ (my_preV nwOk hP hK hD hN (va_recv hK hP (ci := 0) (q0 := 0) rfl rfl)) rfl rfl hl.1 rfl (lv_room (Nat.le_of_ble_eq_true rfl)) nd_S_performShift_110 ⟨Nat.le_of_ble_eq_true rfl, Nat.le_of_ble_eq_true rfl⟩) hD hS hA (fun H locs hP hD hS => ?_)
    exact my_ri (u' := u110) (v := r110) hx hb hr hlocks hK hP hD hS hw nd_S_performShift_113
  have hw := (if_neg h25_4).symm.trans hw
  rcases my_em (x := f_S_numberK a1) (6 : Int32) with h25_6 | h25_6
  · have hw := (if_pos h25_6).symm.trans hw
    refine my_swi (tgt := 114) hx hb nd_S_performShift_25 h25_6 (by decide) (by decide) rfl (by decide) ?_
    refine lv_aload_n hx hb nd_S_performShift_114 rfl (lv_at hl 3 rfl) ?_
    refine lv_iload_n hx hb nd_S_performShift_115 rfl (lv_at hl 1 rfl) ?_
    refine lv_iload_n hx hb nd_S_performShift_116 rfl (lv_at hl 2 rfl) ?_
    refine lv_iload hx hb nd_S_performShift_117 (lv_at hl 0 rfl) ?_
    refine lv_iushr (v := ush (f_S_valueOfT a1 u) ((f_S_valueOfS a1 u) &&& (31 : Int32))) hx hb nd_S_performShift_119 rfl ?_
    obtain ⟨r120, u120, hq120, hw⟩ := bnd_i hw
    refine my_ci (wd := wSC h cA) (r := r120) (u' := u120) (va_runV (As := [.int (f_S_numberD a1), .int (ush (f_S_valueOfT a1 u) ((f_S_valueOfS a1 u) &&& (31 : Int32)))]) (rest := []) ⟨hx, hb, hml, hown, hts⟩ (c_S_give l D h cA u (f_S_numberD a1) (ush (f_S_valueOfT a1 u) ((f_S_valueOfS a1 u) &&& (31 : Int32))) (r120, u120) hq120 _) ⟨callB_of 2 hts (gw_in gw_223) rfl rfl rfl (hts _ gw_1) (hts _ gw_220) nh_S_give ⟨Nat.le_of_ble_eq_true rfl, Nat.le_of_ble_eq_true rfl⟩, (hts _ gw_222), (hts _ gw_221)⟩ (my_preV nwOk hP hK hD hN (va_recv hK hP (ci := 0) (q0 := 0) rfl rfl)) rfl rfl hl.1 rfl (lv_room (Nat.le_of_ble_eq_true rfl)) nd_S_performShift_120 ⟨Nat.le_of_ble_eq_true rfl, Nat.le_of_ble_eq_true rfl⟩) hD hS hA (fun H locs hP hD hS => ?_)
    exact my_ri (u' := u120) (v := r120) hx hb hr hlocks hK hP hD hS hw nd_S_performShift_123
  have hw := (if_neg h25_6).symm.trans hw
  refine my_swd (tgt := 124) hx hb nd_S_performShift_25 (my_nec h25_0 (my_nec h25_2 (my_nec h25_3 (my_nec h25_4 (my_nec h25_6 my_nen))))) (by decide +kernel) (by decide) ?_
  exact J124 (f_S_valueOfT a1 u) (f_S_numberD a1) ((f_S_valueOfS a1 u) &&& (31 : Int32)) u H locs ls hP hD hS (lv_sub hl [3, 2, 1, 0] rfl) hw
set_option maxHeartbeats 4000000 in
set_option maxRecDepth 100000 in
theorem c_S_performJumpToS (l : Launch) (D : va_G) (h : Nat → Nat) (cA : Nat → ClassId) (u : St) (a1 : Int32) (F : Int32 × St) (hw : f_S_performJumpToS a1 u = F) : MI nwS vwCl l ny_S_performJumpToS nw_S_performJumpToS ({ frames := 2, cells := 0, slots := 0, locals := 42 }) D (tyI cA) (wSC h cA) ([.ref (h 0), .int a1] : List Value) u F := by
  refine my_in (gw := GW) (cc := nc_S_performJumpToS) (maxL := 2) (ret := (some .int)) (Qc := fun A => QI vwCl D (tyI cA) (wSC h cA) F A) (by decide) rfl (Nat.le_of_ble_eq_true rfl) ?_
  intro p e s m below meth c A H locs ls hx hb hml hr hts hown hlocks hK hN hA hP hD hS hl
  have hown : s.vm.findClass nR_S = some m.cls := hown
  have hl : lv_has ls 2 [(0, .ref (h 0)), (1, .int a1)] := hl
  have J25 : ∀ (x1 : Int32) (u : St) (H : Heap) (locs : List Loc) (ls : Array Slot), va_P D vwCl (wSC h cA u) H → va_D A (wSC h cA u) → va_S A s.heap H locs → lv_has ls 2 [(0, .ref (h 0)), (1, .int x1)] → f_S_performJumpToS_b25 x1 u = F →
      W p l e (headSpec nw_S_performJumpToS ({ frames := 2, cells := 0, slots := 0, locals := 42 })).room s m ([.ref (h 0), .int a1] : List Value).toArray below meth c H locs 0 0 (MQ below (QI vwCl D (tyI cA) (wSC h cA) F A) ([.ref (h 0), .int a1] : List Value).toArray s 0 0 A) (F0 m 25 ls []) := by
    intro x1 u H locs ls hP hD hS hl hw
    unfold f_S_performJumpToS_b25 at hw
    refine lv_aload_n hx hb nd_S_performJumpToS_25 rfl (lv_at hl 0 rfl) ?_
    refine lv_iconst (v := (1 : Int32)) hx hb nd_S_performJumpToS_26 (by decide) ?_
    refine lv_aload_n hx hb nd_S_performJumpToS_27 rfl (lv_at hl 0 rfl) ?_
    refine lv_iload_n hx hb nd_S_performJumpToS_28 rfl (lv_at hl 1 rfl) ?_
    refine my_ci (wd := wSC h cA) (r := f_S_valueOfS x1 u) (u' := u) (va_runV (As := [.int x1]) (rest := [.int (1 : Int32), .ref (h 0)]) ⟨hx, hb, hml, hown, hts⟩ (c_S_valueOfS l D h cA u x1 _ rfl _) ⟨callB_of 1 hts (gw_in gw_213) rfl rfl rfl (hts _ gw_1) (hts _ gw_210) nh_S_valueOfS ⟨Nat.le_of_ble_eq_true rfl, Nat.le_of_ble_eq_true rfl⟩, (hts _ gw_212), (hts _ gw_211)⟩ (my_preV nwOk hP hK hD hN (va_recv hK hP (ci := 0) (q0 := 0) rfl rfl)) rfl rfl hl.1 rfl (lv_room (Nat.le_of_ble_eq_true rfl)) nd_S_performJumpToS_29 ⟨Nat.le_of_ble_eq_true rfl, Nat.le_of_ble_eq_true rfl⟩) hD hS hA (fun H locs hP hD hS => ?_)
    obtain ⟨r32, u32, hq32, hw⟩ := bnd_i hw
    refine my_ci (wd := wSC h cA) (r := r32) (u' := u32) (va_runV (As := [.int (zb (1 : Int32)), .int (f_S_valueOfS x1 u)]) (rest := []) ⟨hx, hb, hml, hown, hts⟩ (c_S_branchIf l D h cA u (1 : Int32) (f_S_valueOfS x1 u) (r32, u32) hq32 _) ⟨callB_of 2 hts (gw_in gw_231) rfl rfl rfl (hts _ gw_1) (hts _ gw_228) nh_S_branchIf ⟨Nat.le_of_ble_eq_true rfl, Nat.le_of_ble_eq_true rfl⟩, (hts _ gw_230), (hts _ gw_229)⟩ (my_preV nwOk hP hK hD hN (va_recv hK hP (ci := 0) (q0 := 0) rfl rfl)) rfl rfl hl.1 rfl (lv_room (Nat.le_of_ble_eq_true rfl)) nd_S_performJumpToS_32 ⟨Nat.le_of_ble_eq_true rfl, Nat.le_of_ble_eq_true rfl⟩) hD hS hA (fun H locs hP hD hS => ?_)
    exact my_ri (u' := u32) (v := r32) hx hb hr hlocks hK hP hD hS hw nd_S_performJumpToS_35
  unfold f_S_performJumpToS at hw
  refine lv_iload_n hx hb nd_S_performJumpToS_0 rfl (lv_at hl 1 rfl) ?_
  refine my_cp (F := f_S_numberK a1) (va_runS (As := [.int a1]) (rest := []) ⟨hx, hb, hml, hown, hts⟩ (c_S_numberK l a1 _ rfl) ⟨callB_of 1 hts (gw_in gw_185) rfl rfl rfl (hts _ gw_1) (hts _ gw_183) nh_S_numberK ⟨Nat.le_of_ble_eq_true rfl, Nat.le_of_ble_eq_true rfl⟩, (hts _ gw_184)⟩ my_preP rfl rfl hl.1 rfl (lv_room (Nat.le_of_ble_eq_true rfl)) nd_S_performJumpToS_1 ⟨Nat.le_of_ble_eq_true rfl, Nat.le_of_ble_eq_true rfl⟩) hP hS (fun H locs hP hS => ?_)
  refine lv_bipush (v := (9 : Int32)) hx hb nd_S_performJumpToS_4 (by decide) ?_
  refine lv_icmp_ne (tgt := 25) hx hb nd_S_performJumpToS_6 (by decide) (fun h6 => ?_) (fun h6 => ?_)
  · have hw := (if_neg h6).symm.trans hw
    exact J25 a1 u H locs ls hP hD hS (lv_sub hl [0, 1] rfl) hw
  have hw := (if_pos h6).symm.trans hw
  refine lv_aload_n hx hb nd_S_performJumpToS_9 rfl (lv_at hl 0 rfl) ?_
  refine lv_iload_n hx hb nd_S_performJumpToS_10 rfl (lv_at hl 1 rfl) ?_
  refine my_cp (F := f_S_numberD a1) (va_runS (As := [.int a1]) (rest := [.ref (h 0)]) ⟨hx, hb, hml, hown, hts⟩ (c_S_numberD l a1 _ rfl) ⟨callB_of 1 hts (gw_in gw_209) rfl rfl rfl (hts _ gw_1) (hts _ gw_207) nh_S_numberD ⟨Nat.le_of_ble_eq_true rfl, Nat.le_of_ble_eq_true rfl⟩, (hts _ gw_208)⟩ my_preP rfl rfl hl.1 rfl (lv_room (Nat.le_of_ble_eq_true rfl)) nd_S_performJumpToS_11 ⟨Nat.le_of_ble_eq_true rfl, Nat.le_of_ble_eq_true rfl⟩) hP hS (fun H locs hP hS => ?_)
  refine lv_aload_n hx hb nd_S_performJumpToS_14 rfl (lv_at hl 0 rfl) ?_
  refine va_get (D := D) (ci := 0) (v := .int (u 0 4)) (C := nR_S) (T := nT_S) (N := 9) hx hb hts nu_S hown hK hP 0 rfl rfl 4 (by decide) (hts _ gw_67) (fun _ h9 => h9) rfl nd_S_performJumpToS_15 ?_
  refine lv_bipush (v := (8 : Int32)) hx hb nd_S_performJumpToS_18 (by decide) ?_
  refine lv_iadd hx hb nd_S_performJumpToS_20 ?_
  obtain ⟨r21, u21, hq21, hw⟩ := bnd_i hw
  refine my_ci (wd := wSC h cA) (r := r21) (u' := u21) (va_runV (As := [.int (f_S_numberD a1), .int ((u 0 4) + (8 : Int32))]) (rest := []) ⟨hx, hb, hml, hown, hts⟩ (c_S_give l D h cA u (f_S_numberD a1) ((u 0 4) + (8 : Int32)) (r21, u21) hq21 _) ⟨callB_of 2 hts (gw_in gw_223) rfl rfl rfl (hts _ gw_1) (hts _ gw_220) nh_S_give ⟨Nat.le_of_ble_eq_true rfl, Nat.le_of_ble_eq_true rfl⟩, (hts _ gw_222), (hts _ gw_221)⟩ (my_preV nwOk hP hK hD hN (va_recv hK hP (ci := 0) (q0 := 0) rfl rfl)) rfl rfl hl.1 rfl (lv_room (Nat.le_of_ble_eq_true rfl)) nd_S_performJumpToS_21 ⟨Nat.le_of_ble_eq_true rfl, Nat.le_of_ble_eq_true rfl⟩) hD hS hA (fun H locs hP hD hS => ?_)
  refine lv_pop hx hb nd_S_performJumpToS_24 rfl ?_
  exact J25 a1 u21 H locs ls hP hD hS (lv_sub hl [0, 1] rfl) hw
set_option maxHeartbeats 4000000 in
set_option maxRecDepth 100000 in
theorem c_S_performMove (l : Launch) (D : va_G) (h : Nat → Nat) (cA : Nat → ClassId) (u : St) (a1 : Int32) (F : Int32 × St) (hw : f_S_performMove a1 u = F) : MI nwS vwCl l ny_S_performMove nw_S_performMove ({ frames := 2, cells := 0, slots := 0, locals := 42 }) D (tyI cA) (wSC h cA) ([.ref (h 0), .int a1] : List Value) u F := by
  refine my_in (gw := GW) (cc := nc_S_performMove) (maxL := 2) (ret := (some .int)) (Qc := fun A => QI vwCl D (tyI cA) (wSC h cA) F A) (by decide) rfl (Nat.le_of_ble_eq_true rfl) ?_
  intro p e s m below meth c A H locs ls hx hb hml hr hts hown hlocks hK hN hA hP hD hS hl
  have hown : s.vm.findClass nR_S = some m.cls := hown
  have hl : lv_has ls 2 [(0, .ref (h 0)), (1, .int a1)] := hl
  unfold f_S_performMove at hw
  refine lv_iload_n hx hb nd_S_performMove_0 rfl (lv_at hl 1 rfl) ?_
  refine my_cp (F := f_S_numberK a1) (va_runS (As := [.int a1]) (rest := []) ⟨hx, hb, hml, hown, hts⟩ (c_S_numberK l a1 _ rfl) ⟨callB_of 1 hts (gw_in gw_185) rfl rfl rfl (hts _ gw_1) (hts _ gw_183) nh_S_numberK ⟨Nat.le_of_ble_eq_true rfl, Nat.le_of_ble_eq_true rfl⟩, (hts _ gw_184)⟩ my_preP rfl rfl hl.1 rfl (lv_room (Nat.le_of_ble_eq_true rfl)) nd_S_performMove_1 ⟨Nat.le_of_ble_eq_true rfl, Nat.le_of_ble_eq_true rfl⟩) hP hS (fun H locs hP hS => ?_)
  rcases my_em (x := f_S_numberK a1) (16 : Int32) with h4_16 | h4_16
  · have hw := (if_pos h4_16).symm.trans hw
    refine my_swi (tgt := 32) hx hb nd_S_performMove_4 h4_16 (by decide) (by decide) rfl (by decide) ?_
    refine lv_aload_n hx hb nd_S_performMove_32 rfl (lv_at hl 0 rfl) ?_
    refine lv_iload_n hx hb nd_S_performMove_33 rfl (lv_at hl 1 rfl) ?_
    refine my_cp (F := f_S_numberD a1) (va_runS (As := [.int a1]) (rest := [.ref (h 0)]) ⟨hx, hb, hml, hown, hts⟩ (c_S_numberD l a1 _ rfl) ⟨callB_of 1 hts (gw_in gw_209) rfl rfl rfl (hts _ gw_1) (hts _ gw_207) nh_S_numberD ⟨Nat.le_of_ble_eq_true rfl, Nat.le_of_ble_eq_true rfl⟩, (hts _ gw_208)⟩ my_preP rfl rfl hl.1 rfl (lv_room (Nat.le_of_ble_eq_true rfl)) nd_S_performMove_34 ⟨Nat.le_of_ble_eq_true rfl, Nat.le_of_ble_eq_true rfl⟩) hP hS (fun H locs hP hS => ?_)
    refine lv_aload_n hx hb nd_S_performMove_37 rfl (lv_at hl 0 rfl) ?_
    refine va_get (D := D) (ci := 0) (v := .ref (h 3)) (C := nR_S) (T := nT_S) (N := 9) hx hb hts nu_S hown hK hP 0 rfl rfl 1 (by decide) (hts _ gw_64) (fun _ h9 => h9) rfl nd_S_performMove_38 ?_
    refine lv_bipush (v := (32 : Int32)) hx hb nd_S_performMove_41 (by decide) ?_
    refine my_ci (wd := wSC h cA) (r := f_R_valueOf (32 : Int32) u) (u' := u) (va_runVN (As := [.int (32 : Int32)]) (rest := [.int (f_S_numberD a1), .ref (h 0)]) ⟨hx, hb, hml, hown, hts⟩ (c_R_valueOf l D h cA u (32 : Int32) _ rfl _) ⟨va_cnB 1 hts (gw_in gw_206) rfl rfl rfl (hN _ nm_26) (hts _ gw_3) nh_R_valueOf ⟨Nat.le_of_ble_eq_true rfl, Nat.le_of_ble_eq_true rfl⟩, (hts _ gw_205), (hts _ gw_204)⟩ (my_preV nwOk hP hK hD hN (va_recv hK hP (ci := 2) (q0 := 3) rfl rfl)) rfl rfl hl.1 rfl (lv_room (Nat.le_of_ble_eq_true rfl)) nd_S_performMove_43 ⟨Nat.le_of_ble_eq_true rfl, Nat.le_of_ble_eq_true rfl⟩) hD hS hA (fun H locs hP hD hS => ?_)
    obtain ⟨r46, u46, hq46, hw⟩ := bnd_i hw
    refine my_ci (wd := wSC h cA) (r := r46) (u' := u46) (va_runV (As := [.int (f_S_numberD a1), .int (f_R_valueOf (32 : Int32) u)]) (rest := []) ⟨hx, hb, hml, hown, hts⟩ (c_S_give l D h cA u (f_S_numberD a1) (f_R_valueOf (32 : Int32) u) (r46, u46) hq46 _) ⟨callB_of 2 hts (gw_in gw_223) rfl rfl rfl (hts _ gw_1) (hts _ gw_220) nh_S_give ⟨Nat.le_of_ble_eq_true rfl, Nat.le_of_ble_eq_true rfl⟩, (hts _ gw_222), (hts _ gw_221)⟩ (my_preV nwOk hP hK hD hN (va_recv hK hP (ci := 0) (q0 := 0) rfl rfl)) rfl rfl hl.1 rfl (lv_room (Nat.le_of_ble_eq_true rfl)) nd_S_performMove_46 ⟨Nat.le_of_ble_eq_true rfl, Nat.le_of_ble_eq_true rfl⟩) hD hS hA (fun H locs hP hD hS => ?_)
    exact my_ri (u' := u46) (v := r46) hx hb hr hlocks hK hP hD hS hw nd_S_performMove_49
  have hw := (if_neg h4_16).symm.trans hw
  rcases my_em (x := f_S_numberK a1) (17 : Int32) with h4_17 | h4_17
  · have hw := (if_pos h4_17).symm.trans hw
    refine my_swi (tgt := 50) hx hb nd_S_performMove_4 h4_17 (by decide) (by decide) rfl (by decide) ?_
    refine lv_aload_n hx hb nd_S_performMove_50 rfl (lv_at hl 0 rfl) ?_
    refine lv_bipush (v := (32 : Int32)) hx hb nd_S_performMove_51 (by decide) ?_
    refine lv_aload_n hx hb nd_S_performMove_53 rfl (lv_at hl 0 rfl) ?_
    refine lv_iload_n hx hb nd_S_performMove_54 rfl (lv_at hl 1 rfl) ?_
    refine my_ci (wd := wSC h cA) (r := f_S_valueOfS a1 u) (u' := u) (va_runV (As := [.int a1]) (rest := [.int (32 : Int32), .ref (h 0)]) ⟨hx, hb, hml, hown, hts⟩ (c_S_valueOfS l D h cA u a1 _ rfl _) ⟨callB_of 1 hts (gw_in gw_213) rfl rfl rfl (hts _ gw_1) (hts _ gw_210) nh_S_valueOfS ⟨Nat.le_of_ble_eq_true rfl, Nat.le_of_ble_eq_true rfl⟩, (hts _ gw_212), (hts _ gw_211)⟩ (my_preV nwOk hP hK hD hN (va_recv hK hP (ci := 0) (q0 := 0) rfl rfl)) rfl rfl hl.1 rfl (lv_room (Nat.le_of_ble_eq_true rfl)) nd_S_performMove_55 ⟨Nat.le_of_ble_eq_true rfl, Nat.le_of_ble_eq_true rfl⟩) hD hS hA (fun H locs hP hD hS => ?_)
    obtain ⟨r58, u58, hq58, hw⟩ := bnd_i hw
    refine my_ci (wd := wSC h cA) (r := r58) (u' := u58) (va_runV (As := [.int (32 : Int32), .int (f_S_valueOfS a1 u)]) (rest := []) ⟨hx, hb, hml, hown, hts⟩ (c_S_give l D h cA u (32 : Int32) (f_S_valueOfS a1 u) (r58, u58) hq58 _) ⟨callB_of 2 hts (gw_in gw_223) rfl rfl rfl (hts _ gw_1) (hts _ gw_220) nh_S_give ⟨Nat.le_of_ble_eq_true rfl, Nat.le_of_ble_eq_true rfl⟩, (hts _ gw_222), (hts _ gw_221)⟩ (my_preV nwOk hP hK hD hN (va_recv hK hP (ci := 0) (q0 := 0) rfl rfl)) rfl rfl hl.1 rfl (lv_room (Nat.le_of_ble_eq_true rfl)) nd_S_performMove_58 ⟨Nat.le_of_ble_eq_true rfl, Nat.le_of_ble_eq_true rfl⟩) hD hS hA (fun H locs hP hD hS => ?_)
    exact my_ri (u' := u58) (v := r58) hx hb hr hlocks hK hP hD hS hw nd_S_performMove_61
  have hw := (if_neg h4_17).symm.trans hw
  rcases my_em (x := f_S_numberK a1) (18 : Int32) with h4_18 | h4_18
  · have hw := (if_pos h4_18).symm.trans hw
    refine my_swi (tgt := 62) hx hb nd_S_performMove_4 h4_18 (by decide) (by decide) rfl (by decide) ?_
    refine lv_aload_n hx hb nd_S_performMove_62 rfl (lv_at hl 0 rfl) ?_
    refine lv_iload_n hx hb nd_S_performMove_63 rfl (lv_at hl 1 rfl) ?_
    refine my_cp (F := f_S_numberD a1) (va_runS (As := [.int a1]) (rest := [.ref (h 0)]) ⟨hx, hb, hml, hown, hts⟩ (c_S_numberD l a1 _ rfl) ⟨callB_of 1 hts (gw_in gw_209) rfl rfl rfl (hts _ gw_1) (hts _ gw_207) nh_S_numberD ⟨Nat.le_of_ble_eq_true rfl, Nat.le_of_ble_eq_true rfl⟩, (hts _ gw_208)⟩ my_preP rfl rfl hl.1 rfl (lv_room (Nat.le_of_ble_eq_true rfl)) nd_S_performMove_64 ⟨Nat.le_of_ble_eq_true rfl, Nat.le_of_ble_eq_true rfl⟩) hP hS (fun H locs hP hS => ?_)
    refine lv_aload_n hx hb nd_S_performMove_67 rfl (lv_at hl 0 rfl) ?_
    refine va_get (D := D) (ci := 0) (v := .ref (h 3)) (C := nR_S) (T := nT_S) (N := 9) hx hb hts nu_S hown hK hP 0 rfl rfl 1 (by decide) (hts _ gw_64) (fun _ h9 => h9) rfl nd_S_performMove_68 ?_
    refine lv_bipush (v := (33 : Int32)) hx hb nd_S_performMove_71 (by decide) ?_
    refine my_ci (wd := wSC h cA) (r := f_R_valueOf (33 : Int32) u) (u' := u) (va_runVN (As := [.int (33 : Int32)]) (rest := [.int (f_S_numberD a1), .ref (h 0)]) ⟨hx, hb, hml, hown, hts⟩ (c_R_valueOf l D h cA u (33 : Int32) _ rfl _) ⟨va_cnB 1 hts (gw_in gw_206) rfl rfl rfl (hN _ nm_26) (hts _ gw_3) nh_R_valueOf ⟨Nat.le_of_ble_eq_true rfl, Nat.le_of_ble_eq_true rfl⟩, (hts _ gw_205), (hts _ gw_204)⟩ (my_preV nwOk hP hK hD hN (va_recv hK hP (ci := 2) (q0 := 3) rfl rfl)) rfl rfl hl.1 rfl (lv_room (Nat.le_of_ble_eq_true rfl)) nd_S_performMove_73 ⟨Nat.le_of_ble_eq_true rfl, Nat.le_of_ble_eq_true rfl⟩) hD hS hA (fun H locs hP hD hS => ?_)
    obtain ⟨r76, u76, hq76, hw⟩ := bnd_i hw
    refine my_ci (wd := wSC h cA) (r := r76) (u' := u76) (va_runV (As := [.int (f_S_numberD a1), .int (f_R_valueOf (33 : Int32) u)]) (rest := []) ⟨hx, hb, hml, hown, hts⟩ (c_S_give l D h cA u (f_S_numberD a1) (f_R_valueOf (33 : Int32) u) (r76, u76) hq76 _) ⟨callB_of 2 hts (gw_in gw_223) rfl rfl rfl (hts _ gw_1) (hts _ gw_220) nh_S_give ⟨Nat.le_of_ble_eq_true rfl, Nat.le_of_ble_eq_true rfl⟩, (hts _ gw_222), (hts _ gw_221)⟩ (my_preV nwOk hP hK hD hN (va_recv hK hP (ci := 0) (q0 := 0) rfl rfl)) rfl rfl hl.1 rfl (lv_room (Nat.le_of_ble_eq_true rfl)) nd_S_performMove_76 ⟨Nat.le_of_ble_eq_true rfl, Nat.le_of_ble_eq_true rfl⟩) hD hS hA (fun H locs hP hD hS => ?_)
    exact my_ri (u' := u76) (v := r76) hx hb hr hlocks hK hP hD hS hw nd_S_performMove_79
  have hw := (if_neg h4_18).symm.trans hw
  refine my_swd (tgt := 80) hx hb nd_S_performMove_4 (my_nec h4_16 (my_nec h4_17 (my_nec h4_18 my_nen))) (by decide +kernel) (by decide) ?_
  refine lv_aload_n hx hb nd_S_performMove_80 rfl (lv_at hl 0 rfl) ?_
  refine lv_bipush (v := (33 : Int32)) hx hb nd_S_performMove_81 (by decide) ?_
  refine lv_aload_n hx hb nd_S_performMove_83 rfl (lv_at hl 0 rfl) ?_
  refine lv_iload_n hx hb nd_S_performMove_84 rfl (lv_at hl 1 rfl) ?_
  refine my_ci (wd := wSC h cA) (r := f_S_valueOfS a1 u) (u' := u) (va_runV (As := [.int a1]) (rest := [.int (33 : Int32), .ref (h 0)]) ⟨hx, hb, hml, hown, hts⟩ (c_S_valueOfS l D h cA u a1 _ rfl _) ⟨callB_of 1 hts (gw_in gw_213) rfl rfl rfl (hts _ gw_1) (hts _ gw_210) nh_S_valueOfS ⟨Nat.le_of_ble_eq_true rfl, Nat.le_of_ble_eq_true rfl⟩, (hts _ gw_212), (hts _ gw_211)⟩ (my_preV nwOk hP hK hD hN (va_recv hK hP (ci := 0) (q0 := 0) rfl rfl)) rfl rfl hl.1 rfl (lv_room (Nat.le_of_ble_eq_true rfl)) nd_S_performMove_85 ⟨Nat.le_of_ble_eq_true rfl, Nat.le_of_ble_eq_true rfl⟩) hD hS hA (fun H locs hP hD hS => ?_)
  obtain ⟨r88, u88, hq88, hw⟩ := bnd_i hw
  refine my_ci (wd := wSC h cA) (r := r88) (u' := u88) (va_runV (As := [.int (33 : Int32), .int (f_S_valueOfS a1 u)]) (rest := []) ⟨hx, hb, hml, hown, hts⟩ (c_S_give l D h cA u (33 : Int32) (f_S_valueOfS a1 u) (r88, u88) hq88 _) ⟨callB_of 2 hts (gw_in gw_223) rfl rfl rfl (hts _ gw_1) (hts _ gw_220) nh_S_give ⟨Nat.le_of_ble_eq_true rfl, Nat.le_of_ble_eq_true rfl⟩, (hts _ gw_222), (hts _ gw_221)⟩ (my_preV nwOk hP hK hD hN (va_recv hK hP (ci := 0) (q0 := 0) rfl rfl)) rfl rfl hl.1 rfl (lv_room (Nat.le_of_ble_eq_true rfl)) nd_S_performMove_88 ⟨Nat.le_of_ble_eq_true rfl, Nat.le_of_ble_eq_true rfl⟩) hD hS hA (fun H locs hP hD hS => ?_)
  exact my_ri (u' := u88) (v := r88) hx hb hr hlocks hK hP hD hS hw nd_S_performMove_91
set_option maxHeartbeats 4000000 in
set_option maxRecDepth 100000 in
theorem c_S_performProduct (l : Launch) (D : va_G) (h : Nat → Nat) (cA : Nat → ClassId) (u : St) (a1 : Int32) (F : Int32 × St) (hw : f_S_performProduct a1 u = F) : MI nwS vwCl l ny_S_performProduct nw_S_performProduct ({ frames := 2, cells := 0, slots := 0, locals := 48 }) D (tyI cA) (wSC h cA) ([.ref (h 0), .int a1] : List Value) u F := by
  refine my_in (gw := GW) (cc := nc_S_performProduct) (maxL := 4) (ret := (some .int)) (Qc := fun A => QI vwCl D (tyI cA) (wSC h cA) F A) (by decide) rfl (Nat.le_of_ble_eq_true rfl) ?_
  intro p e s m below meth c A H locs ls hx hb hml hr hts hown hlocks hK hN hA hP hD hS hl
  have hown : s.vm.findClass nR_S = some m.cls := hown
  have hl : lv_has ls 4 [(0, .ref (h 0)), (1, .int a1)] := hl
  unfold f_S_performProduct at hw
  refine lv_aload_n hx hb nd_S_performProduct_0 rfl (lv_at hl 0 rfl) ?_
  refine lv_iload_n hx hb nd_S_performProduct_1 rfl (lv_at hl 1 rfl) ?_
  refine my_ci (wd := wSC h cA) (r := f_S_valueOfS a1 u) (u' := u) (va_runV (As := [.int a1]) (rest := []) ⟨hx, hb, hml, hown, hts⟩ (c_S_valueOfS l D h cA u a1 _ rfl _) ⟨callB_of 1 hts (gw_in gw_213) rfl rfl rfl (hts _ gw_1) (hts _ gw_210) nh_S_valueOfS ⟨Nat.le_of_ble_eq_true rfl, Nat.le_of_ble_eq_true rfl⟩, (hts _ gw_212), (hts _ gw_211)⟩ (my_preV nwOk hP hK hD hN (va_recv hK hP (ci := 0) (q0 := 0) rfl rfl)) rfl rfl hl.1 rfl (lv_room (Nat.le_of_ble_eq_true rfl)) nd_S_performProduct_2 ⟨Nat.le_of_ble_eq_true rfl, Nat.le_of_ble_eq_true rfl⟩) hD hS hA (fun H locs hP hD hS => ?_)
  refine lv_istore_n (lv' := [(2, .int (f_S_valueOfS a1 u)), (0, .ref (h 0)), (1, .int a1)]) hx hb nd_S_performProduct_5 rfl hl (by decide) rfl (fun ls hl => ?_)
  refine lv_aload_n hx hb nd_S_performProduct_6 rfl (lv_at hl 1 rfl) ?_
  refine lv_iload_n hx hb nd_S_performProduct_7 rfl (lv_at hl 2 rfl) ?_
  refine my_ci (wd := wSC h cA) (r := f_S_valueOfT a1 u) (u' := u) (va_runV (As := [.int a1]) (rest := []) ⟨hx, hb, hml, hown, hts⟩ (c_S_valueOfT l D h cA u a1 _ rfl _) ⟨callB_of 1 hts (gw_in gw_203) rfl rfl rfl (hts _ gw_1) (hts _ gw_200) nh_S_valueOfT ⟨Nat.le_of_ble_eq_true rfl, Nat.le_of_ble_eq_true rfl⟩, (hts _ gw_202), (hts _ gw_201)⟩ (my_preV nwOk hP hK hD hN (va_recv hK hP (ci := 0) (q0 := 0) rfl rfl)) rfl rfl hl.1 rfl (lv_room (Nat.le_of_ble_eq_true rfl)) nd_S_performProduct_8 ⟨Nat.le_of_ble_eq_true rfl, Nat.le_of_ble_eq_true rfl⟩) hD hS hA (fun H locs hP hD hS => ?_)
  refine lv_istore_n (lv' := [(3, .int (f_S_valueOfT a1 u)), (2, .int (f_S_valueOfS a1 u)), (0, .ref (h 0)), (1, .int a1)]) hx hb nd_S_performProduct_11 rfl hl (by decide) rfl (fun ls hl => ?_)
  refine lv_iload_n hx hb nd_S_performProduct_12 rfl (lv_at hl 3 rfl) ?_
  refine my_cp (F := f_S_numberK a1) (va_runS (As := [.int a1]) (rest := []) ⟨hx, hb, hml, hown, hts⟩ (c_S_numberK l a1 _ rfl) ⟨callB_of 1 hts (gw_in gw_185) rfl rfl rfl (hts _ gw_1) (hts _ gw_183) nh_S_numberK ⟨Nat.le_of_ble_eq_true rfl, Nat.le_of_ble_eq_true rfl⟩, (hts _ gw_184)⟩ my_preP rfl rfl hl.1 rfl (lv_room (Nat.le_of_ble_eq_true rfl)) nd_S_performProduct_13 ⟨Nat.le_of_ble_eq_true rfl, Nat.le_of_ble_eq_true rfl⟩) hP hS (fun H locs hP hS => ?_)
  rcases my_em (x := f_S_numberK a1) (24 : Int32) with h16_24 | h16_24
  · have hw := (if_pos h16_24).symm.trans hw
    refine my_swi (tgt := 44) hx hb nd_S_performProduct_16 h16_24 (by decide) (by decide) rfl (by decide) ?_
    refine lv_aload_n hx hb nd_S_performProduct_44 rfl (lv_at hl 2 rfl) ?_
    refine lv_iload_n hx hb nd_S_performProduct_45 rfl (lv_at hl 1 rfl) ?_
    refine lv_i2l (v := (f_S_valueOfS a1 u).toInt64) hx hb nd_S_performProduct_46 rfl ?_
    refine lv_iload_n hx hb nd_S_performProduct_47 rfl (lv_at hl 0 rfl) ?_
    refine lv_i2l (v := (f_S_valueOfT a1 u).toInt64) hx hb nd_S_performProduct_48 rfl ?_
    refine lv_lmul hx hb nd_S_performProduct_49 ?_
    obtain ⟨r50, u50, hq50, hw⟩ := bnd_i hw
    refine my_ci (wd := wSC h cA) (r := r50) (u' := u50) (va_runV (As := [.long (((f_S_valueOfS a1 u).toInt64) * ((f_S_valueOfT a1 u).toInt64))]) (rest := []) ⟨hx, hb, hml, hown, hts⟩ (c_S_keepHighAndLow l D h cA u (((f_S_valueOfS a1 u).toInt64) * ((f_S_valueOfT a1 u).toInt64)) (r50, u50) hq50 _) ⟨callB_of 1 hts (gw_in gw_243) rfl rfl rfl (hts _ gw_1) (hts _ gw_240) nh_S_keepHighAndLow ⟨Nat.le_of_ble_eq_true rfl, Nat.le_of_ble_eq_true rfl⟩, (hts _ gw_242), (hts _ gw_241)⟩ (my_preV nwOk hP hK hD hN (va_recv hK hP (ci := 0) (q0 := 0) rfl rfl)) rfl rfl hl.1 rfl (lv_room (Nat.le_of_ble_eq_true rfl)) nd_S_performProduct_50 ⟨Nat.le_of_ble_eq_true rfl, Nat.le_of_ble_eq_true rfl⟩) hD hS hA (fun H locs hP hD hS => ?_)
    exact my_ri (u' := u50) (v := r50) hx hb hr hlocks hK hP hD hS hw nd_S_performProduct_53
  have hw := (if_neg h16_24).symm.trans hw
  rcases my_em (x := f_S_numberK a1) (25 : Int32) with h16_25 | h16_25
  · have hw := (if_pos h16_25).symm.trans hw
    refine my_swi (tgt := 54) hx hb nd_S_performProduct_16 h16_25 (by decide) (by decide) rfl (by decide) ?_
    refine lv_aload_n hx hb nd_S_performProduct_54 rfl (lv_at hl 2 rfl) ?_
    refine lv_iload_n hx hb nd_S_performProduct_55 rfl (lv_at hl 1 rfl) ?_
    refine my_cl (F := f_S_withoutSign (f_S_valueOfS a1 u)) (va_runS (As := [.int (f_S_valueOfS a1 u)]) (rest := [.ref (h 0)]) ⟨hx, hb, hml, hown, hts⟩ (c_S_withoutSign l (f_S_valueOfS a1 u) _ rfl) ⟨callB_of 1 hts (gw_in gw_246) rfl rfl rfl (hts _ gw_1) (hts _ gw_244) nh_S_withoutSign ⟨Nat.le_of_ble_eq_true rfl, Nat.le_of_ble_eq_true rfl⟩, (hts _ gw_245)⟩ my_preP rfl rfl hl.1 rfl (lv_room (Nat.le_of_ble_eq_true rfl)) nd_S_performProduct_56 ⟨Nat.le_of_ble_eq_true rfl, Nat.le_of_ble_eq_true rfl⟩) hP hS (fun H locs hP hS => ?_)
    refine lv_iload_n hx hb nd_S_performProduct_59 rfl (lv_at hl 0 rfl) ?_
    refine my_cl (F := f_S_withoutSign (f_S_valueOfT a1 u)) (va_runS (As := [.int (f_S_valueOfT a1 u)]) (rest := [.long (f_S_withoutSign (f_S_valueOfS a1 u)), .ref (h 0)]) ⟨hx, hb, hml, hown, hts⟩ (c_S_withoutSign l (f_S_valueOfT a1 u) _ rfl) ⟨callB_of 1 hts (gw_in gw_246) rfl rfl rfl (hts _ gw_1) (hts _ gw_244) nh_S_withoutSign ⟨Nat.le_of_ble_eq_true rfl, Nat.le_of_ble_eq_true rfl⟩, (hts _ gw_245)⟩ my_preP rfl rfl hl.1 rfl (lv_room (Nat.le_of_ble_eq_true rfl)) nd_S_performProduct_60 ⟨Nat.le_of_ble_eq_true rfl, Nat.le_of_ble_eq_true rfl⟩) hP hS (fun H locs hP hS => ?_)
    refine lv_lmul hx hb nd_S_performProduct_63 ?_
    obtain ⟨r64, u64, hq64, hw⟩ := bnd_i hw
    refine my_ci (wd := wSC h cA) (r := r64) (u' := u64) (va_runV (As := [.long ((f_S_withoutSign (f_S_valueOfS a1 u)) * (f_S_withoutSign (f_S_valueOfT a1 u)))]) (rest := []) ⟨hx, hb, hml, hown, hts⟩ (c_S_keepHighAndLow l D h cA u ((f_S_withoutSign (f_S_valueOfS a1 u)) * (f_S_withoutSign (f_S_valueOfT a1 u))) (r64, u64) hq64 _) ⟨callB_of 1 hts (gw_in gw_243) rfl rfl rfl (hts _ gw_1) (hts _ gw_240) nh_S_keepHighAndLow ⟨Nat.le_of_ble_eq_true rfl, Nat.le_of_ble_eq_true rfl⟩, (hts _ gw_242), (hts _ gw_241)⟩ (my_preV nwOk hP hK hD hN (va_recv hK hP (ci := 0) (q0 := 0) rfl rfl)) rfl rfl hl.1 rfl (lv_room (Nat.le_of_ble_eq_true rfl)) nd_S_performProduct_64 ⟨Nat.le_of_ble_eq_true rfl, Nat.le_of_ble_eq_true rfl⟩) hD hS hA (fun H locs hP hD hS => ?_)
    exact my_ri (u' := u64) (v := r64) hx hb hr hlocks hK hP hD hS hw nd_S_performProduct_67
  have hw := (if_neg h16_25).symm.trans hw
  rcases my_em (x := f_S_numberK a1) (26 : Int32) with h16_26 | h16_26
  · have hw := (if_pos h16_26).symm.trans hw
    refine my_swi (tgt := 68) hx hb nd_S_performProduct_16 h16_26 (by decide) (by decide) rfl (by decide) ?_
    refine lv_aload_n hx hb nd_S_performProduct_68 rfl (lv_at hl 2 rfl) ?_
    refine lv_iload_n hx hb nd_S_performProduct_69 rfl (lv_at hl 1 rfl) ?_
    refine lv_iload_n hx hb nd_S_performProduct_70 rfl (lv_at hl 0 rfl) ?_
    refine my_cl (F := f_S_divide (f_S_valueOfS a1 u) (f_S_valueOfT a1 u)) (va_runS (As := [.int (f_S_valueOfS a1 u), .int (f_S_valueOfT a1 u)]) (rest := [.ref (h 0)]) ⟨hx, hb, hml, hown, hts⟩ (c_S_divide l (f_S_valueOfS a1 u) (f_S_valueOfT a1 u) _ rfl) ⟨callB_of 2 hts (gw_in gw_250) rfl rfl rfl (hts _ gw_1) (hts _ gw_248) nh_S_divide ⟨Nat.le_of_ble_eq_true rfl, Nat.le_of_ble_eq_true rfl⟩, (hts _ gw_249)⟩ my_preP rfl rfl hl.1 rfl (lv_room (Nat.le_of_ble_eq_true rfl)) nd_S_performProduct_71 ⟨Nat.le_of_ble_eq_true rfl, Nat.le_of_ble_eq_true rfl⟩) hP hS (fun H locs hP hS => ?_)
    obtain ⟨r74, u74, hq74, hw⟩ := bnd_i hw
    refine my_ci (wd := wSC h cA) (r := r74) (u' := u74) (va_runV (As := [.long (f_S_divide (f_S_valueOfS a1 u) (f_S_valueOfT a1 u))]) (rest := []) ⟨hx, hb, hml, hown, hts⟩ (c_S_keepHighAndLow l D h cA u (f_S_divide (f_S_valueOfS a1 u) (f_S_valueOfT a1 u)) (r74, u74) hq74 _) ⟨callB_of 1 hts (gw_in gw_243) rfl rfl rfl (hts _ gw_1) (hts _ gw_240) nh_S_keepHighAndLow ⟨Nat.le_of_ble_eq_true rfl, Nat.le_of_ble_eq_true rfl⟩, (hts _ gw_242), (hts _ gw_241)⟩ (my_preV nwOk hP hK hD hN (va_recv hK hP (ci := 0) (q0 := 0) rfl rfl)) rfl rfl hl.1 rfl (lv_room (Nat.le_of_ble_eq_true rfl)) nd_S_performProduct_74 ⟨Nat.le_of_ble_eq_true rfl, Nat.le_of_ble_eq_true rfl⟩) hD hS hA (fun H locs hP hD hS => ?_)
    exact my_ri (u' := u74) (v := r74) hx hb hr hlocks hK hP hD hS hw nd_S_performProduct_77
  have hw := (if_neg h16_26).symm.trans hw
  refine my_swd (tgt := 78) hx hb nd_S_performProduct_16 (my_nec h16_24 (my_nec h16_25 (my_nec h16_26 my_nen))) (by decide +kernel) (by decide) ?_
  refine lv_aload_n hx hb nd_S_performProduct_78 rfl (lv_at hl 2 rfl) ?_
  refine lv_iload_n hx hb nd_S_performProduct_79 rfl (lv_at hl 1 rfl) ?_
  refine lv_iload_n hx hb nd_S_performProduct_80 rfl (lv_at hl 0 rfl) ?_
  refine my_cl (F := f_S_divideWithoutSign (f_S_valueOfS a1 u) (f_S_valueOfT a1 u)) (va_runS (As := [.int (f_S_valueOfS a1 u), .int (f_S_valueOfT a1 u)]) (rest := [.ref (h 0)]) ⟨hx, hb, hml, hown, hts⟩ (c_S_divideWithoutSign l (f_S_valueOfS a1 u) (f_S_valueOfT a1 u) _ rfl) ⟨callB_of 2 hts (gw_in gw_257) rfl rfl rfl (hts _ gw_1) (hts _ gw_255) nh_S_divideWithoutSign ⟨Nat.le_of_ble_eq_true rfl, Nat.le_of_ble_eq_true rfl⟩, (hts _ gw_256)⟩ my_preP rfl rfl hl.1 rfl (lv_room (Nat.le_of_ble_eq_true rfl)) nd_S_performProduct_81 ⟨Nat.le_of_ble_eq_true rfl, Nat.le_of_ble_eq_true rfl⟩) hP hS (fun H locs hP hS => ?_)
  obtain ⟨r84, u84, hq84, hw⟩ := bnd_i hw
  refine my_ci (wd := wSC h cA) (r := r84) (u' := u84) (va_runV (As := [.long (f_S_divideWithoutSign (f_S_valueOfS a1 u) (f_S_valueOfT a1 u))]) (rest := []) ⟨hx, hb, hml, hown, hts⟩ (c_S_keepHighAndLow l D h cA u (f_S_divideWithoutSign (f_S_valueOfS a1 u) (f_S_valueOfT a1 u)) (r84, u84) hq84 _) ⟨callB_of 1 hts (gw_in gw_243) rfl rfl rfl (hts _ gw_1) (hts _ gw_240) nh_S_keepHighAndLow ⟨Nat.le_of_ble_eq_true rfl, Nat.le_of_ble_eq_true rfl⟩, (hts _ gw_242), (hts _ gw_241)⟩ (my_preV nwOk hP hK hD hN (va_recv hK hP (ci := 0) (q0 := 0) rfl rfl)) rfl rfl hl.1 rfl (lv_room (Nat.le_of_ble_eq_true rfl)) nd_S_performProduct_84 ⟨Nat.le_of_ble_eq_true rfl, Nat.le_of_ble_eq_true rfl⟩) hD hS hA (fun H locs hP hD hS => ?_)
  exact my_ri (u' := u84) (v := r84) hx hb hr hlocks hK hP hD hS hw nd_S_performProduct_87
set_option maxHeartbeats 4000000 in
set_option maxRecDepth 100000 in
theorem c_S_performOnTwo (l : Launch) (D : va_G) (h : Nat → Nat) (cA : Nat → ClassId) (u : St) (a1 : Int32) (F : Int32 × St) (hw : f_S_performOnTwo a1 u = F) : MI nwS vwCl l ny_S_performOnTwo nw_S_performOnTwo ({ frames := 2, cells := 0, slots := 0, locals := 45 }) D (tyI cA) (wSC h cA) ([.ref (h 0), .int a1] : List Value) u F := by
  refine my_in (gw := GW) (cc := nc_S_performOnTwo) (maxL := 5) (ret := (some .int)) (Qc := fun A => QI vwCl D (tyI cA) (wSC h cA) F A) (by decide) rfl (Nat.le_of_ble_eq_true rfl) ?_
  intro p e s m below meth c A H locs ls hx hb hml hr hts hown hlocks hK hN hA hP hD hS hl
  have hown : s.vm.findClass nR_S = some m.cls := hown
  have hl : lv_has ls 5 [(0, .ref (h 0)), (1, .int a1)] := hl
  have J183 : ∀ (y0 : Int32) (y1 : Int32) (u : St) (H : Heap) (locs : List Loc) (ls : Array Slot), va_P D vwCl (wSC h cA u) H → va_D A (wSC h cA u) → va_S A s.heap H locs → lv_has ls 5 [] → f_S_performOnTwo_b183 y0 y1 u = F →
      W p l e (headSpec nw_S_performOnTwo ({ frames := 2, cells := 0, slots := 0, locals := 45 })).room s m ([.ref (h 0), .int a1] : List Value).toArray below meth c H locs 0 0 (MQ below (QI vwCl D (tyI cA) (wSC h cA) F A) ([.ref (h 0), .int a1] : List Value).toArray s 0 0 A) (F0 m 183 ls [.int (zb y0), .int y1, .ref (h 0)]) := by
    intro y0 y1 u H locs ls hP hD hS hl hw
    unfold f_S_performOnTwo_b183 at hw
    obtain ⟨r183, u183, hq183, hw⟩ := bnd_i hw
    refine my_ci (wd := wSC h cA) (r := r183) (u' := u183) (va_runV (As := [.int y1, .int (zb y0)]) (rest := []) ⟨hx, hb, hml, hown, hts⟩ (c_S_giveTruth l D h cA u y1 y0 (r183, u183) hq183 _) ⟨callB_of 2 hts (gw_in gw_269) rfl rfl rfl (hts _ gw_1) (hts _ gw_266) nh_S_giveTruth ⟨Nat.le_of_ble_eq_true rfl, Nat.le_of_ble_eq_true rfl⟩, (hts _ gw_268), (hts _ gw_267)⟩ (my_preV nwOk hP hK hD hN (va_recv hK hP (ci := 0) (q0 := 0) rfl rfl)) rfl rfl hl.1 rfl (lv_room (Nat.le_of_ble_eq_true rfl)) nd_S_performOnTwo_183 ⟨Nat.le_of_ble_eq_true rfl, Nat.le_of_ble_eq_true rfl⟩) hD hS hA (fun H locs hP hD hS => ?_)
    exact my_ri (u' := u183) (v := r183) hx hb hr hlocks hK hP hD hS hw nd_S_performOnTwo_186
  have J207 : ∀ (y0 : Int32) (y1 : Int32) (u : St) (H : Heap) (locs : List Loc) (ls : Array Slot), va_P D vwCl (wSC h cA u) H → va_D A (wSC h cA u) → va_S A s.heap H locs → lv_has ls 5 [] → f_S_performOnTwo_b207 y0 y1 u = F →
      W p l e (headSpec nw_S_performOnTwo ({ frames := 2, cells := 0, slots := 0, locals := 45 })).room s m ([.ref (h 0), .int a1] : List Value).toArray below meth c H locs 0 0 (MQ below (QI vwCl D (tyI cA) (wSC h cA) F A) ([.ref (h 0), .int a1] : List Value).toArray s 0 0 A) (F0 m 207 ls [.int (zb y0), .int y1, .ref (h 0)]) := by
    intro y0 y1 u H locs ls hP hD hS hl hw
    unfold f_S_performOnTwo_b207 at hw
    obtain ⟨r207, u207, hq207, hw⟩ := bnd_i hw
    refine my_ci (wd := wSC h cA) (r := r207) (u' := u207) (va_runV (As := [.int y1, .int (zb y0)]) (rest := []) ⟨hx, hb, hml, hown, hts⟩ (c_S_giveTruth l D h cA u y1 y0 (r207, u207) hq207 _) ⟨callB_of 2 hts (gw_in gw_269) rfl rfl rfl (hts _ gw_1) (hts _ gw_266) nh_S_giveTruth ⟨Nat.le_of_ble_eq_true rfl, Nat.le_of_ble_eq_true rfl⟩, (hts _ gw_268), (hts _ gw_267)⟩ (my_preV nwOk hP hK hD hN (va_recv hK hP (ci := 0) (q0 := 0) rfl rfl)) rfl rfl hl.1 rfl (lv_room (Nat.le_of_ble_eq_true rfl)) nd_S_performOnTwo_207 ⟨Nat.le_of_ble_eq_true rfl, Nat.le_of_ble_eq_true rfl⟩) hD hS hA (fun H locs hP hD hS => ?_)
    exact my_ri (u' := u207) (v := r207) hx hb hr hlocks hK hP hD hS hw nd_S_performOnTwo_210
  unfold f_S_performOnTwo at hw
  refine lv_aload_n hx hb nd_S_performOnTwo_0 rfl (lv_at hl 0 rfl) ?_
  refine lv_iload_n hx hb nd_S_performOnTwo_1 rfl (lv_at hl 1 rfl) ?_
  refine my_ci (wd := wSC h cA) (r := f_S_valueOfS a1 u) (u' := u) (va_runV (As := [.int a1]) (rest := []) ⟨hx, hb, hml, hown, hts⟩ (c_S_valueOfS l D h cA u a1 _ rfl _) ⟨callB_of 1 hts (gw_in gw_213) rfl rfl rfl (hts _ gw_1) (hts _ gw_210) nh_S_valueOfS ⟨Nat.le_of_ble_eq_true rfl, Nat.le_of_ble_eq_true rfl⟩, (hts _ gw_212), (hts _ gw_211)⟩ (my_preV nwOk hP hK hD hN (va_recv hK hP (ci := 0) (q0 := 0) rfl rfl)) rfl rfl hl.1 rfl (lv_room (Nat.le_of_ble_eq_true rfl)) nd_S_performOnTwo_2 ⟨Nat.le_of_ble_eq_true rfl, Nat.le_of_ble_eq_true rfl⟩) hD hS hA (fun H locs hP hD hS => ?_)
  refine lv_istore_n (lv' := [(2, .int (f_S_valueOfS a1 u)), (0, .ref (h 0)), (1, .int a1)]) hx hb nd_S_performOnTwo_5 rfl hl (by decide) rfl (fun ls hl => ?_)
  refine lv_aload_n hx hb nd_S_performOnTwo_6 rfl (lv_at hl 1 rfl) ?_
  refine lv_iload_n hx hb nd_S_performOnTwo_7 rfl (lv_at hl 2 rfl) ?_
  refine my_ci (wd := wSC h cA) (r := f_S_valueOfT a1 u) (u' := u) (va_runV (As := [.int a1]) (rest := []) ⟨hx, hb, hml, hown, hts⟩ (c_S_valueOfT l D h cA u a1 _ rfl _) ⟨callB_of 1 hts (gw_in gw_203) rfl rfl rfl (hts _ gw_1) (hts _ gw_200) nh_S_valueOfT ⟨Nat.le_of_ble_eq_true rfl, Nat.le_of_ble_eq_true rfl⟩, (hts _ gw_202), (hts _ gw_201)⟩ (my_preV nwOk hP hK hD hN (va_recv hK hP (ci := 0) (q0 := 0) rfl rfl)) rfl rfl hl.1 rfl (lv_room (Nat.le_of_ble_eq_true rfl)) nd_S_performOnTwo_8 ⟨Nat.le_of_ble_eq_true rfl, Nat.le_of_ble_eq_true rfl⟩) hD hS hA (fun H locs hP hD hS => ?_)
  refine lv_istore_n (lv' := [(3, .int (f_S_valueOfT a1 u)), (2, .int (f_S_valueOfS a1 u)), (0, .ref (h 0)), (1, .int a1)]) hx hb nd_S_performOnTwo_11 rfl hl (by decide) rfl (fun ls hl => ?_)
  refine lv_iload_n hx hb nd_S_performOnTwo_12 rfl (lv_at hl 3 rfl) ?_
  refine my_cp (F := f_S_numberD a1) (va_runS (As := [.int a1]) (rest := []) ⟨hx, hb, hml, hown, hts⟩ (c_S_numberD l a1 _ rfl) ⟨callB_of 1 hts (gw_in gw_209) rfl rfl rfl (hts _ gw_1) (hts _ gw_207) nh_S_numberD ⟨Nat.le_of_ble_eq_true rfl, Nat.le_of_ble_eq_true rfl⟩, (hts _ gw_208)⟩ my_preP rfl rfl hl.1 rfl (lv_room (Nat.le_of_ble_eq_true rfl)) nd_S_performOnTwo_13 ⟨Nat.le_of_ble_eq_true rfl, Nat.le_of_ble_eq_true rfl⟩) hP hS (fun H locs hP hS => ?_)
  refine lv_istore (lv' := [(4, .int (f_S_numberD a1)), (3, .int (f_S_valueOfT a1 u)), (2, .int (f_S_valueOfS a1 u)), (0, .ref (h 0)), (1, .int a1)]) hx hb nd_S_performOnTwo_16 hl (by decide) rfl (fun ls hl => ?_)
  refine lv_iload_n hx hb nd_S_performOnTwo_18 rfl (lv_at hl 4 rfl) ?_
  refine my_cp (F := f_S_numberK a1) (va_runS (As := [.int a1]) (rest := []) ⟨hx, hb, hml, hown, hts⟩ (c_S_numberK l a1 _ rfl) ⟨callB_of 1 hts (gw_in gw_185) rfl rfl rfl (hts _ gw_1) (hts _ gw_183) nh_S_numberK ⟨Nat.le_of_ble_eq_true rfl, Nat.le_of_ble_eq_true rfl⟩, (hts _ gw_184)⟩ my_preP rfl rfl hl.1 rfl (lv_room (Nat.le_of_ble_eq_true rfl)) nd_S_performOnTwo_19 ⟨Nat.le_of_ble_eq_true rfl, Nat.le_of_ble_eq_true rfl⟩) hP hS (fun H locs hP hS => ?_)
  rcases my_em (x := f_S_numberK a1) (32 : Int32) with h22_32 | h22_32
  · have hw := (if_pos h22_32).symm.trans hw
    refine my_swi (tgt := 84) hx hb nd_S_performOnTwo_22 h22_32 (by decide) (by decide) rfl (by decide) ?_
    refine lv_aload_n hx hb nd_S_performOnTwo_84 rfl (lv_at hl 3 rfl) ?_
    refine lv_iload hx hb nd_S_performOnTwo_85 (lv_at hl 0 rfl) ?_
    refine lv_iload_n hx hb nd_S_performOnTwo_87 rfl (lv_at hl 2 rfl) ?_
    refine lv_i2l (v := (f_S_valueOfS a1 u).toInt64) hx hb nd_S_performOnTwo_88 rfl ?_
    refine lv_iload_n hx hb nd_S_performOnTwo_89 rfl (lv_at hl 1 rfl) ?_
    refine lv_i2l (v := (f_S_valueOfT a1 u).toInt64) hx hb nd_S_performOnTwo_90 rfl ?_
    refine lv_ladd hx hb nd_S_performOnTwo_91 ?_
    obtain ⟨r92, u92, hq92, hw⟩ := bnd_i hw
    refine my_ci (wd := wSC h cA) (r := r92) (u' := u92) (va_runV (As := [.int (f_S_numberD a1), .long (((f_S_valueOfS a1 u).toInt64) + ((f_S_valueOfT a1 u).toInt64))]) (rest := []) ⟨hx, hb, hml, hown, hts⟩ (c_S_giveIfExact l D h cA u (f_S_numberD a1) (((f_S_valueOfS a1 u).toInt64) + ((f_S_valueOfT a1 u).toInt64)) (r92, u92) hq92 _) ⟨callB_of 2 hts (gw_in gw_265) rfl rfl rfl (hts _ gw_1) (hts _ gw_262) nh_S_giveIfExact ⟨Nat.le_of_ble_eq_true rfl, Nat.le_of_ble_eq_true rfl⟩, (hts _ gw_264), (hts _ gw_263)⟩ (my_preV nwOk hP hK hD hN (va_recv hK hP (ci := 0) (q0 := 0) rfl rfl)) rfl rfl hl.1 rfl (lv_room (Nat.le_of_ble_eq_true rfl)) nd_S_performOnTwo_92 ⟨Nat.le_of_ble_eq_true rfl, Nat.le_of_ble_eq_true rfl⟩) hD hS hA (fun H locs hP hD hS => ?_)
    exact my_ri (u' := u92) (v := r92) hx hb hr hlocks hK hP hD hS hw nd_S_performOnTwo_95
  have hw := (if_neg h22_32).symm.trans hw
  rcases my_em (x := f_S_numberK a1) (33 : Int32) with h22_33 | h22_33
  · have hw := (if_pos h22_33).symm.trans hw
    refine my_swi (tgt := 96) hx hb nd_S_performOnTwo_22 h22_33 (by decide) (by decide) rfl (by decide) ?_
    refine lv_aload_n hx hb nd_S_performOnTwo_96 rfl (lv_at hl 3 rfl) ?_
    refine lv_iload hx hb nd_S_performOnTwo_97 (lv_at hl 0 rfl) ?_
    refine lv_iload_n hx hb nd_S_performOnTwo_99 rfl (lv_at hl 2 rfl) ?_
    refine lv_iload_n hx hb nd_S_performOnTwo_100 rfl (lv_at hl 1 rfl) ?_
    refine lv_iadd hx hb nd_S_performOnTwo_101 ?_
    obtain ⟨r102, u102, hq102, hw⟩ := bnd_i hw
    refine my_ci (wd := wSC h cA) (r := r102) (u' := u102) (va_runV (As := [.int (f_S_numberD a1), .int ((f_S_valueOfS a1 u) + (f_S_valueOfT a1 u))]) (rest := []) ⟨hx, hb, hml, hown, hts⟩ (c_S_give l D h cA u (f_S_numberD a1) ((f_S_valueOfS a1 u) + (f_S_valueOfT a1 u)) (r102, u102) hq102 _) ⟨callB_of 2 hts (gw_in gw_223) rfl rfl rfl (hts _ gw_1) (hts _ gw_220) nh_S_give ⟨Nat.le_of_ble_eq_true rfl, Nat.le_of_ble_eq_true rfl⟩, (hts _ gw_222), (hts _ gw_221)⟩ (my_preV nwOk hP hK hD hN (va_recv hK hP (ci := 0) (q0 := 0) rfl rfl)) rfl rfl hl.1 rfl (lv_room (Nat.le_of_ble_eq_true rfl)) nd_S_performOnTwo_102 ⟨Nat.le_of_ble_eq_true rfl, Nat.le_of_ble_eq_true rfl⟩) hD hS hA (fun H locs hP hD hS => ?_)
    exact my_ri (u' := u102) (v := r102) hx hb hr hlocks hK hP hD hS hw nd_S_performOnTwo_105
  have hw := (if_neg h22_33).symm.trans hw
  rcases my_em (x := f_S_numberK a1) (34 : Int32) with h22_34 | h22_34
  · have hw := (if_pos h22_34).symm.trans hw
    refine my_swi (tgt := 106) hx hb nd_S_performOnTwo_22 h22_34 (by decide) (by decide) rfl (by decide) ?_
    refine lv_aload_n hx hb nd_S_performOnTwo_106 rfl (lv_at hl 3 rfl) ?_
    refine lv_iload hx hb nd_S_performOnTwo_107 (lv_at hl 0 rfl) ?_
    refine lv_iload_n hx hb nd_S_performOnTwo_109 rfl (lv_at hl 2 rfl) ?_
    refine lv_i2l (v := (f_S_valueOfS a1 u).toInt64) hx hb nd_S_performOnTwo_110 rfl ?_
    refine lv_iload_n hx hb nd_S_performOnTwo_111 rfl (lv_at hl 1 rfl) ?_
    refine lv_i2l (v := (f_S_valueOfT a1 u).toInt64) hx hb nd_S_performOnTwo_112 rfl ?_
    refine lv_lsub hx hb nd_S_performOnTwo_113 ?_
    obtain ⟨r114, u114, hq114, hw⟩ := bnd_i hw
    refine my_ci (wd := wSC h cA) (r := r114) (u' := u114) (va_runV (As := [.int (f_S_numberD a1), .long (((f_S_valueOfS a1 u).toInt64) - ((f_S_valueOfT a1 u).toInt64))]) (rest := []) ⟨hx, hb, hml, hown, hts⟩ (c_S_giveIfExact l D h cA u (f_S_numberD a1) (((f_S_valueOfS a1 u).toInt64) - ((f_S_valueOfT a1 u).toInt64)) (r114, u114) hq114 _) ⟨callB_of 2 hts (gw_in gw_265) rfl rfl rfl (hts _ gw_1) (hts _ gw_262) nh_S_giveIfExact ⟨Nat.le_of_ble_eq_true rfl, Nat.le_of_ble_eq_true rfl⟩, (hts _ gw_264), (hts _ gw_263)⟩ (my_preV nwOk hP hK hD hN (va_recv hK hP (ci := 0) (q0 := 0) rfl rfl)) rfl rfl hl.1 rfl (lv_room (Nat.le_of_ble_eq_true rfl)) nd_S_performOnTwo_114 ⟨Nat.le_of_ble_eq_true rfl, Nat.le_of_ble_eq_true rfl⟩) hD hS hA (fun H locs hP hD hS => ?_)
    exact my_ri (u' := u114) (v := r114) hx hb hr hlocks hK hP hD hS hw nd_S_performOnTwo_117
  have hw := (if_neg h22_34).symm.trans hw
  rcases my_em (x := f_S_numberK a1) (35 : Int32) with h22_35 | h22_35
  · have hw := (if_pos h22_35).symm.trans hw
    refine my_swi (tgt := 118) hx hb nd_S_performOnTwo_22 h22_35 (by decide) (by decide) rfl (by decide) ?_
    refine lv_aload_n hx hb nd_S_performOnTwo_118 rfl (lv_at hl 3 rfl) ?_
    refine lv_iload hx hb nd_S_performOnTwo_119 (lv_at hl 0 rfl) ?_
    refine lv_iload_n hx hb nd_S_performOnTwo_121 rfl (lv_at hl 2 rfl) ?_
    refine lv_iload_n hx hb nd_S_performOnTwo_122 rfl (lv_at hl 1 rfl) ?_
    refine lv_isub hx hb nd_S_performOnTwo_123 ?_
    obtain ⟨r124, u124, hq124, hw⟩ := bnd_i hw
    refine my_ci (wd := wSC h cA) (r := r124) (u' := u124) (va_runV (As := [.int (f_S_numberD a1), .int ((f_S_valueOfS a1 u) - (f_S_valueOfT a1 u))]) (rest := []) ⟨hx, hb, hml, hown, hts⟩ (c_S_give l D h cA u (f_S_numberD a1) ((f_S_valueOfS a1 u) - (f_S_valueOfT a1 u)) (r124, u124) hq124 _) ⟨callB_of 2 hts (gw_in gw_223) rfl rfl rfl (hts _ gw_1) (hts _ gw_220) nh_S_give ⟨Nat.le_of_ble_eq_true rfl, Nat.le_of_ble_eq_true rfl⟩, (hts _ gw_222), (hts _ gw_221)⟩ (my_preV nwOk hP hK hD hN (va_recv hK hP (ci := 0) (q0 := 0) rfl rfl)) rfl rfl hl.1 rfl (lv_room (Nat.le_of_ble_eq_true rfl)) nd_S_performOnTwo_124 ⟨Nat.le_of_ble_eq_true rfl, Nat.le_of_ble_eq_true rfl⟩) hD hS hA (fun H locs hP hD hS => ?_)
    exact my_ri (u' := u124) (v := r124) hx hb hr hlocks hK hP hD hS hw nd_S_performOnTwo_127
  have hw := (if_neg h22_35).symm.trans hw
  rcases my_em (x := f_S_numberK a1) (36 : Int32) with h22_36 | h22_36
  · have hw := (if_pos h22_36).symm.trans hw
    refine my_swi (tgt := 128) hx hb nd_S_performOnTwo_22 h22_36 (by decide) (by decide) rfl (by decide) ?_
    refine lv_aload_n hx hb nd_S_performOnTwo_128 rfl (lv_at hl 3 rfl) ?_
    refine lv_iload hx hb nd_S_performOnTwo_129 (lv_at hl 0 rfl) ?_
    refine lv_iload_n hx hb nd_S_performOnTwo_131 rfl (lv_at hl 2 rfl) ?_
    refine lv_iload_n hx hb nd_S_performOnTwo_132 rfl (lv_at hl 1 rfl) ?_
    refine lv_iand hx hb nd_S_performOnTwo_133 ?_
    obtain ⟨r134, u134, hq134, hw⟩ := bnd_i hw
    refine my_ci (wd := wSC h cA) (r := r134) (u' := u134) (va_runV (As := [.int (f_S_numberD a1), .int ((f_S_valueOfS a1 u) &&& (f_S_valueOfT a1 u))]) (rest := []) ⟨hx, hb, hml, hown, hts⟩ (c_S_give l D h cA u (f_S_numberD a1) ((f_S_valueOfS a1 u) &&& (f_S_valueOfT a1 u)) (r134, u134) hq134 _) ⟨callB_of 2 hts (gw_in gw_223) rfl rfl rfl (hts _ gw_1) (hts _ gw_220) nh_S_give ⟨Nat.le_of_ble_eq_true rfl, Nat.le_of_ble_eq_true rfl⟩, (hts _ gw_222), (hts _ gw_221)⟩ (my_preV nwOk hP hK hD hN (va_recv hK hP (ci := 0) (q0 := 0) rfl rfl)) rfl rfl hl.1 rfl (lv_room (Nat.le_of_ble_eq_true rfl)) nd_S_performOnTwo_134 ⟨Nat.le_of_ble_eq_true rfl, Nat.le_of_ble_eq_true rfl⟩) hD hS hA (fun H locs hP hD hS => ?_)
    exact my_ri (u' := u134) (v := r134) hx hb hr hlocks hK hP hD hS hw nd_S_performOnTwo_137
  have hw := (if_neg h22_36).symm.trans hw
  rcases my_em (x := f_S_numberK a1) (37 : Int32) with h22_37 | h22_37
  · have hw := (if_pos h22_37).symm.trans hw
    refine my_swi (tgt := 138) hx hb nd_S_performOnTwo_22 h22_37 (by decide) (by decide) rfl (by decide) ?_
    refine lv_aload_n hx hb nd_S_performOnTwo_138 rfl (lv_at hl 3 rfl) ?_
    refine lv_iload hx hb nd_S_performOnTwo_139 (lv_at hl 0 rfl) ?_
    refine lv_iload_n hx hb nd_S_performOnTwo_141 rfl (lv_at hl 2 rfl) ?_
    refine lv_iload_n hx hb nd_S_performOnTwo_142 rfl (lv_at hl 1 rfl) ?_
    refine lv_ior hx hb nd_S_performOnTwo_143 ?_
    obtain ⟨r144, u144, hq144, hw⟩ := bnd_i hw
    refine my_ci (wd := wSC h cA) (r := r144) (u' := u144) (va_runV (As := [.int (f_S_numberD a1), .int ((f_S_valueOfS a1 u) ||| (f_S_valueOfT a1 u))]) (rest := []) ⟨hx, hb, hml, hown, hts⟩ (c_S_give l D h cA u (f_S_numberD a1) ((f_S_valueOfS a1 u) ||| (f_S_valueOfT a1 u)) (r144, u144) hq144 _) ⟨callB_of 2 hts (gw_in gw_223) rfl rfl rfl (hts _ gw_1) (hts _ gw_220) nh_S_give ⟨Nat.le_of_ble_eq_true rfl, Nat.le_of_ble_eq_true rfl⟩, (hts _ gw_222), (hts _ gw_221)⟩ (my_preV nwOk hP hK hD hN (va_recv hK hP (ci := 0) (q0 := 0) rfl rfl)) rfl rfl hl.1 rfl (lv_room (Nat.le_of_ble_eq_true rfl)) nd_S_performOnTwo_144 ⟨Nat.le_of_ble_eq_true rfl, Nat.le_of_ble_eq_true rfl⟩) hD hS hA (fun H locs hP hD hS => ?_)
    exact my_ri (u' := u144) (v := r144) hx hb hr hlocks hK hP hD hS hw nd_S_performOnTwo_147
  have hw := (if_neg h22_37).symm.trans hw
  rcases my_em (x := f_S_numberK a1) (38 : Int32) with h22_38 | h22_38
  · have hw := (if_pos h22_38).symm.trans hw
    refine my_swi (tgt := 148) hx hb nd_S_performOnTwo_22 h22_38 (by decide) (by decide) rfl (by decide) ?_
    refine lv_aload_n hx hb nd_S_performOnTwo_148 rfl (lv_at hl 3 rfl) ?_
    refine lv_iload hx hb nd_S_performOnTwo_149 (lv_at hl 0 rfl) ?_
    refine lv_iload_n hx hb nd_S_performOnTwo_151 rfl (lv_at hl 2 rfl) ?_
    refine lv_iload_n hx hb nd_S_performOnTwo_152 rfl (lv_at hl 1 rfl) ?_
    refine lv_ixor hx hb nd_S_performOnTwo_153 ?_
    obtain ⟨r154, u154, hq154, hw⟩ := bnd_i hw
    refine my_ci (wd := wSC h cA) (r := r154) (u' := u154) (va_runV (As := [.int (f_S_numberD a1), .int ((f_S_valueOfS a1 u) ^^^ (f_S_valueOfT a1 u))]) (rest := []) ⟨hx, hb, hml, hown, hts⟩ (c_S_give l D h cA u (f_S_numberD a1) ((f_S_valueOfS a1 u) ^^^ (f_S_valueOfT a1 u)) (r154, u154) hq154 _) ⟨callB_of 2 hts (gw_in gw_223) rfl rfl rfl (hts _ gw_1) (hts _ gw_220) nh_S_give ⟨Nat.le_of_ble_eq_true rfl, Nat.le_of_ble_eq_true rfl⟩, (hts _ gw_222), (hts _ gw_221)⟩ (my_preV nwOk hP hK hD hN (va_recv hK hP (ci := 0) (q0 := 0) rfl rfl)) rfl rfl hl.1 rfl (lv_room (Nat.le_of_ble_eq_true rfl)) nd_S_performOnTwo_154 ⟨Nat.le_of_ble_eq_true rfl, Nat.le_of_ble_eq_true rfl⟩) hD hS hA (fun H locs hP hD hS => ?_)
    exact my_ri (u' := u154) (v := r154) hx hb hr hlocks hK hP hD hS hw nd_S_performOnTwo_157
  have hw := (if_neg h22_38).symm.trans hw
  rcases my_em (x := f_S_numberK a1) (39 : Int32) with h22_39 | h22_39
  · have hw := (if_pos h22_39).symm.trans hw
    refine my_swi (tgt := 158) hx hb nd_S_performOnTwo_22 h22_39 (by decide) (by decide) rfl (by decide) ?_
    refine lv_aload_n hx hb nd_S_performOnTwo_158 rfl (lv_at hl 3 rfl) ?_
    refine lv_iload hx hb nd_S_performOnTwo_159 (lv_at hl 0 rfl) ?_
    refine lv_iload_n hx hb nd_S_performOnTwo_161 rfl (lv_at hl 2 rfl) ?_
    refine lv_iload_n hx hb nd_S_performOnTwo_162 rfl (lv_at hl 1 rfl) ?_
    refine lv_ior hx hb nd_S_performOnTwo_163 ?_
    refine lv_iconst (v := (-1 : Int32)) hx hb nd_S_performOnTwo_164 (by decide) ?_
    refine lv_ixor hx hb nd_S_performOnTwo_165 ?_
    obtain ⟨r166, u166, hq166, hw⟩ := bnd_i hw
    refine my_ci (wd := wSC h cA) (r := r166) (u' := u166) (va_runV (As := [.int (f_S_numberD a1), .int (((f_S_valueOfS a1 u) ||| (f_S_valueOfT a1 u)) ^^^ (-1 : Int32))]) (rest := []) ⟨hx, hb, hml, hown, hts⟩ (c_S_give l D h cA u (f_S_numberD a1) (((f_S_valueOfS a1 u) ||| (f_S_valueOfT a1 u)) ^^^ (-1 : Int32)) (r166, u166) hq166 _) ⟨callB_of 2 hts (gw_in gw_223) rfl rfl rfl (hts _ gw_1) (hts _ gw_220) nh_S_give ⟨Nat.le_of_ble_eq_true rfl, Nat.le_of_ble_eq_true rfl⟩, (hts _ gw_222), (hts _ gw_221)⟩ (my_preV nwOk hP hK hD hN (va_recv hK hP (ci := 0) (q0 := 0) rfl rfl)) rfl rfl hl.1 rfl (lv_room (Nat.le_of_ble_eq_true rfl)) nd_S_performOnTwo_166 ⟨Nat.le_of_ble_eq_true rfl, Nat.le_of_ble_eq_true rfl⟩) hD hS hA (fun H locs hP hD hS => ?_)
    exact my_ri (u' := u166) (v := r166) hx hb hr hlocks hK hP hD hS hw nd_S_performOnTwo_169
  have hw := (if_neg h22_39).symm.trans hw
  rcases my_em (x := f_S_numberK a1) (42 : Int32) with h22_42 | h22_42
  · have hw := (if_pos h22_42).symm.trans hw
    refine my_swi (tgt := 170) hx hb nd_S_performOnTwo_22 h22_42 (by decide) (by decide) rfl (by decide) ?_
    refine lv_aload_n hx hb nd_S_performOnTwo_170 rfl (lv_at hl 3 rfl) ?_
    refine lv_iload hx hb nd_S_performOnTwo_171 (lv_at hl 0 rfl) ?_
    refine lv_iload_n hx hb nd_S_performOnTwo_173 rfl (lv_at hl 2 rfl) ?_
    refine lv_iload_n hx hb nd_S_performOnTwo_174 rfl (lv_at hl 1 rfl) ?_
    refine lv_icmp_ge (tgt := 182) hx hb nd_S_performOnTwo_175 (by decide) (fun h175 => ?_) (fun h175 => ?_)
    · have hw := (if_pos h175).symm.trans hw
      refine lv_iconst (v := (0 : Int32)) hx hb nd_S_performOnTwo_182 (by decide) ?_
      exact J183 (0 : Int32) (f_S_numberD a1) u H locs ls hP hD hS (lv_sub hl [] rfl) hw
    have hw := (if_neg h175).symm.trans hw
    refine lv_iconst (v := (1 : Int32)) hx hb nd_S_performOnTwo_178 (by decide) ?_
    refine lv_goto (tgt := 183) hx hb nd_S_performOnTwo_179 (by decide) ?_
    exact J183 (1 : Int32) (f_S_numberD a1) u H locs ls hP hD hS (lv_sub hl [] rfl) hw
  have hw := (if_neg h22_42).symm.trans hw
  rcases my_em (x := f_S_numberK a1) (43 : Int32) with h22_43 | h22_43
  · have hw := (if_pos h22_43).symm.trans hw
    refine my_swi (tgt := 187) hx hb nd_S_performOnTwo_22 h22_43 (by decide) (by decide) rfl (by decide) ?_
    refine lv_aload_n hx hb nd_S_performOnTwo_187 rfl (lv_at hl 3 rfl) ?_
    refine lv_iload hx hb nd_S_performOnTwo_188 (lv_at hl 0 rfl) ?_
    refine lv_iload_n hx hb nd_S_performOnTwo_190 rfl (lv_at hl 2 rfl) ?_
    refine my_cl (F := f_S_withoutSign (f_S_valueOfS a1 u)) (va_runS (As := [.int (f_S_valueOfS a1 u)]) (rest := [.int (f_S_numberD a1), .ref (h 0)]) ⟨hx, hb, hml, hown, hts⟩ (c_S_withoutSign l (f_S_valueOfS a1 u) _ rfl) ⟨callB_of 1 hts (gw_in gw_246) rfl rfl rfl (hts _ gw_1) (hts _ gw_244) nh_S_withoutSign ⟨Nat.le_of_ble_eq_true rfl, Nat.le_of_ble_eq_true rfl⟩, (hts _ gw_245)⟩ my_preP rfl rfl hl.1 rfl (lv_room (Nat.le_of_ble_eq_true rfl)) nd_S_performOnTwo_191 ⟨Nat.le_of_ble_eq_true rfl, Nat.le_of_ble_eq_true rfl⟩) hP hS (fun H locs hP hS => ?_)
    refine lv_iload_n hx hb nd_S_performOnTwo_194 rfl (lv_at hl 1 rfl) ?_
    refine my_cl (F := f_S_withoutSign (f_S_valueOfT a1 u)) (va_runS (As := [.int (f_S_valueOfT a1 u)]) (rest := [.long (f_S_withoutSign (f_S_valueOfS a1 u)), .int (f_S_numberD a1), .ref (h 0)]) ⟨hx, hb, hml, hown, hts⟩ (c_S_withoutSign l (f_S_valueOfT a1 u) _ rfl) ⟨callB_of 1 hts (gw_in gw_246) rfl rfl rfl (hts _ gw_1) (hts _ gw_244) nh_S_withoutSign ⟨Nat.le_of_ble_eq_true rfl, Nat.le_of_ble_eq_true rfl⟩, (hts _ gw_245)⟩ my_preP rfl rfl hl.1 rfl (lv_room (Nat.le_of_ble_eq_true rfl)) nd_S_performOnTwo_195 ⟨Nat.le_of_ble_eq_true rfl, Nat.le_of_ble_eq_true rfl⟩) hP hS (fun H locs hP hS => ?_)
    refine W.lcmp hx hb nd_S_performOnTwo_198 ?_
    refine lv_if_ge (tgt := 206) hx hb nd_S_performOnTwo_199 (by decide) (fun h199 => ?_) (fun h199 => ?_)
    · have hw := (if_pos h199).symm.trans hw
      refine lv_iconst (v := (0 : Int32)) hx hb nd_S_performOnTwo_206 (by decide) ?_
      exact J207 (0 : Int32) (f_S_numberD a1) u H locs ls hP hD hS (lv_sub hl [] rfl) hw
    have hw := (if_neg h199).symm.trans hw
    refine lv_iconst (v := (1 : Int32)) hx hb nd_S_performOnTwo_202 (by decide) ?_
    refine lv_goto (tgt := 207) hx hb nd_S_performOnTwo_203 (by decide) ?_
    exact J207 (1 : Int32) (f_S_numberD a1) u H locs ls hP hD hS (lv_sub hl [] rfl) hw
  have hw := (if_neg h22_43).symm.trans hw
  refine my_swd (tgt := 211) hx hb nd_S_performOnTwo_22 (my_nec h22_32 (my_nec h22_33 (my_nec h22_34 (my_nec h22_35 (my_nec h22_36 (my_nec h22_37 (my_nec h22_38 (my_nec h22_39 (my_nec h22_42 (my_nec h22_43 my_nen)))))))))) (by decide +kernel) (by decide) ?_
  refine lv_bipush (v := (10 : Int32)) hx hb nd_S_performOnTwo_211 (by decide) ?_
  exact my_ri (u' := u) (v := (10 : Int32)) hx hb hr hlocks hK hP hD hS hw nd_S_performOnTwo_213
set_option maxHeartbeats 4000000 in
set_option maxRecDepth 100000 in
theorem c_S_performBranchBySign (l : Launch) (D : va_G) (h : Nat → Nat) (cA : Nat → ClassId) (u : St) (a1 : Int32) (F : Int32 × St) (hw : f_S_performBranchBySign a1 u = F) : MI nwS vwCl l ny_S_performBranchBySign nw_S_performBranchBySign ({ frames := 2, cells := 0, slots := 0, locals := 42 }) D (tyI cA) (wSC h cA) ([.ref (h 0), .int a1] : List Value) u F := by
  refine my_in (gw := GW) (cc := nc_S_performBranchBySign) (maxL := 5) (ret := (some .int)) (Qc := fun A => QI vwCl D (tyI cA) (wSC h cA) F A) (by decide) rfl (Nat.le_of_ble_eq_true rfl) ?_
  intro p e s m below meth c A H locs ls hx hb hml hr hts hown hlocks hK hN hA hP hD hS hl
  have hown : s.vm.findClass nR_S = some m.cls := hown
  have hl : lv_has ls 5 [(0, .ref (h 0)), (1, .int a1)] := hl
  have J84 : ∀ (x1 : Int32) (y0 : Int32) (u : St) (H : Heap) (locs : List Loc) (ls : Array Slot), va_P D vwCl (wSC h cA u) H → va_D A (wSC h cA u) → va_S A s.heap H locs → lv_has ls 5 [(0, .ref (h 0)), (1, .int x1)] → f_S_performBranchBySign_b84 x1 y0 u = F →
      W p l e (headSpec nw_S_performBranchBySign ({ frames := 2, cells := 0, slots := 0, locals := 42 })).room s m ([.ref (h 0), .int a1] : List Value).toArray below meth c H locs 0 0 (MQ below (QI vwCl D (tyI cA) (wSC h cA) F A) ([.ref (h 0), .int a1] : List Value).toArray s 0 0 A) (F0 m 84 ls [.int (zb y0), .ref (h 0)]) := by
    intro x1 y0 u H locs ls hP hD hS hl hw
    unfold f_S_performBranchBySign_b84 at hw
    refine lv_aload_n hx hb nd_S_performBranchBySign_84 rfl (lv_at hl 0 rfl) ?_
    refine lv_iload_n hx hb nd_S_performBranchBySign_85 rfl (lv_at hl 1 rfl) ?_
    refine my_ci (wd := wSC h cA) (r := f_S_nearTarget x1 u) (u' := u) (va_runV (As := [.int x1]) (rest := [.int (zb y0), .ref (h 0)]) ⟨hx, hb, hml, hown, hts⟩ (c_S_nearTarget l D h cA u x1 _ rfl _) ⟨callB_of 1 hts (gw_in gw_277) rfl rfl rfl (hts _ gw_1) (hts _ gw_274) nh_S_nearTarget ⟨Nat.le_of_ble_eq_true rfl, Nat.le_of_ble_eq_true rfl⟩, (hts _ gw_276), (hts _ gw_275)⟩ (my_preV nwOk hP hK hD hN (va_recv hK hP (ci := 0) (q0 := 0) rfl rfl)) rfl rfl hl.1 rfl (lv_room (Nat.le_of_ble_eq_true rfl)) nd_S_performBranchBySign_86 ⟨Nat.le_of_ble_eq_true rfl, Nat.le_of_ble_eq_true rfl⟩) hD hS hA (fun H locs hP hD hS => ?_)
    obtain ⟨r89, u89, hq89, hw⟩ := bnd_i hw
    refine my_ci (wd := wSC h cA) (r := r89) (u' := u89) (va_runV (As := [.int (zb y0), .int (f_S_nearTarget x1 u)]) (rest := []) ⟨hx, hb, hml, hown, hts⟩ (c_S_branchIf l D h cA u y0 (f_S_nearTarget x1 u) (r89, u89) hq89 _) ⟨callB_of 2 hts (gw_in gw_231) rfl rfl rfl (hts _ gw_1) (hts _ gw_228) nh_S_branchIf ⟨Nat.le_of_ble_eq_true rfl, Nat.le_of_ble_eq_true rfl⟩, (hts _ gw_230), (hts _ gw_229)⟩ (my_preV nwOk hP hK hD hN (va_recv hK hP (ci := 0) (q0 := 0) rfl rfl)) rfl rfl hl.1 rfl (lv_room (Nat.le_of_ble_eq_true rfl)) nd_S_performBranchBySign_89 ⟨Nat.le_of_ble_eq_true rfl, Nat.le_of_ble_eq_true rfl⟩) hD hS hA (fun H locs hP hD hS => ?_)
    exact my_ri (u' := u89) (v := r89) hx hb hr hlocks hK hP hD hS hw nd_S_performBranchBySign_92
  have J76 : ∀ (x1 : Int32) (y0 : Int32) (y1 : Int32) (u : St) (H : Heap) (locs : List Loc) (ls : Array Slot), va_P D vwCl (wSC h cA u) H → va_D A (wSC h cA u) → va_S A s.heap H locs → lv_has ls 5 [(0, .ref (h 0)), (1, .int x1)] → f_S_performBranchBySign_b76 x1 y0 y1 u = F →
      W p l e (headSpec nw_S_performBranchBySign ({ frames := 2, cells := 0, slots := 0, locals := 42 })).room s m ([.ref (h 0), .int a1] : List Value).toArray below meth c H locs 0 0 (MQ below (QI vwCl D (tyI cA) (wSC h cA) F A) ([.ref (h 0), .int a1] : List Value).toArray s 0 0 A) (F0 m 76 ls [.int y0, .int y1, .ref (h 0)]) := by
    intro x1 y0 y1 u H locs ls hP hD hS hl hw
    unfold f_S_performBranchBySign_b76 at hw
    refine lv_icmp_ne (tgt := 83) hx hb nd_S_performBranchBySign_76 (by decide) (fun h76 => ?_) (fun h76 => ?_)
    · have hw := (if_neg h76).symm.trans hw
      refine lv_iconst (v := (0 : Int32)) hx hb nd_S_performBranchBySign_83 (by decide) ?_
      exact J84 x1 (0 : Int32) u H locs ls hP hD hS (lv_sub hl [0, 1] rfl) hw
    have hw := (if_pos h76).symm.trans hw
    refine lv_iconst (v := (1 : Int32)) hx hb nd_S_performBranchBySign_79 (by decide) ?_
    refine lv_goto (tgt := 84) hx hb nd_S_performBranchBySign_80 (by decide) ?_
    exact J84 x1 (1 : Int32) u H locs ls hP hD hS (lv_sub hl [0, 1] rfl) hw
  have J62 : ∀ (x1 : Int32) (x2 : Int32) (y0 : Int32) (u : St) (H : Heap) (locs : List Loc) (ls : Array Slot), va_P D vwCl (wSC h cA u) H → va_D A (wSC h cA u) → va_S A s.heap H locs → lv_has ls 5 [(0, .ref (h 0)), (1, .int x1), (2, .int x2)] → f_S_performBranchBySign_b62 x1 x2 y0 u = F →
      W p l e (headSpec nw_S_performBranchBySign ({ frames := 2, cells := 0, slots := 0, locals := 42 })).room s m ([.ref (h 0), .int a1] : List Value).toArray below meth c H locs 0 0 (MQ below (QI vwCl D (tyI cA) (wSC h cA) F A) ([.ref (h 0), .int a1] : List Value).toArray s 0 0 A) (F0 m 62 ls [.int y0]) := by
    intro x1 x2 y0 u H locs ls hP hD hS hl hw
    unfold f_S_performBranchBySign_b62 at hw
    refine lv_istore (lv' := [(4, .int y0), (0, .ref (h 0)), (1, .int x1), (2, .int x2)]) hx hb nd_S_performBranchBySign_62 hl (by decide) rfl (fun ls hl => ?_)
    refine lv_aload_n hx hb nd_S_performBranchBySign_64 rfl (lv_at hl 1 rfl) ?_
    refine lv_iload hx hb nd_S_performBranchBySign_65 (lv_at hl 0 rfl) ?_
    refine lv_iload_n hx hb nd_S_performBranchBySign_67 rfl (lv_at hl 3 rfl) ?_
    refine lv_if_ge (tgt := 75) hx hb nd_S_performBranchBySign_68 (by decide) (fun h68 => ?_) (fun h68 => ?_)
    · have hw := (if_pos h68).symm.trans hw
      refine lv_iconst (v := (0 : Int32)) hx hb nd_S_performBranchBySign_75 (by decide) ?_
      exact J76 x1 (0 : Int32) y0 u H locs ls hP hD hS (lv_sub hl [1, 2] rfl) hw
    have hw := (if_neg h68).symm.trans hw
    refine lv_iconst (v := (1 : Int32)) hx hb nd_S_performBranchBySign_71 (by decide) ?_
    refine lv_goto (tgt := 76) hx hb nd_S_performBranchBySign_72 (by decide) ?_
    exact J76 x1 (1 : Int32) y0 u H locs ls hP hD hS (lv_sub hl [1, 2] rfl) hw
  have J57 : ∀ (x1 : Int32) (x2 : Int32) (u : St) (H : Heap) (locs : List Loc) (ls : Array Slot), va_P D vwCl (wSC h cA u) H → va_D A (wSC h cA u) → va_S A s.heap H locs → lv_has ls 5 [(0, .ref (h 0)), (1, .int x1), (2, .int x2)] → f_S_performBranchBySign_b57 x1 x2 u = F →
      W p l e (headSpec nw_S_performBranchBySign ({ frames := 2, cells := 0, slots := 0, locals := 42 })).room s m ([.ref (h 0), .int a1] : List Value).toArray below meth c H locs 0 0 (MQ below (QI vwCl D (tyI cA) (wSC h cA) F A) ([.ref (h 0), .int a1] : List Value).toArray s 0 0 A) (F0 m 57 ls []) := by
    intro x1 x2 u H locs ls hP hD hS hl hw
    unfold f_S_performBranchBySign_b57 at hw
    refine lv_iconst (v := (1 : Int32)) hx hb nd_S_performBranchBySign_57 (by decide) ?_
    refine lv_goto (tgt := 62) hx hb nd_S_performBranchBySign_58 (by decide) ?_
    exact J62 x1 x2 (1 : Int32) u H locs ls hP hD hS (lv_sub hl [0, 1, 2] rfl) hw
  have J47 : ∀ (x1 : Int32) (x2 : Int32) (x3 : Int32) (u : St) (H : Heap) (locs : List Loc) (ls : Array Slot), va_P D vwCl (wSC h cA u) H → va_D A (wSC h cA u) → va_S A s.heap H locs → lv_has ls 5 [(0, .ref (h 0)), (1, .int x1), (2, .int x2), (3, .int x3)] → f_S_performBranchBySign_b47 x1 x2 x3 u = F →
      W p l e (headSpec nw_S_performBranchBySign ({ frames := 2, cells := 0, slots := 0, locals := 42 })).room s m ([.ref (h 0), .int a1] : List Value).toArray below meth c H locs 0 0 (MQ below (QI vwCl D (tyI cA) (wSC h cA) F A) ([.ref (h 0), .int a1] : List Value).toArray s 0 0 A) (F0 m 47 ls []) := by
    intro x1 x2 x3 u H locs ls hP hD hS hl hw
    unfold f_S_performBranchBySign_b47 at hw
    refine lv_iload_n hx hb nd_S_performBranchBySign_47 rfl (lv_at hl 3 rfl) ?_
    refine lv_if_eq (tgt := 57) hx hb nd_S_performBranchBySign_48 (by decide) (fun h48 => ?_) (fun h48 => ?_)
    · have hw := (if_pos h48).symm.trans hw
      exact J57 x1 x2 u H locs ls hP hD hS (lv_sub hl [0, 1, 2] rfl) hw
    have hw := (if_neg h48).symm.trans hw
    refine lv_iload_n hx hb nd_S_performBranchBySign_51 rfl (lv_at hl 3 rfl) ?_
    refine lv_bipush (v := (16 : Int32)) hx hb nd_S_performBranchBySign_52 (by decide) ?_
    refine lv_icmp_ne (tgt := 61) hx hb nd_S_performBranchBySign_54 (by decide) (fun h54 => ?_) (fun h54 => ?_)
    · have hw := (if_neg h54).symm.trans hw
      refine lv_iconst (v := (0 : Int32)) hx hb nd_S_performBranchBySign_61 (by decide) ?_
      exact J62 x1 x2 (0 : Int32) u H locs ls hP hD hS (lv_sub hl [0, 1, 2] rfl) hw
    have hw := (if_pos h54).symm.trans hw
    exact J57 x1 x2 u H locs ls hP hD hS (lv_sub hl [0, 1, 2] rfl) hw
  have J33 : ∀ (x1 : Int32) (x2 : Int32) (x3 : Int32) (u : St) (H : Heap) (locs : List Loc) (ls : Array Slot), va_P D vwCl (wSC h cA u) H → va_D A (wSC h cA u) → va_S A s.heap H locs → lv_has ls 5 [(0, .ref (h 0)), (1, .int x1), (2, .int x2), (3, .int x3)] → f_S_performBranchBySign_b33 x1 x2 x3 u = F →
      W p l e (headSpec nw_S_performBranchBySign ({ frames := 2, cells := 0, slots := 0, locals := 42 })).room s m ([.ref (h 0), .int a1] : List Value).toArray below meth c H locs 0 0 (MQ below (QI vwCl D (tyI cA) (wSC h cA) F A) ([.ref (h 0), .int a1] : List Value).toArray s 0 0 A) (F0 m 33 ls []) := by
    intro x1 x2 x3 u H locs ls hP hD hS hl hw
    unfold f_S_performBranchBySign_b33 at hw
    refine lv_aload_n hx hb nd_S_performBranchBySign_33 rfl (lv_at hl 0 rfl) ?_
    refine lv_bipush (v := (31 : Int32)) hx hb nd_S_performBranchBySign_34 (by decide) ?_
    refine lv_aload_n hx hb nd_S_performBranchBySign_36 rfl (lv_at hl 0 rfl) ?_
    refine va_get (D := D) (ci := 0) (v := .int (u 0 4)) (C := nR_S) (T := nT_S) (N := 9) hx hb hts nu_S hown hK hP 0 rfl rfl 4 (by decide) (hts _ gw_67) (fun _ h9 => h9) rfl nd_S_performBranchBySign_37 ?_
    refine lv_bipush (v := (8 : Int32)) hx hb nd_S_performBranchBySign_40 (by decide) ?_
    refine lv_iadd hx hb nd_S_performBranchBySign_42 ?_
    obtain ⟨r43, u43, hq43, hw⟩ := bnd_i hw
    refine my_ci (wd := wSC h cA) (r := r43) (u' := u43) (va_runV (As := [.int (31 : Int32), .int ((u 0 4) + (8 : Int32))]) (rest := []) ⟨hx, hb, hml, hown, hts⟩ (c_S_give l D h cA u (31 : Int32) ((u 0 4) + (8 : Int32)) (r43, u43) hq43 _) ⟨callB_of 2 hts (gw_in gw_223) rfl rfl rfl (hts _ gw_1) (hts _ gw_220) nh_S_give ⟨Nat.le_of_ble_eq_true rfl, Nat.le_of_ble_eq_true rfl⟩, (hts _ gw_222), (hts _ gw_221)⟩ (my_preV nwOk hP hK hD hN (va_recv hK hP (ci := 0) (q0 := 0) rfl rfl)) rfl rfl hl.1 rfl (lv_room (Nat.le_of_ble_eq_true rfl)) nd_S_performBranchBySign_43 ⟨Nat.le_of_ble_eq_true rfl, Nat.le_of_ble_eq_true rfl⟩) hD hS hA (fun H locs hP hD hS => ?_)
    refine lv_pop hx hb nd_S_performBranchBySign_46 rfl ?_
    exact J47 x1 x2 x3 u43 H locs ls hP hD hS (lv_sub hl [0, 1, 2, 3] rfl) hw
  unfold f_S_performBranchBySign at hw
  refine lv_iload_n hx hb nd_S_performBranchBySign_0 rfl (lv_at hl 1 rfl) ?_
  refine my_cp (F := zb (f_S_isBranchBySign a1)) (va_runS (As := [.int a1]) (rest := []) ⟨hx, hb, hml, hown, hts⟩ (c_S_isBranchBySign l a1 _ rfl) ⟨callB_of 1 hts (gw_in gw_188) rfl rfl rfl (hts _ gw_1) (hts _ gw_186) nh_S_isBranchBySign ⟨Nat.le_of_ble_eq_true rfl, Nat.le_of_ble_eq_true rfl⟩, (hts _ gw_187)⟩ my_preP rfl rfl hl.1 rfl (lv_room (Nat.le_of_ble_eq_true rfl)) nd_S_performBranchBySign_1 ⟨Nat.le_of_ble_eq_true rfl, Nat.le_of_ble_eq_true rfl⟩) hP hS (fun H locs hP hS => ?_)
  refine lv_if_ne (tgt := 10) hx hb nd_S_performBranchBySign_4 (by decide) (fun h4 => ?_) (fun h4 => ?_)
  · have hw := (if_neg h4).symm.trans hw
    refine lv_aload_n hx hb nd_S_performBranchBySign_10 rfl (lv_at hl 0 rfl) ?_
    refine lv_iload_n hx hb nd_S_performBranchBySign_11 rfl (lv_at hl 1 rfl) ?_
    refine my_ci (wd := wSC h cA) (r := f_S_valueOfS a1 u) (u' := u) (va_runV (As := [.int a1]) (rest := []) ⟨hx, hb, hml, hown, hts⟩ (c_S_valueOfS l D h cA u a1 _ rfl _) ⟨callB_of 1 hts (gw_in gw_213) rfl rfl rfl (hts _ gw_1) (hts _ gw_210) nh_S_valueOfS ⟨Nat.le_of_ble_eq_true rfl, Nat.le_of_ble_eq_true rfl⟩, (hts _ gw_212), (hts _ gw_211)⟩ (my_preV nwOk hP hK hD hN (va_recv hK hP (ci := 0) (q0 := 0) rfl rfl)) rfl rfl hl.1 rfl (lv_room (Nat.le_of_ble_eq_true rfl)) nd_S_performBranchBySign_12 ⟨Nat.le_of_ble_eq_true rfl, Nat.le_of_ble_eq_true rfl⟩) hD hS hA (fun H locs hP hD hS => ?_)
    refine lv_istore_n (lv' := [(2, .int (f_S_valueOfS a1 u)), (0, .ref (h 0)), (1, .int a1)]) hx hb nd_S_performBranchBySign_15 rfl hl (by decide) rfl (fun ls hl => ?_)
    refine lv_iload_n hx hb nd_S_performBranchBySign_16 rfl (lv_at hl 2 rfl) ?_
    refine my_cp (F := f_S_numberT a1) (va_runS (As := [.int a1]) (rest := []) ⟨hx, hb, hml, hown, hts⟩ (c_S_numberT l a1 _ rfl) ⟨callB_of 1 hts (gw_in gw_191) rfl rfl rfl (hts _ gw_1) (hts _ gw_189) nh_S_numberT ⟨Nat.le_of_ble_eq_true rfl, Nat.le_of_ble_eq_true rfl⟩, (hts _ gw_190)⟩ my_preP rfl rfl hl.1 rfl (lv_room (Nat.le_of_ble_eq_true rfl)) nd_S_performBranchBySign_17 ⟨Nat.le_of_ble_eq_true rfl, Nat.le_of_ble_eq_true rfl⟩) hP hS (fun H locs hP hS => ?_)
    refine lv_istore_n (lv' := [(3, .int (f_S_numberT a1)), (2, .int (f_S_valueOfS a1 u)), (0, .ref (h 0)), (1, .int a1)]) hx hb nd_S_performBranchBySign_20 rfl hl (by decide) rfl (fun ls hl => ?_)
    refine lv_iload_n hx hb nd_S_performBranchBySign_21 rfl (lv_at hl 0 rfl) ?_
    refine lv_bipush (v := (16 : Int32)) hx hb nd_S_performBranchBySign_22 (by decide) ?_
    refine lv_icmp_eq (tgt := 33) hx hb nd_S_performBranchBySign_24 (by decide) (fun h24 => ?_) (fun h24 => ?_)
    · have hw := (if_pos h24).symm.trans hw
      exact J33 a1 (f_S_valueOfS a1 u) (f_S_numberT a1) u H locs ls hP hD hS (lv_sub hl [2, 3, 1, 0] rfl) hw
    have hw := (if_neg h24).symm.trans hw
    refine lv_iload_n hx hb nd_S_performBranchBySign_27 rfl (lv_at hl 0 rfl) ?_
    refine lv_bipush (v := (17 : Int32)) hx hb nd_S_performBranchBySign_28 (by decide) ?_
    refine lv_icmp_ne (tgt := 47) hx hb nd_S_performBranchBySign_30 (by decide) (fun h30 => ?_) (fun h30 => ?_)
    · have hw := (if_neg h30).symm.trans hw
      exact J47 a1 (f_S_valueOfS a1 u) (f_S_numberT a1) u H locs ls hP hD hS (lv_sub hl [2, 3, 1, 0] rfl) hw
    have hw := (if_pos h30).symm.trans hw
    exact J33 a1 (f_S_valueOfS a1 u) (f_S_numberT a1) u H locs ls hP hD hS (lv_sub hl [2, 3, 1, 0] rfl) hw
  have hw := (if_pos h4).symm.trans hw
  refine lv_bipush (v := (10 : Int32)) hx hb nd_S_performBranchBySign_7 (by decide) ?_
  exact my_ri (u' := u) (v := (10 : Int32)) hx hb hr hlocks hK hP hD hS hw nd_S_performBranchBySign_9
set_option maxHeartbeats 4000000 in
set_option maxRecDepth 100000 in
theorem c_S_performJump (l : Launch) (D : va_G) (h : Nat → Nat) (cA : Nat → ClassId) (u : St) (a1 : Int32) (F : Int32 × St) (hw : f_S_performJump a1 u = F) : MI nwS vwCl l ny_S_performJump nw_S_performJump ({ frames := 1, cells := 0, slots := 0, locals := 22 }) D (tyI cA) (wSC h cA) ([.ref (h 0), .int a1] : List Value) u F := by
  refine my_in (gw := GW) (cc := nc_S_performJump) (maxL := 2) (ret := (some .int)) (Qc := fun A => QI vwCl D (tyI cA) (wSC h cA) F A) (by decide) rfl (Nat.le_of_ble_eq_true rfl) ?_
  intro p e s m below meth c A H locs ls hx hb hml hr hts hown hlocks hK hN hA hP hD hS hl
  have hown : s.vm.findClass nR_S = some m.cls := hown
  have hl : lv_has ls 2 [(0, .ref (h 0)), (1, .int a1)] := hl
  have J22 : ∀ (x1 : Int32) (u : St) (H : Heap) (locs : List Loc) (ls : Array Slot), va_P D vwCl (wSC h cA u) H → va_D A (wSC h cA u) → va_S A s.heap H locs → lv_has ls 2 [(0, .ref (h 0)), (1, .int x1)] → f_S_performJump_b22 x1 u = F →
      W p l e (headSpec nw_S_performJump ({ frames := 1, cells := 0, slots := 0, locals := 22 })).room s m ([.ref (h 0), .int a1] : List Value).toArray below meth c H locs 0 0 (MQ below (QI vwCl D (tyI cA) (wSC h cA) F A) ([.ref (h 0), .int a1] : List Value).toArray s 0 0 A) (F0 m 22 ls []) := by
    intro x1 u H locs ls hP hD hS hl hw
    unfold f_S_performJump_b22 at hw
    refine lv_aload_n hx hb nd_S_performJump_22 rfl (lv_at hl 0 rfl) ?_
    refine lv_iconst (v := (1 : Int32)) hx hb nd_S_performJump_23 (by decide) ?_
    refine lv_aload_n hx hb nd_S_performJump_24 rfl (lv_at hl 0 rfl) ?_
    refine lv_iload_n hx hb nd_S_performJump_25 rfl (lv_at hl 1 rfl) ?_
    refine my_ci (wd := wSC h cA) (r := f_S_farTarget x1 u) (u' := u) (va_runV (As := [.int x1]) (rest := [.int (1 : Int32), .ref (h 0)]) ⟨hx, hb, hml, hown, hts⟩ (c_S_farTarget l D h cA u x1 _ rfl _) ⟨callB_of 1 hts (gw_in gw_288) rfl rfl rfl (hts _ gw_1) (hts _ gw_285) nh_S_farTarget ⟨Nat.le_of_ble_eq_true rfl, Nat.le_of_ble_eq_true rfl⟩, (hts _ gw_287), (hts _ gw_286)⟩ (my_preV nwOk hP hK hD hN (va_recv hK hP (ci := 0) (q0 := 0) rfl rfl)) rfl rfl hl.1 rfl (lv_room (Nat.le_of_ble_eq_true rfl)) nd_S_performJump_26 ⟨Nat.le_of_ble_eq_true rfl, Nat.le_of_ble_eq_true rfl⟩) hD hS hA (fun H locs hP hD hS => ?_)
    obtain ⟨r29, u29, hq29, hw⟩ := bnd_i hw
    refine my_ci (wd := wSC h cA) (r := r29) (u' := u29) (va_runV (As := [.int (zb (1 : Int32)), .int (f_S_farTarget x1 u)]) (rest := []) ⟨hx, hb, hml, hown, hts⟩ (c_S_branchIf l D h cA u (1 : Int32) (f_S_farTarget x1 u) (r29, u29) hq29 _) ⟨callB_of 2 hts (gw_in gw_231) rfl rfl rfl (hts _ gw_1) (hts _ gw_228) nh_S_branchIf ⟨Nat.le_of_ble_eq_true rfl, Nat.le_of_ble_eq_true rfl⟩, (hts _ gw_230), (hts _ gw_229)⟩ (my_preV nwOk hP hK hD hN (va_recv hK hP (ci := 0) (q0 := 0) rfl rfl)) rfl rfl hl.1 rfl (lv_room (Nat.le_of_ble_eq_true rfl)) nd_S_performJump_29 ⟨Nat.le_of_ble_eq_true rfl, Nat.le_of_ble_eq_true rfl⟩) hD hS hA (fun H locs hP hD hS => ?_)
    exact my_ri (u' := u29) (v := r29) hx hb hr hlocks hK hP hD hS hw nd_S_performJump_32
  unfold f_S_performJump at hw
  refine lv_iload_n hx hb nd_S_performJump_0 rfl (lv_at hl 1 rfl) ?_
  refine my_cp (F := f_S_orderOf a1) (va_runS (As := [.int a1]) (rest := []) ⟨hx, hb, hml, hown, hts⟩ (c_S_orderOf l a1 _ rfl) ⟨callB_of 1 hts (gw_in gw_182) rfl rfl rfl (hts _ gw_1) (hts _ gw_180) nh_S_orderOf ⟨Nat.le_of_ble_eq_true rfl, Nat.le_of_ble_eq_true rfl⟩, (hts _ gw_181)⟩ my_preP rfl rfl hl.1 rfl (lv_room (Nat.le_of_ble_eq_true rfl)) nd_S_performJump_1 ⟨Nat.le_of_ble_eq_true rfl, Nat.le_of_ble_eq_true rfl⟩) hP hS (fun H locs hP hS => ?_)
  refine lv_iconst (v := (3 : Int32)) hx hb nd_S_performJump_4 (by decide) ?_
  refine lv_icmp_ne (tgt := 22) hx hb nd_S_performJump_5 (by decide) (fun h5 => ?_) (fun h5 => ?_)
  · have hw := (if_neg h5).symm.trans hw
    exact J22 a1 u H locs ls hP hD hS (lv_sub hl [0, 1] rfl) hw
  have hw := (if_pos h5).symm.trans hw
  refine lv_aload_n hx hb nd_S_performJump_8 rfl (lv_at hl 0 rfl) ?_
  refine lv_bipush (v := (31 : Int32)) hx hb nd_S_performJump_9 (by decide) ?_
  refine lv_aload_n hx hb nd_S_performJump_11 rfl (lv_at hl 0 rfl) ?_
  refine va_get (D := D) (ci := 0) (v := .int (u 0 4)) (C := nR_S) (T := nT_S) (N := 9) hx hb hts nu_S hown hK hP 0 rfl rfl 4 (by decide) (hts _ gw_67) (fun _ h9 => h9) rfl nd_S_performJump_12 ?_
  refine lv_bipush (v := (8 : Int32)) hx hb nd_S_performJump_15 (by decide) ?_
  refine lv_iadd hx hb nd_S_performJump_17 ?_
  obtain ⟨r18, u18, hq18, hw⟩ := bnd_i hw
  refine my_ci (wd := wSC h cA) (r := r18) (u' := u18) (va_runV (As := [.int (31 : Int32), .int ((u 0 4) + (8 : Int32))]) (rest := []) ⟨hx, hb, hml, hown, hts⟩ (c_S_give l D h cA u (31 : Int32) ((u 0 4) + (8 : Int32)) (r18, u18) hq18 _) ⟨callB_of 2 hts (gw_in gw_223) rfl rfl rfl (hts _ gw_1) (hts _ gw_220) nh_S_give ⟨Nat.le_of_ble_eq_true rfl, Nat.le_of_ble_eq_true rfl⟩, (hts _ gw_222), (hts _ gw_221)⟩ (my_preV nwOk hP hK hD hN (va_recv hK hP (ci := 0) (q0 := 0) rfl rfl)) rfl rfl hl.1 rfl (lv_room (Nat.le_of_ble_eq_true rfl)) nd_S_performJump_18 ⟨Nat.le_of_ble_eq_true rfl, Nat.le_of_ble_eq_true rfl⟩) hD hS hA (fun H locs hP hD hS => ?_)
  refine lv_pop hx hb nd_S_performJump_21 rfl ?_
  exact J22 a1 u18 H locs ls hP hD hS (lv_sub hl [0, 1] rfl) hw
set_option maxHeartbeats 4000000 in
set_option maxRecDepth 100000 in
theorem c_S_performBranch (l : Launch) (D : va_G) (h : Nat → Nat) (cA : Nat → ClassId) (u : St) (a1 : Int32) (F : Int32 × St) (hw : f_S_performBranch a1 u = F) : MI nwS vwCl l ny_S_performBranch nw_S_performBranch ({ frames := 2, cells := 0, slots := 0, locals := 42 }) D (tyI cA) (wSC h cA) ([.ref (h 0), .int a1] : List Value) u F := by
  refine my_in (gw := GW) (cc := nc_S_performBranch) (maxL := 4) (ret := (some .int)) (Qc := fun A => QI vwCl D (tyI cA) (wSC h cA) F A) (by decide) rfl (Nat.le_of_ble_eq_true rfl) ?_
  intro p e s m below meth c A H locs ls hx hb hml hr hts hown hlocks hK hN hA hP hD hS hl
  have hown : s.vm.findClass nR_S = some m.cls := hown
  have hl : lv_has ls 4 [(0, .ref (h 0)), (1, .int a1)] := hl
  have J55 : ∀ (x1 : Int32) (y0 : Int32) (u : St) (H : Heap) (locs : List Loc) (ls : Array Slot), va_P D vwCl (wSC h cA u) H → va_D A (wSC h cA u) → va_S A s.heap H locs → lv_has ls 4 [(0, .ref (h 0)), (1, .int x1)] → f_S_performBranch_b55 x1 y0 u = F →
      W p l e (headSpec nw_S_performBranch ({ frames := 2, cells := 0, slots := 0, locals := 42 })).room s m ([.ref (h 0), .int a1] : List Value).toArray below meth c H locs 0 0 (MQ below (QI vwCl D (tyI cA) (wSC h cA) F A) ([.ref (h 0), .int a1] : List Value).toArray s 0 0 A) (F0 m 55 ls [.int (zb y0), .ref (h 0)]) := by
    intro x1 y0 u H locs ls hP hD hS hl hw
    unfold f_S_performBranch_b55 at hw
    refine lv_aload_n hx hb nd_S_performBranch_55 rfl (lv_at hl 0 rfl) ?_
    refine lv_iload_n hx hb nd_S_performBranch_56 rfl (lv_at hl 1 rfl) ?_
    refine my_ci (wd := wSC h cA) (r := f_S_nearTarget x1 u) (u' := u) (va_runV (As := [.int x1]) (rest := [.int (zb y0), .ref (h 0)]) ⟨hx, hb, hml, hown, hts⟩ (c_S_nearTarget l D h cA u x1 _ rfl _) ⟨callB_of 1 hts (gw_in gw_277) rfl rfl rfl (hts _ gw_1) (hts _ gw_274) nh_S_nearTarget ⟨Nat.le_of_ble_eq_true rfl, Nat.le_of_ble_eq_true rfl⟩, (hts _ gw_276), (hts _ gw_275)⟩ (my_preV nwOk hP hK hD hN (va_recv hK hP (ci := 0) (q0 := 0) rfl rfl)) rfl rfl hl.1 rfl (lv_room (Nat.le_of_ble_eq_true rfl)) nd_S_performBranch_57 ⟨Nat.le_of_ble_eq_true rfl, Nat.le_of_ble_eq_true rfl⟩) hD hS hA (fun H locs hP hD hS => ?_)
    obtain ⟨r60, u60, hq60, hw⟩ := bnd_i hw
    refine my_ci (wd := wSC h cA) (r := r60) (u' := u60) (va_runV (As := [.int (zb y0), .int (f_S_nearTarget x1 u)]) (rest := []) ⟨hx, hb, hml, hown, hts⟩ (c_S_branchIf l D h cA u y0 (f_S_nearTarget x1 u) (r60, u60) hq60 _) ⟨callB_of 2 hts (gw_in gw_231) rfl rfl rfl (hts _ gw_1) (hts _ gw_228) nh_S_branchIf ⟨Nat.le_of_ble_eq_true rfl, Nat.le_of_ble_eq_true rfl⟩, (hts _ gw_230), (hts _ gw_229)⟩ (my_preV nwOk hP hK hD hN (va_recv hK hP (ci := 0) (q0 := 0) rfl rfl)) rfl rfl hl.1 rfl (lv_room (Nat.le_of_ble_eq_true rfl)) nd_S_performBranch_60 ⟨Nat.le_of_ble_eq_true rfl, Nat.le_of_ble_eq_true rfl⟩) hD hS hA (fun H locs hP hD hS => ?_)
    exact my_ri (u' := u60) (v := r60) hx hb hr hlocks hK hP hD hS hw nd_S_performBranch_63
  have J75 : ∀ (x1 : Int32) (y0 : Int32) (u : St) (H : Heap) (locs : List Loc) (ls : Array Slot), va_P D vwCl (wSC h cA u) H → va_D A (wSC h cA u) → va_S A s.heap H locs → lv_has ls 4 [(0, .ref (h 0)), (1, .int x1)] → f_S_performBranch_b75 x1 y0 u = F →
      W p l e (headSpec nw_S_performBranch ({ frames := 2, cells := 0, slots := 0, locals := 42 })).room s m ([.ref (h 0), .int a1] : List Value).toArray below meth c H locs 0 0 (MQ below (QI vwCl D (tyI cA) (wSC h cA) F A) ([.ref (h 0), .int a1] : List Value).toArray s 0 0 A) (F0 m 75 ls [.int (zb y0), .ref (h 0)]) := by
    intro x1 y0 u H locs ls hP hD hS hl hw
    unfold f_S_performBranch_b75 at hw
    refine lv_aload_n hx hb nd_S_performBranch_75 rfl (lv_at hl 0 rfl) ?_
    refine lv_iload_n hx hb nd_S_performBranch_76 rfl (lv_at hl 1 rfl) ?_
    refine my_ci (wd := wSC h cA) (r := f_S_nearTarget x1 u) (u' := u) (va_runV (As := [.int x1]) (rest := [.int (zb y0), .ref (h 0)]) ⟨hx, hb, hml, hown, hts⟩ (c_S_nearTarget l D h cA u x1 _ rfl _) ⟨callB_of 1 hts (gw_in gw_277) rfl rfl rfl (hts _ gw_1) (hts _ gw_274) nh_S_nearTarget ⟨Nat.le_of_ble_eq_true rfl, Nat.le_of_ble_eq_true rfl⟩, (hts _ gw_276), (hts _ gw_275)⟩ (my_preV nwOk hP hK hD hN (va_recv hK hP (ci := 0) (q0 := 0) rfl rfl)) rfl rfl hl.1 rfl (lv_room (Nat.le_of_ble_eq_true rfl)) nd_S_performBranch_77 ⟨Nat.le_of_ble_eq_true rfl, Nat.le_of_ble_eq_true rfl⟩) hD hS hA (fun H locs hP hD hS => ?_)
    obtain ⟨r80, u80, hq80, hw⟩ := bnd_i hw
    refine my_ci (wd := wSC h cA) (r := r80) (u' := u80) (va_runV (As := [.int (zb y0), .int (f_S_nearTarget x1 u)]) (rest := []) ⟨hx, hb, hml, hown, hts⟩ (c_S_branchIf l D h cA u y0 (f_S_nearTarget x1 u) (r80, u80) hq80 _) ⟨callB_of 2 hts (gw_in gw_231) rfl rfl rfl (hts _ gw_1) (hts _ gw_228) nh_S_branchIf ⟨Nat.le_of_ble_eq_true rfl, Nat.le_of_ble_eq_true rfl⟩, (hts _ gw_230), (hts _ gw_229)⟩ (my_preV nwOk hP hK hD hN (va_recv hK hP (ci := 0) (q0 := 0) rfl rfl)) rfl rfl hl.1 rfl (lv_room (Nat.le_of_ble_eq_true rfl)) nd_S_performBranch_80 ⟨Nat.le_of_ble_eq_true rfl, Nat.le_of_ble_eq_true rfl⟩) hD hS hA (fun H locs hP hD hS => ?_)
    exact my_ri (u' := u80) (v := r80) hx hb hr hlocks hK hP hD hS hw nd_S_performBranch_83
  have J94 : ∀ (x1 : Int32) (y0 : Int32) (u : St) (H : Heap) (locs : List Loc) (ls : Array Slot), va_P D vwCl (wSC h cA u) H → va_D A (wSC h cA u) → va_S A s.heap H locs → lv_has ls 4 [(0, .ref (h 0)), (1, .int x1)] → f_S_performBranch_b94 x1 y0 u = F →
      W p l e (headSpec nw_S_performBranch ({ frames := 2, cells := 0, slots := 0, locals := 42 })).room s m ([.ref (h 0), .int a1] : List Value).toArray below meth c H locs 0 0 (MQ below (QI vwCl D (tyI cA) (wSC h cA) F A) ([.ref (h 0), .int a1] : List Value).toArray s 0 0 A) (F0 m 94 ls [.int (zb y0), .ref (h 0)]) := by
    intro x1 y0 u H locs ls hP hD hS hl hw
    unfold f_S_performBranch_b94 at hw
    refine lv_aload_n hx hb nd_S_performBranch_94 rfl (lv_at hl 0 rfl) ?_
    refine lv_iload_n hx hb nd_S_performBranch_95 rfl (lv_at hl 1 rfl) ?_
    refine my_ci (wd := wSC h cA) (r := f_S_nearTarget x1 u) (u' := u) (va_runV (As := [.int x1]) (rest := [.int (zb y0), .ref (h 0)]) ⟨hx, hb, hml, hown, hts⟩ (c_S_nearTarget l D h cA u x1 _ rfl _) ⟨callB_of 1 hts (gw_in gw_277) rfl rfl rfl (hts _ gw_1) (hts _ gw_274) nh_S_nearTarget ⟨Nat.le_of_ble_eq_true rfl, Nat.le_of_ble_eq_true rfl⟩, (hts _ gw_276), (hts _ gw_275)⟩ (my_preV nwOk hP hK hD hN (va_recv hK hP (ci := 0) (q0 := 0) rfl rfl)) rfl rfl hl.1 rfl (lv_room (Nat.le_of_ble_eq_true rfl)) nd_S_performBranch_96 ⟨Nat.le_of_ble_eq_true rfl, Nat.le_of_ble_eq_true rfl⟩) hD hS hA (fun H locs hP hD hS => ?_)
    obtain ⟨r99, u99, hq99, hw⟩ := bnd_i hw
    refine my_ci (wd := wSC h cA) (r := r99) (u' := u99) (va_runV (As := [.int (zb y0), .int (f_S_nearTarget x1 u)]) (rest := []) ⟨hx, hb, hml, hown, hts⟩ (c_S_branchIf l D h cA u y0 (f_S_nearTarget x1 u) (r99, u99) hq99 _) ⟨callB_of 2 hts (gw_in gw_231) rfl rfl rfl (hts _ gw_1) (hts _ gw_228) nh_S_branchIf ⟨Nat.le_of_ble_eq_true rfl, Nat.le_of_ble_eq_true rfl⟩, (hts _ gw_230), (hts _ gw_229)⟩ (my_preV nwOk hP hK hD hN (va_recv hK hP (ci := 0) (q0 := 0) rfl rfl)) rfl rfl hl.1 rfl (lv_room (Nat.le_of_ble_eq_true rfl)) nd_S_performBranch_99 ⟨Nat.le_of_ble_eq_true rfl, Nat.le_of_ble_eq_true rfl⟩) hD hS hA (fun H locs hP hD hS => ?_)
    exact my_ri (u' := u99) (v := r99) hx hb hr hlocks hK hP hD hS hw nd_S_performBranch_102
  have J113 : ∀ (x1 : Int32) (y0 : Int32) (u : St) (H : Heap) (locs : List Loc) (ls : Array Slot), va_P D vwCl (wSC h cA u) H → va_D A (wSC h cA u) → va_S A s.heap H locs → lv_has ls 4 [(0, .ref (h 0)), (1, .int x1)] → f_S_performBranch_b113 x1 y0 u = F →
      W p l e (headSpec nw_S_performBranch ({ frames := 2, cells := 0, slots := 0, locals := 42 })).room s m ([.ref (h 0), .int a1] : List Value).toArray below meth c H locs 0 0 (MQ below (QI vwCl D (tyI cA) (wSC h cA) F A) ([.ref (h 0), .int a1] : List Value).toArray s 0 0 A) (F0 m 113 ls [.int (zb y0), .ref (h 0)]) := by
    intro x1 y0 u H locs ls hP hD hS hl hw
    unfold f_S_performBranch_b113 at hw
    refine lv_aload_n hx hb nd_S_performBranch_113 rfl (lv_at hl 0 rfl) ?_
    refine lv_iload_n hx hb nd_S_performBranch_114 rfl (lv_at hl 1 rfl) ?_
    refine my_ci (wd := wSC h cA) (r := f_S_nearTarget x1 u) (u' := u) (va_runV (As := [.int x1]) (rest := [.int (zb y0), .ref (h 0)]) ⟨hx, hb, hml, hown, hts⟩ (c_S_nearTarget l D h cA u x1 _ rfl _) ⟨callB_of 1 hts (gw_in gw_277) rfl rfl rfl (hts _ gw_1) (hts _ gw_274) nh_S_nearTarget ⟨Nat.le_of_ble_eq_true rfl, Nat.le_of_ble_eq_true rfl⟩, (hts _ gw_276), (hts _ gw_275)⟩ (my_preV nwOk hP hK hD hN (va_recv hK hP (ci := 0) (q0 := 0) rfl rfl)) rfl rfl hl.1 rfl (lv_room (Nat.le_of_ble_eq_true rfl)) nd_S_performBranch_115 ⟨Nat.le_of_ble_eq_true rfl, Nat.le_of_ble_eq_true rfl⟩) hD hS hA (fun H locs hP hD hS => ?_)
    obtain ⟨r118, u118, hq118, hw⟩ := bnd_i hw
    refine my_ci (wd := wSC h cA) (r := r118) (u' := u118) (va_runV (As := [.int (zb y0), .int (f_S_nearTarget x1 u)]) (rest := []) ⟨hx, hb, hml, hown, hts⟩ (c_S_branchIf l D h cA u y0 (f_S_nearTarget x1 u) (r118, u118) hq118 _) ⟨callB_of 2 hts (gw_in gw_231) rfl rfl rfl (hts _ gw_1) (hts _ gw_228) nh_S_branchIf ⟨Nat.le_of_ble_eq_true rfl, Nat.le_of_ble_eq_true rfl⟩, (hts _ gw_230), (hts _ gw_229)⟩ (my_preV nwOk hP hK hD hN (va_recv hK hP (ci := 0) (q0 := 0) rfl rfl)) rfl rfl hl.1 rfl (lv_room (Nat.le_of_ble_eq_true rfl)) nd_S_performBranch_118 ⟨Nat.le_of_ble_eq_true rfl, Nat.le_of_ble_eq_true rfl⟩) hD hS hA (fun H locs hP hD hS => ?_)
    exact my_ri (u' := u118) (v := r118) hx hb hr hlocks hK hP hD hS hw nd_S_performBranch_121
  unfold f_S_performBranch at hw
  refine lv_aload_n hx hb nd_S_performBranch_0 rfl (lv_at hl 0 rfl) ?_
  refine lv_iload_n hx hb nd_S_performBranch_1 rfl (lv_at hl 1 rfl) ?_
  refine my_ci (wd := wSC h cA) (r := f_S_valueOfS a1 u) (u' := u) (va_runV (As := [.int a1]) (rest := []) ⟨hx, hb, hml, hown, hts⟩ (c_S_valueOfS l D h cA u a1 _ rfl _) ⟨callB_of 1 hts (gw_in gw_213) rfl rfl rfl (hts _ gw_1) (hts _ gw_210) nh_S_valueOfS ⟨Nat.le_of_ble_eq_true rfl, Nat.le_of_ble_eq_true rfl⟩, (hts _ gw_212), (hts _ gw_211)⟩ (my_preV nwOk hP hK hD hN (va_recv hK hP (ci := 0) (q0 := 0) rfl rfl)) rfl rfl hl.1 rfl (lv_room (Nat.le_of_ble_eq_true rfl)) nd_S_performBranch_2 ⟨Nat.le_of_ble_eq_true rfl, Nat.le_of_ble_eq_true rfl⟩) hD hS hA (fun H locs hP hD hS => ?_)
  refine lv_istore_n (lv' := [(2, .int (f_S_valueOfS a1 u)), (0, .ref (h 0)), (1, .int a1)]) hx hb nd_S_performBranch_5 rfl hl (by decide) rfl (fun ls hl => ?_)
  refine lv_aload_n hx hb nd_S_performBranch_6 rfl (lv_at hl 1 rfl) ?_
  refine lv_iload_n hx hb nd_S_performBranch_7 rfl (lv_at hl 2 rfl) ?_
  refine my_ci (wd := wSC h cA) (r := f_S_valueOfT a1 u) (u' := u) (va_runV (As := [.int a1]) (rest := []) ⟨hx, hb, hml, hown, hts⟩ (c_S_valueOfT l D h cA u a1 _ rfl _) ⟨callB_of 1 hts (gw_in gw_203) rfl rfl rfl (hts _ gw_1) (hts _ gw_200) nh_S_valueOfT ⟨Nat.le_of_ble_eq_true rfl, Nat.le_of_ble_eq_true rfl⟩, (hts _ gw_202), (hts _ gw_201)⟩ (my_preV nwOk hP hK hD hN (va_recv hK hP (ci := 0) (q0 := 0) rfl rfl)) rfl rfl hl.1 rfl (lv_room (Nat.le_of_ble_eq_true rfl)) nd_S_performBranch_8 ⟨Nat.le_of_ble_eq_true rfl, Nat.le_of_ble_eq_true rfl⟩) hD hS hA (fun H locs hP hD hS => ?_)
  refine lv_istore_n (lv' := [(3, .int (f_S_valueOfT a1 u)), (2, .int (f_S_valueOfS a1 u)), (0, .ref (h 0)), (1, .int a1)]) hx hb nd_S_performBranch_11 rfl hl (by decide) rfl (fun ls hl => ?_)
  refine lv_iload_n hx hb nd_S_performBranch_12 rfl (lv_at hl 3 rfl) ?_
  refine my_cp (F := f_S_orderOf a1) (va_runS (As := [.int a1]) (rest := []) ⟨hx, hb, hml, hown, hts⟩ (c_S_orderOf l a1 _ rfl) ⟨callB_of 1 hts (gw_in gw_182) rfl rfl rfl (hts _ gw_1) (hts _ gw_180) nh_S_orderOf ⟨Nat.le_of_ble_eq_true rfl, Nat.le_of_ble_eq_true rfl⟩, (hts _ gw_181)⟩ my_preP rfl rfl hl.1 rfl (lv_room (Nat.le_of_ble_eq_true rfl)) nd_S_performBranch_13 ⟨Nat.le_of_ble_eq_true rfl, Nat.le_of_ble_eq_true rfl⟩) hP hS (fun H locs hP hS => ?_)
  rcases my_em (x := f_S_orderOf a1) (4 : Int32) with h16_4 | h16_4
  · have hw := (if_pos h16_4).symm.trans hw
    refine my_swi (tgt := 44) hx hb nd_S_performBranch_16 h16_4 (by decide) (by decide) rfl (by decide) ?_
    refine lv_aload_n hx hb nd_S_performBranch_44 rfl (lv_at hl 2 rfl) ?_
    refine lv_iload_n hx hb nd_S_performBranch_45 rfl (lv_at hl 1 rfl) ?_
    refine lv_iload_n hx hb nd_S_performBranch_46 rfl (lv_at hl 0 rfl) ?_
    refine lv_icmp_ne (tgt := 54) hx hb nd_S_performBranch_47 (by decide) (fun h47 => ?_) (fun h47 => ?_)
    · have hw := (if_neg h47).symm.trans hw
      refine lv_iconst (v := (0 : Int32)) hx hb nd_S_performBranch_54 (by decide) ?_
      exact J55 a1 (0 : Int32) u H locs ls hP hD hS (lv_sub hl [2, 3] rfl) hw
    have hw := (if_pos h47).symm.trans hw
    refine lv_iconst (v := (1 : Int32)) hx hb nd_S_performBranch_50 (by decide) ?_
    refine lv_goto (tgt := 55) hx hb nd_S_performBranch_51 (by decide) ?_
    exact J55 a1 (1 : Int32) u H locs ls hP hD hS (lv_sub hl [2, 3] rfl) hw
  have hw := (if_neg h16_4).symm.trans hw
  rcases my_em (x := f_S_orderOf a1) (5 : Int32) with h16_5 | h16_5
  · have hw := (if_pos h16_5).symm.trans hw
    refine my_swi (tgt := 64) hx hb nd_S_performBranch_16 h16_5 (by decide) (by decide) rfl (by decide) ?_
    refine lv_aload_n hx hb nd_S_performBranch_64 rfl (lv_at hl 2 rfl) ?_
    refine lv_iload_n hx hb nd_S_performBranch_65 rfl (lv_at hl 1 rfl) ?_
    refine lv_iload_n hx hb nd_S_performBranch_66 rfl (lv_at hl 0 rfl) ?_
    refine lv_icmp_eq (tgt := 74) hx hb nd_S_performBranch_67 (by decide) (fun h67 => ?_) (fun h67 => ?_)
    · have hw := (if_pos h67).symm.trans hw
      refine lv_iconst (v := (0 : Int32)) hx hb nd_S_performBranch_74 (by decide) ?_
      exact J75 a1 (0 : Int32) u H locs ls hP hD hS (lv_sub hl [2, 3] rfl) hw
    have hw := (if_neg h67).symm.trans hw
    refine lv_iconst (v := (1 : Int32)) hx hb nd_S_performBranch_70 (by decide) ?_
    refine lv_goto (tgt := 75) hx hb nd_S_performBranch_71 (by decide) ?_
    exact J75 a1 (1 : Int32) u H locs ls hP hD hS (lv_sub hl [2, 3] rfl) hw
  have hw := (if_neg h16_5).symm.trans hw
  rcases my_em (x := f_S_orderOf a1) (6 : Int32) with h16_6 | h16_6
  · have hw := (if_pos h16_6).symm.trans hw
    refine my_swi (tgt := 84) hx hb nd_S_performBranch_16 h16_6 (by decide) (by decide) rfl (by decide) ?_
    refine lv_aload_n hx hb nd_S_performBranch_84 rfl (lv_at hl 2 rfl) ?_
    refine lv_iload_n hx hb nd_S_performBranch_85 rfl (lv_at hl 1 rfl) ?_
    refine lv_if_gt (tgt := 93) hx hb nd_S_performBranch_86 (by decide) (fun h86 => ?_) (fun h86 => ?_)
    · have hw := (if_pos h86).symm.trans hw
      refine lv_iconst (v := (0 : Int32)) hx hb nd_S_performBranch_93 (by decide) ?_
      exact J94 a1 (0 : Int32) u H locs ls hP hD hS (lv_sub hl [2, 3] rfl) hw
    have hw := (if_neg h86).symm.trans hw
    refine lv_iconst (v := (1 : Int32)) hx hb nd_S_performBranch_89 (by decide) ?_
    refine lv_goto (tgt := 94) hx hb nd_S_performBranch_90 (by decide) ?_
    exact J94 a1 (1 : Int32) u H locs ls hP hD hS (lv_sub hl [2, 3] rfl) hw
  have hw := (if_neg h16_6).symm.trans hw
  refine my_swd (tgt := 103) hx hb nd_S_performBranch_16 (my_nec h16_4 (my_nec h16_5 (my_nec h16_6 my_nen))) (by decide +kernel) (by decide) ?_
  refine lv_aload_n hx hb nd_S_performBranch_103 rfl (lv_at hl 2 rfl) ?_
  refine lv_iload_n hx hb nd_S_performBranch_104 rfl (lv_at hl 1 rfl) ?_
  refine lv_if_le (tgt := 112) hx hb nd_S_performBranch_105 (by decide) (fun h105 => ?_) (fun h105 => ?_)
  · have hw := (if_pos h105).symm.trans hw
    refine lv_iconst (v := (0 : Int32)) hx hb nd_S_performBranch_112 (by decide) ?_
    exact J113 a1 (0 : Int32) u H locs ls hP hD hS (lv_sub hl [2, 3] rfl) hw
  have hw := (if_neg h105).symm.trans hw
  refine lv_iconst (v := (1 : Int32)) hx hb nd_S_performBranch_108 (by decide) ?_
  refine lv_goto (tgt := 113) hx hb nd_S_performBranch_109 (by decide) ?_
  exact J113 a1 (1 : Int32) u H locs ls hP hD hS (lv_sub hl [2, 3] rfl) hw
set_option maxHeartbeats 4000000 in
set_option maxRecDepth 100000 in
theorem c_S_performWithNumber (l : Launch) (D : va_G) (h : Nat → Nat) (cA : Nat → ClassId) (u : St) (a1 : Int32) (F : Int32 × St) (hw : f_S_performWithNumber a1 u = F) : MI nwS vwCl l ny_S_performWithNumber nw_S_performWithNumber ({ frames := 2, cells := 0, slots := 0, locals := 45 }) D (tyI cA) (wSC h cA) ([.ref (h 0), .int a1] : List Value) u F := by
  refine my_in (gw := GW) (cc := nc_S_performWithNumber) (maxL := 6) (ret := (some .int)) (Qc := fun A => QI vwCl D (tyI cA) (wSC h cA) F A) (by decide) rfl (Nat.le_of_ble_eq_true rfl) ?_
  intro p e s m below meth c A H locs ls hx hb hml hr hts hown hlocks hK hN hA hP hD hS hl
  have hown : s.vm.findClass nR_S = some m.cls := hown
  have hl : lv_has ls 6 [(0, .ref (h 0)), (1, .int a1)] := hl
  have J103 : ∀ (y0 : Int32) (y1 : Int32) (u : St) (H : Heap) (locs : List Loc) (ls : Array Slot), va_P D vwCl (wSC h cA u) H → va_D A (wSC h cA u) → va_S A s.heap H locs → lv_has ls 6 [] → f_S_performWithNumber_b103 y0 y1 u = F →
      W p l e (headSpec nw_S_performWithNumber ({ frames := 2, cells := 0, slots := 0, locals := 45 })).room s m ([.ref (h 0), .int a1] : List Value).toArray below meth c H locs 0 0 (MQ below (QI vwCl D (tyI cA) (wSC h cA) F A) ([.ref (h 0), .int a1] : List Value).toArray s 0 0 A) (F0 m 103 ls [.int (zb y0), .int y1, .ref (h 0)]) := by
    intro y0 y1 u H locs ls hP hD hS hl hw
    unfold f_S_performWithNumber_b103 at hw
    obtain ⟨r103, u103, hq103, hw⟩ := bnd_i hw
    refine my_ci (wd := wSC h cA) (r := r103) (u' := u103) (va_runV (As := [.int y1, .int (zb y0)]) (rest := []) ⟨hx, hb, hml, hown, hts⟩ (c_S_giveTruth l D h cA u y1 y0 (r103, u103) hq103 _) ⟨callB_of 2 hts (gw_in gw_269) rfl rfl rfl (hts _ gw_1) (hts _ gw_266) nh_S_giveTruth ⟨Nat.le_of_ble_eq_true rfl, Nat.le_of_ble_eq_true rfl⟩, (hts _ gw_268), (hts _ gw_267)⟩ (my_preV nwOk hP hK hD hN (va_recv hK hP (ci := 0) (q0 := 0) rfl rfl)) rfl rfl hl.1 rfl (lv_room (Nat.le_of_ble_eq_true rfl)) nd_S_performWithNumber_103 ⟨Nat.le_of_ble_eq_true rfl, Nat.le_of_ble_eq_true rfl⟩) hD hS hA (fun H locs hP hD hS => ?_)
    exact my_ri (u' := u103) (v := r103) hx hb hr hlocks hK hP hD hS hw nd_S_performWithNumber_106
  have J127 : ∀ (y0 : Int32) (y1 : Int32) (u : St) (H : Heap) (locs : List Loc) (ls : Array Slot), va_P D vwCl (wSC h cA u) H → va_D A (wSC h cA u) → va_S A s.heap H locs → lv_has ls 6 [] → f_S_performWithNumber_b127 y0 y1 u = F →
      W p l e (headSpec nw_S_performWithNumber ({ frames := 2, cells := 0, slots := 0, locals := 45 })).room s m ([.ref (h 0), .int a1] : List Value).toArray below meth c H locs 0 0 (MQ below (QI vwCl D (tyI cA) (wSC h cA) F A) ([.ref (h 0), .int a1] : List Value).toArray s 0 0 A) (F0 m 127 ls [.int (zb y0), .int y1, .ref (h 0)]) := by
    intro y0 y1 u H locs ls hP hD hS hl hw
    unfold f_S_performWithNumber_b127 at hw
    obtain ⟨r127, u127, hq127, hw⟩ := bnd_i hw
    refine my_ci (wd := wSC h cA) (r := r127) (u' := u127) (va_runV (As := [.int y1, .int (zb y0)]) (rest := []) ⟨hx, hb, hml, hown, hts⟩ (c_S_giveTruth l D h cA u y1 y0 (r127, u127) hq127 _) ⟨callB_of 2 hts (gw_in gw_269) rfl rfl rfl (hts _ gw_1) (hts _ gw_266) nh_S_giveTruth ⟨Nat.le_of_ble_eq_true rfl, Nat.le_of_ble_eq_true rfl⟩, (hts _ gw_268), (hts _ gw_267)⟩ (my_preV nwOk hP hK hD hN (va_recv hK hP (ci := 0) (q0 := 0) rfl rfl)) rfl rfl hl.1 rfl (lv_room (Nat.le_of_ble_eq_true rfl)) nd_S_performWithNumber_127 ⟨Nat.le_of_ble_eq_true rfl, Nat.le_of_ble_eq_true rfl⟩) hD hS hA (fun H locs hP hD hS => ?_)
    exact my_ri (u' := u127) (v := r127) hx hb hr hlocks hK hP hD hS hw nd_S_performWithNumber_130
  unfold f_S_performWithNumber at hw
  refine lv_aload_n hx hb nd_S_performWithNumber_0 rfl (lv_at hl 0 rfl) ?_
  refine lv_iload_n hx hb nd_S_performWithNumber_1 rfl (lv_at hl 1 rfl) ?_
  refine my_ci (wd := wSC h cA) (r := f_S_valueOfS a1 u) (u' := u) (va_runV (As := [.int a1]) (rest := []) ⟨hx, hb, hml, hown, hts⟩ (c_S_valueOfS l D h cA u a1 _ rfl _) ⟨callB_of 1 hts (gw_in gw_213) rfl rfl rfl (hts _ gw_1) (hts _ gw_210) nh_S_valueOfS ⟨Nat.le_of_ble_eq_true rfl, Nat.le_of_ble_eq_true rfl⟩, (hts _ gw_212), (hts _ gw_211)⟩ (my_preV nwOk hP hK hD hN (va_recv hK hP (ci := 0) (q0 := 0) rfl rfl)) rfl rfl hl.1 rfl (lv_room (Nat.le_of_ble_eq_true rfl)) nd_S_performWithNumber_2 ⟨Nat.le_of_ble_eq_true rfl, Nat.le_of_ble_eq_true rfl⟩) hD hS hA (fun H locs hP hD hS => ?_)
  refine lv_istore_n (lv' := [(2, .int (f_S_valueOfS a1 u)), (0, .ref (h 0)), (1, .int a1)]) hx hb nd_S_performWithNumber_5 rfl hl (by decide) rfl (fun ls hl => ?_)
  refine lv_iload_n hx hb nd_S_performWithNumber_6 rfl (lv_at hl 2 rfl) ?_
  refine my_cp (F := f_S_numberT a1) (va_runS (As := [.int a1]) (rest := []) ⟨hx, hb, hml, hown, hts⟩ (c_S_numberT l a1 _ rfl) ⟨callB_of 1 hts (gw_in gw_191) rfl rfl rfl (hts _ gw_1) (hts _ gw_189) nh_S_numberT ⟨Nat.le_of_ble_eq_true rfl, Nat.le_of_ble_eq_true rfl⟩, (hts _ gw_190)⟩ my_preP rfl rfl hl.1 rfl (lv_room (Nat.le_of_ble_eq_true rfl)) nd_S_performWithNumber_7 ⟨Nat.le_of_ble_eq_true rfl, Nat.le_of_ble_eq_true rfl⟩) hP hS (fun H locs hP hS => ?_)
  refine lv_istore_n (lv' := [(3, .int (f_S_numberT a1)), (2, .int (f_S_valueOfS a1 u)), (0, .ref (h 0)), (1, .int a1)]) hx hb nd_S_performWithNumber_10 rfl hl (by decide) rfl (fun ls hl => ?_)
  refine lv_iload_n hx hb nd_S_performWithNumber_11 rfl (lv_at hl 3 rfl) ?_
  refine my_cp (F := f_S_numberI a1) (va_runS (As := [.int a1]) (rest := []) ⟨hx, hb, hml, hown, hts⟩ (c_S_numberI l a1 _ rfl) ⟨callB_of 1 hts (gw_in gw_280) rfl rfl rfl (hts _ gw_1) (hts _ gw_278) nh_S_numberI ⟨Nat.le_of_ble_eq_true rfl, Nat.le_of_ble_eq_true rfl⟩, (hts _ gw_279)⟩ my_preP rfl rfl hl.1 rfl (lv_room (Nat.le_of_ble_eq_true rfl)) nd_S_performWithNumber_12 ⟨Nat.le_of_ble_eq_true rfl, Nat.le_of_ble_eq_true rfl⟩) hP hS (fun H locs hP hS => ?_)
  refine lv_istore (lv' := [(4, .int (f_S_numberI a1)), (3, .int (f_S_numberT a1)), (2, .int (f_S_valueOfS a1 u)), (0, .ref (h 0)), (1, .int a1)]) hx hb nd_S_performWithNumber_15 hl (by decide) rfl (fun ls hl => ?_)
  refine lv_iload_n hx hb nd_S_performWithNumber_17 rfl (lv_at hl 4 rfl) ?_
  refine my_cp (F := f_S_numberU a1) (va_runS (As := [.int a1]) (rest := []) ⟨hx, hb, hml, hown, hts⟩ (c_S_numberU l a1 _ rfl) ⟨callB_of 1 hts (gw_in gw_301) rfl rfl rfl (hts _ gw_1) (hts _ gw_299) nh_S_numberU ⟨Nat.le_of_ble_eq_true rfl, Nat.le_of_ble_eq_true rfl⟩, (hts _ gw_300)⟩ my_preP rfl rfl hl.1 rfl (lv_room (Nat.le_of_ble_eq_true rfl)) nd_S_performWithNumber_18 ⟨Nat.le_of_ble_eq_true rfl, Nat.le_of_ble_eq_true rfl⟩) hP hS (fun H locs hP hS => ?_)
  refine lv_istore (lv' := [(5, .int (f_S_numberU a1)), (4, .int (f_S_numberI a1)), (3, .int (f_S_numberT a1)), (2, .int (f_S_valueOfS a1 u)), (0, .ref (h 0)), (1, .int a1)]) hx hb nd_S_performWithNumber_21 hl (by decide) rfl (fun ls hl => ?_)
  refine lv_iload_n hx hb nd_S_performWithNumber_23 rfl (lv_at hl 5 rfl) ?_
  refine my_cp (F := f_S_orderOf a1) (va_runS (As := [.int a1]) (rest := []) ⟨hx, hb, hml, hown, hts⟩ (c_S_orderOf l a1 _ rfl) ⟨callB_of 1 hts (gw_in gw_182) rfl rfl rfl (hts _ gw_1) (hts _ gw_180) nh_S_orderOf ⟨Nat.le_of_ble_eq_true rfl, Nat.le_of_ble_eq_true rfl⟩, (hts _ gw_181)⟩ my_preP rfl rfl hl.1 rfl (lv_room (Nat.le_of_ble_eq_true rfl)) nd_S_performWithNumber_24 ⟨Nat.le_of_ble_eq_true rfl, Nat.le_of_ble_eq_true rfl⟩) hP hS (fun H locs hP hS => ?_)
  rcases my_em (x := f_S_orderOf a1) (8 : Int32) with h27_8 | h27_8
  · have hw := (if_pos h27_8).symm.trans hw
    refine my_swi (tgt := 68) hx hb nd_S_performWithNumber_27 h27_8 (by decide) (by decide) rfl (by decide) ?_
    refine lv_aload_n hx hb nd_S_performWithNumber_68 rfl (lv_at hl 4 rfl) ?_
    refine lv_iload_n hx hb nd_S_performWithNumber_69 rfl (lv_at hl 2 rfl) ?_
    refine lv_iload_n hx hb nd_S_performWithNumber_70 rfl (lv_at hl 3 rfl) ?_
    refine lv_i2l (v := (f_S_valueOfS a1 u).toInt64) hx hb nd_S_performWithNumber_71 rfl ?_
    refine lv_iload hx hb nd_S_performWithNumber_72 (lv_at hl 1 rfl) ?_
    refine lv_i2l (v := (f_S_numberI a1).toInt64) hx hb nd_S_performWithNumber_74 rfl ?_
    refine lv_ladd hx hb nd_S_performWithNumber_75 ?_
    obtain ⟨r76, u76, hq76, hw⟩ := bnd_i hw
    refine my_ci (wd := wSC h cA) (r := r76) (u' := u76) (va_runV (As := [.int (f_S_numberT a1), .long (((f_S_valueOfS a1 u).toInt64) + ((f_S_numberI a1).toInt64))]) (rest := []) ⟨hx, hb, hml, hown, hts⟩ (c_S_giveIfExact l D h cA u (f_S_numberT a1) (((f_S_valueOfS a1 u).toInt64) + ((f_S_numberI a1).toInt64)) (r76, u76) hq76 _) ⟨callB_of 2 hts (gw_in gw_265) rfl rfl rfl (hts _ gw_1) (hts _ gw_262) nh_S_giveIfExact ⟨Nat.le_of_ble_eq_true rfl, Nat.le_of_ble_eq_true rfl⟩, (hts _ gw_264), (hts _ gw_263)⟩ (my_preV nwOk hP hK hD hN (va_recv hK hP (ci := 0) (q0 := 0) rfl rfl)) rfl rfl hl.1 rfl (lv_room (Nat.le_of_ble_eq_true rfl)) nd_S_performWithNumber_76 ⟨Nat.le_of_ble_eq_true rfl, Nat.le_of_ble_eq_true rfl⟩) hD hS hA (fun H locs hP hD hS => ?_)
    exact my_ri (u' := u76) (v := r76) hx hb hr hlocks hK hP hD hS hw nd_S_performWithNumber_79
  have hw := (if_neg h27_8).symm.trans hw
  rcases my_em (x := f_S_orderOf a1) (9 : Int32) with h27_9 | h27_9
  · have hw := (if_pos h27_9).symm.trans hw
    refine my_swi (tgt := 80) hx hb nd_S_performWithNumber_27 h27_9 (by decide) (by decide) rfl (by decide) ?_
    refine lv_aload_n hx hb nd_S_performWithNumber_80 rfl (lv_at hl 4 rfl) ?_
    refine lv_iload_n hx hb nd_S_performWithNumber_81 rfl (lv_at hl 2 rfl) ?_
    refine lv_iload_n hx hb nd_S_performWithNumber_82 rfl (lv_at hl 3 rfl) ?_
    refine lv_iload hx hb nd_S_performWithNumber_83 (lv_at hl 1 rfl) ?_
    refine lv_iadd hx hb nd_S_performWithNumber_85 ?_
    obtain ⟨r86, u86, hq86, hw⟩ := bnd_i hw
    refine my_ci (wd := wSC h cA) (r := r86) (u' := u86) (va_runV (As := [.int (f_S_numberT a1), .int ((f_S_valueOfS a1 u) + (f_S_numberI a1))]) (rest := []) ⟨hx, hb, hml, hown, hts⟩ (c_S_give l D h cA u (f_S_numberT a1) ((f_S_valueOfS a1 u) + (f_S_numberI a1)) (r86, u86) hq86 _) ⟨callB_of 2 hts (gw_in gw_223) rfl rfl rfl (hts _ gw_1) (hts _ gw_220) nh_S_give ⟨Nat.le_of_ble_eq_true rfl, Nat.le_of_ble_eq_true rfl⟩, (hts _ gw_222), (hts _ gw_221)⟩ (my_preV nwOk hP hK hD hN (va_recv hK hP (ci := 0) (q0 := 0) rfl rfl)) rfl rfl hl.1 rfl (lv_room (Nat.le_of_ble_eq_true rfl)) nd_S_performWithNumber_86 ⟨Nat.le_of_ble_eq_true rfl, Nat.le_of_ble_eq_true rfl⟩) hD hS hA (fun H locs hP hD hS => ?_)
    exact my_ri (u' := u86) (v := r86) hx hb hr hlocks hK hP hD hS hw nd_S_performWithNumber_89
  have hw := (if_neg h27_9).symm.trans hw
  rcases my_em (x := f_S_orderOf a1) (10 : Int32) with h27_10 | h27_10
  · have hw := (if_pos h27_10).symm.trans hw
    refine my_swi (tgt := 90) hx hb nd_S_performWithNumber_27 h27_10 (by decide) (by decide) rfl (by decide) ?_
    refine lv_aload_n hx hb nd_S_performWithNumber_90 rfl (lv_at hl 4 rfl) ?_
    refine lv_iload_n hx hb nd_S_performWithNumber_91 rfl (lv_at hl 2 rfl) ?_
    refine lv_iload_n hx hb nd_S_performWithNumber_92 rfl (lv_at hl 3 rfl) ?_
    refine lv_iload hx hb nd_S_performWithNumber_93 (lv_at hl 1 rfl) ?_
    refine lv_icmp_ge (tgt := 102) hx hb nd_S_performWithNumber_95 (by decide) (fun h95 => ?_) (fun h95 => ?_)
    · have hw := (if_pos h95).symm.trans hw
      refine lv_iconst (v := (0 : Int32)) hx hb nd_S_performWithNumber_102 (by decide) ?_
      exact J103 (0 : Int32) (f_S_numberT a1) u H locs ls hP hD hS (lv_sub hl [] rfl) hw
    have hw := (if_neg h95).symm.trans hw
    refine lv_iconst (v := (1 : Int32)) hx hb nd_S_performWithNumber_98 (by decide) ?_
    refine lv_goto (tgt := 103) hx hb nd_S_performWithNumber_99 (by decide) ?_
    exact J103 (1 : Int32) (f_S_numberT a1) u H locs ls hP hD hS (lv_sub hl [] rfl) hw
  have hw := (if_neg h27_10).symm.trans hw
  rcases my_em (x := f_S_orderOf a1) (11 : Int32) with h27_11 | h27_11
  · have hw := (if_pos h27_11).symm.trans hw
    refine my_swi (tgt := 107) hx hb nd_S_performWithNumber_27 h27_11 (by decide) (by decide) rfl (by decide) ?_
    refine lv_aload_n hx hb nd_S_performWithNumber_107 rfl (lv_at hl 4 rfl) ?_
    refine lv_iload_n hx hb nd_S_performWithNumber_108 rfl (lv_at hl 2 rfl) ?_
    refine lv_iload_n hx hb nd_S_performWithNumber_109 rfl (lv_at hl 3 rfl) ?_
    refine my_cl (F := f_S_withoutSign (f_S_valueOfS a1 u)) (va_runS (As := [.int (f_S_valueOfS a1 u)]) (rest := [.int (f_S_numberT a1), .ref (h 0)]) ⟨hx, hb, hml, hown, hts⟩ (c_S_withoutSign l (f_S_valueOfS a1 u) _ rfl) ⟨callB_of 1 hts (gw_in gw_246) rfl rfl rfl (hts _ gw_1) (hts _ gw_244) nh_S_withoutSign ⟨Nat.le_of_ble_eq_true rfl, Nat.le_of_ble_eq_true rfl⟩, (hts _ gw_245)⟩ my_preP rfl rfl hl.1 rfl (lv_room (Nat.le_of_ble_eq_true rfl)) nd_S_performWithNumber_110 ⟨Nat.le_of_ble_eq_true rfl, Nat.le_of_ble_eq_true rfl⟩) hP hS (fun H locs hP hS => ?_)
    refine lv_iload hx hb nd_S_performWithNumber_113 (lv_at hl 1 rfl) ?_
    refine my_cl (F := f_S_withoutSign (f_S_numberI a1)) (va_runS (As := [.int (f_S_numberI a1)]) (rest := [.long (f_S_withoutSign (f_S_valueOfS a1 u)), .int (f_S_numberT a1), .ref (h 0)]) ⟨hx, hb, hml, hown, hts⟩ (c_S_withoutSign l (f_S_numberI a1) _ rfl) ⟨callB_of 1 hts (gw_in gw_246) rfl rfl rfl (hts _ gw_1) (hts _ gw_244) nh_S_withoutSign ⟨Nat.le_of_ble_eq_true rfl, Nat.le_of_ble_eq_true rfl⟩, (hts _ gw_245)⟩ my_preP rfl rfl hl.1 rfl (lv_room (Nat.le_of_ble_eq_true rfl)) nd_S_performWithNumber_115 ⟨Nat.le_of_ble_eq_true rfl, Nat.le_of_ble_eq_true rfl⟩) hP hS (fun H locs hP hS => ?_)
    refine W.lcmp hx hb nd_S_performWithNumber_118 ?_
    refine lv_if_ge (tgt := 126) hx hb nd_S_performWithNumber_119 (by decide) (fun h119 => ?_) (fun h119 => ?_)
    · have hw := (if_pos h119).symm.trans hw
      refine lv_iconst (v := (0 : Int32)) hx hb nd_S_performWithNumber_126 (by decide) ?_
      exact J127 (0 : Int32) (f_S_numberT a1) u H locs ls hP hD hS (lv_sub hl [] rfl) hw
    have hw := (if_neg h119).symm.trans hw
    refine lv_iconst (v := (1 : Int32)) hx hb nd_S_performWithNumber_122 (by decide) ?_
    refine lv_goto (tgt := 127) hx hb nd_S_performWithNumber_123 (by decide) ?_
    exact J127 (1 : Int32) (f_S_numberT a1) u H locs ls hP hD hS (lv_sub hl [] rfl) hw
  have hw := (if_neg h27_11).symm.trans hw
  rcases my_em (x := f_S_orderOf a1) (12 : Int32) with h27_12 | h27_12
  · have hw := (if_pos h27_12).symm.trans hw
    refine my_swi (tgt := 131) hx hb nd_S_performWithNumber_27 h27_12 (by decide) (by decide) rfl (by decide) ?_
    refine lv_aload_n hx hb nd_S_performWithNumber_131 rfl (lv_at hl 4 rfl) ?_
    refine lv_iload_n hx hb nd_S_performWithNumber_132 rfl (lv_at hl 2 rfl) ?_
    refine lv_iload_n hx hb nd_S_performWithNumber_133 rfl (lv_at hl 3 rfl) ?_
    refine lv_iload hx hb nd_S_performWithNumber_134 (lv_at hl 0 rfl) ?_
    refine lv_iand hx hb nd_S_performWithNumber_136 ?_
    obtain ⟨r137, u137, hq137, hw⟩ := bnd_i hw
    refine my_ci (wd := wSC h cA) (r := r137) (u' := u137) (va_runV (As := [.int (f_S_numberT a1), .int ((f_S_valueOfS a1 u) &&& (f_S_numberU a1))]) (rest := []) ⟨hx, hb, hml, hown, hts⟩ (c_S_give l D h cA u (f_S_numberT a1) ((f_S_valueOfS a1 u) &&& (f_S_numberU a1)) (r137, u137) hq137 _) ⟨callB_of 2 hts (gw_in gw_223) rfl rfl rfl (hts _ gw_1) (hts _ gw_220) nh_S_give ⟨Nat.le_of_ble_eq_true rfl, Nat.le_of_ble_eq_true rfl⟩, (hts _ gw_222), (hts _ gw_221)⟩ (my_preV nwOk hP hK hD hN (va_recv hK hP (ci := 0) (q0 := 0) rfl rfl)) rfl rfl hl.1 rfl (lv_room (Nat.le_of_ble_eq_true rfl)) nd_S_performWithNumber_137 ⟨Nat.le_of_ble_eq_true rfl, Nat.le_of_ble_eq_true rfl⟩) hD hS hA (fun H locs hP hD hS => ?_)
    exact my_ri (u' := u137) (v := r137) hx hb hr hlocks hK hP hD hS hw nd_S_performWithNumber_140
  have hw := (if_neg h27_12).symm.trans hw
  rcases my_em (x := f_S_orderOf a1) (13 : Int32) with h27_13 | h27_13
  · have hw := (if_pos h27_13).symm.trans hw
    refine my_swi (tgt := 141) hx hb nd_S_performWithNumber_27 h27_13 (by decide) (by decide) rfl (by decide) ?_
    refine lv_aload_n hx hb nd_S_performWithNumber_141 rfl (lv_at hl 4 rfl) ?_
    refine lv_iload_n hx hb nd_S_performWithNumber_142 rfl (lv_at hl 2 rfl) ?_
    refine lv_iload_n hx hb nd_S_performWithNumber_143 rfl (lv_at hl 3 rfl) ?_
    refine lv_iload hx hb nd_S_performWithNumber_144 (lv_at hl 0 rfl) ?_
    refine lv_ior hx hb nd_S_performWithNumber_146 ?_
    obtain ⟨r147, u147, hq147, hw⟩ := bnd_i hw
    refine my_ci (wd := wSC h cA) (r := r147) (u' := u147) (va_runV (As := [.int (f_S_numberT a1), .int ((f_S_valueOfS a1 u) ||| (f_S_numberU a1))]) (rest := []) ⟨hx, hb, hml, hown, hts⟩ (c_S_give l D h cA u (f_S_numberT a1) ((f_S_valueOfS a1 u) ||| (f_S_numberU a1)) (r147, u147) hq147 _) ⟨callB_of 2 hts (gw_in gw_223) rfl rfl rfl (hts _ gw_1) (hts _ gw_220) nh_S_give ⟨Nat.le_of_ble_eq_true rfl, Nat.le_of_ble_eq_true rfl⟩, (hts _ gw_222), (hts _ gw_221)⟩ (my_preV nwOk hP hK hD hN (va_recv hK hP (ci := 0) (q0 := 0) rfl rfl)) rfl rfl hl.1 rfl (lv_room (Nat.le_of_ble_eq_true rfl)) nd_S_performWithNumber_147 ⟨Nat.le_of_ble_eq_true rfl, Nat.le_of_ble_eq_true rfl⟩) hD hS hA (fun H locs hP hD hS => ?_)
    exact my_ri (u' := u147) (v := r147) hx hb hr hlocks hK hP hD hS hw nd_S_performWithNumber_150
  have hw := (if_neg h27_13).symm.trans hw
  rcases my_em (x := f_S_orderOf a1) (14 : Int32) with h27_14 | h27_14
  · have hw := (if_pos h27_14).symm.trans hw
    refine my_swi (tgt := 151) hx hb nd_S_performWithNumber_27 h27_14 (by decide) (by decide) rfl (by decide) ?_
    refine lv_aload_n hx hb nd_S_performWithNumber_151 rfl (lv_at hl 4 rfl) ?_
    refine lv_iload_n hx hb nd_S_performWithNumber_152 rfl (lv_at hl 2 rfl) ?_
    refine lv_iload_n hx hb nd_S_performWithNumber_153 rfl (lv_at hl 3 rfl) ?_
    refine lv_iload hx hb nd_S_performWithNumber_154 (lv_at hl 0 rfl) ?_
    refine lv_ixor hx hb nd_S_performWithNumber_156 ?_
    obtain ⟨r157, u157, hq157, hw⟩ := bnd_i hw
    refine my_ci (wd := wSC h cA) (r := r157) (u' := u157) (va_runV (As := [.int (f_S_numberT a1), .int ((f_S_valueOfS a1 u) ^^^ (f_S_numberU a1))]) (rest := []) ⟨hx, hb, hml, hown, hts⟩ (c_S_give l D h cA u (f_S_numberT a1) ((f_S_valueOfS a1 u) ^^^ (f_S_numberU a1)) (r157, u157) hq157 _) ⟨callB_of 2 hts (gw_in gw_223) rfl rfl rfl (hts _ gw_1) (hts _ gw_220) nh_S_give ⟨Nat.le_of_ble_eq_true rfl, Nat.le_of_ble_eq_true rfl⟩, (hts _ gw_222), (hts _ gw_221)⟩ (my_preV nwOk hP hK hD hN (va_recv hK hP (ci := 0) (q0 := 0) rfl rfl)) rfl rfl hl.1 rfl (lv_room (Nat.le_of_ble_eq_true rfl)) nd_S_performWithNumber_157 ⟨Nat.le_of_ble_eq_true rfl, Nat.le_of_ble_eq_true rfl⟩) hD hS hA (fun H locs hP hD hS => ?_)
    exact my_ri (u' := u157) (v := r157) hx hb hr hlocks hK hP hD hS hw nd_S_performWithNumber_160
  have hw := (if_neg h27_14).symm.trans hw
  refine my_swd (tgt := 161) hx hb nd_S_performWithNumber_27 (my_nec h27_8 (my_nec h27_9 (my_nec h27_10 (my_nec h27_11 (my_nec h27_12 (my_nec h27_13 (my_nec h27_14 my_nen))))))) (by decide +kernel) (by decide) ?_
  refine lv_aload_n hx hb nd_S_performWithNumber_161 rfl (lv_at hl 4 rfl) ?_
  refine lv_iload_n hx hb nd_S_performWithNumber_162 rfl (lv_at hl 2 rfl) ?_
  refine lv_iload hx hb nd_S_performWithNumber_163 (lv_at hl 0 rfl) ?_
  refine lv_bipush (v := (16 : Int32)) hx hb nd_S_performWithNumber_165 (by decide) ?_
  refine lv_ishl hx hb nd_S_performWithNumber_167 ?_
  obtain ⟨r168, u168, hq168, hw⟩ := bnd_i hw
  refine my_ci (wd := wSC h cA) (r := r168) (u' := u168) (va_runV (As := [.int (f_S_numberT a1), .int ((f_S_numberU a1) <<< ((16 : Int32) &&& 31))]) (rest := []) ⟨hx, hb, hml, hown, hts⟩ (c_S_give l D h cA u (f_S_numberT a1) ((f_S_numberU a1) <<< ((16 : Int32) &&& 31)) (r168, u168) hq168 _) ⟨callB_of 2 hts (gw_in gw_223) rfl rfl rfl (hts _ gw_1) (hts _ gw_220) nh_S_give ⟨Nat.le_of_ble_eq_true rfl, Nat.le_of_ble_eq_true rfl⟩, (hts _ gw_222), (hts _ gw_221)⟩ (my_preV nwOk hP hK hD hN (va_recv hK hP (ci := 0) (q0 := 0) rfl rfl)) rfl rfl hl.1 rfl (lv_room (Nat.le_of_ble_eq_true rfl)) nd_S_performWithNumber_168 ⟨Nat.le_of_ble_eq_true rfl, Nat.le_of_ble_eq_true rfl⟩) hD hS hA (fun H locs hP hD hS => ?_)
  exact my_ri (u' := u168) (v := r168) hx hb hr hlocks hK hP hD hS hw nd_S_performWithNumber_171
set_option maxHeartbeats 4000000 in
set_option maxRecDepth 100000 in
theorem c_S_performControl (l : Launch) (D : va_G) (h : Nat → Nat) (cA : Nat → ClassId) (u : St) (a1 : Int32) (F : Int32 × St) (hw : f_S_performControl a1 u = F) : MI nwS vwCl l ny_S_performControl nw_S_performControl ({ frames := 2, cells := 0, slots := 0, locals := 44 }) D (tyI cA) (wSC h cA) ([.ref (h 0), .int a1] : List Value) u F := by
  refine my_in (gw := GW) (cc := nc_S_performControl) (maxL := 4) (ret := (some .int)) (Qc := fun A => QI vwCl D (tyI cA) (wSC h cA) F A) (by decide) rfl (Nat.le_of_ble_eq_true rfl) ?_
  intro p e s m below meth c A H locs ls hx hb hml hr hts hown hlocks hK hN hA hP hD hS hl
  have hown : s.vm.findClass nR_S = some m.cls := hown
  have hl : lv_has ls 4 [(0, .ref (h 0)), (1, .int a1)] := hl
  have J42 : ∀ (x1 : Int32) (x2 : Int32) (x3 : Int32) (u : St) (H : Heap) (locs : List Loc) (ls : Array Slot), va_P D vwCl (wSC h cA u) H → va_D A (wSC h cA u) → va_S A s.heap H locs → lv_has ls 4 [(0, .ref (h 0)), (1, .int x1), (2, .int x2), (3, .int x3)] → f_S_performControl_b42 x1 x2 x3 u = F →
      W p l e (headSpec nw_S_performControl ({ frames := 2, cells := 0, slots := 0, locals := 44 })).room s m ([.ref (h 0), .int a1] : List Value).toArray below meth c H locs 0 0 (MQ below (QI vwCl D (tyI cA) (wSC h cA) F A) ([.ref (h 0), .int a1] : List Value).toArray s 0 0 A) (F0 m 42 ls []) := by
    intro x1 x2 x3 u H locs ls hP hD hS hl hw
    unfold f_S_performControl_b42 at hw
    refine lv_aload_n hx hb nd_S_performControl_42 rfl (lv_at hl 0 rfl) ?_
    refine va_get (D := D) (ci := 0) (v := .ref (h 5)) (C := nR_S) (T := nT_S) (N := 9) hx hb hts nu_S hown hK hP 0 rfl rfl 2 (by decide) (hts _ gw_65) (fun _ h9 => h9) rfl nd_S_performControl_43 ?_
    refine my_ci (wd := wSC h cA) (r := zb (f_C_isUser u)) (u' := u) (va_runVN (As := []) (rest := []) ⟨hx, hb, hml, hown, hts⟩ (c_C_isUser l D h cA u _ rfl _) ⟨va_cnB 0 hts (gw_in gw_159) rfl rfl rfl (hN _ nm_28) (hts _ gw_4) nh_C_isUser ⟨Nat.le_of_ble_eq_true rfl, Nat.le_of_ble_eq_true rfl⟩, (hts _ gw_158), (hts _ gw_157)⟩ (my_preV nwOk hP hK hD hN (va_recv hK hP (ci := 3) (q0 := 5) rfl rfl)) rfl rfl hl.1 rfl (lv_room (Nat.le_of_ble_eq_true rfl)) nd_S_performControl_46 ⟨Nat.le_of_ble_eq_true rfl, Nat.le_of_ble_eq_true rfl⟩) hD hS hA (fun H locs hP hD hS => ?_)
    refine lv_if_eq (tgt := 55) hx hb nd_S_performControl_49 (by decide) (fun h49 => ?_) (fun h49 => ?_)
    · have hw := (if_pos h49).symm.trans hw
      refine lv_iload_n hx hb nd_S_performControl_55 rfl (lv_at hl 2 rfl) ?_
      refine lv_if_ne (tgt := 79) hx hb nd_S_performControl_56 (by decide) (fun h56 => ?_) (fun h56 => ?_)
      · have hw := (if_neg h56).symm.trans hw
        refine lv_iload_n hx hb nd_S_performControl_79 rfl (lv_at hl 3 rfl) ?_
        refine lv_if_eq (tgt := 93) hx hb nd_S_performControl_80 (by decide) (fun h80 => ?_) (fun h80 => ?_)
        · have hw := (if_pos h80).symm.trans hw
          refine lv_aload_n hx hb nd_S_performControl_93 rfl (lv_at hl 0 rfl) ?_
          refine va_get (D := D) (ci := 0) (v := .ref (h 5)) (C := nR_S) (T := nT_S) (N := 9) hx hb hts nu_S hown hK hP 0 rfl rfl 2 (by decide) (hts _ gw_65) (fun _ h9 => h9) rfl nd_S_performControl_94 ?_
          refine lv_iload_n hx hb nd_S_performControl_97 rfl (lv_at hl 1 rfl) ?_
          refine my_cp (F := f_S_numberD x1) (va_runS (As := [.int x1]) (rest := [.ref (h 5)]) ⟨hx, hb, hml, hown, hts⟩ (c_S_numberD l x1 _ rfl) ⟨callB_of 1 hts (gw_in gw_209) rfl rfl rfl (hts _ gw_1) (hts _ gw_207) nh_S_numberD ⟨Nat.le_of_ble_eq_true rfl, Nat.le_of_ble_eq_true rfl⟩, (hts _ gw_208)⟩ my_preP rfl rfl hl.1 rfl (lv_room (Nat.le_of_ble_eq_true rfl)) nd_S_performControl_98 ⟨Nat.le_of_ble_eq_true rfl, Nat.le_of_ble_eq_true rfl⟩) hP hS (fun H locs hP hS => ?_)
          refine lv_aload_n hx hb nd_S_performControl_101 rfl (lv_at hl 0 rfl) ?_
          refine lv_iload_n hx hb nd_S_performControl_102 rfl (lv_at hl 1 rfl) ?_
          refine my_ci (wd := wSC h cA) (r := f_S_valueOfT x1 u) (u' := u) (va_runV (As := [.int x1]) (rest := [.int (f_S_numberD x1), .ref (h 5)]) ⟨hx, hb, hml, hown, hts⟩ (c_S_valueOfT l D h cA u x1 _ rfl _) ⟨callB_of 1 hts (gw_in gw_203) rfl rfl rfl (hts _ gw_1) (hts _ gw_200) nh_S_valueOfT ⟨Nat.le_of_ble_eq_true rfl, Nat.le_of_ble_eq_true rfl⟩, (hts _ gw_202), (hts _ gw_201)⟩ (my_preV nwOk hP hK hD hN (va_recv hK hP (ci := 0) (q0 := 0) rfl rfl)) rfl rfl hl.1 rfl (lv_room (Nat.le_of_ble_eq_true rfl)) nd_S_performControl_103 ⟨Nat.le_of_ble_eq_true rfl, Nat.le_of_ble_eq_true rfl⟩) hD hS hA (fun H locs hP hD hS => ?_)
          obtain ⟨u106, hq106, hw⟩ := bnv_i hw
          refine my_cv (wd := wSC h cA) (F := u106) (va_runVN (As := [.int (f_S_numberD x1), .int (f_S_valueOfT x1 u)]) (rest := []) ⟨hx, hb, hml, hown, hts⟩ (c_C_change l D h cA u (f_S_numberD x1) (f_S_valueOfT x1 u) u106 hq106 _) ⟨va_cnB 2 hts (gw_in gw_113) rfl rfl rfl (hN _ nm_18) (hts _ gw_4) nh_C_change ⟨Nat.le_of_ble_eq_true rfl, Nat.le_of_ble_eq_true rfl⟩, (hts _ gw_112), (hts _ gw_111)⟩ (my_preV nwOk hP hK hD hN (va_recv hK hP (ci := 3) (q0 := 5) rfl rfl)) rfl rfl hl.1 rfl (lv_room (Nat.le_of_ble_eq_true rfl)) nd_S_performControl_106 ⟨Nat.le_of_ble_eq_true rfl, Nat.le_of_ble_eq_true rfl⟩) hD hS hA (fun H locs hP hD hS => ?_)
          refine lv_iconst (v := (-1 : Int32)) hx hb nd_S_performControl_109 (by decide) ?_
          exact my_ri (u' := u106) (v := (-1 : Int32)) hx hb hr hlocks hK hP hD hS hw nd_S_performControl_110
        have hw := (if_neg h80).symm.trans hw
        refine lv_aload_n hx hb nd_S_performControl_83 rfl (lv_at hl 0 rfl) ?_
        refine va_get (D := D) (ci := 0) (v := .ref (h 5)) (C := nR_S) (T := nT_S) (N := 9) hx hb hts nu_S hown hK hP 0 rfl rfl 2 (by decide) (hts _ gw_65) (fun _ h9 => h9) rfl nd_S_performControl_84 ?_
        obtain ⟨u87, hq87, hw⟩ := bnv_i hw
        refine my_cv (wd := wSC h cA) (F := u87) (va_runVN (As := []) (rest := []) ⟨hx, hb, hml, hown, hts⟩ (c_C_leave l D h cA u u87 hq87 _) ⟨va_cnB 0 hts (gw_in gw_316) rfl rfl rfl (hN _ nm_30) (hts _ gw_4) nh_C_leave ⟨Nat.le_of_ble_eq_true rfl, Nat.le_of_ble_eq_true rfl⟩, (hts _ gw_315), (hts _ gw_314)⟩ (my_preV nwOk hP hK hD hN (va_recv hK hP (ci := 3) (q0 := 5) rfl rfl)) rfl rfl hl.1 rfl (lv_room (Nat.le_of_ble_eq_true rfl)) nd_S_performControl_87 ⟨Nat.le_of_ble_eq_true rfl, Nat.le_of_ble_eq_true rfl⟩) hD hS hA (fun H locs hP hD hS => ?_)
        refine lv_goto (tgt := 109) hx hb nd_S_performControl_90 (by decide) ?_
        refine lv_iconst (v := (-1 : Int32)) hx hb nd_S_performControl_109 (by decide) ?_
        exact my_ri (u' := u87) (v := (-1 : Int32)) hx hb hr hlocks hK hP hD hS hw nd_S_performControl_110
      have hw := (if_pos h56).symm.trans hw
      refine lv_aload_n hx hb nd_S_performControl_59 rfl (lv_at hl 0 rfl) ?_
      refine lv_iload_n hx hb nd_S_performControl_60 rfl (lv_at hl 1 rfl) ?_
      refine my_cp (F := f_S_numberT x1) (va_runS (As := [.int x1]) (rest := [.ref (h 0)]) ⟨hx, hb, hml, hown, hts⟩ (c_S_numberT l x1 _ rfl) ⟨callB_of 1 hts (gw_in gw_191) rfl rfl rfl (hts _ gw_1) (hts _ gw_189) nh_S_numberT ⟨Nat.le_of_ble_eq_true rfl, Nat.le_of_ble_eq_true rfl⟩, (hts _ gw_190)⟩ my_preP rfl rfl hl.1 rfl (lv_room (Nat.le_of_ble_eq_true rfl)) nd_S_performControl_61 ⟨Nat.le_of_ble_eq_true rfl, Nat.le_of_ble_eq_true rfl⟩) hP hS (fun H locs hP hS => ?_)
      refine lv_aload_n hx hb nd_S_performControl_64 rfl (lv_at hl 0 rfl) ?_
      refine va_get (D := D) (ci := 0) (v := .ref (h 5)) (C := nR_S) (T := nT_S) (N := 9) hx hb hts nu_S hown hK hP 0 rfl rfl 2 (by decide) (hts _ gw_65) (fun _ h9 => h9) rfl nd_S_performControl_65 ?_
      refine lv_iload_n hx hb nd_S_performControl_68 rfl (lv_at hl 1 rfl) ?_
      refine my_cp (F := f_S_numberD x1) (va_runS (As := [.int x1]) (rest := [.ref (h 5), .int (f_S_numberT x1), .ref (h 0)]) ⟨hx, hb, hml, hown, hts⟩ (c_S_numberD l x1 _ rfl) ⟨callB_of 1 hts (gw_in gw_209) rfl rfl rfl (hts _ gw_1) (hts _ gw_207) nh_S_numberD ⟨Nat.le_of_ble_eq_true rfl, Nat.le_of_ble_eq_true rfl⟩, (hts _ gw_208)⟩ my_preP rfl rfl hl.1 rfl (lv_room (Nat.le_of_ble_eq_true rfl)) nd_S_performControl_69 ⟨Nat.le_of_ble_eq_true rfl, Nat.le_of_ble_eq_true rfl⟩) hP hS (fun H locs hP hS => ?_)
      refine my_ci (wd := wSC h cA) (r := f_C_valueOf (f_S_numberD x1) u) (u' := u) (va_runVN (As := [.int (f_S_numberD x1)]) (rest := [.int (f_S_numberT x1), .ref (h 0)]) ⟨hx, hb, hml, hown, hts⟩ (c_C_valueOf l D h cA u (f_S_numberD x1) _ rfl _) ⟨va_cnB 1 hts (gw_in gw_309) rfl rfl rfl (hN _ nm_29) (hts _ gw_4) nh_C_valueOf ⟨Nat.le_of_ble_eq_true rfl, Nat.le_of_ble_eq_true rfl⟩, (hts _ gw_308), (hts _ gw_307)⟩ (my_preV nwOk hP hK hD hN (va_recv hK hP (ci := 3) (q0 := 5) rfl rfl)) rfl rfl hl.1 rfl (lv_room (Nat.le_of_ble_eq_true rfl)) nd_S_performControl_72 ⟨Nat.le_of_ble_eq_true rfl, Nat.le_of_ble_eq_true rfl⟩) hD hS hA (fun H locs hP hD hS => ?_)
      obtain ⟨r75, u75, hq75, hw⟩ := bnd_i hw
      refine my_ci (wd := wSC h cA) (r := r75) (u' := u75) (va_runV (As := [.int (f_S_numberT x1), .int (f_C_valueOf (f_S_numberD x1) u)]) (rest := []) ⟨hx, hb, hml, hown, hts⟩ (c_S_giveLate l D h cA u (f_S_numberT x1) (f_C_valueOf (f_S_numberD x1) u) (r75, u75) hq75 _) ⟨callB_of 2 hts (gw_in gw_313) rfl rfl rfl (hts _ gw_1) (hts _ gw_310) nh_S_giveLate ⟨Nat.le_of_ble_eq_true rfl, Nat.le_of_ble_eq_true rfl⟩, (hts _ gw_312), (hts _ gw_311)⟩ (my_preV nwOk hP hK hD hN (va_recv hK hP (ci := 0) (q0 := 0) rfl rfl)) rfl rfl hl.1 rfl (lv_room (Nat.le_of_ble_eq_true rfl)) nd_S_performControl_75 ⟨Nat.le_of_ble_eq_true rfl, Nat.le_of_ble_eq_true rfl⟩) hD hS hA (fun H locs hP hD hS => ?_)
      exact my_ri (u' := u75) (v := r75) hx hb hr hlocks hK hP hD hS hw nd_S_performControl_78
    have hw := (if_neg h49).symm.trans hw
    refine lv_bipush (v := (11 : Int32)) hx hb nd_S_performControl_52 (by decide) ?_
    exact my_ri (u' := u) (v := (11 : Int32)) hx hb hr hlocks hK hP hD hS hw nd_S_performControl_54
  have J25 : ∀ (x1 : Int32) (x2 : Int32) (y0 : Int32) (u : St) (H : Heap) (locs : List Loc) (ls : Array Slot), va_P D vwCl (wSC h cA u) H → va_D A (wSC h cA u) → va_S A s.heap H locs → lv_has ls 4 [(0, .ref (h 0)), (1, .int x1), (2, .int x2)] → f_S_performControl_b25 x1 x2 y0 u = F →
      W p l e (headSpec nw_S_performControl ({ frames := 2, cells := 0, slots := 0, locals := 44 })).room s m ([.ref (h 0), .int a1] : List Value).toArray below meth c H locs 0 0 (MQ below (QI vwCl D (tyI cA) (wSC h cA) F A) ([.ref (h 0), .int a1] : List Value).toArray s 0 0 A) (F0 m 25 ls [.int y0]) := by
    intro x1 x2 y0 u H locs ls hP hD hS hl hw
    unfold f_S_performControl_b25 at hw
    refine lv_istore_n (lv' := [(3, .int y0), (0, .ref (h 0)), (1, .int x1), (2, .int x2)]) hx hb nd_S_performControl_25 rfl hl (by decide) rfl (fun ls hl => ?_)
    refine lv_iload_n hx hb nd_S_performControl_26 rfl (lv_at hl 3 rfl) ?_
    refine lv_if_eq (tgt := 42) hx hb nd_S_performControl_27 (by decide) (fun h27 => ?_) (fun h27 => ?_)
    · have hw := (if_pos h27).symm.trans hw
      exact J42 x1 x2 y0 u H locs ls hP hD hS (lv_sub hl [1, 2, 3, 0] rfl) hw
    have hw := (if_neg h27).symm.trans hw
    refine lv_iload_n hx hb nd_S_performControl_30 rfl (lv_at hl 3 rfl) ?_
    refine lv_iconst (v := (4 : Int32)) hx hb nd_S_performControl_31 (by decide) ?_
    refine lv_icmp_eq (tgt := 42) hx hb nd_S_performControl_32 (by decide) (fun h32 => ?_) (fun h32 => ?_)
    · have hw := (if_pos h32).symm.trans hw
      exact J42 x1 x2 y0 u H locs ls hP hD hS (lv_sub hl [1, 2, 3, 0] rfl) hw
    have hw := (if_neg h32).symm.trans hw
    refine lv_iload_n hx hb nd_S_performControl_35 rfl (lv_at hl 0 rfl) ?_
    refine lv_if_ne (tgt := 42) hx hb nd_S_performControl_36 (by decide) (fun h36 => ?_) (fun h36 => ?_)
    · have hw := (if_neg h36).symm.trans hw
      exact J42 x1 x2 y0 u H locs ls hP hD hS (lv_sub hl [1, 2, 3, 0] rfl) hw
    have hw := (if_pos h36).symm.trans hw
    refine lv_bipush (v := (10 : Int32)) hx hb nd_S_performControl_39 (by decide) ?_
    exact my_ri (u' := u) (v := (10 : Int32)) hx hb hr hlocks hK hP hD hS hw nd_S_performControl_41
  have J24 : ∀ (x1 : Int32) (x2 : Int32) (u : St) (H : Heap) (locs : List Loc) (ls : Array Slot), va_P D vwCl (wSC h cA u) H → va_D A (wSC h cA u) → va_S A s.heap H locs → lv_has ls 4 [(0, .ref (h 0)), (1, .int x1), (2, .int x2)] → f_S_performControl_b24 x1 x2 u = F →
      W p l e (headSpec nw_S_performControl ({ frames := 2, cells := 0, slots := 0, locals := 44 })).room s m ([.ref (h 0), .int a1] : List Value).toArray below meth c H locs 0 0 (MQ below (QI vwCl D (tyI cA) (wSC h cA) F A) ([.ref (h 0), .int a1] : List Value).toArray s 0 0 A) (F0 m 24 ls []) := by
    intro x1 x2 u H locs ls hP hD hS hl hw
    unfold f_S_performControl_b24 at hw
    refine lv_iconst (v := (0 : Int32)) hx hb nd_S_performControl_24 (by decide) ?_
    exact J25 x1 x2 (0 : Int32) u H locs ls hP hD hS (lv_sub hl [0, 1, 2] rfl) hw
  unfold f_S_performControl at hw
  refine lv_iload_n hx hb nd_S_performControl_0 rfl (lv_at hl 1 rfl) ?_
  refine my_cp (F := f_S_numberS a1) (va_runS (As := [.int a1]) (rest := []) ⟨hx, hb, hml, hown, hts⟩ (c_S_numberS l a1 _ rfl) ⟨callB_of 1 hts (gw_in gw_216) rfl rfl rfl (hts _ gw_1) (hts _ gw_214) nh_S_numberS ⟨Nat.le_of_ble_eq_true rfl, Nat.le_of_ble_eq_true rfl⟩, (hts _ gw_215)⟩ my_preP rfl rfl hl.1 rfl (lv_room (Nat.le_of_ble_eq_true rfl)) nd_S_performControl_1 ⟨Nat.le_of_ble_eq_true rfl, Nat.le_of_ble_eq_true rfl⟩) hP hS (fun H locs hP hS => ?_)
  refine lv_istore_n (lv' := [(2, .int (f_S_numberS a1)), (0, .ref (h 0)), (1, .int a1)]) hx hb nd_S_performControl_4 rfl hl (by decide) rfl (fun ls hl => ?_)
  refine lv_iload_n hx hb nd_S_performControl_5 rfl (lv_at hl 0 rfl) ?_
  refine lv_bipush (v := (16 : Int32)) hx hb nd_S_performControl_6 (by decide) ?_
  refine lv_icmp_ne (tgt := 24) hx hb nd_S_performControl_8 (by decide) (fun h8 => ?_) (fun h8 => ?_)
  · have hw := (if_neg h8).symm.trans hw
    exact J24 a1 (f_S_numberS a1) u H locs ls hP hD hS (lv_sub hl [1, 2, 0] rfl) hw
  have hw := (if_pos h8).symm.trans hw
  refine lv_iload_n hx hb nd_S_performControl_11 rfl (lv_at hl 2 rfl) ?_
  refine my_cp (F := f_S_numberK a1) (va_runS (As := [.int a1]) (rest := []) ⟨hx, hb, hml, hown, hts⟩ (c_S_numberK l a1 _ rfl) ⟨callB_of 1 hts (gw_in gw_185) rfl rfl rfl (hts _ gw_1) (hts _ gw_183) nh_S_numberK ⟨Nat.le_of_ble_eq_true rfl, Nat.le_of_ble_eq_true rfl⟩, (hts _ gw_184)⟩ my_preP rfl rfl hl.1 rfl (lv_room (Nat.le_of_ble_eq_true rfl)) nd_S_performControl_12 ⟨Nat.le_of_ble_eq_true rfl, Nat.le_of_ble_eq_true rfl⟩) hP hS (fun H locs hP hS => ?_)
  refine lv_bipush (v := (16 : Int32)) hx hb nd_S_performControl_15 (by decide) ?_
  refine lv_icmp_ne (tgt := 24) hx hb nd_S_performControl_17 (by decide) (fun h17 => ?_) (fun h17 => ?_)
  · have hw := (if_neg h17).symm.trans hw
    exact J24 a1 (f_S_numberS a1) u H locs ls hP hD hS (lv_sub hl [1, 2, 0] rfl) hw
  have hw := (if_pos h17).symm.trans hw
  refine lv_iconst (v := (1 : Int32)) hx hb nd_S_performControl_20 (by decide) ?_
  refine lv_goto (tgt := 25) hx hb nd_S_performControl_21 (by decide) ?_
  exact J25 a1 (f_S_numberS a1) (1 : Int32) u H locs ls hP hD hS (lv_sub hl [1, 2, 0] rfl) hw
set_option maxHeartbeats 4000000 in
set_option maxRecDepth 100000 in
theorem c_S_performLoad (l : Launch) (D : va_G) (h : Nat → Nat) (cA : Nat → ClassId) (u : St) (a1 : Int32) (F : Int32 × St) (hw : f_S_performLoad a1 u = F) : MI nwS vwCl l ny_S_performLoad nw_S_performLoad ({ frames := 3, cells := 0, slots := 0, locals := 64 }) D (tyI cA) (wSC h cA) ([.ref (h 0), .int a1] : List Value) u F := by
  refine my_in (gw := GW) (cc := nc_S_performLoad) (maxL := 6) (ret := (some .int)) (Qc := fun A => QI vwCl D (tyI cA) (wSC h cA) F A) (by decide) rfl (Nat.le_of_ble_eq_true rfl) ?_
  intro p e s m below meth c A H locs ls hx hb hml hr hts hown hlocks hK hN hA hP hD hS hl
  have hown : s.vm.findClass nR_S = some m.cls := hown
  have hl : lv_has ls 6 [(0, .ref (h 0)), (1, .int a1)] := hl
  unfold f_S_performLoad at hw
  refine lv_aload_n hx hb nd_S_performLoad_0 rfl (lv_at hl 0 rfl) ?_
  refine lv_iload_n hx hb nd_S_performLoad_1 rfl (lv_at hl 1 rfl) ?_
  refine my_ci (wd := wSC h cA) (r := f_S_addressOf a1 u) (u' := u) (va_runV (As := [.int a1]) (rest := []) ⟨hx, hb, hml, hown, hts⟩ (c_S_addressOf l D h cA u a1 _ rfl _) ⟨callB_of 1 hts (gw_in gw_324) rfl rfl rfl (hts _ gw_1) (hts _ gw_321) nh_S_addressOf ⟨Nat.le_of_ble_eq_true rfl, Nat.le_of_ble_eq_true rfl⟩, (hts _ gw_323), (hts _ gw_322)⟩ (my_preV nwOk hP hK hD hN (va_recv hK hP (ci := 0) (q0 := 0) rfl rfl)) rfl rfl hl.1 rfl (lv_room (Nat.le_of_ble_eq_true rfl)) nd_S_performLoad_2 ⟨Nat.le_of_ble_eq_true rfl, Nat.le_of_ble_eq_true rfl⟩) hD hS hA (fun H locs hP hD hS => ?_)
  refine lv_istore_n (lv' := [(2, .int (f_S_addressOf a1 u)), (0, .ref (h 0)), (1, .int a1)]) hx hb nd_S_performLoad_5 rfl hl (by decide) rfl (fun ls hl => ?_)
  refine lv_aload_n hx hb nd_S_performLoad_6 rfl (lv_at hl 1 rfl) ?_
  refine lv_iload_n hx hb nd_S_performLoad_7 rfl (lv_at hl 0 rfl) ?_
  refine lv_iload_n hx hb nd_S_performLoad_8 rfl (lv_at hl 2 rfl) ?_
  refine my_cp (F := f_S_orderOf a1) (va_runS (As := [.int a1]) (rest := [.int (f_S_addressOf a1 u), .ref (h 0)]) ⟨hx, hb, hml, hown, hts⟩ (c_S_orderOf l a1 _ rfl) ⟨callB_of 1 hts (gw_in gw_182) rfl rfl rfl (hts _ gw_1) (hts _ gw_180) nh_S_orderOf ⟨Nat.le_of_ble_eq_true rfl, Nat.le_of_ble_eq_true rfl⟩, (hts _ gw_181)⟩ my_preP rfl rfl hl.1 rfl (lv_room (Nat.le_of_ble_eq_true rfl)) nd_S_performLoad_9 ⟨Nat.le_of_ble_eq_true rfl, Nat.le_of_ble_eq_true rfl⟩) hP hS (fun H locs hP hS => ?_)
  refine my_cp (F := f_S_loadUnit (f_S_orderOf a1)) (va_runS (As := [.int (f_S_orderOf a1)]) (rest := [.int (f_S_addressOf a1 u), .ref (h 0)]) ⟨hx, hb, hml, hown, hts⟩ (c_S_loadUnit l (f_S_orderOf a1) _ rfl) ⟨callB_of 1 hts (gw_in gw_327) rfl rfl rfl (hts _ gw_1) (hts _ gw_325) nh_S_loadUnit ⟨Nat.le_of_ble_eq_true rfl, Nat.le_of_ble_eq_true rfl⟩, (hts _ gw_326)⟩ my_preP rfl rfl hl.1 rfl (lv_room (Nat.le_of_ble_eq_true rfl)) nd_S_performLoad_12 ⟨Nat.le_of_ble_eq_true rfl, Nat.le_of_ble_eq_true rfl⟩) hP hS (fun H locs hP hS => ?_)
  refine lv_iconst (v := (4 : Int32)) hx hb nd_S_performLoad_15 (by decide) ?_
  obtain ⟨r16, u16, hq16, hw⟩ := bnd_i hw
  refine my_ci (wd := wSC h cA) (r := r16) (u' := u16) (va_runV (As := [.int (f_S_addressOf a1 u), .int (f_S_loadUnit (f_S_orderOf a1)), .int (4 : Int32)]) (rest := []) ⟨hx, hb, hml, hown, hts⟩ (c_S_faultOfData l D h cA u (f_S_addressOf a1 u) (f_S_loadUnit (f_S_orderOf a1)) (4 : Int32) (r16, u16) hq16 _) ⟨callB_of 3 hts (gw_in gw_331) rfl rfl rfl (hts _ gw_1) (hts _ gw_328) nh_S_faultOfData ⟨Nat.le_of_ble_eq_true rfl, Nat.le_of_ble_eq_true rfl⟩, (hts _ gw_330), (hts _ gw_329)⟩ (my_preV nwOk hP hK hD hN (va_recv hK hP (ci := 0) (q0 := 0) rfl rfl)) rfl rfl hl.1 rfl (lv_room (Nat.le_of_ble_eq_true rfl)) nd_S_performLoad_16 ⟨Nat.le_of_ble_eq_true rfl, Nat.le_of_ble_eq_true rfl⟩) hD hS hA (fun H locs hP hD hS => ?_)
  refine lv_istore_n (lv' := [(3, .int r16), (2, .int (f_S_addressOf a1 u)), (0, .ref (h 0)), (1, .int a1)]) hx hb nd_S_performLoad_19 rfl hl (by decide) rfl (fun ls hl => ?_)
  refine lv_iload_n hx hb nd_S_performLoad_20 rfl (lv_at hl 0 rfl) ?_
  refine lv_iconst (v := (-1 : Int32)) hx hb nd_S_performLoad_21 (by decide) ?_
  refine lv_icmp_eq (tgt := 27) hx hb nd_S_performLoad_22 (by decide) (fun h22 => ?_) (fun h22 => ?_)
  · have hw := (if_pos h22).symm.trans hw
    refine lv_iload_n hx hb nd_S_performLoad_27 rfl (lv_at hl 3 rfl) ?_
    refine my_cp (F := f_S_numberT a1) (va_runS (As := [.int a1]) (rest := []) ⟨hx, hb, hml, hown, hts⟩ (c_S_numberT l a1 _ rfl) ⟨callB_of 1 hts (gw_in gw_191) rfl rfl rfl (hts _ gw_1) (hts _ gw_189) nh_S_numberT ⟨Nat.le_of_ble_eq_true rfl, Nat.le_of_ble_eq_true rfl⟩, (hts _ gw_190)⟩ my_preP rfl rfl hl.1 rfl (lv_room (Nat.le_of_ble_eq_true rfl)) nd_S_performLoad_28 ⟨Nat.le_of_ble_eq_true rfl, Nat.le_of_ble_eq_true rfl⟩) hP hS (fun H locs hP hS => ?_)
    refine lv_istore (lv' := [(4, .int (f_S_numberT a1)), (3, .int r16), (2, .int (f_S_addressOf a1 u)), (0, .ref (h 0)), (1, .int a1)]) hx hb nd_S_performLoad_31 hl (by decide) rfl (fun ls hl => ?_)
    refine lv_aload_n hx hb nd_S_performLoad_33 rfl (lv_at hl 3 rfl) ?_
    refine va_get (D := D) (ci := 0) (v := .ref (h 1)) (C := nR_S) (T := nT_S) (N := 9) hx hb hts nu_S hown hK hP 0 rfl rfl 0 (by decide) (hts _ gw_63) (fun _ h9 => h9) rfl nd_S_performLoad_34 ?_
    refine lv_iload_n hx hb nd_S_performLoad_37 rfl (lv_at hl 2 rfl) ?_
    refine lv_ldc (own := nR_S) (v := (536870911 : Int32)) hx hb hown (hts _ gw_160) nd_S_performLoad_38 ?_
    refine lv_iand hx hb nd_S_performLoad_40 ?_
    refine my_ci (wd := wSC h cA) (r := f_M_wordAround ((f_S_addressOf a1 u) &&& (536870911 : Int32)) u16) (u' := u16) (va_runVN (As := [.int ((f_S_addressOf a1 u) &&& (536870911 : Int32))]) (rest := []) ⟨hx, hb, hml, hown, hts⟩ (c_M_wordAround l D h cA u16 ((f_S_addressOf a1 u) &&& (536870911 : Int32)) _ rfl _) ⟨va_cnB 1 hts (gw_in gw_166) rfl rfl rfl (hN _ nm_24) (hts _ gw_2) nh_M_wordAround ⟨Nat.le_of_ble_eq_true rfl, Nat.le_of_ble_eq_true rfl⟩, (hts _ gw_165), (hts _ gw_164)⟩ (my_preV nwOk hP hK hD hN (va_recv hK hP (ci := 1) (q0 := 1) rfl rfl)) rfl rfl hl.1 rfl (lv_room (Nat.le_of_ble_eq_true rfl)) nd_S_performLoad_41 ⟨Nat.le_of_ble_eq_true rfl, Nat.le_of_ble_eq_true rfl⟩) hD hS hA (fun H locs hP hD hS => ?_)
    refine lv_istore (lv' := [(5, .int (f_M_wordAround ((f_S_addressOf a1 u) &&& (536870911 : Int32)) u16)), (4, .int (f_S_numberT a1)), (3, .int r16), (2, .int (f_S_addressOf a1 u)), (0, .ref (h 0)), (1, .int a1)]) hx hb nd_S_performLoad_44 hl (by decide) rfl (fun ls hl => ?_)
    refine lv_aload_n hx hb nd_S_performLoad_46 rfl (lv_at hl 4 rfl) ?_
    refine lv_iload hx hb nd_S_performLoad_47 (lv_at hl 1 rfl) ?_
    refine lv_iload_n hx hb nd_S_performLoad_49 rfl (lv_at hl 5 rfl) ?_
    refine my_cp (F := f_S_orderOf a1) (va_runS (As := [.int a1]) (rest := [.int (f_S_numberT a1), .ref (h 0)]) ⟨hx, hb, hml, hown, hts⟩ (c_S_orderOf l a1 _ rfl) ⟨callB_of 1 hts (gw_in gw_182) rfl rfl rfl (hts _ gw_1) (hts _ gw_180) nh_S_orderOf ⟨Nat.le_of_ble_eq_true rfl, Nat.le_of_ble_eq_true rfl⟩, (hts _ gw_181)⟩ my_preP rfl rfl hl.1 rfl (lv_room (Nat.le_of_ble_eq_true rfl)) nd_S_performLoad_50 ⟨Nat.le_of_ble_eq_true rfl, Nat.le_of_ble_eq_true rfl⟩) hP hS (fun H locs hP hS => ?_)
    refine lv_aload_n hx hb nd_S_performLoad_53 rfl (lv_at hl 4 rfl) ?_
    refine va_get (D := D) (ci := 0) (v := .ref (h 3)) (C := nR_S) (T := nT_S) (N := 9) hx hb hts nu_S hown hK hP 0 rfl rfl 1 (by decide) (hts _ gw_64) (fun _ h9 => h9) rfl nd_S_performLoad_54 ?_
    refine lv_iload hx hb nd_S_performLoad_57 (lv_at hl 1 rfl) ?_
    refine my_ci (wd := wSC h cA) (r := f_R_latestOf (f_S_numberT a1) u16) (u' := u16) (va_runVN (As := [.int (f_S_numberT a1)]) (rest := [.int (f_S_orderOf a1), .int (f_S_numberT a1), .ref (h 0)]) ⟨hx, hb, hml, hown, hts⟩ (c_R_latestOf l D h cA u16 (f_S_numberT a1) _ rfl _) ⟨va_cnB 1 hts (gw_in gw_334) rfl rfl rfl (hN _ nm_31) (hts _ gw_3) nh_R_latestOf ⟨Nat.le_of_ble_eq_true rfl, Nat.le_of_ble_eq_true rfl⟩, (hts _ gw_333), (hts _ gw_332)⟩ (my_preV nwOk hP hK hD hN (va_recv hK hP (ci := 2) (q0 := 3) rfl rfl)) rfl rfl hl.1 rfl (lv_room (Nat.le_of_ble_eq_true rfl)) nd_S_performLoad_59 ⟨Nat.le_of_ble_eq_true rfl, Nat.le_of_ble_eq_true rfl⟩) hD hS hA (fun H locs hP hD hS => ?_)
    refine lv_iload hx hb nd_S_performLoad_62 (lv_at hl 0 rfl) ?_
    refine lv_iload_n hx hb nd_S_performLoad_64 rfl (lv_at hl 3 rfl) ?_
    refine my_cp (F := f_S_joinLoaded (f_S_orderOf a1) (f_R_latestOf (f_S_numberT a1) u16) (f_M_wordAround ((f_S_addressOf a1 u) &&& (536870911 : Int32)) u16) (f_S_addressOf a1 u)) (va_runS (As := [.int (f_S_orderOf a1), .int (f_R_latestOf (f_S_numberT a1) u16), .int (f_M_wordAround ((f_S_addressOf a1 u) &&& (536870911 : Int32)) u16), .int (f_S_addressOf a1 u)]) (rest := [.int (f_S_numberT a1), .ref (h 0)]) ⟨hx, hb, hml, hown, hts⟩ (c_S_joinLoaded l (f_S_orderOf a1) (f_R_latestOf (f_S_numberT a1) u16) (f_M_wordAround ((f_S_addressOf a1 u) &&& (536870911 : Int32)) u16) (f_S_addressOf a1 u) _ rfl) ⟨callB_of 4 hts (gw_in gw_338) rfl rfl rfl (hts _ gw_1) (hts _ gw_336) nh_S_joinLoaded ⟨Nat.le_of_ble_eq_true rfl, Nat.le_of_ble_eq_true rfl⟩, (hts _ gw_337)⟩ my_preP rfl rfl hl.1 rfl (lv_room (Nat.le_of_ble_eq_true rfl)) nd_S_performLoad_65 ⟨Nat.le_of_ble_eq_true rfl, Nat.le_of_ble_eq_true rfl⟩) hP hS (fun H locs hP hS => ?_)
    obtain ⟨r68, u68, hq68, hw⟩ := bnd_i hw
    refine my_ci (wd := wSC h cA) (r := r68) (u' := u68) (va_runV (As := [.int (f_S_numberT a1), .int (f_S_joinLoaded (f_S_orderOf a1) (f_R_latestOf (f_S_numberT a1) u16) (f_M_wordAround ((f_S_addressOf a1 u) &&& (536870911 : Int32)) u16) (f_S_addressOf a1 u))]) (rest := []) ⟨hx, hb, hml, hown, hts⟩ (c_S_giveLate l D h cA u16 (f_S_numberT a1) (f_S_joinLoaded (f_S_orderOf a1) (f_R_latestOf (f_S_numberT a1) u16) (f_M_wordAround ((f_S_addressOf a1 u) &&& (536870911 : Int32)) u16) (f_S_addressOf a1 u)) (r68, u68) hq68 _) ⟨callB_of 2 hts (gw_in gw_313) rfl rfl rfl (hts _ gw_1) (hts _ gw_310) nh_S_giveLate ⟨Nat.le_of_ble_eq_true rfl, Nat.le_of_ble_eq_true rfl⟩, (hts _ gw_312), (hts _ gw_311)⟩ (my_preV nwOk hP hK hD hN (va_recv hK hP (ci := 0) (q0 := 0) rfl rfl)) rfl rfl hl.1 rfl (lv_room (Nat.le_of_ble_eq_true rfl)) nd_S_performLoad_68 ⟨Nat.le_of_ble_eq_true rfl, Nat.le_of_ble_eq_true rfl⟩) hD hS hA (fun H locs hP hD hS => ?_)
    exact my_ri (u' := u68) (v := r68) hx hb hr hlocks hK hP hD hS hw nd_S_performLoad_71
  have hw := (if_neg h22).symm.trans hw
  refine lv_iload_n hx hb nd_S_performLoad_25 rfl (lv_at hl 0 rfl) ?_
  exact my_ri (u' := u16) (v := r16) hx hb hr hlocks hK hP hD hS hw nd_S_performLoad_26
set_option maxHeartbeats 4000000 in
set_option maxRecDepth 100000 in
theorem c_S_performStore (l : Launch) (D : va_G) (h : Nat → Nat) (cA : Nat → ClassId) (u : St) (a1 : Int32) (F : Int32 × St) (hw : f_S_performStore a1 u = F) : MI nwS vwCl l ny_S_performStore nw_S_performStore ({ frames := 3, cells := 0, slots := 0, locals := 64 }) D (tyI cA) (wSC h cA) ([.ref (h 0), .int a1] : List Value) u F := by
  refine my_in (gw := GW) (cc := nc_S_performStore) (maxL := 6) (ret := (some .int)) (Qc := fun A => QI vwCl D (tyI cA) (wSC h cA) F A) (by decide) rfl (Nat.le_of_ble_eq_true rfl) ?_
  intro p e s m below meth c A H locs ls hx hb hml hr hts hown hlocks hK hN hA hP hD hS hl
  have hown : s.vm.findClass nR_S = some m.cls := hown
  have hl : lv_has ls 6 [(0, .ref (h 0)), (1, .int a1)] := hl
  unfold f_S_performStore at hw
  refine lv_aload_n hx hb nd_S_performStore_0 rfl (lv_at hl 0 rfl) ?_
  refine lv_iload_n hx hb nd_S_performStore_1 rfl (lv_at hl 1 rfl) ?_
  refine my_ci (wd := wSC h cA) (r := f_S_addressOf a1 u) (u' := u) (va_runV (As := [.int a1]) (rest := []) ⟨hx, hb, hml, hown, hts⟩ (c_S_addressOf l D h cA u a1 _ rfl _) ⟨callB_of 1 hts (gw_in gw_324) rfl rfl rfl (hts _ gw_1) (hts _ gw_321) nh_S_addressOf ⟨Nat.le_of_ble_eq_true rfl, Nat.le_of_ble_eq_true rfl⟩, (hts _ gw_323), (hts _ gw_322)⟩ (my_preV nwOk hP hK hD hN (va_recv hK hP (ci := 0) (q0 := 0) rfl rfl)) rfl rfl hl.1 rfl (lv_room (Nat.le_of_ble_eq_true rfl)) nd_S_performStore_2 ⟨Nat.le_of_ble_eq_true rfl, Nat.le_of_ble_eq_true rfl⟩) hD hS hA (fun H locs hP hD hS => ?_)
  refine lv_istore_n (lv' := [(2, .int (f_S_addressOf a1 u)), (0, .ref (h 0)), (1, .int a1)]) hx hb nd_S_performStore_5 rfl hl (by decide) rfl (fun ls hl => ?_)
  refine lv_aload_n hx hb nd_S_performStore_6 rfl (lv_at hl 1 rfl) ?_
  refine lv_iload_n hx hb nd_S_performStore_7 rfl (lv_at hl 0 rfl) ?_
  refine lv_iload_n hx hb nd_S_performStore_8 rfl (lv_at hl 2 rfl) ?_
  refine my_cp (F := f_S_orderOf a1) (va_runS (As := [.int a1]) (rest := [.int (f_S_addressOf a1 u), .ref (h 0)]) ⟨hx, hb, hml, hown, hts⟩ (c_S_orderOf l a1 _ rfl) ⟨callB_of 1 hts (gw_in gw_182) rfl rfl rfl (hts _ gw_1) (hts _ gw_180) nh_S_orderOf ⟨Nat.le_of_ble_eq_true rfl, Nat.le_of_ble_eq_true rfl⟩, (hts _ gw_181)⟩ my_preP rfl rfl hl.1 rfl (lv_room (Nat.le_of_ble_eq_true rfl)) nd_S_performStore_9 ⟨Nat.le_of_ble_eq_true rfl, Nat.le_of_ble_eq_true rfl⟩) hP hS (fun H locs hP hS => ?_)
  refine my_cp (F := f_S_storeUnit (f_S_orderOf a1)) (va_runS (As := [.int (f_S_orderOf a1)]) (rest := [.int (f_S_addressOf a1 u), .ref (h 0)]) ⟨hx, hb, hml, hown, hts⟩ (c_S_storeUnit l (f_S_orderOf a1) _ rfl) ⟨callB_of 1 hts (gw_in gw_352) rfl rfl rfl (hts _ gw_1) (hts _ gw_350) nh_S_storeUnit ⟨Nat.le_of_ble_eq_true rfl, Nat.le_of_ble_eq_true rfl⟩, (hts _ gw_351)⟩ my_preP rfl rfl hl.1 rfl (lv_room (Nat.le_of_ble_eq_true rfl)) nd_S_performStore_12 ⟨Nat.le_of_ble_eq_true rfl, Nat.le_of_ble_eq_true rfl⟩) hP hS (fun H locs hP hS => ?_)
  refine lv_iconst (v := (5 : Int32)) hx hb nd_S_performStore_15 (by decide) ?_
  obtain ⟨r16, u16, hq16, hw⟩ := bnd_i hw
  refine my_ci (wd := wSC h cA) (r := r16) (u' := u16) (va_runV (As := [.int (f_S_addressOf a1 u), .int (f_S_storeUnit (f_S_orderOf a1)), .int (5 : Int32)]) (rest := []) ⟨hx, hb, hml, hown, hts⟩ (c_S_faultOfData l D h cA u (f_S_addressOf a1 u) (f_S_storeUnit (f_S_orderOf a1)) (5 : Int32) (r16, u16) hq16 _) ⟨callB_of 3 hts (gw_in gw_331) rfl rfl rfl (hts _ gw_1) (hts _ gw_328) nh_S_faultOfData ⟨Nat.le_of_ble_eq_true rfl, Nat.le_of_ble_eq_true rfl⟩, (hts _ gw_330), (hts _ gw_329)⟩ (my_preV nwOk hP hK hD hN (va_recv hK hP (ci := 0) (q0 := 0) rfl rfl)) rfl rfl hl.1 rfl (lv_room (Nat.le_of_ble_eq_true rfl)) nd_S_performStore_16 ⟨Nat.le_of_ble_eq_true rfl, Nat.le_of_ble_eq_true rfl⟩) hD hS hA (fun H locs hP hD hS => ?_)
  refine lv_istore_n (lv' := [(3, .int r16), (2, .int (f_S_addressOf a1 u)), (0, .ref (h 0)), (1, .int a1)]) hx hb nd_S_performStore_19 rfl hl (by decide) rfl (fun ls hl => ?_)
  refine lv_iload_n hx hb nd_S_performStore_20 rfl (lv_at hl 0 rfl) ?_
  refine lv_iconst (v := (-1 : Int32)) hx hb nd_S_performStore_21 (by decide) ?_
  refine lv_icmp_eq (tgt := 27) hx hb nd_S_performStore_22 (by decide) (fun h22 => ?_) (fun h22 => ?_)
  · have hw := (if_pos h22).symm.trans hw
    refine lv_iload_n hx hb nd_S_performStore_27 rfl (lv_at hl 1 rfl) ?_
    refine lv_ldc (own := nR_S) (v := (536870911 : Int32)) hx hb hown (hts _ gw_160) nd_S_performStore_28 ?_
    refine lv_iand hx hb nd_S_performStore_30 ?_
    refine lv_istore (lv' := [(4, .int ((f_S_addressOf a1 u) &&& (536870911 : Int32))), (3, .int r16), (2, .int (f_S_addressOf a1 u)), (0, .ref (h 0)), (1, .int a1)]) hx hb nd_S_performStore_31 hl (by decide) rfl (fun ls hl => ?_)
    refine lv_aload_n hx hb nd_S_performStore_33 rfl (lv_at hl 3 rfl) ?_
    refine va_get (D := D) (ci := 0) (v := .ref (h 1)) (C := nR_S) (T := nT_S) (N := 9) hx hb hts nu_S hown hK hP 0 rfl rfl 0 (by decide) (hts _ gw_63) (fun _ h9 => h9) rfl nd_S_performStore_34 ?_
    refine lv_iload hx hb nd_S_performStore_37 (lv_at hl 0 rfl) ?_
    refine my_ci (wd := wSC h cA) (r := f_M_wordAround ((f_S_addressOf a1 u) &&& (536870911 : Int32)) u16) (u' := u16) (va_runVN (As := [.int ((f_S_addressOf a1 u) &&& (536870911 : Int32))]) (rest := []) ⟨hx, hb, hml, hown, hts⟩ (c_M_wordAround l D h cA u16 ((f_S_addressOf a1 u) &&& (536870911 : Int32)) _ rfl _) ⟨va_cnB 1 hts (gw_in gw_166) rfl rfl rfl (hN _ nm_24) (hts _ gw_2) nh_M_wordAround ⟨Nat.le_of_ble_eq_true rfl, Nat.le_of_ble_eq_true rfl⟩, (hts _ gw_165), (hts _ gw_164)⟩ (my_preV nwOk hP hK hD hN (va_recv hK hP (ci := 1) (q0 := 1) rfl rfl)) rfl rfl hl.1 rfl (lv_room (Nat.le_of_ble_eq_true rfl)) nd_S_performStore_39 ⟨Nat.le_of_ble_eq_true rfl, Nat.le_of_ble_eq_true rfl⟩) hD hS hA (fun H locs hP hD hS => ?_)
    refine lv_istore (lv' := [(5, .int (f_M_wordAround ((f_S_addressOf a1 u) &&& (536870911 : Int32)) u16)), (4, .int ((f_S_addressOf a1 u) &&& (536870911 : Int32))), (3, .int r16), (2, .int (f_S_addressOf a1 u)), (0, .ref (h 0)), (1, .int a1)]) hx hb nd_S_performStore_42 hl (by decide) rfl (fun ls hl => ?_)
    refine lv_aload_n hx hb nd_S_performStore_44 rfl (lv_at hl 4 rfl) ?_
    refine va_get (D := D) (ci := 0) (v := .ref (h 1)) (C := nR_S) (T := nT_S) (N := 9) hx hb hts nu_S hown hK hP 0 rfl rfl 0 (by decide) (hts _ gw_63) (fun _ h9 => h9) rfl nd_S_performStore_45 ?_
    refine lv_iload hx hb nd_S_performStore_48 (lv_at hl 1 rfl) ?_
    refine lv_iload_n hx hb nd_S_performStore_50 rfl (lv_at hl 5 rfl) ?_
    refine my_cp (F := f_S_orderOf a1) (va_runS (As := [.int a1]) (rest := [.int ((f_S_addressOf a1 u) &&& (536870911 : Int32)), .ref (h 1)]) ⟨hx, hb, hml, hown, hts⟩ (c_S_orderOf l a1 _ rfl) ⟨callB_of 1 hts (gw_in gw_182) rfl rfl rfl (hts _ gw_1) (hts _ gw_180) nh_S_orderOf ⟨Nat.le_of_ble_eq_true rfl, Nat.le_of_ble_eq_true rfl⟩, (hts _ gw_181)⟩ my_preP rfl rfl hl.1 rfl (lv_room (Nat.le_of_ble_eq_true rfl)) nd_S_performStore_51 ⟨Nat.le_of_ble_eq_true rfl, Nat.le_of_ble_eq_true rfl⟩) hP hS (fun H locs hP hS => ?_)
    refine lv_iload hx hb nd_S_performStore_54 (lv_at hl 0 rfl) ?_
    refine lv_aload_n hx hb nd_S_performStore_56 rfl (lv_at hl 4 rfl) ?_
    refine lv_iload_n hx hb nd_S_performStore_57 rfl (lv_at hl 5 rfl) ?_
    refine my_ci (wd := wSC h cA) (r := f_S_valueOfT a1 u16) (u' := u16) (va_runV (As := [.int a1]) (rest := [.int (f_M_wordAround ((f_S_addressOf a1 u) &&& (536870911 : Int32)) u16), .int (f_S_orderOf a1), .int ((f_S_addressOf a1 u) &&& (536870911 : Int32)), .ref (h 1)]) ⟨hx, hb, hml, hown, hts⟩ (c_S_valueOfT l D h cA u16 a1 _ rfl _) ⟨callB_of 1 hts (gw_in gw_203) rfl rfl rfl (hts _ gw_1) (hts _ gw_200) nh_S_valueOfT ⟨Nat.le_of_ble_eq_true rfl, Nat.le_of_ble_eq_true rfl⟩, (hts _ gw_202), (hts _ gw_201)⟩ (my_preV nwOk hP hK hD hN (va_recv hK hP (ci := 0) (q0 := 0) rfl rfl)) rfl rfl hl.1 rfl (lv_room (Nat.le_of_ble_eq_true rfl)) nd_S_performStore_58 ⟨Nat.le_of_ble_eq_true rfl, Nat.le_of_ble_eq_true rfl⟩) hD hS hA (fun H locs hP hD hS => ?_)
    refine lv_iload_n hx hb nd_S_performStore_61 rfl (lv_at hl 3 rfl) ?_
    refine my_cp (F := f_S_joinStored (f_S_orderOf a1) (f_M_wordAround ((f_S_addressOf a1 u) &&& (536870911 : Int32)) u16) (f_S_valueOfT a1 u16) (f_S_addressOf a1 u)) (va_runS (As := [.int (f_S_orderOf a1), .int (f_M_wordAround ((f_S_addressOf a1 u) &&& (536870911 : Int32)) u16), .int (f_S_valueOfT a1 u16), .int (f_S_addressOf a1 u)]) (rest := [.int ((f_S_addressOf a1 u) &&& (536870911 : Int32)), .ref (h 1)]) ⟨hx, hb, hml, hown, hts⟩ (c_S_joinStored l (f_S_orderOf a1) (f_M_wordAround ((f_S_addressOf a1 u) &&& (536870911 : Int32)) u16) (f_S_valueOfT a1 u16) (f_S_addressOf a1 u) _ rfl) ⟨callB_of 4 hts (gw_in gw_355) rfl rfl rfl (hts _ gw_1) (hts _ gw_353) nh_S_joinStored ⟨Nat.le_of_ble_eq_true rfl, Nat.le_of_ble_eq_true rfl⟩, (hts _ gw_354)⟩ my_preP rfl rfl hl.1 rfl (lv_room (Nat.le_of_ble_eq_true rfl)) nd_S_performStore_62 ⟨Nat.le_of_ble_eq_true rfl, Nat.le_of_ble_eq_true rfl⟩) hP hS (fun H locs hP hS => ?_)
    obtain ⟨u65, hq65, hw⟩ := bnv_i hw
    refine my_cv (wd := wSC h cA) (F := u65) (va_runVN (As := [.int ((f_S_addressOf a1 u) &&& (536870911 : Int32)), .int (f_S_joinStored (f_S_orderOf a1) (f_M_wordAround ((f_S_addressOf a1 u) &&& (536870911 : Int32)) u16) (f_S_valueOfT a1 u16) (f_S_addressOf a1 u))]) (rest := []) ⟨hx, hb, hml, hown, hts⟩ (c_M_replaceWord l D h cA u16 ((f_S_addressOf a1 u) &&& (536870911 : Int32)) (f_S_joinStored (f_S_orderOf a1) (f_M_wordAround ((f_S_addressOf a1 u) &&& (536870911 : Int32)) u16) (f_S_valueOfT a1 u16) (f_S_addressOf a1 u)) u65 hq65 _) ⟨va_cnB 2 hts (gw_in gw_358) rfl rfl rfl (hN _ nm_32) (hts _ gw_2) nh_M_replaceWord ⟨Nat.le_of_ble_eq_true rfl, Nat.le_of_ble_eq_true rfl⟩, (hts _ gw_357), (hts _ gw_356)⟩ (my_preV nwOk hP hK hD hN (va_recv hK hP (ci := 1) (q0 := 1) rfl rfl)) rfl rfl hl.1 rfl (lv_room (Nat.le_of_ble_eq_true rfl)) nd_S_performStore_65 ⟨Nat.le_of_ble_eq_true rfl, Nat.le_of_ble_eq_true rfl⟩) hD hS hA (fun H locs hP hD hS => ?_)
    refine lv_iconst (v := (-1 : Int32)) hx hb nd_S_performStore_68 (by decide) ?_
    exact my_ri (u' := u65) (v := (-1 : Int32)) hx hb hr hlocks hK hP hD hS hw nd_S_performStore_69
  have hw := (if_neg h22).symm.trans hw
  refine lv_iload_n hx hb nd_S_performStore_25 rfl (lv_at hl 0 rfl) ?_
  exact my_ri (u' := u16) (v := r16) hx hb hr hlocks hK hP hD hS hw nd_S_performStore_26
end
section
set_option maxHeartbeats 4000000 in
set_option maxRecDepth 100000 in
theorem c_S_enterException (l : Launch) (D : va_G) (h : Nat → Nat) (cA : Nat → ClassId) (u : St) (a1 : Int32) (F : St) (hw : f_S_enterException a1 u = F) : MV nwS vwCl l ny_S_enterException nw_S_enterException ({ frames := 3, cells := 0, slots := 0, locals := 62 }) D (tyI cA) (wSC h cA) ([.ref (h 0), .int a1] : List Value) u F := by
  refine my_in (gw := GW) (cc := nc_S_enterException) (maxL := 2) (ret := none) (Qc := fun A => QV vwCl D (tyI cA) (wSC h cA) F A) (by decide) rfl (Nat.le_of_ble_eq_true rfl) ?_
  intro p e s m below meth c A H locs ls hx hb hml hr hts hown hlocks hK hN hA hP hD hS hl
  have hown : s.vm.findClass nR_S = some m.cls := hown
  have hl : lv_has ls 2 [(0, .ref (h 0)), (1, .int a1)] := hl
  have J42 : ∀ (y0 : Int32) (y1 : Int32) (u : St) (H : Heap) (locs : List Loc) (ls : Array Slot), va_P D vwCl (wSC h cA u) H → va_D A (wSC h cA u) → va_S A s.heap H locs → lv_has ls 2 [(0, .ref (h 0))] → f_S_enterException_b42 y0 y1 u = F →
      W p l e (headSpec nw_S_enterException ({ frames := 3, cells := 0, slots := 0, locals := 62 })).room s m ([.ref (h 0), .int a1] : List Value).toArray below meth c H locs 0 0 (MQ below (QV vwCl D (tyI cA) (wSC h cA) F A) ([.ref (h 0), .int a1] : List Value).toArray s 0 0 A) (F0 m 42 ls [.int y0, .int y1, .ref (h 5)]) := by
    intro y0 y1 u H locs ls hP hD hS hl hw
    unfold f_S_enterException_b42 at hw
    refine lv_aload_n hx hb nd_S_enterException_42 rfl (lv_at hl 0 rfl) ?_
    refine va_get (D := D) (ci := 0) (v := .int (zb (u 0 6))) (C := nR_S) (T := nT_S) (N := 9) hx hb hts nu_S hown hK hP 0 rfl rfl 6 (by decide) (hts _ gw_69) (fun _ h9 => h9) rfl nd_S_enterException_43 ?_
    obtain ⟨u46, hq46, hw⟩ := bnv_i hw
    refine my_cv (wd := wSC h cA) (F := u46) (va_runVN (As := [.int y1, .int y0, .int (zb (u 0 6))]) (rest := []) ⟨hx, hb, hml, hown, hts⟩ (c_C_enter l D h cA u y1 y0 (u 0 6) u46 hq46 _) ⟨va_cnB 3 hts (gw_in gw_146) rfl rfl rfl (hN _ nm_22) (hts _ gw_4) nh_C_enter ⟨Nat.le_of_ble_eq_true rfl, Nat.le_of_ble_eq_true rfl⟩, (hts _ gw_145), (hts _ gw_144)⟩ (my_preV nwOk hP hK hD hN (va_recv hK hP (ci := 3) (q0 := 5) rfl rfl)) rfl rfl hl.1 rfl (lv_room (Nat.le_of_ble_eq_true rfl)) nd_S_enterException_46 ⟨Nat.le_of_ble_eq_true rfl, Nat.le_of_ble_eq_true rfl⟩) hD hS hA (fun H locs hP hD hS => ?_)
    refine lv_aload_n hx hb nd_S_enterException_49 rfl (lv_at hl 0 rfl) ?_
    refine lv_ldc (own := nR_S) (v := (-2147483520 : Int32)) hx hb hown (hts _ gw_148) nd_S_enterException_50 ?_
    obtain ⟨u52, hq52, hw⟩ := bnv_i hw
    refine my_cv (wd := wSC h cA) (F := u52) (va_runV (As := [.int (-2147483520 : Int32)]) (rest := []) ⟨hx, hb, hml, hown, hts⟩ (c_S_continueAt l D h cA u46 (-2147483520 : Int32) u52 hq52 _) ⟨callB_of 1 hts (gw_in gw_102) rfl rfl rfl (hts _ gw_1) (hts _ gw_99) nh_S_continueAt ⟨Nat.le_of_ble_eq_true rfl, Nat.le_of_ble_eq_true rfl⟩, (hts _ gw_101), (hts _ gw_100)⟩ (my_preV nwOk hP hK hD hN (va_recv hK hP (ci := 0) (q0 := 0) rfl rfl)) rfl rfl hl.1 rfl (lv_room (Nat.le_of_ble_eq_true rfl)) nd_S_enterException_52 ⟨Nat.le_of_ble_eq_true rfl, Nat.le_of_ble_eq_true rfl⟩) hD hS hA (fun H locs hP hD hS => ?_)
    exact my_rv (u' := u52) hx hb hr hlocks hK hP hD hS hw nd_S_enterException_55
  unfold f_S_enterException at hw
  refine lv_aload_n hx hb nd_S_enterException_0 rfl (lv_at hl 0 rfl) ?_
  refine lv_dup hx hb nd_S_enterException_1 rfl ?_
  refine va_get (D := D) (ci := 0) (v := .int (u 0 8)) (C := nR_S) (T := nT_S) (N := 9) hx hb hts nu_S hown hK hP 0 rfl rfl 8 (by decide) (hts _ gw_71) (fun _ h9 => h9) rfl nd_S_enterException_2 ?_
  refine lv_iconst (v := (1 : Int32)) hx hb nd_S_enterException_5 (by decide) ?_
  refine lv_iadd hx hb nd_S_enterException_6 ?_
  refine va_put (D := D) (ci := 0) (v := .int ((u 0 8) + (1 : Int32))) (ty := .int) (C := nR_S) (T := nT_S) (N := 9) hx hb hts nu_S nt_S nto_S nn_S hown hK hP hD hS 0 rfl rfl 8 (by decide) (hts _ gw_71) (fun _ h9 => h9) rfl (by decide +kernel) rfl rfl (Nat.le_of_ble_eq_true rfl) nd_S_enterException_7 (fun H locs hP hD hS => ?_)
  have hP : va_P D vwCl (wSC h cA (sU u 0 8 ((u 0 8) + (1 : Int32)))) H := hP
  have hD : va_D A (wSC h cA (sU u 0 8 ((u 0 8) + (1 : Int32)))) := hD
  refine lv_aload_n hx hb nd_S_enterException_10 rfl (lv_at hl 0 rfl) ?_
  refine va_get (D := D) (ci := 0) (v := .ref (h 3)) (C := nR_S) (T := nT_S) (N := 9) hx hb hts nu_S hown hK hP 0 rfl rfl 1 (by decide) (hts _ gw_64) (fun _ h9 => h9) rfl nd_S_enterException_11 ?_
  obtain ⟨u14, hq14, hw⟩ := bnv_i hw
  refine my_cv (wd := wSC h cA) (F := u14) (va_runVN (As := []) (rest := []) ⟨hx, hb, hml, hown, hts⟩ (c_R_landLoad l D h cA (sU u 0 8 ((u 0 8) + (1 : Int32))) u14 hq14 _) ⟨va_cnB 0 hts (gw_in gw_139) rfl rfl rfl (hN _ nm_21) (hts _ gw_3) nh_R_landLoad ⟨Nat.le_of_ble_eq_true rfl, Nat.le_of_ble_eq_true rfl⟩, (hts _ gw_138), (hts _ gw_137)⟩ (my_preV nwOk hP hK hD hN (va_recv hK hP (ci := 2) (q0 := 3) rfl rfl)) rfl rfl hl.1 rfl (lv_room (Nat.le_of_ble_eq_true rfl)) nd_S_enterException_14 ⟨Nat.le_of_ble_eq_true rfl, Nat.le_of_ble_eq_true rfl⟩) hD hS hA (fun H locs hP hD hS => ?_)
  refine lv_aload_n hx hb nd_S_enterException_17 rfl (lv_at hl 0 rfl) ?_
  refine va_get (D := D) (ci := 0) (v := .ref (h 5)) (C := nR_S) (T := nT_S) (N := 9) hx hb hts nu_S hown hK hP 0 rfl rfl 2 (by decide) (hts _ gw_65) (fun _ h9 => h9) rfl nd_S_enterException_18 ?_
  refine lv_iload_n hx hb nd_S_enterException_21 rfl (lv_at hl 1 rfl) ?_
  refine lv_aload_n hx hb nd_S_enterException_22 rfl (lv_at hl 0 rfl) ?_
  refine va_get (D := D) (ci := 0) (v := .int (zb (u14 0 6))) (C := nR_S) (T := nT_S) (N := 9) hx hb hts nu_S hown hK hP 0 rfl rfl 6 (by decide) (hts _ gw_69) (fun _ h9 => h9) rfl nd_S_enterException_23 ?_
  refine lv_if_eq (tgt := 38) hx hb nd_S_enterException_26 (by decide) (fun h26 => ?_) (fun h26 => ?_)
  · have hw := (if_pos h26).symm.trans hw
    refine lv_aload_n hx hb nd_S_enterException_38 rfl (lv_at hl 0 rfl) ?_
    refine va_get (D := D) (ci := 0) (v := .int (u14 0 4)) (C := nR_S) (T := nT_S) (N := 9) hx hb hts nu_S hown hK hP 0 rfl rfl 4 (by decide) (hts _ gw_67) (fun _ h9 => h9) rfl nd_S_enterException_39 ?_
    exact J42 (u14 0 4) a1 u14 H locs ls hP hD hS (lv_sub hl [0] rfl) hw
  have hw := (if_neg h26).symm.trans hw
  refine lv_aload_n hx hb nd_S_enterException_29 rfl (lv_at hl 0 rfl) ?_
  refine va_get (D := D) (ci := 0) (v := .int (u14 0 4)) (C := nR_S) (T := nT_S) (N := 9) hx hb hts nu_S hown hK hP 0 rfl rfl 4 (by decide) (hts _ gw_67) (fun _ h9 => h9) rfl nd_S_enterException_30 ?_
  refine lv_iconst (v := (4 : Int32)) hx hb nd_S_enterException_33 (by decide) ?_
  refine lv_isub hx hb nd_S_enterException_34 ?_
  refine lv_goto (tgt := 42) hx hb nd_S_enterException_35 (by decide) ?_
  exact J42 ((u14 0 4) - (4 : Int32)) a1 u14 H locs ls hP hD hS (lv_sub hl [0] rfl) hw
set_option maxHeartbeats 4000000 in
set_option maxRecDepth 100000 in
theorem c_S_faultAtPc (l : Launch) (D : va_G) (h : Nat → Nat) (cA : Nat → ClassId) (u : St) (F : Int32 × St) (hw : f_S_faultAtPc u = F) : MI nwS vwCl l ny_S_faultAtPc nw_S_faultAtPc ({ frames := 2, cells := 0, slots := 0, locals := 41 }) D (tyI cA) (wSC h cA) ([.ref (h 0)] : List Value) u F := by
  refine my_in (gw := GW) (cc := nc_S_faultAtPc) (maxL := 1) (ret := (some .int)) (Qc := fun A => QI vwCl D (tyI cA) (wSC h cA) F A) (by decide) rfl (Nat.le_of_ble_eq_true rfl) ?_
  intro p e s m below meth c A H locs ls hx hb hml hr hts hown hlocks hK hN hA hP hD hS hl
  have hown : s.vm.findClass nR_S = some m.cls := hown
  have hl : lv_has ls 1 [(0, .ref (h 0))] := hl
  have J23 : ∀ (u : St) (H : Heap) (locs : List Loc) (ls : Array Slot), va_P D vwCl (wSC h cA u) H → va_D A (wSC h cA u) → va_S A s.heap H locs → lv_has ls 1 [(0, .ref (h 0))] → f_S_faultAtPc_b23 u = F →
      W p l e (headSpec nw_S_faultAtPc ({ frames := 2, cells := 0, slots := 0, locals := 41 })).room s m ([.ref (h 0)] : List Value).toArray below meth c H locs 0 0 (MQ below (QI vwCl D (tyI cA) (wSC h cA) F A) ([.ref (h 0)] : List Value).toArray s 0 0 A) (F0 m 23 ls []) := by
    intro u H locs ls hP hD hS hl hw
    unfold f_S_faultAtPc_b23 at hw
    refine lv_aload_n hx hb nd_S_faultAtPc_23 rfl (lv_at hl 0 rfl) ?_
    refine va_get (D := D) (ci := 0) (v := .ref (h 5)) (C := nR_S) (T := nT_S) (N := 9) hx hb hts nu_S hown hK hP 0 rfl rfl 2 (by decide) (hts _ gw_65) (fun _ h9 => h9) rfl nd_S_faultAtPc_24 ?_
    refine lv_aload_n hx hb nd_S_faultAtPc_27 rfl (lv_at hl 0 rfl) ?_
    refine va_get (D := D) (ci := 0) (v := .int (u 0 4)) (C := nR_S) (T := nT_S) (N := 9) hx hb hts nu_S hown hK hP 0 rfl rfl 4 (by decide) (hts _ gw_67) (fun _ h9 => h9) rfl nd_S_faultAtPc_28 ?_
    refine va_putN (D := D) (ci := 3) (v := .int (u 0 4)) (ty := .int) (C := nR_C) (T := nT_C) (N := 5) hx hb hts nu_C nt_C nto_C nn_C hown hK hP hD hS 5 rfl rfl 4 (by decide) (va_Nw.use rfl (hN _ nm_8)) (fun _ h9 => h9) rfl (by decide +kernel) rfl rfl (Nat.le_of_ble_eq_true rfl) nd_S_faultAtPc_31 (fun H locs hP hD hS => ?_)
    have hP : va_P D vwCl (wSC h cA (sU u 5 4 (u 0 4))) H := hP
    have hD : va_D A (wSC h cA (sU u 5 4 (u 0 4))) := hD
    refine lv_iconst (v := (4 : Int32)) hx hb nd_S_faultAtPc_34 (by decide) ?_
    exact my_ri (u' := sU u 5 4 (u 0 4)) (v := (4 : Int32)) hx hb hr hlocks hK hP hD hS hw nd_S_faultAtPc_35
  unfold f_S_faultAtPc at hw
  refine lv_aload_n hx hb nd_S_faultAtPc_0 rfl (lv_at hl 0 rfl) ?_
  refine va_get (D := D) (ci := 0) (v := .int (u 0 4)) (C := nR_S) (T := nT_S) (N := 9) hx hb hts nu_S hown hK hP 0 rfl rfl 4 (by decide) (hts _ gw_67) (fun _ h9 => h9) rfl nd_S_faultAtPc_1 ?_
  refine lv_iconst (v := (3 : Int32)) hx hb nd_S_faultAtPc_4 (by decide) ?_
  refine lv_iand hx hb nd_S_faultAtPc_5 ?_
  refine lv_if_ne (tgt := 23) hx hb nd_S_faultAtPc_6 (by decide) (fun h6 => ?_) (fun h6 => ?_)
  · have hw := (if_neg h6).symm.trans hw
    exact J23 u H locs ls hP hD hS (lv_sub hl [0] rfl) hw
  have hw := (if_pos h6).symm.trans hw
  refine lv_aload_n hx hb nd_S_faultAtPc_9 rfl (lv_at hl 0 rfl) ?_
  refine va_get (D := D) (ci := 0) (v := .ref (h 5)) (C := nR_S) (T := nT_S) (N := 9) hx hb hts nu_S hown hK hP 0 rfl rfl 2 (by decide) (hts _ gw_65) (fun _ h9 => h9) rfl nd_S_faultAtPc_10 ?_
  refine lv_aload_n hx hb nd_S_faultAtPc_13 rfl (lv_at hl 0 rfl) ?_
  refine va_get (D := D) (ci := 0) (v := .int (u 0 4)) (C := nR_S) (T := nT_S) (N := 9) hx hb hts nu_S hown hK hP 0 rfl rfl 4 (by decide) (hts _ gw_67) (fun _ h9 => h9) rfl nd_S_faultAtPc_14 ?_
  refine my_ci (wd := wSC h cA) (r := zb (f_C_forbids (u 0 4) u)) (u' := u) (va_runVN (As := [.int (u 0 4)]) (rest := []) ⟨hx, hb, hml, hown, hts⟩ (c_C_forbids l D h cA u (u 0 4) _ rfl _) ⟨va_cnB 1 hts (gw_in gw_155) rfl rfl rfl (hN _ nm_23) (hts _ gw_4) nh_C_forbids ⟨Nat.le_of_ble_eq_true rfl, Nat.le_of_ble_eq_true rfl⟩, (hts _ gw_154), (hts _ gw_153)⟩ (my_preV nwOk hP hK hD hN (va_recv hK hP (ci := 3) (q0 := 5) rfl rfl)) rfl rfl hl.1 rfl (lv_room (Nat.le_of_ble_eq_true rfl)) nd_S_faultAtPc_17 ⟨Nat.le_of_ble_eq_true rfl, Nat.le_of_ble_eq_true rfl⟩) hD hS hA (fun H locs hP hD hS => ?_)
  refine lv_if_eq (tgt := 36) hx hb nd_S_faultAtPc_20 (by decide) (fun h20 => ?_) (fun h20 => ?_)
  · have hw := (if_pos h20).symm.trans hw
    refine lv_aload_n hx hb nd_S_faultAtPc_36 rfl (lv_at hl 0 rfl) ?_
    refine va_get (D := D) (ci := 0) (v := .int (u 0 4)) (C := nR_S) (T := nT_S) (N := 9) hx hb hts nu_S hown hK hP 0 rfl rfl 4 (by decide) (hts _ gw_67) (fun _ h9 => h9) rfl nd_S_faultAtPc_37 ?_
    refine lv_ldc (own := nR_S) (v := (536870911 : Int32)) hx hb hown (hts _ gw_160) nd_S_faultAtPc_40 ?_
    refine lv_iand hx hb nd_S_faultAtPc_42 ?_
    refine my_cp (F := zb (f_S_isInMemory ((u 0 4) &&& (536870911 : Int32)))) (va_runS (As := [.int ((u 0 4) &&& (536870911 : Int32))]) (rest := []) ⟨hx, hb, hml, hown, hts⟩ (c_S_isInMemory l ((u 0 4) &&& (536870911 : Int32)) _ rfl) ⟨callB_of 1 hts (gw_in gw_163) rfl rfl rfl (hts _ gw_1) (hts _ gw_161) nh_S_isInMemory ⟨Nat.le_of_ble_eq_true rfl, Nat.le_of_ble_eq_true rfl⟩, (hts _ gw_162)⟩ my_preP rfl rfl hl.1 rfl (lv_room (Nat.le_of_ble_eq_true rfl)) nd_S_faultAtPc_43 ⟨Nat.le_of_ble_eq_true rfl, Nat.le_of_ble_eq_true rfl⟩) hP hS (fun H locs hP hS => ?_)
    refine lv_if_eq (tgt := 53) hx hb nd_S_faultAtPc_46 (by decide) (fun h46 => ?_) (fun h46 => ?_)
    · have hw := (if_pos h46).symm.trans hw
      refine lv_bipush (v := (6 : Int32)) hx hb nd_S_faultAtPc_53 (by decide) ?_
      exact my_ri (u' := u) (v := (6 : Int32)) hx hb hr hlocks hK hP hD hS hw nd_S_faultAtPc_55
    have hw := (if_neg h46).symm.trans hw
    refine lv_iconst (v := (-1 : Int32)) hx hb nd_S_faultAtPc_49 (by decide) ?_
    refine lv_goto (tgt := 55) hx hb nd_S_faultAtPc_50 (by decide) ?_
    exact my_ri (u' := u) (v := (-1 : Int32)) hx hb hr hlocks hK hP hD hS hw nd_S_faultAtPc_55
  have hw := (if_neg h20).symm.trans hw
  exact J23 u H locs ls hP hD hS (lv_sub hl [0] rfl) hw
set_option maxHeartbeats 4000000 in
set_option maxRecDepth 100000 in
theorem c_S_performByK (l : Launch) (D : va_G) (h : Nat → Nat) (cA : Nat → ClassId) (u : St) (a1 : Int32) (F : Int32 × St) (hw : f_S_performByK a1 u = F) : MI nwS vwCl l ny_S_performByK nw_S_performByK ({ frames := 3, cells := 0, slots := 0, locals := 71 }) D (tyI cA) (wSC h cA) ([.ref (h 0), .int a1] : List Value) u F := by
  refine my_in (gw := GW) (cc := nc_S_performByK) (maxL := 2) (ret := (some .int)) (Qc := fun A => QI vwCl D (tyI cA) (wSC h cA) F A) (by decide) rfl (Nat.le_of_ble_eq_true rfl) ?_
  intro p e s m below meth c A H locs ls hx hb hml hr hts hown hlocks hK hN hA hP hD hS hl
  have hown : s.vm.findClass nR_S = some m.cls := hown
  have hl : lv_has ls 2 [(0, .ref (h 0)), (1, .int a1)] := hl
  have J132 : ∀ (x1 : Int32) (u : St) (H : Heap) (locs : List Loc) (ls : Array Slot), va_P D vwCl (wSC h cA u) H → va_D A (wSC h cA u) → va_S A s.heap H locs → lv_has ls 2 [(0, .ref (h 0)), (1, .int x1)] → f_S_performByK_b132 x1 u = F →
      W p l e (headSpec nw_S_performByK ({ frames := 3, cells := 0, slots := 0, locals := 71 })).room s m ([.ref (h 0), .int a1] : List Value).toArray below meth c H locs 0 0 (MQ below (QI vwCl D (tyI cA) (wSC h cA) F A) ([.ref (h 0), .int a1] : List Value).toArray s 0 0 A) (F0 m 132 ls []) := by
    intro x1 u H locs ls hP hD hS hl hw
    unfold f_S_performByK_b132 at hw
    refine lv_aload_n hx hb nd_S_performByK_132 rfl (lv_at hl 0 rfl) ?_
    refine lv_iload_n hx hb nd_S_performByK_133 rfl (lv_at hl 1 rfl) ?_
    obtain ⟨r134, u134, hq134, hw⟩ := bnd_i hw
    refine my_ci (wd := wSC h cA) (r := r134) (u' := u134) (va_runV (As := [.int x1]) (rest := []) ⟨hx, hb, hml, hown, hts⟩ (c_S_performShift l D h cA u x1 (r134, u134) hq134 _) ⟨callB_of 1 hts (gw_in gw_199) rfl rfl rfl (hts _ gw_1) (hts _ gw_196) nh_S_performShift ⟨Nat.le_of_ble_eq_true rfl, Nat.le_of_ble_eq_true rfl⟩, (hts _ gw_198), (hts _ gw_197)⟩ (my_preV nwOk hP hK hD hN (va_recv hK hP (ci := 0) (q0 := 0) rfl rfl)) rfl rfl hl.1 rfl (lv_room (Nat.le_of_ble_eq_true rfl)) nd_S_performByK_134 ⟨Nat.le_of_ble_eq_true rfl, Nat.le_of_ble_eq_true rfl⟩) hD hS hA (fun H locs hP hD hS => ?_)
    exact my_ri (u' := u134) (v := r134) hx hb hr hlocks hK hP hD hS hw nd_S_performByK_137
  have J138 : ∀ (x1 : Int32) (u : St) (H : Heap) (locs : List Loc) (ls : Array Slot), va_P D vwCl (wSC h cA u) H → va_D A (wSC h cA u) → va_S A s.heap H locs → lv_has ls 2 [(0, .ref (h 0)), (1, .int x1)] → f_S_performByK_b138 x1 u = F →
      W p l e (headSpec nw_S_performByK ({ frames := 3, cells := 0, slots := 0, locals := 71 })).room s m ([.ref (h 0), .int a1] : List Value).toArray below meth c H locs 0 0 (MQ below (QI vwCl D (tyI cA) (wSC h cA) F A) ([.ref (h 0), .int a1] : List Value).toArray s 0 0 A) (F0 m 138 ls []) := by
    intro x1 u H locs ls hP hD hS hl hw
    unfold f_S_performByK_b138 at hw
    refine lv_aload_n hx hb nd_S_performByK_138 rfl (lv_at hl 0 rfl) ?_
    refine lv_iload_n hx hb nd_S_performByK_139 rfl (lv_at hl 1 rfl) ?_
    obtain ⟨r140, u140, hq140, hw⟩ := bnd_i hw
    refine my_ci (wd := wSC h cA) (r := r140) (u' := u140) (va_runV (As := [.int x1]) (rest := []) ⟨hx, hb, hml, hown, hts⟩ (c_S_performJumpToS l D h cA u x1 (r140, u140) hq140 _) ⟨callB_of 1 hts (gw_in gw_227) rfl rfl rfl (hts _ gw_1) (hts _ gw_224) nh_S_performJumpToS ⟨Nat.le_of_ble_eq_true rfl, Nat.le_of_ble_eq_true rfl⟩, (hts _ gw_226), (hts _ gw_225)⟩ (my_preV nwOk hP hK hD hN (va_recv hK hP (ci := 0) (q0 := 0) rfl rfl)) rfl rfl hl.1 rfl (lv_room (Nat.le_of_ble_eq_true rfl)) nd_S_performByK_140 ⟨Nat.le_of_ble_eq_true rfl, Nat.le_of_ble_eq_true rfl⟩) hD hS hA (fun H locs hP hD hS => ?_)
    exact my_ri (u' := u140) (v := r140) hx hb hr hlocks hK hP hD hS hw nd_S_performByK_143
  have J150 : ∀ (x1 : Int32) (u : St) (H : Heap) (locs : List Loc) (ls : Array Slot), va_P D vwCl (wSC h cA u) H → va_D A (wSC h cA u) → va_S A s.heap H locs → lv_has ls 2 [(0, .ref (h 0)), (1, .int x1)] → f_S_performByK_b150 x1 u = F →
      W p l e (headSpec nw_S_performByK ({ frames := 3, cells := 0, slots := 0, locals := 71 })).room s m ([.ref (h 0), .int a1] : List Value).toArray below meth c H locs 0 0 (MQ below (QI vwCl D (tyI cA) (wSC h cA) F A) ([.ref (h 0), .int a1] : List Value).toArray s 0 0 A) (F0 m 150 ls []) := by
    intro x1 u H locs ls hP hD hS hl hw
    unfold f_S_performByK_b150 at hw
    refine lv_aload_n hx hb nd_S_performByK_150 rfl (lv_at hl 0 rfl) ?_
    refine lv_iload_n hx hb nd_S_performByK_151 rfl (lv_at hl 1 rfl) ?_
    obtain ⟨r152, u152, hq152, hw⟩ := bnd_i hw
    refine my_ci (wd := wSC h cA) (r := r152) (u' := u152) (va_runV (As := [.int x1]) (rest := []) ⟨hx, hb, hml, hown, hts⟩ (c_S_performMove l D h cA u x1 (r152, u152) hq152 _) ⟨callB_of 1 hts (gw_in gw_235) rfl rfl rfl (hts _ gw_1) (hts _ gw_232) nh_S_performMove ⟨Nat.le_of_ble_eq_true rfl, Nat.le_of_ble_eq_true rfl⟩, (hts _ gw_234), (hts _ gw_233)⟩ (my_preV nwOk hP hK hD hN (va_recv hK hP (ci := 0) (q0 := 0) rfl rfl)) rfl rfl hl.1 rfl (lv_room (Nat.le_of_ble_eq_true rfl)) nd_S_performByK_152 ⟨Nat.le_of_ble_eq_true rfl, Nat.le_of_ble_eq_true rfl⟩) hD hS hA (fun H locs hP hD hS => ?_)
    exact my_ri (u' := u152) (v := r152) hx hb hr hlocks hK hP hD hS hw nd_S_performByK_155
  have J156 : ∀ (x1 : Int32) (u : St) (H : Heap) (locs : List Loc) (ls : Array Slot), va_P D vwCl (wSC h cA u) H → va_D A (wSC h cA u) → va_S A s.heap H locs → lv_has ls 2 [(0, .ref (h 0)), (1, .int x1)] → f_S_performByK_b156 x1 u = F →
      W p l e (headSpec nw_S_performByK ({ frames := 3, cells := 0, slots := 0, locals := 71 })).room s m ([.ref (h 0), .int a1] : List Value).toArray below meth c H locs 0 0 (MQ below (QI vwCl D (tyI cA) (wSC h cA) F A) ([.ref (h 0), .int a1] : List Value).toArray s 0 0 A) (F0 m 156 ls []) := by
    intro x1 u H locs ls hP hD hS hl hw
    unfold f_S_performByK_b156 at hw
    refine lv_aload_n hx hb nd_S_performByK_156 rfl (lv_at hl 0 rfl) ?_
    refine lv_iload_n hx hb nd_S_performByK_157 rfl (lv_at hl 1 rfl) ?_
    obtain ⟨r158, u158, hq158, hw⟩ := bnd_i hw
    refine my_ci (wd := wSC h cA) (r := r158) (u' := u158) (va_runV (As := [.int x1]) (rest := []) ⟨hx, hb, hml, hown, hts⟩ (c_S_performProduct l D h cA u x1 (r158, u158) hq158 _) ⟨callB_of 1 hts (gw_in gw_239) rfl rfl rfl (hts _ gw_1) (hts _ gw_236) nh_S_performProduct ⟨Nat.le_of_ble_eq_true rfl, Nat.le_of_ble_eq_true rfl⟩, (hts _ gw_238), (hts _ gw_237)⟩ (my_preV nwOk hP hK hD hN (va_recv hK hP (ci := 0) (q0 := 0) rfl rfl)) rfl rfl hl.1 rfl (lv_room (Nat.le_of_ble_eq_true rfl)) nd_S_performByK_158 ⟨Nat.le_of_ble_eq_true rfl, Nat.le_of_ble_eq_true rfl⟩) hD hS hA (fun H locs hP hD hS => ?_)
    exact my_ri (u' := u158) (v := r158) hx hb hr hlocks hK hP hD hS hw nd_S_performByK_161
  have J162 : ∀ (x1 : Int32) (u : St) (H : Heap) (locs : List Loc) (ls : Array Slot), va_P D vwCl (wSC h cA u) H → va_D A (wSC h cA u) → va_S A s.heap H locs → lv_has ls 2 [(0, .ref (h 0)), (1, .int x1)] → f_S_performByK_b162 x1 u = F →
      W p l e (headSpec nw_S_performByK ({ frames := 3, cells := 0, slots := 0, locals := 71 })).room s m ([.ref (h 0), .int a1] : List Value).toArray below meth c H locs 0 0 (MQ below (QI vwCl D (tyI cA) (wSC h cA) F A) ([.ref (h 0), .int a1] : List Value).toArray s 0 0 A) (F0 m 162 ls []) := by
    intro x1 u H locs ls hP hD hS hl hw
    unfold f_S_performByK_b162 at hw
    refine lv_aload_n hx hb nd_S_performByK_162 rfl (lv_at hl 0 rfl) ?_
    refine lv_iload_n hx hb nd_S_performByK_163 rfl (lv_at hl 1 rfl) ?_
    obtain ⟨r164, u164, hq164, hw⟩ := bnd_i hw
    refine my_ci (wd := wSC h cA) (r := r164) (u' := u164) (va_runV (As := [.int x1]) (rest := []) ⟨hx, hb, hml, hown, hts⟩ (c_S_performOnTwo l D h cA u x1 (r164, u164) hq164 _) ⟨callB_of 1 hts (gw_in gw_261) rfl rfl rfl (hts _ gw_1) (hts _ gw_258) nh_S_performOnTwo ⟨Nat.le_of_ble_eq_true rfl, Nat.le_of_ble_eq_true rfl⟩, (hts _ gw_260), (hts _ gw_259)⟩ (my_preV nwOk hP hK hD hN (va_recv hK hP (ci := 0) (q0 := 0) rfl rfl)) rfl rfl hl.1 rfl (lv_room (Nat.le_of_ble_eq_true rfl)) nd_S_performByK_164 ⟨Nat.le_of_ble_eq_true rfl, Nat.le_of_ble_eq_true rfl⟩) hD hS hA (fun H locs hP hD hS => ?_)
    exact my_ri (u' := u164) (v := r164) hx hb hr hlocks hK hP hD hS hw nd_S_performByK_167
  unfold f_S_performByK at hw
  refine lv_iload_n hx hb nd_S_performByK_0 rfl (lv_at hl 1 rfl) ?_
  refine my_cp (F := f_S_numberK a1) (va_runS (As := [.int a1]) (rest := []) ⟨hx, hb, hml, hown, hts⟩ (c_S_numberK l a1 _ rfl) ⟨callB_of 1 hts (gw_in gw_185) rfl rfl rfl (hts _ gw_1) (hts _ gw_183) nh_S_numberK ⟨Nat.le_of_ble_eq_true rfl, Nat.le_of_ble_eq_true rfl⟩, (hts _ gw_184)⟩ my_preP rfl rfl hl.1 rfl (lv_room (Nat.le_of_ble_eq_true rfl)) nd_S_performByK_1 ⟨Nat.le_of_ble_eq_true rfl, Nat.le_of_ble_eq_true rfl⟩) hP hS (fun H locs hP hS => ?_)
  rcases my_em (x := f_S_numberK a1) (0 : Int32) with h4_0 | h4_0
  · have hw := (if_pos h4_0).symm.trans hw
    refine my_swi (tgt := 132) hx hb nd_S_performByK_4 h4_0 (by decide) (by decide) rfl (by decide) ?_
    exact J132 a1 u H locs ls hP hD hS (lv_sub hl [0, 1] rfl) hw
  have hw := (if_neg h4_0).symm.trans hw
  rcases my_em (x := f_S_numberK a1) (2 : Int32) with h4_2 | h4_2
  · have hw := (if_pos h4_2).symm.trans hw
    refine my_swi (tgt := 132) hx hb nd_S_performByK_4 h4_2 (by decide) (by decide) rfl (by decide) ?_
    exact J132 a1 u H locs ls hP hD hS (lv_sub hl [0, 1] rfl) hw
  have hw := (if_neg h4_2).symm.trans hw
  rcases my_em (x := f_S_numberK a1) (3 : Int32) with h4_3 | h4_3
  · have hw := (if_pos h4_3).symm.trans hw
    refine my_swi (tgt := 132) hx hb nd_S_performByK_4 h4_3 (by decide) (by decide) rfl (by decide) ?_
    exact J132 a1 u H locs ls hP hD hS (lv_sub hl [0, 1] rfl) hw
  have hw := (if_neg h4_3).symm.trans hw
  rcases my_em (x := f_S_numberK a1) (4 : Int32) with h4_4 | h4_4
  · have hw := (if_pos h4_4).symm.trans hw
    refine my_swi (tgt := 132) hx hb nd_S_performByK_4 h4_4 (by decide) (by decide) rfl (by decide) ?_
    exact J132 a1 u H locs ls hP hD hS (lv_sub hl [0, 1] rfl) hw
  have hw := (if_neg h4_4).symm.trans hw
  rcases my_em (x := f_S_numberK a1) (6 : Int32) with h4_6 | h4_6
  · have hw := (if_pos h4_6).symm.trans hw
    refine my_swi (tgt := 132) hx hb nd_S_performByK_4 h4_6 (by decide) (by decide) rfl (by decide) ?_
    exact J132 a1 u H locs ls hP hD hS (lv_sub hl [0, 1] rfl) hw
  have hw := (if_neg h4_6).symm.trans hw
  rcases my_em (x := f_S_numberK a1) (7 : Int32) with h4_7 | h4_7
  · have hw := (if_pos h4_7).symm.trans hw
    refine my_swi (tgt := 132) hx hb nd_S_performByK_4 h4_7 (by decide) (by decide) rfl (by decide) ?_
    exact J132 a1 u H locs ls hP hD hS (lv_sub hl [0, 1] rfl) hw
  have hw := (if_neg h4_7).symm.trans hw
  rcases my_em (x := f_S_numberK a1) (8 : Int32) with h4_8 | h4_8
  · have hw := (if_pos h4_8).symm.trans hw
    refine my_swi (tgt := 138) hx hb nd_S_performByK_4 h4_8 (by decide) (by decide) rfl (by decide) ?_
    exact J138 a1 u H locs ls hP hD hS (lv_sub hl [0, 1] rfl) hw
  have hw := (if_neg h4_8).symm.trans hw
  rcases my_em (x := f_S_numberK a1) (9 : Int32) with h4_9 | h4_9
  · have hw := (if_pos h4_9).symm.trans hw
    refine my_swi (tgt := 138) hx hb nd_S_performByK_4 h4_9 (by decide) (by decide) rfl (by decide) ?_
    exact J138 a1 u H locs ls hP hD hS (lv_sub hl [0, 1] rfl) hw
  have hw := (if_neg h4_9).symm.trans hw
  rcases my_em (x := f_S_numberK a1) (12 : Int32) with h4_12 | h4_12
  · have hw := (if_pos h4_12).symm.trans hw
    refine my_swi (tgt := 144) hx hb nd_S_performByK_4 h4_12 (by decide) (by decide) rfl (by decide) ?_
    refine lv_bipush (v := (8 : Int32)) hx hb nd_S_performByK_144 (by decide) ?_
    exact my_ri (u' := u) (v := (8 : Int32)) hx hb hr hlocks hK hP hD hS hw nd_S_performByK_146
  have hw := (if_neg h4_12).symm.trans hw
  rcases my_em (x := f_S_numberK a1) (13 : Int32) with h4_13 | h4_13
  · have hw := (if_pos h4_13).symm.trans hw
    refine my_swi (tgt := 147) hx hb nd_S_performByK_4 h4_13 (by decide) (by decide) rfl (by decide) ?_
    refine lv_bipush (v := (9 : Int32)) hx hb nd_S_performByK_147 (by decide) ?_
    exact my_ri (u' := u) (v := (9 : Int32)) hx hb hr hlocks hK hP hD hS hw nd_S_performByK_149
  have hw := (if_neg h4_13).symm.trans hw
  rcases my_em (x := f_S_numberK a1) (16 : Int32) with h4_16 | h4_16
  · have hw := (if_pos h4_16).symm.trans hw
    refine my_swi (tgt := 150) hx hb nd_S_performByK_4 h4_16 (by decide) (by decide) rfl (by decide) ?_
    exact J150 a1 u H locs ls hP hD hS (lv_sub hl [0, 1] rfl) hw
  have hw := (if_neg h4_16).symm.trans hw
  rcases my_em (x := f_S_numberK a1) (17 : Int32) with h4_17 | h4_17
  · have hw := (if_pos h4_17).symm.trans hw
    refine my_swi (tgt := 150) hx hb nd_S_performByK_4 h4_17 (by decide) (by decide) rfl (by decide) ?_
    exact J150 a1 u H locs ls hP hD hS (lv_sub hl [0, 1] rfl) hw
  have hw := (if_neg h4_17).symm.trans hw
  rcases my_em (x := f_S_numberK a1) (18 : Int32) with h4_18 | h4_18
  · have hw := (if_pos h4_18).symm.trans hw
    refine my_swi (tgt := 150) hx hb nd_S_performByK_4 h4_18 (by decide) (by decide) rfl (by decide) ?_
    exact J150 a1 u H locs ls hP hD hS (lv_sub hl [0, 1] rfl) hw
  have hw := (if_neg h4_18).symm.trans hw
  rcases my_em (x := f_S_numberK a1) (19 : Int32) with h4_19 | h4_19
  · have hw := (if_pos h4_19).symm.trans hw
    refine my_swi (tgt := 150) hx hb nd_S_performByK_4 h4_19 (by decide) (by decide) rfl (by decide) ?_
    exact J150 a1 u H locs ls hP hD hS (lv_sub hl [0, 1] rfl) hw
  have hw := (if_neg h4_19).symm.trans hw
  rcases my_em (x := f_S_numberK a1) (24 : Int32) with h4_24 | h4_24
  · have hw := (if_pos h4_24).symm.trans hw
    refine my_swi (tgt := 156) hx hb nd_S_performByK_4 h4_24 (by decide) (by decide) rfl (by decide) ?_
    exact J156 a1 u H locs ls hP hD hS (lv_sub hl [0, 1] rfl) hw
  have hw := (if_neg h4_24).symm.trans hw
  rcases my_em (x := f_S_numberK a1) (25 : Int32) with h4_25 | h4_25
  · have hw := (if_pos h4_25).symm.trans hw
    refine my_swi (tgt := 156) hx hb nd_S_performByK_4 h4_25 (by decide) (by decide) rfl (by decide) ?_
    exact J156 a1 u H locs ls hP hD hS (lv_sub hl [0, 1] rfl) hw
  have hw := (if_neg h4_25).symm.trans hw
  rcases my_em (x := f_S_numberK a1) (26 : Int32) with h4_26 | h4_26
  · have hw := (if_pos h4_26).symm.trans hw
    refine my_swi (tgt := 156) hx hb nd_S_performByK_4 h4_26 (by decide) (by decide) rfl (by decide) ?_
    exact J156 a1 u H locs ls hP hD hS (lv_sub hl [0, 1] rfl) hw
  have hw := (if_neg h4_26).symm.trans hw
  rcases my_em (x := f_S_numberK a1) (27 : Int32) with h4_27 | h4_27
  · have hw := (if_pos h4_27).symm.trans hw
    refine my_swi (tgt := 156) hx hb nd_S_performByK_4 h4_27 (by decide) (by decide) rfl (by decide) ?_
    exact J156 a1 u H locs ls hP hD hS (lv_sub hl [0, 1] rfl) hw
  have hw := (if_neg h4_27).symm.trans hw
  refine my_swd (tgt := 162) hx hb nd_S_performByK_4 (my_nec h4_0 (my_nec h4_2 (my_nec h4_3 (my_nec h4_4 (my_nec h4_6 (my_nec h4_7 (my_nec h4_8 (my_nec h4_9 (my_nec h4_12 (my_nec h4_13 (my_nec h4_16 (my_nec h4_17 (my_nec h4_18 (my_nec h4_19 (my_nec h4_24 (my_nec h4_25 (my_nec h4_26 (my_nec h4_27 my_nen)))))))))))))))))) (by decide +kernel) (by decide) ?_
  exact J162 a1 u H locs ls hP hD hS (lv_sub hl [0, 1] rfl) hw
set_option maxHeartbeats 4000000 in
set_option maxRecDepth 100000 in
theorem c_S_perform (l : Launch) (D : va_G) (h : Nat → Nat) (cA : Nat → ClassId) (u : St) (a1 : Int32) (F : Int32 × St) (hw : f_S_perform a1 u = F) : MI nwS vwCl l ny_S_perform nw_S_perform ({ frames := 4, cells := 0, slots := 0, locals := 92 }) D (tyI cA) (wSC h cA) ([.ref (h 0), .int a1] : List Value) u F := by
  refine my_in (gw := GW) (cc := nc_S_perform) (maxL := 2) (ret := (some .int)) (Qc := fun A => QI vwCl D (tyI cA) (wSC h cA) F A) (by decide) rfl (Nat.le_of_ble_eq_true rfl) ?_
  intro p e s m below meth c A H locs ls hx hb hml hr hts hown hlocks hK hN hA hP hD hS hl
  have hown : s.vm.findClass nR_S = some m.cls := hown
  have hl : lv_has ls 2 [(0, .ref (h 0)), (1, .int a1)] := hl
  have J248 : ∀ (x1 : Int32) (u : St) (H : Heap) (locs : List Loc) (ls : Array Slot), va_P D vwCl (wSC h cA u) H → va_D A (wSC h cA u) → va_S A s.heap H locs → lv_has ls 2 [(0, .ref (h 0)), (1, .int x1)] → f_S_perform_b248 x1 u = F →
      W p l e (headSpec nw_S_perform ({ frames := 4, cells := 0, slots := 0, locals := 92 })).room s m ([.ref (h 0), .int a1] : List Value).toArray below meth c H locs 0 0 (MQ below (QI vwCl D (tyI cA) (wSC h cA) F A) ([.ref (h 0), .int a1] : List Value).toArray s 0 0 A) (F0 m 248 ls []) := by
    intro x1 u H locs ls hP hD hS hl hw
    unfold f_S_perform_b248 at hw
    refine lv_aload_n hx hb nd_S_perform_248 rfl (lv_at hl 0 rfl) ?_
    refine lv_iload_n hx hb nd_S_perform_249 rfl (lv_at hl 1 rfl) ?_
    obtain ⟨r250, u250, hq250, hw⟩ := bnd_i hw
    refine my_ci (wd := wSC h cA) (r := r250) (u' := u250) (va_runV (As := [.int x1]) (rest := []) ⟨hx, hb, hml, hown, hts⟩ (c_S_performJump l D h cA u x1 (r250, u250) hq250 _) ⟨callB_of 1 hts (gw_in gw_284) rfl rfl rfl (hts _ gw_1) (hts _ gw_281) nh_S_performJump ⟨Nat.le_of_ble_eq_true rfl, Nat.le_of_ble_eq_true rfl⟩, (hts _ gw_283), (hts _ gw_282)⟩ (my_preV nwOk hP hK hD hN (va_recv hK hP (ci := 0) (q0 := 0) rfl rfl)) rfl rfl hl.1 rfl (lv_room (Nat.le_of_ble_eq_true rfl)) nd_S_perform_250 ⟨Nat.le_of_ble_eq_true rfl, Nat.le_of_ble_eq_true rfl⟩) hD hS hA (fun H locs hP hD hS => ?_)
    exact my_ri (u' := u250) (v := r250) hx hb hr hlocks hK hP hD hS hw nd_S_perform_253
  have J254 : ∀ (x1 : Int32) (u : St) (H : Heap) (locs : List Loc) (ls : Array Slot), va_P D vwCl (wSC h cA u) H → va_D A (wSC h cA u) → va_S A s.heap H locs → lv_has ls 2 [(0, .ref (h 0)), (1, .int x1)] → f_S_perform_b254 x1 u = F →
      W p l e (headSpec nw_S_perform ({ frames := 4, cells := 0, slots := 0, locals := 92 })).room s m ([.ref (h 0), .int a1] : List Value).toArray below meth c H locs 0 0 (MQ below (QI vwCl D (tyI cA) (wSC h cA) F A) ([.ref (h 0), .int a1] : List Value).toArray s 0 0 A) (F0 m 254 ls []) := by
    intro x1 u H locs ls hP hD hS hl hw
    unfold f_S_perform_b254 at hw
    refine lv_aload_n hx hb nd_S_perform_254 rfl (lv_at hl 0 rfl) ?_
    refine lv_iload_n hx hb nd_S_perform_255 rfl (lv_at hl 1 rfl) ?_
    obtain ⟨r256, u256, hq256, hw⟩ := bnd_i hw
    refine my_ci (wd := wSC h cA) (r := r256) (u' := u256) (va_runV (As := [.int x1]) (rest := []) ⟨hx, hb, hml, hown, hts⟩ (c_S_performBranch l D h cA u x1 (r256, u256) hq256 _) ⟨callB_of 1 hts (gw_in gw_294) rfl rfl rfl (hts _ gw_1) (hts _ gw_291) nh_S_performBranch ⟨Nat.le_of_ble_eq_true rfl, Nat.le_of_ble_eq_true rfl⟩, (hts _ gw_293), (hts _ gw_292)⟩ (my_preV nwOk hP hK hD hN (va_recv hK hP (ci := 0) (q0 := 0) rfl rfl)) rfl rfl hl.1 rfl (lv_room (Nat.le_of_ble_eq_true rfl)) nd_S_perform_256 ⟨Nat.le_of_ble_eq_true rfl, Nat.le_of_ble_eq_true rfl⟩) hD hS hA (fun H locs hP hD hS => ?_)
    exact my_ri (u' := u256) (v := r256) hx hb hr hlocks hK hP hD hS hw nd_S_perform_259
  have J260 : ∀ (x1 : Int32) (u : St) (H : Heap) (locs : List Loc) (ls : Array Slot), va_P D vwCl (wSC h cA u) H → va_D A (wSC h cA u) → va_S A s.heap H locs → lv_has ls 2 [(0, .ref (h 0)), (1, .int x1)] → f_S_perform_b260 x1 u = F →
      W p l e (headSpec nw_S_perform ({ frames := 4, cells := 0, slots := 0, locals := 92 })).room s m ([.ref (h 0), .int a1] : List Value).toArray below meth c H locs 0 0 (MQ below (QI vwCl D (tyI cA) (wSC h cA) F A) ([.ref (h 0), .int a1] : List Value).toArray s 0 0 A) (F0 m 260 ls []) := by
    intro x1 u H locs ls hP hD hS hl hw
    unfold f_S_perform_b260 at hw
    refine lv_aload_n hx hb nd_S_perform_260 rfl (lv_at hl 0 rfl) ?_
    refine lv_iload_n hx hb nd_S_perform_261 rfl (lv_at hl 1 rfl) ?_
    obtain ⟨r262, u262, hq262, hw⟩ := bnd_i hw
    refine my_ci (wd := wSC h cA) (r := r262) (u' := u262) (va_runV (As := [.int x1]) (rest := []) ⟨hx, hb, hml, hown, hts⟩ (c_S_performWithNumber l D h cA u x1 (r262, u262) hq262 _) ⟨callB_of 1 hts (gw_in gw_298) rfl rfl rfl (hts _ gw_1) (hts _ gw_295) nh_S_performWithNumber ⟨Nat.le_of_ble_eq_true rfl, Nat.le_of_ble_eq_true rfl⟩, (hts _ gw_297), (hts _ gw_296)⟩ (my_preV nwOk hP hK hD hN (va_recv hK hP (ci := 0) (q0 := 0) rfl rfl)) rfl rfl hl.1 rfl (lv_room (Nat.le_of_ble_eq_true rfl)) nd_S_perform_262 ⟨Nat.le_of_ble_eq_true rfl, Nat.le_of_ble_eq_true rfl⟩) hD hS hA (fun H locs hP hD hS => ?_)
    exact my_ri (u' := u262) (v := r262) hx hb hr hlocks hK hP hD hS hw nd_S_perform_265
  have J272 : ∀ (x1 : Int32) (u : St) (H : Heap) (locs : List Loc) (ls : Array Slot), va_P D vwCl (wSC h cA u) H → va_D A (wSC h cA u) → va_S A s.heap H locs → lv_has ls 2 [(0, .ref (h 0)), (1, .int x1)] → f_S_perform_b272 x1 u = F →
      W p l e (headSpec nw_S_perform ({ frames := 4, cells := 0, slots := 0, locals := 92 })).room s m ([.ref (h 0), .int a1] : List Value).toArray below meth c H locs 0 0 (MQ below (QI vwCl D (tyI cA) (wSC h cA) F A) ([.ref (h 0), .int a1] : List Value).toArray s 0 0 A) (F0 m 272 ls []) := by
    intro x1 u H locs ls hP hD hS hl hw
    unfold f_S_perform_b272 at hw
    refine lv_aload_n hx hb nd_S_perform_272 rfl (lv_at hl 0 rfl) ?_
    refine lv_iload_n hx hb nd_S_perform_273 rfl (lv_at hl 1 rfl) ?_
    obtain ⟨r274, u274, hq274, hw⟩ := bnd_i hw
    refine my_ci (wd := wSC h cA) (r := r274) (u' := u274) (va_runV (As := [.int x1]) (rest := []) ⟨hx, hb, hml, hown, hts⟩ (c_S_performLoad l D h cA u x1 (r274, u274) hq274 _) ⟨callB_of 1 hts (gw_in gw_320) rfl rfl rfl (hts _ gw_1) (hts _ gw_317) nh_S_performLoad ⟨Nat.le_of_ble_eq_true rfl, Nat.le_of_ble_eq_true rfl⟩, (hts _ gw_319), (hts _ gw_318)⟩ (my_preV nwOk hP hK hD hN (va_recv hK hP (ci := 0) (q0 := 0) rfl rfl)) rfl rfl hl.1 rfl (lv_room (Nat.le_of_ble_eq_true rfl)) nd_S_perform_274 ⟨Nat.le_of_ble_eq_true rfl, Nat.le_of_ble_eq_true rfl⟩) hD hS hA (fun H locs hP hD hS => ?_)
    exact my_ri (u' := u274) (v := r274) hx hb hr hlocks hK hP hD hS hw nd_S_perform_277
  have J278 : ∀ (x1 : Int32) (u : St) (H : Heap) (locs : List Loc) (ls : Array Slot), va_P D vwCl (wSC h cA u) H → va_D A (wSC h cA u) → va_S A s.heap H locs → lv_has ls 2 [(0, .ref (h 0)), (1, .int x1)] → f_S_perform_b278 x1 u = F →
      W p l e (headSpec nw_S_perform ({ frames := 4, cells := 0, slots := 0, locals := 92 })).room s m ([.ref (h 0), .int a1] : List Value).toArray below meth c H locs 0 0 (MQ below (QI vwCl D (tyI cA) (wSC h cA) F A) ([.ref (h 0), .int a1] : List Value).toArray s 0 0 A) (F0 m 278 ls []) := by
    intro x1 u H locs ls hP hD hS hl hw
    unfold f_S_perform_b278 at hw
    refine lv_aload_n hx hb nd_S_perform_278 rfl (lv_at hl 0 rfl) ?_
    refine lv_iload_n hx hb nd_S_perform_279 rfl (lv_at hl 1 rfl) ?_
    obtain ⟨r280, u280, hq280, hw⟩ := bnd_i hw
    refine my_ci (wd := wSC h cA) (r := r280) (u' := u280) (va_runV (As := [.int x1]) (rest := []) ⟨hx, hb, hml, hown, hts⟩ (c_S_performStore l D h cA u x1 (r280, u280) hq280 _) ⟨callB_of 1 hts (gw_in gw_349) rfl rfl rfl (hts _ gw_1) (hts _ gw_346) nh_S_performStore ⟨Nat.le_of_ble_eq_true rfl, Nat.le_of_ble_eq_true rfl⟩, (hts _ gw_348), (hts _ gw_347)⟩ (my_preV nwOk hP hK hD hN (va_recv hK hP (ci := 0) (q0 := 0) rfl rfl)) rfl rfl hl.1 rfl (lv_room (Nat.le_of_ble_eq_true rfl)) nd_S_perform_280 ⟨Nat.le_of_ble_eq_true rfl, Nat.le_of_ble_eq_true rfl⟩) hD hS hA (fun H locs hP hD hS => ?_)
    exact my_ri (u' := u280) (v := r280) hx hb hr hlocks hK hP hD hS hw nd_S_perform_283
  have J30 : ∀ (x1 : Int32) (u : St) (H : Heap) (locs : List Loc) (ls : Array Slot), va_P D vwCl (wSC h cA u) H → va_D A (wSC h cA u) → va_S A s.heap H locs → lv_has ls 2 [(0, .ref (h 0)), (1, .int x1)] → f_S_perform_b30 x1 u = F →
      W p l e (headSpec nw_S_perform ({ frames := 4, cells := 0, slots := 0, locals := 92 })).room s m ([.ref (h 0), .int a1] : List Value).toArray below meth c H locs 0 0 (MQ below (QI vwCl D (tyI cA) (wSC h cA) F A) ([.ref (h 0), .int a1] : List Value).toArray s 0 0 A) (F0 m 30 ls []) := by
    intro x1 u H locs ls hP hD hS hl hw
    unfold f_S_perform_b30 at hw
    refine lv_iload_n hx hb nd_S_perform_30 rfl (lv_at hl 1 rfl) ?_
    refine my_cp (F := f_S_orderOf x1) (va_runS (As := [.int x1]) (rest := []) ⟨hx, hb, hml, hown, hts⟩ (c_S_orderOf l x1 _ rfl) ⟨callB_of 1 hts (gw_in gw_182) rfl rfl rfl (hts _ gw_1) (hts _ gw_180) nh_S_orderOf ⟨Nat.le_of_ble_eq_true rfl, Nat.le_of_ble_eq_true rfl⟩, (hts _ gw_181)⟩ my_preP rfl rfl hl.1 rfl (lv_room (Nat.le_of_ble_eq_true rfl)) nd_S_perform_31 ⟨Nat.le_of_ble_eq_true rfl, Nat.le_of_ble_eq_true rfl⟩) hP hS (fun H locs hP hS => ?_)
    rcases my_em (x := f_S_orderOf x1) (0 : Int32) with h34_0 | h34_0
    · have hw := (if_pos h34_0).symm.trans hw
      refine my_swi (tgt := 236) hx hb nd_S_perform_34 h34_0 (by decide) (by decide) rfl (by decide) ?_
      refine lv_aload_n hx hb nd_S_perform_236 rfl (lv_at hl 0 rfl) ?_
      refine lv_iload_n hx hb nd_S_perform_237 rfl (lv_at hl 1 rfl) ?_
      obtain ⟨r238, u238, hq238, hw⟩ := bnd_i hw
      refine my_ci (wd := wSC h cA) (r := r238) (u' := u238) (va_runV (As := [.int x1]) (rest := []) ⟨hx, hb, hml, hown, hts⟩ (c_S_performByK l D h cA u x1 (r238, u238) hq238 _) ⟨callB_of 1 hts (gw_in gw_195) rfl rfl rfl (hts _ gw_1) (hts _ gw_192) nh_S_performByK ⟨Nat.le_of_ble_eq_true rfl, Nat.le_of_ble_eq_true rfl⟩, (hts _ gw_194), (hts _ gw_193)⟩ (my_preV nwOk hP hK hD hN (va_recv hK hP (ci := 0) (q0 := 0) rfl rfl)) rfl rfl hl.1 rfl (lv_room (Nat.le_of_ble_eq_true rfl)) nd_S_perform_238 ⟨Nat.le_of_ble_eq_true rfl, Nat.le_of_ble_eq_true rfl⟩) hD hS hA (fun H locs hP hD hS => ?_)
      exact my_ri (u' := u238) (v := r238) hx hb hr hlocks hK hP hD hS hw nd_S_perform_241
    have hw := (if_neg h34_0).symm.trans hw
    rcases my_em (x := f_S_orderOf x1) (1 : Int32) with h34_1 | h34_1
    · have hw := (if_pos h34_1).symm.trans hw
      refine my_swi (tgt := 242) hx hb nd_S_perform_34 h34_1 (by decide) (by decide) rfl (by decide) ?_
      refine lv_aload_n hx hb nd_S_perform_242 rfl (lv_at hl 0 rfl) ?_
      refine lv_iload_n hx hb nd_S_perform_243 rfl (lv_at hl 1 rfl) ?_
      obtain ⟨r244, u244, hq244, hw⟩ := bnd_i hw
      refine my_ci (wd := wSC h cA) (r := r244) (u' := u244) (va_runV (As := [.int x1]) (rest := []) ⟨hx, hb, hml, hown, hts⟩ (c_S_performBranchBySign l D h cA u x1 (r244, u244) hq244 _) ⟨callB_of 1 hts (gw_in gw_273) rfl rfl rfl (hts _ gw_1) (hts _ gw_270) nh_S_performBranchBySign ⟨Nat.le_of_ble_eq_true rfl, Nat.le_of_ble_eq_true rfl⟩, (hts _ gw_272), (hts _ gw_271)⟩ (my_preV nwOk hP hK hD hN (va_recv hK hP (ci := 0) (q0 := 0) rfl rfl)) rfl rfl hl.1 rfl (lv_room (Nat.le_of_ble_eq_true rfl)) nd_S_perform_244 ⟨Nat.le_of_ble_eq_true rfl, Nat.le_of_ble_eq_true rfl⟩) hD hS hA (fun H locs hP hD hS => ?_)
      exact my_ri (u' := u244) (v := r244) hx hb hr hlocks hK hP hD hS hw nd_S_perform_247
    have hw := (if_neg h34_1).symm.trans hw
    rcases my_em (x := f_S_orderOf x1) (2 : Int32) with h34_2 | h34_2
    · have hw := (if_pos h34_2).symm.trans hw
      refine my_swi (tgt := 248) hx hb nd_S_perform_34 h34_2 (by decide) (by decide) rfl (by decide) ?_
      exact J248 x1 u H locs ls hP hD hS (lv_sub hl [0, 1] rfl) hw
    have hw := (if_neg h34_2).symm.trans hw
    rcases my_em (x := f_S_orderOf x1) (3 : Int32) with h34_3 | h34_3
    · have hw := (if_pos h34_3).symm.trans hw
      refine my_swi (tgt := 248) hx hb nd_S_perform_34 h34_3 (by decide) (by decide) rfl (by decide) ?_
      exact J248 x1 u H locs ls hP hD hS (lv_sub hl [0, 1] rfl) hw
    have hw := (if_neg h34_3).symm.trans hw
    rcases my_em (x := f_S_orderOf x1) (4 : Int32) with h34_4 | h34_4
    · have hw := (if_pos h34_4).symm.trans hw
      refine my_swi (tgt := 254) hx hb nd_S_perform_34 h34_4 (by decide) (by decide) rfl (by decide) ?_
      exact J254 x1 u H locs ls hP hD hS (lv_sub hl [0, 1] rfl) hw
    have hw := (if_neg h34_4).symm.trans hw
    rcases my_em (x := f_S_orderOf x1) (5 : Int32) with h34_5 | h34_5
    · have hw := (if_pos h34_5).symm.trans hw
      refine my_swi (tgt := 254) hx hb nd_S_perform_34 h34_5 (by decide) (by decide) rfl (by decide) ?_
      exact J254 x1 u H locs ls hP hD hS (lv_sub hl [0, 1] rfl) hw
    have hw := (if_neg h34_5).symm.trans hw
    rcases my_em (x := f_S_orderOf x1) (6 : Int32) with h34_6 | h34_6
    · have hw := (if_pos h34_6).symm.trans hw
      refine my_swi (tgt := 254) hx hb nd_S_perform_34 h34_6 (by decide) (by decide) rfl (by decide) ?_
      exact J254 x1 u H locs ls hP hD hS (lv_sub hl [0, 1] rfl) hw
    have hw := (if_neg h34_6).symm.trans hw
    rcases my_em (x := f_S_orderOf x1) (7 : Int32) with h34_7 | h34_7
    · have hw := (if_pos h34_7).symm.trans hw
      refine my_swi (tgt := 254) hx hb nd_S_perform_34 h34_7 (by decide) (by decide) rfl (by decide) ?_
      exact J254 x1 u H locs ls hP hD hS (lv_sub hl [0, 1] rfl) hw
    have hw := (if_neg h34_7).symm.trans hw
    rcases my_em (x := f_S_orderOf x1) (8 : Int32) with h34_8 | h34_8
    · have hw := (if_pos h34_8).symm.trans hw
      refine my_swi (tgt := 260) hx hb nd_S_perform_34 h34_8 (by decide) (by decide) rfl (by decide) ?_
      exact J260 x1 u H locs ls hP hD hS (lv_sub hl [0, 1] rfl) hw
    have hw := (if_neg h34_8).symm.trans hw
    rcases my_em (x := f_S_orderOf x1) (9 : Int32) with h34_9 | h34_9
    · have hw := (if_pos h34_9).symm.trans hw
      refine my_swi (tgt := 260) hx hb nd_S_perform_34 h34_9 (by decide) (by decide) rfl (by decide) ?_
      exact J260 x1 u H locs ls hP hD hS (lv_sub hl [0, 1] rfl) hw
    have hw := (if_neg h34_9).symm.trans hw
    rcases my_em (x := f_S_orderOf x1) (10 : Int32) with h34_10 | h34_10
    · have hw := (if_pos h34_10).symm.trans hw
      refine my_swi (tgt := 260) hx hb nd_S_perform_34 h34_10 (by decide) (by decide) rfl (by decide) ?_
      exact J260 x1 u H locs ls hP hD hS (lv_sub hl [0, 1] rfl) hw
    have hw := (if_neg h34_10).symm.trans hw
    rcases my_em (x := f_S_orderOf x1) (11 : Int32) with h34_11 | h34_11
    · have hw := (if_pos h34_11).symm.trans hw
      refine my_swi (tgt := 260) hx hb nd_S_perform_34 h34_11 (by decide) (by decide) rfl (by decide) ?_
      exact J260 x1 u H locs ls hP hD hS (lv_sub hl [0, 1] rfl) hw
    have hw := (if_neg h34_11).symm.trans hw
    rcases my_em (x := f_S_orderOf x1) (12 : Int32) with h34_12 | h34_12
    · have hw := (if_pos h34_12).symm.trans hw
      refine my_swi (tgt := 260) hx hb nd_S_perform_34 h34_12 (by decide) (by decide) rfl (by decide) ?_
      exact J260 x1 u H locs ls hP hD hS (lv_sub hl [0, 1] rfl) hw
    have hw := (if_neg h34_12).symm.trans hw
    rcases my_em (x := f_S_orderOf x1) (13 : Int32) with h34_13 | h34_13
    · have hw := (if_pos h34_13).symm.trans hw
      refine my_swi (tgt := 260) hx hb nd_S_perform_34 h34_13 (by decide) (by decide) rfl (by decide) ?_
      exact J260 x1 u H locs ls hP hD hS (lv_sub hl [0, 1] rfl) hw
    have hw := (if_neg h34_13).symm.trans hw
    rcases my_em (x := f_S_orderOf x1) (14 : Int32) with h34_14 | h34_14
    · have hw := (if_pos h34_14).symm.trans hw
      refine my_swi (tgt := 260) hx hb nd_S_perform_34 h34_14 (by decide) (by decide) rfl (by decide) ?_
      exact J260 x1 u H locs ls hP hD hS (lv_sub hl [0, 1] rfl) hw
    have hw := (if_neg h34_14).symm.trans hw
    rcases my_em (x := f_S_orderOf x1) (15 : Int32) with h34_15 | h34_15
    · have hw := (if_pos h34_15).symm.trans hw
      refine my_swi (tgt := 260) hx hb nd_S_perform_34 h34_15 (by decide) (by decide) rfl (by decide) ?_
      exact J260 x1 u H locs ls hP hD hS (lv_sub hl [0, 1] rfl) hw
    have hw := (if_neg h34_15).symm.trans hw
    rcases my_em (x := f_S_orderOf x1) (16 : Int32) with h34_16 | h34_16
    · have hw := (if_pos h34_16).symm.trans hw
      refine my_swi (tgt := 266) hx hb nd_S_perform_34 h34_16 (by decide) (by decide) rfl (by decide) ?_
      refine lv_aload_n hx hb nd_S_perform_266 rfl (lv_at hl 0 rfl) ?_
      refine lv_iload_n hx hb nd_S_perform_267 rfl (lv_at hl 1 rfl) ?_
      obtain ⟨r268, u268, hq268, hw⟩ := bnd_i hw
      refine my_ci (wd := wSC h cA) (r := r268) (u' := u268) (va_runV (As := [.int x1]) (rest := []) ⟨hx, hb, hml, hown, hts⟩ (c_S_performControl l D h cA u x1 (r268, u268) hq268 _) ⟨callB_of 1 hts (gw_in gw_306) rfl rfl rfl (hts _ gw_1) (hts _ gw_303) nh_S_performControl ⟨Nat.le_of_ble_eq_true rfl, Nat.le_of_ble_eq_true rfl⟩, (hts _ gw_305), (hts _ gw_304)⟩ (my_preV nwOk hP hK hD hN (va_recv hK hP (ci := 0) (q0 := 0) rfl rfl)) rfl rfl hl.1 rfl (lv_room (Nat.le_of_ble_eq_true rfl)) nd_S_perform_268 ⟨Nat.le_of_ble_eq_true rfl, Nat.le_of_ble_eq_true rfl⟩) hD hS hA (fun H locs hP hD hS => ?_)
      exact my_ri (u' := u268) (v := r268) hx hb hr hlocks hK hP hD hS hw nd_S_perform_271
    have hw := (if_neg h34_16).symm.trans hw
    rcases my_em (x := f_S_orderOf x1) (32 : Int32) with h34_32 | h34_32
    · have hw := (if_pos h34_32).symm.trans hw
      refine my_swi (tgt := 272) hx hb nd_S_perform_34 h34_32 (by decide) (by decide) rfl (by decide) ?_
      exact J272 x1 u H locs ls hP hD hS (lv_sub hl [0, 1] rfl) hw
    have hw := (if_neg h34_32).symm.trans hw
    rcases my_em (x := f_S_orderOf x1) (33 : Int32) with h34_33 | h34_33
    · have hw := (if_pos h34_33).symm.trans hw
      refine my_swi (tgt := 272) hx hb nd_S_perform_34 h34_33 (by decide) (by decide) rfl (by decide) ?_
      exact J272 x1 u H locs ls hP hD hS (lv_sub hl [0, 1] rfl) hw
    have hw := (if_neg h34_33).symm.trans hw
    rcases my_em (x := f_S_orderOf x1) (34 : Int32) with h34_34 | h34_34
    · have hw := (if_pos h34_34).symm.trans hw
      refine my_swi (tgt := 272) hx hb nd_S_perform_34 h34_34 (by decide) (by decide) rfl (by decide) ?_
      exact J272 x1 u H locs ls hP hD hS (lv_sub hl [0, 1] rfl) hw
    have hw := (if_neg h34_34).symm.trans hw
    rcases my_em (x := f_S_orderOf x1) (35 : Int32) with h34_35 | h34_35
    · have hw := (if_pos h34_35).symm.trans hw
      refine my_swi (tgt := 272) hx hb nd_S_perform_34 h34_35 (by decide) (by decide) rfl (by decide) ?_
      exact J272 x1 u H locs ls hP hD hS (lv_sub hl [0, 1] rfl) hw
    have hw := (if_neg h34_35).symm.trans hw
    rcases my_em (x := f_S_orderOf x1) (36 : Int32) with h34_36 | h34_36
    · have hw := (if_pos h34_36).symm.trans hw
      refine my_swi (tgt := 272) hx hb nd_S_perform_34 h34_36 (by decide) (by decide) rfl (by decide) ?_
      exact J272 x1 u H locs ls hP hD hS (lv_sub hl [0, 1] rfl) hw
    have hw := (if_neg h34_36).symm.trans hw
    rcases my_em (x := f_S_orderOf x1) (37 : Int32) with h34_37 | h34_37
    · have hw := (if_pos h34_37).symm.trans hw
      refine my_swi (tgt := 272) hx hb nd_S_perform_34 h34_37 (by decide) (by decide) rfl (by decide) ?_
      exact J272 x1 u H locs ls hP hD hS (lv_sub hl [0, 1] rfl) hw
    have hw := (if_neg h34_37).symm.trans hw
    rcases my_em (x := f_S_orderOf x1) (38 : Int32) with h34_38 | h34_38
    · have hw := (if_pos h34_38).symm.trans hw
      refine my_swi (tgt := 272) hx hb nd_S_perform_34 h34_38 (by decide) (by decide) rfl (by decide) ?_
      exact J272 x1 u H locs ls hP hD hS (lv_sub hl [0, 1] rfl) hw
    have hw := (if_neg h34_38).symm.trans hw
    rcases my_em (x := f_S_orderOf x1) (40 : Int32) with h34_40 | h34_40
    · have hw := (if_pos h34_40).symm.trans hw
      refine my_swi (tgt := 278) hx hb nd_S_perform_34 h34_40 (by decide) (by decide) rfl (by decide) ?_
      exact J278 x1 u H locs ls hP hD hS (lv_sub hl [0, 1] rfl) hw
    have hw := (if_neg h34_40).symm.trans hw
    rcases my_em (x := f_S_orderOf x1) (41 : Int32) with h34_41 | h34_41
    · have hw := (if_pos h34_41).symm.trans hw
      refine my_swi (tgt := 278) hx hb nd_S_perform_34 h34_41 (by decide) (by decide) rfl (by decide) ?_
      exact J278 x1 u H locs ls hP hD hS (lv_sub hl [0, 1] rfl) hw
    have hw := (if_neg h34_41).symm.trans hw
    rcases my_em (x := f_S_orderOf x1) (42 : Int32) with h34_42 | h34_42
    · have hw := (if_pos h34_42).symm.trans hw
      refine my_swi (tgt := 278) hx hb nd_S_perform_34 h34_42 (by decide) (by decide) rfl (by decide) ?_
      exact J278 x1 u H locs ls hP hD hS (lv_sub hl [0, 1] rfl) hw
    have hw := (if_neg h34_42).symm.trans hw
    rcases my_em (x := f_S_orderOf x1) (43 : Int32) with h34_43 | h34_43
    · have hw := (if_pos h34_43).symm.trans hw
      refine my_swi (tgt := 278) hx hb nd_S_perform_34 h34_43 (by decide) (by decide) rfl (by decide) ?_
      exact J278 x1 u H locs ls hP hD hS (lv_sub hl [0, 1] rfl) hw
    have hw := (if_neg h34_43).symm.trans hw
    rcases my_em (x := f_S_orderOf x1) (46 : Int32) with h34_46 | h34_46
    · have hw := (if_pos h34_46).symm.trans hw
      refine my_swi (tgt := 278) hx hb nd_S_perform_34 h34_46 (by decide) (by decide) rfl (by decide) ?_
      exact J278 x1 u H locs ls hP hD hS (lv_sub hl [0, 1] rfl) hw
    have hw := (if_neg h34_46).symm.trans hw
    refine my_swd (tgt := 284) hx hb nd_S_perform_34 (my_nec h34_0 (my_nec h34_1 (my_nec h34_2 (my_nec h34_3 (my_nec h34_4 (my_nec h34_5 (my_nec h34_6 (my_nec h34_7 (my_nec h34_8 (my_nec h34_9 (my_nec h34_10 (my_nec h34_11 (my_nec h34_12 (my_nec h34_13 (my_nec h34_14 (my_nec h34_15 (my_nec h34_16 (my_nec h34_32 (my_nec h34_33 (my_nec h34_34 (my_nec h34_35 (my_nec h34_36 (my_nec h34_37 (my_nec h34_38 (my_nec h34_40 (my_nec h34_41 (my_nec h34_42 (my_nec h34_43 (my_nec h34_46 my_nen))))))))))))))))))))))))))))) (by decide +kernel) (by decide) ?_
    refine lv_bipush (v := (10 : Int32)) hx hb nd_S_perform_284 (by decide) ?_
    exact my_ri (u' := u) (v := (10 : Int32)) hx hb hr hlocks hK hP hD hS hw nd_S_perform_286
  unfold f_S_perform at hw
  refine lv_aload_n hx hb nd_S_perform_0 rfl (lv_at hl 0 rfl) ?_
  refine va_get (D := D) (ci := 0) (v := .ref (h 6)) (C := nR_S) (T := nT_S) (N := 9) hx hb hts nu_S hown hK hP 0 rfl rfl 3 (by decide) (hts _ gw_66) (fun _ h9 => h9) rfl nd_S_perform_1 ?_
  refine lv_aload_n hx hb nd_S_perform_4 rfl (lv_at hl 0 rfl) ?_
  refine va_get (D := D) (ci := 0) (v := .int (u 0 5)) (C := nR_S) (T := nT_S) (N := 9) hx hb hts nu_S hown hK hP 0 rfl rfl 5 (by decide) (hts _ gw_68) (fun _ h9 => h9) rfl nd_S_perform_5 ?_
  refine lv_iconst (v := (4 : Int32)) hx hb nd_S_perform_8 (by decide) ?_
  refine lv_iadd hx hb nd_S_perform_9 ?_
  obtain ⟨u10, hq10, hw⟩ := bnv_i hw
  refine my_cv (wd := wSC h cA) (F := u10) (va_runVN (As := [.int ((u 0 5) + (4 : Int32))]) (rest := []) ⟨hx, hb, hml, hown, hts⟩ (c_O_begin l D h cA u ((u 0 5) + (4 : Int32)) u10 hq10 _) ⟨va_cnB 1 hts (gw_in gw_176) rfl rfl rfl (hN _ nm_25) (hts _ gw_5) nh_O_begin ⟨Nat.le_of_ble_eq_true rfl, Nat.le_of_ble_eq_true rfl⟩, (hts _ gw_175), (hts _ gw_174)⟩ (my_preV nwOk hP hK hD hN (va_recv hK hP (ci := 4) (q0 := 6) rfl rfl)) rfl rfl hl.1 rfl (lv_room (Nat.le_of_ble_eq_true rfl)) nd_S_perform_10 ⟨Nat.le_of_ble_eq_true rfl, Nat.le_of_ble_eq_true rfl⟩) hD hS hA (fun H locs hP hD hS => ?_)
  refine lv_aload_n hx hb nd_S_perform_13 rfl (lv_at hl 0 rfl) ?_
  refine va_get (D := D) (ci := 0) (v := .int (zb (u10 0 6))) (C := nR_S) (T := nT_S) (N := 9) hx hb hts nu_S hown hK hP 0 rfl rfl 6 (by decide) (hts _ gw_69) (fun _ h9 => h9) rfl nd_S_perform_14 ?_
  refine lv_if_eq (tgt := 30) hx hb nd_S_perform_17 (by decide) (fun h17 => ?_) (fun h17 => ?_)
  · have hw := (if_pos h17).symm.trans hw
    exact J30 a1 u10 H locs ls hP hD hS (lv_sub hl [0, 1] rfl) hw
  have hw := (if_neg h17).symm.trans hw
  refine lv_iload_n hx hb nd_S_perform_20 rfl (lv_at hl 1 rfl) ?_
  refine my_cp (F := zb (f_S_isBranch a1)) (va_runS (As := [.int a1]) (rest := []) ⟨hx, hb, hml, hown, hts⟩ (c_S_isBranch l a1 _ rfl) ⟨callB_of 1 hts (gw_in gw_179) rfl rfl rfl (hts _ gw_1) (hts _ gw_177) nh_S_isBranch ⟨Nat.le_of_ble_eq_true rfl, Nat.le_of_ble_eq_true rfl⟩, (hts _ gw_178)⟩ my_preP rfl rfl hl.1 rfl (lv_room (Nat.le_of_ble_eq_true rfl)) nd_S_perform_21 ⟨Nat.le_of_ble_eq_true rfl, Nat.le_of_ble_eq_true rfl⟩) hP hS (fun H locs hP hS => ?_)
  refine lv_if_eq (tgt := 30) hx hb nd_S_perform_24 (by decide) (fun h24 => ?_) (fun h24 => ?_)
  · have hw := (if_pos h24).symm.trans hw
    exact J30 a1 u10 H locs ls hP hD hS (lv_sub hl [0, 1] rfl) hw
  have hw := (if_neg h24).symm.trans hw
  refine lv_bipush (v := (10 : Int32)) hx hb nd_S_perform_27 (by decide) ?_
  exact my_ri (u' := u10) (v := (10 : Int32)) hx hb hr hlocks hK hP hD hS hw nd_S_perform_29
set_option maxHeartbeats 4000000 in
set_option maxRecDepth 100000 in
theorem c_S_finishInstruction (l : Launch) (D : va_G) (h : Nat → Nat) (cA : Nat → ClassId) (u : St) (F : St) (hw : f_S_finishInstruction u = F) : MV nwS vwCl l ny_S_finishInstruction nw_S_finishInstruction ({ frames := 3, cells := 0, slots := 0, locals := 62 }) D (tyI cA) (wSC h cA) ([.ref (h 0)] : List Value) u F := by
  refine my_in (gw := GW) (cc := nc_S_finishInstruction) (maxL := 1) (ret := none) (Qc := fun A => QV vwCl D (tyI cA) (wSC h cA) F A) (by decide) rfl (Nat.le_of_ble_eq_true rfl) ?_
  intro p e s m below meth c A H locs ls hx hb hml hr hts hown hlocks hK hN hA hP hD hS hl
  have hown : s.vm.findClass nR_S = some m.cls := hown
  have hl : lv_has ls 1 [(0, .ref (h 0))] := hl
  have J62 : ∀ (u : St) (H : Heap) (locs : List Loc) (ls : Array Slot), va_P D vwCl (wSC h cA u) H → va_D A (wSC h cA u) → va_S A s.heap H locs → lv_has ls 1 [(0, .ref (h 0))] → f_S_finishInstruction_b62 u = F →
      W p l e (headSpec nw_S_finishInstruction ({ frames := 3, cells := 0, slots := 0, locals := 62 })).room s m ([.ref (h 0)] : List Value).toArray below meth c H locs 0 0 (MQ below (QV vwCl D (tyI cA) (wSC h cA) F A) ([.ref (h 0)] : List Value).toArray s 0 0 A) (F0 m 62 ls []) := by
    intro u H locs ls hP hD hS hl hw
    unfold f_S_finishInstruction_b62 at hw
    refine lv_aload_n hx hb nd_S_finishInstruction_62 rfl (lv_at hl 0 rfl) ?_
    refine lv_aload_n hx hb nd_S_finishInstruction_63 rfl (lv_at hl 0 rfl) ?_
    refine va_get (D := D) (ci := 0) (v := .int (u 0 5)) (C := nR_S) (T := nT_S) (N := 9) hx hb hts nu_S hown hK hP 0 rfl rfl 5 (by decide) (hts _ gw_68) (fun _ h9 => h9) rfl nd_S_finishInstruction_64 ?_
    refine va_put (D := D) (ci := 0) (v := .int (u 0 5)) (ty := .int) (C := nR_S) (T := nT_S) (N := 9) hx hb hts nu_S nt_S nto_S nn_S hown hK hP hD hS 0 rfl rfl 4 (by decide) (hts _ gw_67) (fun _ h9 => h9) rfl (by decide +kernel) rfl rfl (Nat.le_of_ble_eq_true rfl) nd_S_finishInstruction_67 (fun H locs hP hD hS => ?_)
    have hP : va_P D vwCl (wSC h cA (sU u 0 4 (u 0 5))) H := hP
    have hD : va_D A (wSC h cA (sU u 0 4 (u 0 5))) := hD
    refine lv_aload_n hx hb nd_S_finishInstruction_70 rfl (lv_at hl 0 rfl) ?_
    refine lv_aload_n hx hb nd_S_finishInstruction_71 rfl (lv_at hl 0 rfl) ?_
    refine va_get (D := D) (ci := 0) (v := .ref (h 6)) (C := nR_S) (T := nT_S) (N := 9) hx hb hts nu_S hown hK hP 0 rfl rfl 3 (by decide) (hts _ gw_66) (fun _ h9 => h9) rfl nd_S_finishInstruction_72 ?_
    refine va_getN (D := D) (ci := 4) (v := .int (u 6 4)) (C := nR_O) (T := nT_O) (N := 5) hx hb hts nu_O hown hK hP 6 rfl rfl 4 (by decide) (va_Nw.use rfl (hN _ nm_14)) (fun _ h9 => h9) rfl nd_S_finishInstruction_75 ?_
    refine va_put (D := D) (ci := 0) (v := .int (u 6 4)) (ty := .int) (C := nR_S) (T := nT_S) (N := 9) hx hb hts nu_S nt_S nto_S nn_S hown hK hP hD hS 0 rfl rfl 5 (by decide) (hts _ gw_68) (fun _ h9 => h9) rfl (by decide +kernel) rfl rfl (Nat.le_of_ble_eq_true rfl) nd_S_finishInstruction_78 (fun H locs hP hD hS => ?_)
    have hP : va_P D vwCl (wSC h cA (sU (sU u 0 4 (u 0 5)) 0 5 (u 6 4))) H := hP
    have hD : va_D A (wSC h cA (sU (sU u 0 4 (u 0 5)) 0 5 (u 6 4))) := hD
    refine lv_aload_n hx hb nd_S_finishInstruction_81 rfl (lv_at hl 0 rfl) ?_
    refine lv_aload_n hx hb nd_S_finishInstruction_82 rfl (lv_at hl 0 rfl) ?_
    refine va_get (D := D) (ci := 0) (v := .ref (h 6)) (C := nR_S) (T := nT_S) (N := 9) hx hb hts nu_S hown hK hP 0 rfl rfl 3 (by decide) (hts _ gw_66) (fun _ h9 => h9) rfl nd_S_finishInstruction_83 ?_
    refine va_getN (D := D) (ci := 4) (v := .int (zb (u 6 3))) (C := nR_O) (T := nT_O) (N := 5) hx hb hts nu_O hown hK hP 6 rfl rfl 3 (by decide) (va_Nw.use rfl (hN _ nm_13)) (fun _ h9 => h9) rfl nd_S_finishInstruction_86 ?_
    refine va_put (D := D) (ci := 0) (v := .int (zb (u 6 3))) (ty := .boolean) (C := nR_S) (T := nT_S) (N := 9) hx hb hts nu_S nt_S nto_S nn_S hown hK hP hD hS 0 rfl rfl 6 (by decide) (hts _ gw_69) (fun _ h9 => h9) rfl (by decide +kernel) (zb_n _) (zb_f _) (Nat.le_of_ble_eq_true rfl) nd_S_finishInstruction_89 (fun H locs hP hD hS => ?_)
    have hP : va_P D vwCl (wSC h cA (sU (sU (sU u 0 4 (u 0 5)) 0 5 (u 6 4)) 0 6 (u 6 3))) H := hP
    have hD : va_D A (wSC h cA (sU (sU (sU u 0 4 (u 0 5)) 0 5 (u 6 4)) 0 6 (u 6 3))) := hD
    exact my_rv (u' := sU (sU (sU u 0 4 (u 0 5)) 0 5 (u 6 4)) 0 6 (u 6 3)) hx hb hr hlocks hK hP hD hS hw nd_S_finishInstruction_92
  unfold f_S_finishInstruction at hw
  refine lv_aload_n hx hb nd_S_finishInstruction_0 rfl (lv_at hl 0 rfl) ?_
  refine va_get (D := D) (ci := 0) (v := .ref (h 3)) (C := nR_S) (T := nT_S) (N := 9) hx hb hts nu_S hown hK hP 0 rfl rfl 1 (by decide) (hts _ gw_64) (fun _ h9 => h9) rfl nd_S_finishInstruction_1 ?_
  obtain ⟨u4, hq4, hw⟩ := bnv_i hw
  refine my_cv (wd := wSC h cA) (F := u4) (va_runVN (As := []) (rest := []) ⟨hx, hb, hml, hown, hts⟩ (c_R_landLoad l D h cA u u4 hq4 _) ⟨va_cnB 0 hts (gw_in gw_139) rfl rfl rfl (hN _ nm_21) (hts _ gw_3) nh_R_landLoad ⟨Nat.le_of_ble_eq_true rfl, Nat.le_of_ble_eq_true rfl⟩, (hts _ gw_138), (hts _ gw_137)⟩ (my_preV nwOk hP hK hD hN (va_recv hK hP (ci := 2) (q0 := 3) rfl rfl)) rfl rfl hl.1 rfl (lv_room (Nat.le_of_ble_eq_true rfl)) nd_S_finishInstruction_4 ⟨Nat.le_of_ble_eq_true rfl, Nat.le_of_ble_eq_true rfl⟩) hD hS hA (fun H locs hP hD hS => ?_)
  refine lv_aload_n hx hb nd_S_finishInstruction_7 rfl (lv_at hl 0 rfl) ?_
  refine va_get (D := D) (ci := 0) (v := .ref (h 6)) (C := nR_S) (T := nT_S) (N := 9) hx hb hts nu_S hown hK hP 0 rfl rfl 3 (by decide) (hts _ gw_66) (fun _ h9 => h9) rfl nd_S_finishInstruction_8 ?_
  refine va_getN (D := D) (ci := 4) (v := .int (zb (u4 6 2))) (C := nR_O) (T := nT_O) (N := 5) hx hb hts nu_O hown hK hP 6 rfl rfl 2 (by decide) (va_Nw.use rfl (hN _ nm_12)) (fun _ h9 => h9) rfl nd_S_finishInstruction_11 ?_
  refine lv_if_eq (tgt := 41) hx hb nd_S_finishInstruction_14 (by decide) (fun h14 => ?_) (fun h14 => ?_)
  · have hw := (if_pos h14).symm.trans hw
    refine lv_aload_n hx hb nd_S_finishInstruction_41 rfl (lv_at hl 0 rfl) ?_
    refine va_get (D := D) (ci := 0) (v := .ref (h 3)) (C := nR_S) (T := nT_S) (N := 9) hx hb hts nu_S hown hK hP 0 rfl rfl 1 (by decide) (hts _ gw_64) (fun _ h9 => h9) rfl nd_S_finishInstruction_42 ?_
    refine lv_aload_n hx hb nd_S_finishInstruction_45 rfl (lv_at hl 0 rfl) ?_
    refine va_get (D := D) (ci := 0) (v := .ref (h 6)) (C := nR_S) (T := nT_S) (N := 9) hx hb hts nu_S hown hK hP 0 rfl rfl 3 (by decide) (hts _ gw_66) (fun _ h9 => h9) rfl nd_S_finishInstruction_46 ?_
    refine va_getN (D := D) (ci := 4) (v := .int (u4 6 0)) (C := nR_O) (T := nT_O) (N := 5) hx hb hts nu_O hown hK hP 6 rfl rfl 0 (by decide) (va_Nw.use rfl (hN _ nm_10)) (fun _ h9 => h9) rfl nd_S_finishInstruction_49 ?_
    refine lv_aload_n hx hb nd_S_finishInstruction_52 rfl (lv_at hl 0 rfl) ?_
    refine va_get (D := D) (ci := 0) (v := .ref (h 6)) (C := nR_S) (T := nT_S) (N := 9) hx hb hts nu_S hown hK hP 0 rfl rfl 3 (by decide) (hts _ gw_66) (fun _ h9 => h9) rfl nd_S_finishInstruction_53 ?_
    refine va_getN (D := D) (ci := 4) (v := .int (u4 6 1)) (C := nR_O) (T := nT_O) (N := 5) hx hb hts nu_O hown hK hP 6 rfl rfl 1 (by decide) (va_Nw.use rfl (hN _ nm_11)) (fun _ h9 => h9) rfl nd_S_finishInstruction_56 ?_
    obtain ⟨u59, hq59, hw⟩ := bnv_i hw
    refine my_cv (wd := wSC h cA) (F := u59) (va_runVN (As := [.int (u4 6 0), .int (u4 6 1)]) (rest := []) ⟨hx, hb, hml, hown, hts⟩ (c_R_change l D h cA u4 (u4 6 0) (u4 6 1) u59 hq59 _) ⟨va_cnB 2 hts (gw_in gw_143) rfl rfl rfl (hN _ nm_27) (hts _ gw_3) nh_R_change ⟨Nat.le_of_ble_eq_true rfl, Nat.le_of_ble_eq_true rfl⟩, (hts _ gw_142), (hts _ gw_141)⟩ (my_preV nwOk hP hK hD hN (va_recv hK hP (ci := 2) (q0 := 3) rfl rfl)) rfl rfl hl.1 rfl (lv_room (Nat.le_of_ble_eq_true rfl)) nd_S_finishInstruction_59 ⟨Nat.le_of_ble_eq_true rfl, Nat.le_of_ble_eq_true rfl⟩) hD hS hA (fun H locs hP hD hS => ?_)
    exact J62 u59 H locs ls hP hD hS (lv_sub hl [0] rfl) hw
  have hw := (if_neg h14).symm.trans hw
  refine lv_aload_n hx hb nd_S_finishInstruction_17 rfl (lv_at hl 0 rfl) ?_
  refine va_get (D := D) (ci := 0) (v := .ref (h 3)) (C := nR_S) (T := nT_S) (N := 9) hx hb hts nu_S hown hK hP 0 rfl rfl 1 (by decide) (hts _ gw_64) (fun _ h9 => h9) rfl nd_S_finishInstruction_18 ?_
  refine lv_aload_n hx hb nd_S_finishInstruction_21 rfl (lv_at hl 0 rfl) ?_
  refine va_get (D := D) (ci := 0) (v := .ref (h 6)) (C := nR_S) (T := nT_S) (N := 9) hx hb hts nu_S hown hK hP 0 rfl rfl 3 (by decide) (hts _ gw_66) (fun _ h9 => h9) rfl nd_S_finishInstruction_22 ?_
  refine va_getN (D := D) (ci := 4) (v := .int (u4 6 0)) (C := nR_O) (T := nT_O) (N := 5) hx hb hts nu_O hown hK hP 6 rfl rfl 0 (by decide) (va_Nw.use rfl (hN _ nm_10)) (fun _ h9 => h9) rfl nd_S_finishInstruction_25 ?_
  refine lv_aload_n hx hb nd_S_finishInstruction_28 rfl (lv_at hl 0 rfl) ?_
  refine va_get (D := D) (ci := 0) (v := .ref (h 6)) (C := nR_S) (T := nT_S) (N := 9) hx hb hts nu_S hown hK hP 0 rfl rfl 3 (by decide) (hts _ gw_66) (fun _ h9 => h9) rfl nd_S_finishInstruction_29 ?_
  refine va_getN (D := D) (ci := 4) (v := .int (u4 6 1)) (C := nR_O) (T := nT_O) (N := 5) hx hb hts nu_O hown hK hP 6 rfl rfl 1 (by decide) (va_Nw.use rfl (hN _ nm_11)) (fun _ h9 => h9) rfl nd_S_finishInstruction_32 ?_
  obtain ⟨u35, hq35, hw⟩ := bnv_i hw
  refine my_cv (wd := wSC h cA) (F := u35) (va_runVN (As := [.int (u4 6 0), .int (u4 6 1)]) (rest := []) ⟨hx, hb, hml, hown, hts⟩ (c_R_holdLoad l D h cA u4 (u4 6 0) (u4 6 1) u35 hq35 _) ⟨va_cnB 2 hts (gw_in gw_95) rfl rfl rfl (hN _ nm_33) (hts _ gw_3) nh_R_holdLoad ⟨Nat.le_of_ble_eq_true rfl, Nat.le_of_ble_eq_true rfl⟩, (hts _ gw_94), (hts _ gw_93)⟩ (my_preV nwOk hP hK hD hN (va_recv hK hP (ci := 2) (q0 := 3) rfl rfl)) rfl rfl hl.1 rfl (lv_room (Nat.le_of_ble_eq_true rfl)) nd_S_finishInstruction_35 ⟨Nat.le_of_ble_eq_true rfl, Nat.le_of_ble_eq_true rfl⟩) hD hS hA (fun H locs hP hD hS => ?_)
  refine lv_goto (tgt := 62) hx hb nd_S_finishInstruction_38 (by decide) ?_
  exact J62 u35 H locs ls hP hD hS (lv_sub hl [0] rfl) hw
set_option maxHeartbeats 4000000 in
set_option maxRecDepth 100000 in
theorem c_S_takeStep (l : Launch) (D : va_G) (h : Nat → Nat) (cA : Nat → ClassId) (u : St) (F : Int32 × St) (hw : f_S_takeStep u = F) : MI nwS vwCl l ny_S_takeStep nw_S_takeStep ({ frames := 5, cells := 0, slots := 0, locals := 113 }) D (tyI cA) (wSC h cA) ([.ref (h 0)] : List Value) u F := by
  refine my_in (gw := GW) (cc := nc_S_takeStep) (maxL := 2) (ret := (some .int)) (Qc := fun A => QI vwCl D (tyI cA) (wSC h cA) F A) (by decide) rfl (Nat.le_of_ble_eq_true rfl) ?_
  intro p e s m below meth c A H locs ls hx hb hml hr hts hown hlocks hK hN hA hP hD hS hl
  have hown : s.vm.findClass nR_S = some m.cls := hown
  have hl : lv_has ls 2 [(0, .ref (h 0))] := hl
  have J56 : ∀ (x1 : Int32) (u : St) (H : Heap) (locs : List Loc) (ls : Array Slot), va_P D vwCl (wSC h cA u) H → va_D A (wSC h cA u) → va_S A s.heap H locs → lv_has ls 2 [(0, .ref (h 0)), (1, .int x1)] → f_S_takeStep_b56 x1 u = F →
      W p l e (headSpec nw_S_takeStep ({ frames := 5, cells := 0, slots := 0, locals := 113 })).room s m ([.ref (h 0)] : List Value).toArray below meth c H locs 0 0 (MQ below (QI vwCl D (tyI cA) (wSC h cA) F A) ([.ref (h 0)] : List Value).toArray s 0 0 A) (F0 m 56 ls []) := by
    intro x1 u H locs ls hP hD hS hl hw
    unfold f_S_takeStep_b56 at hw
    refine lv_iload_n hx hb nd_S_takeStep_56 rfl (lv_at hl 1 rfl) ?_
    refine lv_iconst (v := (-1 : Int32)) hx hb nd_S_takeStep_57 (by decide) ?_
    refine lv_icmp_eq (tgt := 68) hx hb nd_S_takeStep_58 (by decide) (fun h58 => ?_) (fun h58 => ?_)
    · have hw := (if_pos h58).symm.trans hw
      refine lv_aload_n hx hb nd_S_takeStep_68 rfl (lv_at hl 0 rfl) ?_
      obtain ⟨u69, hq69, hw⟩ := bnv_i hw
      refine my_cv (wd := wSC h cA) (F := u69) (va_runV (As := []) (rest := []) ⟨hx, hb, hml, hown, hts⟩ (c_S_finishInstruction l D h cA u u69 hq69 _) ⟨callB_of 0 hts (gw_in gw_362) rfl rfl rfl (hts _ gw_1) (hts _ gw_359) nh_S_finishInstruction ⟨Nat.le_of_ble_eq_true rfl, Nat.le_of_ble_eq_true rfl⟩, (hts _ gw_361), (hts _ gw_360)⟩ (my_preV nwOk hP hK hD hN (va_recv hK hP (ci := 0) (q0 := 0) rfl rfl)) rfl rfl hl.1 rfl (lv_room (Nat.le_of_ble_eq_true rfl)) nd_S_takeStep_69 ⟨Nat.le_of_ble_eq_true rfl, Nat.le_of_ble_eq_true rfl⟩) hD hS hA (fun H locs hP hD hS => ?_)
      refine lv_iconst (v := (0 : Int32)) hx hb nd_S_takeStep_72 (by decide) ?_
      exact my_ri (u' := u69) (v := (0 : Int32)) hx hb hr hlocks hK hP hD hS hw nd_S_takeStep_73
    have hw := (if_neg h58).symm.trans hw
    refine lv_aload_n hx hb nd_S_takeStep_61 rfl (lv_at hl 0 rfl) ?_
    refine lv_iload_n hx hb nd_S_takeStep_62 rfl (lv_at hl 1 rfl) ?_
    obtain ⟨u63, hq63, hw⟩ := bnv_i hw
    refine my_cv (wd := wSC h cA) (F := u63) (va_runV (As := [.int x1]) (rest := []) ⟨hx, hb, hml, hown, hts⟩ (c_S_enterException l D h cA u x1 u63 hq63 _) ⟨callB_of 1 hts (gw_in gw_136) rfl rfl rfl (hts _ gw_1) (hts _ gw_133) nh_S_enterException ⟨Nat.le_of_ble_eq_true rfl, Nat.le_of_ble_eq_true rfl⟩, (hts _ gw_135), (hts _ gw_134)⟩ (my_preV nwOk hP hK hD hN (va_recv hK hP (ci := 0) (q0 := 0) rfl rfl)) rfl rfl hl.1 rfl (lv_room (Nat.le_of_ble_eq_true rfl)) nd_S_takeStep_63 ⟨Nat.le_of_ble_eq_true rfl, Nat.le_of_ble_eq_true rfl⟩) hD hS hA (fun H locs hP hD hS => ?_)
    refine lv_iconst (v := (1 : Int32)) hx hb nd_S_takeStep_66 (by decide) ?_
    exact my_ri (u' := u63) (v := (1 : Int32)) hx hb hr hlocks hK hP hD hS hw nd_S_takeStep_67
  unfold f_S_takeStep at hw
  refine lv_aload_n hx hb nd_S_takeStep_0 rfl (lv_at hl 0 rfl) ?_
  refine lv_dup hx hb nd_S_takeStep_1 rfl ?_
  refine va_get (D := D) (ci := 0) (v := .int (u 0 7)) (C := nR_S) (T := nT_S) (N := 9) hx hb hts nu_S hown hK hP 0 rfl rfl 7 (by decide) (hts _ gw_70) (fun _ h9 => h9) rfl nd_S_takeStep_2 ?_
  refine lv_iconst (v := (1 : Int32)) hx hb nd_S_takeStep_5 (by decide) ?_
  refine lv_iadd hx hb nd_S_takeStep_6 ?_
  refine va_put (D := D) (ci := 0) (v := .int ((u 0 7) + (1 : Int32))) (ty := .int) (C := nR_S) (T := nT_S) (N := 9) hx hb hts nu_S nt_S nto_S nn_S hown hK hP hD hS 0 rfl rfl 7 (by decide) (hts _ gw_70) (fun _ h9 => h9) rfl (by decide +kernel) rfl rfl (Nat.le_of_ble_eq_true rfl) nd_S_takeStep_7 (fun H locs hP hD hS => ?_)
  have hP : va_P D vwCl (wSC h cA (sU u 0 7 ((u 0 7) + (1 : Int32)))) H := hP
  have hD : va_D A (wSC h cA (sU u 0 7 ((u 0 7) + (1 : Int32)))) := hD
  refine lv_aload_n hx hb nd_S_takeStep_10 rfl (lv_at hl 0 rfl) ?_
  refine va_get (D := D) (ci := 0) (v := .ref (h 5)) (C := nR_S) (T := nT_S) (N := 9) hx hb hts nu_S hown hK hP 0 rfl rfl 2 (by decide) (hts _ gw_65) (fun _ h9 => h9) rfl nd_S_takeStep_11 ?_
  refine my_ci (wd := wSC h cA) (r := zb (f_C_interruptIsDue (sU u 0 7 ((u 0 7) + (1 : Int32))))) (u' := sU u 0 7 ((u 0 7) + (1 : Int32))) (va_runVN (As := []) (rest := []) ⟨hx, hb, hml, hown, hts⟩ (c_C_interruptIsDue l D h cA (sU u 0 7 ((u 0 7) + (1 : Int32))) _ rfl _) ⟨va_cnB 0 hts (gw_in gw_127) rfl rfl rfl (hN _ nm_20) (hts _ gw_4) nh_C_interruptIsDue ⟨Nat.le_of_ble_eq_true rfl, Nat.le_of_ble_eq_true rfl⟩, (hts _ gw_126), (hts _ gw_125)⟩ (my_preV nwOk hP hK hD hN (va_recv hK hP (ci := 3) (q0 := 5) rfl rfl)) rfl rfl hl.1 rfl (lv_room (Nat.le_of_ble_eq_true rfl)) nd_S_takeStep_14 ⟨Nat.le_of_ble_eq_true rfl, Nat.le_of_ble_eq_true rfl⟩) hD hS hA (fun H locs hP hD hS => ?_)
  refine lv_if_eq (tgt := 27) hx hb nd_S_takeStep_17 (by decide) (fun h17 => ?_) (fun h17 => ?_)
  · have hw := (if_pos h17).symm.trans hw
    refine lv_aload_n hx hb nd_S_takeStep_27 rfl (lv_at hl 0 rfl) ?_
    obtain ⟨r28, u28, hq28, hw⟩ := bnd_i hw
    refine my_ci (wd := wSC h cA) (r := r28) (u' := u28) (va_runV (As := []) (rest := []) ⟨hx, hb, hml, hown, hts⟩ (c_S_faultAtPc l D h cA (sU u 0 7 ((u 0 7) + (1 : Int32))) (r28, u28) hq28 _) ⟨callB_of 0 hts (gw_in gw_152) rfl rfl rfl (hts _ gw_1) (hts _ gw_149) nh_S_faultAtPc ⟨Nat.le_of_ble_eq_true rfl, Nat.le_of_ble_eq_true rfl⟩, (hts _ gw_151), (hts _ gw_150)⟩ (my_preV nwOk hP hK hD hN (va_recv hK hP (ci := 0) (q0 := 0) rfl rfl)) rfl rfl hl.1 rfl (lv_room (Nat.le_of_ble_eq_true rfl)) nd_S_takeStep_28 ⟨Nat.le_of_ble_eq_true rfl, Nat.le_of_ble_eq_true rfl⟩) hD hS hA (fun H locs hP hD hS => ?_)
    refine lv_istore_n (lv' := [(1, .int r28), (0, .ref (h 0))]) hx hb nd_S_takeStep_31 rfl hl (by decide) rfl (fun ls hl => ?_)
    refine lv_iload_n hx hb nd_S_takeStep_32 rfl (lv_at hl 0 rfl) ?_
    refine lv_iconst (v := (-1 : Int32)) hx hb nd_S_takeStep_33 (by decide) ?_
    refine lv_icmp_ne (tgt := 56) hx hb nd_S_takeStep_34 (by decide) (fun h34 => ?_) (fun h34 => ?_)
    · have hw := (if_neg h34).symm.trans hw
      exact J56 r28 u28 H locs ls hP hD hS (lv_sub hl [1, 0] rfl) hw
    have hw := (if_pos h34).symm.trans hw
    refine lv_aload_n hx hb nd_S_takeStep_37 rfl (lv_at hl 1 rfl) ?_
    refine lv_aload_n hx hb nd_S_takeStep_38 rfl (lv_at hl 1 rfl) ?_
    refine va_get (D := D) (ci := 0) (v := .ref (h 1)) (C := nR_S) (T := nT_S) (N := 9) hx hb hts nu_S hown hK hP 0 rfl rfl 0 (by decide) (hts _ gw_63) (fun _ h9 => h9) rfl nd_S_takeStep_39 ?_
    refine lv_aload_n hx hb nd_S_takeStep_42 rfl (lv_at hl 1 rfl) ?_
    refine va_get (D := D) (ci := 0) (v := .int (u28 0 4)) (C := nR_S) (T := nT_S) (N := 9) hx hb hts nu_S hown hK hP 0 rfl rfl 4 (by decide) (hts _ gw_67) (fun _ h9 => h9) rfl nd_S_takeStep_43 ?_
    refine lv_ldc (own := nR_S) (v := (536870911 : Int32)) hx hb hown (hts _ gw_160) nd_S_takeStep_46 ?_
    refine lv_iand hx hb nd_S_takeStep_48 ?_
    refine my_ci (wd := wSC h cA) (r := f_M_wordAround ((u28 0 4) &&& (536870911 : Int32)) u28) (u' := u28) (va_runVN (As := [.int ((u28 0 4) &&& (536870911 : Int32))]) (rest := [.ref (h 0)]) ⟨hx, hb, hml, hown, hts⟩ (c_M_wordAround l D h cA u28 ((u28 0 4) &&& (536870911 : Int32)) _ rfl _) ⟨va_cnB 1 hts (gw_in gw_166) rfl rfl rfl (hN _ nm_24) (hts _ gw_2) nh_M_wordAround ⟨Nat.le_of_ble_eq_true rfl, Nat.le_of_ble_eq_true rfl⟩, (hts _ gw_165), (hts _ gw_164)⟩ (my_preV nwOk hP hK hD hN (va_recv hK hP (ci := 1) (q0 := 1) rfl rfl)) rfl rfl hl.1 rfl (lv_room (Nat.le_of_ble_eq_true rfl)) nd_S_takeStep_49 ⟨Nat.le_of_ble_eq_true rfl, Nat.le_of_ble_eq_true rfl⟩) hD hS hA (fun H locs hP hD hS => ?_)
    obtain ⟨r52, u52, hq52, hw⟩ := bnd_i hw
    refine my_ci (wd := wSC h cA) (r := r52) (u' := u52) (va_runV (As := [.int (f_M_wordAround ((u28 0 4) &&& (536870911 : Int32)) u28)]) (rest := []) ⟨hx, hb, hml, hown, hts⟩ (c_S_perform l D h cA u28 (f_M_wordAround ((u28 0 4) &&& (536870911 : Int32)) u28) (r52, u52) hq52 _) ⟨callB_of 1 hts (gw_in gw_173) rfl rfl rfl (hts _ gw_1) (hts _ gw_170) nh_S_perform ⟨Nat.le_of_ble_eq_true rfl, Nat.le_of_ble_eq_true rfl⟩, (hts _ gw_172), (hts _ gw_171)⟩ (my_preV nwOk hP hK hD hN (va_recv hK hP (ci := 0) (q0 := 0) rfl rfl)) rfl rfl hl.1 rfl (lv_room (Nat.le_of_ble_eq_true rfl)) nd_S_takeStep_52 ⟨Nat.le_of_ble_eq_true rfl, Nat.le_of_ble_eq_true rfl⟩) hD hS hA (fun H locs hP hD hS => ?_)
    refine lv_istore_n (lv' := [(1, .int r52), (0, .ref (h 0))]) hx hb nd_S_takeStep_55 rfl hl (by decide) rfl (fun ls hl => ?_)
    exact J56 r52 u52 H locs ls hP hD hS (lv_sub hl [1, 0] rfl) hw
  have hw := (if_neg h17).symm.trans hw
  refine lv_aload_n hx hb nd_S_takeStep_20 rfl (lv_at hl 0 rfl) ?_
  refine lv_iconst (v := (0 : Int32)) hx hb nd_S_takeStep_21 (by decide) ?_
  obtain ⟨u22, hq22, hw⟩ := bnv_i hw
  refine my_cv (wd := wSC h cA) (F := u22) (va_runV (As := [.int (0 : Int32)]) (rest := []) ⟨hx, hb, hml, hown, hts⟩ (c_S_enterException l D h cA (sU u 0 7 ((u 0 7) + (1 : Int32))) (0 : Int32) u22 hq22 _) ⟨callB_of 1 hts (gw_in gw_136) rfl rfl rfl (hts _ gw_1) (hts _ gw_133) nh_S_enterException ⟨Nat.le_of_ble_eq_true rfl, Nat.le_of_ble_eq_true rfl⟩, (hts _ gw_135), (hts _ gw_134)⟩ (my_preV nwOk hP hK hD hN (va_recv hK hP (ci := 0) (q0 := 0) rfl rfl)) rfl rfl hl.1 rfl (lv_room (Nat.le_of_ble_eq_true rfl)) nd_S_takeStep_22 ⟨Nat.le_of_ble_eq_true rfl, Nat.le_of_ble_eq_true rfl⟩) hD hS hA (fun H locs hP hD hS => ?_)
  refine lv_iconst (v := (2 : Int32)) hx hb nd_S_takeStep_25 (by decide) ?_
  exact my_ri (u' := u22) (v := (2 : Int32)) hx hb hr hlocks hK hP hD hS hw nd_S_takeStep_26
set_option maxHeartbeats 4000000 in
set_option maxRecDepth 100000 in
theorem c_S_step (l : Launch) (D : va_G) (h : Nat → Nat) (cA : Nat → ClassId) (u : St) (F : Int32 × St) (hw : f_S_step u = F) : MI nwS vwCl l ny_S_step nw_S_step ({ frames := 6, cells := 0, slots := 0, locals := 134 }) D (tyI cA) (wSC h cA) ([.ref (h 0)] : List Value) u F := by
  refine my_in (gw := GW) (cc := nc_S_step) (maxL := 1) (ret := (some .int)) (Qc := fun A => QI vwCl D (tyI cA) (wSC h cA) F A) (by decide) rfl (Nat.le_of_ble_eq_true rfl) ?_
  intro p e s m below meth c A H locs ls hx hb hml hr hts hown hlocks hK hN hA hP hD hS hl
  have hown : s.vm.findClass nR_S = some m.cls := hown
  have hl : lv_has ls 1 [(0, .ref (h 0))] := hl
  unfold f_S_step at hw
  refine lv_aload_n hx hb nd_S_step_0 rfl (lv_at hl 0 rfl) ?_
  obtain ⟨r1, u1, hq1, hw⟩ := bnd_i hw
  refine my_ci (wd := wSC h cA) (r := r1) (u' := u1) (va_runV (As := []) (rest := []) ⟨hx, hb, hml, hown, hts⟩ (c_S_takeStep l D h cA u (r1, u1) hq1 _) ⟨callB_of 0 hts (gw_in gw_124) rfl rfl rfl (hts _ gw_1) (hts _ gw_121) nh_S_takeStep ⟨Nat.le_of_ble_eq_true rfl, Nat.le_of_ble_eq_true rfl⟩, (hts _ gw_123), (hts _ gw_122)⟩ (my_preV nwOk hP hK hD hN (va_recv hK hP (ci := 0) (q0 := 0) rfl rfl)) rfl rfl hl.1 rfl (lv_room (Nat.le_of_ble_eq_true rfl)) nd_S_step_1 ⟨Nat.le_of_ble_eq_true rfl, Nat.le_of_ble_eq_true rfl⟩) hD hS hA (fun H locs hP hD hS => ?_)
  exact my_ri (u' := u1) (v := r1) hx hb hr hlocks hK hP hD hS hw nd_S_step_4
end
