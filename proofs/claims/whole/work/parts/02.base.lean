/-! words for the state, the pure functions' joints, the contracts' forms, rows for calls and returns -/
abbrev St : Type := Nat → Nat → Int32
def sU (u : St) (i k : Nat) (v : Int32) : St := fun j => if j = i then upd (u i) k v else u j
def zb (x : Int32) : Int32 := if x = 0 then 0 else 1
def ush (x y : Int32) : Int32 := (x.toUInt32 >>> (y.toUInt32 &&& Int32.toUInt32 31)).toInt32
def inb (i : Int32) (n : Nat) : Bool := decide (0 ≤ i.toInt) && decide (i.toInt < n)
def fuel : Nat := 6000
def bnv {α β : Type} (x : α) (k : α → β) : β := k x
def bnd {α β γ : Type} (x : α × β) (k : α → β → γ) : γ := k x.1 x.2
def obv {α β : Type} (x : Option α) (k : α → Option β) : Option β := match x with | none => none | some a => k a
def obn {α β γ : Type} (x : Option (α × β)) (k : α → β → Option γ) : Option γ := match x with | none => none | some a => k a.1 a.2
theorem bnv_i {α β : Type} {x : α} {k : α → β} {t : β} (h : bnv x k = t) : ∃ a, x = a ∧ k a = t := ⟨x, rfl, h⟩
theorem bnd_i {α β γ : Type} {x : α × β} {k : α → β → γ} {t : γ} (h : bnd x k = t) : ∃ a b, x = (a, b) ∧ k a b = t := ⟨x.1, x.2, rfl, h⟩
theorem obv_i {α β : Type} {x : Option α} {k : α → Option β} {t : β} (h : obv x k = some t) : ∃ a, x = some a ∧ k a = some t := by
  cases x with
  | none => cases h
  | some a => exact ⟨a, rfl, h⟩
theorem obn_i {α β γ : Type} {x : Option (α × β)} {k : α → β → Option γ} {t : γ} (h : obn x k = some t) : ∃ a b, x = some (a, b) ∧ k a b = some t := by
  cases x with
  | none => cases h
  | some a => exact ⟨a.1, a.2, rfl, h⟩
theorem inb_i {i : Int32} {n : Nat} {α : Type} {A : Option α} {t : α} (h : (if inb i n then A else none) = some t) : vp_in i n ∧ A = some t := by
  by_cases hc : inb i n = true
  · rw [if_pos hc] at h
    refine ⟨vp_in_iff.mpr ?_, h⟩
    simp [inb] at hc
    exact hc
  · rw [if_neg hc] at h
    cases h
theorem nz_i {y : Int64} {α : Type} {A : Option α} {t : α} (h : (if y = 0 then none else A) = some t) : ¬ y = 0 ∧ A = some t := by
  by_cases hc : y = 0
  · rw [if_pos hc] at h
    cases h
  · rw [if_neg hc] at h
    exact ⟨hc, h⟩
theorem my_em {x : Int32} (v : Int32) : x = v ∨ ¬ x = v := Decidable.em _
theorem zb_n (x : Int32) : narrow .boolean (.int (zb x)) = .int (zb x) := by
  unfold zb
  split <;> rfl
theorem zb_f (x : Int32) : fits .boolean (.int (zb x)) = true := by
  unfold zb
  split <;> rfl
def my_ne (x : Int32) : List Int32 → Prop
  | [] => True
  | v :: t => (¬ x = v) ∧ my_ne x t
theorem my_nen {x : Int32} : my_ne x [] := trivial
theorem my_nec {x v : Int32} {t : List Int32} (h : ¬ x = v) (ht : my_ne x t) : my_ne x (v :: t) := ⟨h, ht⟩
theorem my_ne_mem {x : Int32} : ∀ {l : List Int32}, my_ne x l → ∀ v ∈ l, ¬ x = v
  | [], _, v, hv => by cases hv
  | a :: l, h, v, hv => by
    rcases List.mem_cons.mp hv with e | hv
    · rw [e]; exact h.1
    · exact my_ne_mem h.2 v hv
def D0 : va_G := (fun _ => 0, fun _ _ => 0)
/-! what is said of the links across the nest -/
def NWo : Cond → Bool
  | .fieldLinkNest _ _ _ _ _ _ => true
  | .methodLinkNest _ _ _ _ => true
  | _ => false
def NW (nw : List Cond) (U : State) : Prop := ∀ w ∈ nw, va_Nw w U
theorem NW.warm {nw : List Cond} {s U : State} (hn : nw.all NWo = true) (hW : s.WarmedH U.vm) (h : NW nw s) : NW nw U := by
  intro w hw
  have h1 := List.all_eq_true.mp hn w hw
  have h2 := h w hw
  unfold NWo at h1
  split at h1
  · exact va_Nw.warmF hW h2
  · exact va_Nw.warmM hW h2
  · cases h1
theorem NW.same {nw : List Cond} {s U : State} (hn : nw.all NWo = true) (hv : s.vm = U.vm) (h : NW nw s) : NW nw U := by
  intro w hw
  have h1 := List.all_eq_true.mp hn w hw
  have h2 := h w hw
  unfold NWo at h1
  split at h1
  · exact va_Nw.same rfl hv h2
  · exact va_Nw.same rfl hv h2
  · cases h1
section MY
variable {p : Program} {l : Launch} {e : Env} {R : Room} {s : State} {m : MethodId} {args : Array Value} {below : List Frame} {meth : Method} {c : Code} {H : Heap} {locs : List Loc} {cells slots : Nat} {Q : State → Prop}
variable {cc : ByteArray} {pc : Nat} {ls : Array Slot} {rest : List Value}
theorem my_swi (hexec : p.tables.exec = Jvm.exec) (hb : c.code = cc) {dflt lo hi : Int} {offs : Array Int} {len : Nat} {x v : Int32} {off : Int} {tgt : Nat} (hdg : decode cc pc = .ok (.tableswitch dflt lo hi offs, len)) (h : x = v) (h1 : ¬ v.toInt < lo) (h2 : ¬ hi < v.toInt) (ho : offs[(v.toInt - lo).toNat]? = some off) (ht : (pc : Int) + off = (tgt : Int))
    (k : W p l e R s m args below meth c H locs cells slots Q (F0 m tgt ls rest)) : W p l e R s m args below meth c H locs cells slots Q (F0 m pc ls (.int x :: rest)) := by
  subst h
  exact lv_tableIn hexec hb hdg h1 h2 ho ht k
theorem my_swd (hexec : p.tables.exec = Jvm.exec) (hb : c.code = cc) {dflt lo hi : Int} {offs : Array Int} {len : Nat} {x : Int32} {tgt : Nat} {lb : List Int32} (hdg : decode cc pc = .ok (.tableswitch dflt lo hi offs, len)) (hl : my_ne x lb)
    (hall : (List.range (hi - lo + 1).toNat).all (fun j => decide (offs[j]? = some dflt) || lb.any (fun v => decide (v.toInt = lo + j))) = true) (ht : (pc : Int) + dflt = (tgt : Int))
    (k : W p l e R s m args below meth c H locs cells slots Q (F0 m tgt ls rest)) : W p l e R s m args below meth c H locs cells slots Q (F0 m pc ls (.int x :: rest)) := by
  by_cases h1 : x.toInt < lo
  · exact lv_tableOut hexec hb hdg (Or.inl h1) ht k
  by_cases h2 : hi < x.toInt
  · exact lv_tableOut hexec hb hdg (Or.inr h2) ht k
  have h3 := List.all_eq_true.mp hall (x.toInt - lo).toNat (List.mem_range.mpr (by omega))
  rcases Bool.or_eq_true_iff.mp h3 with h4 | h4
  · exact lv_tableIn hexec hb hdg h1 h2 (of_decide_eq_true h4) ht k
  · obtain ⟨v, hv, h5⟩ := List.any_eq_true.mp h4
    have h6 : v.toInt = lo + ((x.toInt - lo).toNat : Int) := of_decide_eq_true h5
    have h7 : x = v := Int32.toInt_inj.mp (by omega)
    exact absurd h7 (my_ne_mem hl v hv)
end MY
theorem goodIn_sub9 {big : List Cond} {d : Cond} (hm : ∀ w ∈ d :: big, w ∈ big) (h : big.all goodWord = true) (hd : d ∈ big) : GoodIn big (d :: big) :=
  fun w hw => ⟨hm w hw, good_of_word (List.all_eq_true.mp h w (hm w hw))⟩
/-- the cells that a method may change are its caller's -/
theorem my_fr {A : Nat → Prop} {ws : va_W} {H0 H : Heap} {locs : List Loc} (hD : va_D A ws) (hS : va_S A H0 H locs) (hA : ∀ q, H0.size ≤ q → A q) : ∀ q, va_A ws H.size q → A q :=
  fun q h => h.elim (fun ⟨k, e, hk⟩ => hD.2 k (q, e) hk) (fun h => hA q (Nat.le_trans hS.1 h))
/-- the world at a method's start, at its end -/
abbrev WB (nw : List Cond) (cl : List vw_C) (D : va_G) (ty : List (ClassId × FieldType)) (ws : va_W) (sz : Nat) (U : State) : Prop := U.heap.size = sz ∧ va_P D cl ws U.heap ∧ va_K D cl ty U ∧ va_D (fun _ => True) ws ∧ NW nw U
abbrev WA (cl : List vw_C) (D : va_G) (ty : List (ClassId × FieldType)) (A : Nat → Prop) (ws : va_W) (t : State) : Prop := va_P D cl ws t.heap ∧ va_K D cl ty t ∧ va_D A ws
abbrev QI (cl : List vw_C) (D : va_G) (ty : List (ClassId × FieldType)) (wd : St → va_W) (F : Int32 × St) (A : Nat → Prop) : Array Value → State → Outcome → State → Prop := va_Qi (fun r u' => r = F.1 ∧ u' = F.2) (fun u' t => WA cl D ty A (wd u') t) A
abbrev QV (cl : List vw_C) (D : va_G) (ty : List (ClassId × FieldType)) (wd : St → va_W) (F : St) (A : Nat → Prop) : Array Value → State → Outcome → State → Prop := va_Qv (fun u' => u' = F) (fun u' t => WA cl D ty A (wd u') t) A
abbrev QP (F : Int32) : Array Value → State → Outcome → State → Prop := va_Qi (fun r (_ : Unit) => r = F) (fun _ _ => True) (fun _ => False)
abbrev QL (F : Int64) : Array Value → State → Outcome → State → Prop := va_Ql (fun r (_ : Unit) => r = F) (fun _ _ => True) (fun _ => False)
/-- a contract of a method that may change the world's cells, makes none, answers an int; answers nothing; of one that has no world -/
def MI (nw : List Cond) (cl : List vw_C) (l : Launch) (y : MethodName) (ws : List Cond) (rm : Room) (D : va_G) (ty : List (ClassId × FieldType)) (wd : St → va_W) (av : List Value) (u : St) (F : Int32 × St) : Prop :=
  ∀ sz : Nat, Met l y ws rm (va_Pc av (WB nw cl D ty (wd u) sz)) (QI cl D ty wd F (va_A (wd u) sz)) 0 0 (va_A (wd u) sz)
def MV (nw : List Cond) (cl : List vw_C) (l : Launch) (y : MethodName) (ws : List Cond) (rm : Room) (D : va_G) (ty : List (ClassId × FieldType)) (wd : St → va_W) (av : List Value) (u : St) (F : St) : Prop :=
  ∀ sz : Nat, Met l y ws rm (va_Pc av (WB nw cl D ty (wd u) sz)) (QV cl D ty wd F (va_A (wd u) sz)) 0 0 (va_A (wd u) sz)
def MP (l : Launch) (y : MethodName) (ws : List Cond) (rm : Room) (av : List Value) (F : Int32) : Prop := Met l y ws rm (va_Pc av (fun _ => True)) (QP F) 0 0 (fun _ => False)
def ML (l : Launch) (y : MethodName) (ws : List Cond) (rm : Room) (av : List Value) (F : Int64) : Prop := Met l y ws rm (va_Pc av (fun _ => True)) (QL F) 0 0 (fun _ => False)
theorem my_in {nw : List Cond} {cl : List vw_C} {l : Launch} {y : MethodName} {ws gw : List Cond} {rm : Room} {D : va_G} {ty : List (ClassId × FieldType)} {wd : St → va_W} {av : List Value} {u : St} {cc : ByteArray} {maxL : Nat} {ret : Option FieldType} {Qc : (Nat → Prop) → Array Value → State → Outcome → State → Prop}
    (hy : plainName y.cls = true) (hw : ws = Cond.code y cc maxL ret :: gw) (hlen : (lg_sl av).length ≤ maxL)
    (body : ∀ (p : Program) (e : Env) (s : State) (m : MethodId) (below : List Frame) (meth : Method) (c : Code) (A : Nat → Prop) (H : Heap) (locs : List Loc) (ls : Array Slot), p.tables.exec = Jvm.exec → c.code = cc → c.maxLocals = maxL → meth.sig.returnType = ret → (∀ w ∈ gw, w.before av.toArray s = true) → s.vm.findClass y.cls = some m.cls → meth.locks = false → va_K D cl ty s → NW nw s → (∀ q, s.heap.size ≤ q → A q) → va_P D cl (wd u) H → va_D A (wd u) → va_S A s.heap H locs → lv_has ls maxL (lv_args 0 av) →
      W p l e (headSpec ws rm).room s m av.toArray below meth c H locs 0 0 (MQ below (Qc A) av.toArray s 0 0 A) (F0 m 0 ls [])) :
    ∀ sz : Nat, Met l y ws rm (va_Pc av (WB nw cl D ty (wd u) sz)) (Qc (va_A (wd u) sz)) 0 0 (va_A (wd u) sz) := by
  intro sz
  refine Met.ofW (cc := cc) (maxL := maxL) (ret := ret) hy hw ?_
  intro p e s m args below meth c s₁ B hml hv
  obtain ⟨rfl, hsz, hP, hK, hD0, hN⟩ := hv
  have hts : ∀ w ∈ gw, w.before av.toArray s = true := fun w h => atoms_spec (ws := ws) B.pre w (by rw [hw]; exact List.mem_cons_of_mem _ h)
  have hown : s.vm.findClass y.cls = some m.cls := findClass_of_methodNamed B.named
  subst hsz
  have hD := hD0.self (sz := s.heap.size)
  have hl := lv_entry av (n := maxL) hlen
  rw [lg_entry_eq]
  exact body p e s m below meth c (va_A (wd u) s.heap.size) s.heap [] _ B.exec B.bytes hml B.returns hts hown B.notSynchronized hK hN (fun q h => Or.inr h) hP hD va_S.rf hl
theorem my_inP {l : Launch} {y : MethodName} {ws gw : List Cond} {rm : Room} {av : List Value} {cc : ByteArray} {maxL : Nat} {ret : Option FieldType} {Qc : Array Value → State → Outcome → State → Prop}
    (hy : plainName y.cls = true) (hw : ws = Cond.code y cc maxL ret :: gw) (hlen : (lg_sl av).length ≤ maxL)
    (body : ∀ (p : Program) (e : Env) (s : State) (m : MethodId) (below : List Frame) (meth : Method) (c : Code) (H : Heap) (locs : List Loc) (ls : Array Slot), p.tables.exec = Jvm.exec → c.code = cc → c.maxLocals = maxL → meth.sig.returnType = ret → (∀ w ∈ gw, w.before av.toArray s = true) → s.vm.findClass y.cls = some m.cls → meth.locks = false → va_S (fun _ => False) s.heap H locs → lv_has ls maxL (lv_args 0 av) →
      W p l e (headSpec ws rm).room s m av.toArray below meth c H locs 0 0 (MQ below Qc av.toArray s 0 0 (fun _ => False)) (F0 m 0 ls [])) :
    Met l y ws rm (va_Pc av (fun _ => True)) Qc 0 0 (fun _ => False) := by
  refine Met.ofW (cc := cc) (maxL := maxL) (ret := ret) hy hw ?_
  intro p e s m args below meth c s₁ B hml hv
  obtain ⟨rfl, -⟩ := hv
  have hts : ∀ w ∈ gw, w.before av.toArray s = true := fun w h => atoms_spec (ws := ws) B.pre w (by rw [hw]; exact List.mem_cons_of_mem _ h)
  have hown : s.vm.findClass y.cls = some m.cls := findClass_of_methodNamed B.named
  have hl := lv_entry av (n := maxL) hlen
  rw [lg_entry_eq]
  exact body p e s m below meth c s.heap [] _ B.exec B.bytes hml B.returns hts hown B.notSynchronized va_S.rf hl
section MYR
variable {p : Program} {l : Launch} {e : Env} {R : Room} {s : State} {m : MethodId} {args : Array Value} {below : List Frame} {meth : Method} {c : Code} {H : Heap} {locs : List Loc} {cells slots : Nat} {Q : State → Prop}
variable {cc : ByteArray} {pc : Nat} {ls : Array Slot} {rest st0 : List Value} {a : Array Value} {cl : List vw_C} {nw : List Cond} {D : va_G} {ty : List (ClassId × FieldType)} {wd : St → va_W} {A : Nat → Prop} {H0 : Heap} {u u' : St} {v : Int32}
theorem my_ri {F : Int32 × St} (hexec : p.tables.exec = Jvm.exec) (hb : c.code = cc) (hr : meth.sig.returnType = some .int) (hlocks : meth.locks = false) (hK : va_K D cl ty s) (hP : va_P D cl (wd u') H) (hD : va_D A (wd u')) (hS : va_S A s.heap H locs) (hF : (v, u') = F) (hdg : decode cc pc = .ok (.ireturn, 1)) :
    W p l e R s m args below meth c H locs cells slots (MQ below (QI cl D ty wd F A) args s cells slots A) (F0 m pc ls [.int v]) := by
  subst hF
  exact W.iret hexec hb hr (fun t ht hW => ⟨⟨v, u', rfl, ⟨rfl, rfl⟩, by rw [ht]; exact hP, va_K.moved hW.alike hK, hD⟩, hS.F ht⟩) hS.2.2 hdg hlocks
theorem my_rz {F : Int32 × St} {x : Int32} (hexec : p.tables.exec = Jvm.exec) (hb : c.code = cc) (hr : meth.sig.returnType = some .boolean) (hlocks : meth.locks = false) (hK : va_K D cl ty s) (hP : va_P D cl (wd u') H) (hD : va_D A (wd u')) (hS : va_S A s.heap H locs) (hF : (x, u') = F) (hv : zb x = v) (hdg : decode cc pc = .ok (.ireturn, 1)) :
    W p l e R s m args below meth c H locs cells slots (MQ below (QI cl D ty wd (zb F.1, F.2) A) args s cells slots A) (F0 m pc ls [.int v]) := by
  subst hF
  subst hv
  exact W.zret hexec hb hr (zb_n x) (fun t ht hW => ⟨⟨zb x, u', rfl, ⟨rfl, rfl⟩, by rw [ht]; exact hP, va_K.moved hW.alike hK, hD⟩, hS.F ht⟩) hS.2.2 hdg hlocks
theorem my_rzo {F : Int32} {x : Int32} (hexec : p.tables.exec = Jvm.exec) (hb : c.code = cc) (hr : meth.sig.returnType = some .boolean) (hlocks : meth.locks = false) (hK : va_K D cl ty s) (hP : va_P D cl (wd u') H) (hD : va_D A (wd u')) (hS : va_S A s.heap H locs) (hF : x = F) (hv : zb x = v) (hdg : decode cc pc = .ok (.ireturn, 1)) :
    W p l e R s m args below meth c H locs cells slots (MQ below (QI cl D ty wd (zb F, u') A) args s cells slots A) (F0 m pc ls [.int v]) := by
  subst hF
  subst hv
  exact W.zret hexec hb hr (zb_n x) (fun t ht hW => ⟨⟨zb x, u', rfl, ⟨rfl, rfl⟩, by rw [ht]; exact hP, va_K.moved hW.alike hK, hD⟩, hS.F ht⟩) hS.2.2 hdg hlocks
theorem my_rv {F : St} (hexec : p.tables.exec = Jvm.exec) (hb : c.code = cc) (hr : meth.sig.returnType = none) (hlocks : meth.locks = false) (hK : va_K D cl ty s) (hP : va_P D cl (wd u') H) (hD : va_D A (wd u')) (hS : va_S A s.heap H locs) (hF : u' = F) (hdg : decode cc pc = .ok (.return_, 1)) :
    W p l e R s m args below meth c H locs cells slots (MQ below (QV cl D ty wd F A) args s cells slots A) (F0 m pc ls []) := by
  subst hF
  exact W.vret hexec hb hr (fun t ht hW => ⟨⟨u', rfl, rfl, by rw [ht]; exact hP, va_K.moved hW.alike hK, hD⟩, hS.F ht⟩) hS.2.2 hdg hlocks
theorem my_rp {F : Int32} (hexec : p.tables.exec = Jvm.exec) (hb : c.code = cc) (hr : meth.sig.returnType = some .int) (hlocks : meth.locks = false) (hS : va_S (fun _ => False) s.heap H locs) (hF : v = F) (hdg : decode cc pc = .ok (.ireturn, 1)) :
    W p l e R s m args below meth c H locs cells slots (MQ below (QP F) args s cells slots (fun _ => False)) (F0 m pc ls [.int v]) := by
  subst hF
  exact W.iret hexec hb hr (fun t ht hW => ⟨⟨v, (), rfl, rfl, trivial⟩, hS.F ht⟩) hS.2.2 hdg hlocks
theorem my_rpz {F x : Int32} (hexec : p.tables.exec = Jvm.exec) (hb : c.code = cc) (hr : meth.sig.returnType = some .boolean) (hlocks : meth.locks = false) (hS : va_S (fun _ => False) s.heap H locs) (hF : x = F) (hv : zb x = v) (hdg : decode cc pc = .ok (.ireturn, 1)) :
    W p l e R s m args below meth c H locs cells slots (MQ below (QP (zb F)) args s cells slots (fun _ => False)) (F0 m pc ls [.int v]) := by
  subst hF
  subst hv
  exact W.zret hexec hb hr (zb_n x) (fun t ht hW => ⟨⟨zb x, (), rfl, rfl, trivial⟩, hS.F ht⟩) hS.2.2 hdg hlocks
theorem my_rl {F v : Int64} (hexec : p.tables.exec = Jvm.exec) (hb : c.code = cc) (hr : meth.sig.returnType = some .long) (hlocks : meth.locks = false) (hS : va_S (fun _ => False) s.heap H locs) (hF : v = F) (hdg : decode cc pc = .ok (.lreturn, 1)) :
    W p l e R s m args below meth c H locs cells slots (MQ below (QL F) args s cells slots (fun _ => False)) (F0 m pc ls [.long v]) := by
  subst hF
  exact W.lret hexec hb hr (fun t ht hW => ⟨⟨v, (), rfl, rfl, trivial⟩, hS.F ht⟩) hS.2.2 hdg hlocks
theorem my_ci {r : Int32} (hr : va_Run p l e R s m args below meth c H locs cells slots 0 0 (F0 m pc ls st0) rest (QI cl D ty wd (r, u') (va_A (wd u) H.size) a) (va_A (wd u) H.size)) (hD : va_D A (wd u)) (hS : va_S A H0 H locs) (hA : ∀ q, H0.size ≤ q → A q)
    (kk : ∀ (H1 : Heap) (locs1 : List Loc), va_P D cl (wd u') H1 → va_D A (wd u') → va_S A H0 H1 locs1 → W p l e R s m args below meth c H1 locs1 cells slots Q (F0 m (pc + 3) ls (.int r :: rest))) : W p l e R s m args below meth c H locs cells slots Q (F0 m pc ls st0) := by
  refine va_calli hr hS (fun q _ h => my_fr hD hS hA q h) (my_fr hD hS hA) (fun r1 u1 t H1 locs1 ht hvm hp hB hz hk hS1 => ?_)
  obtain ⟨h1, h2⟩ := hp
  have h1 : r1 = r := h1
  have h2 : u1 = u' := h2
  subst h1
  subst h2
  obtain ⟨hP1, hK1, hD1⟩ := hB
  rw [ht] at hP1
  exact kk H1 locs1 hP1 (hD1.weaken (fun _ _ _ h => my_fr hD hS hA _ h)) hS1
theorem my_cv {F : St} (hr : va_Run p l e R s m args below meth c H locs cells slots 0 0 (F0 m pc ls st0) rest (QV cl D ty wd F (va_A (wd u) H.size) a) (va_A (wd u) H.size)) (hD : va_D A (wd u)) (hS : va_S A H0 H locs) (hA : ∀ q, H0.size ≤ q → A q)
    (kk : ∀ (H1 : Heap) (locs1 : List Loc), va_P D cl (wd F) H1 → va_D A (wd F) → va_S A H0 H1 locs1 → W p l e R s m args below meth c H1 locs1 cells slots Q (F0 m (pc + 3) ls rest)) : W p l e R s m args below meth c H locs cells slots Q (F0 m pc ls st0) := by
  refine va_callv hr hS (fun q _ h => my_fr hD hS hA q h) (my_fr hD hS hA) (fun u1 t H1 locs1 ht hvm hp hB hz hk hS1 => ?_)
  subst hp
  obtain ⟨hP1, hK1, hD1⟩ := hB
  rw [ht] at hP1
  exact kk H1 locs1 hP1 (hD1.weaken (fun _ _ _ h => my_fr hD hS hA _ h)) hS1
/-- a call of a method without a world: the caller's stays -/
theorem my_cp {ws : va_W} {F : Int32} (hr : va_Run p l e R s m args below meth c H locs cells slots 0 0 (F0 m pc ls st0) rest (QP F a) (fun _ => False)) (hP : va_P D cl ws H) (hS : va_S A H0 H locs)
    (kk : ∀ (H1 : Heap) (locs1 : List Loc), va_P D cl ws H1 → va_S A H0 H1 locs1 → W p l e R s m args below meth c H1 locs1 cells slots Q (F0 m (pc + 3) ls (.int F :: rest))) : W p l e R s m args below meth c H locs cells slots Q (F0 m pc ls st0) := by
  refine va_calli hr hS (fun q _ h => h.elim) (fun q h => h.elim) (fun r u1 t H1 locs1 ht hvm hp hB hz hk hS1 => ?_)
  subst hp
  exact kk H1 locs1 (hP.kept (fun k q hq => hk q.1 (va_at.lt (hP k q hq)) (fun h => h))) hS1
theorem my_cl {ws : va_W} {F : Int64} (hr : va_Run p l e R s m args below meth c H locs cells slots 0 0 (F0 m pc ls st0) rest (QL F a) (fun _ => False)) (hP : va_P D cl ws H) (hS : va_S A H0 H locs)
    (kk : ∀ (H1 : Heap) (locs1 : List Loc), va_P D cl ws H1 → va_S A H0 H1 locs1 → W p l e R s m args below meth c H1 locs1 cells slots Q (F0 m (pc + 3) ls (.long F :: rest))) : W p l e R s m args below meth c H locs cells slots Q (F0 m pc ls st0) := by
  refine va_calll hr hS (fun q _ h => h.elim) (fun q h => h.elim) (fun r u1 t H1 locs1 ht hvm hp hB hz hk hS1 => ?_)
  subst hp
  exact kk H1 locs1 (hP.kept (fun k q hq => hk q.1 (va_at.lt (hP k q hq)) (fun h => h))) hS1
theorem my_nil : va_P D cl [] H := fun k q h => by simp at h
theorem my_preP {As : List Value} : PreS s H (va_Pc As (fun _ => True)) As := ⟨fun a U g mk q => q, fun U hU hW => ⟨rfl, trivial⟩⟩
theorem my_preV {C : String} {b : Addr} {As : List Value} {ws : va_W} (hn : nw.all NWo = true) (hP : va_P D cl ws H) (hK : va_K D cl ty s) (hD : va_D A ws) (hN : NW nw s) (hrec : ∃ cellB : Cell, H[b]? = some cellB ∧ cellB.vm.isStatics = false ∧ s.vm.findClass C = some cellB.cls) :
    PreV s H C b (va_Pc (.ref b :: As) (WB nw cl D ty ws H.size)) As :=
  ⟨fun a U g mk q => by
      obtain ⟨q0, q1, qP, qK, qD, qN⟩ := q
      exact ⟨q0, q1, qP, va_K.moved (u := U) (U := U.calling g mk a) (Vm.Alike.refl U.vm) qK, qD, NW.same (s := U) (U := U.calling g mk a) hn rfl qN⟩,
    hrec, fun U hU hW => ⟨rfl, by rw [hU], by rw [hU]; exact hP, va_K.moved hW.alike hK, hD.weaken (fun _ _ _ _ => trivial), NW.warm hn hW hN⟩⟩
end MYR

