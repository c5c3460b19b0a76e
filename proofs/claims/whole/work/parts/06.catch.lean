/-! The catch: the search through a method's table, its classes resolved or not yet. -/
section SDC
variable {e : Env} {s : State} {f : JFrame} {a : Addr} {Q : Handler → Pre} {E : CtlPost} {d : Bool} {acts : List Action}
theorem sd_goYes {x : ExceptionTableEntry} {t : List ExceptionTableEntry} {k : ClassId} {cell : Cell} (hx : covers x f.pc = true) (h0 : x.catchType ≠ 0) (hl : s.vm.ClassLinks e.platform f.method.cls x.catchType k) (hcell : s.heap[a]? = some cell)
    (hobj : ∀ z, cell.vm ≠ .statics z) (hk1 : ∃ z, s.vm.classes[cell.cls]? = some z) (hk2 : ∃ z, s.vm.classes[k]? = some z) (hfit : s.vm.assignable cell.cls k = true) :
    wp (findHandler.go f a (x :: t)) Q E e d acts s ↔ Q (.found x.handlerPc) d acts (s.setVm (s.vm.noted f.method.cls x.catchType (.cls k))) := by
  simp only [covers] at hx
  obtain ⟨g1, g2⟩ := (resolveClass_links e.toSetting hl).op (op := VmOp.resolveClass f.method.cls x.catchType) rfl
  have hal : s.vm.Alike (s.vm.noted f.method.cls x.catchType (.cls k)) := (Vm.Alike.refl s.vm).noted _ _ _
  obtain ⟨k1, hk1⟩ := hk1
  obtain ⟨k2, hk2⟩ := hk2
  obtain ⟨k1', hk1', -⟩ := hal.2.2 _ _ hk1
  obtain ⟨k2', hk2', -⟩ := hal.2.2 _ _ hk2
  have hfit' : (s.vm.noted f.method.cls x.catchType (.cls k)).assignable cell.cls k = true := by rw [hal.assignable]; exact hfit
  simp [findHandler.go, hx, h0, g1, g2, hcell, hobj, hk1', hk2', hfit', VmOp.dirties, VmOp.acts]
theorem sd_goNo {x : ExceptionTableEntry} {t : List ExceptionTableEntry} {k : ClassId} {cell : Cell} (hx : covers x f.pc = true) (h0 : x.catchType ≠ 0) (hl : s.vm.ClassLinks e.platform f.method.cls x.catchType k) (hcell : s.heap[a]? = some cell)
    (hobj : ∀ z, cell.vm ≠ .statics z) (hk1 : ∃ z, s.vm.classes[cell.cls]? = some z) (hk2 : ∃ z, s.vm.classes[k]? = some z) (hfit : s.vm.assignable cell.cls k = false) :
    wp (findHandler.go f a (x :: t)) Q E e d acts s ↔ wp (findHandler.go f a t) Q E e d acts (s.setVm (s.vm.noted f.method.cls x.catchType (.cls k))) := by
  simp only [covers] at hx
  obtain ⟨g1, g2⟩ := (resolveClass_links e.toSetting hl).op (op := VmOp.resolveClass f.method.cls x.catchType) rfl
  have hal : s.vm.Alike (s.vm.noted f.method.cls x.catchType (.cls k)) := (Vm.Alike.refl s.vm).noted _ _ _
  obtain ⟨k1, hk1⟩ := hk1
  obtain ⟨k2, hk2⟩ := hk2
  obtain ⟨k1', hk1', -⟩ := hal.2.2 _ _ hk1
  obtain ⟨k2', hk2', -⟩ := hal.2.2 _ _ hk2
  have hfit' : (s.vm.noted f.method.cls x.catchType (.cls k)).assignable cell.cls k = false := by rw [hal.assignable]; exact hfit
  simp [findHandler.go, hx, h0, g1, g2, hcell, hobj, hk1', hk2', hfit', VmOp.dirties, VmOp.acts]
end SDC
/-- the search ends so, and leaves these tables -/
def sd_Finds (e : Env) (s : State) (f : JFrame) (a : Addr) (h : Handler) (vm' : Vm) : Prop :=
  ∀ (Q : Handler → Pre) (E : CtlPost) (d : Bool) (acts : List Action), wp (findHandler f a) Q E e d acts s ↔ Q h d acts (s.setVm vm')
theorem sd_stepCatch {e : Env} {s : State} {a : Addr} {f : JFrame} {r : List Frame} {pc : Nat} {vm' : Vm} (hfind : sd_Finds e s f a (.found pc) vm') :
    (stepThrowing e s a (.java f :: r)).Is ((s.setVm vm').setFrames (.java { f with pc := pc, stack := [.ref a] } :: r)) [] := by
  simp only [stepThrowing, searchFrame, vmDo]
  generalize hr : Sem.go _ e false [] s = res
  obtain ⟨as, rfl, ha⟩ := Sem.eq_ok_of hr (a := Handler.found pc) (s' := s.setVm vm') (acts' := []) (by simp [hfind _ _ _ _])
  exact ⟨rfl, ha⟩
theorem sd_caught {tb : Tables} {e : Env} {s target : State} {g : JFrame} {c : Code} {below : List Frame} {a : Addr} (h : At s g.method c below) {pc : Nat} {vm' : Vm}
    (hfind : sd_Finds e ((s.setTop g).pushFrame (.throwing a)) g a (.found pc) vm') (hrest : Steps tb e below ((s.setVm vm').setTop { g with pc := pc, stack := [.ref a] }) target) :
    Steps tb e below ((s.setTop g).pushFrame (.throwing a)) target := by
  obtain ⟨hgo, hw⟩ := h.throwing a
  refine Steps.head hgo hw ?_
  rw [stepThread_throwing (frames_entered h.top _), (sd_stepCatch (s := (s.setTop g).pushFrame (.throwing a)) hfind).1]
  obtain ⟨g₀, hg⟩ := Option.isSome_iff_exists.mp h.top
  obtain ⟨r, hr⟩ := State.topJava?_eq_some.mp hg
  have hr' : (s.setVm vm').frames = .java g₀ :: r := hr
  have key : ∀ (u : State) (F G : List Frame), ((u.setFrames F).setVm vm').setFrames G = (u.setVm vm').setFrames G := by
    intro u F G
    have h1 : (u.setFrames F).setVm vm' = (u.setVm vm').setFrames F := rfl
    rw [h1, State.setFrames_setFrames]
  rw [State.setTop_of_frames _ hr'] at hrest
  rw [hr, List.tail_cons, State.pushFrame, key, State.setTop_of_frames _ hr, key]
  exact hrest
section SDD
variable {p : Program} {l : Launch} {e : Env} {R : Room} {s : State} {m : MethodId} {args : Array Value} {below : List Frame} {meth : Method} {c : Code} {H : Heap} {locs : List Loc} {cells slots : Nat} {Q : State → Prop} {pc : Nat} {ls : Array Slot} {st : List Value}
/-- the first row catches -/
theorem sd_catch1 {own cls : String} {x : ExceptionTableEntry} {t : List ExceptionTableEntry} (htbl : c.exceptionTable.toList = x :: t) (hown : s.vm.findClass own = some m.cls) (hx : covers x pc = true) (h0 : x.catchType ≠ 0)
    (hlink : (Cond.classLink own x.catchType cls).before args s = true) (hcast : (Cond.castable cls cls).before args s = true)
    (kk : ∀ (H1 : Heap) (q : Nat), H.size ≤ H1.size → (∀ a : Nat, a < H.size → H1[a]? = H[a]?) → W p l e R s m args below meth c H1 locs (cells + 1) (slots + 6) Q (F0 m x.handlerPc ls [.ref q])) :
    sd_Note p l e R s m args below meth c H locs cells slots Q (F0 m pc ls st) cls := by
  intro q ce T' X h1 h2 h3 h4 h5
  have hpl : e.platform.magicAccessors = ({} : Platform).magicAccessors := by rw [X.admits.platform]
  obtain ⟨k, hk, hcl⟩ := Cond.classLink_spec hown hlink e.platform hpl
  cases h2.symm.trans hk
  obtain ⟨c3, c4, hc3, hc4, hasg⟩ := Cond.castable_spec hcast
  cases hc3.symm.trans h2
  cases hc4.symm.trans h2
  obtain ⟨dk, _, _, kt, hd, _, _, _, _, hkt, _, hopen⟩ := hcl.here
  have hW' : s.WarmedH (T'.vm.noted m.cls x.catchType (.cls ce.cls)) := X.warmed.noted hd hopen (State.rightAt_cls hcl)
  have hal := X.warmed.alike
  obtain ⟨kt', hkt', -⟩ := hal.2.2 _ _ hkt
  have hfit' : T'.vm.assignable ce.cls ce.cls = true := by rw [hal.assignable]; exact hasg
  obtain ⟨u, a1, b1⟩ := kk T'.heap q h4 h5 (T'.setVm (T'.vm.noted m.cls x.catchType (.cls ce.cls))) rfl (X.noted hW')
  refine ⟨u, sd_caught (g := F0 m pc ls st) (pc := x.handlerPc) (vm' := T'.vm.noted m.cls x.catchType (.cls ce.cls)) X.here ?_ a1, b1⟩
  intro Q' E d acts
  rw [W.findHandler_eq (s := (T'.setTop (F0 m pc ls st)).pushFrame (.throwing q)) (f := F0 m pc ls st) X.method' X.code, htbl]
  exact sd_goYes (s := (T'.setTop (F0 m pc ls st)).pushFrame (.throwing q)) (f := F0 m pc ls st) hx h0 (X.warmed.classLinks hcl) h1 (VmData.ne_statics_of h3) ⟨kt', hkt'⟩ ⟨kt', hkt'⟩ hfit'
/-- the first row passes, the second catches -/
theorem sd_catch2 {own cls other : String} {x y : ExceptionTableEntry} {t : List ExceptionTableEntry} (htbl : c.exceptionTable.toList = x :: y :: t) (hown : s.vm.findClass own = some m.cls) (hx : covers x pc = true) (h0 : x.catchType ≠ 0) (hy : covers y pc = true) (hy0 : y.catchType ≠ 0)
    (hlink : (Cond.classLink own x.catchType other).before args s = true) (hlink2 : (Cond.classLink own y.catchType cls).before args s = true) (hno : va_Nc cls other s) (hcast : (Cond.castable cls cls).before args s = true)
    (kk : ∀ (H1 : Heap) (q : Nat), H.size ≤ H1.size → (∀ a : Nat, a < H.size → H1[a]? = H[a]?) → W p l e R s m args below meth c H1 locs (cells + 1) (slots + 6) Q (F0 m y.handlerPc ls [.ref q])) :
    sd_Note p l e R s m args below meth c H locs cells slots Q (F0 m pc ls st) cls := by
  intro q ce T' X h1 h2 h3 h4 h5
  have hpl : e.platform.magicAccessors = ({} : Platform).magicAccessors := by rw [X.admits.platform]
  obtain ⟨ko, hko, hclo⟩ := Cond.classLink_spec hown hlink e.platform hpl
  obtain ⟨k, hk, hcl⟩ := Cond.classLink_spec hown hlink2 e.platform hpl
  cases h2.symm.trans hk
  obtain ⟨c3, c4, hc3, hc4, hasg⟩ := Cond.castable_spec hcast
  cases hc3.symm.trans h2
  cases hc4.symm.trans h2
  obtain ⟨n1, n2, hn1, hn2, hn3⟩ := hno
  cases hn1.symm.trans h2
  have hkn : n2 = ko := Option.some.inj (hn2.symm.trans hko)
  subst hkn
  obtain ⟨do_, _, _, kto, hdo, _, _, _, _, hkto, _, hopeno⟩ := hclo.here
  obtain ⟨dk, _, _, kt, hd, _, _, _, _, hkt, _, hopen⟩ := hcl.here
  have hWo : s.WarmedH (T'.vm.noted m.cls x.catchType (.cls n2)) := X.warmed.noted hdo hopeno (State.rightAt_cls hclo)
  have hW' : s.WarmedH ((T'.vm.noted m.cls x.catchType (.cls n2)).noted m.cls y.catchType (.cls ce.cls)) := hWo.noted hd hopen (State.rightAt_cls hcl)
  have hal := X.warmed.alike
  have halo := hWo.alike
  obtain ⟨kt', hkt', -⟩ := hal.2.2 _ _ hkt
  obtain ⟨kto', hkto', -⟩ := hal.2.2 _ _ hkto
  obtain ⟨kt2, hkt2, -⟩ := halo.2.2 _ _ hkt
  have hno' : T'.vm.assignable ce.cls n2 = false := by rw [hal.assignable]; exact hn3
  have hfit' : (T'.vm.noted m.cls x.catchType (.cls n2)).assignable ce.cls ce.cls = true := by rw [halo.assignable]; exact hasg
  obtain ⟨u, a1, b1⟩ := kk T'.heap q h4 h5 (T'.setVm ((T'.vm.noted m.cls x.catchType (.cls n2)).noted m.cls y.catchType (.cls ce.cls))) rfl (X.noted hW')
  refine ⟨u, sd_caught (g := F0 m pc ls st) (pc := y.handlerPc) (vm' := (T'.vm.noted m.cls x.catchType (.cls n2)).noted m.cls y.catchType (.cls ce.cls)) X.here ?_ a1, b1⟩
  intro Q' E d acts
  rw [W.findHandler_eq (s := (T'.setTop (F0 m pc ls st)).pushFrame (.throwing q)) (f := F0 m pc ls st) X.method' X.code, htbl]
  rw [sd_goNo (s := (T'.setTop (F0 m pc ls st)).pushFrame (.throwing q)) (f := F0 m pc ls st) hx h0 (X.warmed.classLinks hclo) h1 (VmData.ne_statics_of h3) ⟨kt', hkt'⟩ ⟨kto', hkto'⟩ hno']
  exact sd_goYes (s := ((T'.setTop (F0 m pc ls st)).pushFrame (.throwing q)).setVm (T'.vm.noted m.cls x.catchType (.cls n2))) (f := F0 m pc ls st) hy hy0 (hWo.classLinks hcl) h1 (VmData.ne_statics_of h3) ⟨kt2, hkt2⟩ ⟨kt2, hkt2⟩ hfit'
end SDD
