/-! Methods that throw: their contracts, a throw's own row, calls of them, and the catch. -/
theorem sd_same {s t : State} {k n : Nat} (h : s.sameButNew t [] k n) : s.heap.size ≤ t.heap.size ∧ ∀ q : Nat, q < s.heap.size → t.heap[q]? = s.heap[q]? := by
  refine ⟨h.2.1, fun q hq => ?_⟩
  obtain ⟨c', h1, h2, h3, h4⟩ := h.2.2.2.2.2 q s.heap[q] (Array.getElem?_eq_getElem hq)
  have h5 : c'.slots = s.heap[q].slots := by
    apply Array.ext_getElem?
    intro i
    exact h4 i (by simp)
  have h6 : c' = s.heap[q] := by rw [h2, h5]
  rw [h1, Array.getElem?_eq_getElem hq, h6]
/-- the end of a method that throws an object of the class cls, which is new; nothing that was there has changed -/
def sd_QT (cls : String) (st : State) (o : Outcome) (t : State) : Prop :=
  ∃ (x : Addr) (ce : Cell), o = .threw x ∧ t.heap[x]? = some ce ∧ st.vm.findClass cls = some ce.cls ∧ ce.vm.isStatics = false ∧ st.WarmedH t.vm ∧ st.sameButNew ({ t with vm := st.vm } : State) [] 1 6
def sd_MT (l : Launch) (y : MethodName) (ws : List Cond) (rm : Room) (Pc : Array Value → State → Prop) (cls : String) : Prop :=
  MetFree l y (headSpec ws rm) Pc (fun _ _ _ _ _ => True) (fun _ st o t => sd_QT cls st o t)
def sd_WT (below : List Frame) (cls : String) (s : State) : State → Prop := fun t => ∃ o, t.status = .running ∧ Ended t below o ∧ sd_QT cls s o t
theorem sd_MT.ofW {l : Launch} {y : MethodName} {ws ws' : List Cond} {rm : Room} {Pc : Array Value → State → Prop} {cls : String} {cc : ByteArray} {maxL : Nat} {ret : Option FieldType}
    (hy : plainName y.cls = true) (hw : ws = Cond.code y cc maxL ret :: ws')
    (body : ∀ p e s m args below meth c s₁, BodyLoose p l y (headSpec ws rm) cc maxL ret e s m args below meth c s₁ → c.maxLocals = maxL → c.exceptionTable.toList = [] → Pc args s →
      W p l e (headSpec ws rm).room s m args below meth c s.heap [] 0 0 (sd_WT below cls s) (entryFrame m args maxL)) : sd_MT l y ws rm Pc cls := by
  refine MetFree.of_bodyS (code := cc) (maxLocals := maxL) (ret := ret) hy ?_ ?_
  · intro args s m h hn
    obtain ⟨meth, c, h1, h2, h3, h4, h5, h6, -, -⟩ := Cond.code_spec hn (atoms_spec (ws := ws) h _ (by rw [hw]; exact List.mem_cons_self))
    exact ⟨meth, c, h1, h2, h3, h4, h5, h6⟩
  · intro p e s m args below meth c s₁ B hml hP _
    have hh0 : s₁.heap = s.heap := by rw [B.state]; rfl
    have X := Stand.of_body B
    obtain ⟨meth', c', q1, q2, -, -, -, -, q3, -⟩ := Cond.code_spec B.named (atoms_spec (ws := ws) B.pre _ (by rw [hw]; exact List.mem_cons_self))
    cases q1.symm.trans X.method
    cases q2.symm.trans X.code
    have h0 : c.exceptionTable.toList = [] := by
      have h1 : c.exceptionTable.size = 0 := by simpa [Array.isEmpty] using q3
      exact List.eq_nil_of_length_eq_zero (by simpa using h1)
    obtain ⟨t, a1, o, b1, b2, b3⟩ := body p e s m args below meth c s₁ B hml h0 hP s₁ hh0 X
    exact ⟨t, o, a1, b1, b2, b3⟩
section SDT
variable {p : Program} {l : Launch} {e : Env} {R : Room} {s : State} {m : MethodId} {args : Array Value} {below : List Frame} {meth : Method} {c : Code} {H : Heap} {locs : List Loc} {cells slots : Nat} {Q : State → Prop} {cc : ByteArray} {pc : Nat} {ls : Array Slot} {rest : List Value}
/-- new, dup, ldc, invokespecial, athrow -/
theorem sd_throw (hexec : p.tables.exec = Jvm.exec) (hb : c.code = cc) (htr : l.stackTraces = false) (hlocks : meth.locks = false) (hout : c.exceptionTable.toList = []) {own cls tx : String} {names : List String} {ia ib ic q : Nat}
    (hown : s.vm.findClass own = some m.cls) (hf1 : Bundle.fit cls = true) (hf2 : ∀ n ∈ names, Bundle.fit n = true) (hT : ∀ a ∈ Bundle.ownAtoms own ic cls names, a.before args s = true)
    (hcl : (Cond.classLink own ia cls).before args s = true) (hini : (Cond.initialized cls).before args s = true) (hZ : vk_R own ib tx q s) (hls : ls.size = c.maxLocals)
    (hd0 : decode cc pc = .ok (.new ia, 3)) (hd3 : decode cc (pc + 3) = .ok (.dup, 1)) (hd4 : decode cc (pc + 4) = .ok (.ldc ib, 2)) (hd6 : decode cc (pc + 6) = .ok (.invokespecial ic, 3)) (hd9 : decode cc (pc + 9) = .ok (.athrow, 1))
    (hR : names.length + 3 < R.frames) (hRl : 13 * (names.length + 1) + 43 ≤ R.locals) (hRc : 1 ≤ R.cells) (hRs : 6 ≤ R.slots) :
    W p l e R s m args below meth c s.heap [] 0 0 (sd_WT below cls s) (F0 m pc ls []) := by
  refine W.newc hexec hb hown hcl (hT (.instantiable cls 6) (by simp [Bundle.ownAtoms])) hini rfl hd0 (by omega) (by omega) (fun cC kC h1 h2 h3 h4 => ?_)
  refine W.eq (g2 := F0 m (pc + 3) ls [.ref s.heap.size]) rfl ?_
  refine lv_dup hexec hb hd3 rfl ?_
  refine va_ldcS hexec hb hown hZ hd4 ?_
  intro T hT' X
  have htr' : e.platform.stackTraces = false := by rw [X.admits.platform]; exact htr
  obtain ⟨U, hsteps, hrun, hend, hW, hsame, ce, hce, K⟩ := X.ctorThrowS hexec htr' (own := own) (cls := cls) (names := names) (ic := ic) hown hf1 hf2 hT (fun y hy => by cases hy) h1 h2 (a := s.heap.size)
    (by rw [hT']; simp) (Nat.le_refl _) (msg := .ref q) rfl (g := F0 m (pc + 3 + 1 + 2) ls [.ref q, .ref s.heap.size, .ref s.heap.size]) rfl hls rfl rfl (rest := []) rfl (by rw [hb]; exact hd6) (by rw [hb]; exact hd9)
    (by rw [hout]; intro x hx; cases hx) hR (by simp [JFrame.monitorRoom, Value.category]; omega) hlocks
  exact ⟨U, hsteps, .threw s.heap.size, hrun, hend, s.heap.size, ce, rfl, hce, K.cls, by rw [K.vm]; rfl, hW, hsame⟩
/-- a call of a method that throws, out of the invoke into the note -/
theorem sd_backT {y : MethodName} {ws : List Cond} {rm : Room} {Pc : Array Value → State → Prop} {cls : String} {bytes : ByteArray} {maxL : Nat} {ret : Option FieldType} (hM : sd_MT l y ws rm Pc cls) (hbl : FrameBlind Pc) (hrc : rm.cells = 1) (hrs : rm.slots = 6)
    (hfr : rm.frames + 1 ≤ R.frames) (hlo : 8 + (maxL + 11) + rm.locals ≤ R.locals) (hws : ∀ w ∈ ws, ∀ (a' : Array Value) (U : State), s.WarmedH U.vm → w.before a' U = true) (hcode : Cond.code y bytes maxL ret ∈ ws) (hini : (Cond.initialized y.cls).before args s = true)
    {T : State} (X : Stand p l e R s m args below meth c T locs cells slots) {g : JFrame} {ig : Instr} {len : Nat} {mk : MethodId} {a : Array Value} (hg : g.method = m) (hsize : g.locals.size = c.maxLocals) (hdg : decode c.code g.pc = .ok (ig, len))
    (hW : 2 * g.monitorRoom + (g.stack.map fun v => v.category).sum ≤ 8) (hn : T.methodNamed? y = some mk) (hc : cells + 1 ≤ R.cells) (hs : slots + 6 ≤ R.slots) (hP : Pc a T) :
    ∃ (x : Addr) (ce : Cell) (T' : State), Stand p l e R s m args below meth c T' locs (cells + 1) (slots + 6) ∧ T'.heap[x]? = some ce ∧ s.vm.findClass cls = some ce.cls ∧ ce.vm.isStatics = false ∧ T.heap.size ≤ T'.heap.size ∧ (∀ q : Nat, q < T.heap.size → T'.heap[q]? = T.heap[q]?) ∧
      Steps p.tables e below (doInvoke e (T.setTop g) [] mk a).1 ((T'.setTop g).pushFrame (.throwing x)) := by
  have hcodeT := hws _ hcode a T X.warmed
  have hiniT : (Cond.initialized y.cls).before a T = true := word_at X.warmed (Or.inl (by first | rfl | simp [Cond.onTables, Cond.keeps, Cond.steady])) hini
  obtain ⟨methY, cY, hmY, hcY, -, hlY, -, -, -, -⟩ := Cond.code_spec hn hcodeT
  obtain ⟨kY, hkY, -⟩ := className_of_methodNamed hn
  have hinitY : kY.init = .initialized := Cond.initialized_spec (findClass_of_methodNamed hn) hkY hiniT
  have h : At T g.method c below := by rw [hg]; exact X.here
  have hroomf : (headSpec ws rm).room.frames + 1 ≤ R.frames := hfr
  have hrooml : 2 * g.monitorRoom + (g.stack.map fun v => v.category).sum + (cY.maxLocals + 11) + (headSpec ws rm).room.locals ≤ R.locals := by
    rw [hlY]
    show 2 * g.monitorRoom + (g.stack.map fun v => v.category).sum + (maxL + 11) + rm.locals ≤ R.locals
    omega
  have happ : (headSpec ws rm).appliesLoose y e.platform (T.calling g mk a) = true :=
    Spec.appliesLoose_calling (g := g) h hdg hn hkY hinitY
      (X.room_calling (g := g) (R' := (headSpec ws rm).room) hsize hmY hcY hroomf hrooml (by show cells + rm.cells ≤ R.cells; omega) (by show slots + rm.slots ≤ R.slots; omega)) (atoms_intro fun w hw => hws w hw _ _ X.warmed)
  obtain ⟨mid, hmid⟩ := h.above
  have hfr2 : (T.setTop g).frames = (.java g :: mid) ++ below := by rw [State.frames_setTop' g h.top, hmid]; rfl
  obtain ⟨o, s₂, hsteps, -, hend, hq⟩ := Steps.callFree hM p X.admits X.cas X.clock (acts := []) hfr2 happ (hbl _ _ _ _ hP) trivial
  have hq : sd_QT cls (T.calling g mk a) o s₂ := hq
  obtain ⟨x, ce, rfl, hx, hcls, hst, hW₂, hsame₂⟩ := hq
  rw [State.frames_setTop' g h.top] at hend
  have hf₂ : s₂.frames = .throwing x :: .java g :: T.frames.tail := hend
  have hW' : T.WarmedH s₂.vm := hW₂
  obtain ⟨g₀, hg0⟩ := Option.isSome_iff_exists.mp h.top
  obtain ⟨r, hr⟩ := State.topJava?_eq_some.mp hg0
  obtain ⟨e2, q2, q3, q4, q5, q6⟩ := id hsame₂
  have e3 : s₂ = ({ (T.calling g mk a).setFrames s₂.frames with heap := s₂.heap, slotsUsed := s₂.slotsUsed } : State).setVm s₂.vm := by
    have : s₂ = ({ s₂ with vm := (T.calling g mk a).vm } : State).setVm s₂.vm := rfl
    rw [e2] at this
    exact this
  have hs₂ : s₂ = ((({ T with heap := s₂.heap, slotsUsed := s₂.slotsUsed } : State).setVm s₂.vm).setTop g).pushFrame (.throwing x) := by
    have hr' : (({ T with heap := s₂.heap, slotsUsed := s₂.slotsUsed } : State).setVm s₂.vm).frames = .java g₀ :: r := hr
    refine e3.trans ?_
    rw [hf₂, State.calling_eq h.top, State.setFrames_setFrames, State.pushFrame, State.frames_setTop _ hr', State.setTop_of_frames _ hr', State.setFrames_setFrames, hr]
    rfl
  have hsame : T.sameButNew ({ T with heap := s₂.heap, slotsUsed := s₂.slotsUsed } : State) [] 1 6 := by
    refine ⟨?_, q2, q3, q4, q5, q6⟩
    obtain ⟨t, ht, -⟩ := State.frames_cons hr
    show ({ T with heap := s₂.heap, slotsUsed := s₂.slotsUsed } : State) = { T.setFrames T.frames with heap := s₂.heap, slotsUsed := s₂.slotsUsed }
    rw [State.setFrames_self ht]
  have hk := sd_same hsame
  subst hg
  refine ⟨x, ce, (({ T with heap := s₂.heap, slotsUsed := s₂.slotsUsed } : State).setVm s₂.vm), ?_, hx, ?_, hst, hk.1, hk.2, ?_⟩
  · have hh := X.same.trans (hsame.setVm s.vm)
    rw [List.append_nil] at hh
    exact ⟨X.admits, X.cas, X.clock, X.frames, X.room, X.hears, X.method, X.code, (X.here.setHeapUsed s₂.heap s₂.slotsUsed).setVm hW'.alike, X.tail, State.WarmedH.trans X.warmed hW', X.limits, X.bytes, hh⟩
  · rw [← X.warmed.alike.findClass]; exact hcls
  · show Steps p.tables e below _ (((({ T with heap := s₂.heap, slotsUsed := s₂.slotsUsed } : State).setVm s₂.vm).setTop g).pushFrame (.throwing x))
    rw [← hs₂]
    exact hsteps
/-- what is owed behind a throwing call: the note lies over the frame -/
abbrev sd_Note (p : Program) (l : Launch) (e : Env) (R : Room) (s : State) (m : MethodId) (args : Array Value) (below : List Frame) (meth : Method) (c : Code) (H : Heap) (locs : List Loc) (cells slots : Nat) (Q : State → Prop) (g : JFrame) (cls : String) : Prop :=
  ∀ (x : Addr) (ce : Cell) (T' : State), Stand p l e R s m args below meth c T' locs (cells + 1) (slots + 6) → T'.heap[x]? = some ce → s.vm.findClass cls = some ce.cls → ce.vm.isStatics = false → H.size ≤ T'.heap.size → (∀ q : Nat, q < H.size → T'.heap[q]? = H[q]?) →
    ∃ t, Steps p.tables e below ((T'.setTop g).pushFrame (.throwing x)) t ∧ Q t
theorem sd_thrS {y : MethodName} {ws : List Cond} {rm : Room} {Pc : Array Value → State → Prop} {cls own : String} {bytes : ByteArray} {maxL nL n index : Nat} {ret : Option FieldType} {Ts : List Cond} {As st0 : List Value} (S : CallFix p m c cc nL s args Ts own) (hM : sd_MT l y ws rm Pc cls)
    (cw : CallB R s args own index y bytes maxL ret ws rm 1 6 n ∧ (Cond.static y).before args s = true) (hp : PreS s H Pc As) (hn : As.length = n) (hsize : ls.size = nL) (hstack : st0 = As.reverse ++ rest) (hW : 2 * (F0 m pc ls st0).monitorRoom + (rest.map fun v => v.category).sum ≤ 8)
    (hdg : decode cc pc = .ok (.invokestatic index, 3)) (hf : cells + 1 ≤ R.cells ∧ slots + 6 ≤ R.slots) (kk : sd_Note p l e R s m args below meth c H locs cells slots Q (F0 m pc ls rest) cls) : W p l e R s m args below meth c H locs cells slots Q (F0 m pc ls st0) := by
  obtain ⟨⟨hrc, hrs, hfr, hlo, hws, hcw, hcode, hini, hy, hlen, hl⟩, hstt⟩ := cw
  obtain ⟨hx, hb, hml, ho, -⟩ := S
  intro T hT X
  obtain ⟨methX, cX, hnX, hmX, hcX, -⟩ : ∃ (mk : MethodId) (methX : Method), s.methodNamed? y = some mk ∧ s.vm.method? mk = some methX ∧ parseMethodDescriptor y.desc = some methX.sig ∧ True := by
    have hcode' := hcode
    cases hm : s.methodNamed? y with
    | none => simp [Cond.before, Cond.holds, Cond.value, hm] at hcode'
    | some mk =>
      obtain ⟨methY, cY, h1, -, -, -, -, -, -, h2⟩ := Cond.code_spec hm hcode'
      exact ⟨mk, methY, rfl, h1, h2, trivial⟩
  have hstatic : cX.isStatic = true := Cond.static_spec hnX hmX hstt
  obtain ⟨kP, hkP, -⟩ := className_of_methodNamed hnX
  have hinitP : kP.init = .initialized := Cond.initialized_spec (findClass_of_methodNamed hnX) hkP hini
  obtain ⟨vm₁, X₁, hstep₁⟩ := X.invokestatic hx ho hl hnX hmX hstatic hkP hinitP hy (g := F0 m pc ls st0) rfl (argsL := As) (rest := rest) (hn.trans (hlen _ hcX)) hstack (by rw [hb]; exact hdg)
  obtain ⟨x, ce, T', X', h1, h2, h3, h4, h5, h6⟩ := sd_backT hM hp.1 hrc hrs hfr hlo hws hcw hini X₁ (g := F0 m pc ls rest) (mk := methX) (a := As.toArray) rfl (hsize.trans hml.symm) (by rw [hb]; exact hdg) hW (X₁.named hnX) hf.1 hf.2 (hp.2 _ hT X₁.warmed)
  have hT1 : (T.setVm vm₁).heap = H := hT
  rw [hT1] at h4 h5
  obtain ⟨t, a1, b1⟩ := kk x ce T' X' h1 h2 h3 h4 h5
  exact ⟨t, hstep₁ _ (fun acts => by rw [doInvoke_state]; exact h6.trans a1), b1⟩
theorem sd_thrV {y : MethodName} {ws : List Cond} {rm : Room} {Pc : Array Value → State → Prop} {cls own C : String} {bytes : ByteArray} {maxL nL n index : Nat} {ret : Option FieldType} {Ts : List Cond} {b : Addr} {As st0 : List Value} (S : CallFix p m c cc nL s args Ts own) (hM : sd_MT l y ws rm Pc cls)
    (cw : CallW R s args own C index y bytes maxL ret ws rm 1 6 n) (hp : PreV s H C b Pc As) (hn : As.length = n) (hsize : ls.size = nL) (hstack : st0 = As.reverse ++ .ref b :: rest) (hW : 2 * (F0 m pc ls st0).monitorRoom + (rest.map fun v => v.category).sum ≤ 8)
    (hdg : decode cc pc = .ok (.invokevirtual index, 3)) (hf : cells + 1 ≤ R.cells ∧ slots + 6 ≤ R.slots) (kk : sd_Note p l e R s m args below meth c H locs cells slots Q (F0 m pc ls rest) cls) : W p l e R s m args below meth c H locs cells slots Q (F0 m pc ls st0) := by
  obtain ⟨⟨hrc, hrs, hfr, hlo, hws, hcw, hcode, hini, hy, hlen, hl⟩, hin, hse⟩ := cw
  obtain ⟨hx, hb, hml, ho, -⟩ := S
  obtain ⟨hbl, ⟨cellB, hcB, hoB, hclB⟩, hPc⟩ := hp
  intro T hT X
  obtain ⟨mk, methM, hnamed, hmethM, hstM, habM⟩ := Cond.instanceMethod_spec hin
  obtain ⟨methY, cY, g1, -, -, -, -, -, -, g2⟩ := Cond.code_spec hnamed hcode
  cases g1.symm.trans hmethM
  obtain ⟨c2, r2, m2, q1, q2, q3, q4, kP, hkP, hkPi⟩ := Cond.selects_spec hse
  cases hclB.symm.trans q1
  cases (State.methodFound?_of_named hnamed hy).symm.trans q2
  cases hnamed.symm.trans q3
  have hselP : selectMethod e.platform s.vm cellB.cls mk = .method mk := by rw [Launch.admits_selectMethod X.admits]; exact q4
  obtain ⟨vm₁, X₁, hstep₁⟩ := X.invokevirtual hx ho hl hnamed hmethM hstM hkP hkPi hy (a := b) (cell := cellB) (by rw [hT]; exact hcB)
    (fun z h => by rw [h] at hoB; cases hoB) hselP hmethM habM hkP hkPi (g := F0 m pc ls st0) rfl (argsL := As) (rest := rest) (hn.trans (hlen _ g2)) hstack (by rw [hb]; exact hdg)
  obtain ⟨x, ce, T', X', h1, h2, h3, h4, h5, h6⟩ := sd_backT hM hbl hrc hrs hfr hlo hws hcw hini X₁ (g := F0 m pc ls rest) (mk := mk) (a := (Value.ref b :: As).toArray) rfl (hsize.trans hml.symm) (by rw [hb]; exact hdg) hW (X₁.named hnamed) hf.1 hf.2 (hPc _ hT X₁.warmed)
  have hT1 : (T.setVm vm₁).heap = H := hT
  rw [hT1] at h4 h5
  obtain ⟨t, a1, b1⟩ := kk x ce T' X' h1 h2 h3 h4 h5
  exact ⟨t, hstep₁ _ (fun acts => by rw [doInvoke_state]; exact h6.trans a1), b1⟩
/-- nothing catches it here: the method ends so too -/
theorem sd_out {cls : String} (hout : c.exceptionTable.toList = []) (hlocks : meth.locks = false) {st : List Value} : sd_Note p l e R s m args below meth c H [] 0 0 (sd_WT below cls s) (F0 m pc ls st) cls := by
  intro x ce T' X' h1 h2 h3 h4 h5
  obtain ⟨g1, g2, g3, g4, g5⟩ := X'.leaveThrown x (g := F0 m pc ls st) rfl rfl rfl (by rw [hout]; intro y hy; cases hy) hlocks
  exact ⟨_, g1, .threw x, g2, g3, x, ce, rfl, h1, h2, h3, g4, g5⟩
end SDT
