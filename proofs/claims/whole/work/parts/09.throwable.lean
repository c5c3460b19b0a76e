/-! What a throw needs of the start: words on Throwable's classes, two statics, the texts. -/
def sd_IA : String := "java/lang/IllegalArgumentException"
def sd_IS : String := "java/lang/IllegalStateException"
def sd_up2 : List String := ["java/lang/RuntimeException", "java/lang/Exception"]
/-- a static of Throwable's: where it lies; it holds a reference or null -/
def sd_St (n d : String) (A : Nat → Prop) (U : State) (H : Heap) : Prop := ∃ (c : ClassId) (k : Class) (i : Nat) (f : Field) (a : Nat) (cell : Cell) (v : Value), U.vm.findClass Bundle.tN = some c ∧ U.fieldFound? Bundle.tN n d = some (c, k, i, f) ∧ f.isStatic = true ∧ k.statics = some a ∧ H[a]? = some cell ∧ cell.vm.isStatics = true ∧ cell.cls = c ∧ f.slot < cell.slots.size ∧ k.staticTypes[f.slot]? = some f.type ∧ cell.slots[f.slot]? = some v ∧ v.isRef = true ∧ ¬ A a
theorem sd_St.moved {n d : String} {A : Nat → Prop} {u U : State} {H : Heap} (hvm : u.vm.Alike U.vm) (h : sd_St n d A u H) : sd_St n d A U H := by
  obtain ⟨c, k, i, f, a, cell, v, h1, h2, h3, h4, h5, h6, h7, h8, h9, h10⟩ := h
  obtain ⟨k', hi', he⟩ := State.fieldFound?_setVm hvm h2
  exact ⟨c, k', i, f, a, cell, v, by rw [hvm.findClass]; exact h1, hi', h3, by rw [he]; exact h4, h5, h6, h7, h8, by rw [he]; exact h9, h10⟩
theorem sd_St.kept {n d : String} {A : Nat → Prop} {U : State} {H H1 : Heap} (h : sd_St n d A U H) (hq : ∀ a : Nat, a < H.size → ¬ A a → H1[a]? = H[a]?) : sd_St n d A U H1 := by
  obtain ⟨c, k, i, f, a, cell, v, h1, h2, h3, h4, h5, h6, h7, h8, h9, h10, h11, h12⟩ := h
  exact ⟨c, k, i, f, a, cell, v, h1, h2, h3, h4, by rw [hq a (Array.getElem?_eq_some_iff.mp h5).1 h12]; exact h5, h6, h7, h8, h9, h10, h11, h12⟩
theorem sd_St.narrow {n d : String} {A B : Nat → Prop} {U : State} {H : Heap} (h : sd_St n d A U H) (hAB : ∀ q, B q → A q) : sd_St n d B U H := by
  obtain ⟨c, k, i, f, a, cell, v, h1, h2, h3, h4, h5, h6, h7, h8, h9, h10, h11, h12⟩ := h
  exact ⟨c, k, i, f, a, cell, v, h1, h2, h3, h4, h5, h6, h7, h8, h9, h10, h11, fun z => h12 (hAB _ z)⟩
theorem sd_St.lays {n d : String} {A : Nat → Prop} {s : State} {args : Array Value} (h : sd_St n d A s s.heap) : (Cond.laysStatic Bundle.tN n d).before args s = true := by
  obtain ⟨c, k, i, f, a, cell, v, h1, h2, h3, h4, h5, h6, h7, h8, h9, -⟩ := h
  show (Cond.laysStatic Bundle.tN n d).holds args s none s [] = true
  exact Cond.laysStatic_of h1 h2 h3 h4 h5 h6 h7 h8 h9
theorem sd_St.ref {n d : String} {A : Nat → Prop} {s : State} {args : Array Value} (h : sd_St n d A s s.heap) : (Cond.isRef (.static Bundle.tN n d)).before args s = true := by
  obtain ⟨c, k, i, f, a, cell, v, h1, h2, h3, h4, h5, h6, h7, h8, h9, h10, h11, -⟩ := h
  have he : (Term.static Bundle.tN n d).eval args s none [] s = some v := by
    simp [Term.eval, State.fieldNamed?, h2, h3, h4, h5, h6, h10]
  simp only [Cond.before, Cond.holds, Cond.value, he]
  cases v <;> simp_all [Value.isRef]
theorem sd_St.of {n d : String} {A : Nat → Prop} {s : State} {args : Array Value} (hl : (Cond.laysStatic Bundle.tN n d).before args s = true) (hr : (Cond.isRef (.static Bundle.tN n d)).before args s = true) (hA : ∀ a : Nat, a < s.heap.size → ¬ A a) : sd_St n d A s s.heap := by
  obtain ⟨c, k, i, f, a, cell, h1, h2, h3, h4, h5, h6, h7, h8, h9⟩ := Cond.laysStatic_spec hl
  cases hv : (Term.static Bundle.tN n d).eval args s none [] s with
  | none => simp [Cond.before, Cond.holds, Cond.value, hv] at hr
  | some v =>
    obtain ⟨-, a', cell', ha', hcell', -, hslot⟩ := Term.static_spec h2 hv
    cases h4.symm.trans ha'
    cases h5.symm.trans hcell'
    have hvr : v.isRef = true := by
      simp only [Cond.before, Cond.holds, Cond.value, hv] at hr
      cases v <;> simp_all [Value.isRef]
    exact ⟨c, k, i, f, a, cell, v, h1, h2, h3, h4, h5, h6, h7, h8, h9, hslot, hvr, hA a (Array.getElem?_eq_some_iff.mp h5).1⟩
theorem sd_castMoved {C T : String} {s U : State} (hvm : s.vm.Alike U.vm) (h : va_Nw (.castable C T) s) : va_Nw (.castable C T) U := va_tabs rfl (rfl : (s.setVm U.vm).vm = U.vm) (by rw [Cond.castable_setVm hvm]; exact h)
theorem sd_declMoved {x : MethodName} {s U : State} (hvm : s.vm.Alike U.vm) (h : va_Nw (.declares x) s) : va_Nw (.declares x) U := va_tabs rfl (rfl : (s.setVm U.vm).vm = U.vm) (by rw [Cond.declares_setVm hvm]; exact h)
def sd_D1 : Cond := .declares (Bundle.initS "java/lang/RuntimeException")
def sd_D2 : Cond := .declares (Bundle.initS "java/lang/Exception")
def sd_D3 : Cond := .declares (Bundle.initS Bundle.tN)
def sd_SL : List (Nat × String) := [(22, "the number of parties is not 1..8"), (32, "the weight is not 0..100000"), (48, "the share is below 0"), (64, "there is no such count"), (66, "there is no such way"), (68, "the number of units is out of range"), (70, "there is no such party"), (74, "all weights are 0")]
/-- all that a throw of the desk's needs beside the tables' words -/
def sd_TH (A : Nat → Prop) (U : State) (H : Heap) : Prop :=
  va_Nw sd_D1 U ∧ va_Nw sd_D2 U ∧ va_Nw sd_D3 U ∧ va_Nw (.castable sd_IA sd_IA) U ∧ va_Nw (.castable sd_IS sd_IS) U ∧ va_Nc sd_IS sd_IA U ∧
  sd_St "UNASSIGNED_STACK" Bundle.steD A U H ∧ sd_St "SUPPRESSED_SENTINEL" Bundle.listD A U H ∧ ∀ x ∈ sd_SL, ∃ q, vk_R RX0 x.1 x.2 q U
theorem sd_TH.moved {A : Nat → Prop} {s U : State} {H : Heap} (hW : s.WarmedH U.vm) (h : sd_TH A s H) : sd_TH A U H := by
  obtain ⟨h1, h2, h3, h4, h5, h6, h7, h8, h9⟩ := h
  exact ⟨sd_declMoved hW.alike h1, sd_declMoved hW.alike h2, sd_declMoved hW.alike h3, sd_castMoved hW.alike h4, sd_castMoved hW.alike h5, h6.moved hW.alike, h7.moved hW.alike, h8.moved hW.alike, fun x hx => by
    obtain ⟨q, hq⟩ := h9 x hx
    exact ⟨q, hq.warm hW⟩⟩
theorem sd_TH.kept {A : Nat → Prop} {U : State} {H H1 : Heap} (h : sd_TH A U H) (hq : ∀ a : Nat, a < H.size → ¬ A a → H1[a]? = H[a]?) : sd_TH A U H1 := by
  obtain ⟨h1, h2, h3, h4, h5, h6, h7, h8, h9⟩ := h
  exact ⟨h1, h2, h3, h4, h5, h6, h7.kept hq, h8.kept hq, h9⟩
theorem sd_TH.narrow {A B : Nat → Prop} {U : State} {H : Heap} (h : sd_TH A U H) (hAB : ∀ q, B q → A q) : sd_TH B U H := by
  obtain ⟨h1, h2, h3, h4, h5, h6, h7, h8, h9⟩ := h
  exact ⟨h1, h2, h3, h4, h5, h6, h7.narrow hAB, h8.narrow hAB, h9⟩
def sd_TB : List Cond := [sd_D1, sd_D2, sd_D3, .castable sd_IA sd_IA, .castable sd_IS sd_IS, .laysStatic Bundle.tN "UNASSIGNED_STACK" Bundle.steD, .laysStatic Bundle.tN "SUPPRESSED_SENTINEL" Bundle.listD, .isRef (.static Bundle.tN "UNASSIGNED_STACK" Bundle.steD), .isRef (.static Bundle.tN "SUPPRESSED_SENTINEL" Bundle.listD)]
theorem sd_TB_ok {A : Nat → Prop} {s : State} {args : Array Value} (h : sd_TH A s s.heap) : ∀ w ∈ sd_TB, w.before args s = true := by
  obtain ⟨h1, h2, h3, h4, h5, h6, h7, h8, h9⟩ := h
  intro w hw
  simp only [sd_TB, List.mem_cons, List.not_mem_nil, or_false] at hw
  rcases hw with rfl | rfl | rfl | rfl | rfl | rfl | rfl | rfl | rfl
  · exact va_any rfl h1
  · exact va_any rfl h2
  · exact va_any rfl h3
  · exact va_any rfl h4
  · exact va_any rfl h5
  · exact h7.lays
  · exact h8.lays
  · exact h7.ref
  · exact h8.ref
set_option maxRecDepth 100000 in
theorem sd_ownIA : ∀ w ∈ Bundle.ownAtoms RX0 24 sd_IA sd_up2, (sd_gw w = true ∧ w ∈ lw_tbl) ∨ w ∈ sd_TB := by decide +kernel
set_option maxRecDepth 100000 in
theorem sd_ownIS : ∀ w ∈ Bundle.ownAtoms RX0 76 sd_IS sd_up2, (sd_gw w = true ∧ w ∈ lw_tbl) ∨ w ∈ sd_TB := by decide +kernel
theorem sd_own {A : Nat → Prop} {s : State} {args : Array Value} {L : List Cond} (hL : ∀ w ∈ L, (sd_gw w = true ∧ w ∈ lw_tbl) ∨ w ∈ sd_TB) (hts : ∀ w ∈ sd_WS, w.before args s = true) (h : sd_TH A s s.heap) : ∀ w ∈ L, w.before args s = true := by
  intro w hw
  rcases hL w hw with ⟨h1, h2⟩ | h1
  · exact hts w (sd_in h2 h1)
  · exact sd_TB_ok h w h1
/-- a start that may throw -/
def sd_Pt (D : va_G) (cl : List vw_C) (tys : List (ClassId × FieldType)) (ws : va_W) (av : List Value) : Array Value → State → Prop := va_Pc av (fun U => va_P D cl ws U.heap ∧ va_K D cl tys U ∧ sd_TH (fun _ => False) U U.heap)
theorem sd_calling_W (U : State) (g : JFrame) (mk : MethodId) (a : Array Value) : U.WarmedH (U.calling g mk a).vm := State.WarmedH.refl U
theorem sd_Pt_blind (D : va_G) (cl : List vw_C) (tys : List (ClassId × FieldType)) (ws : va_W) (av : List Value) : FrameBlind (sd_Pt D cl tys ws av) := by
  intro a U g mk q
  obtain ⟨q0, qP, qK, qT⟩ := q
  exact ⟨q0, qP, va_K.moved (u := U) (U := U.calling g mk a) (Vm.Alike.refl U.vm) qK, sd_TH.moved (U := U.calling g mk a) (sd_calling_W U g mk a) qT⟩
theorem sd_preSt {s : State} {H : Heap} {D : va_G} {cl : List vw_C} {tys : List (ClassId × FieldType)} {ws : va_W} {As : List Value} (hK : va_K D cl tys s) (hP : va_P D cl ws H) (hT : sd_TH (fun _ => False) s H) : PreS s H (sd_Pt D cl tys ws As) As :=
  ⟨sd_Pt_blind D cl tys ws As, fun U hU hW => ⟨rfl, by rw [hU]; exact hP, va_K.moved hW.alike hK, by rw [hU]; exact hT.moved hW⟩⟩
theorem sd_preVt {s : State} {H : Heap} {D : va_G} {cl : List vw_C} {tys : List (ClassId × FieldType)} {ws : va_W} {As : List Value} {b q0 ci : Nat} {q : vw_C} {fs : List Value} (hK : va_K D cl tys s) (hP : va_P D cl ws H) (hT : sd_TH (fun _ => False) s H) (hc : cl[ci]? = some q) (he : ws[q0]? = some (b, .inr (ci, fs))) :
    PreV s H q.1 b (sd_Pt D cl tys ws (.ref b :: As)) As :=
  ⟨sd_Pt_blind D cl tys ws (.ref b :: As), va_recv hK hP hc he, fun U hU hW => ⟨rfl, by rw [hU]; exact hP, va_K.moved hW.alike hK, by rw [hU]; exact hT.moved hW⟩⟩
