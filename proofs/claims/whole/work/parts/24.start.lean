/-! THE CLAIM OUT OF ONE WALK OF THE LAW'S BODY. Your part is whole_start (and what it stands on); all else here is the same for every law, but numbers. -/
def R_law : String := "ShareDeskLaw"
def lw_P (b : Addr) (xs : List Int32) (args : Array Value) (s : State) : Prop := args = #[.ref b] ∧ s.IntsAt b xs ∧ xs.length ≤ 2048 ∧ (Jvm.Cond.and given_1 narrow_1).before args s = true
def lw_Q (_ : Array Value) (s : State) (o : Outcome) (t : State) : Prop := o = .returned (some (.int 1)) ∧ Framed s o t [] 1040 8290
def lw_Z (below : List Frame) (a : Array Value) (s : State) : State → Prop := fun t => ∃ o, t.status = .running ∧ Ended t below o ∧ lw_Q a s o t
/-- the law's own end, with 1 on the stack, nothing written that was there before, its room as the claim has it -/
theorem lw_ret {p : Program} {l : Launch} {e : Env} {s : State} {m : MethodId} {below : List Frame} {meth : Method} {c : Code} {b : Nat} (hx : p.tables.exec = Jvm.exec) (hb : c.code = code) (hr : meth.sig.returnType = ret) (hlocks : meth.locks = false) {pc : Nat} {H : Heap} {ls : Array Slot} (hdg : decode code pc = .ok (.ireturn, 1)) : W p l e room_1 s m #[Value.ref b] below meth c H [] 1040 8290 (lw_Z below #[Value.ref b] s) (F0 m pc ls [.int 1]) := by
  intro T hT X
  obtain ⟨fs, hret, hrun, hended, hW, hframe⟩ := X.leave (v := some (.int 1)) (hlocks := hlocks) (fun h => by rw [hr] at h; cases h)
  have hmeth' : T.vm.method? m = some meth := X.method'
  refine ⟨T.setFrames fs, ?_, .returned (some (.int 1)), hrun, hended, rfl, ⟨_, rfl⟩, hW, hframe⟩
  jvm_step X.here [X.here.top, hx, hb, hdg, hmeth', hr, ret, narrow_b1]
  (try refine ⟨rfl, ?_⟩); (try refine ⟨rfl, ?_⟩)
  first | (intro acts; rw [hret _ acts rfl rfl rfl]) | rw [hret _ _ rfl rfl rfl]
  exact Steps.refl _
/-- what holds at the law's entry: the machine, the code, the tables' words (any of lw_tbl by 'hts w (by decide +kernel)'), the script of L ints xs at the cell b, what the Statement gives of the start (any of its parts by flat_of_before) -/
def lw_At (p : Program) (s : State) (m : MethodId) (meth : Method) (c : Code) (b L : Nat) (xs : Nat → Int32) : Prop :=
  p.tables.exec = Jvm.exec ∧ c.code = code ∧ meth.sig.returnType = ret ∧ c.maxLocals = 8 ∧ s.vm.findClass R_law = some m.cls ∧ (∀ w ∈ lw_tbl, w.before #[Value.ref b] s = true) ∧ va_X b L xs s s.heap ∧ b < s.heap.size ∧ meth.locks = false ∧ (Jvm.Cond.and given_1 narrow_1).before #[Value.ref b] s = true
/-- a word of the tables, by its place -/
theorem sd_W0 {args : Array Value} {s : State} (h : ∀ w ∈ lw_tbl, w.before args s = true) {w : Cond} (i : Nat) (hi : tables_1[i]? = some w) : w.before args s = true := h w (List.mem_append_right _ (List.mem_of_getElem? hi))
theorem sd_str {args : Array Value} {s : State} {k : Nat} {tx : String} (h1 : (Cond.stringRef RX0 k tx).before args s = true) (h2 : (Cond.exactly (.string RX0 k) "java/lang/String").before args s = true) : ∃ q, vk_R RX0 k tx q s := by
  obtain ⟨a, c, cA, kA, q1, -⟩ := Cond.exactly_spec (args := args) (first := s) (o := none) (s := s) (idx := []) (t := .string RX0 k) (cls := "java/lang/String") h2
  exact ⟨a, vk_R.of h1 q1⟩
set_option maxRecDepth 100000 in
theorem sd_inN : ∀ w ∈ [Cond.isRef (.static Bundle.tN "UNASSIGNED_STACK" Bundle.steD), Cond.isRef (.static Bundle.tN "SUPPRESSED_SENTINEL" Bundle.listD), Cond.not (.castable sd_IS sd_IA), Cond.exactly (.string RX0 22) "java/lang/String", Cond.exactly (.string RX0 32) "java/lang/String", Cond.exactly (.string RX0 48) "java/lang/String", Cond.exactly (.string RX0 64) "java/lang/String", Cond.exactly (.string RX0 66) "java/lang/String", Cond.exactly (.string RX0 68) "java/lang/String", Cond.exactly (.string RX0 70) "java/lang/String", Cond.exactly (.string RX0 74) "java/lang/String"], w ∈ flatC (Jvm.Cond.and given_1 narrow_1) := by decide +kernel
theorem sd_th0 {s : State} {args : Array Value} (h : ∀ w ∈ lw_tbl, w.before args s = true) (hg : (Jvm.Cond.and given_1 narrow_1).before args s = true) : sd_TH (fun q => s.heap.size ≤ q) s s.heap := by
  have hf : ∀ (i : Nat) (w : Cond), [Cond.isRef (.static Bundle.tN "UNASSIGNED_STACK" Bundle.steD), Cond.isRef (.static Bundle.tN "SUPPRESSED_SENTINEL" Bundle.listD), Cond.not (.castable sd_IS sd_IA), Cond.exactly (.string RX0 22) "java/lang/String", Cond.exactly (.string RX0 32) "java/lang/String", Cond.exactly (.string RX0 48) "java/lang/String", Cond.exactly (.string RX0 64) "java/lang/String", Cond.exactly (.string RX0 66) "java/lang/String", Cond.exactly (.string RX0 68) "java/lang/String", Cond.exactly (.string RX0 70) "java/lang/String", Cond.exactly (.string RX0 74) "java/lang/String"][i]? = some w → w.before args s = true := fun i w hi => flat_of_before _ hg w (sd_inN w (List.mem_of_getElem? hi))
  have hA : ∀ a : Nat, a < s.heap.size → ¬ s.heap.size ≤ a := fun a h1 h2 => absurd h1 (Nat.not_lt_of_le h2)
  refine ⟨va_Nw.of rfl (sd_W0 h 39 rfl), va_Nw.of rfl (sd_W0 h 41 rfl), va_Nw.of rfl (sd_W0 h 43 rfl), va_Nw.of rfl (sd_W0 h 37 rfl), va_Nw.of rfl (sd_W0 h 138 rfl), va_Nc.of (hf 2 _ rfl), sd_St.of (sd_W0 h 62 rfl) (hf 0 _ rfl) hA, sd_St.of (sd_W0 h 64 rfl) (hf 1 _ rfl) hA, ?_⟩
  intro x hx
  simp only [sd_SL, List.mem_cons, List.not_mem_nil, or_false] at hx
  rcases hx with rfl | rfl | rfl | rfl | rfl | rfl | rfl | rfl
  · exact sd_str (sd_W0 h 75 rfl) (hf 3 _ rfl)
  · exact sd_str (sd_W0 h 115 rfl) (hf 4 _ rfl)
  · exact sd_str (sd_W0 h 201 rfl) (hf 5 _ rfl)
  · exact sd_str (sd_W0 h 218 rfl) (hf 6 _ rfl)
  · exact sd_str (sd_W0 h 127 rfl) (hf 7 _ rfl)
  · exact sd_str (sd_W0 h 131 rfl) (hf 8 _ rfl)
  · exact sd_str (sd_W0 h 113 rfl) (hf 9 _ rfl)
  · exact sd_str (sd_W0 h 145 rfl) (hf 10 _ rfl)
/-- a constructor's call: what it makes, beside the rest -/
theorem sd_Jn {p : Program} {l : Launch} {e : Env} {R : Room} {s : State} {m : MethodId} {args : Array Value} {below : List Frame} {meth : Method} {c : Code} {H : Heap} {locs : List Loc} {cells slots mc ms : Nat} {Q : State → Prop} {pc : Nat} {ls : Array Slot} {rest st0 : List Value}
    {D : va_G} {cl : List vw_C} {A : Nat → Prop} {ws wc wr : va_W} {H0 : Heap} {a' : Array Value} {S : Type} {post : S → Prop} {Bw : S → va_W} {Ty : S → List (ClassId × FieldType)}
    (hr : va_Run p l e R s m args below meth c H locs cells slots mc ms (F0 m pc ls st0) rest (va_Qv post (fun u t => va_P D cl (Bw u) t.heap ∧ va_K D cl (Ty u) t ∧ va_D (va_A wc H.size) (Bw u)) (va_A wc H.size) a') (va_A wc H.size))
    (hP : va_P D cl ws H) (hD : va_D A ws) (hS : va_S A H0 H locs) (hA : ∀ q, H0.size ≤ q → A q) (isC isR : List Nat) (hC : isC.map (fun i => ws[i]?) = wc.map some) (hR : isR.map (fun i => ws[i]?) = wr.map some) (hn : va_nd isR = true) (hdis : ∀ i ∈ isR, i ∉ isC)
    (kk : ∀ (u : S) (H1 : Heap) (locs1 : List Loc), va_K D cl (Ty u) s → va_P D cl (wr ++ Bw u) H1 → va_D A (wr ++ Bw u) → va_S A H0 H1 locs1 → W p l e R s m args below meth c H1 locs1 (cells + mc) (slots + ms) Q (F0 m (pc + 3) ls rest)) : W p l e R s m args below meth c H locs cells slots Q (F0 m pc ls st0) := by
  have hF := va_free (wc := wc) hD hS hA isC hC
  refine va_callv hr hS (fun q _ h => hF q h) hF (fun u t H1 locs1 ht hvm hp hB hz hk hS1 => ?_)
  obtain ⟨hP1, hK1, hD1⟩ := hB
  rw [ht] at hP1
  obtain ⟨hP2, hD2⟩ := va_join hP hD isC isR hC hR hn hdis hk hF hP1 hD1
  exact kk u H1 locs1 (va_K.moved hvm.symm hK1) hP2 hD2 hS1
theorem sd_gI {k : Cond} {z : MethodName} {bz : ByteArray} {nz : Nat} {rz : Option FieldType} (h5 : .code z bz nz rz ∈ sd_WS) : GoodIn (k :: sd_WS) (sd_ws z bz nz rz) := by
  intro w hw
  have key : w ∈ sd_WS := by
    rcases List.mem_cons.mp hw with rfl | hw
    · exact h5
    · exact hw
  exact ⟨List.mem_cons_of_mem _ key, sd_good key⟩
set_option maxHeartbeats 4000000 in
set_option maxRecDepth 100000 in
theorem whole_start {p : Program} {e : Env} {s : State} {m : MethodId} {below : List Frame} {meth : Method} {c : Code} (l : Launch) (hl9 : l.stackTraces = false) {b L : Nat} {xs : Nat → Int32} (hL : L ≤ 2048) (C0 : lw_At p s m meth c b L xs) : W p l e room_1 s m #[Value.ref b] below meth c s.heap [] 0 0 (lw_Z below #[Value.ref b] s) (entryFrame m ([Value.ref b] : List Value).toArray 8) := by
  obtain ⟨hx, hb, hr, hml, hown, hts9, hX, hbl, hlocks, hg⟩ := C0
  have hts : ∀ w ∈ sd_WS, w.before #[Value.ref b] s = true := fun w h => hts9 w (List.mem_filter.mp h).1
  have hts0 : ∀ w ∈ (Cond.initialized RX0 :: sd_WS), w.before #[Value.ref b] s = true := fun w h => by
    rcases List.mem_cons.mp h with rfl | h
    · exact hts _ k_init_ShareDesk
    · exact hts w h
  have hb : c.code = cL_law := hb
  have hown : s.vm.findClass RL = some m.cls := hown
  obtain ⟨A, hAe⟩ : ∃ A : Nat → Prop, A = fun q => s.heap.size ≤ q := ⟨_, rfl⟩
  have hbA : ¬ A b := by rw [hAe]; exact Nat.not_le_of_lt hbl
  have hA : ∀ q : Nat, s.heap.size ≤ q → A q := fun q h => by rw [hAe]; exact h
  have hTH : sd_TH A s s.heap := by rw [hAe]; exact sd_th0 hts9 hg
  obtain ⟨c0, i0, k0⟩ := u_known (C := RX0) (T := TX0) (N := 3) (n := 3) hts u_in_X0 (sd_W0 hts9 9 rfl)
  obtain ⟨c1, i1, k1⟩ := u_known (C := RX1) (T := TX1) (N := 6) (n := 6) hts u_in_X1 (sd_W0 hts9 220 rfl)
  obtain ⟨dC, hdC⟩ : ∃ dC : Nat → ClassId, dC 0 = c0 ∧ dC 1 = c1 := ⟨fun k => if k = 0 then c0 else c1, rfl, rfl⟩
  obtain ⟨dI, hdI⟩ : ∃ dI : Nat → Nat → Nat, dI 0 = i0 ∧ dI 1 = i1 := ⟨fun k => if k = 0 then i0 else i1, rfl, rfl⟩
  have hK : va_K (dC, dI) vwCl [] s := by
    refine ⟨fun k q hq => ?_, fun k q hq => by simp at hq⟩
    match k, hq with
    | 0, hq => cases hq; show u_Kn s RX0 TX0 3 (dC 0) (dI 0); rw [hdC.1, hdI.1]; exact k0
    | 1, hq => cases hq; show u_Kn s RX1 TX1 6 (dC 1) (dI 1); rw [hdC.2, hdI.2]; exact k1
    | k + 2, hq => cases hq
  have hS : va_S A s.heap s.heap [] := va_S.rf
  have hP : va_P (dC, dI) vwCl [] s.heap := sd_nil _ _ _
  have hD : va_D A [] := ⟨fun i j p q hq => by simp at hq, fun k q hq => by simp at hq⟩
  have hl := lv_entry ([Value.ref b]) (n := 8) (Nat.le_of_ble_eq_true rfl)
  rw [lg_entry_eq]
  generalize (lg_sl ([Value.ref b]) ++ List.replicate (8 - (lg_sl ([Value.ref b])).length) Slot.unset).toArray = ls at hl ⊢
  have hl : lv_has ls 8 [(0, .ref b)] := hl
  refine va_new (ci := 0) (fs := [.null, .int 0, .int 0]) (C := RX0) (T := TX0) (N := 3) hx hb hts u_in_X0 tyX0 tyX0_ok hown (hts (.classLink RL 8 RX0) k_classLink_L_8) (sd_W0 hts9 9 rfl) (hts (.initialized RX0) k_init_ShareDesk) hK hP hD hS hA rfl (fun j hj => by rcases (show j = 0 ∨ j = 1 ∨ j = 2 by omega) with rfl | rfl | rfl <;> rfl) (Nat.le_of_ble_eq_true rfl) (Nat.le_of_ble_eq_true rfl) dL_law_0 (fun h0 H hP hD hS => ?_)
  have hP : va_P (dC, dI) vwCl [(h0, .inr (0, [.null, .int 0, .int 0]))] H := hP
  have hD : va_D A [(h0, .inr (0, [.null, .int 0, .int 0]))] := hD
  refine lv_dup hx hb dL_law_3 rfl ?_
  have hPc := hP.sub (ws' := [(h0, .inr (0, [.null, .int 0, .int 0]))]) [0] rfl
  have hDc := hD.sub (ws' := [(h0, .inr (0, [.null, .int 0, .int 0]))]) [0] (by decide) rfl
  have hKc := sd_K0 hK
  refine sd_Jn (wc := [(h0, .inr (0, [.null, .int 0, .int 0]))]) (wr := []) (va_runI (As := []) (rest := [.ref h0]) ⟨hx, hb, hml, hown, hts0⟩ (c_init0 l dC dI h0 H.size) (cwI 0 hts0 (sd_gI k_code_X0_init) rfl rfl rfl (hts (.initialized RX0) k_init_ShareDesk) (hts (.methodLink RL 39 yX0_init) k_methodLink_L_39) (hts (.instanceMethod yX0_init) k_instanceMethod_X0_init) rfl (by decide +kernel) ⟨Nat.le_of_ble_eq_true rfl, Nat.le_of_ble_eq_true rfl⟩) (sd_preSw hKc hPc hDc) rfl rfl hl.1 rfl (lv_room (Nat.le_of_ble_eq_true rfl)) dL_law_4 ⟨Nat.le_of_ble_eq_true rfl, Nat.le_of_ble_eq_true rfl⟩) hP hD hS hA [0] [] rfl rfl (by decide) (by decide) (fun u_ H locs hKn hP hD hS => ?_)
  obtain ⟨cA, a0⟩ := u_
  have hK := hK.app hKn
  have hK : va_K (dC, dI) vwCl [(cA, .int)] s := hK
  have hP : va_P (dC, dI) vwCl [(h0, .inr (0, [.ref a0, .int (nI 2), .int (nI (sd_sum (fun _ => 0) 2))])), (a0, .inl (cA, 8, .inl (fun i => nI ((fun _ => 0) i))))] H := hP
  have hD : va_D A [(h0, .inr (0, [.ref a0, .int (nI 2), .int (nI (sd_sum (fun _ => 0) 2))])), (a0, .inl (cA, 8, .inl (fun i => nI ((fun _ => 0) i))))] := hD
  refine lv_astore_n hx hb dL_law_7 rfl hl (by decide) rfl (fun ls hl => ?_)
  have hl : lv_has ls 8 [(1, .ref h0), (0, .ref b)] := hl
  refine va_new (ci := 1) (fs := [.int 0, .int 0, .null, .null, .null, .null]) (C := RX1) (T := TX1) (N := 6) hx hb hts u_in_X1 tyX1 tyX1_ok hown (hts (.classLink RL 40 RX1) k_classLink_L_40) (sd_W0 hts9 220 rfl) (hts (.initialized RX1) k_init_ShareDeskModel) hK hP hD hS hA rfl (fun j hj => by rcases (show j = 0 ∨ j = 1 ∨ j = 2 ∨ j = 3 ∨ j = 4 ∨ j = 5 by omega) with rfl | rfl | rfl | rfl | rfl | rfl <;> rfl) (Nat.le_of_ble_eq_true rfl) (Nat.le_of_ble_eq_true rfl) dL_law_8 (fun h1 H hP hD hS => ?_)
  have hP : va_P (dC, dI) vwCl [(h0, .inr (0, [.ref a0, .int (nI 2), .int (nI (sd_sum (fun _ => 0) 2))])), (a0, .inl (cA, 8, .inl (fun i => nI ((fun _ => 0) i)))), (h1, .inr (1, [.int 0, .int 0, .null, .null, .null, .null]))] H := hP
  have hD : va_D A [(h0, .inr (0, [.ref a0, .int (nI 2), .int (nI (sd_sum (fun _ => 0) 2))])), (a0, .inl (cA, 8, .inl (fun i => nI ((fun _ => 0) i)))), (h1, .inr (1, [.int 0, .int 0, .null, .null, .null, .null]))] := hD
  refine lv_dup hx hb dL_law_11 rfl ?_
  have hPc := hP.sub (ws' := [(h1, .inr (1, [.int 0, .int 0, .null, .null, .null, .null]))]) [2] rfl
  have hDc := hD.sub (ws' := [(h1, .inr (1, [.int 0, .int 0, .null, .null, .null, .null]))]) [2] (by decide) rfl
  have hKc := sd_K0 hK
  refine sd_Jn (wc := [(h1, .inr (1, [.int 0, .int 0, .null, .null, .null, .null]))]) (wr := [(h0, .inr (0, [.ref a0, .int (nI 2), .int (nI (sd_sum (fun _ => 0) 2))])), (a0, .inl (cA, 8, .inl (fun i => nI ((fun _ => 0) i))))]) (va_runI (As := []) (rest := [.ref h1]) ⟨hx, hb, hml, hown, hts0⟩ (m_init l dC dI h1 H.size) (cwI 0 hts0 (sd_gI k_code_X1_init) rfl rfl rfl (hts (.initialized RX1) k_init_ShareDeskModel) (hts (.methodLink RL 42 yX1_init) k_methodLink_L_42) (hts (.instanceMethod yX1_init) k_instanceMethod_X1_init) rfl (by decide +kernel) ⟨Nat.le_of_ble_eq_true rfl, Nat.le_of_ble_eq_true rfl⟩) (sd_preSw hKc hPc hDc) rfl rfl hl.1 rfl (lv_room (Nat.le_of_ble_eq_true rfl)) dL_law_12 ⟨Nat.le_of_ble_eq_true rfl, Nat.le_of_ble_eq_true rfl⟩) hP hD hS hA [2] [0, 1] rfl rfl (by decide) (by decide) (fun u_ H locs hKn hP hD hS => ?_)
  obtain ⟨cL, cZ, a1, a2, a3, a4⟩ := u_
  have hK := hK.app hKn
  have hK : va_K (dC, dI) vwCl [(cA, .int), (cL, .long), (cZ, .boolean)] s := hK
  have hP : va_P (dC, dI) vwCl [(h0, .inr (0, [.ref a0, .int (nI 2), .int (nI (sd_sum (fun _ => 0) 2))])), (a0, .inl (cA, 8, .inl (fun i => nI ((fun _ => 0) i)))), (h1, .inr (1, [.int (nI 0), .int (nI 2), .ref a1, .ref a2, .ref a3, .ref a4])), (a1, .inl (cL, 8, .inr (.inl (fun z => lN ((fun _ => 0) z))))), (a2, .inl (cL, 8, .inr (.inl (fun _ => lN 0)))), (a3, .inl (cL, 8, .inr (.inl (fun _ => lN 0)))), (a4, .inl (cZ, 8, .inl (fun _ => nI 0)))] H := hP
  have hD : va_D A [(h0, .inr (0, [.ref a0, .int (nI 2), .int (nI (sd_sum (fun _ => 0) 2))])), (a0, .inl (cA, 8, .inl (fun i => nI ((fun _ => 0) i)))), (h1, .inr (1, [.int (nI 0), .int (nI 2), .ref a1, .ref a2, .ref a3, .ref a4])), (a1, .inl (cL, 8, .inr (.inl (fun z => lN ((fun _ => 0) z))))), (a2, .inl (cL, 8, .inr (.inl (fun _ => lN 0)))), (a3, .inl (cL, 8, .inr (.inl (fun _ => lN 0)))), (a4, .inl (cZ, 8, .inl (fun _ => nI 0)))] := hD
  refine lv_astore_n hx hb dL_law_15 rfl hl (by decide) rfl (fun ls hl => ?_)
  have hl : lv_has ls 8 [(2, .ref h1), (1, .ref h0), (0, .ref b)] := hl
  refine lv_iconst (v := (nI 1)) hx hb dL_law_16 (by decide +kernel) ?_
  refine va_newa (atype := .long) (ty := .long) (N' := 1) (a0 := (1, .inr (.inl (fun _ => 0)))) hx hb (hts (.arrayClass .long) k_arrL) rfl hK hP hD hS hA (fun cA => rfl) (by decide +kernel) (by decide +kernel) (by decide +kernel) (Nat.le_of_ble_eq_true rfl) (Nat.le_of_ble_eq_true rfl) dL_law_17 (fun q0 cO H hK hP hD hS => ?_)
  have hK : va_K (dC, dI) vwCl [(cA, .int), (cL, .long), (cZ, .boolean), (cO, .long)] s := hK
  refine lv_astore_n hx hb dL_law_19 rfl hl (by decide) rfl (fun ls hl => ?_)
  have hl : lv_has ls 8 [(3, .ref q0), (2, .ref h1), (1, .ref h0), (0, .ref b)] := hl
  refine lv_iconst (v := (nI 0)) hx hb dL_law_20 (by decide +kernel) ?_
  refine lv_istore hx hb dL_law_21 hl (by decide) rfl (fun ls hl => ?_)
  have hl : lv_has ls 8 [(4, .int (nI 0)), (3, .ref q0), (2, .ref h1), (1, .ref h0), (0, .ref b)] := hl
  have hl := lv_sub (l' := [(0, .ref b), (1, .ref h0), (2, .ref h1), (3, .ref q0), (4, .int (nI 0))]) hl [4, 3, 2, 1, 0] rfl
  have hP : va_P (dC, dI) vwCl (sd_LW cA h0 a0 cL cZ h1 a1 a2 a3 a4 cO q0 2 (fun _ => 0) 0 (fun _ => lN 0) (fun _ => lN 0) (fun _ => nI 0) (fun _ => 0)) H := hP
  have hD : va_D A (sd_LW cA h0 a0 cL cZ h1 a1 a2 a3 a4 cO q0 2 (fun _ => 0) 0 (fun _ => lN 0) (fun _ => lN 0) (fun _ => nI 0) (fun _ => 0)) := hD
  refine W.cs (cells' := 8 + 0) (slots' := 50 + 6 * 0) rfl rfl ?_
  exact law_loop hl9 hx hb hml hts0 hown hX hbl hbA hA hTH hK hL (fun H locs ls cells slots h1 h2 hS => va_forget (fun q hq => by have h9 := hS.2.2 q hq; rw [hAe] at h9; exact h9) (W.widen (k := 1040) (n := 8290) h1 h2 (lw_ret hx hb hr hlocks dL_law_554))) 513 0 rfl (Nat.zero_le _) H _ ls 2 (fun _ => 0) 0 _ _ _ _ (sd_ok_new (by decide) (by decide)) hP hD hS hl
