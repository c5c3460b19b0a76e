set_option maxHeartbeats 4000000 in
set_option maxRecDepth 100000 in
theorem m_in (l : Launch) (dC : Nat → ClassId) (dI : Nat → Nat → Nat) (v a b : Int64) : Met l yX1_in (sd_ws yX1_in cX1_in 6 (some .boolean)) (sd_rm 0 0 0) (sd_Pp (dC, dI) vwCl [] [] [.long v, .long a, .long b]) (vp_Si (fun r => r = sd_bi (sd_in3 v a b))) 0 0 (fun _ => False) := by
  refine Met.ofW (cc := cX1_in) (maxL := 6) (ret := (some .boolean)) (by decide) rfl ?_
  intro p e s m args below meth c s₁ B hml hv
  obtain ⟨rfl, hP, hK⟩ := hv
  have hx := B.exec
  have hb := B.bytes
  have hr := B.returns
  have hts0 := atoms_spec (ws := (sd_ws yX1_in cX1_in 6 (some .boolean))) B.pre
  have hts : ∀ w ∈ sd_WS, w.before _ s = true := fun w h => hts0 w (List.mem_cons_of_mem _ h)
  have hown : s.vm.findClass RX1 = some m.cls := findClass_of_methodNamed B.named
  have hlocks := B.notSynchronized
  have hl := lv_entry ([.long v, .long a, .long b]) (n := 6) (Nat.le_of_ble_eq_true rfl)
  rw [lg_entry_eq]
  generalize (lg_sl ([.long v, .long a, .long b]) ++ List.replicate (6 - (lg_sl ([.long v, .long a, .long b])).length) Slot.unset).toArray = ls at hl ⊢
  have hl : lv_has ls 6 [(0, .long v), (2, .long a), (4, .long b)] := hl
  refine lv_lload_n hx hb dX1_in_0 rfl (lv_at hl 0 rfl) ?_
  refine lv_lload_n hx hb dX1_in_1 rfl (lv_at hl 1 rfl) ?_
  refine sd_lif_lt (tgt := 17) hx hb dX1_in_2 dX1_in_3 (by decide) (fun h => ?_) (fun h => ?_)
  · refine lv_iconst (v := (nI 0)) hx hb dX1_in_17 (by decide +kernel) ?_
    exact W.zret hx hb hr rfl (fun t ht hW => ⟨_, rfl, (by unfold sd_in3; rw [decide_eq_false (Int64.not_le.mpr h)]; rfl), ht⟩) (fun q hq => nomatch hq) dX1_in_18
  · have hav := h
    refine lv_lload_n hx hb dX1_in_6 rfl (lv_at hl 0 rfl) ?_
    refine lv_lload hx hb dX1_in_7 (lv_at hl 2 rfl) ?_
    refine sd_lif_gt (tgt := 17) hx hb dX1_in_9 dX1_in_10 (by decide) (fun h => ?_) (fun h => ?_)
    · refine lv_iconst (v := (nI 0)) hx hb dX1_in_17 (by decide +kernel) ?_
      exact W.zret hx hb hr rfl (fun t ht hW => ⟨_, rfl, (by unfold sd_in3; rw [decide_eq_false (Int64.not_le.mpr h), Bool.and_false]; rfl), ht⟩) (fun q hq => nomatch hq) dX1_in_18
    · refine lv_iconst (v := (nI 1)) hx hb dX1_in_13 (by decide +kernel) ?_
      refine lv_goto (tgt := 18) hx hb dX1_in_14 (by decide) ?_
      exact W.zret hx hb hr rfl (fun t ht hW => ⟨_, rfl, (by unfold sd_in3; rw [decide_eq_true hav, decide_eq_true h]; rfl), ht⟩) (fun q hq => nomatch hq) dX1_in_18
set_option maxHeartbeats 4000000 in
set_option maxRecDepth 100000 in
theorem m_isWay (l : Launch) (dC : Nat → ClassId) (dI : Nat → Nat → Nat) (x : Int32) : Met l yX1_isWay (sd_ws yX1_isWay cX1_isWay 1 (some .boolean)) (sd_rm 1 0 0) (sd_Pp (dC, dI) vwCl [] [] [.int x]) (vp_Si (fun r => r = sd_bi (sd_rg x 0 2))) 0 0 (fun _ => False) := by
  refine Met.ofW (cc := cX1_isWay) (maxL := 1) (ret := (some .boolean)) (by decide) rfl ?_
  intro p e s m args below meth c s₁ B hml hv
  obtain ⟨rfl, hP, hK⟩ := hv
  have hx := B.exec
  have hb := B.bytes
  have hr := B.returns
  have hts0 := atoms_spec (ws := (sd_ws yX1_isWay cX1_isWay 1 (some .boolean))) B.pre
  have hts : ∀ w ∈ sd_WS, w.before _ s = true := fun w h => hts0 w (List.mem_cons_of_mem _ h)
  have hown : s.vm.findClass RX1 = some m.cls := findClass_of_methodNamed B.named
  have hlocks := B.notSynchronized
  have hl := lv_entry ([.int x]) (n := 1) (Nat.le_of_ble_eq_true rfl)
  rw [lg_entry_eq]
  generalize (lg_sl ([.int x]) ++ List.replicate (1 - (lg_sl ([.int x])).length) Slot.unset).toArray = ls at hl ⊢
  have hl : lv_has ls 1 [(0, .int x)] := hl
  refine lv_iload_n hx hb dX1_isWay_0 rfl (lv_at hl 0 rfl) ?_
  refine lv_i2l (v := x.toInt64) hx hb dX1_isWay_1 rfl ?_
  refine lv_lconst (v := lN 0) hx hb dX1_isWay_2 rfl ?_
  refine lv_ldc2 (v := 2) hx hb hown (hts (.constantLong RX1 34 2) k_constantLong_X1_34) dX1_isWay_3 ?_
  refine sd_topl (y := lN 2) (by decide +kernel) ?_
  refine sd_calli (va_runS (As := [.long (x.toInt64), .long (lN 0), .long (lN 2)]) (rest := []) ⟨hx, hb, hml, hown, hts0⟩ (m_in l dC dI x.toInt64 (lN 0) (lN 2)) (cwS 3 hts0 (sd_gS k_methodLink_X1_30 k_static_X1_in k_init_ShareDeskModel k_code_X1_in) rfl rfl rfl (by decide +kernel) ⟨Nat.le_of_ble_eq_true rfl, Nat.le_of_ble_eq_true rfl⟩) (sd_preS (sd_K0 hK) (sd_nil _ _ _)) rfl rfl hl.1 rfl (lv_room (Nat.le_of_ble_eq_true rfl)) dX1_isWay_6 ⟨Nat.zero_le _, Nat.zero_le _⟩) ?_
  exact W.zret hx hb hr (sd_bi_nar _) (fun t ht hW => ⟨_, rfl, rfl, ht⟩) (fun q hq => nomatch hq) dX1_isWay_9
set_option maxHeartbeats 4000000 in
set_option maxRecDepth 100000 in
theorem m_isParty (l : Launch) (dC : Nat → ClassId) (dI : Nat → Nat → Nat) (cL cZ : ClassId) (h1 a1 a2 a3 a4 er n : Nat) (w : Nat → Nat) (sh ke : Nat → Int64) (go : Nat → Int32) (hn1 : 1 ≤ n) (hn8 : n ≤ 8) (x : Int32) : Met l yX1_isParty (sd_ws yX1_isParty cX1_isParty 2 (some .boolean)) (sd_rm 1 0 0) (sd_Pp (dC, dI) vwCl [(cL, .long), (cZ, .boolean)] (sd_M cL cZ h1 a1 a2 a3 a4 er n w sh ke go) [.ref h1, .int x]) (vp_Si (fun r => r = sd_bi (sd_rg x 0 (n - 1)))) 0 0 (fun _ => False) := by
  refine Met.ofW (cc := cX1_isParty) (maxL := 2) (ret := (some .boolean)) (by decide) rfl ?_
  intro p e s m args below meth c s₁ B hml hv
  obtain ⟨rfl, hP, hK⟩ := hv
  have hx := B.exec
  have hb := B.bytes
  have hr := B.returns
  have hts0 := atoms_spec (ws := (sd_ws yX1_isParty cX1_isParty 2 (some .boolean))) B.pre
  have hts : ∀ w ∈ sd_WS, w.before _ s = true := fun w h => hts0 w (List.mem_cons_of_mem _ h)
  have hown : s.vm.findClass RX1 = some m.cls := findClass_of_methodNamed B.named
  have hlocks := B.notSynchronized
  have hl := lv_entry ([.ref h1, .int x]) (n := 2) (Nat.le_of_ble_eq_true rfl)
  rw [lg_entry_eq]
  generalize (lg_sl ([.ref h1, .int x]) ++ List.replicate (2 - (lg_sl ([.ref h1, .int x])).length) Slot.unset).toArray = ls at hl ⊢
  have hl : lv_has ls 2 [(0, .ref h1), (1, .int x)] := hl
  have hP : va_P (dC, dI) vwCl [(h1, .inr (1, [.int (nI er), .int (nI n), .ref a1, .ref a2, .ref a3, .ref a4])), (a1, .inl (cL, 8, .inr (.inl (fun z => lN (w z))))), (a2, .inl (cL, 8, .inr (.inl sh))), (a3, .inl (cL, 8, .inr (.inl ke))), (a4, .inl (cZ, 8, .inl go))] s.heap := hP
  refine lv_iload_n hx hb dX1_isParty_0 rfl (lv_at hl 1 rfl) ?_
  refine lv_i2l (v := x.toInt64) hx hb dX1_isParty_1 rfl ?_
  refine lv_lconst (v := lN 0) hx hb dX1_isParty_2 rfl ?_
  refine lv_aload_n hx hb dX1_isParty_3 rfl (lv_at hl 0 rfl) ?_
  refine va_get (D := (dC, dI)) (ci := 1) (v := .int (nI n)) (C := RX1) (T := TX1) (N := 6) hx hb hts u_in_X1 hown hK hP 0 rfl rfl 1 (by decide) (hts (.fieldLink RX1 7 "ShareDeskModel" "parties" "I") k_fieldLink_X1_7) (fun _ h9 => h9) rfl dX1_isParty_4 ?_
  refine lv_iconst (v := (nI 1)) hx hb dX1_isParty_7 (by decide +kernel) ?_
  refine sd_isub (v := nI (n - 1)) hx hb dX1_isParty_8 (pk_sub (by omega)) ?_
  refine lv_i2l (v := lN (n - 1)) hx hb dX1_isParty_9 (nI_l (by omega)) ?_
  refine sd_calli (va_runS (As := [.long (x.toInt64), .long (lN 0), .long (lN (n - 1))]) (rest := []) ⟨hx, hb, hml, hown, hts0⟩ (m_in l dC dI x.toInt64 (lN 0) (lN (n - 1))) (cwS 3 hts0 (sd_gS k_methodLink_X1_30 k_static_X1_in k_init_ShareDeskModel k_code_X1_in) rfl rfl rfl (by decide +kernel) ⟨Nat.le_of_ble_eq_true rfl, Nat.le_of_ble_eq_true rfl⟩) (sd_preS (sd_K0 hK) (sd_nil _ _ _)) rfl rfl hl.1 rfl (lv_room (Nat.le_of_ble_eq_true rfl)) dX1_isParty_10 ⟨Nat.zero_le _, Nat.zero_le _⟩) ?_
  exact W.zret hx hb hr (sd_bi_nar _) (fun t ht hW => ⟨_, rfl, rfl, ht⟩) (fun q hq => nomatch hq) dX1_isParty_13
set_option maxHeartbeats 4000000 in
set_option maxRecDepth 100000 in
theorem m_thrown (l : Launch) (dC : Nat → ClassId) (dI : Nat → Nat → Nat) (cL cZ : ClassId) (h1 a1 a2 a3 a4 er n : Nat) (w : Nat → Nat) (sh ke : Nat → Int64) (go : Nat → Int32)  : Met l yX1_thrown (sd_ws yX1_thrown cX1_thrown 1 (some .int)) (sd_rm 0 0 0) (sd_Pp (dC, dI) vwCl [(cL, .long), (cZ, .boolean)] (sd_M cL cZ h1 a1 a2 a3 a4 er n w sh ke go) [.ref h1]) (vp_Si (fun r => r = nI er)) 0 0 (fun _ => False) := by
  refine Met.ofW (cc := cX1_thrown) (maxL := 1) (ret := (some .int)) (by decide) rfl ?_
  intro p e s m args below meth c s₁ B hml hv
  obtain ⟨rfl, hP, hK⟩ := hv
  have hx := B.exec
  have hb := B.bytes
  have hr := B.returns
  have hts0 := atoms_spec (ws := (sd_ws yX1_thrown cX1_thrown 1 (some .int))) B.pre
  have hts : ∀ w ∈ sd_WS, w.before _ s = true := fun w h => hts0 w (List.mem_cons_of_mem _ h)
  have hown : s.vm.findClass RX1 = some m.cls := findClass_of_methodNamed B.named
  have hlocks := B.notSynchronized
  have hl := lv_entry ([.ref h1]) (n := 1) (Nat.le_of_ble_eq_true rfl)
  rw [lg_entry_eq]
  generalize (lg_sl ([.ref h1]) ++ List.replicate (1 - (lg_sl ([.ref h1])).length) Slot.unset).toArray = ls at hl ⊢
  have hl : lv_has ls 1 [(0, .ref h1)] := hl
  have hP : va_P (dC, dI) vwCl [(h1, .inr (1, [.int (nI er), .int (nI n), .ref a1, .ref a2, .ref a3, .ref a4])), (a1, .inl (cL, 8, .inr (.inl (fun z => lN (w z))))), (a2, .inl (cL, 8, .inr (.inl sh))), (a3, .inl (cL, 8, .inr (.inl ke))), (a4, .inl (cZ, 8, .inl go))] s.heap := hP
  refine lv_aload_n hx hb dX1_thrown_0 rfl (lv_at hl 0 rfl) ?_
  refine va_get (D := (dC, dI)) (ci := 1) (v := .int (nI er)) (C := RX1) (T := TX1) (N := 6) hx hb hts u_in_X1 hown hK hP 0 rfl rfl 0 (by decide) (hts (.fieldLink RX1 27 "ShareDeskModel" "err" "I") k_fieldLink_X1_27) (fun _ h9 => h9) rfl dX1_thrown_1 ?_
  exact W.iret hx hb hr (fun t ht hW => ⟨_, rfl, rfl, ht⟩) (fun q hq => nomatch hq) dX1_thrown_4
set_option maxHeartbeats 4000000 in
set_option maxRecDepth 100000 in
theorem lp_all {p : Program} {l : Launch} {e : Env} {R : Room} {s : State} {m : MethodId} {args : Array Value} {below : List Frame} {meth : Method} {c : Code} {H : Heap} {locs : List Loc} {cells slots : Nat} {Q : State → Prop} (hx : p.tables.exec = Jvm.exec) (hb : c.code = cX1_all) (hml : c.maxLocals = 4) (hts0 : ∀ w ∈ (sd_ws yX1_all cX1_all 4 (some .long)), w.before args s = true) (hown : s.vm.findClass RX1 = some m.cls) {dC : Nat → ClassId} {dI : Nat → Nat → Nat} {cL cZ : ClassId} {h1 a1 a2 a3 a4 er n : Nat} {w : Nat → Nat} {sh ke : Nat → Int64} {go : Nat → Int32} (hK : va_K (dC, dI) vwCl [(cL, .long), (cZ, .boolean)] s) (hP : va_P (dC, dI) vwCl (sd_M cL cZ h1 a1 a2 a3 a4 er n w sh ke go) H) (hn8 : n ≤ 8)
    (kk : ∀ ls : Array Slot, lv_has ls 4 [(0, .ref h1), (1, .long (lN (sd_sum w n))), (3, .int (nI n))] → W p l e R s m args below meth c H locs cells slots Q (F0 m 27 ls []))
    : ∀ (f i : Nat), i + f = n → ∀ ls : Array Slot, lv_has ls 4 [(0, .ref h1), (1, .long (lN (sd_sum w i))), (3, .int (nI i))] → W p l e R s m args below meth c H locs cells slots Q (F0 m 4 ls []) := by
  have hts : ∀ w ∈ sd_WS, w.before args s = true := fun w h => hts0 w (List.mem_cons_of_mem _ h)
  have hP : va_P (dC, dI) vwCl [(h1, .inr (1, [.int (nI er), .int (nI n), .ref a1, .ref a2, .ref a3, .ref a4])), (a1, .inl (cL, 8, .inr (.inl (fun z => lN (w z))))), (a2, .inl (cL, 8, .inr (.inl sh))), (a3, .inl (cL, 8, .inr (.inl ke))), (a4, .inl (cZ, 8, .inl go))] H := hP
  intro f
  induction f using Nat.strongRecOn with
  | ind f ih0 =>
    intro i hi ls hl
    have ih : i < n → ∀ ls : Array Slot, lv_has ls 4 [(0, .ref h1), (1, .long (lN (sd_sum w (i + 1)))), (3, .int (nI (i + 1)))] → W p l e R s m args below meth c H locs cells slots Q (F0 m 4 ls []) := fun hlt => ih0 (f - 1) (by omega) (i + 1) (by omega)
    refine lv_iload_n hx hb dX1_all_4 rfl (lv_at hl 2 rfl) ?_
    refine lv_aload_n hx hb dX1_all_5 rfl (lv_at hl 0 rfl) ?_
    refine va_get (D := (dC, dI)) (ci := 1) (v := .int (nI n)) (C := RX1) (T := TX1) (N := 6) hx hb hts u_in_X1 hown hK hP 0 rfl rfl 1 (by decide) (hts (.fieldLink RX1 7 "ShareDeskModel" "parties" "I") k_fieldLink_X1_7) (fun _ h9 => h9) rfl dX1_all_6 ?_
    refine sd_ic_ge (a := i) (b := n) (tgt := 27) hx hb dX1_all_9 (by decide) (by omega) (by omega) (fun h => ?_) (fun h => ?_)
    · have hin : i = n := by omega
      subst hin
      exact kk ls hl
    · refine lv_lload_n hx hb dX1_all_12 rfl (lv_at hl 1 rfl) ?_
      refine lv_aload_n hx hb dX1_all_13 rfl (lv_at hl 0 rfl) ?_
      refine va_get (D := (dC, dI)) (ci := 1) (v := .ref a1) (C := RX1) (T := TX1) (N := 6) hx hb hts u_in_X1 hown hK hP 0 rfl rfl 2 (by decide) (hts (.fieldLink RX1 13 "ShareDeskModel" "weights" "[J") k_fieldLink_X1_13) (fun _ h9 => h9) rfl dX1_all_14 ?_
      refine lv_iload_n hx hb dX1_all_17 rfl (lv_at hl 2 rfl) ?_
      refine sd_lald (j := i) (v := lN (w i)) hx hb hK hP 1 0 rfl rfl (by omega) (by decide) rfl dX1_all_18 ?_
      refine sd_ladd (v := lN ((sd_sum w i) + (w i))) hx hb dX1_all_19 (lN_add _ _) ?_
      refine lv_lstore_n hx hb dX1_all_20 rfl hl (by decide) rfl (fun ls hl => ?_)
      have hl : lv_has ls 4 [(1, .long (lN ((sd_sum w i) + (w i)))), (0, .ref h1), (3, .int (nI i))] := hl
      refine lv_iinc (k := 2) (v := nI (i + 1)) hx hb dX1_all_21 hl rfl (nI_add _ 1) (by decide) rfl (fun ls hl => ?_)
      have hl : lv_has ls 4 [(3, .int (nI (i + 1))), (1, .long (lN ((sd_sum w i) + (w i)))), (0, .ref h1)] := hl
      refine lv_goto (tgt := 4) hx hb dX1_all_24 (by decide) ?_
      have hl := lv_sub (l' := [(0, .ref h1), (1, .long (lN ((sd_sum w i) + (w i)))), (3, .int (nI (i + 1)))]) hl [2, 1, 0] rfl
      exact ih (by omega) ls hl
set_option maxHeartbeats 4000000 in
set_option maxRecDepth 100000 in
theorem m_all (l : Launch) (dC : Nat → ClassId) (dI : Nat → Nat → Nat) (cL cZ : ClassId) (h1 a1 a2 a3 a4 er n : Nat) (w : Nat → Nat) (sh ke : Nat → Int64) (go : Nat → Int32) (hn8 : n ≤ 8) : Met l yX1_all (sd_ws yX1_all cX1_all 4 (some .long)) (sd_rm 0 0 0) (sd_Pp (dC, dI) vwCl [(cL, .long), (cZ, .boolean)] (sd_M cL cZ h1 a1 a2 a3 a4 er n w sh ke go) [.ref h1]) (vp_Sl (fun r => r = lN (sd_sum w n))) 0 0 (fun _ => False) := by
  refine Met.ofW (cc := cX1_all) (maxL := 4) (ret := (some .long)) (by decide) rfl ?_
  intro p e s m args below meth c s₁ B hml hv
  obtain ⟨rfl, hP, hK⟩ := hv
  have hx := B.exec
  have hb := B.bytes
  have hr := B.returns
  have hts0 := atoms_spec (ws := (sd_ws yX1_all cX1_all 4 (some .long))) B.pre
  have hts : ∀ w ∈ sd_WS, w.before _ s = true := fun w h => hts0 w (List.mem_cons_of_mem _ h)
  have hown : s.vm.findClass RX1 = some m.cls := findClass_of_methodNamed B.named
  have hlocks := B.notSynchronized
  have hl := lv_entry ([.ref h1]) (n := 4) (Nat.le_of_ble_eq_true rfl)
  rw [lg_entry_eq]
  generalize (lg_sl ([.ref h1]) ++ List.replicate (4 - (lg_sl ([.ref h1])).length) Slot.unset).toArray = ls at hl ⊢
  have hl : lv_has ls 4 [(0, .ref h1)] := hl
  have hP : va_P (dC, dI) vwCl [(h1, .inr (1, [.int (nI er), .int (nI n), .ref a1, .ref a2, .ref a3, .ref a4])), (a1, .inl (cL, 8, .inr (.inl (fun z => lN (w z))))), (a2, .inl (cL, 8, .inr (.inl sh))), (a3, .inl (cL, 8, .inr (.inl ke))), (a4, .inl (cZ, 8, .inl go))] s.heap := hP
  refine lv_lconst (v := lN 0) hx hb dX1_all_0 rfl ?_
  refine lv_lstore_n hx hb dX1_all_1 rfl hl (by decide) rfl (fun ls hl => ?_)
  have hl : lv_has ls 4 [(1, .long (lN 0)), (0, .ref h1)] := hl
  refine lv_iconst (v := (nI 0)) hx hb dX1_all_2 (by decide +kernel) ?_
  refine lv_istore_n hx hb dX1_all_3 rfl hl (by decide) rfl (fun ls hl => ?_)
  have hl : lv_has ls 4 [(3, .int (nI 0)), (1, .long (lN 0)), (0, .ref h1)] := hl
  have hl := lv_sub (l' := [(0, .ref h1), (1, .long (lN 0)), (3, .int (nI 0))]) hl [2, 1, 0] rfl
  refine lp_all hx hb hml hts0 hown hK hP hn8 (fun ls hl => ?_) n 0 (by omega) ls hl
  refine lv_lload_n hx hb dX1_all_27 rfl (lv_at hl 1 rfl) ?_
  exact W.lret hx hb hr (fun t ht hW => ⟨_, rfl, rfl, ht⟩) (fun q hq => nomatch hq) dX1_all_28
set_option maxHeartbeats 4000000 in
set_option maxRecDepth 100000 in
theorem m_fails0 (l : Launch) (dC : Nat → ClassId) (dI : Nat → Nat → Nat) (cL cZ : ClassId) (h1 a1 a2 a3 a4 er n : Nat) (w : Nat → Nat) (sh ke : Nat → Int64) (go : Nat → Int32) (her : er = 0) (k : Nat) : Met l yX1_fails (sd_ws yX1_fails cX1_fails 3 (some .boolean)) (sd_rm 0 0 0) (sd_Pp (dC, dI) vwCl [(cL, .long), (cZ, .boolean)] (sd_M cL cZ h1 a1 a2 a3 a4 er n w sh ke go) [.ref h1, .int (nI 0), .int (nI k)]) (vp_Si (fun r => r = nI 0)) 0 0 (fun _ => False) := by
  refine Met.ofW (cc := cX1_fails) (maxL := 3) (ret := (some .boolean)) (by decide) rfl ?_
  intro p e s m args below meth c s₁ B hml hv
  obtain ⟨rfl, hP, hK⟩ := hv
  have hx := B.exec
  have hb := B.bytes
  have hr := B.returns
  have hts0 := atoms_spec (ws := (sd_ws yX1_fails cX1_fails 3 (some .boolean))) B.pre
  have hts : ∀ w ∈ sd_WS, w.before _ s = true := fun w h => hts0 w (List.mem_cons_of_mem _ h)
  have hown : s.vm.findClass RX1 = some m.cls := findClass_of_methodNamed B.named
  have hlocks := B.notSynchronized
  have hl := lv_entry ([.ref h1, .int (nI 0), .int (nI k)]) (n := 3) (Nat.le_of_ble_eq_true rfl)
  rw [lg_entry_eq]
  generalize (lg_sl ([.ref h1, .int (nI 0), .int (nI k)]) ++ List.replicate (3 - (lg_sl ([.ref h1, .int (nI 0), .int (nI k)])).length) Slot.unset).toArray = ls at hl ⊢
  have hl : lv_has ls 3 [(0, .ref h1), (1, .int (nI 0)), (2, .int (nI k))] := hl
  have hP : va_P (dC, dI) vwCl [(h1, .inr (1, [.int (nI er), .int (nI n), .ref a1, .ref a2, .ref a3, .ref a4])), (a1, .inl (cL, 8, .inr (.inl (fun z => lN (w z))))), (a2, .inl (cL, 8, .inr (.inl sh))), (a3, .inl (cL, 8, .inr (.inl ke))), (a4, .inl (cZ, 8, .inl go))] s.heap := hP
  refine lv_iload_n hx hb dX1_fails_0 rfl (lv_at hl 1 rfl) ?_
  refine sd_iz_eq (a := 0) (tgt := 16) hx hb dX1_fails_1 (by decide) (by omega) (fun h => ?_) (fun h => ?_)
  · refine lv_aload_n hx hb dX1_fails_16 rfl (lv_at hl 0 rfl) ?_
    refine va_get (D := (dC, dI)) (ci := 1) (v := .int (nI er)) (C := RX1) (T := TX1) (N := 6) hx hb hts u_in_X1 hown hK hP 0 rfl rfl 0 (by decide) (hts (.fieldLink RX1 27 "ShareDeskModel" "err" "I") k_fieldLink_X1_27) (fun _ h9 => h9) rfl dX1_fails_17 ?_
    refine sd_iz_eq (a := er) (tgt := 27) hx hb dX1_fails_20 (by decide) (by omega) (fun h => ?_) (fun h => ?_)
    · refine lv_iconst (v := (nI 0)) hx hb dX1_fails_27 (by decide +kernel) ?_
      exact W.zret hx hb hr rfl (fun t ht hW => ⟨_, rfl, rfl, ht⟩) (fun q hq => nomatch hq) dX1_fails_28
    · exact absurd h (by omega)
  · exact absurd h (by omega)
set_option maxHeartbeats 4000000 in
set_option maxRecDepth 100000 in
theorem m_fails1 (l : Launch) (dC : Nat → ClassId) (dI : Nat → Nat → Nat) (cL cZ : ClassId) (h1 a1 a2 a3 a4 er n : Nat) (w : Nat → Nat) (sh ke : Nat → Int64) (go : Nat → Int32) (sz : Nat) (her : er = 0) (k : Nat) (hk1 : 1 ≤ k) (hk2 : k ≤ 2) : Met l yX1_fails (sd_ws yX1_fails cX1_fails 3 (some .boolean)) (sd_rm 0 0 0) (sd_Pw (dC, dI) vwCl [(cL, .long), (cZ, .boolean)] (sd_M cL cZ h1 a1 a2 a3 a4 er n w sh ke go) sz [.ref h1, .int (nI 1), .int (nI k)]) (va_Qi (fun r (v_ : sd_S) => r = nI 1) (sd_Bw (dC, dI) vwCl [(cL, .long), (cZ, .boolean)] (sd_M cL cZ h1 a1 a2 a3 a4 er n w sh ke go) sz (fun v_ => (sd_M cL cZ h1 a1 a2 a3 a4 k n w v_.1 v_.2.1 v_.2.2))) (va_A (sd_M cL cZ h1 a1 a2 a3 a4 er n w sh ke go) sz)) 0 0 (va_A (sd_M cL cZ h1 a1 a2 a3 a4 er n w sh ke go) sz) := by
  refine Met.ofW (cc := cX1_fails) (maxL := 3) (ret := (some .boolean)) (by decide) rfl ?_
  intro p e s m args below meth c s₁ B hml hv
  obtain ⟨rfl, hsz, hP, hK, hD0⟩ := hv
  subst hsz
  have hx := B.exec
  have hb := B.bytes
  have hr := B.returns
  have hts0 := atoms_spec (ws := (sd_ws yX1_fails cX1_fails 3 (some .boolean))) B.pre
  have hts : ∀ w ∈ sd_WS, w.before _ s = true := fun w h => hts0 w (List.mem_cons_of_mem _ h)
  have hown : s.vm.findClass RX1 = some m.cls := findClass_of_methodNamed B.named
  have hlocks := B.notSynchronized
  have hl := lv_entry ([.ref h1, .int (nI 1), .int (nI k)]) (n := 3) (Nat.le_of_ble_eq_true rfl)
  rw [lg_entry_eq]
  generalize (lg_sl ([.ref h1, .int (nI 1), .int (nI k)]) ++ List.replicate (3 - (lg_sl ([.ref h1, .int (nI 1), .int (nI k)])).length) Slot.unset).toArray = ls at hl ⊢
  have hl : lv_has ls 3 [(0, .ref h1), (1, .int (nI 1)), (2, .int (nI k))] := hl
  obtain ⟨A, hAe⟩ : ∃ A, A = va_A (sd_M cL cZ h1 a1 a2 a3 a4 er n w sh ke go) s.heap.size := ⟨_, rfl⟩
  have hD : va_D A (sd_M cL cZ h1 a1 a2 a3 a4 er n w sh ke go) := by rw [hAe]; exact hD0.self
  have hA : ∀ q : Nat, s.heap.size ≤ q → A q := fun q h => by rw [hAe]; exact Or.inr h
  have hS : va_S A s.heap s.heap [] := va_S.rf
  have hP : va_P (dC, dI) vwCl [(h1, .inr (1, [.int (nI er), .int (nI n), .ref a1, .ref a2, .ref a3, .ref a4])), (a1, .inl (cL, 8, .inr (.inl (fun z => lN (w z))))), (a2, .inl (cL, 8, .inr (.inl sh))), (a3, .inl (cL, 8, .inr (.inl ke))), (a4, .inl (cZ, 8, .inl go))] s.heap := hP
  have hD : va_D A [(h1, .inr (1, [.int (nI er), .int (nI n), .ref a1, .ref a2, .ref a3, .ref a4])), (a1, .inl (cL, 8, .inr (.inl (fun z => lN (w z))))), (a2, .inl (cL, 8, .inr (.inl sh))), (a3, .inl (cL, 8, .inr (.inl ke))), (a4, .inl (cZ, 8, .inl go))] := hD
  refine lv_iload_n hx hb dX1_fails_0 rfl (lv_at hl 1 rfl) ?_
  refine sd_iz_eq (a := 1) (tgt := 16) hx hb dX1_fails_1 (by decide) (by omega) (fun h => ?_) (fun h => ?_)
  · exact absurd h (by omega)
  · refine lv_aload_n hx hb dX1_fails_4 rfl (lv_at hl 0 rfl) ?_
    refine va_get (D := (dC, dI)) (ci := 1) (v := .int (nI er)) (C := RX1) (T := TX1) (N := 6) hx hb hts u_in_X1 hown hK hP 0 rfl rfl 0 (by decide) (hts (.fieldLink RX1 27 "ShareDeskModel" "err" "I") k_fieldLink_X1_27) (fun _ h9 => h9) rfl dX1_fails_5 ?_
    refine sd_iz_ne (a := er) (tgt := 16) hx hb dX1_fails_8 (by decide) (by omega) (fun h => ?_) (fun h => ?_)
    · exact absurd h (by omega)
    · refine lv_aload_n hx hb dX1_fails_11 rfl (lv_at hl 0 rfl) ?_
      refine lv_iload_n hx hb dX1_fails_12 rfl (lv_at hl 2 rfl) ?_
      refine va_put (D := (dC, dI)) (ci := 1) (v := .int (nI k)) (ty := .int) (C := RX1) (T := TX1) (N := 6) hx hb hts u_in_X1 tyX1 tyX1_ok nmX1 hown hK hP hD hS 0 rfl rfl 0 (by decide) (hts (.fieldLink RX1 27 "ShareDeskModel" "err" "I") k_fieldLink_X1_27) (fun _ h9 => h9) rfl (by decide +kernel) rfl rfl (Nat.le_of_ble_eq_true rfl) dX1_fails_13 (fun H locs hP hD hS => ?_)
      have hP : va_P (dC, dI) vwCl [(h1, .inr (1, [.int (nI k), .int (nI n), .ref a1, .ref a2, .ref a3, .ref a4])), (a1, .inl (cL, 8, .inr (.inl (fun z => lN (w z))))), (a2, .inl (cL, 8, .inr (.inl sh))), (a3, .inl (cL, 8, .inr (.inl ke))), (a4, .inl (cZ, 8, .inl go))] H := hP
      have hD : va_D A [(h1, .inr (1, [.int (nI k), .int (nI n), .ref a1, .ref a2, .ref a3, .ref a4])), (a1, .inl (cL, 8, .inr (.inl (fun z => lN (w z))))), (a2, .inl (cL, 8, .inr (.inl sh))), (a3, .inl (cL, 8, .inr (.inl ke))), (a4, .inl (cZ, 8, .inl go))] := hD
      refine lv_aload_n hx hb dX1_fails_16 rfl (lv_at hl 0 rfl) ?_
      refine va_get (D := (dC, dI)) (ci := 1) (v := .int (nI k)) (C := RX1) (T := TX1) (N := 6) hx hb hts u_in_X1 hown hK hP 0 rfl rfl 0 (by decide) (hts (.fieldLink RX1 27 "ShareDeskModel" "err" "I") k_fieldLink_X1_27) (fun _ h9 => h9) rfl dX1_fails_17 ?_
      refine sd_iz_eq (a := k) (tgt := 27) hx hb dX1_fails_20 (by decide) (by omega) (fun h => ?_) (fun h => ?_)
      · exact absurd h (by omega)
      · refine lv_iconst (v := (nI 1)) hx hb dX1_fails_23 (by decide +kernel) ?_
        refine lv_goto (tgt := 28) hx hb dX1_fails_24 (by decide) ?_
        exact W.zret hx hb hr rfl (fun t ht hW => ⟨⟨_, (sh, ke, go), rfl, rfl, by rw [ht]; exact hP, va_K.moved hW.alike hK, by rw [← hAe]; exact hD⟩, by rw [← hAe]; exact hS.F ht⟩) (fun q hq => by rw [← hAe]; exact hS.2.2 q hq) dX1_fails_28
