set_option maxHeartbeats 4000000 in
set_option maxRecDepth 100000 in
theorem c_least (l : Launch) (dC : Nat → ClassId) (dI : Nat → Nat → Nat) (cA : ClassId) (h0 a0 n : Nat) (w : Nat → Nat) (ok : sd_ok n w) (hW : 0 < sd_sum w n) (y k q : Nat) (hy : y ≤ 2) (hk : k < 2 ^ 31) (hq : q < n) : Met l yX0_least (sd_ws yX0_least cX0_least 6 (some .int)) (sd_rm 5 0 0) (sd_Pp (dC, dI) vwCl [(cA, .int)] (sd_O cA h0 a0 n w) [.ref h0, .int (nI y), .int (nI k), .int (nI q)]) (vp_Si (fun r => r = sd_oi (sd_lst (fun j => decide (k ≤ sd_U y w n j q)) 10001))) 0 0 (fun _ => False) := by
  refine Met.ofW (cc := cX0_least) (maxL := 6) (ret := (some .int)) (by decide) rfl ?_
  intro p e s m args below meth c s₁ B hml hv
  obtain ⟨rfl, hP, hK⟩ := hv
  have hx := B.exec
  have hb := B.bytes
  have hr := B.returns
  have hts0 := atoms_spec (ws := (sd_ws yX0_least cX0_least 6 (some .int))) B.pre
  have hts : ∀ w ∈ sd_WS, w.before _ s = true := fun w h => hts0 w (List.mem_cons_of_mem _ h)
  have hown : s.vm.findClass RX0 = some m.cls := findClass_of_methodNamed B.named
  have hlocks := B.notSynchronized
  have hl := lv_entry ([.ref h0, .int (nI y), .int (nI k), .int (nI q)]) (n := 6) (Nat.le_of_ble_eq_true rfl)
  rw [lg_entry_eq]
  generalize (lg_sl ([.ref h0, .int (nI y), .int (nI k), .int (nI q)]) ++ List.replicate (6 - (lg_sl ([.ref h0, .int (nI y), .int (nI k), .int (nI q)])).length) Slot.unset).toArray = ls at hl ⊢
  have hl : lv_has ls 6 [(0, .ref h0), (1, .int (nI y)), (2, .int (nI k)), (3, .int (nI q))] := hl
  have hP : va_P (dC, dI) vwCl [(h0, .inr (0, [.ref a0, .int (nI n), .int (nI (sd_sum w n))])), (a0, .inl (cA, 8, .inl (fun i => nI (w i))))] s.heap := hP
  have hwq := ok.2.2.1 q
  have hn8 := ok.2.1
  refine lv_iload_n hx hb dX0_least_0 rfl (lv_at hl 1 rfl) ?_
  refine sd_callv (va_runS (As := [.int (nI y)]) (rest := []) ⟨hx, hb, hml, hown, hts0⟩ (c_checkWay l dC dI y hy) (cwS 1 hts0 (sd_gS k_methodLink_X0_34 k_static_X0_checkWay k_init_ShareDesk k_code_X0_checkWay) rfl rfl rfl (by decide +kernel) ⟨Nat.le_of_ble_eq_true rfl, Nat.le_of_ble_eq_true rfl⟩) (sd_preS (sd_K0 hK) (sd_nil _ _ _)) rfl rfl hl.1 rfl (lv_room (Nat.le_of_ble_eq_true rfl)) dX0_least_1 ⟨Nat.zero_le _, Nat.zero_le _⟩) ?_
  refine lv_aload_n hx hb dX0_least_4 rfl (lv_at hl 0 rfl) ?_
  refine lv_iload_n hx hb dX0_least_5 rfl (lv_at hl 3 rfl) ?_
  refine sd_callv (va_runV (As := [.int (nI q)]) (rest := []) ⟨hx, hb, hml, hown, hts0⟩ (c_checkParty l dC dI cA h0 a0 n w ok q hq) (cwV 1 hts0 (sd_gV k_methodLink_X0_27 k_instanceMethod_X0_checkParty k_sel_X0_checkParty k_init_ShareDesk k_code_X0_checkParty) rfl rfl rfl (by decide +kernel) ⟨Nat.le_of_ble_eq_true rfl, Nat.le_of_ble_eq_true rfl⟩) (sd_preV hK hP (q0 := 0) (ci := 0) rfl rfl) rfl rfl hl.1 rfl (lv_room (Nat.le_of_ble_eq_true rfl)) dX0_least_6 ⟨Nat.zero_le _, Nat.zero_le _⟩) ?_
  refine lv_iload_n hx hb dX0_least_9 rfl (lv_at hl 2 rfl) ?_
  refine sd_iz_ge (a := k) (tgt := 23) hx hb dX0_least_10 (by decide) (by omega) ?_
  refine lv_aload_n hx hb dX0_least_23 rfl (lv_at hl 0 rfl) ?_
  refine sd_callv (va_runV (As := []) (rest := []) ⟨hx, hb, hml, hown, hts0⟩ (c_checkTotal l dC dI cA h0 a0 n w ok hW) (cwV 0 hts0 (sd_gV k_methodLink_X0_41 k_instanceMethod_X0_checkTotal k_sel_X0_checkTotal k_init_ShareDesk k_code_X0_checkTotal) rfl rfl rfl (by decide +kernel) ⟨Nat.le_of_ble_eq_true rfl, Nat.le_of_ble_eq_true rfl⟩) (sd_preV hK hP (q0 := 0) (ci := 0) rfl rfl) rfl rfl hl.1 rfl (lv_room (Nat.le_of_ble_eq_true rfl)) dX0_least_24 ⟨Nat.zero_le _, Nat.zero_le _⟩) ?_
  refine lv_iload_n hx hb dX0_least_27 rfl (lv_at hl 2 rfl) ?_
  refine sd_iz_ne (a := k) (tgt := 33) hx hb dX0_least_28 (by decide) (by omega) (fun h => ?_) (fun h => ?_)
  · have hk0 := h
    refine lv_iload_n hx hb dX0_least_33 rfl (lv_at hl 2 rfl) ?_
    refine lv_sipush (v := nI 10000) hx hb dX0_least_34 (by decide +kernel) ?_
    refine sd_ic_gt (a := k) (b := 10000) (tgt := 49) hx hb dX0_least_37 (by decide) (by omega) (by omega) (fun h => ?_) (fun h => ?_)
    · refine lv_iconst (v := (-1)) hx hb dX0_least_49 (by decide +kernel) ?_
      refine sd_topi (y := sd_oi (sd_lst (fun j => decide (k ≤ sd_U y w n j q)) 10001)) (by rw [sd_lst_none (fun j hj => decide_eq_false (by have := sd_U_le (y := y) (w := w) (m := j) hW hq; omega))]; rfl) ?_
      exact W.iret hx hb hr (fun t ht hW => ⟨_, rfl, rfl, ht⟩) (fun q hq => nomatch hq) dX0_least_50
    · have hk2 := h
      refine lv_aload_n hx hb dX0_least_40 rfl (lv_at hl 0 rfl) ?_
      refine va_get (D := (dC, dI)) (ci := 0) (v := .ref a0) (C := RX0) (T := TX0) (N := 3) hx hb hts u_in_X0 hown hK hP 0 rfl rfl 0 (by decide) (hts (.fieldLink RX0 9 "ShareDesk" "weights" "[I") k_fieldLink_X0_9) (fun _ h9 => h9) rfl dX0_least_41 ?_
      refine lv_iload_n hx hb dX0_least_44 rfl (lv_at hl 3 rfl) ?_
      refine sd_iald (j := q) (v := nI (w q)) hx hb hK hP 1 0 rfl rfl (by omega) (by decide) rfl dX0_least_45 ?_
      refine sd_iz_ne (a := w q) (tgt := 51) hx hb dX0_least_46 (by decide) (by omega) (fun h => ?_) (fun h => ?_)
      · have hpos := h
        refine lv_iload_n hx hb dX0_least_51 rfl (lv_at hl 1 rfl) ?_
        refine sd_iz_ne (a := y) (tgt := 62) hx hb dX0_least_52 (by decide) (by omega) (fun h => ?_) (fun h => ?_)
        · have hy1 : y = 1 ∨ y = 2 := by omega
          have hbt : sd_turn y w n k q ≤ 20000 + 8 * 4000000000 := sd_turn_le (n := n) hy (by omega) (by omega) ok.2.2.1 n (Nat.le_refl _) ok.2.1
          have hTI : ∀ j, sd_turn y w n k q ≤ j ↔ k ≤ sd_U y w n j q := fun j => by
            have h1 := sd_turn_iff hy1 (sd_inv_G (sd_sum_pos hW) j) hq hpos hk0
            rw [h1]; unfold sd_U; rw [if_neg (by omega)]
          refine lv_aload_n hx hb dX0_least_62 rfl (lv_at hl 0 rfl) ?_
          refine lv_iload_n hx hb dX0_least_63 rfl (lv_at hl 1 rfl) ?_
          refine lv_iload_n hx hb dX0_least_64 rfl (lv_at hl 2 rfl) ?_
          refine lv_iload_n hx hb dX0_least_65 rfl (lv_at hl 3 rfl) ?_
          refine sd_calll (va_runV (As := [.int (nI y), .int (nI k), .int (nI q)]) (rest := []) ⟨hx, hb, hml, hown, hts0⟩ (c_turnOf l dC dI cA h0 a0 n w ok y k q hy1 hk0 (by omega) hq hpos) (cwV 3 hts0 (sd_gV k_methodLink_X0_54 k_instanceMethod_X0_turnOf k_sel_X0_turnOf k_init_ShareDesk k_code_X0_turnOf) rfl rfl rfl (by decide +kernel) ⟨Nat.le_of_ble_eq_true rfl, Nat.le_of_ble_eq_true rfl⟩) (sd_preV hK hP (q0 := 0) (ci := 0) rfl rfl) rfl rfl hl.1 rfl (lv_room (Nat.le_of_ble_eq_true rfl)) dX0_least_66 ⟨Nat.zero_le _, Nat.zero_le _⟩) ?_
          refine lv_lstore hx hb dX0_least_69 hl (by decide) rfl (fun ls hl => ?_)
          have hl : lv_has ls 6 [(4, .long (lN (sd_turn y w n k q))), (0, .ref h0), (1, .int (nI y)), (2, .int (nI k)), (3, .int (nI q))] := hl
          refine lv_lload hx hb dX0_least_71 (lv_at hl 0 rfl) ?_
          refine lv_ldc2 (v := 10000) hx hb hown (hts (.constantLong RX0 58 10000) k_constantLong_X0_58) dX0_least_73 ?_
          refine sd_topl (y := lN 10000) (by decide +kernel) ?_
          refine sd_lc_gt (a := sd_turn y w n k q) (b := 10000) (tgt := 86) hx hb dX0_least_76 dX0_least_77 (by decide) (by omega) (by omega) (fun h => ?_) (fun h => ?_)
          · refine lv_iconst (v := (-1)) hx hb dX0_least_86 (by decide +kernel) ?_
            refine sd_topi (y := sd_oi (sd_lst (fun j => decide (k ≤ sd_U y w n j q)) 10001)) (by rw [sd_lst_none (fun j hj => decide_eq_false (fun z => by have := (hTI j).mpr z; omega))]; rfl) ?_
            exact W.iret hx hb hr (fun t ht hW => ⟨_, rfl, rfl, ht⟩) (fun q hq => nomatch hq) dX0_least_87
          · refine lv_lload hx hb dX0_least_80 (lv_at hl 0 rfl) ?_
            refine lv_l2i (v := nI (sd_turn y w n k q)) hx hb dX0_least_82 (lN_i _) ?_
            refine lv_goto (tgt := 87) hx hb dX0_least_83 (by decide) ?_
            refine sd_topi (y := sd_oi (sd_lst (fun j => decide (k ≤ sd_U y w n j q)) 10001)) (by rw [sd_lst_at (Q := (fun j => decide (k ≤ sd_U y w n j q))) (m := sd_turn y w n k q) (fun j hj => decide_eq_false (fun z => by have := (hTI j).mpr z; omega)) (decide_eq_true ((hTI _).mp (Nat.le_refl _))) (by omega)]; rfl) ?_
            exact W.iret hx hb hr (fun t ht hW => ⟨_, rfl, rfl, ht⟩) (fun q hq => nomatch hq) dX0_least_87
        · subst h
          refine lv_aload_n hx hb dX0_least_55 rfl (lv_at hl 0 rfl) ?_
          refine lv_iload_n hx hb dX0_least_56 rfl (lv_at hl 2 rfl) ?_
          refine lv_iload_n hx hb dX0_least_57 rfl (lv_at hl 3 rfl) ?_
          refine sd_calli (va_runV (As := [.int (nI k), .int (nI q)]) (rest := []) ⟨hx, hb, hml, hown, hts0⟩ (c_leastByRests l dC dI cA h0 a0 n w ok hW k q hk0 hk2 hq hpos) (cwV 2 hts0 (sd_gV k_methodLink_X0_50 k_instanceMethod_X0_leastByRests k_sel_X0_leastByRests k_init_ShareDesk k_code_X0_leastByRests) rfl rfl rfl (by decide +kernel) ⟨Nat.le_of_ble_eq_true rfl, Nat.le_of_ble_eq_true rfl⟩) (sd_preV hK hP (q0 := 0) (ci := 0) rfl rfl) rfl rfl hl.1 rfl (lv_room (Nat.le_of_ble_eq_true rfl)) dX0_least_58 ⟨Nat.zero_le _, Nat.zero_le _⟩) ?_
          refine sd_topi (y := sd_oi (sd_lst (fun j => decide (k ≤ sd_U 0 w n j q)) 10001)) (by rfl) ?_
          exact W.iret hx hb hr (fun t ht hW => ⟨_, rfl, rfl, ht⟩) (fun q hq => nomatch hq) dX0_least_61
      · refine lv_iconst (v := (-1)) hx hb dX0_least_49 (by decide +kernel) ?_
        refine sd_topi (y := sd_oi (sd_lst (fun j => decide (k ≤ sd_U y w n j q)) 10001)) (by rw [sd_lst_none (fun j hj => decide_eq_false (by rw [sd_U_zero hW hq h]; omega))]; rfl) ?_
        exact W.iret hx hb hr (fun t ht hW => ⟨_, rfl, rfl, ht⟩) (fun q hq => nomatch hq) dX0_least_50
  · subst h
    refine lv_iconst (v := (nI 0)) hx hb dX0_least_31 (by decide +kernel) ?_
    refine sd_topi (y := sd_oi (sd_lst (fun j => decide (0 ≤ sd_U y w n j q)) 10001)) (by rw [sd_lst_at (m := 0) (fun j hj => absurd hj (Nat.not_lt_zero _)) (decide_eq_true (Nat.zero_le _)) (by decide)]; rfl) ?_
    exact W.iret hx hb hr (fun t ht hW => ⟨_, rfl, rfl, ht⟩) (fun q hq => nomatch hq) dX0_least_32
set_option maxHeartbeats 4000000 in
set_option maxRecDepth 100000 in
theorem lp_begin {p : Program} {l : Launch} {e : Env} {R : Room} {s : State} {m : MethodId} {args : Array Value} {below : List Frame} {meth : Method} {c : Code} {cells slots : Nat} {Q : State → Prop} (hx : p.tables.exec = Jvm.exec) (hb : c.code = cX0_begin) (hml : c.maxLocals = 3) (hts0 : ∀ w ∈ (sd_ws yX0_begin cX0_begin 3 none), w.before args s = true) (hown : s.vm.findClass RX0 = some m.cls) {dC : Nat → ClassId} {dI : Nat → Nat → Nat} {cA : ClassId} {h0 a0 n : Nat} {w : Nat → Nat} (j : Nat) (A : Nat → Prop) (H0 : Heap) (hK : va_K (dC, dI) vwCl [(cA, .int)] s)
    (kk : ∀ (H : Heap) (locs : List Loc) (ls : Array Slot), va_P (dC, dI) vwCl [(h0, .inr (0, [.ref a0, .int (nI n), .int (nI (sd_sum w n))])), (a0, .inl (cA, 8, .inl (fun z => nI (sd_cl w 8 z))))] H → va_D A [(h0, .inr (0, [.ref a0, .int (nI n), .int (nI (sd_sum w n))])), (a0, .inl (cA, 8, .inl (fun z => nI (sd_cl w 8 z))))] → va_S A H0 H locs → lv_has ls 3 [(0, .ref h0), (1, .int (nI j)), (2, .int (nI 8))] → W p l e R s m args below meth c H locs cells slots Q (F0 m 42 ls []))
    : ∀ (f i : Nat), i + f = 8 → ∀ (H : Heap) (locs : List Loc) (ls : Array Slot), va_P (dC, dI) vwCl [(h0, .inr (0, [.ref a0, .int (nI n), .int (nI (sd_sum w n))])), (a0, .inl (cA, 8, .inl (fun z => nI (sd_cl w i z))))] H → va_D A [(h0, .inr (0, [.ref a0, .int (nI n), .int (nI (sd_sum w n))])), (a0, .inl (cA, 8, .inl (fun z => nI (sd_cl w i z))))] → va_S A H0 H locs → lv_has ls 3 [(0, .ref h0), (1, .int (nI j)), (2, .int (nI i))] → W p l e R s m args below meth c H locs cells slots Q (F0 m 23 ls []) := by
  have hts : ∀ w ∈ sd_WS, w.before args s = true := fun w h => hts0 w (List.mem_cons_of_mem _ h)
  intro f
  induction f using Nat.strongRecOn with
  | ind f ih0 =>
    intro i hi H locs ls hP hD hS hl
    refine lv_iload_n hx hb dX0_begin_23 rfl (lv_at hl 2 rfl) ?_
    refine lv_bipush (v := nI 8) hx hb dX0_begin_24 (by decide +kernel) ?_
    refine sd_ic_ge (a := i) (b := 8) (tgt := 42) hx hb dX0_begin_26 (by decide) (by omega) (by omega) (fun h => ?_) (fun h => ?_)
    · have hin : i = 8 := by omega
      subst hin
      exact kk H locs ls hP hD hS hl
    · refine lv_aload_n hx hb dX0_begin_29 rfl (lv_at hl 0 rfl) ?_
      refine va_get (D := (dC, dI)) (ci := 0) (v := .ref a0) (C := RX0) (T := TX0) (N := 3) hx hb hts u_in_X0 hown hK hP 0 rfl rfl 0 (by decide) (hts (.fieldLink RX0 9 "ShareDesk" "weights" "[I") k_fieldLink_X0_9) (fun _ h9 => h9) rfl dX0_begin_30 ?_
      refine lv_iload_n hx hb dX0_begin_33 rfl (lv_at hl 2 rfl) ?_
      refine lv_iconst (v := (nI 0)) hx hb dX0_begin_34 (by decide +kernel) ?_
      refine sd_iast (j := i) hx hb hK hP hD hS 1 0 rfl rfl (by omega) (by decide) dX0_begin_35 (fun H locs hP hD hS => ?_)
      have hP : va_P (dC, dI) vwCl [(h0, .inr (0, [.ref a0, .int (nI n), .int (nI (sd_sum w n))])), (a0, .inl (cA, 8, .inl (fun z => nI (sd_cl w (i + 1) z))))] H := by rw [← sd_cls, ← sd_upd_w]; exact hP
      have hD : va_D A [(h0, .inr (0, [.ref a0, .int (nI n), .int (nI (sd_sum w n))])), (a0, .inl (cA, 8, .inl (fun z => nI (sd_cl w (i + 1) z))))] := by rw [← sd_cls, ← sd_upd_w]; exact hD
      refine lv_iinc (k := 2) (v := nI (i + 1)) hx hb dX0_begin_36 hl rfl (nI_add _ 1) (by decide) rfl (fun ls hl => ?_)
      have hl : lv_has ls 3 [(2, .int (nI (i + 1))), (0, .ref h0), (1, .int (nI j))] := hl
      refine lv_goto (tgt := 23) hx hb dX0_begin_39 (by decide) ?_
      have hl := lv_sub (l' := [(0, .ref h0), (1, .int (nI j)), (2, .int (nI (i + 1)))]) hl [1, 2, 0] rfl
      exact ih0 (f - 1) (by omega) (i + 1) (by omega) H locs ls hP hD hS hl
set_option maxHeartbeats 4000000 in
set_option maxRecDepth 100000 in
theorem c_begin (l : Launch) (dC : Nat → ClassId) (dI : Nat → Nat → Nat) (cA : ClassId) (h0 a0 n : Nat) (w : Nat → Nat) (sz j : Nat) (ok : sd_ok n w) (hj1 : 1 ≤ j) (hj8 : j ≤ 8) : Met l yX0_begin (sd_ws yX0_begin cX0_begin 3 none) (sd_rm 1 0 0) (sd_Pw (dC, dI) vwCl [(cA, .int)] (sd_O cA h0 a0 n w) sz [.ref h0, .int (nI j)]) (va_Qv (fun (_ : Unit) => True) (sd_Bw (dC, dI) vwCl [(cA, .int)] (sd_O cA h0 a0 n w) sz (fun _ => sd_O cA h0 a0 j (fun _ => 0))) (va_A (sd_O cA h0 a0 n w) sz)) 0 0 (va_A (sd_O cA h0 a0 n w) sz) := by
  refine Met.ofW (cc := cX0_begin) (maxL := 3) (ret := none) (by decide) rfl ?_
  intro p e s m args below meth c s₁ B hml hv
  obtain ⟨rfl, hsz, hP, hK, hD0⟩ := hv
  subst hsz
  have hx := B.exec
  have hb := B.bytes
  have hr := B.returns
  have hts0 := atoms_spec (ws := (sd_ws yX0_begin cX0_begin 3 none)) B.pre
  have hts : ∀ w ∈ sd_WS, w.before _ s = true := fun w h => hts0 w (List.mem_cons_of_mem _ h)
  have hown : s.vm.findClass RX0 = some m.cls := findClass_of_methodNamed B.named
  have hlocks := B.notSynchronized
  have hl := lv_entry ([.ref h0, .int (nI j)]) (n := 3) (Nat.le_of_ble_eq_true rfl)
  rw [lg_entry_eq]
  generalize (lg_sl ([.ref h0, .int (nI j)]) ++ List.replicate (3 - (lg_sl ([.ref h0, .int (nI j)])).length) Slot.unset).toArray = ls at hl ⊢
  have hl : lv_has ls 3 [(0, .ref h0), (1, .int (nI j))] := hl
  obtain ⟨A, hAe⟩ : ∃ A, A = va_A (sd_O cA h0 a0 n w) s.heap.size := ⟨_, rfl⟩
  have hD : va_D A (sd_O cA h0 a0 n w) := by rw [hAe]; exact hD0.self
  have hA : ∀ q : Nat, s.heap.size ≤ q → A q := fun q h => by rw [hAe]; exact Or.inr h
  have hS : va_S A s.heap s.heap [] := va_S.rf
  refine lv_iload_n hx hb dX0_begin_0 rfl (lv_at hl 1 rfl) ?_
  refine lv_iconst (v := (nI 1)) hx hb dX0_begin_1 (by decide +kernel) ?_
  refine sd_ic_lt (a := j) (b := 1) (tgt := 11) hx hb dX0_begin_2 (by decide) (by omega) (by omega) (fun h => ?_) (fun h => ?_)
  · exact absurd h (by omega)
  · refine lv_iload_n hx hb dX0_begin_5 rfl (lv_at hl 1 rfl) ?_
    refine lv_bipush (v := nI 8) hx hb dX0_begin_6 (by decide +kernel) ?_
    refine sd_ic_le (a := j) (b := 8) (tgt := 21) hx hb dX0_begin_8 (by decide) (by omega) (by omega) (fun h => ?_) (fun h => ?_)
    · refine lv_iconst (v := (nI 0)) hx hb dX0_begin_21 (by decide +kernel) ?_
      refine lv_istore_n hx hb dX0_begin_22 rfl hl (by decide) rfl (fun ls hl => ?_)
      have hl : lv_has ls 3 [(2, .int (nI 0)), (0, .ref h0), (1, .int (nI j))] := hl
      have hl := lv_sub (l' := [(0, .ref h0), (1, .int (nI j)), (2, .int (nI 0))]) hl [1, 2, 0] rfl
      have hP : va_P (dC, dI) vwCl [(h0, .inr (0, [.ref a0, .int (nI n), .int (nI (sd_sum w n))])), (a0, .inl (cA, 8, .inl (fun z => nI (sd_cl w 0 z))))] s.heap := by rw [sd_cl0]; exact hP
      have hD : va_D A [(h0, .inr (0, [.ref a0, .int (nI n), .int (nI (sd_sum w n))])), (a0, .inl (cA, 8, .inl (fun z => nI (sd_cl w 0 z))))] := by rw [sd_cl0]; exact hD
      refine lp_begin hx hb hml hts0 hown j A s.heap hK (fun H locs ls hP hD hS hl => ?_) 8 0 (by omega) s.heap [] ls hP hD hS hl
      refine lv_aload_n hx hb dX0_begin_42 rfl (lv_at hl 0 rfl) ?_
      refine lv_iload_n hx hb dX0_begin_43 rfl (lv_at hl 1 rfl) ?_
      refine va_put (D := (dC, dI)) (ci := 0) (v := .int (nI j)) (ty := .int) (C := RX0) (T := TX0) (N := 3) hx hb hts u_in_X0 tyX0 tyX0_ok nmX0 hown hK hP hD hS 0 rfl rfl 1 (by decide) (hts (.fieldLink RX0 13 "ShareDesk" "parties" "I") k_fieldLink_X0_13) (fun _ h9 => h9) rfl (by decide +kernel) rfl rfl (Nat.le_of_ble_eq_true rfl) dX0_begin_44 (fun H locs hP hD hS => ?_)
      have hP : va_P (dC, dI) vwCl [(h0, .inr (0, [.ref a0, .int (nI j), .int (nI (sd_sum w n))])), (a0, .inl (cA, 8, .inl (fun z => nI (sd_cl w 8 z))))] H := hP
      have hD : va_D A [(h0, .inr (0, [.ref a0, .int (nI j), .int (nI (sd_sum w n))])), (a0, .inl (cA, 8, .inl (fun z => nI (sd_cl w 8 z))))] := hD
      refine lv_aload_n hx hb dX0_begin_47 rfl (lv_at hl 0 rfl) ?_
      refine lv_iconst (v := (nI 0)) hx hb dX0_begin_48 (by decide +kernel) ?_
      refine va_put (D := (dC, dI)) (ci := 0) (v := .int (nI 0)) (ty := .int) (C := RX0) (T := TX0) (N := 3) hx hb hts u_in_X0 tyX0 tyX0_ok nmX0 hown hK hP hD hS 0 rfl rfl 2 (by decide) (hts (.fieldLink RX0 17 "ShareDesk" "total" "I") k_fieldLink_X0_17) (fun _ h9 => h9) rfl (by decide +kernel) rfl rfl (Nat.le_of_ble_eq_true rfl) dX0_begin_49 (fun H locs hP hD hS => ?_)
      have hP : va_P (dC, dI) vwCl [(h0, .inr (0, [.ref a0, .int (nI j), .int (nI 0)])), (a0, .inl (cA, 8, .inl (fun z => nI (sd_cl w 8 z))))] H := hP
      have hD : va_D A [(h0, .inr (0, [.ref a0, .int (nI j), .int (nI 0)])), (a0, .inl (cA, 8, .inl (fun z => nI (sd_cl w 8 z))))] := hD
      have hP : va_P (dC, dI) vwCl (sd_O cA h0 a0 j (fun _ => 0)) H := by unfold sd_O; rw [sd_sum0]; rw [sd_cl8 ok] at hP; exact hP
      have hD : va_D A (sd_O cA h0 a0 j (fun _ => 0)) := by unfold sd_O; rw [sd_sum0]; rw [sd_cl8 ok] at hD; exact hD
      exact W.vret hx hb hr (fun t ht hW => ⟨⟨(), rfl, trivial, by rw [ht]; exact hP, va_K.moved hW.alike hK, by rw [← hAe]; exact hD⟩, by rw [← hAe]; exact hS.F ht⟩) (fun q hq => by rw [← hAe]; exact hS.2.2 q hq) dX0_begin_52
    · exact absurd h (by omega)
set_option maxHeartbeats 4000000 in
set_option maxRecDepth 100000 in
theorem c_weight (l : Launch) (dC : Nat → ClassId) (dI : Nat → Nat → Nat) (cA : ClassId) (h0 a0 n : Nat) (w : Nat → Nat) (sz q v : Nat) (ok : sd_ok n w) (hq : q < n) (hv : v ≤ 100000) : Met l yX0_weight (sd_ws yX0_weight cX0_weight 4 (some .int)) (sd_rm 1 0 0) (sd_Pw (dC, dI) vwCl [(cA, .int)] (sd_O cA h0 a0 n w) sz [.ref h0, .int (nI q), .int (nI v)]) (va_Qi (fun r (_ : Unit) => r = nI (w q)) (sd_Bw (dC, dI) vwCl [(cA, .int)] (sd_O cA h0 a0 n w) sz (fun _ => sd_O cA h0 a0 n (sd_up w q v))) (va_A (sd_O cA h0 a0 n w) sz)) 0 0 (va_A (sd_O cA h0 a0 n w) sz) := by
  refine Met.ofW (cc := cX0_weight) (maxL := 4) (ret := (some .int)) (by decide) rfl ?_
  intro p e s m args below meth c s₁ B hml hv
  obtain ⟨rfl, hsz, hP, hK, hD0⟩ := hv
  subst hsz
  have hx := B.exec
  have hb := B.bytes
  have hr := B.returns
  have hts0 := atoms_spec (ws := (sd_ws yX0_weight cX0_weight 4 (some .int))) B.pre
  have hts : ∀ w ∈ sd_WS, w.before _ s = true := fun w h => hts0 w (List.mem_cons_of_mem _ h)
  have hown : s.vm.findClass RX0 = some m.cls := findClass_of_methodNamed B.named
  have hlocks := B.notSynchronized
  have hl := lv_entry ([.ref h0, .int (nI q), .int (nI v)]) (n := 4) (Nat.le_of_ble_eq_true rfl)
  rw [lg_entry_eq]
  generalize (lg_sl ([.ref h0, .int (nI q), .int (nI v)]) ++ List.replicate (4 - (lg_sl ([.ref h0, .int (nI q), .int (nI v)])).length) Slot.unset).toArray = ls at hl ⊢
  have hl : lv_has ls 4 [(0, .ref h0), (1, .int (nI q)), (2, .int (nI v))] := hl
  obtain ⟨A, hAe⟩ : ∃ A, A = va_A (sd_O cA h0 a0 n w) s.heap.size := ⟨_, rfl⟩
  have hD : va_D A (sd_O cA h0 a0 n w) := by rw [hAe]; exact hD0.self
  have hA : ∀ q : Nat, s.heap.size ≤ q → A q := fun q h => by rw [hAe]; exact Or.inr h
  have hS : va_S A s.heap s.heap [] := va_S.rf
  have hn8 := ok.2.1
  have hwq := ok.2.2.1 q
  have hP : va_P (dC, dI) vwCl [(h0, .inr (0, [.ref a0, .int (nI n), .int (nI (sd_sum w n))])), (a0, .inl (cA, 8, .inl (fun i => nI (w i))))] s.heap := hP
  have hD : va_D A [(h0, .inr (0, [.ref a0, .int (nI n), .int (nI (sd_sum w n))])), (a0, .inl (cA, 8, .inl (fun i => nI (w i))))] := hD
  refine lv_aload_n hx hb dX0_weight_0 rfl (lv_at hl 0 rfl) ?_
  refine lv_iload_n hx hb dX0_weight_1 rfl (lv_at hl 1 rfl) ?_
  refine sd_callv (va_runV (As := [.int (nI q)]) (rest := []) ⟨hx, hb, hml, hown, hts0⟩ (c_checkParty l dC dI cA h0 a0 n w ok q hq) (cwV 1 hts0 (sd_gV k_methodLink_X0_27 k_instanceMethod_X0_checkParty k_sel_X0_checkParty k_init_ShareDesk k_code_X0_checkParty) rfl rfl rfl (by decide +kernel) ⟨Nat.le_of_ble_eq_true rfl, Nat.le_of_ble_eq_true rfl⟩) (sd_preV hK hP (q0 := 0) (ci := 0) rfl rfl) rfl rfl hl.1 rfl (lv_room (Nat.le_of_ble_eq_true rfl)) dX0_weight_2 ⟨Nat.zero_le _, Nat.zero_le _⟩) ?_
  refine lv_iload_n hx hb dX0_weight_5 rfl (lv_at hl 2 rfl) ?_
  refine sd_iz_lt (a := v) (tgt := 15) hx hb dX0_weight_6 (by decide) (by omega) ?_
  refine lv_iload_n hx hb dX0_weight_9 rfl (lv_at hl 2 rfl) ?_
  refine lv_ldc (v := 100000) hx hb hown (hts (.constant RX0 31 100000) k_constant_X0_31) dX0_weight_10 ?_
  refine sd_topi (y := nI 100000) (by decide +kernel) ?_
  refine sd_ic_le (a := v) (b := 100000) (tgt := 25) hx hb dX0_weight_12 (by decide) (by omega) (by omega) (fun h => ?_) (fun h => ?_)
  · refine lv_aload_n hx hb dX0_weight_25 rfl (lv_at hl 0 rfl) ?_
    refine va_get (D := (dC, dI)) (ci := 0) (v := .ref a0) (C := RX0) (T := TX0) (N := 3) hx hb hts u_in_X0 hown hK hP 0 rfl rfl 0 (by decide) (hts (.fieldLink RX0 9 "ShareDesk" "weights" "[I") k_fieldLink_X0_9) (fun _ h9 => h9) rfl dX0_weight_26 ?_
    refine lv_iload_n hx hb dX0_weight_29 rfl (lv_at hl 1 rfl) ?_
    refine sd_iald (j := q) (v := nI (w q)) hx hb hK hP 1 0 rfl rfl (by omega) (by decide) rfl dX0_weight_30 ?_
    refine lv_istore_n hx hb dX0_weight_31 rfl hl (by decide) rfl (fun ls hl => ?_)
    have hl : lv_has ls 4 [(3, .int (nI (w q))), (0, .ref h0), (1, .int (nI q)), (2, .int (nI v))] := hl
    refine lv_aload_n hx hb dX0_weight_32 rfl (lv_at hl 1 rfl) ?_
    refine va_get (D := (dC, dI)) (ci := 0) (v := .ref a0) (C := RX0) (T := TX0) (N := 3) hx hb hts u_in_X0 hown hK hP 0 rfl rfl 0 (by decide) (hts (.fieldLink RX0 9 "ShareDesk" "weights" "[I") k_fieldLink_X0_9) (fun _ h9 => h9) rfl dX0_weight_33 ?_
    refine lv_iload_n hx hb dX0_weight_36 rfl (lv_at hl 2 rfl) ?_
    refine lv_iload_n hx hb dX0_weight_37 rfl (lv_at hl 3 rfl) ?_
    refine sd_iast (j := q) hx hb hK hP hD hS 1 0 rfl rfl (by omega) (by decide) dX0_weight_38 (fun H locs hP hD hS => ?_)
    have hP : va_P (dC, dI) vwCl [(h0, .inr (0, [.ref a0, .int (nI n), .int (nI (sd_sum w n))])), (a0, .inl (cA, 8, .inl (fun i => nI (sd_up w q v i))))] H := by rw [← sd_upd_w]; exact hP
    have hD : va_D A [(h0, .inr (0, [.ref a0, .int (nI n), .int (nI (sd_sum w n))])), (a0, .inl (cA, 8, .inl (fun i => nI (sd_up w q v i))))] := by rw [← sd_upd_w]; exact hD
    refine lv_aload_n hx hb dX0_weight_39 rfl (lv_at hl 1 rfl) ?_
    refine lv_dup hx hb dX0_weight_40 rfl ?_
    refine va_get (D := (dC, dI)) (ci := 0) (v := .int (nI (sd_sum w n))) (C := RX0) (T := TX0) (N := 3) hx hb hts u_in_X0 hown hK hP 0 rfl rfl 2 (by decide) (hts (.fieldLink RX0 17 "ShareDesk" "total" "I") k_fieldLink_X0_17) (fun _ h9 => h9) rfl dX0_weight_41 ?_
    refine lv_iload_n hx hb dX0_weight_44 rfl (lv_at hl 3 rfl) ?_
    refine lv_iload_n hx hb dX0_weight_45 rfl (lv_at hl 0 rfl) ?_
    refine sd_isub (v := nI v - nI (w q)) hx hb dX0_weight_46 rfl ?_
    refine sd_iadd (v := nI (sd_sum (sd_up w q v) n)) hx hb dX0_weight_47 (sd_i32 (sd_up_sum hq)) ?_
    refine va_put (D := (dC, dI)) (ci := 0) (v := .int (nI (sd_sum (sd_up w q v) n))) (ty := .int) (C := RX0) (T := TX0) (N := 3) hx hb hts u_in_X0 tyX0 tyX0_ok nmX0 hown hK hP hD hS 0 rfl rfl 2 (by decide) (hts (.fieldLink RX0 17 "ShareDesk" "total" "I") k_fieldLink_X0_17) (fun _ h9 => h9) rfl (by decide +kernel) rfl rfl (Nat.le_of_ble_eq_true rfl) dX0_weight_48 (fun H locs hP hD hS => ?_)
    have hP : va_P (dC, dI) vwCl [(h0, .inr (0, [.ref a0, .int (nI n), .int (nI (sd_sum (sd_up w q v) n))])), (a0, .inl (cA, 8, .inl (fun i => nI (sd_up w q v i))))] H := hP
    have hD : va_D A [(h0, .inr (0, [.ref a0, .int (nI n), .int (nI (sd_sum (sd_up w q v) n))])), (a0, .inl (cA, 8, .inl (fun i => nI (sd_up w q v i))))] := hD
    refine lv_iload_n hx hb dX0_weight_51 rfl (lv_at hl 0 rfl) ?_
    have hP : va_P (dC, dI) vwCl (sd_O cA h0 a0 n (sd_up w q v)) H := hP
    have hD : va_D A (sd_O cA h0 a0 n (sd_up w q v)) := hD
    exact W.iret hx hb hr (fun t ht hW => ⟨⟨_, (), rfl, rfl, by rw [ht]; exact hP, va_K.moved hW.alike hK, by rw [← hAe]; exact hD⟩, by rw [← hAe]; exact hS.F ht⟩) (fun q hq => by rw [← hAe]; exact hS.2.2 q hq) dX0_weight_52
  · exact absurd h (by omega)
