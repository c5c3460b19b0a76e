set_option maxHeartbeats 4000000 in
set_option maxRecDepth 100000 in
theorem c_divisorOf (l : Launch) (dC : Nat → ClassId) (dI : Nat → Nat → Nat) (y k : Nat) (hy : y = 1 ∨ y = 2) (hk : 1 ≤ k) (hk2 : k ≤ 20000) : Met l yX0_divisorOf (sd_ws yX0_divisorOf cX0_divisorOf 2 (some .long)) (sd_rm 0 0 0) (sd_Pp (dC, dI) vwCl [] [] [.int (nI y), .int (nI k)]) (vp_Sl (fun r => r = lN (sd_dv y k))) 0 0 (fun _ => False) := by
  refine Met.ofW (cc := cX0_divisorOf) (maxL := 2) (ret := (some .long)) (by decide) rfl ?_
  intro p e s m args below meth c s₁ B hml hv
  obtain ⟨rfl, hP, hK⟩ := hv
  have hx := B.exec
  have hb := B.bytes
  have hr := B.returns
  have hts0 := atoms_spec (ws := (sd_ws yX0_divisorOf cX0_divisorOf 2 (some .long))) B.pre
  have hts : ∀ w ∈ sd_WS, w.before _ s = true := fun w h => hts0 w (List.mem_cons_of_mem _ h)
  have hown : s.vm.findClass RX0 = some m.cls := findClass_of_methodNamed B.named
  have hlocks := B.notSynchronized
  have hl := lv_entry ([.int (nI y), .int (nI k)]) (n := 2) (Nat.le_of_ble_eq_true rfl)
  rw [lg_entry_eq]
  generalize (lg_sl ([.int (nI y), .int (nI k)]) ++ List.replicate (2 - (lg_sl ([.int (nI y), .int (nI k)])).length) Slot.unset).toArray = ls at hl ⊢
  have hl : lv_has ls 2 [(0, .int (nI y)), (1, .int (nI k))] := hl
  refine lv_iload_n hx hb dX0_divisorOf_0 rfl (lv_at hl 0 rfl) ?_
  refine lv_iconst (v := (nI 1)) hx hb dX0_divisorOf_1 (by decide +kernel) ?_
  refine sd_ic_ne (a := y) (b := 1) (tgt := 10) hx hb dX0_divisorOf_2 (by decide) (by omega) (by omega) (fun h => ?_) (fun h => ?_)
  · have hy2 : y = 2 := by omega
    subst hy2
    refine lv_ldc2 (v := 2) hx hb hown (hts (.constantLong RX0 94 2) k_constantLong_X0_94) dX0_divisorOf_10 ?_
    refine sd_topl (y := lN 2) (by decide +kernel) ?_
    refine lv_iload_n hx hb dX0_divisorOf_13 rfl (lv_at hl 1 rfl) ?_
    refine lv_i2l (v := lN k) hx hb dX0_divisorOf_14 (nI_l (by omega)) ?_
    refine sd_lmul (v := lN (2 * k)) hx hb dX0_divisorOf_15 (lN_mul _ _) ?_
    refine lv_lconst (v := lN 1) hx hb dX0_divisorOf_16 rfl ?_
    refine sd_lsub (v := lN ((2 * k) - 1)) hx hb dX0_divisorOf_17 (lN_sub (by omega)) ?_
    refine sd_topl (y := lN (sd_dv 2 k)) (by rw [sd_dv2 hk]) ?_
    exact W.lret hx hb hr (fun t ht hW => ⟨_, rfl, rfl, ht⟩) (fun q hq => nomatch hq) dX0_divisorOf_18
  · subst h
    refine lv_iload_n hx hb dX0_divisorOf_5 rfl (lv_at hl 1 rfl) ?_
    refine lv_i2l (v := lN k) hx hb dX0_divisorOf_6 (nI_l (by omega)) ?_
    refine lv_goto (tgt := 18) hx hb dX0_divisorOf_7 (by decide) ?_
    refine sd_topl (y := lN (sd_dv 1 k)) (by rw [sd_dv1 hk]) ?_
    exact W.lret hx hb hr (fun t ht hW => ⟨_, rfl, rfl, ht⟩) (fun q hq => nomatch hq) dX0_divisorOf_18
set_option maxHeartbeats 4000000 in
set_option maxRecDepth 100000 in
theorem c_restOf (l : Launch) (dC : Nat → ClassId) (dI : Nat → Nat → Nat) (cA : ClassId) (h0 a0 n : Nat) (w : Nat → Nat) (ok : sd_ok n w) (hW : 0 < sd_sum w n) (u q : Nat) (hu : u ≤ 10001) (hq : q < n) : Met l yX0_restOf (sd_ws yX0_restOf cX0_restOf 3 (some .long)) (sd_rm 0 0 0) (sd_Pp (dC, dI) vwCl [(cA, .int)] (sd_O cA h0 a0 n w) [.ref h0, .int (nI u), .int (nI q)]) (vp_Sl (fun r => r = lN (sd_rs w (sd_sum w n) u q))) 0 0 (fun _ => False) := by
  refine Met.ofW (cc := cX0_restOf) (maxL := 3) (ret := (some .long)) (by decide) rfl ?_
  intro p e s m args below meth c s₁ B hml hv
  obtain ⟨rfl, hP, hK⟩ := hv
  have hx := B.exec
  have hb := B.bytes
  have hr := B.returns
  have hts0 := atoms_spec (ws := (sd_ws yX0_restOf cX0_restOf 3 (some .long))) B.pre
  have hts : ∀ w ∈ sd_WS, w.before _ s = true := fun w h => hts0 w (List.mem_cons_of_mem _ h)
  have hown : s.vm.findClass RX0 = some m.cls := findClass_of_methodNamed B.named
  have hlocks := B.notSynchronized
  have hl := lv_entry ([.ref h0, .int (nI u), .int (nI q)]) (n := 3) (Nat.le_of_ble_eq_true rfl)
  rw [lg_entry_eq]
  generalize (lg_sl ([.ref h0, .int (nI u), .int (nI q)]) ++ List.replicate (3 - (lg_sl ([.ref h0, .int (nI u), .int (nI q)])).length) Slot.unset).toArray = ls at hl ⊢
  have hl : lv_has ls 3 [(0, .ref h0), (1, .int (nI u)), (2, .int (nI q))] := hl
  have hP : va_P (dC, dI) vwCl [(h0, .inr (0, [.ref a0, .int (nI n), .int (nI (sd_sum w n))])), (a0, .inl (cA, 8, .inl (fun i => nI (w i))))] s.heap := hP
  have hwq := ok.2.2.1 q
  have hbm : u * w q ≤ 10001 * 100000 := sd_mw_le hu hwq
  have hWl := sd_W_le ok.2.2.1 ok.2.1
  have hn8 := ok.2.1
  refine lv_iload_n hx hb dX0_restOf_0 rfl (lv_at hl 1 rfl) ?_
  refine lv_i2l (v := lN u) hx hb dX0_restOf_1 (nI_l (by omega)) ?_
  refine lv_aload_n hx hb dX0_restOf_2 rfl (lv_at hl 0 rfl) ?_
  refine va_get (D := (dC, dI)) (ci := 0) (v := .ref a0) (C := RX0) (T := TX0) (N := 3) hx hb hts u_in_X0 hown hK hP 0 rfl rfl 0 (by decide) (hts (.fieldLink RX0 9 "ShareDesk" "weights" "[I") k_fieldLink_X0_9) (fun _ h9 => h9) rfl dX0_restOf_3 ?_
  refine lv_iload_n hx hb dX0_restOf_6 rfl (lv_at hl 2 rfl) ?_
  refine sd_iald (j := q) (v := nI (w q)) hx hb hK hP 1 0 rfl rfl (by omega) (by decide) rfl dX0_restOf_7 ?_
  refine lv_i2l (v := lN (w q)) hx hb dX0_restOf_8 (nI_l (by omega)) ?_
  refine sd_lmul (v := lN (u * (w q))) hx hb dX0_restOf_9 (lN_mul _ _) ?_
  refine lv_aload_n hx hb dX0_restOf_10 rfl (lv_at hl 0 rfl) ?_
  refine va_get (D := (dC, dI)) (ci := 0) (v := .int (nI (sd_sum w n))) (C := RX0) (T := TX0) (N := 3) hx hb hts u_in_X0 hown hK hP 0 rfl rfl 2 (by decide) (hts (.fieldLink RX0 17 "ShareDesk" "total" "I") k_fieldLink_X0_17) (fun _ h9 => h9) rfl dX0_restOf_11 ?_
  refine lv_i2l (v := lN (sd_sum w n)) hx hb dX0_restOf_14 (nI_l (by omega)) ?_
  refine sd_lrem (v := lN ((u * (w q)) % (sd_sum w n))) hx hb dX0_restOf_15 (sd_lne0 (by omega) (by omega)) (pk_lRem (by omega) (by omega) (by omega)) ?_
  exact W.lret hx hb hr (fun t ht hW => ⟨_, rfl, rfl, ht⟩) (fun q hq => nomatch hq) dX0_restOf_16
set_option maxHeartbeats 4000000 in
set_option maxRecDepth 100000 in
theorem c_unitsBefore (l : Launch) (dC : Nat → ClassId) (dI : Nat → Nat → Nat) (cA : ClassId) (h0 a0 n : Nat) (w : Nat → Nat) (ok : sd_ok n w) (y k q i : Nat) (hy : y = 1 ∨ y = 2) (hk : 1 ≤ k) (hk2 : k ≤ 20000) (hq : q < n) (hpos : 0 < w q) (hi : i < n) : Met l yX0_unitsBefore (sd_ws yX0_unitsBefore cX0_unitsBefore 9 (some .long)) (sd_rm 1 0 0) (sd_Pp (dC, dI) vwCl [(cA, .int)] (sd_O cA h0 a0 n w) [.ref h0, .int (nI y), .int (nI k), .int (nI q), .int (nI i)]) (vp_Sl (fun r => r = lN (sd_ub y w k q i))) 0 0 (fun _ => False) := by
  refine Met.ofW (cc := cX0_unitsBefore) (maxL := 9) (ret := (some .long)) (by decide) rfl ?_
  intro p e s m args below meth c s₁ B hml hv
  obtain ⟨rfl, hP, hK⟩ := hv
  have hx := B.exec
  have hb := B.bytes
  have hr := B.returns
  have hts0 := atoms_spec (ws := (sd_ws yX0_unitsBefore cX0_unitsBefore 9 (some .long))) B.pre
  have hts : ∀ w ∈ sd_WS, w.before _ s = true := fun w h => hts0 w (List.mem_cons_of_mem _ h)
  have hown : s.vm.findClass RX0 = some m.cls := findClass_of_methodNamed B.named
  have hlocks := B.notSynchronized
  have hl := lv_entry ([.ref h0, .int (nI y), .int (nI k), .int (nI q), .int (nI i)]) (n := 9) (Nat.le_of_ble_eq_true rfl)
  rw [lg_entry_eq]
  generalize (lg_sl ([.ref h0, .int (nI y), .int (nI k), .int (nI q), .int (nI i)]) ++ List.replicate (9 - (lg_sl ([.ref h0, .int (nI y), .int (nI k), .int (nI q), .int (nI i)])).length) Slot.unset).toArray = ls at hl ⊢
  have hl : lv_has ls 9 [(0, .ref h0), (1, .int (nI y)), (2, .int (nI k)), (3, .int (nI q)), (4, .int (nI i))] := hl
  have hP : va_P (dC, dI) vwCl [(h0, .inr (0, [.ref a0, .int (nI n), .int (nI (sd_sum w n))])), (a0, .inl (cA, 8, .inl (fun i => nI (w i))))] s.heap := hP
  have hwq := ok.2.2.1 q
  have hwi := ok.2.2.1 i
  have hn8 := ok.2.1
  have hy2 : y ≤ 2 := by omega
  have hdw := sd_dw_le (W := 100000) hy2 hk hk2 hwi
  refine lv_aload_n hx hb dX0_unitsBefore_0 rfl (lv_at hl 0 rfl) ?_
  refine va_get (D := (dC, dI)) (ci := 0) (v := .ref a0) (C := RX0) (T := TX0) (N := 3) hx hb hts u_in_X0 hown hK hP 0 rfl rfl 0 (by decide) (hts (.fieldLink RX0 9 "ShareDesk" "weights" "[I") k_fieldLink_X0_9) (fun _ h9 => h9) rfl dX0_unitsBefore_1 ?_
  refine lv_iload hx hb dX0_unitsBefore_4 (lv_at hl 4 rfl) ?_
  refine sd_iald (j := i) (v := nI (w i)) hx hb hK hP 1 0 rfl rfl (by omega) (by decide) rfl dX0_unitsBefore_6 ?_
  refine sd_iz_ne (a := w i) (tgt := 12) hx hb dX0_unitsBefore_7 (by decide) (by omega) (fun h => ?_) (fun h => ?_)
  · have hr1 : 0 < sd_dv y k * w i := Nat.mul_pos (sd_dv_pos y k) h
    refine lv_iload_n hx hb dX0_unitsBefore_12 rfl (lv_at hl 1 rfl) ?_
    refine lv_iload_n hx hb dX0_unitsBefore_13 rfl (lv_at hl 2 rfl) ?_
    refine sd_calll (va_runS (As := [.int (nI y), .int (nI k)]) (rest := []) ⟨hx, hb, hml, hown, hts0⟩ (c_divisorOf l dC dI y k hy hk hk2) (cwS 2 hts0 (sd_gS k_methodLink_X0_91 k_static_X0_divisorOf k_init_ShareDesk k_code_X0_divisorOf) rfl rfl rfl (by decide +kernel) ⟨Nat.le_of_ble_eq_true rfl, Nat.le_of_ble_eq_true rfl⟩) (sd_preS (sd_K0 hK) (sd_nil _ _ _)) rfl rfl hl.1 rfl (lv_room (Nat.le_of_ble_eq_true rfl)) dX0_unitsBefore_14 ⟨Nat.zero_le _, Nat.zero_le _⟩) ?_
    refine lv_aload_n hx hb dX0_unitsBefore_17 rfl (lv_at hl 0 rfl) ?_
    refine va_get (D := (dC, dI)) (ci := 0) (v := .ref a0) (C := RX0) (T := TX0) (N := 3) hx hb hts u_in_X0 hown hK hP 0 rfl rfl 0 (by decide) (hts (.fieldLink RX0 9 "ShareDesk" "weights" "[I") k_fieldLink_X0_9) (fun _ h9 => h9) rfl dX0_unitsBefore_18 ?_
    refine lv_iload hx hb dX0_unitsBefore_21 (lv_at hl 4 rfl) ?_
    refine sd_iald (j := i) (v := nI (w i)) hx hb hK hP 1 0 rfl rfl (by omega) (by decide) rfl dX0_unitsBefore_23 ?_
    refine lv_i2l (v := lN (w i)) hx hb dX0_unitsBefore_24 (nI_l (by omega)) ?_
    refine sd_lmul (v := lN ((sd_dv y k) * (w i))) hx hb dX0_unitsBefore_25 (lN_mul _ _) ?_
    refine lv_lstore hx hb dX0_unitsBefore_26 hl (by decide) rfl (fun ls hl => ?_)
    have hl : lv_has ls 9 [(5, .long (lN ((sd_dv y k) * (w i)))), (0, .ref h0), (1, .int (nI y)), (2, .int (nI k)), (3, .int (nI q)), (4, .int (nI i))] := hl
    refine lv_iload hx hb dX0_unitsBefore_28 (lv_at hl 5 rfl) ?_
    refine lv_iload_n hx hb dX0_unitsBefore_30 rfl (lv_at hl 4 rfl) ?_
    refine sd_ic_le (a := i) (b := q) (tgt := 40) hx hb dX0_unitsBefore_31 (by decide) (by omega) (by omega) (fun h => ?_) (fun h => ?_)
    · have hiq := h
      refine lv_lload hx hb dX0_unitsBefore_40 (lv_at hl 0 rfl) ?_
      refine lv_aload_n hx hb dX0_unitsBefore_42 rfl (lv_at hl 1 rfl) ?_
      refine va_get (D := (dC, dI)) (ci := 0) (v := .ref a0) (C := RX0) (T := TX0) (N := 3) hx hb hts u_in_X0 hown hK hP 0 rfl rfl 0 (by decide) (hts (.fieldLink RX0 9 "ShareDesk" "weights" "[I") k_fieldLink_X0_9) (fun _ h9 => h9) rfl dX0_unitsBefore_43 ?_
      refine lv_iload_n hx hb dX0_unitsBefore_46 rfl (lv_at hl 4 rfl) ?_
      refine sd_iald (j := q) (v := nI (w q)) hx hb hK hP 1 0 rfl rfl (by omega) (by decide) rfl dX0_unitsBefore_47 ?_
      refine lv_i2l (v := lN (w q)) hx hb dX0_unitsBefore_48 (nI_l (by omega)) ?_
      refine sd_ldiv (v := lN (((sd_dv y k) * (w i)) / (w q))) hx hb dX0_unitsBefore_49 (sd_lne0 (by omega) (by omega)) (pk_lDiv (by omega) (by omega) (by omega)) ?_
      refine lv_lstore hx hb dX0_unitsBefore_50 hl (by decide) rfl (fun ls hl => ?_)
      have hl : lv_has ls 9 [(7, .long (lN (((sd_dv y k) * (w i)) / (w q)))), (5, .long (lN ((sd_dv y k) * (w i)))), (0, .ref h0), (1, .int (nI y)), (2, .int (nI k)), (3, .int (nI q)), (4, .int (nI i))] := hl
      refine lv_iload_n hx hb dX0_unitsBefore_52 rfl (lv_at hl 3 rfl) ?_
      refine lv_iconst (v := (nI 1)) hx hb dX0_unitsBefore_53 (by decide +kernel) ?_
      refine sd_ic_ne (a := y) (b := 1) (tgt := 62) hx hb dX0_unitsBefore_54 (by decide) (by omega) (by omega) (fun h => ?_) (fun h => ?_)
      · have hy3 : y = 2 := by omega
        have hgd := Nat.div_le_self (sd_dv y k * w i) (w q)
        refine lv_lload hx hb dX0_unitsBefore_62 (lv_at hl 0 rfl) ?_
        refine lv_lconst (v := lN 1) hx hb dX0_unitsBefore_64 rfl ?_
        refine sd_ladd (v := lN ((((sd_dv y k) * (w i)) / (w q)) + 1)) hx hb dX0_unitsBefore_65 (lN_add _ _) ?_
        refine lv_ldc2 (v := 2) hx hb hown (hts (.constantLong RX0 94 2) k_constantLong_X0_94) dX0_unitsBefore_66 ?_
        refine sd_topl (y := lN 2) (by decide +kernel) ?_
        refine sd_ldiv (v := lN (((((sd_dv y k) * (w i)) / (w q)) + 1) / 2)) hx hb dX0_unitsBefore_69 (sd_lne0 (by omega) (by omega)) (pk_lDiv (by omega) (by omega) (by omega)) ?_
        refine sd_topl (y := lN (sd_ub y w k q i)) (by unfold sd_ub; rw [if_neg (by omega), if_neg h, if_neg (by omega), Nat.sub_zero]) ?_
        exact W.lret hx hb hr (fun t ht hW => ⟨_, rfl, rfl, ht⟩) (fun q hq => nomatch hq) dX0_unitsBefore_70
      · refine lv_lload hx hb dX0_unitsBefore_57 (lv_at hl 0 rfl) ?_
        refine lv_goto (tgt := 70) hx hb dX0_unitsBefore_59 (by decide) ?_
        refine sd_topl (y := lN (sd_ub y w k q i)) (by unfold sd_ub; rw [if_neg (by omega), if_pos h, if_neg (by omega), Nat.sub_zero]) ?_
        exact W.lret hx hb hr (fun t ht hW => ⟨_, rfl, rfl, ht⟩) (fun q hq => nomatch hq) dX0_unitsBefore_70
    · have hiq := h
      refine lv_lload hx hb dX0_unitsBefore_34 (lv_at hl 0 rfl) ?_
      refine lv_lconst (v := lN 1) hx hb dX0_unitsBefore_36 rfl ?_
      refine sd_lsub (v := lN (((sd_dv y k) * (w i)) - 1)) hx hb dX0_unitsBefore_37 (lN_sub (by omega)) ?_
      refine lv_lstore hx hb dX0_unitsBefore_38 hl (by decide) rfl (fun ls hl => ?_)
      have hl : lv_has ls 9 [(5, .long (lN (((sd_dv y k) * (w i)) - 1))), (0, .ref h0), (1, .int (nI y)), (2, .int (nI k)), (3, .int (nI q)), (4, .int (nI i))] := hl
      refine lv_lload hx hb dX0_unitsBefore_40 (lv_at hl 0 rfl) ?_
      refine lv_aload_n hx hb dX0_unitsBefore_42 rfl (lv_at hl 1 rfl) ?_
      refine va_get (D := (dC, dI)) (ci := 0) (v := .ref a0) (C := RX0) (T := TX0) (N := 3) hx hb hts u_in_X0 hown hK hP 0 rfl rfl 0 (by decide) (hts (.fieldLink RX0 9 "ShareDesk" "weights" "[I") k_fieldLink_X0_9) (fun _ h9 => h9) rfl dX0_unitsBefore_43 ?_
      refine lv_iload_n hx hb dX0_unitsBefore_46 rfl (lv_at hl 4 rfl) ?_
      refine sd_iald (j := q) (v := nI (w q)) hx hb hK hP 1 0 rfl rfl (by omega) (by decide) rfl dX0_unitsBefore_47 ?_
      refine lv_i2l (v := lN (w q)) hx hb dX0_unitsBefore_48 (nI_l (by omega)) ?_
      refine sd_ldiv (v := lN ((((sd_dv y k) * (w i)) - 1) / (w q))) hx hb dX0_unitsBefore_49 (sd_lne0 (by omega) (by omega)) (pk_lDiv (by omega) (by omega) (by omega)) ?_
      refine lv_lstore hx hb dX0_unitsBefore_50 hl (by decide) rfl (fun ls hl => ?_)
      have hl : lv_has ls 9 [(7, .long (lN ((((sd_dv y k) * (w i)) - 1) / (w q)))), (5, .long (lN (((sd_dv y k) * (w i)) - 1))), (0, .ref h0), (1, .int (nI y)), (2, .int (nI k)), (3, .int (nI q)), (4, .int (nI i))] := hl
      refine lv_iload_n hx hb dX0_unitsBefore_52 rfl (lv_at hl 3 rfl) ?_
      refine lv_iconst (v := (nI 1)) hx hb dX0_unitsBefore_53 (by decide +kernel) ?_
      refine sd_ic_ne (a := y) (b := 1) (tgt := 62) hx hb dX0_unitsBefore_54 (by decide) (by omega) (by omega) (fun h => ?_) (fun h => ?_)
      · have hy3 : y = 2 := by omega
        have hgd := Nat.div_le_self (sd_dv y k * w i - 1) (w q)
        refine lv_lload hx hb dX0_unitsBefore_62 (lv_at hl 0 rfl) ?_
        refine lv_lconst (v := lN 1) hx hb dX0_unitsBefore_64 rfl ?_
        refine sd_ladd (v := lN (((((sd_dv y k) * (w i)) - 1) / (w q)) + 1)) hx hb dX0_unitsBefore_65 (lN_add _ _) ?_
        refine lv_ldc2 (v := 2) hx hb hown (hts (.constantLong RX0 94 2) k_constantLong_X0_94) dX0_unitsBefore_66 ?_
        refine sd_topl (y := lN 2) (by decide +kernel) ?_
        refine sd_ldiv (v := lN ((((((sd_dv y k) * (w i)) - 1) / (w q)) + 1) / 2)) hx hb dX0_unitsBefore_69 (sd_lne0 (by omega) (by omega)) (pk_lDiv (by omega) (by omega) (by omega)) ?_
        refine sd_topl (y := lN (sd_ub y w k q i)) (by unfold sd_ub; rw [if_neg (by omega), if_neg h, if_pos (by omega)]) ?_
        exact W.lret hx hb hr (fun t ht hW => ⟨_, rfl, rfl, ht⟩) (fun q hq => nomatch hq) dX0_unitsBefore_70
      · refine lv_lload hx hb dX0_unitsBefore_57 (lv_at hl 0 rfl) ?_
        refine lv_goto (tgt := 70) hx hb dX0_unitsBefore_59 (by decide) ?_
        refine sd_topl (y := lN (sd_ub y w k q i)) (by unfold sd_ub; rw [if_neg (by omega), if_pos h, if_pos (by omega)]) ?_
        exact W.lret hx hb hr (fun t ht hW => ⟨_, rfl, rfl, ht⟩) (fun q hq => nomatch hq) dX0_unitsBefore_70
  · refine lv_lconst (v := lN 0) hx hb dX0_unitsBefore_10 rfl ?_
    refine sd_topl (y := lN (sd_ub y w k q i)) (by unfold sd_ub; rw [if_pos h]) ?_
    exact W.lret hx hb hr (fun t ht hW => ⟨_, rfl, rfl, ht⟩) (fun q hq => nomatch hq) dX0_unitsBefore_11
set_option maxHeartbeats 4000000 in
set_option maxRecDepth 100000 in
theorem lp_turnOf {p : Program} {l : Launch} {e : Env} {R : Room} {s : State} {m : MethodId} {args : Array Value} {below : List Frame} {meth : Method} {c : Code} {H : Heap} {locs : List Loc} {cells slots : Nat} {Q : State → Prop} (hx : p.tables.exec = Jvm.exec) (hb : c.code = cX0_turnOf) (hml : c.maxLocals = 7) (hts0 : ∀ w ∈ (sd_ws yX0_turnOf cX0_turnOf 7 (some .long)), w.before args s = true) (hown : s.vm.findClass RX0 = some m.cls) {dC : Nat → ClassId} {dI : Nat → Nat → Nat} {cA : ClassId} {h0 a0 n : Nat} {w : Nat → Nat} (hK : va_K (dC, dI) vwCl [(cA, .int)] s) (hP : va_P (dC, dI) vwCl (sd_O cA h0 a0 n w) H) (ok : sd_ok n w) (y k q : Nat) (hy : y = 1 ∨ y = 2) (hk : 1 ≤ k) (hk2 : k ≤ 20000) (hq : q < n) (hpos : 0 < w q) (hR : (sd_rm 1 0 0).frames + 1 ≤ R.frames ∧ 8 + (9 + 11) + (sd_rm 1 0 0).locals ≤ R.locals) (hf : cells + 0 ≤ R.cells ∧ slots + 0 ≤ R.slots)
    (kk : ∀ ls : Array Slot, lv_has ls 7 [(0, .ref h0), (1, .int (nI y)), (2, .int (nI k)), (3, .int (nI q)), (4, .long (lN (k + sd_sum (fun j => if j = q then 0 else sd_ub y w k q j) n))), (6, .int (nI n))] → W p l e R s m args below meth c H locs cells slots Q (F0 m 42 ls []))
    : ∀ (f i : Nat), i + f = n → ∀ ls : Array Slot, lv_has ls 7 [(0, .ref h0), (1, .int (nI y)), (2, .int (nI k)), (3, .int (nI q)), (4, .long (lN (k + sd_sum (fun j => if j = q then 0 else sd_ub y w k q j) i))), (6, .int (nI i))] → W p l e R s m args below meth c H locs cells slots Q (F0 m 7 ls []) := by
  have hts : ∀ w ∈ sd_WS, w.before args s = true := fun w h => hts0 w (List.mem_cons_of_mem _ h)
  have hP : va_P (dC, dI) vwCl [(h0, .inr (0, [.ref a0, .int (nI n), .int (nI (sd_sum w n))])), (a0, .inl (cA, 8, .inl (fun i => nI (w i))))] H := hP
  have hy2 : y ≤ 2 := by omega
  have hn8 := ok.2.1
  intro f
  induction f using Nat.strongRecOn with
  | ind f ih0 =>
    intro i hi ls hl
    have ih : i < n → ∀ ls : Array Slot, lv_has ls 7 [(0, .ref h0), (1, .int (nI y)), (2, .int (nI k)), (3, .int (nI q)), (4, .long (lN (k + sd_sum (fun j => if j = q then 0 else sd_ub y w k q j) (i + 1)))), (6, .int (nI (i + 1)))] → W p l e R s m args below meth c H locs cells slots Q (F0 m 7 ls []) := fun hlt => ih0 (f - 1) (by omega) (i + 1) (by omega)
    refine lv_iload hx hb dX0_turnOf_7 (lv_at hl 5 rfl) ?_
    refine lv_aload_n hx hb dX0_turnOf_9 rfl (lv_at hl 0 rfl) ?_
    refine va_get (D := (dC, dI)) (ci := 0) (v := .int (nI n)) (C := RX0) (T := TX0) (N := 3) hx hb hts u_in_X0 hown hK hP 0 rfl rfl 1 (by decide) (hts (.fieldLink RX0 13 "ShareDesk" "parties" "I") k_fieldLink_X0_13) (fun _ h9 => h9) rfl dX0_turnOf_10 ?_
    refine sd_ic_ge (a := i) (b := n) (tgt := 42) hx hb dX0_turnOf_13 (by decide) (by omega) (by omega) (fun h => ?_) (fun h => ?_)
    · have hin : i = n := by omega
      subst hin
      exact kk ls hl
    · have hbd := sd_turn_le (p := q) (n := n) hy2 hk hk2 ok.2.2.1 i (by omega) ok.2.1
      refine lv_iload hx hb dX0_turnOf_16 (lv_at hl 5 rfl) ?_
      refine lv_iload_n hx hb dX0_turnOf_18 rfl (lv_at hl 3 rfl) ?_
      refine sd_ic_eq (a := i) (b := q) (tgt := 36) hx hb dX0_turnOf_19 (by decide) (by omega) (by omega) (fun h => ?_) (fun h => ?_)
      · have e1 : (k + sd_sum (fun j => if j = q then 0 else sd_ub y w k q j) (i + 1)) = (k + sd_sum (fun j => if j = q then 0 else sd_ub y w k q j) i) := by rw [sd_sum_s, if_pos h]; rfl
        refine lv_iinc (k := 5) (v := nI (i + 1)) hx hb dX0_turnOf_36 hl rfl (nI_add _ 1) (by decide) rfl (fun ls hl => ?_)
        have hl : lv_has ls 7 [(6, .int (nI (i + 1))), (0, .ref h0), (1, .int (nI y)), (2, .int (nI k)), (3, .int (nI q)), (4, .long (lN (k + sd_sum (fun j => if j = q then 0 else sd_ub y w k q j) i)))] := hl
        refine lv_goto (tgt := 7) hx hb dX0_turnOf_39 (by decide) ?_
        have hl := lv_sub (l' := [(0, .ref h0), (1, .int (nI y)), (2, .int (nI k)), (3, .int (nI q)), (4, .long (lN (k + sd_sum (fun j => if j = q then 0 else sd_ub y w k q j) i))), (6, .int (nI (i + 1)))]) hl [1, 2, 3, 4, 5, 0] rfl
        rw [← e1] at hl
        exact ih (by omega) ls hl
      · refine lv_lload hx hb dX0_turnOf_22 (lv_at hl 4 rfl) ?_
        refine lv_aload_n hx hb dX0_turnOf_24 rfl (lv_at hl 0 rfl) ?_
        refine lv_iload_n hx hb dX0_turnOf_25 rfl (lv_at hl 1 rfl) ?_
        refine lv_iload_n hx hb dX0_turnOf_26 rfl (lv_at hl 2 rfl) ?_
        refine lv_iload_n hx hb dX0_turnOf_27 rfl (lv_at hl 3 rfl) ?_
        refine lv_iload hx hb dX0_turnOf_28 (lv_at hl 5 rfl) ?_
        refine sd_calll (va_runV (As := [.int (nI y), .int (nI k), .int (nI q), .int (nI i)]) (rest := [.long (lN (k + sd_sum (fun j => if j = q then 0 else sd_ub y w k q j) i))]) ⟨hx, hb, hml, hown, hts0⟩ (c_unitsBefore l dC dI cA h0 a0 n w ok y k q i hy hk hk2 hq hpos (by omega)) (cwV 4 hts0 (sd_gV k_methodLink_X0_87 k_instanceMethod_X0_unitsBefore k_sel_X0_unitsBefore k_init_ShareDesk k_code_X0_unitsBefore) rfl rfl rfl (by decide +kernel) ⟨hR.1, hR.2⟩) (sd_preV hK hP (q0 := 0) (ci := 0) rfl rfl) rfl rfl hl.1 rfl (lv_room (Nat.le_of_ble_eq_true rfl)) dX0_turnOf_30 hf) ?_
        refine sd_ladd (v := lN ((k + sd_sum (fun j => if j = q then 0 else sd_ub y w k q j) i) + (sd_ub y w k q i))) hx hb dX0_turnOf_33 (lN_add _ _) ?_
        refine lv_lstore hx hb dX0_turnOf_34 hl (by decide) rfl (fun ls hl => ?_)
        have hl : lv_has ls 7 [(4, .long (lN ((k + sd_sum (fun j => if j = q then 0 else sd_ub y w k q j) i) + (sd_ub y w k q i)))), (0, .ref h0), (1, .int (nI y)), (2, .int (nI k)), (3, .int (nI q)), (6, .int (nI i))] := hl
        have e1 : (k + sd_sum (fun j => if j = q then 0 else sd_ub y w k q j) (i + 1)) = (k + sd_sum (fun j => if j = q then 0 else sd_ub y w k q j) i) + sd_ub y w k q i := by rw [sd_sum_s, if_neg h]; omega
        refine lv_iinc (k := 5) (v := nI (i + 1)) hx hb dX0_turnOf_36 hl rfl (nI_add _ 1) (by decide) rfl (fun ls hl => ?_)
        have hl : lv_has ls 7 [(6, .int (nI (i + 1))), (4, .long (lN ((k + sd_sum (fun j => if j = q then 0 else sd_ub y w k q j) i) + (sd_ub y w k q i)))), (0, .ref h0), (1, .int (nI y)), (2, .int (nI k)), (3, .int (nI q))] := hl
        refine lv_goto (tgt := 7) hx hb dX0_turnOf_39 (by decide) ?_
        have hl := lv_sub (l' := [(0, .ref h0), (1, .int (nI y)), (2, .int (nI k)), (3, .int (nI q)), (4, .long (lN ((k + sd_sum (fun j => if j = q then 0 else sd_ub y w k q j) i) + (sd_ub y w k q i)))), (6, .int (nI (i + 1)))]) hl [2, 3, 4, 5, 1, 0] rfl
        rw [← e1] at hl
        exact ih (by omega) ls hl
set_option maxHeartbeats 4000000 in
set_option maxRecDepth 100000 in
theorem c_turnOf (l : Launch) (dC : Nat → ClassId) (dI : Nat → Nat → Nat) (cA : ClassId) (h0 a0 n : Nat) (w : Nat → Nat) (ok : sd_ok n w) (y k q : Nat) (hy : y = 1 ∨ y = 2) (hk : 1 ≤ k) (hk2 : k ≤ 20000) (hq : q < n) (hpos : 0 < w q) : Met l yX0_turnOf (sd_ws yX0_turnOf cX0_turnOf 7 (some .long)) (sd_rm 2 0 0) (sd_Pp (dC, dI) vwCl [(cA, .int)] (sd_O cA h0 a0 n w) [.ref h0, .int (nI y), .int (nI k), .int (nI q)]) (vp_Sl (fun r => r = lN (sd_turn y w n k q))) 0 0 (fun _ => False) := by
  refine Met.ofW (cc := cX0_turnOf) (maxL := 7) (ret := (some .long)) (by decide) rfl ?_
  intro p e s m args below meth c s₁ B hml hv
  obtain ⟨rfl, hP, hK⟩ := hv
  have hx := B.exec
  have hb := B.bytes
  have hr := B.returns
  have hts0 := atoms_spec (ws := (sd_ws yX0_turnOf cX0_turnOf 7 (some .long))) B.pre
  have hts : ∀ w ∈ sd_WS, w.before _ s = true := fun w h => hts0 w (List.mem_cons_of_mem _ h)
  have hown : s.vm.findClass RX0 = some m.cls := findClass_of_methodNamed B.named
  have hlocks := B.notSynchronized
  have hl := lv_entry ([.ref h0, .int (nI y), .int (nI k), .int (nI q)]) (n := 7) (Nat.le_of_ble_eq_true rfl)
  rw [lg_entry_eq]
  generalize (lg_sl ([.ref h0, .int (nI y), .int (nI k), .int (nI q)]) ++ List.replicate (7 - (lg_sl ([.ref h0, .int (nI y), .int (nI k), .int (nI q)])).length) Slot.unset).toArray = ls at hl ⊢
  have hl : lv_has ls 7 [(0, .ref h0), (1, .int (nI y)), (2, .int (nI k)), (3, .int (nI q))] := hl
  have hP : va_P (dC, dI) vwCl [(h0, .inr (0, [.ref a0, .int (nI n), .int (nI (sd_sum w n))])), (a0, .inl (cA, 8, .inl (fun i => nI (w i))))] s.heap := hP
  have hn8 := ok.2.1
  refine lv_iload_n hx hb dX0_turnOf_0 rfl (lv_at hl 2 rfl) ?_
  refine lv_i2l (v := lN k) hx hb dX0_turnOf_1 (nI_l (by omega)) ?_
  refine lv_lstore hx hb dX0_turnOf_2 hl (by decide) rfl (fun ls hl => ?_)
  have hl : lv_has ls 7 [(4, .long (lN k)), (0, .ref h0), (1, .int (nI y)), (2, .int (nI k)), (3, .int (nI q))] := hl
  refine lv_iconst (v := (nI 0)) hx hb dX0_turnOf_4 (by decide +kernel) ?_
  refine lv_istore hx hb dX0_turnOf_5 hl (by decide) rfl (fun ls hl => ?_)
  have hl : lv_has ls 7 [(6, .int (nI 0)), (4, .long (lN k)), (0, .ref h0), (1, .int (nI y)), (2, .int (nI k)), (3, .int (nI q))] := hl
  have hl := lv_sub (l' := [(0, .ref h0), (1, .int (nI y)), (2, .int (nI k)), (3, .int (nI q)), (4, .long (lN k)), (6, .int (nI 0))]) hl [2, 3, 4, 5, 1, 0] rfl
  refine lp_turnOf hx hb hml hts0 hown hK hP ok y k q hy hk hk2 hq hpos ⟨Nat.le_of_ble_eq_true rfl, Nat.le_of_ble_eq_true rfl⟩ ⟨Nat.zero_le _, Nat.zero_le _⟩ (fun ls hl => ?_) n 0 (by omega) ls hl
  refine lv_lload hx hb dX0_turnOf_42 (lv_at hl 4 rfl) ?_
  exact W.lret hx hb hr (fun t ht hW => ⟨_, rfl, rfl, ht⟩) (fun q hq => nomatch hq) dX0_turnOf_44
set_option maxHeartbeats 4000000 in
set_option maxRecDepth 100000 in
theorem lp_ubt {p : Program} {l : Launch} {e : Env} {R : Room} {s : State} {m : MethodId} {args : Array Value} {below : List Frame} {meth : Method} {c : Code} {H : Heap} {locs : List Loc} {cells slots : Nat} {Q : State → Prop} (hx : p.tables.exec = Jvm.exec) (hb : c.code = cX0_unitsByTurns) (hml : c.maxLocals = 6) (hts0 : ∀ w ∈ (sd_ws yX0_unitsByTurns cX0_unitsByTurns 6 (some .int)), w.before args s = true) (hown : s.vm.findClass RX0 = some m.cls) {dC : Nat → ClassId} {dI : Nat → Nat → Nat} {cA : ClassId} {h0 a0 n : Nat} {w : Nat → Nat} (hK : va_K (dC, dI) vwCl [(cA, .int)] s) (hP : va_P (dC, dI) vwCl (sd_O cA h0 a0 n w) H) (ok : sd_ok n w) (y u q K : Nat) (hy : y = 1 ∨ y = 2) (hu : u ≤ 10000) (hq : q < n) (hpos : 0 < w q) (hT : ∀ j, 1 ≤ j → (sd_turn y w n j q ≤ u ↔ j ≤ K)) (hKu : K ≤ 10000)
    (hR : (sd_rm 2 0 0).frames + 1 ≤ R.frames ∧ 8 + (7 + 11) + (sd_rm 2 0 0).locals ≤ R.locals) (hf : cells + 0 ≤ R.cells ∧ slots + 0 ≤ R.slots)
    (kk : ∀ ls : Array Slot, lv_has ls 6 [(0, .ref h0), (1, .int (nI y)), (2, .int (nI u)), (3, .int (nI q)), (4, .int (nI K)), (5, .int (nI 0))] → W p l e R s m args below meth c H locs cells slots Q (F0 m 57 ls []))
    : ∀ (st k : Nat), k ≤ K → (st = 0 → K = k) → (0 < st → K < k + 2 * st) → st ≤ 8192 → (st = 0 ∨ ∃ e, st = 2 ^ e) → ∀ ls : Array Slot, lv_has ls 6 [(0, .ref h0), (1, .int (nI y)), (2, .int (nI u)), (3, .int (nI q)), (4, .int (nI k)), (5, .int (nI st))] → W p l e R s m args below meth c H locs cells slots Q (F0 m 19 ls []) := by
  have hts : ∀ w ∈ sd_WS, w.before args s = true := fun w h => hts0 w (List.mem_cons_of_mem _ h)
  have hP : va_P (dC, dI) vwCl [(h0, .inr (0, [.ref a0, .int (nI n), .int (nI (sd_sum w n))])), (a0, .inl (cA, 8, .inl (fun i => nI (w i))))] H := hP
  have hy2 : y ≤ 2 := by omega
  have hn8 := ok.2.1
  intro st
  induction st using Nat.strongRecOn with
  | ind st ih0 =>
    intro k h1 h2 h3 h4 h5 ls hl
    refine lv_iload hx hb dX0_unitsByTurns_19 (lv_at hl 5 rfl) ?_
    refine sd_iz_le (a := st) (tgt := 57) hx hb dX0_unitsByTurns_21 (by decide) (by omega) (fun h => ?_) (fun h => ?_)
    · subst h
      have hKk := h2 rfl
      subst hKk
      exact kk ls hl
    · have hKs := h3 h
      have hbt : sd_turn y w n (k + st) q ≤ 20000 + 8 * 4000000000 := sd_turn_le (n := n) hy2 (by omega) (by omega) ok.2.2.1 n (Nat.le_refl _) ok.2.1
      have hTk := hT (k + st) (by omega)
      have hst2 : 0 < st / 2 → ∃ e, st / 2 = 2 ^ e := by
        intro hp
        rcases h5 with z | ⟨e, z⟩
        · omega
        · cases e with
          | zero => rw [Nat.pow_zero] at z; omega
          | succ e => exact ⟨e, by rw [Nat.pow_succ] at z; omega⟩
      have hst3 : 0 < st / 2 → 2 * (st / 2) = st := by
        intro hp
        rcases h5 with z | ⟨e, z⟩
        · omega
        · cases e with
          | zero => rw [Nat.pow_zero] at z; omega
          | succ e => rw [Nat.pow_succ] at z; omega
      have hst4 : st / 2 = 0 → st = 1 := by omega
      have hst5 : st / 2 = 0 ∨ ∃ e, st / 2 = 2 ^ e := by
        by_cases z : st / 2 = 0
        · exact Or.inl z
        · exact Or.inr (hst2 (by omega))
      refine lv_aload_n hx hb dX0_unitsByTurns_24 rfl (lv_at hl 0 rfl) ?_
      refine lv_iload_n hx hb dX0_unitsByTurns_25 rfl (lv_at hl 1 rfl) ?_
      refine lv_iload hx hb dX0_unitsByTurns_26 (lv_at hl 4 rfl) ?_
      refine lv_iload hx hb dX0_unitsByTurns_28 (lv_at hl 5 rfl) ?_
      refine sd_iadd (v := nI (k + st)) hx hb dX0_unitsByTurns_30 (nI_add _ _) ?_
      refine lv_iload_n hx hb dX0_unitsByTurns_31 rfl (lv_at hl 3 rfl) ?_
      refine sd_calll (va_runV (As := [.int (nI y), .int (nI (k + st)), .int (nI q)]) (rest := []) ⟨hx, hb, hml, hown, hts0⟩ (c_turnOf l dC dI cA h0 a0 n w ok y (k + st) q hy (by omega) (by omega) hq hpos) (cwV 3 hts0 (sd_gV k_methodLink_X0_54 k_instanceMethod_X0_turnOf k_sel_X0_turnOf k_init_ShareDesk k_code_X0_turnOf) rfl rfl rfl (by decide +kernel) ⟨hR.1, hR.2⟩) (sd_preV hK hP (q0 := 0) (ci := 0) rfl rfl) rfl rfl hl.1 rfl (lv_room (Nat.le_of_ble_eq_true rfl)) dX0_unitsByTurns_32 hf) ?_
      refine lv_iload_n hx hb dX0_unitsByTurns_35 rfl (lv_at hl 2 rfl) ?_
      refine lv_i2l (v := lN u) hx hb dX0_unitsByTurns_36 (nI_l (by omega)) ?_
      refine sd_lc_gt (a := sd_turn y w n (k + st) q) (b := u) (tgt := 48) hx hb dX0_unitsByTurns_37 dX0_unitsByTurns_38 (by decide) (by omega) (by omega) (fun h => ?_) (fun h => ?_)
      · have hno : ¬ k + st ≤ K := fun z => absurd (hTk.mpr z) (by omega)
        refine lv_iload hx hb dX0_unitsByTurns_48 (lv_at hl 5 rfl) ?_
        refine lv_iconst (v := (nI 2)) hx hb dX0_unitsByTurns_50 (by decide +kernel) ?_
        refine sd_idiv (v := nI (st / 2)) hx hb dX0_unitsByTurns_51 (nI_ne0 (by omega) (by omega)) (pk_div (by omega) (by omega) (by omega)) ?_
        refine lv_istore hx hb dX0_unitsByTurns_52 hl (by decide) rfl (fun ls hl => ?_)
        have hl : lv_has ls 6 [(5, .int (nI (st / 2))), (0, .ref h0), (1, .int (nI y)), (2, .int (nI u)), (3, .int (nI q)), (4, .int (nI k))] := hl
        refine lv_goto (tgt := 19) hx hb dX0_unitsByTurns_54 (by decide) ?_
        have hl := lv_sub (l' := [(0, .ref h0), (1, .int (nI y)), (2, .int (nI u)), (3, .int (nI q)), (4, .int (nI k)), (5, .int (nI (st / 2)))]) hl [1, 2, 3, 4, 5, 0] rfl
        refine ih0 (st / 2) (by omega) (k) (by omega) (fun z => ?_) (fun z => ?_) (by omega) hst5 ls hl
        · have := hst4 z; omega
        · have := hst3 z; omega
      · have hyes : k + st ≤ K := hTk.mp h
        refine lv_iload hx hb dX0_unitsByTurns_41 (lv_at hl 4 rfl) ?_
        refine lv_iload hx hb dX0_unitsByTurns_43 (lv_at hl 5 rfl) ?_
        refine sd_iadd (v := nI (k + st)) hx hb dX0_unitsByTurns_45 (nI_add _ _) ?_
        refine lv_istore hx hb dX0_unitsByTurns_46 hl (by decide) rfl (fun ls hl => ?_)
        have hl : lv_has ls 6 [(4, .int (nI (k + st))), (0, .ref h0), (1, .int (nI y)), (2, .int (nI u)), (3, .int (nI q)), (5, .int (nI st))] := hl
        refine lv_iload hx hb dX0_unitsByTurns_48 (lv_at hl 5 rfl) ?_
        refine lv_iconst (v := (nI 2)) hx hb dX0_unitsByTurns_50 (by decide +kernel) ?_
        refine sd_idiv (v := nI (st / 2)) hx hb dX0_unitsByTurns_51 (nI_ne0 (by omega) (by omega)) (pk_div (by omega) (by omega) (by omega)) ?_
        refine lv_istore hx hb dX0_unitsByTurns_52 hl (by decide) rfl (fun ls hl => ?_)
        have hl : lv_has ls 6 [(5, .int (nI (st / 2))), (4, .int (nI (k + st))), (0, .ref h0), (1, .int (nI y)), (2, .int (nI u)), (3, .int (nI q))] := hl
        refine lv_goto (tgt := 19) hx hb dX0_unitsByTurns_54 (by decide) ?_
        have hl := lv_sub (l' := [(0, .ref h0), (1, .int (nI y)), (2, .int (nI u)), (3, .int (nI q)), (4, .int (nI (k + st))), (5, .int (nI (st / 2)))]) hl [2, 3, 4, 5, 1, 0] rfl
        refine ih0 (st / 2) (by omega) (k + st) (by omega) (fun z => ?_) (fun z => ?_) (by omega) hst5 ls hl
        · have := hst4 z; omega
        · have := hst3 z; omega
set_option maxHeartbeats 4000000 in
set_option maxRecDepth 100000 in
theorem c_unitsByTurns (l : Launch) (dC : Nat → ClassId) (dI : Nat → Nat → Nat) (cA : ClassId) (h0 a0 n : Nat) (w : Nat → Nat) (ok : sd_ok n w) (hW : 0 < sd_sum w n) (y u q : Nat) (hy : y = 1 ∨ y = 2) (hu : u ≤ 10000) (hq : q < n) : Met l yX0_unitsByTurns (sd_ws yX0_unitsByTurns cX0_unitsByTurns 6 (some .int)) (sd_rm 3 0 0) (sd_Pp (dC, dI) vwCl [(cA, .int)] (sd_O cA h0 a0 n w) [.ref h0, .int (nI y), .int (nI u), .int (nI q)]) (vp_Si (fun r => r = nI (sd_G y w n u q))) 0 0 (fun _ => False) := by
  refine Met.ofW (cc := cX0_unitsByTurns) (maxL := 6) (ret := (some .int)) (by decide) rfl ?_
  intro p e s m args below meth c s₁ B hml hv
  obtain ⟨rfl, hP, hK⟩ := hv
  have hx := B.exec
  have hb := B.bytes
  have hr := B.returns
  have hts0 := atoms_spec (ws := (sd_ws yX0_unitsByTurns cX0_unitsByTurns 6 (some .int))) B.pre
  have hts : ∀ w ∈ sd_WS, w.before _ s = true := fun w h => hts0 w (List.mem_cons_of_mem _ h)
  have hown : s.vm.findClass RX0 = some m.cls := findClass_of_methodNamed B.named
  have hlocks := B.notSynchronized
  have hl := lv_entry ([.ref h0, .int (nI y), .int (nI u), .int (nI q)]) (n := 6) (Nat.le_of_ble_eq_true rfl)
  rw [lg_entry_eq]
  generalize (lg_sl ([.ref h0, .int (nI y), .int (nI u), .int (nI q)]) ++ List.replicate (6 - (lg_sl ([.ref h0, .int (nI y), .int (nI u), .int (nI q)])).length) Slot.unset).toArray = ls at hl ⊢
  have hl : lv_has ls 6 [(0, .ref h0), (1, .int (nI y)), (2, .int (nI u)), (3, .int (nI q))] := hl
  have hP : va_P (dC, dI) vwCl [(h0, .inr (0, [.ref a0, .int (nI n), .int (nI (sd_sum w n))])), (a0, .inl (cA, 8, .inl (fun i => nI (w i))))] s.heap := hP
  have hwq := ok.2.2.1 q
  have hn8 := ok.2.1
  have hI := sd_inv_G (y := y) (sd_sum_pos hW) u
  refine lv_aload_n hx hb dX0_unitsByTurns_0 rfl (lv_at hl 0 rfl) ?_
  refine va_get (D := (dC, dI)) (ci := 0) (v := .ref a0) (C := RX0) (T := TX0) (N := 3) hx hb hts u_in_X0 hown hK hP 0 rfl rfl 0 (by decide) (hts (.fieldLink RX0 9 "ShareDesk" "weights" "[I") k_fieldLink_X0_9) (fun _ h9 => h9) rfl dX0_unitsByTurns_1 ?_
  refine lv_iload_n hx hb dX0_unitsByTurns_4 rfl (lv_at hl 3 rfl) ?_
  refine sd_iald (j := q) (v := nI (w q)) hx hb hK hP 1 0 rfl rfl (by omega) (by decide) rfl dX0_unitsByTurns_5 ?_
  refine sd_iz_ne (a := w q) (tgt := 11) hx hb dX0_unitsByTurns_6 (by decide) (by omega) (fun h => ?_) (fun h => ?_)
  · have hKu : sd_G y w n u q ≤ 10000 := by
      have h1 := sd_sum_ge (f := sd_G y w n u) hq
      rw [hI.1] at h1
      omega
    refine lv_iconst (v := (nI 0)) hx hb dX0_unitsByTurns_11 (by decide +kernel) ?_
    refine lv_istore hx hb dX0_unitsByTurns_12 hl (by decide) rfl (fun ls hl => ?_)
    have hl : lv_has ls 6 [(4, .int (nI 0)), (0, .ref h0), (1, .int (nI y)), (2, .int (nI u)), (3, .int (nI q))] := hl
    refine lv_sipush (v := nI 8192) hx hb dX0_unitsByTurns_14 (by decide +kernel) ?_
    refine lv_istore hx hb dX0_unitsByTurns_17 hl (by decide) rfl (fun ls hl => ?_)
    have hl : lv_has ls 6 [(5, .int (nI 8192)), (4, .int (nI 0)), (0, .ref h0), (1, .int (nI y)), (2, .int (nI u)), (3, .int (nI q))] := hl
    have hl := lv_sub (l' := [(0, .ref h0), (1, .int (nI y)), (2, .int (nI u)), (3, .int (nI q)), (4, .int (nI 0)), (5, .int (nI 8192))]) hl [2, 3, 4, 5, 1, 0] rfl
    refine lp_ubt hx hb hml hts0 hown hK hP ok y u q (sd_G y w n u q) hy hu hq h (fun j hj => sd_turn_iff hy hI hq h hj) hKu ⟨Nat.le_of_ble_eq_true rfl, Nat.le_of_ble_eq_true rfl⟩ ⟨Nat.zero_le _, Nat.zero_le _⟩ (fun ls hl => ?_) 8192 0 (by omega) (by omega) (by omega) (by omega) (Or.inr ⟨13, rfl⟩) ls hl
    refine lv_iload hx hb dX0_unitsByTurns_57 (lv_at hl 4 rfl) ?_
    exact W.iret hx hb hr (fun t ht hW => ⟨_, rfl, rfl, ht⟩) (fun q hq => nomatch hq) dX0_unitsByTurns_59
  · refine lv_iconst (v := (nI 0)) hx hb dX0_unitsByTurns_9 (by decide +kernel) ?_
    refine sd_topi (y := nI (sd_G y w n u q)) (by rw [hI.2.1 q hq h]) ?_
    exact W.iret hx hb hr (fun t ht hW => ⟨_, rfl, rfl, ht⟩) (fun q hq => nomatch hq) dX0_unitsByTurns_10
set_option maxHeartbeats 4000000 in
set_option maxRecDepth 100000 in
theorem lp_ubr {p : Program} {l : Launch} {e : Env} {R : Room} {s : State} {m : MethodId} {args : Array Value} {below : List Frame} {meth : Method} {c : Code} {H : Heap} {locs : List Loc} {cells slots : Nat} {Q : State → Prop} (hx : p.tables.exec = Jvm.exec) (hb : c.code = cX0_unitsByRests) (hml : c.maxLocals = 11) (hts0 : ∀ w ∈ (sd_ws yX0_unitsByRests cX0_unitsByRests 11 (some .int)), w.before args s = true) (hown : s.vm.findClass RX0 = some m.cls) {dC : Nat → ClassId} {dI : Nat → Nat → Nat} {cA : ClassId} {h0 a0 n : Nat} {w : Nat → Nat} (hK : va_K (dC, dI) vwCl [(cA, .int)] s) (hP : va_P (dC, dI) vwCl (sd_O cA h0 a0 n w) H) (ok : sd_ok n w) (hW : 0 < sd_sum w n) (u q : Nat) (hu : u ≤ 10001) (hq : q < n) (hR : (sd_rm 0 0 0).frames + 1 ≤ R.frames ∧ 8 + (3 + 11) + (sd_rm 0 0 0).locals ≤ R.locals) (hf : cells + 0 ≤ R.cells ∧ slots + 0 ≤ R.slots)
    (kk : ∀ ls : Array Slot, lv_has ls 11 [(0, .ref h0), (1, .int (nI u)), (2, .int (nI q)), (3, .long (lN (sd_rs w (sd_sum w n) u q))), (5, .long (lN (sd_sum (sd_rs w (sd_sum w n) u) n))), (7, .int (nI (sd_cnt (sd_ab (sd_rs w (sd_sum w n) u) q) n))), (8, .int (nI n))] → W p l e R s m args below meth c H locs cells slots Q (F0 m 70 ls []))
    : ∀ (f i : Nat), i + f = n → ∀ ls : Array Slot, lv_has ls 11 [(0, .ref h0), (1, .int (nI u)), (2, .int (nI q)), (3, .long (lN (sd_rs w (sd_sum w n) u q))), (5, .long (lN (sd_sum (sd_rs w (sd_sum w n) u) i))), (7, .int (nI (sd_cnt (sd_ab (sd_rs w (sd_sum w n) u) q) i))), (8, .int (nI i))] → W p l e R s m args below meth c H locs cells slots Q (F0 m 16 ls []) := by
  have hts : ∀ w ∈ sd_WS, w.before args s = true := fun w h => hts0 w (List.mem_cons_of_mem _ h)
  have hP : va_P (dC, dI) vwCl [(h0, .inr (0, [.ref a0, .int (nI n), .int (nI (sd_sum w n))])), (a0, .inl (cA, 8, .inl (fun i => nI (w i))))] H := hP
  have hWl := sd_W_le ok.2.2.1 ok.2.1
  have hn8 := ok.2.1
  intro f
  induction f using Nat.strongRecOn with
  | ind f ih0 =>
    intro i hi ls hl
    have ih : i < n → ∀ ls : Array Slot, lv_has ls 11 [(0, .ref h0), (1, .int (nI u)), (2, .int (nI q)), (3, .long (lN (sd_rs w (sd_sum w n) u q))), (5, .long (lN (sd_sum (sd_rs w (sd_sum w n) u) (i + 1)))), (7, .int (nI (sd_cnt (sd_ab (sd_rs w (sd_sum w n) u) q) (i + 1)))), (8, .int (nI (i + 1)))] → W p l e R s m args below meth c H locs cells slots Q (F0 m 16 ls []) := fun hlt => ih0 (f - 1) (by omega) (i + 1) (by omega)
    refine lv_iload hx hb dX0_unitsByRests_16 (lv_at hl 6 rfl) ?_
    refine lv_aload_n hx hb dX0_unitsByRests_18 rfl (lv_at hl 0 rfl) ?_
    refine va_get (D := (dC, dI)) (ci := 0) (v := .int (nI n)) (C := RX0) (T := TX0) (N := 3) hx hb hts u_in_X0 hown hK hP 0 rfl rfl 1 (by decide) (hts (.fieldLink RX0 13 "ShareDesk" "parties" "I") k_fieldLink_X0_13) (fun _ h9 => h9) rfl dX0_unitsByRests_19 ?_
    refine sd_ic_ge (a := i) (b := n) (tgt := 70) hx hb dX0_unitsByRests_22 (by decide) (by omega) (by omega) (fun h => ?_) (fun h => ?_)
    · have hin : i = n := by omega
      subst hin
      exact kk ls hl
    · have hri : sd_rs w (sd_sum w n) u i < sd_sum w n := Nat.mod_lt _ hW
      have hrq : sd_rs w (sd_sum w n) u q < sd_sum w n := Nat.mod_lt _ hW
      have hsb : (sd_sum (sd_rs w (sd_sum w n) u) i) ≤ i * 800000 := sd_sum_bound (fun j _ => Nat.le_trans (Nat.le_of_lt (Nat.mod_lt _ hW)) hWl)
      have hcb := sd_cnt_lim (sd_ab (sd_rs w (sd_sum w n) u) q) i
      have e0 : (sd_sum (sd_rs w (sd_sum w n) u) (i + 1)) = (sd_sum (sd_rs w (sd_sum w n) u) i) + sd_rs w (sd_sum w n) u i := rfl
      refine lv_aload_n hx hb dX0_unitsByRests_25 rfl (lv_at hl 0 rfl) ?_
      refine lv_iload_n hx hb dX0_unitsByRests_26 rfl (lv_at hl 1 rfl) ?_
      refine lv_iload hx hb dX0_unitsByRests_27 (lv_at hl 6 rfl) ?_
      refine sd_calll (va_runV (As := [.int (nI u), .int (nI i)]) (rest := []) ⟨hx, hb, hml, hown, hts0⟩ (c_restOf l dC dI cA h0 a0 n w ok hW u i hu (by omega)) (cwV 2 hts0 (sd_gV k_methodLink_X0_83 k_instanceMethod_X0_restOf k_sel_X0_restOf k_init_ShareDesk k_code_X0_restOf) rfl rfl rfl (by decide +kernel) ⟨hR.1, hR.2⟩) (sd_preV hK hP (q0 := 0) (ci := 0) rfl rfl) rfl rfl hl.1 rfl (lv_room (Nat.le_of_ble_eq_true rfl)) dX0_unitsByRests_29 hf) ?_
      refine lv_lstore hx hb dX0_unitsByRests_32 hl (by decide) rfl (fun ls hl => ?_)
      have hl : lv_has ls 11 [(9, .long (lN (sd_rs w (sd_sum w n) u i))), (0, .ref h0), (1, .int (nI u)), (2, .int (nI q)), (3, .long (lN (sd_rs w (sd_sum w n) u q))), (5, .long (lN (sd_sum (sd_rs w (sd_sum w n) u) i))), (7, .int (nI (sd_cnt (sd_ab (sd_rs w (sd_sum w n) u) q) i))), (8, .int (nI i))] := hl
      refine lv_lload hx hb dX0_unitsByRests_34 (lv_at hl 5 rfl) ?_
      refine lv_lload hx hb dX0_unitsByRests_36 (lv_at hl 0 rfl) ?_
      refine sd_ladd (v := lN ((sd_sum (sd_rs w (sd_sum w n) u) i) + (sd_rs w (sd_sum w n) u i))) hx hb dX0_unitsByRests_38 (lN_add _ _) ?_
      refine lv_lstore hx hb dX0_unitsByRests_39 hl (by decide) rfl (fun ls hl => ?_)
      have hl : lv_has ls 11 [(5, .long (lN ((sd_sum (sd_rs w (sd_sum w n) u) i) + (sd_rs w (sd_sum w n) u i)))), (9, .long (lN (sd_rs w (sd_sum w n) u i))), (0, .ref h0), (1, .int (nI u)), (2, .int (nI q)), (3, .long (lN (sd_rs w (sd_sum w n) u q))), (7, .int (nI (sd_cnt (sd_ab (sd_rs w (sd_sum w n) u) q) i))), (8, .int (nI i))] := hl
      refine lv_lload hx hb dX0_unitsByRests_41 (lv_at hl 1 rfl) ?_
      refine lv_lload_n hx hb dX0_unitsByRests_43 rfl (lv_at hl 5 rfl) ?_
      refine sd_lc_gt (a := sd_rs w (sd_sum w n) u i) (b := sd_rs w (sd_sum w n) u q) (tgt := 61) hx hb dX0_unitsByRests_44 dX0_unitsByRests_45 (by decide) (by omega) (by omega) (fun h => ?_) (fun h => ?_)
      · have e1 : (sd_cnt (sd_ab (sd_rs w (sd_sum w n) u) q) (i + 1)) = (sd_cnt (sd_ab (sd_rs w (sd_sum w n) u) q) i) + 1 := by rw [sd_cnt_s, (show sd_ab (sd_rs w (sd_sum w n) u) q i = true by simp [sd_ab]; omega)]; rfl
        refine lv_iinc (k := 6) (v := nI (sd_cnt (sd_ab (sd_rs w (sd_sum w n) u) q) i + 1)) hx hb dX0_unitsByRests_61 hl rfl (nI_add _ 1) (by decide) rfl (fun ls hl => ?_)
        have hl : lv_has ls 11 [(7, .int (nI (sd_cnt (sd_ab (sd_rs w (sd_sum w n) u) q) i + 1))), (5, .long (lN ((sd_sum (sd_rs w (sd_sum w n) u) i) + (sd_rs w (sd_sum w n) u i)))), (9, .long (lN (sd_rs w (sd_sum w n) u i))), (0, .ref h0), (1, .int (nI u)), (2, .int (nI q)), (3, .long (lN (sd_rs w (sd_sum w n) u q))), (8, .int (nI i))] := hl
        refine lv_iinc (k := 7) (v := nI (i + 1)) hx hb dX0_unitsByRests_64 hl rfl (nI_add _ 1) (by decide) rfl (fun ls hl => ?_)
        have hl : lv_has ls 11 [(8, .int (nI (i + 1))), (7, .int (nI (sd_cnt (sd_ab (sd_rs w (sd_sum w n) u) q) i + 1))), (5, .long (lN ((sd_sum (sd_rs w (sd_sum w n) u) i) + (sd_rs w (sd_sum w n) u i)))), (9, .long (lN (sd_rs w (sd_sum w n) u i))), (0, .ref h0), (1, .int (nI u)), (2, .int (nI q)), (3, .long (lN (sd_rs w (sd_sum w n) u q)))] := hl
        refine lv_goto (tgt := 16) hx hb dX0_unitsByRests_67 (by decide) ?_
        have hl := lv_sub (l' := [(0, .ref h0), (1, .int (nI u)), (2, .int (nI q)), (3, .long (lN (sd_rs w (sd_sum w n) u q))), (5, .long (lN ((sd_sum (sd_rs w (sd_sum w n) u) i) + (sd_rs w (sd_sum w n) u i)))), (7, .int (nI (sd_cnt (sd_ab (sd_rs w (sd_sum w n) u) q) i + 1))), (8, .int (nI (i + 1)))]) hl [4, 5, 6, 7, 2, 1, 0] rfl
        rw [← e0, ← e1] at hl
        exact ih (by omega) ls hl
      · have hle := h
        refine lv_lload hx hb dX0_unitsByRests_48 (lv_at hl 1 rfl) ?_
        refine lv_lload_n hx hb dX0_unitsByRests_50 rfl (lv_at hl 5 rfl) ?_
        refine sd_lc_ne (a := sd_rs w (sd_sum w n) u i) (b := sd_rs w (sd_sum w n) u q) (tgt := 64) hx hb dX0_unitsByRests_51 dX0_unitsByRests_52 (by decide) (by omega) (by omega) (fun h => ?_) (fun h => ?_)
        · have e1 : (sd_cnt (sd_ab (sd_rs w (sd_sum w n) u) q) (i + 1)) = (sd_cnt (sd_ab (sd_rs w (sd_sum w n) u) q) i) := by rw [sd_cnt_s, (show sd_ab (sd_rs w (sd_sum w n) u) q i = false by simp [sd_ab]; omega)]; rfl
          refine lv_iinc (k := 7) (v := nI (i + 1)) hx hb dX0_unitsByRests_64 hl rfl (nI_add _ 1) (by decide) rfl (fun ls hl => ?_)
          have hl : lv_has ls 11 [(8, .int (nI (i + 1))), (5, .long (lN ((sd_sum (sd_rs w (sd_sum w n) u) i) + (sd_rs w (sd_sum w n) u i)))), (9, .long (lN (sd_rs w (sd_sum w n) u i))), (0, .ref h0), (1, .int (nI u)), (2, .int (nI q)), (3, .long (lN (sd_rs w (sd_sum w n) u q))), (7, .int (nI (sd_cnt (sd_ab (sd_rs w (sd_sum w n) u) q) i)))] := hl
          refine lv_goto (tgt := 16) hx hb dX0_unitsByRests_67 (by decide) ?_
          have hl := lv_sub (l' := [(0, .ref h0), (1, .int (nI u)), (2, .int (nI q)), (3, .long (lN (sd_rs w (sd_sum w n) u q))), (5, .long (lN ((sd_sum (sd_rs w (sd_sum w n) u) i) + (sd_rs w (sd_sum w n) u i)))), (7, .int (nI (sd_cnt (sd_ab (sd_rs w (sd_sum w n) u) q) i))), (8, .int (nI (i + 1)))]) hl [3, 4, 5, 6, 1, 7, 0] rfl
          rw [← e0, ← e1] at hl
          exact ih (by omega) ls hl
        · have heq := h
          refine lv_iload hx hb dX0_unitsByRests_55 (lv_at hl 7 rfl) ?_
          refine lv_iload_n hx hb dX0_unitsByRests_57 rfl (lv_at hl 4 rfl) ?_
          refine sd_ic_ge (a := i) (b := q) (tgt := 64) hx hb dX0_unitsByRests_58 (by decide) (by omega) (by omega) (fun h => ?_) (fun h => ?_)
          · have e1 : (sd_cnt (sd_ab (sd_rs w (sd_sum w n) u) q) (i + 1)) = (sd_cnt (sd_ab (sd_rs w (sd_sum w n) u) q) i) := by rw [sd_cnt_s, (show sd_ab (sd_rs w (sd_sum w n) u) q i = false by simp [sd_ab]; omega)]; rfl
            refine lv_iinc (k := 7) (v := nI (i + 1)) hx hb dX0_unitsByRests_64 hl rfl (nI_add _ 1) (by decide) rfl (fun ls hl => ?_)
            have hl : lv_has ls 11 [(8, .int (nI (i + 1))), (5, .long (lN ((sd_sum (sd_rs w (sd_sum w n) u) i) + (sd_rs w (sd_sum w n) u i)))), (9, .long (lN (sd_rs w (sd_sum w n) u i))), (0, .ref h0), (1, .int (nI u)), (2, .int (nI q)), (3, .long (lN (sd_rs w (sd_sum w n) u q))), (7, .int (nI (sd_cnt (sd_ab (sd_rs w (sd_sum w n) u) q) i)))] := hl
            refine lv_goto (tgt := 16) hx hb dX0_unitsByRests_67 (by decide) ?_
            have hl := lv_sub (l' := [(0, .ref h0), (1, .int (nI u)), (2, .int (nI q)), (3, .long (lN (sd_rs w (sd_sum w n) u q))), (5, .long (lN ((sd_sum (sd_rs w (sd_sum w n) u) i) + (sd_rs w (sd_sum w n) u i)))), (7, .int (nI (sd_cnt (sd_ab (sd_rs w (sd_sum w n) u) q) i))), (8, .int (nI (i + 1)))]) hl [3, 4, 5, 6, 1, 7, 0] rfl
            rw [← e0, ← e1] at hl
            exact ih (by omega) ls hl
          · have e1 : (sd_cnt (sd_ab (sd_rs w (sd_sum w n) u) q) (i + 1)) = (sd_cnt (sd_ab (sd_rs w (sd_sum w n) u) q) i) + 1 := by rw [sd_cnt_s, (show sd_ab (sd_rs w (sd_sum w n) u) q i = true by simp [sd_ab]; omega)]; rfl
            refine lv_iinc (k := 6) (v := nI (sd_cnt (sd_ab (sd_rs w (sd_sum w n) u) q) i + 1)) hx hb dX0_unitsByRests_61 hl rfl (nI_add _ 1) (by decide) rfl (fun ls hl => ?_)
            have hl : lv_has ls 11 [(7, .int (nI (sd_cnt (sd_ab (sd_rs w (sd_sum w n) u) q) i + 1))), (5, .long (lN ((sd_sum (sd_rs w (sd_sum w n) u) i) + (sd_rs w (sd_sum w n) u i)))), (9, .long (lN (sd_rs w (sd_sum w n) u i))), (0, .ref h0), (1, .int (nI u)), (2, .int (nI q)), (3, .long (lN (sd_rs w (sd_sum w n) u q))), (8, .int (nI i))] := hl
            refine lv_iinc (k := 7) (v := nI (i + 1)) hx hb dX0_unitsByRests_64 hl rfl (nI_add _ 1) (by decide) rfl (fun ls hl => ?_)
            have hl : lv_has ls 11 [(8, .int (nI (i + 1))), (7, .int (nI (sd_cnt (sd_ab (sd_rs w (sd_sum w n) u) q) i + 1))), (5, .long (lN ((sd_sum (sd_rs w (sd_sum w n) u) i) + (sd_rs w (sd_sum w n) u i)))), (9, .long (lN (sd_rs w (sd_sum w n) u i))), (0, .ref h0), (1, .int (nI u)), (2, .int (nI q)), (3, .long (lN (sd_rs w (sd_sum w n) u q)))] := hl
            refine lv_goto (tgt := 16) hx hb dX0_unitsByRests_67 (by decide) ?_
            have hl := lv_sub (l' := [(0, .ref h0), (1, .int (nI u)), (2, .int (nI q)), (3, .long (lN (sd_rs w (sd_sum w n) u q))), (5, .long (lN ((sd_sum (sd_rs w (sd_sum w n) u) i) + (sd_rs w (sd_sum w n) u i)))), (7, .int (nI (sd_cnt (sd_ab (sd_rs w (sd_sum w n) u) q) i + 1))), (8, .int (nI (i + 1)))]) hl [4, 5, 6, 7, 2, 1, 0] rfl
            rw [← e0, ← e1] at hl
            exact ih (by omega) ls hl
set_option maxHeartbeats 4000000 in
set_option maxRecDepth 100000 in
theorem c_unitsByRests (l : Launch) (dC : Nat → ClassId) (dI : Nat → Nat → Nat) (cA : ClassId) (h0 a0 n : Nat) (w : Nat → Nat) (ok : sd_ok n w) (hW : 0 < sd_sum w n) (u q : Nat) (hu : u ≤ 10001) (hq : q < n) : Met l yX0_unitsByRests (sd_ws yX0_unitsByRests cX0_unitsByRests 11 (some .int)) (sd_rm 1 0 0) (sd_Pp (dC, dI) vwCl [(cA, .int)] (sd_O cA h0 a0 n w) [.ref h0, .int (nI u), .int (nI q)]) (vp_Si (fun r => r = nI (sd_u0 w n u q))) 0 0 (fun _ => False) := by
  refine Met.ofW (cc := cX0_unitsByRests) (maxL := 11) (ret := (some .int)) (by decide) rfl ?_
  intro p e s m args below meth c s₁ B hml hv
  obtain ⟨rfl, hP, hK⟩ := hv
  have hx := B.exec
  have hb := B.bytes
  have hr := B.returns
  have hts0 := atoms_spec (ws := (sd_ws yX0_unitsByRests cX0_unitsByRests 11 (some .int))) B.pre
  have hts : ∀ w ∈ sd_WS, w.before _ s = true := fun w h => hts0 w (List.mem_cons_of_mem _ h)
  have hown : s.vm.findClass RX0 = some m.cls := findClass_of_methodNamed B.named
  have hlocks := B.notSynchronized
  have hl := lv_entry ([.ref h0, .int (nI u), .int (nI q)]) (n := 11) (Nat.le_of_ble_eq_true rfl)
  rw [lg_entry_eq]
  generalize (lg_sl ([.ref h0, .int (nI u), .int (nI q)]) ++ List.replicate (11 - (lg_sl ([.ref h0, .int (nI u), .int (nI q)])).length) Slot.unset).toArray = ls at hl ⊢
  have hl : lv_has ls 11 [(0, .ref h0), (1, .int (nI u)), (2, .int (nI q))] := hl
  have hP : va_P (dC, dI) vwCl [(h0, .inr (0, [.ref a0, .int (nI n), .int (nI (sd_sum w n))])), (a0, .inl (cA, 8, .inl (fun i => nI (w i))))] s.heap := hP
  have hwq := ok.2.2.1 q
  have hbm : u * w q ≤ 10001 * 100000 := sd_mw_le hu hwq
  have hWl := sd_W_le ok.2.2.1 ok.2.1
  have hn8 := ok.2.1
  have hsb : (sd_sum (sd_rs w (sd_sum w n) u) n) ≤ n * 800000 := sd_sum_bound (fun j _ => Nat.le_trans (Nat.le_of_lt (Nat.mod_lt _ hW)) hWl)
  have hcb := sd_cnt_lim (sd_ab (sd_rs w (sd_sum w n) u) q) n
  have hd1 := Nat.div_le_self (u * w q) (sd_sum w n)
  have hd2 := Nat.div_le_self (sd_sum (sd_rs w (sd_sum w n) u) n) (sd_sum w n)
  refine lv_aload_n hx hb dX0_unitsByRests_0 rfl (lv_at hl 0 rfl) ?_
  refine lv_iload_n hx hb dX0_unitsByRests_1 rfl (lv_at hl 1 rfl) ?_
  refine lv_iload_n hx hb dX0_unitsByRests_2 rfl (lv_at hl 2 rfl) ?_
  refine sd_calll (va_runV (As := [.int (nI u), .int (nI q)]) (rest := []) ⟨hx, hb, hml, hown, hts0⟩ (c_restOf l dC dI cA h0 a0 n w ok hW u q hu hq) (cwV 2 hts0 (sd_gV k_methodLink_X0_83 k_instanceMethod_X0_restOf k_sel_X0_restOf k_init_ShareDesk k_code_X0_restOf) rfl rfl rfl (by decide +kernel) ⟨Nat.le_of_ble_eq_true rfl, Nat.le_of_ble_eq_true rfl⟩) (sd_preV hK hP (q0 := 0) (ci := 0) rfl rfl) rfl rfl hl.1 rfl (lv_room (Nat.le_of_ble_eq_true rfl)) dX0_unitsByRests_3 ⟨Nat.zero_le _, Nat.zero_le _⟩) ?_
  refine lv_lstore_n hx hb dX0_unitsByRests_6 rfl hl (by decide) rfl (fun ls hl => ?_)
  have hl : lv_has ls 11 [(3, .long (lN (sd_rs w (sd_sum w n) u q))), (0, .ref h0), (1, .int (nI u)), (2, .int (nI q))] := hl
  refine lv_lconst (v := lN 0) hx hb dX0_unitsByRests_7 rfl ?_
  refine lv_lstore hx hb dX0_unitsByRests_8 hl (by decide) rfl (fun ls hl => ?_)
  have hl : lv_has ls 11 [(5, .long (lN 0)), (3, .long (lN (sd_rs w (sd_sum w n) u q))), (0, .ref h0), (1, .int (nI u)), (2, .int (nI q))] := hl
  refine lv_iconst (v := (nI 0)) hx hb dX0_unitsByRests_10 (by decide +kernel) ?_
  refine lv_istore hx hb dX0_unitsByRests_11 hl (by decide) rfl (fun ls hl => ?_)
  have hl : lv_has ls 11 [(7, .int (nI 0)), (5, .long (lN 0)), (3, .long (lN (sd_rs w (sd_sum w n) u q))), (0, .ref h0), (1, .int (nI u)), (2, .int (nI q))] := hl
  refine lv_iconst (v := (nI 0)) hx hb dX0_unitsByRests_13 (by decide +kernel) ?_
  refine lv_istore hx hb dX0_unitsByRests_14 hl (by decide) rfl (fun ls hl => ?_)
  have hl : lv_has ls 11 [(8, .int (nI 0)), (7, .int (nI 0)), (5, .long (lN 0)), (3, .long (lN (sd_rs w (sd_sum w n) u q))), (0, .ref h0), (1, .int (nI u)), (2, .int (nI q))] := hl
  have hl := lv_sub (l' := [(0, .ref h0), (1, .int (nI u)), (2, .int (nI q)), (3, .long (lN (sd_rs w (sd_sum w n) u q))), (5, .long (lN 0)), (7, .int (nI 0)), (8, .int (nI 0))]) hl [4, 5, 6, 3, 2, 1, 0] rfl
  refine lp_ubr hx hb hml hts0 hown hK hP ok hW u q hu hq ⟨Nat.le_of_ble_eq_true rfl, Nat.le_of_ble_eq_true rfl⟩ ⟨Nat.zero_le _, Nat.zero_le _⟩ (fun ls hl => ?_) n 0 (by omega) ls hl
  refine lv_iload_n hx hb dX0_unitsByRests_70 rfl (lv_at hl 1 rfl) ?_
  refine lv_i2l (v := lN u) hx hb dX0_unitsByRests_71 (nI_l (by omega)) ?_
  refine lv_aload_n hx hb dX0_unitsByRests_72 rfl (lv_at hl 0 rfl) ?_
  refine va_get (D := (dC, dI)) (ci := 0) (v := .ref a0) (C := RX0) (T := TX0) (N := 3) hx hb hts u_in_X0 hown hK hP 0 rfl rfl 0 (by decide) (hts (.fieldLink RX0 9 "ShareDesk" "weights" "[I") k_fieldLink_X0_9) (fun _ h9 => h9) rfl dX0_unitsByRests_73 ?_
  refine lv_iload_n hx hb dX0_unitsByRests_76 rfl (lv_at hl 2 rfl) ?_
  refine sd_iald (j := q) (v := nI (w q)) hx hb hK hP 1 0 rfl rfl (by omega) (by decide) rfl dX0_unitsByRests_77 ?_
  refine lv_i2l (v := lN (w q)) hx hb dX0_unitsByRests_78 (nI_l (by omega)) ?_
  refine sd_lmul (v := lN (u * (w q))) hx hb dX0_unitsByRests_79 (lN_mul _ _) ?_
  refine lv_aload_n hx hb dX0_unitsByRests_80 rfl (lv_at hl 0 rfl) ?_
  refine va_get (D := (dC, dI)) (ci := 0) (v := .int (nI (sd_sum w n))) (C := RX0) (T := TX0) (N := 3) hx hb hts u_in_X0 hown hK hP 0 rfl rfl 2 (by decide) (hts (.fieldLink RX0 17 "ShareDesk" "total" "I") k_fieldLink_X0_17) (fun _ h9 => h9) rfl dX0_unitsByRests_81 ?_
  refine lv_i2l (v := lN (sd_sum w n)) hx hb dX0_unitsByRests_84 (nI_l (by omega)) ?_
  refine sd_ldiv (v := lN ((u * (w q)) / (sd_sum w n))) hx hb dX0_unitsByRests_85 (sd_lne0 (by omega) (by omega)) (pk_lDiv (by omega) (by omega) (by omega)) ?_
  refine lv_l2i (v := nI ((u * (w q)) / (sd_sum w n))) hx hb dX0_unitsByRests_86 (lN_i _) ?_
  refine lv_istore hx hb dX0_unitsByRests_87 hl (by decide) rfl (fun ls hl => ?_)
  have hl : lv_has ls 11 [(8, .int (nI ((u * (w q)) / (sd_sum w n)))), (0, .ref h0), (1, .int (nI u)), (2, .int (nI q)), (3, .long (lN (sd_rs w (sd_sum w n) u q))), (5, .long (lN (sd_sum (sd_rs w (sd_sum w n) u) n))), (7, .int (nI (sd_cnt (sd_ab (sd_rs w (sd_sum w n) u) q) n)))] := hl
  refine lv_iload hx hb dX0_unitsByRests_89 (lv_at hl 6 rfl) ?_
  refine lv_i2l (v := lN (sd_cnt (sd_ab (sd_rs w (sd_sum w n) u) q) n)) hx hb dX0_unitsByRests_91 (nI_l (by omega)) ?_
  refine lv_lload hx hb dX0_unitsByRests_92 (lv_at hl 5 rfl) ?_
  refine lv_aload_n hx hb dX0_unitsByRests_94 rfl (lv_at hl 1 rfl) ?_
  refine va_get (D := (dC, dI)) (ci := 0) (v := .int (nI (sd_sum w n))) (C := RX0) (T := TX0) (N := 3) hx hb hts u_in_X0 hown hK hP 0 rfl rfl 2 (by decide) (hts (.fieldLink RX0 17 "ShareDesk" "total" "I") k_fieldLink_X0_17) (fun _ h9 => h9) rfl dX0_unitsByRests_95 ?_
  refine lv_i2l (v := lN (sd_sum w n)) hx hb dX0_unitsByRests_98 (nI_l (by omega)) ?_
  refine sd_ldiv (v := lN ((sd_sum (sd_rs w (sd_sum w n) u) n) / (sd_sum w n))) hx hb dX0_unitsByRests_99 (sd_lne0 (by omega) (by omega)) (pk_lDiv (by omega) (by omega) (by omega)) ?_
  refine sd_lc_ge (a := sd_cnt (sd_ab (sd_rs w (sd_sum w n) u) q) n) (b := (sd_sum (sd_rs w (sd_sum w n) u) n) / (sd_sum w n)) (tgt := 111) hx hb dX0_unitsByRests_100 dX0_unitsByRests_101 (by decide) (by omega) (by omega) (fun h => ?_) (fun h => ?_)
  · refine lv_iload hx hb dX0_unitsByRests_111 (lv_at hl 0 rfl) ?_
    refine sd_topi (y := nI (sd_u0 w n u q)) (by unfold sd_u0; rw [if_neg (Nat.not_lt.mpr h)]; rfl) ?_
    exact W.iret hx hb hr (fun t ht hW => ⟨_, rfl, rfl, ht⟩) (fun q hq => nomatch hq) dX0_unitsByRests_113
  · refine lv_iload hx hb dX0_unitsByRests_104 (lv_at hl 0 rfl) ?_
    refine lv_iconst (v := (nI 1)) hx hb dX0_unitsByRests_106 (by decide +kernel) ?_
    refine sd_iadd (v := nI (((u * (w q)) / (sd_sum w n)) + 1)) hx hb dX0_unitsByRests_107 (nI_add _ _) ?_
    refine lv_goto (tgt := 113) hx hb dX0_unitsByRests_108 (by decide) ?_
    refine sd_topi (y := nI (sd_u0 w n u q)) (by unfold sd_u0; rw [if_pos h]) ?_
    exact W.iret hx hb hr (fun t ht hW => ⟨_, rfl, rfl, ht⟩) (fun q hq => nomatch hq) dX0_unitsByRests_113
set_option maxHeartbeats 4000000 in
set_option maxRecDepth 100000 in
theorem c_unitsOf (l : Launch) (dC : Nat → ClassId) (dI : Nat → Nat → Nat) (cA : ClassId) (h0 a0 n : Nat) (w : Nat → Nat) (ok : sd_ok n w) (hW : 0 < sd_sum w n) (y u q : Nat) (hy : y ≤ 2) (hu : u ≤ 10000) (hq : q < n) : Met l yX0_unitsOf (sd_ws yX0_unitsOf cX0_unitsOf 4 (some .int)) (sd_rm 4 0 0) (sd_Pp (dC, dI) vwCl [(cA, .int)] (sd_O cA h0 a0 n w) [.ref h0, .int (nI y), .int (nI u), .int (nI q)]) (vp_Si (fun r => r = nI (sd_U y w n u q))) 0 0 (fun _ => False) := by
  refine Met.ofW (cc := cX0_unitsOf) (maxL := 4) (ret := (some .int)) (by decide) rfl ?_
  intro p e s m args below meth c s₁ B hml hv
  obtain ⟨rfl, hP, hK⟩ := hv
  have hx := B.exec
  have hb := B.bytes
  have hr := B.returns
  have hts0 := atoms_spec (ws := (sd_ws yX0_unitsOf cX0_unitsOf 4 (some .int))) B.pre
  have hts : ∀ w ∈ sd_WS, w.before _ s = true := fun w h => hts0 w (List.mem_cons_of_mem _ h)
  have hown : s.vm.findClass RX0 = some m.cls := findClass_of_methodNamed B.named
  have hlocks := B.notSynchronized
  have hl := lv_entry ([.ref h0, .int (nI y), .int (nI u), .int (nI q)]) (n := 4) (Nat.le_of_ble_eq_true rfl)
  rw [lg_entry_eq]
  generalize (lg_sl ([.ref h0, .int (nI y), .int (nI u), .int (nI q)]) ++ List.replicate (4 - (lg_sl ([.ref h0, .int (nI y), .int (nI u), .int (nI q)])).length) Slot.unset).toArray = ls at hl ⊢
  have hl : lv_has ls 4 [(0, .ref h0), (1, .int (nI y)), (2, .int (nI u)), (3, .int (nI q))] := hl
  have hP : va_P (dC, dI) vwCl [(h0, .inr (0, [.ref a0, .int (nI n), .int (nI (sd_sum w n))])), (a0, .inl (cA, 8, .inl (fun i => nI (w i))))] s.heap := hP
  refine lv_iload_n hx hb dX0_unitsOf_0 rfl (lv_at hl 1 rfl) ?_
  refine sd_iz_ne (a := y) (tgt := 13) hx hb dX0_unitsOf_1 (by decide) (by omega) (fun h => ?_) (fun h => ?_)
  · refine lv_aload_n hx hb dX0_unitsOf_13 rfl (lv_at hl 0 rfl) ?_
    refine lv_iload_n hx hb dX0_unitsOf_14 rfl (lv_at hl 1 rfl) ?_
    refine lv_iload_n hx hb dX0_unitsOf_15 rfl (lv_at hl 2 rfl) ?_
    refine lv_iload_n hx hb dX0_unitsOf_16 rfl (lv_at hl 3 rfl) ?_
    refine sd_calli (va_runV (As := [.int (nI y), .int (nI u), .int (nI q)]) (rest := []) ⟨hx, hb, hml, hown, hts0⟩ (c_unitsByTurns l dC dI cA h0 a0 n w ok hW y u q (by omega) hu hq) (cwV 3 hts0 (sd_gV k_methodLink_X0_80 k_instanceMethod_X0_unitsByTurns k_sel_X0_unitsByTurns k_init_ShareDesk k_code_X0_unitsByTurns) rfl rfl rfl (by decide +kernel) ⟨Nat.le_of_ble_eq_true rfl, Nat.le_of_ble_eq_true rfl⟩) (sd_preV hK hP (q0 := 0) (ci := 0) rfl rfl) rfl rfl hl.1 rfl (lv_room (Nat.le_of_ble_eq_true rfl)) dX0_unitsOf_17 ⟨Nat.zero_le _, Nat.zero_le _⟩) ?_
    refine sd_topi (y := nI (sd_U y w n u q)) (by unfold sd_U; rw [if_neg (by omega)]) ?_
    exact W.iret hx hb hr (fun t ht hW => ⟨_, rfl, rfl, ht⟩) (fun q hq => nomatch hq) dX0_unitsOf_20
  · refine lv_aload_n hx hb dX0_unitsOf_4 rfl (lv_at hl 0 rfl) ?_
    refine lv_iload_n hx hb dX0_unitsOf_5 rfl (lv_at hl 2 rfl) ?_
    refine lv_iload_n hx hb dX0_unitsOf_6 rfl (lv_at hl 3 rfl) ?_
    refine sd_calli (va_runV (As := [.int (nI u), .int (nI q)]) (rest := []) ⟨hx, hb, hml, hown, hts0⟩ (c_unitsByRests l dC dI cA h0 a0 n w ok hW u q (by omega) hq) (cwV 2 hts0 (sd_gV k_methodLink_X0_77 k_instanceMethod_X0_unitsByRests k_sel_X0_unitsByRests k_init_ShareDesk k_code_X0_unitsByRests) rfl rfl rfl (by decide +kernel) ⟨Nat.le_of_ble_eq_true rfl, Nat.le_of_ble_eq_true rfl⟩) (sd_preV hK hP (q0 := 0) (ci := 0) rfl rfl) rfl rfl hl.1 rfl (lv_room (Nat.le_of_ble_eq_true rfl)) dX0_unitsOf_7 ⟨Nat.zero_le _, Nat.zero_le _⟩) ?_
    refine lv_goto (tgt := 20) hx hb dX0_unitsOf_10 (by decide) ?_
    refine sd_topi (y := nI (sd_U y w n u q)) (by unfold sd_U; rw [if_pos h]) ?_
    exact W.iret hx hb hr (fun t ht hW => ⟨_, rfl, rfl, ht⟩) (fun q hq => nomatch hq) dX0_unitsOf_20
set_option maxHeartbeats 4000000 in
set_option maxRecDepth 100000 in
theorem lp_lbr {p : Program} {l : Launch} {e : Env} {R : Room} {s : State} {m : MethodId} {args : Array Value} {below : List Frame} {meth : Method} {c : Code} {H : Heap} {locs : List Loc} {cells slots : Nat} {Q : State → Prop} (hx : p.tables.exec = Jvm.exec) (hb : c.code = cX0_leastByRests) (hml : c.maxLocals = 7) (hts0 : ∀ w ∈ (sd_ws yX0_leastByRests cX0_leastByRests 7 (some .int)), w.before args s = true) (hown : s.vm.findClass RX0 = some m.cls) {dC : Nat → ClassId} {dI : Nat → Nat → Nat} {cA : ClassId} {h0 a0 n : Nat} {w : Nat → Nat} (hK : va_K (dC, dI) vwCl [(cA, .int)] s) (hP : va_P (dC, dI) vwCl (sd_O cA h0 a0 n w) H) (ok : sd_ok n w) (hW : 0 < sd_sum w n) (k q : Nat) (hk2 : k ≤ 10000) (hq : q < n) (hR : (sd_rm 1 0 0).frames + 1 ≤ R.frames ∧ 8 + (11 + 11) + (sd_rm 1 0 0).locals ≤ R.locals) (hf : cells + 0 ≤ R.cells ∧ slots + 0 ≤ R.slots)
    (kk1 : sd_lst (fun j => decide (k ≤ sd_u0 w n j q)) 10001 = none → ∀ ls : Array Slot, W p l e R s m args below meth c H locs cells slots Q (F0 m 57 ls [.int (-1)]))
    (kk2 : ∀ i : Nat, i ≤ 10000 → sd_lst (fun j => decide (k ≤ sd_u0 w n j q)) 10001 = some i → ∀ ls : Array Slot, W p l e R s m args below meth c H locs cells slots Q (F0 m 46 ls [.int (nI i)]))
    : ∀ (f i : Nat), i + f = 10001 → (∀ j, j < i → sd_u0 w n j q < k) → ∀ ls : Array Slot, lv_has ls 7 [(0, .ref h0), (1, .int (nI k)), (2, .int (nI q)), (5, .long (lN i))] → W p l e R s m args below meth c H locs cells slots Q (F0 m 22 ls []) := by
  have hts : ∀ w ∈ sd_WS, w.before args s = true := fun w h => hts0 w (List.mem_cons_of_mem _ h)
  have hP : va_P (dC, dI) vwCl [(h0, .inr (0, [.ref a0, .int (nI n), .int (nI (sd_sum w n))])), (a0, .inl (cA, 8, .inl (fun i => nI (w i))))] H := hP
  have hn8 := ok.2.1
  intro f
  induction f using Nat.strongRecOn with
  | ind f ih0 =>
    intro i hi hv ls hl
    have ih : i < 10001 → (∀ j, j < i + 1 → sd_u0 w n j q < k) → ∀ ls : Array Slot, lv_has ls 7 [(0, .ref h0), (1, .int (nI k)), (2, .int (nI q)), (5, .long (lN (i + 1)))] → W p l e R s m args below meth c H locs cells slots Q (F0 m 22 ls []) := fun hlt => ih0 (f - 1) (by omega) (i + 1) (by omega)
    refine lv_lload hx hb dX0_leastByRests_22 (lv_at hl 3 rfl) ?_
    refine lv_ldc2 (v := 10000) hx hb hown (hts (.constantLong RX0 58 10000) k_constantLong_X0_58) dX0_leastByRests_24 ?_
    refine sd_topl (y := lN 10000) (by decide +kernel) ?_
    refine sd_lc_gt (a := i) (b := 10000) (tgt := 56) hx hb dX0_leastByRests_27 dX0_leastByRests_28 (by decide) (by omega) (by omega) (fun h => ?_) (fun h => ?_)
    · refine lv_iconst (v := (-1)) hx hb dX0_leastByRests_56 (by decide +kernel) ?_
      exact kk1 (sd_lst_none (fun j hj => decide_eq_false (by have := hv j (by omega); omega))) ls
    · have hu0 := sd_u0_le (w := w) (n := n) (m := i) hW hq
      refine lv_aload_n hx hb dX0_leastByRests_31 rfl (lv_at hl 0 rfl) ?_
      refine lv_lload hx hb dX0_leastByRests_32 (lv_at hl 3 rfl) ?_
      refine lv_l2i (v := nI i) hx hb dX0_leastByRests_34 (lN_i _) ?_
      refine lv_iload_n hx hb dX0_leastByRests_35 rfl (lv_at hl 2 rfl) ?_
      refine sd_calli (va_runV (As := [.int (nI i), .int (nI q)]) (rest := []) ⟨hx, hb, hml, hown, hts0⟩ (c_unitsByRests l dC dI cA h0 a0 n w ok hW i q (by omega) hq) (cwV 2 hts0 (sd_gV k_methodLink_X0_77 k_instanceMethod_X0_unitsByRests k_sel_X0_unitsByRests k_init_ShareDesk k_code_X0_unitsByRests) rfl rfl rfl (by decide +kernel) ⟨hR.1, hR.2⟩) (sd_preV hK hP (q0 := 0) (ci := 0) rfl rfl) rfl rfl hl.1 rfl (lv_room (Nat.le_of_ble_eq_true rfl)) dX0_leastByRests_36 hf) ?_
      refine lv_iload_n hx hb dX0_leastByRests_39 rfl (lv_at hl 1 rfl) ?_
      refine sd_ic_lt (a := sd_u0 w n i q) (b := k) (tgt := 47) hx hb dX0_leastByRests_40 (by decide) (by omega) (by omega) (fun h => ?_) (fun h => ?_)
      · refine lv_lload hx hb dX0_leastByRests_47 (lv_at hl 3 rfl) ?_
        refine lv_lconst (v := lN 1) hx hb dX0_leastByRests_49 rfl ?_
        refine sd_ladd (v := lN (i + 1)) hx hb dX0_leastByRests_50 (lN_add _ _) ?_
        refine lv_lstore hx hb dX0_leastByRests_51 hl (by decide) rfl (fun ls hl => ?_)
        have hl : lv_has ls 7 [(5, .long (lN (i + 1))), (0, .ref h0), (1, .int (nI k)), (2, .int (nI q))] := hl
        refine lv_goto (tgt := 22) hx hb dX0_leastByRests_53 (by decide) ?_
        have hl := lv_sub (l' := [(0, .ref h0), (1, .int (nI k)), (2, .int (nI q)), (5, .long (lN (i + 1)))]) hl [1, 2, 3, 0] rfl
        exact ih (by omega) (fun j hj => by
          by_cases z : j = i
          · rw [z]; exact h
          · exact hv j (by omega)) ls hl
      · refine lv_lload hx hb dX0_leastByRests_43 (lv_at hl 3 rfl) ?_
        refine lv_l2i (v := nI i) hx hb dX0_leastByRests_45 (lN_i _) ?_
        exact kk2 i (by omega) (sd_lst_at (Q := (fun j => decide (k ≤ sd_u0 w n j q))) (m := i) (fun j hj => decide_eq_false (by have := hv j hj; omega)) (decide_eq_true h) (by omega)) ls
set_option maxHeartbeats 4000000 in
set_option maxRecDepth 100000 in
theorem c_leastByRests (l : Launch) (dC : Nat → ClassId) (dI : Nat → Nat → Nat) (cA : ClassId) (h0 a0 n : Nat) (w : Nat → Nat) (ok : sd_ok n w) (hW : 0 < sd_sum w n) (k q : Nat) (hk : 1 ≤ k) (hk2 : k ≤ 10000) (hq : q < n) (hpos : 0 < w q) : Met l yX0_leastByRests (sd_ws yX0_leastByRests cX0_leastByRests 7 (some .int)) (sd_rm 2 0 0) (sd_Pp (dC, dI) vwCl [(cA, .int)] (sd_O cA h0 a0 n w) [.ref h0, .int (nI k), .int (nI q)]) (vp_Si (fun r => r = sd_oi (sd_lst (fun j => decide (k ≤ sd_u0 w n j q)) 10001))) 0 0 (fun _ => False) := by
  refine Met.ofW (cc := cX0_leastByRests) (maxL := 7) (ret := (some .int)) (by decide) rfl ?_
  intro p e s m args below meth c s₁ B hml hv
  obtain ⟨rfl, hP, hK⟩ := hv
  have hx := B.exec
  have hb := B.bytes
  have hr := B.returns
  have hts0 := atoms_spec (ws := (sd_ws yX0_leastByRests cX0_leastByRests 7 (some .int))) B.pre
  have hts : ∀ w ∈ sd_WS, w.before _ s = true := fun w h => hts0 w (List.mem_cons_of_mem _ h)
  have hown : s.vm.findClass RX0 = some m.cls := findClass_of_methodNamed B.named
  have hlocks := B.notSynchronized
  have hl := lv_entry ([.ref h0, .int (nI k), .int (nI q)]) (n := 7) (Nat.le_of_ble_eq_true rfl)
  rw [lg_entry_eq]
  generalize (lg_sl ([.ref h0, .int (nI k), .int (nI q)]) ++ List.replicate (7 - (lg_sl ([.ref h0, .int (nI k), .int (nI q)])).length) Slot.unset).toArray = ls at hl ⊢
  have hl : lv_has ls 7 [(0, .ref h0), (1, .int (nI k)), (2, .int (nI q))] := hl
  have hP : va_P (dC, dI) vwCl [(h0, .inr (0, [.ref a0, .int (nI n), .int (nI (sd_sum w n))])), (a0, .inl (cA, 8, .inl (fun i => nI (w i))))] s.heap := hP
  have hwq := ok.2.2.1 q
  have hWl := sd_W_le ok.2.2.1 ok.2.1
  have hn8 := ok.2.1
  have hbm : (k - 1) * sd_sum w n ≤ 10000 * 800000 := sd_mw_le (by omega) hWl
  have hdl := Nat.div_le_self ((k - 1) * sd_sum w n) (w q)
  refine lv_iload_n hx hb dX0_leastByRests_0 rfl (lv_at hl 1 rfl) ?_
  refine lv_iconst (v := (nI 1)) hx hb dX0_leastByRests_1 (by decide +kernel) ?_
  refine sd_isub (v := nI (k - 1)) hx hb dX0_leastByRests_2 (pk_sub (by omega)) ?_
  refine lv_i2l (v := lN (k - 1)) hx hb dX0_leastByRests_3 (nI_l (by omega)) ?_
  refine lv_aload_n hx hb dX0_leastByRests_4 rfl (lv_at hl 0 rfl) ?_
  refine va_get (D := (dC, dI)) (ci := 0) (v := .int (nI (sd_sum w n))) (C := RX0) (T := TX0) (N := 3) hx hb hts u_in_X0 hown hK hP 0 rfl rfl 2 (by decide) (hts (.fieldLink RX0 17 "ShareDesk" "total" "I") k_fieldLink_X0_17) (fun _ h9 => h9) rfl dX0_leastByRests_5 ?_
  refine lv_i2l (v := lN (sd_sum w n)) hx hb dX0_leastByRests_8 (nI_l (by omega)) ?_
  refine sd_lmul (v := lN ((k - 1) * (sd_sum w n))) hx hb dX0_leastByRests_9 (lN_mul _ _) ?_
  refine lv_aload_n hx hb dX0_leastByRests_10 rfl (lv_at hl 0 rfl) ?_
  refine va_get (D := (dC, dI)) (ci := 0) (v := .ref a0) (C := RX0) (T := TX0) (N := 3) hx hb hts u_in_X0 hown hK hP 0 rfl rfl 0 (by decide) (hts (.fieldLink RX0 9 "ShareDesk" "weights" "[I") k_fieldLink_X0_9) (fun _ h9 => h9) rfl dX0_leastByRests_11 ?_
  refine lv_iload_n hx hb dX0_leastByRests_14 rfl (lv_at hl 2 rfl) ?_
  refine sd_iald (j := q) (v := nI (w q)) hx hb hK hP 1 0 rfl rfl (by omega) (by decide) rfl dX0_leastByRests_15 ?_
  refine lv_i2l (v := lN (w q)) hx hb dX0_leastByRests_16 (nI_l (by omega)) ?_
  refine sd_ldiv (v := lN (((k - 1) * (sd_sum w n)) / (w q))) hx hb dX0_leastByRests_17 (sd_lne0 (by omega) (by omega)) (pk_lDiv (by omega) (by omega) (by omega)) ?_
  refine lv_lstore_n hx hb dX0_leastByRests_18 rfl hl (by decide) rfl (fun ls hl => ?_)
  have hl : lv_has ls 7 [(3, .long (lN (((k - 1) * (sd_sum w n)) / (w q)))), (0, .ref h0), (1, .int (nI k)), (2, .int (nI q))] := hl
  refine lv_lload_n hx hb dX0_leastByRests_19 rfl (lv_at hl 0 rfl) ?_
  refine lv_lstore hx hb dX0_leastByRests_20 hl (by decide) rfl (fun ls hl => ?_)
  have hl : lv_has ls 7 [(5, .long (lN (((k - 1) * (sd_sum w n)) / (w q)))), (3, .long (lN (((k - 1) * (sd_sum w n)) / (w q)))), (0, .ref h0), (1, .int (nI k)), (2, .int (nI q))] := hl
  have hear : ∀ j, j < (k - 1) * sd_sum w n / w q → sd_u0 w n j q < k := fun j hj => sd_u0_early hW hpos hk hj
  generalize (k - 1) * sd_sum w n / w q = fs at hl hdl hear
  by_cases hfs : fs ≤ 10001
  · have hl := lv_sub (l' := [(0, .ref h0), (1, .int (nI k)), (2, .int (nI q)), (5, .long (lN (fs)))]) hl [2, 3, 4, 0] rfl
    refine lp_lbr hx hb hml hts0 hown hK hP ok hW k q hk2 hq ⟨Nat.le_of_ble_eq_true rfl, Nat.le_of_ble_eq_true rfl⟩ ⟨Nat.zero_le _, Nat.zero_le _⟩ (fun hz ls => ?_) (fun i hi hz ls => ?_) (10001 - fs) fs (by omega) hear ls hl
    · refine sd_topi (y := sd_oi (sd_lst (fun j => decide (k ≤ sd_u0 w n j q)) 10001)) (by rw [hz]; rfl) ?_
      exact W.iret hx hb hr (fun t ht hW => ⟨_, rfl, rfl, ht⟩) (fun q hq => nomatch hq) dX0_leastByRests_57
    · refine sd_topi (y := sd_oi (sd_lst (fun j => decide (k ≤ sd_u0 w n j q)) 10001)) (by rw [hz]; rfl) ?_
      exact W.iret hx hb hr (fun t ht hW => ⟨_, rfl, rfl, ht⟩) (fun q hq => nomatch hq) dX0_leastByRests_46
  · refine lv_lload hx hb dX0_leastByRests_22 (lv_at hl 0 rfl) ?_
    refine lv_ldc2 (v := 10000) hx hb hown (hts (.constantLong RX0 58 10000) k_constantLong_X0_58) dX0_leastByRests_24 ?_
    refine sd_topl (y := lN 10000) (by decide +kernel) ?_
    refine sd_lc_gt (a := fs) (b := 10000) (tgt := 56) hx hb dX0_leastByRests_27 dX0_leastByRests_28 (by decide) (by omega) (by omega) (fun h => ?_) (fun h => ?_)
    · refine lv_iconst (v := (-1)) hx hb dX0_leastByRests_56 (by decide +kernel) ?_
      refine sd_topi (y := sd_oi (sd_lst (fun j => decide (k ≤ sd_u0 w n j q)) 10001)) (by rw [sd_lst_none (fun j hj => decide_eq_false (by have := hear j (by omega); omega))]; rfl) ?_
      exact W.iret hx hb hr (fun t ht hW => ⟨_, rfl, rfl, ht⟩) (fun q hq => nomatch hq) dX0_leastByRests_57
    · exact absurd h (by omega)
set_option maxHeartbeats 4000000 in
set_option maxRecDepth 100000 in
theorem lp_pww {p : Program} {l : Launch} {e : Env} {R : Room} {s : State} {m : MethodId} {args : Array Value} {below : List Frame} {meth : Method} {c : Code} {H : Heap} {locs : List Loc} {cells slots : Nat} {Q : State → Prop} (hx : p.tables.exec = Jvm.exec) (hb : c.code = cX0_partiesWithWeight) (hml : c.maxLocals = 3) (hts0 : ∀ w ∈ (sd_ws yX0_partiesWithWeight cX0_partiesWithWeight 3 (some .int)), w.before args s = true) (hown : s.vm.findClass RX0 = some m.cls) {dC : Nat → ClassId} {dI : Nat → Nat → Nat} {cA : ClassId} {h0 a0 n : Nat} {w : Nat → Nat} (hK : va_K (dC, dI) vwCl [(cA, .int)] s) (hP : va_P (dC, dI) vwCl (sd_O cA h0 a0 n w) H) (ok : sd_ok n w)
    (kk : ∀ ls : Array Slot, lv_has ls 3 [(0, .ref h0), (1, .int (nI (sd_cnt (fun j => decide (0 < w j)) n))), (2, .int (nI n))] → W p l e R s m args below meth c H locs cells slots Q (F0 m 30 ls []))
    : ∀ (f i : Nat), i + f = n → ∀ ls : Array Slot, lv_has ls 3 [(0, .ref h0), (1, .int (nI (sd_cnt (fun j => decide (0 < w j)) i))), (2, .int (nI i))] → W p l e R s m args below meth c H locs cells slots Q (F0 m 4 ls []) := by
  have hts : ∀ w ∈ sd_WS, w.before args s = true := fun w h => hts0 w (List.mem_cons_of_mem _ h)
  have hP : va_P (dC, dI) vwCl [(h0, .inr (0, [.ref a0, .int (nI n), .int (nI (sd_sum w n))])), (a0, .inl (cA, 8, .inl (fun i => nI (w i))))] H := hP
  have hn8 := ok.2.1
  intro f
  induction f using Nat.strongRecOn with
  | ind f ih0 =>
    intro i hi ls hl
    have ih : i < n → ∀ ls : Array Slot, lv_has ls 3 [(0, .ref h0), (1, .int (nI (sd_cnt (fun j => decide (0 < w j)) (i + 1)))), (2, .int (nI (i + 1)))] → W p l e R s m args below meth c H locs cells slots Q (F0 m 4 ls []) := fun hlt => ih0 (f - 1) (by omega) (i + 1) (by omega)
    have hcb := sd_cnt_lim (fun j => decide (0 < w j)) i
    have hwi := ok.2.2.1 i
    refine lv_iload_n hx hb dX0_partiesWithWeight_4 rfl (lv_at hl 2 rfl) ?_
    refine lv_aload_n hx hb dX0_partiesWithWeight_5 rfl (lv_at hl 0 rfl) ?_
    refine va_get (D := (dC, dI)) (ci := 0) (v := .int (nI n)) (C := RX0) (T := TX0) (N := 3) hx hb hts u_in_X0 hown hK hP 0 rfl rfl 1 (by decide) (hts (.fieldLink RX0 13 "ShareDesk" "parties" "I") k_fieldLink_X0_13) (fun _ h9 => h9) rfl dX0_partiesWithWeight_6 ?_
    refine sd_ic_ge (a := i) (b := n) (tgt := 30) hx hb dX0_partiesWithWeight_9 (by decide) (by omega) (by omega) (fun h => ?_) (fun h => ?_)
    · have hin : i = n := by omega
      subst hin
      exact kk ls hl
    · refine lv_aload_n hx hb dX0_partiesWithWeight_12 rfl (lv_at hl 0 rfl) ?_
      refine va_get (D := (dC, dI)) (ci := 0) (v := .ref a0) (C := RX0) (T := TX0) (N := 3) hx hb hts u_in_X0 hown hK hP 0 rfl rfl 0 (by decide) (hts (.fieldLink RX0 9 "ShareDesk" "weights" "[I") k_fieldLink_X0_9) (fun _ h9 => h9) rfl dX0_partiesWithWeight_13 ?_
      refine lv_iload_n hx hb dX0_partiesWithWeight_16 rfl (lv_at hl 2 rfl) ?_
      refine sd_iald (j := i) (v := nI (w i)) hx hb hK hP 1 0 rfl rfl (by omega) (by decide) rfl dX0_partiesWithWeight_17 ?_
      refine sd_iz_eq (a := w i) (tgt := 24) hx hb dX0_partiesWithWeight_18 (by decide) (by omega) (fun h => ?_) (fun h => ?_)
      · have e1 : sd_cnt (fun j => decide (0 < w j)) (i + 1) = sd_cnt (fun j => decide (0 < w j)) i := by rw [sd_cnt_s, decide_eq_false (by omega)]; rfl
        refine lv_iinc (k := 2) (v := nI (i + 1)) hx hb dX0_partiesWithWeight_24 hl rfl (nI_add _ 1) (by decide) rfl (fun ls hl => ?_)
        have hl : lv_has ls 3 [(2, .int (nI (i + 1))), (0, .ref h0), (1, .int (nI (sd_cnt (fun j => decide (0 < w j)) i)))] := hl
        refine lv_goto (tgt := 4) hx hb dX0_partiesWithWeight_27 (by decide) ?_
        have hl := lv_sub (l' := [(0, .ref h0), (1, .int (nI (sd_cnt (fun j => decide (0 < w j)) i))), (2, .int (nI (i + 1)))]) hl [1, 2, 0] rfl
        rw [← e1] at hl
        exact ih (by omega) ls hl
      · have e1 : sd_cnt (fun j => decide (0 < w j)) (i + 1) = sd_cnt (fun j => decide (0 < w j)) i + 1 := by rw [sd_cnt_s, decide_eq_true h]; rfl
        refine lv_iinc (k := 1) (v := nI (sd_cnt (fun j => decide (0 < w j)) i + 1)) hx hb dX0_partiesWithWeight_21 hl rfl (nI_add _ 1) (by decide) rfl (fun ls hl => ?_)
        have hl : lv_has ls 3 [(1, .int (nI (sd_cnt (fun j => decide (0 < w j)) i + 1))), (0, .ref h0), (2, .int (nI i))] := hl
        refine lv_iinc (k := 2) (v := nI (i + 1)) hx hb dX0_partiesWithWeight_24 hl rfl (nI_add _ 1) (by decide) rfl (fun ls hl => ?_)
        have hl : lv_has ls 3 [(2, .int (nI (i + 1))), (1, .int (nI (sd_cnt (fun j => decide (0 < w j)) i + 1))), (0, .ref h0)] := hl
        refine lv_goto (tgt := 4) hx hb dX0_partiesWithWeight_27 (by decide) ?_
        have hl := lv_sub (l' := [(0, .ref h0), (1, .int (nI (sd_cnt (fun j => decide (0 < w j)) i + 1))), (2, .int (nI (i + 1)))]) hl [2, 1, 0] rfl
        rw [← e1] at hl
        exact ih (by omega) ls hl
set_option maxHeartbeats 4000000 in
set_option maxRecDepth 100000 in
theorem c_partiesWithWeight (l : Launch) (dC : Nat → ClassId) (dI : Nat → Nat → Nat) (cA : ClassId) (h0 a0 n : Nat) (w : Nat → Nat) (ok : sd_ok n w) : Met l yX0_partiesWithWeight (sd_ws yX0_partiesWithWeight cX0_partiesWithWeight 3 (some .int)) (sd_rm 0 0 0) (sd_Pp (dC, dI) vwCl [(cA, .int)] (sd_O cA h0 a0 n w) [.ref h0]) (vp_Si (fun r => r = nI (sd_cnt (fun j => decide (0 < w j)) n))) 0 0 (fun _ => False) := by
  refine Met.ofW (cc := cX0_partiesWithWeight) (maxL := 3) (ret := (some .int)) (by decide) rfl ?_
  intro p e s m args below meth c s₁ B hml hv
  obtain ⟨rfl, hP, hK⟩ := hv
  have hx := B.exec
  have hb := B.bytes
  have hr := B.returns
  have hts0 := atoms_spec (ws := (sd_ws yX0_partiesWithWeight cX0_partiesWithWeight 3 (some .int))) B.pre
  have hts : ∀ w ∈ sd_WS, w.before _ s = true := fun w h => hts0 w (List.mem_cons_of_mem _ h)
  have hown : s.vm.findClass RX0 = some m.cls := findClass_of_methodNamed B.named
  have hlocks := B.notSynchronized
  have hl := lv_entry ([.ref h0]) (n := 3) (Nat.le_of_ble_eq_true rfl)
  rw [lg_entry_eq]
  generalize (lg_sl ([.ref h0]) ++ List.replicate (3 - (lg_sl ([.ref h0])).length) Slot.unset).toArray = ls at hl ⊢
  have hl : lv_has ls 3 [(0, .ref h0)] := hl
  have hP : va_P (dC, dI) vwCl [(h0, .inr (0, [.ref a0, .int (nI n), .int (nI (sd_sum w n))])), (a0, .inl (cA, 8, .inl (fun i => nI (w i))))] s.heap := hP
  refine lv_iconst (v := (nI 0)) hx hb dX0_partiesWithWeight_0 (by decide +kernel) ?_
  refine lv_istore_n hx hb dX0_partiesWithWeight_1 rfl hl (by decide) rfl (fun ls hl => ?_)
  have hl : lv_has ls 3 [(1, .int (nI 0)), (0, .ref h0)] := hl
  refine lv_iconst (v := (nI 0)) hx hb dX0_partiesWithWeight_2 (by decide +kernel) ?_
  refine lv_istore_n hx hb dX0_partiesWithWeight_3 rfl hl (by decide) rfl (fun ls hl => ?_)
  have hl : lv_has ls 3 [(2, .int (nI 0)), (1, .int (nI 0)), (0, .ref h0)] := hl
  have hl := lv_sub (l' := [(0, .ref h0), (1, .int (nI 0)), (2, .int (nI 0))]) hl [2, 1, 0] rfl
  refine lp_pww hx hb hml hts0 hown hK hP ok (fun ls hl => ?_) n 0 (by omega) ls hl
  refine lv_iload_n hx hb dX0_partiesWithWeight_30 rfl (lv_at hl 1 rfl) ?_
  exact W.iret hx hb hr (fun t ht hW => ⟨_, rfl, rfl, ht⟩) (fun q hq => nomatch hq) dX0_partiesWithWeight_31
set_option maxHeartbeats 4000000 in
set_option maxRecDepth 100000 in
theorem c_checkWay (l : Launch) (dC : Nat → ClassId) (dI : Nat → Nat → Nat) (y : Nat) (hy : y ≤ 2) : Met l yX0_checkWay (sd_ws yX0_checkWay cX0_checkWay 1 none) (sd_rm 0 0 0) (sd_Pp (dC, dI) vwCl [] [] [.int (nI y)]) (va_Sv (fun _ => True)) 0 0 (fun _ => False) := by
  refine Met.ofW (cc := cX0_checkWay) (maxL := 1) (ret := none) (by decide) rfl ?_
  intro p e s m args below meth c s₁ B hml hv
  obtain ⟨rfl, hP, hK⟩ := hv
  have hx := B.exec
  have hb := B.bytes
  have hr := B.returns
  have hts0 := atoms_spec (ws := (sd_ws yX0_checkWay cX0_checkWay 1 none)) B.pre
  have hts : ∀ w ∈ sd_WS, w.before _ s = true := fun w h => hts0 w (List.mem_cons_of_mem _ h)
  have hown : s.vm.findClass RX0 = some m.cls := findClass_of_methodNamed B.named
  have hlocks := B.notSynchronized
  have hl := lv_entry ([.int (nI y)]) (n := 1) (Nat.le_of_ble_eq_true rfl)
  rw [lg_entry_eq]
  generalize (lg_sl ([.int (nI y)]) ++ List.replicate (1 - (lg_sl ([.int (nI y)])).length) Slot.unset).toArray = ls at hl ⊢
  have hl : lv_has ls 1 [(0, .int (nI y))] := hl
  refine lv_iload_n hx hb dX0_checkWay_0 rfl (lv_at hl 0 rfl) ?_
  refine sd_iz_lt (a := y) (tgt := 9) hx hb dX0_checkWay_1 (by decide) (by omega) ?_
  refine lv_iload_n hx hb dX0_checkWay_4 rfl (lv_at hl 0 rfl) ?_
  refine lv_iconst (v := (nI 2)) hx hb dX0_checkWay_5 (by decide +kernel) ?_
  refine sd_ic_le (a := y) (b := 2) (tgt := 19) hx hb dX0_checkWay_6 (by decide) (by omega) (by omega) (fun h => ?_) (fun h => ?_)
  · exact W.vret hx hb hr (fun t ht hW => ⟨rfl, trivial, ht⟩) (fun q hq => nomatch hq) dX0_checkWay_19
  · exact absurd h (by omega)
set_option maxHeartbeats 4000000 in
set_option maxRecDepth 100000 in
theorem c_checkUnits (l : Launch) (dC : Nat → ClassId) (dI : Nat → Nat → Nat) (u M : Nat) (hu : u ≤ M) (hM : M ≤ 10000) : Met l yX0_checkUnits (sd_ws yX0_checkUnits cX0_checkUnits 2 none) (sd_rm 0 0 0) (sd_Pp (dC, dI) vwCl [] [] [.int (nI u), .int (nI M)]) (va_Sv (fun _ => True)) 0 0 (fun _ => False) := by
  refine Met.ofW (cc := cX0_checkUnits) (maxL := 2) (ret := none) (by decide) rfl ?_
  intro p e s m args below meth c s₁ B hml hv
  obtain ⟨rfl, hP, hK⟩ := hv
  have hx := B.exec
  have hb := B.bytes
  have hr := B.returns
  have hts0 := atoms_spec (ws := (sd_ws yX0_checkUnits cX0_checkUnits 2 none)) B.pre
  have hts : ∀ w ∈ sd_WS, w.before _ s = true := fun w h => hts0 w (List.mem_cons_of_mem _ h)
  have hown : s.vm.findClass RX0 = some m.cls := findClass_of_methodNamed B.named
  have hlocks := B.notSynchronized
  have hl := lv_entry ([.int (nI u), .int (nI M)]) (n := 2) (Nat.le_of_ble_eq_true rfl)
  rw [lg_entry_eq]
  generalize (lg_sl ([.int (nI u), .int (nI M)]) ++ List.replicate (2 - (lg_sl ([.int (nI u), .int (nI M)])).length) Slot.unset).toArray = ls at hl ⊢
  have hl : lv_has ls 2 [(0, .int (nI u)), (1, .int (nI M))] := hl
  refine lv_iload_n hx hb dX0_checkUnits_0 rfl (lv_at hl 0 rfl) ?_
  refine sd_iz_lt (a := u) (tgt := 9) hx hb dX0_checkUnits_1 (by decide) (by omega) ?_
  refine lv_iload_n hx hb dX0_checkUnits_4 rfl (lv_at hl 0 rfl) ?_
  refine lv_iload_n hx hb dX0_checkUnits_5 rfl (lv_at hl 1 rfl) ?_
  refine sd_ic_le (a := u) (b := M) (tgt := 19) hx hb dX0_checkUnits_6 (by decide) (by omega) (by omega) (fun h => ?_) (fun h => ?_)
  · exact W.vret hx hb hr (fun t ht hW => ⟨rfl, trivial, ht⟩) (fun q hq => nomatch hq) dX0_checkUnits_19
  · exact absurd h (by omega)
set_option maxHeartbeats 4000000 in
set_option maxRecDepth 100000 in
theorem c_checkParty (l : Launch) (dC : Nat → ClassId) (dI : Nat → Nat → Nat) (cA : ClassId) (h0 a0 n : Nat) (w : Nat → Nat) (ok : sd_ok n w) (q : Nat) (hq : q < n) : Met l yX0_checkParty (sd_ws yX0_checkParty cX0_checkParty 2 none) (sd_rm 0 0 0) (sd_Pp (dC, dI) vwCl [(cA, .int)] (sd_O cA h0 a0 n w) [.ref h0, .int (nI q)]) (va_Sv (fun _ => True)) 0 0 (fun _ => False) := by
  refine Met.ofW (cc := cX0_checkParty) (maxL := 2) (ret := none) (by decide) rfl ?_
  intro p e s m args below meth c s₁ B hml hv
  obtain ⟨rfl, hP, hK⟩ := hv
  have hx := B.exec
  have hb := B.bytes
  have hr := B.returns
  have hts0 := atoms_spec (ws := (sd_ws yX0_checkParty cX0_checkParty 2 none)) B.pre
  have hts : ∀ w ∈ sd_WS, w.before _ s = true := fun w h => hts0 w (List.mem_cons_of_mem _ h)
  have hown : s.vm.findClass RX0 = some m.cls := findClass_of_methodNamed B.named
  have hlocks := B.notSynchronized
  have hl := lv_entry ([.ref h0, .int (nI q)]) (n := 2) (Nat.le_of_ble_eq_true rfl)
  rw [lg_entry_eq]
  generalize (lg_sl ([.ref h0, .int (nI q)]) ++ List.replicate (2 - (lg_sl ([.ref h0, .int (nI q)])).length) Slot.unset).toArray = ls at hl ⊢
  have hl : lv_has ls 2 [(0, .ref h0), (1, .int (nI q))] := hl
  have hP : va_P (dC, dI) vwCl [(h0, .inr (0, [.ref a0, .int (nI n), .int (nI (sd_sum w n))])), (a0, .inl (cA, 8, .inl (fun i => nI (w i))))] s.heap := hP
  have hn8 := ok.2.1
  refine lv_iload_n hx hb dX0_checkParty_0 rfl (lv_at hl 1 rfl) ?_
  refine sd_iz_lt (a := q) (tgt := 12) hx hb dX0_checkParty_1 (by decide) (by omega) ?_
  refine lv_iload_n hx hb dX0_checkParty_4 rfl (lv_at hl 1 rfl) ?_
  refine lv_aload_n hx hb dX0_checkParty_5 rfl (lv_at hl 0 rfl) ?_
  refine va_get (D := (dC, dI)) (ci := 0) (v := .int (nI n)) (C := RX0) (T := TX0) (N := 3) hx hb hts u_in_X0 hown hK hP 0 rfl rfl 1 (by decide) (hts (.fieldLink RX0 13 "ShareDesk" "parties" "I") k_fieldLink_X0_13) (fun _ h9 => h9) rfl dX0_checkParty_6 ?_
  refine sd_ic_lt (a := q) (b := n) (tgt := 22) hx hb dX0_checkParty_9 (by decide) (by omega) (by omega) (fun h => ?_) (fun h => ?_)
  · exact W.vret hx hb hr (fun t ht hW => ⟨rfl, trivial, ht⟩) (fun q hq => nomatch hq) dX0_checkParty_22
  · exact absurd h (by omega)
set_option maxHeartbeats 4000000 in
set_option maxRecDepth 100000 in
theorem c_checkTotal (l : Launch) (dC : Nat → ClassId) (dI : Nat → Nat → Nat) (cA : ClassId) (h0 a0 n : Nat) (w : Nat → Nat) (ok : sd_ok n w) (hW : 0 < sd_sum w n) : Met l yX0_checkTotal (sd_ws yX0_checkTotal cX0_checkTotal 1 none) (sd_rm 0 0 0) (sd_Pp (dC, dI) vwCl [(cA, .int)] (sd_O cA h0 a0 n w) [.ref h0]) (va_Sv (fun _ => True)) 0 0 (fun _ => False) := by
  refine Met.ofW (cc := cX0_checkTotal) (maxL := 1) (ret := none) (by decide) rfl ?_
  intro p e s m args below meth c s₁ B hml hv
  obtain ⟨rfl, hP, hK⟩ := hv
  have hx := B.exec
  have hb := B.bytes
  have hr := B.returns
  have hts0 := atoms_spec (ws := (sd_ws yX0_checkTotal cX0_checkTotal 1 none)) B.pre
  have hts : ∀ w ∈ sd_WS, w.before _ s = true := fun w h => hts0 w (List.mem_cons_of_mem _ h)
  have hown : s.vm.findClass RX0 = some m.cls := findClass_of_methodNamed B.named
  have hlocks := B.notSynchronized
  have hl := lv_entry ([.ref h0]) (n := 1) (Nat.le_of_ble_eq_true rfl)
  rw [lg_entry_eq]
  generalize (lg_sl ([.ref h0]) ++ List.replicate (1 - (lg_sl ([.ref h0])).length) Slot.unset).toArray = ls at hl ⊢
  have hl : lv_has ls 1 [(0, .ref h0)] := hl
  have hP : va_P (dC, dI) vwCl [(h0, .inr (0, [.ref a0, .int (nI n), .int (nI (sd_sum w n))])), (a0, .inl (cA, 8, .inl (fun i => nI (w i))))] s.heap := hP
  have hWl := sd_W_le ok.2.2.1 ok.2.1
  refine lv_aload_n hx hb dX0_checkTotal_0 rfl (lv_at hl 0 rfl) ?_
  refine va_get (D := (dC, dI)) (ci := 0) (v := .int (nI (sd_sum w n))) (C := RX0) (T := TX0) (N := 3) hx hb hts u_in_X0 hown hK hP 0 rfl rfl 2 (by decide) (hts (.fieldLink RX0 17 "ShareDesk" "total" "I") k_fieldLink_X0_17) (fun _ h9 => h9) rfl dX0_checkTotal_1 ?_
  refine sd_iz_ne (a := sd_sum w n) (tgt := 17) hx hb dX0_checkTotal_4 (by decide) (by omega) (fun h => ?_) (fun h => ?_)
  · exact W.vret hx hb hr (fun t ht hW => ⟨rfl, trivial, ht⟩) (fun q hq => nomatch hq) dX0_checkTotal_17
  · exact absurd h (by omega)
set_option maxHeartbeats 4000000 in
set_option maxRecDepth 100000 in
theorem c_share (l : Launch) (dC : Nat → ClassId) (dI : Nat → Nat → Nat) (cA : ClassId) (h0 a0 n : Nat) (w : Nat → Nat) (ok : sd_ok n w) (hW : 0 < sd_sum w n) (y u q : Nat) (hy : y ≤ 2) (hu : u ≤ 10000) (hq : q < n) : Met l yX0_share (sd_ws yX0_share cX0_share 4 (some .int)) (sd_rm 5 0 0) (sd_Pp (dC, dI) vwCl [(cA, .int)] (sd_O cA h0 a0 n w) [.ref h0, .int (nI y), .int (nI u), .int (nI q)]) (vp_Si (fun r => r = nI (sd_U y w n u q))) 0 0 (fun _ => False) := by
  refine Met.ofW (cc := cX0_share) (maxL := 4) (ret := (some .int)) (by decide) rfl ?_
  intro p e s m args below meth c s₁ B hml hv
  obtain ⟨rfl, hP, hK⟩ := hv
  have hx := B.exec
  have hb := B.bytes
  have hr := B.returns
  have hts0 := atoms_spec (ws := (sd_ws yX0_share cX0_share 4 (some .int))) B.pre
  have hts : ∀ w ∈ sd_WS, w.before _ s = true := fun w h => hts0 w (List.mem_cons_of_mem _ h)
  have hown : s.vm.findClass RX0 = some m.cls := findClass_of_methodNamed B.named
  have hlocks := B.notSynchronized
  have hl := lv_entry ([.ref h0, .int (nI y), .int (nI u), .int (nI q)]) (n := 4) (Nat.le_of_ble_eq_true rfl)
  rw [lg_entry_eq]
  generalize (lg_sl ([.ref h0, .int (nI y), .int (nI u), .int (nI q)]) ++ List.replicate (4 - (lg_sl ([.ref h0, .int (nI y), .int (nI u), .int (nI q)])).length) Slot.unset).toArray = ls at hl ⊢
  have hl : lv_has ls 4 [(0, .ref h0), (1, .int (nI y)), (2, .int (nI u)), (3, .int (nI q))] := hl
  have hP : va_P (dC, dI) vwCl [(h0, .inr (0, [.ref a0, .int (nI n), .int (nI (sd_sum w n))])), (a0, .inl (cA, 8, .inl (fun i => nI (w i))))] s.heap := hP
  refine lv_iload_n hx hb dX0_share_0 rfl (lv_at hl 1 rfl) ?_
  refine sd_callv (va_runS (As := [.int (nI y)]) (rest := []) ⟨hx, hb, hml, hown, hts0⟩ (c_checkWay l dC dI y hy) (cwS 1 hts0 (sd_gS k_methodLink_X0_34 k_static_X0_checkWay k_init_ShareDesk k_code_X0_checkWay) rfl rfl rfl (by decide +kernel) ⟨Nat.le_of_ble_eq_true rfl, Nat.le_of_ble_eq_true rfl⟩) (sd_preS (sd_K0 hK) (sd_nil _ _ _)) rfl rfl hl.1 rfl (lv_room (Nat.le_of_ble_eq_true rfl)) dX0_share_1 ⟨Nat.zero_le _, Nat.zero_le _⟩) ?_
  refine lv_iload_n hx hb dX0_share_4 rfl (lv_at hl 2 rfl) ?_
  refine lv_sipush (v := nI 10000) hx hb dX0_share_5 (by decide +kernel) ?_
  refine sd_callv (va_runS (As := [.int (nI u), .int (nI 10000)]) (rest := []) ⟨hx, hb, hml, hown, hts0⟩ (c_checkUnits l dC dI u 10000 hu (by omega)) (cwS 2 hts0 (sd_gS k_methodLink_X0_37 k_static_X0_checkUnits k_init_ShareDesk k_code_X0_checkUnits) rfl rfl rfl (by decide +kernel) ⟨Nat.le_of_ble_eq_true rfl, Nat.le_of_ble_eq_true rfl⟩) (sd_preS (sd_K0 hK) (sd_nil _ _ _)) rfl rfl hl.1 rfl (lv_room (Nat.le_of_ble_eq_true rfl)) dX0_share_8 ⟨Nat.zero_le _, Nat.zero_le _⟩) ?_
  refine lv_aload_n hx hb dX0_share_11 rfl (lv_at hl 0 rfl) ?_
  refine lv_iload_n hx hb dX0_share_12 rfl (lv_at hl 3 rfl) ?_
  refine sd_callv (va_runV (As := [.int (nI q)]) (rest := []) ⟨hx, hb, hml, hown, hts0⟩ (c_checkParty l dC dI cA h0 a0 n w ok q hq) (cwV 1 hts0 (sd_gV k_methodLink_X0_27 k_instanceMethod_X0_checkParty k_sel_X0_checkParty k_init_ShareDesk k_code_X0_checkParty) rfl rfl rfl (by decide +kernel) ⟨Nat.le_of_ble_eq_true rfl, Nat.le_of_ble_eq_true rfl⟩) (sd_preV hK hP (q0 := 0) (ci := 0) rfl rfl) rfl rfl hl.1 rfl (lv_room (Nat.le_of_ble_eq_true rfl)) dX0_share_13 ⟨Nat.zero_le _, Nat.zero_le _⟩) ?_
  refine lv_aload_n hx hb dX0_share_16 rfl (lv_at hl 0 rfl) ?_
  refine sd_callv (va_runV (As := []) (rest := []) ⟨hx, hb, hml, hown, hts0⟩ (c_checkTotal l dC dI cA h0 a0 n w ok hW) (cwV 0 hts0 (sd_gV k_methodLink_X0_41 k_instanceMethod_X0_checkTotal k_sel_X0_checkTotal k_init_ShareDesk k_code_X0_checkTotal) rfl rfl rfl (by decide +kernel) ⟨Nat.le_of_ble_eq_true rfl, Nat.le_of_ble_eq_true rfl⟩) (sd_preV hK hP (q0 := 0) (ci := 0) rfl rfl) rfl rfl hl.1 rfl (lv_room (Nat.le_of_ble_eq_true rfl)) dX0_share_17 ⟨Nat.zero_le _, Nat.zero_le _⟩) ?_
  refine lv_aload_n hx hb dX0_share_20 rfl (lv_at hl 0 rfl) ?_
  refine lv_iload_n hx hb dX0_share_21 rfl (lv_at hl 1 rfl) ?_
  refine lv_iload_n hx hb dX0_share_22 rfl (lv_at hl 2 rfl) ?_
  refine lv_iload_n hx hb dX0_share_23 rfl (lv_at hl 3 rfl) ?_
  refine sd_calli (va_runV (As := [.int (nI y), .int (nI u), .int (nI q)]) (rest := []) ⟨hx, hb, hml, hown, hts0⟩ (c_unitsOf l dC dI cA h0 a0 n w ok hW y u q hy hu hq) (cwV 3 hts0 (sd_gV k_methodLink_X0_44 k_instanceMethod_X0_unitsOf k_sel_X0_unitsOf k_init_ShareDesk k_code_X0_unitsOf) rfl rfl rfl (by decide +kernel) ⟨Nat.le_of_ble_eq_true rfl, Nat.le_of_ble_eq_true rfl⟩) (sd_preV hK hP (q0 := 0) (ci := 0) rfl rfl) rfl rfl hl.1 rfl (lv_room (Nat.le_of_ble_eq_true rfl)) dX0_share_24 ⟨Nat.zero_le _, Nat.zero_le _⟩) ?_
  exact W.iret hx hb hr (fun t ht hW => ⟨_, rfl, rfl, ht⟩) (fun q hq => nomatch hq) dX0_share_27
set_option maxHeartbeats 4000000 in
set_option maxRecDepth 100000 in
theorem c_over (l : Launch) (dC : Nat → ClassId) (dI : Nat → Nat → Nat) (cA : ClassId) (h0 a0 n : Nat) (w : Nat → Nat) (ok : sd_ok n w) (hW : 0 < sd_sum w n) (y u q : Nat) (hy : y ≤ 2) (hu : u ≤ 10000) (hq : q < n) : Met l yX0_over (sd_ws yX0_over cX0_over 4 (some .long)) (sd_rm 5 0 0) (sd_Pp (dC, dI) vwCl [(cA, .int)] (sd_O cA h0 a0 n w) [.ref h0, .int (nI y), .int (nI u), .int (nI q)]) (vp_Sl (fun r => r = lN (sd_U y w n u q * sd_sum w n) - lN (u * w q))) 0 0 (fun _ => False) := by
  refine Met.ofW (cc := cX0_over) (maxL := 4) (ret := (some .long)) (by decide) rfl ?_
  intro p e s m args below meth c s₁ B hml hv
  obtain ⟨rfl, hP, hK⟩ := hv
  have hx := B.exec
  have hb := B.bytes
  have hr := B.returns
  have hts0 := atoms_spec (ws := (sd_ws yX0_over cX0_over 4 (some .long))) B.pre
  have hts : ∀ w ∈ sd_WS, w.before _ s = true := fun w h => hts0 w (List.mem_cons_of_mem _ h)
  have hown : s.vm.findClass RX0 = some m.cls := findClass_of_methodNamed B.named
  have hlocks := B.notSynchronized
  have hl := lv_entry ([.ref h0, .int (nI y), .int (nI u), .int (nI q)]) (n := 4) (Nat.le_of_ble_eq_true rfl)
  rw [lg_entry_eq]
  generalize (lg_sl ([.ref h0, .int (nI y), .int (nI u), .int (nI q)]) ++ List.replicate (4 - (lg_sl ([.ref h0, .int (nI y), .int (nI u), .int (nI q)])).length) Slot.unset).toArray = ls at hl ⊢
  have hl : lv_has ls 4 [(0, .ref h0), (1, .int (nI y)), (2, .int (nI u)), (3, .int (nI q))] := hl
  have hP : va_P (dC, dI) vwCl [(h0, .inr (0, [.ref a0, .int (nI n), .int (nI (sd_sum w n))])), (a0, .inl (cA, 8, .inl (fun i => nI (w i))))] s.heap := hP
  have hwq := ok.2.2.1 q
  have hWl := sd_W_le ok.2.2.1 ok.2.1
  have hn8 := ok.2.1
  have hUl := sd_U_le (y := y) (w := w) (m := u) hW hq
  refine lv_iload_n hx hb dX0_over_0 rfl (lv_at hl 1 rfl) ?_
  refine sd_callv (va_runS (As := [.int (nI y)]) (rest := []) ⟨hx, hb, hml, hown, hts0⟩ (c_checkWay l dC dI y hy) (cwS 1 hts0 (sd_gS k_methodLink_X0_34 k_static_X0_checkWay k_init_ShareDesk k_code_X0_checkWay) rfl rfl rfl (by decide +kernel) ⟨Nat.le_of_ble_eq_true rfl, Nat.le_of_ble_eq_true rfl⟩) (sd_preS (sd_K0 hK) (sd_nil _ _ _)) rfl rfl hl.1 rfl (lv_room (Nat.le_of_ble_eq_true rfl)) dX0_over_1 ⟨Nat.zero_le _, Nat.zero_le _⟩) ?_
  refine lv_iload_n hx hb dX0_over_4 rfl (lv_at hl 2 rfl) ?_
  refine lv_sipush (v := nI 10000) hx hb dX0_over_5 (by decide +kernel) ?_
  refine sd_callv (va_runS (As := [.int (nI u), .int (nI 10000)]) (rest := []) ⟨hx, hb, hml, hown, hts0⟩ (c_checkUnits l dC dI u 10000 hu (by omega)) (cwS 2 hts0 (sd_gS k_methodLink_X0_37 k_static_X0_checkUnits k_init_ShareDesk k_code_X0_checkUnits) rfl rfl rfl (by decide +kernel) ⟨Nat.le_of_ble_eq_true rfl, Nat.le_of_ble_eq_true rfl⟩) (sd_preS (sd_K0 hK) (sd_nil _ _ _)) rfl rfl hl.1 rfl (lv_room (Nat.le_of_ble_eq_true rfl)) dX0_over_8 ⟨Nat.zero_le _, Nat.zero_le _⟩) ?_
  refine lv_aload_n hx hb dX0_over_11 rfl (lv_at hl 0 rfl) ?_
  refine lv_iload_n hx hb dX0_over_12 rfl (lv_at hl 3 rfl) ?_
  refine sd_callv (va_runV (As := [.int (nI q)]) (rest := []) ⟨hx, hb, hml, hown, hts0⟩ (c_checkParty l dC dI cA h0 a0 n w ok q hq) (cwV 1 hts0 (sd_gV k_methodLink_X0_27 k_instanceMethod_X0_checkParty k_sel_X0_checkParty k_init_ShareDesk k_code_X0_checkParty) rfl rfl rfl (by decide +kernel) ⟨Nat.le_of_ble_eq_true rfl, Nat.le_of_ble_eq_true rfl⟩) (sd_preV hK hP (q0 := 0) (ci := 0) rfl rfl) rfl rfl hl.1 rfl (lv_room (Nat.le_of_ble_eq_true rfl)) dX0_over_13 ⟨Nat.zero_le _, Nat.zero_le _⟩) ?_
  refine lv_aload_n hx hb dX0_over_16 rfl (lv_at hl 0 rfl) ?_
  refine sd_callv (va_runV (As := []) (rest := []) ⟨hx, hb, hml, hown, hts0⟩ (c_checkTotal l dC dI cA h0 a0 n w ok hW) (cwV 0 hts0 (sd_gV k_methodLink_X0_41 k_instanceMethod_X0_checkTotal k_sel_X0_checkTotal k_init_ShareDesk k_code_X0_checkTotal) rfl rfl rfl (by decide +kernel) ⟨Nat.le_of_ble_eq_true rfl, Nat.le_of_ble_eq_true rfl⟩) (sd_preV hK hP (q0 := 0) (ci := 0) rfl rfl) rfl rfl hl.1 rfl (lv_room (Nat.le_of_ble_eq_true rfl)) dX0_over_17 ⟨Nat.zero_le _, Nat.zero_le _⟩) ?_
  refine lv_aload_n hx hb dX0_over_20 rfl (lv_at hl 0 rfl) ?_
  refine lv_iload_n hx hb dX0_over_21 rfl (lv_at hl 1 rfl) ?_
  refine lv_iload_n hx hb dX0_over_22 rfl (lv_at hl 2 rfl) ?_
  refine lv_iload_n hx hb dX0_over_23 rfl (lv_at hl 3 rfl) ?_
  refine sd_calli (va_runV (As := [.int (nI y), .int (nI u), .int (nI q)]) (rest := []) ⟨hx, hb, hml, hown, hts0⟩ (c_unitsOf l dC dI cA h0 a0 n w ok hW y u q hy hu hq) (cwV 3 hts0 (sd_gV k_methodLink_X0_44 k_instanceMethod_X0_unitsOf k_sel_X0_unitsOf k_init_ShareDesk k_code_X0_unitsOf) rfl rfl rfl (by decide +kernel) ⟨Nat.le_of_ble_eq_true rfl, Nat.le_of_ble_eq_true rfl⟩) (sd_preV hK hP (q0 := 0) (ci := 0) rfl rfl) rfl rfl hl.1 rfl (lv_room (Nat.le_of_ble_eq_true rfl)) dX0_over_24 ⟨Nat.zero_le _, Nat.zero_le _⟩) ?_
  refine lv_i2l (v := lN (sd_U y w n u q)) hx hb dX0_over_27 (nI_l (by omega)) ?_
  refine lv_aload_n hx hb dX0_over_28 rfl (lv_at hl 0 rfl) ?_
  refine va_get (D := (dC, dI)) (ci := 0) (v := .int (nI (sd_sum w n))) (C := RX0) (T := TX0) (N := 3) hx hb hts u_in_X0 hown hK hP 0 rfl rfl 2 (by decide) (hts (.fieldLink RX0 17 "ShareDesk" "total" "I") k_fieldLink_X0_17) (fun _ h9 => h9) rfl dX0_over_29 ?_
  refine lv_i2l (v := lN (sd_sum w n)) hx hb dX0_over_32 (nI_l (by omega)) ?_
  refine sd_lmul (v := lN ((sd_U y w n u q) * (sd_sum w n))) hx hb dX0_over_33 (lN_mul _ _) ?_
  refine lv_iload_n hx hb dX0_over_34 rfl (lv_at hl 2 rfl) ?_
  refine lv_i2l (v := lN u) hx hb dX0_over_35 (nI_l (by omega)) ?_
  refine lv_aload_n hx hb dX0_over_36 rfl (lv_at hl 0 rfl) ?_
  refine va_get (D := (dC, dI)) (ci := 0) (v := .ref a0) (C := RX0) (T := TX0) (N := 3) hx hb hts u_in_X0 hown hK hP 0 rfl rfl 0 (by decide) (hts (.fieldLink RX0 9 "ShareDesk" "weights" "[I") k_fieldLink_X0_9) (fun _ h9 => h9) rfl dX0_over_37 ?_
  refine lv_iload_n hx hb dX0_over_40 rfl (lv_at hl 3 rfl) ?_
  refine sd_iald (j := q) (v := nI (w q)) hx hb hK hP 1 0 rfl rfl (by omega) (by decide) rfl dX0_over_41 ?_
  refine lv_i2l (v := lN (w q)) hx hb dX0_over_42 (nI_l (by omega)) ?_
  refine sd_lmul (v := lN (u * (w q))) hx hb dX0_over_43 (lN_mul _ _) ?_
  refine sd_lsub (v := lN (sd_U y w n u q * sd_sum w n) - lN (u * w q)) hx hb dX0_over_44 rfl ?_
  exact W.lret hx hb hr (fun t ht hW => ⟨_, rfl, rfl, ht⟩) (fun q hq => nomatch hq) dX0_over_45
set_option maxHeartbeats 4000000 in
set_option maxRecDepth 100000 in
theorem lp_next {p : Program} {l : Launch} {e : Env} {R : Room} {s : State} {m : MethodId} {args : Array Value} {below : List Frame} {meth : Method} {c : Code} {H : Heap} {locs : List Loc} {cells slots : Nat} {Q : State → Prop} (hx : p.tables.exec = Jvm.exec) (hb : c.code = cX0_next) (hml : c.maxLocals = 5) (hts0 : ∀ w ∈ (sd_ws yX0_next cX0_next 5 (some .int)), w.before args s = true) (hown : s.vm.findClass RX0 = some m.cls) {dC : Nat → ClassId} {dI : Nat → Nat → Nat} {cA : ClassId} {h0 a0 n : Nat} {w : Nat → Nat} (hK : va_K (dC, dI) vwCl [(cA, .int)] s) (hP : va_P (dC, dI) vwCl (sd_O cA h0 a0 n w) H) (ok : sd_ok n w) (hW : 0 < sd_sum w n) (y u : Nat) (hy : y ≤ 2) (hu : u ≤ 9999) (hR : (sd_rm 4 0 0).frames + 1 ≤ R.frames ∧ 8 + (4 + 11) + (sd_rm 4 0 0).locals ≤ R.locals) (hf : cells + 0 ≤ R.cells ∧ slots + 0 ≤ R.slots)
    (kk1 : sd_na (sd_nc (sd_U y w n u) (sd_U y w n (u + 1)) n) = none → ∀ ls : Array Slot, W p l e R s m args below meth c H locs cells slots Q (F0 m 55 ls [.int (-1)])) (kk2 : ∀ ls : Array Slot, W p l e R s m args below meth c H locs cells slots Q (F0 m 66 ls [.int (sd_oi (sd_na (sd_nc (sd_U y w n u) (sd_U y w n (u + 1)) n)))]))
    : ∀ (f i : Nat) (ch : Option Nat), i + f = n → sd_nc (sd_U y w n u) (sd_U y w n (u + 1)) i = some ch → (∀ k, ch = some k → k < 2 ^ 31) → ∀ ls : Array Slot, lv_has ls 5 [(0, .ref h0), (1, .int (nI y)), (2, .int (nI u)), (3, .int (sd_oi ch)), (4, .int (nI i))] → W p l e R s m args below meth c H locs cells slots Q (F0 m 20 ls []) := by
  have hts : ∀ w ∈ sd_WS, w.before args s = true := fun w h => hts0 w (List.mem_cons_of_mem _ h)
  have hP : va_P (dC, dI) vwCl [(h0, .inr (0, [.ref a0, .int (nI n), .int (nI (sd_sum w n))])), (a0, .inl (cA, 8, .inl (fun i => nI (w i))))] H := hP
  have hn8 := ok.2.1
  intro f
  induction f with
  | zero =>
    intro i ch hi hc hs ls hl
    have hin : i = n := by omega
    refine lv_iload hx hb dX0_next_20 (lv_at hl 4 rfl) ?_
    refine lv_aload_n hx hb dX0_next_22 rfl (lv_at hl 0 rfl) ?_
    refine va_get (D := (dC, dI)) (ci := 0) (v := .int (nI n)) (C := RX0) (T := TX0) (N := 3) hx hb hts u_in_X0 hown hK hP 0 rfl rfl 1 (by decide) (hts (.fieldLink RX0 13 "ShareDesk" "parties" "I") k_fieldLink_X0_13) (fun _ h9 => h9) rfl dX0_next_23 ?_
    refine sd_ic_ge (a := i) (b := n) (tgt := 65) hx hb dX0_next_26 (by decide) (by omega) (by omega) (fun h => ?_) (fun h => ?_)
    · refine lv_iload_n hx hb dX0_next_65 rfl (lv_at hl 3 rfl) ?_
      refine sd_topi (y := sd_oi (sd_na (sd_nc (sd_U y w n u) (sd_U y w n (u + 1)) n))) (by have hc2 := hc; rw [hin] at hc2; rw [hc2]; cases ch <;> rfl) ?_
      exact kk2 ls
    · exact absurd h (by omega)
  | succ f ih =>
    intro i ch hi hc hs ls hl
    have hnx : ∀ j, i < j → sd_nc (sd_U y w n u) (sd_U y w n (u + 1)) i = none ∨ True := fun _ _ => Or.inr trivial
    refine lv_iload hx hb dX0_next_20 (lv_at hl 4 rfl) ?_
    refine lv_aload_n hx hb dX0_next_22 rfl (lv_at hl 0 rfl) ?_
    refine va_get (D := (dC, dI)) (ci := 0) (v := .int (nI n)) (C := RX0) (T := TX0) (N := 3) hx hb hts u_in_X0 hown hK hP 0 rfl rfl 1 (by decide) (hts (.fieldLink RX0 13 "ShareDesk" "parties" "I") k_fieldLink_X0_13) (fun _ h9 => h9) rfl dX0_next_23 ?_
    refine sd_ic_ge (a := i) (b := n) (tgt := 65) hx hb dX0_next_26 (by decide) (by omega) (by omega) (fun h => ?_) (fun h => ?_)
    · exact absurd h (by omega)
    · have hu1 := sd_U_le (y := y) (w := w) (m := u) (p := i) hW (by omega)
      have hu2 := sd_U_le (y := y) (w := w) (m := u + 1) (p := i) hW (by omega)
      refine lv_aload_n hx hb dX0_next_29 rfl (lv_at hl 0 rfl) ?_
      refine lv_iload_n hx hb dX0_next_30 rfl (lv_at hl 1 rfl) ?_
      refine lv_iload_n hx hb dX0_next_31 rfl (lv_at hl 2 rfl) ?_
      refine lv_iconst (v := (nI 1)) hx hb dX0_next_32 (by decide +kernel) ?_
      refine sd_iadd (v := nI (u + 1)) hx hb dX0_next_33 (nI_add _ _) ?_
      refine lv_iload hx hb dX0_next_34 (lv_at hl 4 rfl) ?_
      refine sd_calli (va_runV (As := [.int (nI y), .int (nI (u + 1)), .int (nI i)]) (rest := []) ⟨hx, hb, hml, hown, hts0⟩ (c_unitsOf l dC dI cA h0 a0 n w ok hW y (u + 1) i hy (by omega) (by omega)) (cwV 3 hts0 (sd_gV k_methodLink_X0_44 k_instanceMethod_X0_unitsOf k_sel_X0_unitsOf k_init_ShareDesk k_code_X0_unitsOf) rfl rfl rfl (by decide +kernel) ⟨hR.1, hR.2⟩) (sd_preV hK hP (q0 := 0) (ci := 0) rfl rfl) rfl rfl hl.1 rfl (lv_room (Nat.le_of_ble_eq_true rfl)) dX0_next_36 hf) ?_
      refine lv_aload_n hx hb dX0_next_39 rfl (lv_at hl 0 rfl) ?_
      refine lv_iload_n hx hb dX0_next_40 rfl (lv_at hl 1 rfl) ?_
      refine lv_iload_n hx hb dX0_next_41 rfl (lv_at hl 2 rfl) ?_
      refine lv_iload hx hb dX0_next_42 (lv_at hl 4 rfl) ?_
      refine sd_calli (va_runV (As := [.int (nI y), .int (nI u), .int (nI i)]) (rest := [.int (nI (sd_U y w n (u + 1) i))]) ⟨hx, hb, hml, hown, hts0⟩ (c_unitsOf l dC dI cA h0 a0 n w ok hW y u i hy (by omega) (by omega)) (cwV 3 hts0 (sd_gV k_methodLink_X0_44 k_instanceMethod_X0_unitsOf k_sel_X0_unitsOf k_init_ShareDesk k_code_X0_unitsOf) rfl rfl rfl (by decide +kernel) ⟨hR.1, hR.2⟩) (sd_preV hK hP (q0 := 0) (ci := 0) rfl rfl) rfl rfl hl.1 rfl (lv_room (Nat.le_of_ble_eq_true rfl)) dX0_next_44 hf) ?_
      refine sd_ic_eq (a := sd_U y w n (u + 1) i) (b := sd_U y w n u i) (tgt := 59) hx hb dX0_next_47 (by decide) (by omega) (by omega) (fun h => ?_) (fun h => ?_)
      · have e1 : sd_nc (sd_U y w n u) (sd_U y w n (u + 1)) (i + 1) = some ch := by unfold sd_nc; rw [hc]; simp [h]
        refine lv_iinc (k := 4) (v := nI (i + 1)) hx hb dX0_next_59 hl rfl (nI_add _ 1) (by decide) rfl (fun ls hl => ?_)
        have hl : lv_has ls 5 [(4, .int (nI (i + 1))), (0, .ref h0), (1, .int (nI y)), (2, .int (nI u)), (3, .int (sd_oi ch))] := hl
        refine lv_goto (tgt := 20) hx hb dX0_next_62 (by decide) ?_
        have hl := lv_sub (l' := [(0, .ref h0), (1, .int (nI y)), (2, .int (nI u)), (3, .int (sd_oi ch)), (4, .int (nI (i + 1)))]) hl [1, 2, 3, 4, 0] rfl
        exact ih (i + 1) ch (by omega) e1 hs ls hl
      · have hne := h
        have hne2 : ¬ sd_U y w n u i = sd_U y w n (u + 1) i := fun z => hne z.symm
        refine lv_iload_n hx hb dX0_next_50 rfl (lv_at hl 3 rfl) ?_
        refine lv_if_lt (tgt := 56) hx hb dX0_next_51 (by decide) (fun h => ?_) (fun h => ?_)
        · have hcn : ch = none := (sd_oi_neg hs).mp h
          subst hcn
          have e1 : sd_nc (sd_U y w n u) (sd_U y w n (u + 1)) (i + 1) = some (some i) := by unfold sd_nc; rw [hc]; simp [hne2]
          refine lv_iload hx hb dX0_next_56 (lv_at hl 4 rfl) ?_
          refine lv_istore_n hx hb dX0_next_58 rfl hl (by decide) rfl (fun ls hl => ?_)
          have hl : lv_has ls 5 [(3, .int (nI i)), (0, .ref h0), (1, .int (nI y)), (2, .int (nI u)), (4, .int (nI i))] := hl
          refine lv_iinc (k := 4) (v := nI (i + 1)) hx hb dX0_next_59 hl rfl (nI_add _ 1) (by decide) rfl (fun ls hl => ?_)
          have hl : lv_has ls 5 [(4, .int (nI (i + 1))), (3, .int (nI i)), (0, .ref h0), (1, .int (nI y)), (2, .int (nI u))] := hl
          refine lv_goto (tgt := 20) hx hb dX0_next_62 (by decide) ?_
          have hl := lv_sub (l' := [(0, .ref h0), (1, .int (nI y)), (2, .int (nI u)), (3, .int (nI i)), (4, .int (nI (i + 1)))]) hl [2, 3, 4, 1, 0] rfl
          exact ih (i + 1) (some i) (by omega) e1 (fun k hk => by cases hk; omega) ls hl
        · have hcs : sd_na (sd_nc (sd_U y w n u) (sd_U y w n (u + 1)) n) = none := by
            have e1 : sd_nc (sd_U y w n u) (sd_U y w n (u + 1)) (i + 1) = none := by
              cases ch with
              | none => exact absurd (by decide +kernel) h
              | some c0 => unfold sd_nc; rw [hc]; simp [hne2]
            rw [sd_nc_none e1 n (by omega)]; rfl
          refine lv_iconst (v := (-1)) hx hb dX0_next_54 (by decide +kernel) ?_
          exact kk1 hcs ls
set_option maxHeartbeats 4000000 in
set_option maxRecDepth 100000 in
theorem c_next (l : Launch) (dC : Nat → ClassId) (dI : Nat → Nat → Nat) (cA : ClassId) (h0 a0 n : Nat) (w : Nat → Nat) (ok : sd_ok n w) (hW : 0 < sd_sum w n) (y u : Nat) (hy : y ≤ 2) (hu : u ≤ 9999) : Met l yX0_next (sd_ws yX0_next cX0_next 5 (some .int)) (sd_rm 5 0 0) (sd_Pp (dC, dI) vwCl [(cA, .int)] (sd_O cA h0 a0 n w) [.ref h0, .int (nI y), .int (nI u)]) (vp_Si (fun r => r = sd_oi (sd_na (sd_nc (sd_U y w n u) (sd_U y w n (u + 1)) n)))) 0 0 (fun _ => False) := by
  refine Met.ofW (cc := cX0_next) (maxL := 5) (ret := (some .int)) (by decide) rfl ?_
  intro p e s m args below meth c s₁ B hml hv
  obtain ⟨rfl, hP, hK⟩ := hv
  have hx := B.exec
  have hb := B.bytes
  have hr := B.returns
  have hts0 := atoms_spec (ws := (sd_ws yX0_next cX0_next 5 (some .int))) B.pre
  have hts : ∀ w ∈ sd_WS, w.before _ s = true := fun w h => hts0 w (List.mem_cons_of_mem _ h)
  have hown : s.vm.findClass RX0 = some m.cls := findClass_of_methodNamed B.named
  have hlocks := B.notSynchronized
  have hl := lv_entry ([.ref h0, .int (nI y), .int (nI u)]) (n := 5) (Nat.le_of_ble_eq_true rfl)
  rw [lg_entry_eq]
  generalize (lg_sl ([.ref h0, .int (nI y), .int (nI u)]) ++ List.replicate (5 - (lg_sl ([.ref h0, .int (nI y), .int (nI u)])).length) Slot.unset).toArray = ls at hl ⊢
  have hl : lv_has ls 5 [(0, .ref h0), (1, .int (nI y)), (2, .int (nI u))] := hl
  have hP : va_P (dC, dI) vwCl [(h0, .inr (0, [.ref a0, .int (nI n), .int (nI (sd_sum w n))])), (a0, .inl (cA, 8, .inl (fun i => nI (w i))))] s.heap := hP
  have hn8 := ok.2.1
  refine lv_iload_n hx hb dX0_next_0 rfl (lv_at hl 1 rfl) ?_
  refine sd_callv (va_runS (As := [.int (nI y)]) (rest := []) ⟨hx, hb, hml, hown, hts0⟩ (c_checkWay l dC dI y hy) (cwS 1 hts0 (sd_gS k_methodLink_X0_34 k_static_X0_checkWay k_init_ShareDesk k_code_X0_checkWay) rfl rfl rfl (by decide +kernel) ⟨Nat.le_of_ble_eq_true rfl, Nat.le_of_ble_eq_true rfl⟩) (sd_preS (sd_K0 hK) (sd_nil _ _ _)) rfl rfl hl.1 rfl (lv_room (Nat.le_of_ble_eq_true rfl)) dX0_next_1 ⟨Nat.zero_le _, Nat.zero_le _⟩) ?_
  refine lv_iload_n hx hb dX0_next_4 rfl (lv_at hl 2 rfl) ?_
  refine lv_sipush (v := nI 9999) hx hb dX0_next_5 (by decide +kernel) ?_
  refine sd_callv (va_runS (As := [.int (nI u), .int (nI 9999)]) (rest := []) ⟨hx, hb, hml, hown, hts0⟩ (c_checkUnits l dC dI u 9999 hu (by omega)) (cwS 2 hts0 (sd_gS k_methodLink_X0_37 k_static_X0_checkUnits k_init_ShareDesk k_code_X0_checkUnits) rfl rfl rfl (by decide +kernel) ⟨Nat.le_of_ble_eq_true rfl, Nat.le_of_ble_eq_true rfl⟩) (sd_preS (sd_K0 hK) (sd_nil _ _ _)) rfl rfl hl.1 rfl (lv_room (Nat.le_of_ble_eq_true rfl)) dX0_next_8 ⟨Nat.zero_le _, Nat.zero_le _⟩) ?_
  refine lv_aload_n hx hb dX0_next_11 rfl (lv_at hl 0 rfl) ?_
  refine sd_callv (va_runV (As := []) (rest := []) ⟨hx, hb, hml, hown, hts0⟩ (c_checkTotal l dC dI cA h0 a0 n w ok hW) (cwV 0 hts0 (sd_gV k_methodLink_X0_41 k_instanceMethod_X0_checkTotal k_sel_X0_checkTotal k_init_ShareDesk k_code_X0_checkTotal) rfl rfl rfl (by decide +kernel) ⟨Nat.le_of_ble_eq_true rfl, Nat.le_of_ble_eq_true rfl⟩) (sd_preV hK hP (q0 := 0) (ci := 0) rfl rfl) rfl rfl hl.1 rfl (lv_room (Nat.le_of_ble_eq_true rfl)) dX0_next_12 ⟨Nat.zero_le _, Nat.zero_le _⟩) ?_
  refine lv_iconst (v := (-1)) hx hb dX0_next_15 (by decide +kernel) ?_
  refine lv_istore_n hx hb dX0_next_16 rfl hl (by decide) rfl (fun ls hl => ?_)
  have hl : lv_has ls 5 [(3, .int (-1)), (0, .ref h0), (1, .int (nI y)), (2, .int (nI u))] := hl
  refine lv_iconst (v := (nI 0)) hx hb dX0_next_17 (by decide +kernel) ?_
  refine lv_istore hx hb dX0_next_18 hl (by decide) rfl (fun ls hl => ?_)
  have hl : lv_has ls 5 [(4, .int (nI 0)), (3, .int (-1)), (0, .ref h0), (1, .int (nI y)), (2, .int (nI u))] := hl
  have hl := lv_sub (l' := [(0, .ref h0), (1, .int (nI y)), (2, .int (nI u)), (3, .int (-1)), (4, .int (nI 0))]) hl [2, 3, 4, 1, 0] rfl
  refine lp_next hx hb hml hts0 hown hK hP ok hW y u hy hu ⟨Nat.le_of_ble_eq_true rfl, Nat.le_of_ble_eq_true rfl⟩ ⟨Nat.zero_le _, Nat.zero_le _⟩ (fun hz ls => ?_) (fun ls => ?_) n 0 none (by omega) rfl (fun k hk => nomatch hk) ls hl
  · refine sd_topi (y := sd_oi (sd_na (sd_nc (sd_U y w n u) (sd_U y w n (u + 1)) n))) (by rw [hz]; rfl) ?_
    exact W.iret hx hb hr (fun t ht hW => ⟨_, rfl, rfl, ht⟩) (fun q hq => nomatch hq) dX0_next_55
  · exact W.iret hx hb hr (fun t ht hW => ⟨_, rfl, rfl, ht⟩) (fun q hq => nomatch hq) dX0_next_66
set_option maxHeartbeats 4000000 in
set_option maxRecDepth 100000 in
theorem c_count (l : Launch) (dC : Nat → ClassId) (dI : Nat → Nat → Nat) (cA : ClassId) (h0 a0 n : Nat) (w : Nat → Nat) (ok : sd_ok n w) (k : Nat) (hk : k ≤ 2) : Met l yX0_count (sd_ws yX0_count cX0_count 2 (some .int)) (sd_rm 1 0 0) (sd_Pp (dC, dI) vwCl [(cA, .int)] (sd_O cA h0 a0 n w) [.ref h0, .int (nI k)]) (vp_Si (fun r => r = nI (if k = 0 then n else if k = 1 then sd_sum w n else sd_cnt (fun j => decide (0 < w j)) n))) 0 0 (fun _ => False) := by
  refine Met.ofW (cc := cX0_count) (maxL := 2) (ret := (some .int)) (by decide) rfl ?_
  intro p e s m args below meth c s₁ B hml hv
  obtain ⟨rfl, hP, hK⟩ := hv
  have hx := B.exec
  have hb := B.bytes
  have hr := B.returns
  have hts0 := atoms_spec (ws := (sd_ws yX0_count cX0_count 2 (some .int))) B.pre
  have hts : ∀ w ∈ sd_WS, w.before _ s = true := fun w h => hts0 w (List.mem_cons_of_mem _ h)
  have hown : s.vm.findClass RX0 = some m.cls := findClass_of_methodNamed B.named
  have hlocks := B.notSynchronized
  have hl := lv_entry ([.ref h0, .int (nI k)]) (n := 2) (Nat.le_of_ble_eq_true rfl)
  rw [lg_entry_eq]
  generalize (lg_sl ([.ref h0, .int (nI k)]) ++ List.replicate (2 - (lg_sl ([.ref h0, .int (nI k)])).length) Slot.unset).toArray = ls at hl ⊢
  have hl : lv_has ls 2 [(0, .ref h0), (1, .int (nI k))] := hl
  have hP : va_P (dC, dI) vwCl [(h0, .inr (0, [.ref a0, .int (nI n), .int (nI (sd_sum w n))])), (a0, .inl (cA, 8, .inl (fun i => nI (w i))))] s.heap := hP
  have hn8 := ok.2.1
  have hWl := sd_W_le ok.2.2.1 ok.2.1
  refine lv_iload_n hx hb dX0_count_0 rfl (lv_at hl 1 rfl) ?_
  rcases (show k = 0 ∨ k = 1 ∨ k = 2 by omega) with rfl | rfl | rfl
  · refine lv_tableIn (off := 27) (tgt := 28) hx hb dX0_count_1 (by decide +kernel) (by decide +kernel) rfl (by decide) ?_
    refine lv_aload_n hx hb dX0_count_28 rfl (lv_at hl 0 rfl) ?_
    refine va_get (D := (dC, dI)) (ci := 0) (v := .int (nI n)) (C := RX0) (T := TX0) (N := 3) hx hb hts u_in_X0 hown hK hP 0 rfl rfl 1 (by decide) (hts (.fieldLink RX0 13 "ShareDesk" "parties" "I") k_fieldLink_X0_13) (fun _ h9 => h9) rfl dX0_count_29 ?_
    exact W.iret hx hb hr (fun t ht hW => ⟨_, rfl, rfl, ht⟩) (fun q hq => nomatch hq) dX0_count_32
  · refine lv_tableIn (off := 32) (tgt := 33) hx hb dX0_count_1 (by decide +kernel) (by decide +kernel) rfl (by decide) ?_
    refine lv_aload_n hx hb dX0_count_33 rfl (lv_at hl 0 rfl) ?_
    refine va_get (D := (dC, dI)) (ci := 0) (v := .int (nI (sd_sum w n))) (C := RX0) (T := TX0) (N := 3) hx hb hts u_in_X0 hown hK hP 0 rfl rfl 2 (by decide) (hts (.fieldLink RX0 17 "ShareDesk" "total" "I") k_fieldLink_X0_17) (fun _ h9 => h9) rfl dX0_count_34 ?_
    exact W.iret hx hb hr (fun t ht hW => ⟨_, rfl, rfl, ht⟩) (fun q hq => nomatch hq) dX0_count_37
  · refine lv_tableIn (off := 37) (tgt := 38) hx hb dX0_count_1 (by decide +kernel) (by decide +kernel) rfl (by decide) ?_
    refine lv_aload_n hx hb dX0_count_38 rfl (lv_at hl 0 rfl) ?_
    refine sd_calli (va_runV (As := []) (rest := []) ⟨hx, hb, hml, hown, hts0⟩ (c_partiesWithWeight l dC dI cA h0 a0 n w ok) (cwV 0 hts0 (sd_gV k_methodLink_X0_60 k_instanceMethod_X0_partiesWithWeight k_sel_X0_partiesWithWeight k_init_ShareDesk k_code_X0_partiesWithWeight) rfl rfl rfl (by decide +kernel) ⟨Nat.le_of_ble_eq_true rfl, Nat.le_of_ble_eq_true rfl⟩) (sd_preV hK hP (q0 := 0) (ci := 0) rfl rfl) rfl rfl hl.1 rfl (lv_room (Nat.le_of_ble_eq_true rfl)) dX0_count_39 ⟨Nat.zero_le _, Nat.zero_le _⟩) ?_
    exact W.iret hx hb hr (fun t ht hW => ⟨_, rfl, rfl, ht⟩) (fun q hq => nomatch hq) dX0_count_42
