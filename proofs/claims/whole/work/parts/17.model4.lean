set_option maxHeartbeats 4000000 in
set_option maxRecDepth 100000 in
theorem m_share_bad (l : Launch) (dC : Nat → ClassId) (dI : Nat → Nat → Nat) (cL cZ : ClassId) (h1 a1 a2 a3 a4 er n : Nat) (w : Nat → Nat) (sh ke : Nat → Int64) (go : Nat → Int32) (sz : Nat) (hn1 : 1 ≤ n) (hn8 : n ≤ 8) (x1 x2 x3 : Int32) (hbad : sd_rg x1 0 2 = false ∨ sd_rg x2 0 10000 = false ∨ sd_rg x3 0 (n - 1) = false) : Met l yX1_share (sd_ws yX1_share cX1_share 4 (some .int)) (sd_rm 3 0 0) (sd_Pw (dC, dI) vwCl [(cL, .long), (cZ, .boolean)] (sd_M cL cZ h1 a1 a2 a3 a4 er n w sh ke go) sz [.ref h1, .int x1, .int x2, .int x3]) (va_Qi (fun r (v_ : sd_S) => r = nI 0) (sd_Bw (dC, dI) vwCl [(cL, .long), (cZ, .boolean)] (sd_M cL cZ h1 a1 a2 a3 a4 er n w sh ke go) sz (fun v_ => (sd_M cL cZ h1 a1 a2 a3 a4 1 n w v_.1 v_.2.1 v_.2.2))) (va_A (sd_M cL cZ h1 a1 a2 a3 a4 er n w sh ke go) sz)) 0 0 (va_A (sd_M cL cZ h1 a1 a2 a3 a4 er n w sh ke go) sz) := by
  refine Met.ofW (cc := cX1_share) (maxL := 4) (ret := (some .int)) (by decide) rfl ?_
  intro p e s m args below meth c s₁ B hml hv
  obtain ⟨rfl, hsz, hP, hK, hD0⟩ := hv
  subst hsz
  have hx := B.exec
  have hb := B.bytes
  have hr := B.returns
  have hts0 := atoms_spec (ws := (sd_ws yX1_share cX1_share 4 (some .int))) B.pre
  have hts : ∀ w ∈ sd_WS, w.before _ s = true := fun w h => hts0 w (List.mem_cons_of_mem _ h)
  have hown : s.vm.findClass RX1 = some m.cls := findClass_of_methodNamed B.named
  have hlocks := B.notSynchronized
  have hl := lv_entry ([.ref h1, .int x1, .int x2, .int x3]) (n := 4) (Nat.le_of_ble_eq_true rfl)
  rw [lg_entry_eq]
  generalize (lg_sl ([.ref h1, .int x1, .int x2, .int x3]) ++ List.replicate (4 - (lg_sl ([.ref h1, .int x1, .int x2, .int x3])).length) Slot.unset).toArray = ls at hl ⊢
  have hl : lv_has ls 4 [(0, .ref h1), (1, .int x1), (2, .int x2), (3, .int x3)] := hl
  obtain ⟨A, hAe⟩ : ∃ A, A = va_A (sd_M cL cZ h1 a1 a2 a3 a4 er n w sh ke go) s.heap.size := ⟨_, rfl⟩
  have hD : va_D A (sd_M cL cZ h1 a1 a2 a3 a4 er n w sh ke go) := by rw [hAe]; exact hD0.self
  have hA : ∀ q : Nat, s.heap.size ≤ q → A q := fun q h => by rw [hAe]; exact Or.inr h
  have hS : va_S A s.heap s.heap [] := va_S.rf
  have hP : va_P (dC, dI) vwCl [(h1, .inr (1, [.int (nI er), .int (nI n), .ref a1, .ref a2, .ref a3, .ref a4])), (a1, .inl (cL, 8, .inr (.inl (fun z => lN (w z))))), (a2, .inl (cL, 8, .inr (.inl sh))), (a3, .inl (cL, 8, .inr (.inl ke))), (a4, .inl (cZ, 8, .inl go))] s.heap := hP
  have hD : va_D A [(h1, .inr (1, [.int (nI er), .int (nI n), .ref a1, .ref a2, .ref a3, .ref a4])), (a1, .inl (cL, 8, .inr (.inl (fun z => lN (w z))))), (a2, .inl (cL, 8, .inr (.inl sh))), (a3, .inl (cL, 8, .inr (.inl ke))), (a4, .inl (cZ, 8, .inl go))] := hD
  refine lv_aload_n hx hb dX1_share_0 rfl (lv_at hl 0 rfl) ?_
  refine lv_iconst (v := (nI 0)) hx hb dX1_share_1 (by decide +kernel) ?_
  refine va_put (D := (dC, dI)) (ci := 1) (v := .int (nI 0)) (ty := .int) (C := RX1) (T := TX1) (N := 6) hx hb hts u_in_X1 tyX1 tyX1_ok nmX1 hown hK hP hD hS 0 rfl rfl 0 (by decide) (hts (.fieldLink RX1 27 "ShareDeskModel" "err" "I") k_fieldLink_X1_27) (fun _ h9 => h9) rfl (by decide +kernel) rfl rfl (Nat.le_of_ble_eq_true rfl) dX1_share_2 (fun H locs hP hD hS => ?_)
  have hP : va_P (dC, dI) vwCl [(h1, .inr (1, [.int (nI 0), .int (nI n), .ref a1, .ref a2, .ref a3, .ref a4])), (a1, .inl (cL, 8, .inr (.inl (fun z => lN (w z))))), (a2, .inl (cL, 8, .inr (.inl sh))), (a3, .inl (cL, 8, .inr (.inl ke))), (a4, .inl (cZ, 8, .inl go))] H := hP
  have hD : va_D A [(h1, .inr (1, [.int (nI 0), .int (nI n), .ref a1, .ref a2, .ref a3, .ref a4])), (a1, .inl (cL, 8, .inr (.inl (fun z => lN (w z))))), (a2, .inl (cL, 8, .inr (.inl sh))), (a3, .inl (cL, 8, .inr (.inl ke))), (a4, .inl (cZ, 8, .inl go))] := hD
  refine lv_aload_n hx hb dX1_share_5 rfl (lv_at hl 0 rfl) ?_
  refine lv_iload_n hx hb dX1_share_6 rfl (lv_at hl 1 rfl) ?_
  refine sd_calli (va_runS (As := [.int x1]) (rest := [.ref h1]) ⟨hx, hb, hml, hown, hts0⟩ (m_isWay l dC dI x1) (cwS 1 hts0 (sd_gS k_methodLink_X1_59 k_static_X1_isWay k_init_ShareDeskModel k_code_X1_isWay) rfl rfl rfl (by decide +kernel) ⟨Nat.le_of_ble_eq_true rfl, Nat.le_of_ble_eq_true rfl⟩) (sd_preS (sd_K0 hK) (sd_nil _ _ _)) rfl rfl hl.1 rfl (lv_room (Nat.le_of_ble_eq_true rfl)) dX1_share_7 ⟨Nat.zero_le _, Nat.zero_le _⟩) ?_
  refine sd_bz_eq (tgt := 33) hx hb dX1_share_10 (by decide) (fun hc0 => ?_) (fun hc0 => ?_)
  · have hc0 : sd_rg x1 0 2 = false := hc0
    refine lv_iconst (v := (nI 1)) hx hb dX1_share_33 (by decide +kernel) ?_
    refine lv_goto (tgt := 38) hx hb dX1_share_34 (by decide) ?_
    refine lv_iconst (v := (nI 1)) hx hb dX1_share_38 (by decide +kernel) ?_
    refine sd_wi (va_runV (As := [.int (nI 1), .int (nI 1)]) (rest := []) ⟨hx, hb, hml, hown, hts0⟩ (m_fails1 l dC dI cL cZ h1 a1 a2 a3 a4 0 n w sh ke go H.size rfl 1 (by decide) (by decide)) (cwV 2 hts0 (sd_gV k_methodLink_X1_38 k_instanceMethod_X1_fails k_sel_X1_fails k_init_ShareDeskModel k_code_X1_fails) rfl rfl rfl (by decide +kernel) ⟨Nat.le_of_ble_eq_true rfl, Nat.le_of_ble_eq_true rfl⟩) (sd_preVw hK hP hD (q0 := 0) (ci := 1) rfl rfl) rfl rfl hl.1 rfl (lv_room (Nat.le_of_ble_eq_true rfl)) dX1_share_39 ⟨Nat.zero_le _, Nat.zero_le _⟩) hD hS hA (fun r_ u_ H locs hpo hP hD hS => ?_)
    obtain ⟨sh, ke, go⟩ := u_
    try dsimp only at hpo
    have hP : va_P (dC, dI) vwCl [(h1, .inr (1, [.int (nI 1), .int (nI n), .ref a1, .ref a2, .ref a3, .ref a4])), (a1, .inl (cL, 8, .inr (.inl (fun z => lN (w z))))), (a2, .inl (cL, 8, .inr (.inl sh))), (a3, .inl (cL, 8, .inr (.inl ke))), (a4, .inl (cZ, 8, .inl go))] H := hP
    have hD : va_D A [(h1, .inr (1, [.int (nI 1), .int (nI n), .ref a1, .ref a2, .ref a3, .ref a4])), (a1, .inl (cL, 8, .inr (.inl (fun z => lN (w z))))), (a2, .inl (cL, 8, .inr (.inl sh))), (a3, .inl (cL, 8, .inr (.inl ke))), (a4, .inl (cZ, 8, .inl go))] := hD
    subst hpo
    refine sd_iz_ne (a := 1) (tgt := 67) hx hb dX1_share_42 (by decide) (by omega) (fun h => ?_) (fun h => ?_)
    · refine lv_iconst (v := (nI 0)) hx hb dX1_share_67 (by decide +kernel) ?_
      exact W.iret hx hb hr (fun t ht hW => ⟨⟨_, (sh, ke, go), rfl, rfl, by rw [ht]; exact hP, va_K.moved hW.alike hK, by rw [← hAe]; exact hD⟩, by rw [← hAe]; exact hS.F ht⟩) (fun q hq => by rw [← hAe]; exact hS.2.2 q hq) dX1_share_68
    · exact absurd h (by omega)
  · have hc0 : sd_rg x1 0 2 = true := hc0
    refine lv_iload_n hx hb dX1_share_13 rfl (lv_at hl 2 rfl) ?_
    refine lv_i2l (v := x2.toInt64) hx hb dX1_share_14 rfl ?_
    refine lv_lconst (v := lN 0) hx hb dX1_share_15 rfl ?_
    refine lv_ldc2 (v := 10000) hx hb hown (hts (.constantLong RX1 62 10000) k_constantLong_X1_62) dX1_share_16 ?_
    refine sd_topl (y := lN 10000) (by decide +kernel) ?_
    refine sd_calli (va_runS (As := [.long (x2.toInt64), .long (lN 0), .long (lN 10000)]) (rest := [.ref h1]) ⟨hx, hb, hml, hown, hts0⟩ (m_in l dC dI x2.toInt64 (lN 0) (lN 10000)) (cwS 3 hts0 (sd_gS k_methodLink_X1_30 k_static_X1_in k_init_ShareDeskModel k_code_X1_in) rfl rfl rfl (by decide +kernel) ⟨Nat.le_of_ble_eq_true rfl, Nat.le_of_ble_eq_true rfl⟩) (sd_preS (sd_K0 hK) (sd_nil _ _ _)) rfl rfl hl.1 rfl (lv_room (Nat.le_of_ble_eq_true rfl)) dX1_share_19 ⟨Nat.zero_le _, Nat.zero_le _⟩) ?_
    refine sd_bz_eq (tgt := 33) hx hb dX1_share_22 (by decide) (fun hc1 => ?_) (fun hc1 => ?_)
    · have hc1 : sd_rg x2 0 10000 = false := hc1
      refine lv_iconst (v := (nI 1)) hx hb dX1_share_33 (by decide +kernel) ?_
      refine lv_goto (tgt := 38) hx hb dX1_share_34 (by decide) ?_
      refine lv_iconst (v := (nI 1)) hx hb dX1_share_38 (by decide +kernel) ?_
      refine sd_wi (va_runV (As := [.int (nI 1), .int (nI 1)]) (rest := []) ⟨hx, hb, hml, hown, hts0⟩ (m_fails1 l dC dI cL cZ h1 a1 a2 a3 a4 0 n w sh ke go H.size rfl 1 (by decide) (by decide)) (cwV 2 hts0 (sd_gV k_methodLink_X1_38 k_instanceMethod_X1_fails k_sel_X1_fails k_init_ShareDeskModel k_code_X1_fails) rfl rfl rfl (by decide +kernel) ⟨Nat.le_of_ble_eq_true rfl, Nat.le_of_ble_eq_true rfl⟩) (sd_preVw hK hP hD (q0 := 0) (ci := 1) rfl rfl) rfl rfl hl.1 rfl (lv_room (Nat.le_of_ble_eq_true rfl)) dX1_share_39 ⟨Nat.zero_le _, Nat.zero_le _⟩) hD hS hA (fun r_ u_ H locs hpo hP hD hS => ?_)
      obtain ⟨sh, ke, go⟩ := u_
      try dsimp only at hpo
      have hP : va_P (dC, dI) vwCl [(h1, .inr (1, [.int (nI 1), .int (nI n), .ref a1, .ref a2, .ref a3, .ref a4])), (a1, .inl (cL, 8, .inr (.inl (fun z => lN (w z))))), (a2, .inl (cL, 8, .inr (.inl sh))), (a3, .inl (cL, 8, .inr (.inl ke))), (a4, .inl (cZ, 8, .inl go))] H := hP
      have hD : va_D A [(h1, .inr (1, [.int (nI 1), .int (nI n), .ref a1, .ref a2, .ref a3, .ref a4])), (a1, .inl (cL, 8, .inr (.inl (fun z => lN (w z))))), (a2, .inl (cL, 8, .inr (.inl sh))), (a3, .inl (cL, 8, .inr (.inl ke))), (a4, .inl (cZ, 8, .inl go))] := hD
      subst hpo
      refine sd_iz_ne (a := 1) (tgt := 67) hx hb dX1_share_42 (by decide) (by omega) (fun h => ?_) (fun h => ?_)
      · refine lv_iconst (v := (nI 0)) hx hb dX1_share_67 (by decide +kernel) ?_
        exact W.iret hx hb hr (fun t ht hW => ⟨⟨_, (sh, ke, go), rfl, rfl, by rw [ht]; exact hP, va_K.moved hW.alike hK, by rw [← hAe]; exact hD⟩, by rw [← hAe]; exact hS.F ht⟩) (fun q hq => by rw [← hAe]; exact hS.2.2 q hq) dX1_share_68
      · exact absurd h (by omega)
    · have hc1 : sd_rg x2 0 10000 = true := hc1
      refine lv_aload_n hx hb dX1_share_25 rfl (lv_at hl 0 rfl) ?_
      refine lv_iload_n hx hb dX1_share_26 rfl (lv_at hl 3 rfl) ?_
      refine sd_calli (va_runV (As := [.int x3]) (rest := [.ref h1]) ⟨hx, hb, hml, hown, hts0⟩ (m_isParty l dC dI cL cZ h1 a1 a2 a3 a4 0 n w sh ke go hn1 hn8 x3) (cwV 1 hts0 (sd_gV k_methodLink_X1_42 k_instanceMethod_X1_isParty k_sel_X1_isParty k_init_ShareDeskModel k_code_X1_isParty) rfl rfl rfl (by decide +kernel) ⟨Nat.le_of_ble_eq_true rfl, Nat.le_of_ble_eq_true rfl⟩) (sd_preV hK hP (q0 := 0) (ci := 1) rfl rfl) rfl rfl hl.1 rfl (lv_room (Nat.le_of_ble_eq_true rfl)) dX1_share_27 ⟨Nat.zero_le _, Nat.zero_le _⟩) ?_
      refine sd_bz_ne (tgt := 37) hx hb dX1_share_30 (by decide) (fun hc2 => ?_) (fun hc2 => ?_)
      · have hc2 : sd_rg x3 0 (n - 1) = true := hc2
        exact absurd hbad (by simp [hc0, hc1, hc2])
      · have hc2 : sd_rg x3 0 (n - 1) = false := hc2
        refine lv_iconst (v := (nI 1)) hx hb dX1_share_33 (by decide +kernel) ?_
        refine lv_goto (tgt := 38) hx hb dX1_share_34 (by decide) ?_
        refine lv_iconst (v := (nI 1)) hx hb dX1_share_38 (by decide +kernel) ?_
        refine sd_wi (va_runV (As := [.int (nI 1), .int (nI 1)]) (rest := []) ⟨hx, hb, hml, hown, hts0⟩ (m_fails1 l dC dI cL cZ h1 a1 a2 a3 a4 0 n w sh ke go H.size rfl 1 (by decide) (by decide)) (cwV 2 hts0 (sd_gV k_methodLink_X1_38 k_instanceMethod_X1_fails k_sel_X1_fails k_init_ShareDeskModel k_code_X1_fails) rfl rfl rfl (by decide +kernel) ⟨Nat.le_of_ble_eq_true rfl, Nat.le_of_ble_eq_true rfl⟩) (sd_preVw hK hP hD (q0 := 0) (ci := 1) rfl rfl) rfl rfl hl.1 rfl (lv_room (Nat.le_of_ble_eq_true rfl)) dX1_share_39 ⟨Nat.zero_le _, Nat.zero_le _⟩) hD hS hA (fun r_ u_ H locs hpo hP hD hS => ?_)
        obtain ⟨sh, ke, go⟩ := u_
        try dsimp only at hpo
        have hP : va_P (dC, dI) vwCl [(h1, .inr (1, [.int (nI 1), .int (nI n), .ref a1, .ref a2, .ref a3, .ref a4])), (a1, .inl (cL, 8, .inr (.inl (fun z => lN (w z))))), (a2, .inl (cL, 8, .inr (.inl sh))), (a3, .inl (cL, 8, .inr (.inl ke))), (a4, .inl (cZ, 8, .inl go))] H := hP
        have hD : va_D A [(h1, .inr (1, [.int (nI 1), .int (nI n), .ref a1, .ref a2, .ref a3, .ref a4])), (a1, .inl (cL, 8, .inr (.inl (fun z => lN (w z))))), (a2, .inl (cL, 8, .inr (.inl sh))), (a3, .inl (cL, 8, .inr (.inl ke))), (a4, .inl (cZ, 8, .inl go))] := hD
        subst hpo
        refine sd_iz_ne (a := 1) (tgt := 67) hx hb dX1_share_42 (by decide) (by omega) (fun h => ?_) (fun h => ?_)
        · refine lv_iconst (v := (nI 0)) hx hb dX1_share_67 (by decide +kernel) ?_
          exact W.iret hx hb hr (fun t ht hW => ⟨⟨_, (sh, ke, go), rfl, rfl, by rw [ht]; exact hP, va_K.moved hW.alike hK, by rw [← hAe]; exact hD⟩, by rw [← hAe]; exact hS.F ht⟩) (fun q hq => by rw [← hAe]; exact hS.2.2 q hq) dX1_share_68
        · exact absurd h (by omega)
set_option maxHeartbeats 4000000 in
set_option maxRecDepth 100000 in
theorem m_share_zero (l : Launch) (dC : Nat → ClassId) (dI : Nat → Nat → Nat) (cL cZ : ClassId) (h1 a1 a2 a3 a4 er n : Nat) (w : Nat → Nat) (sh ke : Nat → Int64) (go : Nat → Int32) (sz : Nat) (hn1 : 1 ≤ n) (hn8 : n ≤ 8) (y u q : Nat) (hy : y ≤ 2) (hu : u ≤ 10000) (hq : q < n) (hz : sd_sum w n = 0) : Met l yX1_share (sd_ws yX1_share cX1_share 4 (some .int)) (sd_rm 3 0 0) (sd_Pw (dC, dI) vwCl [(cL, .long), (cZ, .boolean)] (sd_M cL cZ h1 a1 a2 a3 a4 er n w sh ke go) sz [.ref h1, .int (nI y), .int (nI u), .int (nI q)]) (va_Qi (fun r (v_ : sd_S) => r = nI 0) (sd_Bw (dC, dI) vwCl [(cL, .long), (cZ, .boolean)] (sd_M cL cZ h1 a1 a2 a3 a4 er n w sh ke go) sz (fun v_ => (sd_M cL cZ h1 a1 a2 a3 a4 2 n w v_.1 v_.2.1 v_.2.2))) (va_A (sd_M cL cZ h1 a1 a2 a3 a4 er n w sh ke go) sz)) 0 0 (va_A (sd_M cL cZ h1 a1 a2 a3 a4 er n w sh ke go) sz) := by
  refine Met.ofW (cc := cX1_share) (maxL := 4) (ret := (some .int)) (by decide) rfl ?_
  intro p e s m args below meth c s₁ B hml hv
  obtain ⟨rfl, hsz, hP, hK, hD0⟩ := hv
  subst hsz
  have hx := B.exec
  have hb := B.bytes
  have hr := B.returns
  have hts0 := atoms_spec (ws := (sd_ws yX1_share cX1_share 4 (some .int))) B.pre
  have hts : ∀ w ∈ sd_WS, w.before _ s = true := fun w h => hts0 w (List.mem_cons_of_mem _ h)
  have hown : s.vm.findClass RX1 = some m.cls := findClass_of_methodNamed B.named
  have hlocks := B.notSynchronized
  have hl := lv_entry ([.ref h1, .int (nI y), .int (nI u), .int (nI q)]) (n := 4) (Nat.le_of_ble_eq_true rfl)
  rw [lg_entry_eq]
  generalize (lg_sl ([.ref h1, .int (nI y), .int (nI u), .int (nI q)]) ++ List.replicate (4 - (lg_sl ([.ref h1, .int (nI y), .int (nI u), .int (nI q)])).length) Slot.unset).toArray = ls at hl ⊢
  have hl : lv_has ls 4 [(0, .ref h1), (1, .int (nI y)), (2, .int (nI u)), (3, .int (nI q))] := hl
  obtain ⟨A, hAe⟩ : ∃ A, A = va_A (sd_M cL cZ h1 a1 a2 a3 a4 er n w sh ke go) s.heap.size := ⟨_, rfl⟩
  have hD : va_D A (sd_M cL cZ h1 a1 a2 a3 a4 er n w sh ke go) := by rw [hAe]; exact hD0.self
  have hA : ∀ q : Nat, s.heap.size ≤ q → A q := fun q h => by rw [hAe]; exact Or.inr h
  have hS : va_S A s.heap s.heap [] := va_S.rf
  have hP : va_P (dC, dI) vwCl [(h1, .inr (1, [.int (nI er), .int (nI n), .ref a1, .ref a2, .ref a3, .ref a4])), (a1, .inl (cL, 8, .inr (.inl (fun z => lN (w z))))), (a2, .inl (cL, 8, .inr (.inl sh))), (a3, .inl (cL, 8, .inr (.inl ke))), (a4, .inl (cZ, 8, .inl go))] s.heap := hP
  have hD : va_D A [(h1, .inr (1, [.int (nI er), .int (nI n), .ref a1, .ref a2, .ref a3, .ref a4])), (a1, .inl (cL, 8, .inr (.inl (fun z => lN (w z))))), (a2, .inl (cL, 8, .inr (.inl sh))), (a3, .inl (cL, 8, .inr (.inl ke))), (a4, .inl (cZ, 8, .inl go))] := hD
  refine lv_aload_n hx hb dX1_share_0 rfl (lv_at hl 0 rfl) ?_
  refine lv_iconst (v := (nI 0)) hx hb dX1_share_1 (by decide +kernel) ?_
  refine va_put (D := (dC, dI)) (ci := 1) (v := .int (nI 0)) (ty := .int) (C := RX1) (T := TX1) (N := 6) hx hb hts u_in_X1 tyX1 tyX1_ok nmX1 hown hK hP hD hS 0 rfl rfl 0 (by decide) (hts (.fieldLink RX1 27 "ShareDeskModel" "err" "I") k_fieldLink_X1_27) (fun _ h9 => h9) rfl (by decide +kernel) rfl rfl (Nat.le_of_ble_eq_true rfl) dX1_share_2 (fun H locs hP hD hS => ?_)
  have hP : va_P (dC, dI) vwCl [(h1, .inr (1, [.int (nI 0), .int (nI n), .ref a1, .ref a2, .ref a3, .ref a4])), (a1, .inl (cL, 8, .inr (.inl (fun z => lN (w z))))), (a2, .inl (cL, 8, .inr (.inl sh))), (a3, .inl (cL, 8, .inr (.inl ke))), (a4, .inl (cZ, 8, .inl go))] H := hP
  have hD : va_D A [(h1, .inr (1, [.int (nI 0), .int (nI n), .ref a1, .ref a2, .ref a3, .ref a4])), (a1, .inl (cL, 8, .inr (.inl (fun z => lN (w z))))), (a2, .inl (cL, 8, .inr (.inl sh))), (a3, .inl (cL, 8, .inr (.inl ke))), (a4, .inl (cZ, 8, .inl go))] := hD
  refine lv_aload_n hx hb dX1_share_5 rfl (lv_at hl 0 rfl) ?_
  refine lv_iload_n hx hb dX1_share_6 rfl (lv_at hl 1 rfl) ?_
  refine sd_calli (va_runS (As := [.int (nI y)]) (rest := [.ref h1]) ⟨hx, hb, hml, hown, hts0⟩ (m_isWay l dC dI (nI y)) (cwS 1 hts0 (sd_gS k_methodLink_X1_59 k_static_X1_isWay k_init_ShareDeskModel k_code_X1_isWay) rfl rfl rfl (by decide +kernel) ⟨Nat.le_of_ble_eq_true rfl, Nat.le_of_ble_eq_true rfl⟩) (sd_preS (sd_K0 hK) (sd_nil _ _ _)) rfl rfl hl.1 rfl (lv_room (Nat.le_of_ble_eq_true rfl)) dX1_share_7 ⟨Nat.zero_le _, Nat.zero_le _⟩) ?_
  refine sd_bz_eq (tgt := 33) hx hb dX1_share_10 (by decide) (fun hc0 => ?_) (fun hc0 => ?_)
  · have hc0 : sd_rg (nI y) 0 2 = false := hc0
    exact absurd hc0 (by rw [sd_rg_nI (by omega) (by omega) (by omega) (by omega)]; decide)
  · have hc0 : sd_rg (nI y) 0 2 = true := hc0
    refine lv_iload_n hx hb dX1_share_13 rfl (lv_at hl 2 rfl) ?_
    refine lv_i2l (v := (nI u).toInt64) hx hb dX1_share_14 rfl ?_
    refine lv_lconst (v := lN 0) hx hb dX1_share_15 rfl ?_
    refine lv_ldc2 (v := 10000) hx hb hown (hts (.constantLong RX1 62 10000) k_constantLong_X1_62) dX1_share_16 ?_
    refine sd_topl (y := lN 10000) (by decide +kernel) ?_
    refine sd_calli (va_runS (As := [.long ((nI u).toInt64), .long (lN 0), .long (lN 10000)]) (rest := [.ref h1]) ⟨hx, hb, hml, hown, hts0⟩ (m_in l dC dI (nI u).toInt64 (lN 0) (lN 10000)) (cwS 3 hts0 (sd_gS k_methodLink_X1_30 k_static_X1_in k_init_ShareDeskModel k_code_X1_in) rfl rfl rfl (by decide +kernel) ⟨Nat.le_of_ble_eq_true rfl, Nat.le_of_ble_eq_true rfl⟩) (sd_preS (sd_K0 hK) (sd_nil _ _ _)) rfl rfl hl.1 rfl (lv_room (Nat.le_of_ble_eq_true rfl)) dX1_share_19 ⟨Nat.zero_le _, Nat.zero_le _⟩) ?_
    refine sd_bz_eq (tgt := 33) hx hb dX1_share_22 (by decide) (fun hc1 => ?_) (fun hc1 => ?_)
    · have hc1 : sd_rg (nI u) 0 10000 = false := hc1
      exact absurd hc1 (by rw [sd_rg_nI (by omega) (by omega) (by omega) (by omega)]; decide)
    · have hc1 : sd_rg (nI u) 0 10000 = true := hc1
      refine lv_aload_n hx hb dX1_share_25 rfl (lv_at hl 0 rfl) ?_
      refine lv_iload_n hx hb dX1_share_26 rfl (lv_at hl 3 rfl) ?_
      refine sd_calli (va_runV (As := [.int (nI q)]) (rest := [.ref h1]) ⟨hx, hb, hml, hown, hts0⟩ (m_isParty l dC dI cL cZ h1 a1 a2 a3 a4 0 n w sh ke go hn1 hn8 (nI q)) (cwV 1 hts0 (sd_gV k_methodLink_X1_42 k_instanceMethod_X1_isParty k_sel_X1_isParty k_init_ShareDeskModel k_code_X1_isParty) rfl rfl rfl (by decide +kernel) ⟨Nat.le_of_ble_eq_true rfl, Nat.le_of_ble_eq_true rfl⟩) (sd_preV hK hP (q0 := 0) (ci := 1) rfl rfl) rfl rfl hl.1 rfl (lv_room (Nat.le_of_ble_eq_true rfl)) dX1_share_27 ⟨Nat.zero_le _, Nat.zero_le _⟩) ?_
      refine sd_bz_ne (tgt := 37) hx hb dX1_share_30 (by decide) (fun hc2 => ?_) (fun hc2 => ?_)
      · have hc2 : sd_rg (nI q) 0 (n - 1) = true := hc2
        refine lv_iconst (v := (nI 0)) hx hb dX1_share_37 (by decide +kernel) ?_
        refine lv_iconst (v := (nI 1)) hx hb dX1_share_38 (by decide +kernel) ?_
        refine sd_calli (va_runV (As := [.int (nI 0), .int (nI 1)]) (rest := []) ⟨hx, hb, hml, hown, hts0⟩ (m_fails0 l dC dI cL cZ h1 a1 a2 a3 a4 0 n w sh ke go rfl 1) (cwV 2 hts0 (sd_gV k_methodLink_X1_38 k_instanceMethod_X1_fails k_sel_X1_fails k_init_ShareDeskModel k_code_X1_fails) rfl rfl rfl (by decide +kernel) ⟨Nat.le_of_ble_eq_true rfl, Nat.le_of_ble_eq_true rfl⟩) (sd_preV hK hP (q0 := 0) (ci := 1) rfl rfl) rfl rfl hl.1 rfl (lv_room (Nat.le_of_ble_eq_true rfl)) dX1_share_39 ⟨Nat.zero_le _, Nat.zero_le _⟩) ?_
        refine sd_iz_ne (a := 0) (tgt := 67) hx hb dX1_share_42 (by decide) (by omega) (fun h => ?_) (fun h => ?_)
        · exact absurd h (by omega)
        · refine lv_aload_n hx hb dX1_share_45 rfl (lv_at hl 0 rfl) ?_
          refine lv_aload_n hx hb dX1_share_46 rfl (lv_at hl 0 rfl) ?_
          refine sd_calll (va_runV (As := []) (rest := [.ref h1]) ⟨hx, hb, hml, hown, hts0⟩ (m_all l dC dI cL cZ h1 a1 a2 a3 a4 0 n w sh ke go hn8) (cwV 0 hts0 (sd_gV k_methodLink_X1_48 k_instanceMethod_X1_all k_sel_X1_all k_init_ShareDeskModel k_code_X1_all) rfl rfl rfl (by decide +kernel) ⟨Nat.le_of_ble_eq_true rfl, Nat.le_of_ble_eq_true rfl⟩) (sd_preV hK hP (q0 := 0) (ci := 1) rfl rfl) rfl rfl hl.1 rfl (lv_room (Nat.le_of_ble_eq_true rfl)) dX1_share_47 ⟨Nat.zero_le _, Nat.zero_le _⟩) ?_
          refine lv_lconst (v := lN 0) hx hb dX1_share_50 rfl ?_
          refine sd_lc_ne (a := sd_sum w n) (b := 0) (tgt := 59) hx hb dX1_share_51 dX1_share_52 (by decide) (by omega) (by omega) (fun h => ?_) (fun h => ?_)
          · exact absurd hz h
          · refine lv_iconst (v := (nI 1)) hx hb dX1_share_55 (by decide +kernel) ?_
            refine lv_goto (tgt := 60) hx hb dX1_share_56 (by decide) ?_
            refine lv_iconst (v := (nI 2)) hx hb dX1_share_60 (by decide +kernel) ?_
            refine sd_wi (va_runV (As := [.int (nI 1), .int (nI 2)]) (rest := []) ⟨hx, hb, hml, hown, hts0⟩ (m_fails1 l dC dI cL cZ h1 a1 a2 a3 a4 0 n w sh ke go H.size rfl 2 (by decide) (by decide)) (cwV 2 hts0 (sd_gV k_methodLink_X1_38 k_instanceMethod_X1_fails k_sel_X1_fails k_init_ShareDeskModel k_code_X1_fails) rfl rfl rfl (by decide +kernel) ⟨Nat.le_of_ble_eq_true rfl, Nat.le_of_ble_eq_true rfl⟩) (sd_preVw hK hP hD (q0 := 0) (ci := 1) rfl rfl) rfl rfl hl.1 rfl (lv_room (Nat.le_of_ble_eq_true rfl)) dX1_share_61 ⟨Nat.zero_le _, Nat.zero_le _⟩) hD hS hA (fun r_ u_ H locs hpo hP hD hS => ?_)
            obtain ⟨sh, ke, go⟩ := u_
            try dsimp only at hpo
            have hP : va_P (dC, dI) vwCl [(h1, .inr (1, [.int (nI 2), .int (nI n), .ref a1, .ref a2, .ref a3, .ref a4])), (a1, .inl (cL, 8, .inr (.inl (fun z => lN (w z))))), (a2, .inl (cL, 8, .inr (.inl sh))), (a3, .inl (cL, 8, .inr (.inl ke))), (a4, .inl (cZ, 8, .inl go))] H := hP
            have hD : va_D A [(h1, .inr (1, [.int (nI 2), .int (nI n), .ref a1, .ref a2, .ref a3, .ref a4])), (a1, .inl (cL, 8, .inr (.inl (fun z => lN (w z))))), (a2, .inl (cL, 8, .inr (.inl sh))), (a3, .inl (cL, 8, .inr (.inl ke))), (a4, .inl (cZ, 8, .inl go))] := hD
            subst hpo
            refine sd_iz_eq (a := 1) (tgt := 69) hx hb dX1_share_64 (by decide) (by omega) (fun h => ?_) (fun h => ?_)
            · exact absurd h (by omega)
            · refine lv_iconst (v := (nI 0)) hx hb dX1_share_67 (by decide +kernel) ?_
              exact W.iret hx hb hr (fun t ht hW => ⟨⟨_, (sh, ke, go), rfl, rfl, by rw [ht]; exact hP, va_K.moved hW.alike hK, by rw [← hAe]; exact hD⟩, by rw [← hAe]; exact hS.F ht⟩) (fun q hq => by rw [← hAe]; exact hS.2.2 q hq) dX1_share_68
      · have hc2 : sd_rg (nI q) 0 (n - 1) = false := hc2
        exact absurd hc2 (by rw [sd_rg_nI (by omega) (by omega) (by omega) (by omega)]; decide)
set_option maxHeartbeats 4000000 in
set_option maxRecDepth 100000 in
theorem m_share (l : Launch) (dC : Nat → ClassId) (dI : Nat → Nat → Nat) (cL cZ : ClassId) (h1 a1 a2 a3 a4 er n : Nat) (w : Nat → Nat) (sh ke : Nat → Int64) (go : Nat → Int32) (sz : Nat) (ok : sd_ok n w) (hW : 0 < sd_sum w n) (y u q : Nat) (hy : y ≤ 2) (hu : u ≤ 10000) (hq : q < n) : Met l yX1_share (sd_ws yX1_share cX1_share 4 (some .int)) (sd_rm 3 0 0) (sd_Pw (dC, dI) vwCl [(cL, .long), (cZ, .boolean)] (sd_M cL cZ h1 a1 a2 a3 a4 er n w sh ke go) sz [.ref h1, .int (nI y), .int (nI u), .int (nI q)]) (va_Qi (fun r (v_ : sd_S) => r = nI (sd_U y w n u q)) (sd_Bw (dC, dI) vwCl [(cL, .long), (cZ, .boolean)] (sd_M cL cZ h1 a1 a2 a3 a4 er n w sh ke go) sz (fun v_ => (sd_M cL cZ h1 a1 a2 a3 a4 0 n w v_.1 v_.2.1 v_.2.2))) (va_A (sd_M cL cZ h1 a1 a2 a3 a4 er n w sh ke go) sz)) 0 0 (va_A (sd_M cL cZ h1 a1 a2 a3 a4 er n w sh ke go) sz) := by
  refine Met.ofW (cc := cX1_share) (maxL := 4) (ret := (some .int)) (by decide) rfl ?_
  intro p e s m args below meth c s₁ B hml hv
  obtain ⟨rfl, hsz, hP, hK, hD0⟩ := hv
  subst hsz
  have hx := B.exec
  have hb := B.bytes
  have hr := B.returns
  have hts0 := atoms_spec (ws := (sd_ws yX1_share cX1_share 4 (some .int))) B.pre
  have hts : ∀ w ∈ sd_WS, w.before _ s = true := fun w h => hts0 w (List.mem_cons_of_mem _ h)
  have hown : s.vm.findClass RX1 = some m.cls := findClass_of_methodNamed B.named
  have hlocks := B.notSynchronized
  have hl := lv_entry ([.ref h1, .int (nI y), .int (nI u), .int (nI q)]) (n := 4) (Nat.le_of_ble_eq_true rfl)
  rw [lg_entry_eq]
  generalize (lg_sl ([.ref h1, .int (nI y), .int (nI u), .int (nI q)]) ++ List.replicate (4 - (lg_sl ([.ref h1, .int (nI y), .int (nI u), .int (nI q)])).length) Slot.unset).toArray = ls at hl ⊢
  have hl : lv_has ls 4 [(0, .ref h1), (1, .int (nI y)), (2, .int (nI u)), (3, .int (nI q))] := hl
  obtain ⟨A, hAe⟩ : ∃ A, A = va_A (sd_M cL cZ h1 a1 a2 a3 a4 er n w sh ke go) s.heap.size := ⟨_, rfl⟩
  have hD : va_D A (sd_M cL cZ h1 a1 a2 a3 a4 er n w sh ke go) := by rw [hAe]; exact hD0.self
  have hA : ∀ q : Nat, s.heap.size ≤ q → A q := fun q h => by rw [hAe]; exact Or.inr h
  have hS : va_S A s.heap s.heap [] := va_S.rf
  have hP : va_P (dC, dI) vwCl [(h1, .inr (1, [.int (nI er), .int (nI n), .ref a1, .ref a2, .ref a3, .ref a4])), (a1, .inl (cL, 8, .inr (.inl (fun z => lN (w z))))), (a2, .inl (cL, 8, .inr (.inl sh))), (a3, .inl (cL, 8, .inr (.inl ke))), (a4, .inl (cZ, 8, .inl go))] s.heap := hP
  have hD : va_D A [(h1, .inr (1, [.int (nI er), .int (nI n), .ref a1, .ref a2, .ref a3, .ref a4])), (a1, .inl (cL, 8, .inr (.inl (fun z => lN (w z))))), (a2, .inl (cL, 8, .inr (.inl sh))), (a3, .inl (cL, 8, .inr (.inl ke))), (a4, .inl (cZ, 8, .inl go))] := hD
  have hn1 := ok.1
  have hn8 := ok.2.1
  have hWl := sd_W_le ok.2.2.1 ok.2.1
  refine lv_aload_n hx hb dX1_share_0 rfl (lv_at hl 0 rfl) ?_
  refine lv_iconst (v := (nI 0)) hx hb dX1_share_1 (by decide +kernel) ?_
  refine va_put (D := (dC, dI)) (ci := 1) (v := .int (nI 0)) (ty := .int) (C := RX1) (T := TX1) (N := 6) hx hb hts u_in_X1 tyX1 tyX1_ok nmX1 hown hK hP hD hS 0 rfl rfl 0 (by decide) (hts (.fieldLink RX1 27 "ShareDeskModel" "err" "I") k_fieldLink_X1_27) (fun _ h9 => h9) rfl (by decide +kernel) rfl rfl (Nat.le_of_ble_eq_true rfl) dX1_share_2 (fun H locs hP hD hS => ?_)
  have hP : va_P (dC, dI) vwCl [(h1, .inr (1, [.int (nI 0), .int (nI n), .ref a1, .ref a2, .ref a3, .ref a4])), (a1, .inl (cL, 8, .inr (.inl (fun z => lN (w z))))), (a2, .inl (cL, 8, .inr (.inl sh))), (a3, .inl (cL, 8, .inr (.inl ke))), (a4, .inl (cZ, 8, .inl go))] H := hP
  have hD : va_D A [(h1, .inr (1, [.int (nI 0), .int (nI n), .ref a1, .ref a2, .ref a3, .ref a4])), (a1, .inl (cL, 8, .inr (.inl (fun z => lN (w z))))), (a2, .inl (cL, 8, .inr (.inl sh))), (a3, .inl (cL, 8, .inr (.inl ke))), (a4, .inl (cZ, 8, .inl go))] := hD
  refine lv_aload_n hx hb dX1_share_5 rfl (lv_at hl 0 rfl) ?_
  refine lv_iload_n hx hb dX1_share_6 rfl (lv_at hl 1 rfl) ?_
  refine sd_calli (va_runS (As := [.int (nI y)]) (rest := [.ref h1]) ⟨hx, hb, hml, hown, hts0⟩ (m_isWay l dC dI (nI y)) (cwS 1 hts0 (sd_gS k_methodLink_X1_59 k_static_X1_isWay k_init_ShareDeskModel k_code_X1_isWay) rfl rfl rfl (by decide +kernel) ⟨Nat.le_of_ble_eq_true rfl, Nat.le_of_ble_eq_true rfl⟩) (sd_preS (sd_K0 hK) (sd_nil _ _ _)) rfl rfl hl.1 rfl (lv_room (Nat.le_of_ble_eq_true rfl)) dX1_share_7 ⟨Nat.zero_le _, Nat.zero_le _⟩) ?_
  refine sd_bz_eq (tgt := 33) hx hb dX1_share_10 (by decide) (fun hc0 => ?_) (fun hc0 => ?_)
  · have hc0 : sd_rg (nI y) 0 2 = false := hc0
    exact absurd hc0 (by rw [sd_rg_nI (by omega) (by omega) (by omega) (by omega)]; decide)
  · have hc0 : sd_rg (nI y) 0 2 = true := hc0
    refine lv_iload_n hx hb dX1_share_13 rfl (lv_at hl 2 rfl) ?_
    refine lv_i2l (v := (nI u).toInt64) hx hb dX1_share_14 rfl ?_
    refine lv_lconst (v := lN 0) hx hb dX1_share_15 rfl ?_
    refine lv_ldc2 (v := 10000) hx hb hown (hts (.constantLong RX1 62 10000) k_constantLong_X1_62) dX1_share_16 ?_
    refine sd_topl (y := lN 10000) (by decide +kernel) ?_
    refine sd_calli (va_runS (As := [.long ((nI u).toInt64), .long (lN 0), .long (lN 10000)]) (rest := [.ref h1]) ⟨hx, hb, hml, hown, hts0⟩ (m_in l dC dI (nI u).toInt64 (lN 0) (lN 10000)) (cwS 3 hts0 (sd_gS k_methodLink_X1_30 k_static_X1_in k_init_ShareDeskModel k_code_X1_in) rfl rfl rfl (by decide +kernel) ⟨Nat.le_of_ble_eq_true rfl, Nat.le_of_ble_eq_true rfl⟩) (sd_preS (sd_K0 hK) (sd_nil _ _ _)) rfl rfl hl.1 rfl (lv_room (Nat.le_of_ble_eq_true rfl)) dX1_share_19 ⟨Nat.zero_le _, Nat.zero_le _⟩) ?_
    refine sd_bz_eq (tgt := 33) hx hb dX1_share_22 (by decide) (fun hc1 => ?_) (fun hc1 => ?_)
    · have hc1 : sd_rg (nI u) 0 10000 = false := hc1
      exact absurd hc1 (by rw [sd_rg_nI (by omega) (by omega) (by omega) (by omega)]; decide)
    · have hc1 : sd_rg (nI u) 0 10000 = true := hc1
      refine lv_aload_n hx hb dX1_share_25 rfl (lv_at hl 0 rfl) ?_
      refine lv_iload_n hx hb dX1_share_26 rfl (lv_at hl 3 rfl) ?_
      refine sd_calli (va_runV (As := [.int (nI q)]) (rest := [.ref h1]) ⟨hx, hb, hml, hown, hts0⟩ (m_isParty l dC dI cL cZ h1 a1 a2 a3 a4 0 n w sh ke go hn1 hn8 (nI q)) (cwV 1 hts0 (sd_gV k_methodLink_X1_42 k_instanceMethod_X1_isParty k_sel_X1_isParty k_init_ShareDeskModel k_code_X1_isParty) rfl rfl rfl (by decide +kernel) ⟨Nat.le_of_ble_eq_true rfl, Nat.le_of_ble_eq_true rfl⟩) (sd_preV hK hP (q0 := 0) (ci := 1) rfl rfl) rfl rfl hl.1 rfl (lv_room (Nat.le_of_ble_eq_true rfl)) dX1_share_27 ⟨Nat.zero_le _, Nat.zero_le _⟩) ?_
      refine sd_bz_ne (tgt := 37) hx hb dX1_share_30 (by decide) (fun hc2 => ?_) (fun hc2 => ?_)
      · have hc2 : sd_rg (nI q) 0 (n - 1) = true := hc2
        refine lv_iconst (v := (nI 0)) hx hb dX1_share_37 (by decide +kernel) ?_
        refine lv_iconst (v := (nI 1)) hx hb dX1_share_38 (by decide +kernel) ?_
        refine sd_calli (va_runV (As := [.int (nI 0), .int (nI 1)]) (rest := []) ⟨hx, hb, hml, hown, hts0⟩ (m_fails0 l dC dI cL cZ h1 a1 a2 a3 a4 0 n w sh ke go rfl 1) (cwV 2 hts0 (sd_gV k_methodLink_X1_38 k_instanceMethod_X1_fails k_sel_X1_fails k_init_ShareDeskModel k_code_X1_fails) rfl rfl rfl (by decide +kernel) ⟨Nat.le_of_ble_eq_true rfl, Nat.le_of_ble_eq_true rfl⟩) (sd_preV hK hP (q0 := 0) (ci := 1) rfl rfl) rfl rfl hl.1 rfl (lv_room (Nat.le_of_ble_eq_true rfl)) dX1_share_39 ⟨Nat.zero_le _, Nat.zero_le _⟩) ?_
        refine sd_iz_ne (a := 0) (tgt := 67) hx hb dX1_share_42 (by decide) (by omega) (fun h => ?_) (fun h => ?_)
        · exact absurd h (by omega)
        · refine lv_aload_n hx hb dX1_share_45 rfl (lv_at hl 0 rfl) ?_
          refine lv_aload_n hx hb dX1_share_46 rfl (lv_at hl 0 rfl) ?_
          refine sd_calll (va_runV (As := []) (rest := [.ref h1]) ⟨hx, hb, hml, hown, hts0⟩ (m_all l dC dI cL cZ h1 a1 a2 a3 a4 0 n w sh ke go hn8) (cwV 0 hts0 (sd_gV k_methodLink_X1_48 k_instanceMethod_X1_all k_sel_X1_all k_init_ShareDeskModel k_code_X1_all) rfl rfl rfl (by decide +kernel) ⟨Nat.le_of_ble_eq_true rfl, Nat.le_of_ble_eq_true rfl⟩) (sd_preV hK hP (q0 := 0) (ci := 1) rfl rfl) rfl rfl hl.1 rfl (lv_room (Nat.le_of_ble_eq_true rfl)) dX1_share_47 ⟨Nat.zero_le _, Nat.zero_le _⟩) ?_
          refine lv_lconst (v := lN 0) hx hb dX1_share_50 rfl ?_
          refine sd_lc_ne (a := sd_sum w n) (b := 0) (tgt := 59) hx hb dX1_share_51 dX1_share_52 (by decide) (by omega) (by omega) (fun h => ?_) (fun h => ?_)
          · refine lv_iconst (v := (nI 0)) hx hb dX1_share_59 (by decide +kernel) ?_
            refine lv_iconst (v := (nI 2)) hx hb dX1_share_60 (by decide +kernel) ?_
            refine sd_calli (va_runV (As := [.int (nI 0), .int (nI 2)]) (rest := []) ⟨hx, hb, hml, hown, hts0⟩ (m_fails0 l dC dI cL cZ h1 a1 a2 a3 a4 0 n w sh ke go rfl 2) (cwV 2 hts0 (sd_gV k_methodLink_X1_38 k_instanceMethod_X1_fails k_sel_X1_fails k_init_ShareDeskModel k_code_X1_fails) rfl rfl rfl (by decide +kernel) ⟨Nat.le_of_ble_eq_true rfl, Nat.le_of_ble_eq_true rfl⟩) (sd_preV hK hP (q0 := 0) (ci := 1) rfl rfl) rfl rfl hl.1 rfl (lv_room (Nat.le_of_ble_eq_true rfl)) dX1_share_61 ⟨Nat.zero_le _, Nat.zero_le _⟩) ?_
            refine sd_iz_eq (a := 0) (tgt := 69) hx hb dX1_share_64 (by decide) (by omega) (fun h => ?_) (fun h => ?_)
            · have hUl := sd_U_le (y := y) (w := w) (m := u) hW hq
              refine lv_aload_n hx hb dX1_share_69 rfl (lv_at hl 0 rfl) ?_
              refine lv_iload_n hx hb dX1_share_70 rfl (lv_at hl 1 rfl) ?_
              refine lv_iload_n hx hb dX1_share_71 rfl (lv_at hl 2 rfl) ?_
              refine sd_wv (va_runV (As := [.int (nI y), .int (nI u)]) (rest := []) ⟨hx, hb, hml, hown, hts0⟩ (m_give l dC dI cL cZ h1 a1 a2 a3 a4 0 n w sh ke go H.size ok hW y u hy hu) (cwV 2 hts0 (sd_gV k_methodLink_X1_64 k_instanceMethod_X1_give k_sel_X1_give k_init_ShareDeskModel k_code_X1_give) rfl rfl rfl (by decide +kernel) ⟨Nat.le_of_ble_eq_true rfl, Nat.le_of_ble_eq_true rfl⟩) (sd_preVw hK hP hD (q0 := 0) (ci := 1) rfl rfl) rfl rfl hl.1 rfl (lv_room (Nat.le_of_ble_eq_true rfl)) dX1_share_72 ⟨Nat.zero_le _, Nat.zero_le _⟩) hD hS hA (fun u_ H locs hpo hP hD hS => ?_)
              obtain ⟨sh, ke1, go⟩ := u_
              try dsimp only at hpo
              have hP : va_P (dC, dI) vwCl [(h1, .inr (1, [.int (nI 0), .int (nI n), .ref a1, .ref a2, .ref a3, .ref a4])), (a1, .inl (cL, 8, .inr (.inl (fun z => lN (w z))))), (a2, .inl (cL, 8, .inr (.inl sh))), (a3, .inl (cL, 8, .inr (.inl ke1))), (a4, .inl (cZ, 8, .inl go))] H := hP
              have hD : va_D A [(h1, .inr (1, [.int (nI 0), .int (nI n), .ref a1, .ref a2, .ref a3, .ref a4])), (a1, .inl (cL, 8, .inr (.inl (fun z => lN (w z))))), (a2, .inl (cL, 8, .inr (.inl sh))), (a3, .inl (cL, 8, .inr (.inl ke1))), (a4, .inl (cZ, 8, .inl go))] := hD
              obtain ⟨hpo, hke⟩ := hpo
              rw [hke] at hP hD
              have hP : va_P (dC, dI) vwCl [(h1, .inr (1, [.int (nI 0), .int (nI n), .ref a1, .ref a2, .ref a3, .ref a4])), (a1, .inl (cL, 8, .inr (.inl (fun z => lN (w z))))), (a2, .inl (cL, 8, .inr (.inl sh))), (a3, .inl (cL, 8, .inr (.inl ke))), (a4, .inl (cZ, 8, .inl go))] H := hP
              have hD : va_D A [(h1, .inr (1, [.int (nI 0), .int (nI n), .ref a1, .ref a2, .ref a3, .ref a4])), (a1, .inl (cL, 8, .inr (.inl (fun z => lN (w z))))), (a2, .inl (cL, 8, .inr (.inl sh))), (a3, .inl (cL, 8, .inr (.inl ke))), (a4, .inl (cZ, 8, .inl go))] := hD
              refine lv_aload_n hx hb dX1_share_75 rfl (lv_at hl 0 rfl) ?_
              refine va_get (D := (dC, dI)) (ci := 1) (v := .ref a2) (C := RX1) (T := TX1) (N := 6) hx hb hts u_in_X1 hown hK hP 0 rfl rfl 3 (by decide) (hts (.fieldLink RX1 17 "ShareDeskModel" "shares" "[J") k_fieldLink_X1_17) (fun _ h9 => h9) rfl dX1_share_76 ?_
              refine lv_iload_n hx hb dX1_share_79 rfl (lv_at hl 3 rfl) ?_
              refine sd_lald (j := q) (v := lN (sd_U y w n u q)) hx hb hK hP 2 0 rfl rfl (by omega) (by decide) (hpo q hq) dX1_share_80 ?_
              refine lv_l2i (v := nI (sd_U y w n u q)) hx hb dX1_share_81 (lN_i _) ?_
              exact W.iret hx hb hr (fun t ht hW => ⟨⟨_, (sh, ke, go), rfl, rfl, by rw [ht]; exact hP, va_K.moved hW.alike hK, by rw [← hAe]; exact hD⟩, by rw [← hAe]; exact hS.F ht⟩) (fun q hq => by rw [← hAe]; exact hS.2.2 q hq) dX1_share_82
            · exact absurd h (by omega)
          · exact absurd h (by omega)
      · have hc2 : sd_rg (nI q) 0 (n - 1) = false := hc2
        exact absurd hc2 (by rw [sd_rg_nI (by omega) (by omega) (by omega) (by omega)]; decide)
set_option maxHeartbeats 4000000 in
set_option maxRecDepth 100000 in
theorem m_over_bad (l : Launch) (dC : Nat → ClassId) (dI : Nat → Nat → Nat) (cL cZ : ClassId) (h1 a1 a2 a3 a4 er n : Nat) (w : Nat → Nat) (sh ke : Nat → Int64) (go : Nat → Int32) (sz : Nat) (hn1 : 1 ≤ n) (hn8 : n ≤ 8) (x1 x2 x3 : Int32) (hbad : sd_rg x1 0 2 = false ∨ sd_rg x2 0 10000 = false ∨ sd_rg x3 0 (n - 1) = false) : Met l yX1_over (sd_ws yX1_over cX1_over 4 (some .long)) (sd_rm 3 0 0) (sd_Pw (dC, dI) vwCl [(cL, .long), (cZ, .boolean)] (sd_M cL cZ h1 a1 a2 a3 a4 er n w sh ke go) sz [.ref h1, .int x1, .int x2, .int x3]) (va_Ql (fun r (v_ : sd_S) => r = lN 0) (sd_Bw (dC, dI) vwCl [(cL, .long), (cZ, .boolean)] (sd_M cL cZ h1 a1 a2 a3 a4 er n w sh ke go) sz (fun v_ => (sd_M cL cZ h1 a1 a2 a3 a4 1 n w v_.1 v_.2.1 v_.2.2))) (va_A (sd_M cL cZ h1 a1 a2 a3 a4 er n w sh ke go) sz)) 0 0 (va_A (sd_M cL cZ h1 a1 a2 a3 a4 er n w sh ke go) sz) := by
  refine Met.ofW (cc := cX1_over) (maxL := 4) (ret := (some .long)) (by decide) rfl ?_
  intro p e s m args below meth c s₁ B hml hv
  obtain ⟨rfl, hsz, hP, hK, hD0⟩ := hv
  subst hsz
  have hx := B.exec
  have hb := B.bytes
  have hr := B.returns
  have hts0 := atoms_spec (ws := (sd_ws yX1_over cX1_over 4 (some .long))) B.pre
  have hts : ∀ w ∈ sd_WS, w.before _ s = true := fun w h => hts0 w (List.mem_cons_of_mem _ h)
  have hown : s.vm.findClass RX1 = some m.cls := findClass_of_methodNamed B.named
  have hlocks := B.notSynchronized
  have hl := lv_entry ([.ref h1, .int x1, .int x2, .int x3]) (n := 4) (Nat.le_of_ble_eq_true rfl)
  rw [lg_entry_eq]
  generalize (lg_sl ([.ref h1, .int x1, .int x2, .int x3]) ++ List.replicate (4 - (lg_sl ([.ref h1, .int x1, .int x2, .int x3])).length) Slot.unset).toArray = ls at hl ⊢
  have hl : lv_has ls 4 [(0, .ref h1), (1, .int x1), (2, .int x2), (3, .int x3)] := hl
  obtain ⟨A, hAe⟩ : ∃ A, A = va_A (sd_M cL cZ h1 a1 a2 a3 a4 er n w sh ke go) s.heap.size := ⟨_, rfl⟩
  have hD : va_D A (sd_M cL cZ h1 a1 a2 a3 a4 er n w sh ke go) := by rw [hAe]; exact hD0.self
  have hA : ∀ q : Nat, s.heap.size ≤ q → A q := fun q h => by rw [hAe]; exact Or.inr h
  have hS : va_S A s.heap s.heap [] := va_S.rf
  have hP : va_P (dC, dI) vwCl [(h1, .inr (1, [.int (nI er), .int (nI n), .ref a1, .ref a2, .ref a3, .ref a4])), (a1, .inl (cL, 8, .inr (.inl (fun z => lN (w z))))), (a2, .inl (cL, 8, .inr (.inl sh))), (a3, .inl (cL, 8, .inr (.inl ke))), (a4, .inl (cZ, 8, .inl go))] s.heap := hP
  have hD : va_D A [(h1, .inr (1, [.int (nI er), .int (nI n), .ref a1, .ref a2, .ref a3, .ref a4])), (a1, .inl (cL, 8, .inr (.inl (fun z => lN (w z))))), (a2, .inl (cL, 8, .inr (.inl sh))), (a3, .inl (cL, 8, .inr (.inl ke))), (a4, .inl (cZ, 8, .inl go))] := hD
  refine lv_aload_n hx hb dX1_over_0 rfl (lv_at hl 0 rfl) ?_
  refine lv_iconst (v := (nI 0)) hx hb dX1_over_1 (by decide +kernel) ?_
  refine va_put (D := (dC, dI)) (ci := 1) (v := .int (nI 0)) (ty := .int) (C := RX1) (T := TX1) (N := 6) hx hb hts u_in_X1 tyX1 tyX1_ok nmX1 hown hK hP hD hS 0 rfl rfl 0 (by decide) (hts (.fieldLink RX1 27 "ShareDeskModel" "err" "I") k_fieldLink_X1_27) (fun _ h9 => h9) rfl (by decide +kernel) rfl rfl (Nat.le_of_ble_eq_true rfl) dX1_over_2 (fun H locs hP hD hS => ?_)
  have hP : va_P (dC, dI) vwCl [(h1, .inr (1, [.int (nI 0), .int (nI n), .ref a1, .ref a2, .ref a3, .ref a4])), (a1, .inl (cL, 8, .inr (.inl (fun z => lN (w z))))), (a2, .inl (cL, 8, .inr (.inl sh))), (a3, .inl (cL, 8, .inr (.inl ke))), (a4, .inl (cZ, 8, .inl go))] H := hP
  have hD : va_D A [(h1, .inr (1, [.int (nI 0), .int (nI n), .ref a1, .ref a2, .ref a3, .ref a4])), (a1, .inl (cL, 8, .inr (.inl (fun z => lN (w z))))), (a2, .inl (cL, 8, .inr (.inl sh))), (a3, .inl (cL, 8, .inr (.inl ke))), (a4, .inl (cZ, 8, .inl go))] := hD
  refine lv_aload_n hx hb dX1_over_5 rfl (lv_at hl 0 rfl) ?_
  refine lv_iload_n hx hb dX1_over_6 rfl (lv_at hl 1 rfl) ?_
  refine sd_calli (va_runS (As := [.int x1]) (rest := [.ref h1]) ⟨hx, hb, hml, hown, hts0⟩ (m_isWay l dC dI x1) (cwS 1 hts0 (sd_gS k_methodLink_X1_59 k_static_X1_isWay k_init_ShareDeskModel k_code_X1_isWay) rfl rfl rfl (by decide +kernel) ⟨Nat.le_of_ble_eq_true rfl, Nat.le_of_ble_eq_true rfl⟩) (sd_preS (sd_K0 hK) (sd_nil _ _ _)) rfl rfl hl.1 rfl (lv_room (Nat.le_of_ble_eq_true rfl)) dX1_over_7 ⟨Nat.zero_le _, Nat.zero_le _⟩) ?_
  refine sd_bz_eq (tgt := 33) hx hb dX1_over_10 (by decide) (fun hc0 => ?_) (fun hc0 => ?_)
  · have hc0 : sd_rg x1 0 2 = false := hc0
    refine lv_iconst (v := (nI 1)) hx hb dX1_over_33 (by decide +kernel) ?_
    refine lv_goto (tgt := 38) hx hb dX1_over_34 (by decide) ?_
    refine lv_iconst (v := (nI 1)) hx hb dX1_over_38 (by decide +kernel) ?_
    refine sd_wi (va_runV (As := [.int (nI 1), .int (nI 1)]) (rest := []) ⟨hx, hb, hml, hown, hts0⟩ (m_fails1 l dC dI cL cZ h1 a1 a2 a3 a4 0 n w sh ke go H.size rfl 1 (by decide) (by decide)) (cwV 2 hts0 (sd_gV k_methodLink_X1_38 k_instanceMethod_X1_fails k_sel_X1_fails k_init_ShareDeskModel k_code_X1_fails) rfl rfl rfl (by decide +kernel) ⟨Nat.le_of_ble_eq_true rfl, Nat.le_of_ble_eq_true rfl⟩) (sd_preVw hK hP hD (q0 := 0) (ci := 1) rfl rfl) rfl rfl hl.1 rfl (lv_room (Nat.le_of_ble_eq_true rfl)) dX1_over_39 ⟨Nat.zero_le _, Nat.zero_le _⟩) hD hS hA (fun r_ u_ H locs hpo hP hD hS => ?_)
    obtain ⟨sh, ke, go⟩ := u_
    try dsimp only at hpo
    have hP : va_P (dC, dI) vwCl [(h1, .inr (1, [.int (nI 1), .int (nI n), .ref a1, .ref a2, .ref a3, .ref a4])), (a1, .inl (cL, 8, .inr (.inl (fun z => lN (w z))))), (a2, .inl (cL, 8, .inr (.inl sh))), (a3, .inl (cL, 8, .inr (.inl ke))), (a4, .inl (cZ, 8, .inl go))] H := hP
    have hD : va_D A [(h1, .inr (1, [.int (nI 1), .int (nI n), .ref a1, .ref a2, .ref a3, .ref a4])), (a1, .inl (cL, 8, .inr (.inl (fun z => lN (w z))))), (a2, .inl (cL, 8, .inr (.inl sh))), (a3, .inl (cL, 8, .inr (.inl ke))), (a4, .inl (cZ, 8, .inl go))] := hD
    subst hpo
    refine sd_iz_ne (a := 1) (tgt := 67) hx hb dX1_over_42 (by decide) (by omega) (fun h => ?_) (fun h => ?_)
    · refine lv_lconst (v := lN 0) hx hb dX1_over_67 rfl ?_
      exact W.lret hx hb hr (fun t ht hW => ⟨⟨_, (sh, ke, go), rfl, rfl, by rw [ht]; exact hP, va_K.moved hW.alike hK, by rw [← hAe]; exact hD⟩, by rw [← hAe]; exact hS.F ht⟩) (fun q hq => by rw [← hAe]; exact hS.2.2 q hq) dX1_over_68
    · exact absurd h (by omega)
  · have hc0 : sd_rg x1 0 2 = true := hc0
    refine lv_iload_n hx hb dX1_over_13 rfl (lv_at hl 2 rfl) ?_
    refine lv_i2l (v := x2.toInt64) hx hb dX1_over_14 rfl ?_
    refine lv_lconst (v := lN 0) hx hb dX1_over_15 rfl ?_
    refine lv_ldc2 (v := 10000) hx hb hown (hts (.constantLong RX1 62 10000) k_constantLong_X1_62) dX1_over_16 ?_
    refine sd_topl (y := lN 10000) (by decide +kernel) ?_
    refine sd_calli (va_runS (As := [.long (x2.toInt64), .long (lN 0), .long (lN 10000)]) (rest := [.ref h1]) ⟨hx, hb, hml, hown, hts0⟩ (m_in l dC dI x2.toInt64 (lN 0) (lN 10000)) (cwS 3 hts0 (sd_gS k_methodLink_X1_30 k_static_X1_in k_init_ShareDeskModel k_code_X1_in) rfl rfl rfl (by decide +kernel) ⟨Nat.le_of_ble_eq_true rfl, Nat.le_of_ble_eq_true rfl⟩) (sd_preS (sd_K0 hK) (sd_nil _ _ _)) rfl rfl hl.1 rfl (lv_room (Nat.le_of_ble_eq_true rfl)) dX1_over_19 ⟨Nat.zero_le _, Nat.zero_le _⟩) ?_
    refine sd_bz_eq (tgt := 33) hx hb dX1_over_22 (by decide) (fun hc1 => ?_) (fun hc1 => ?_)
    · have hc1 : sd_rg x2 0 10000 = false := hc1
      refine lv_iconst (v := (nI 1)) hx hb dX1_over_33 (by decide +kernel) ?_
      refine lv_goto (tgt := 38) hx hb dX1_over_34 (by decide) ?_
      refine lv_iconst (v := (nI 1)) hx hb dX1_over_38 (by decide +kernel) ?_
      refine sd_wi (va_runV (As := [.int (nI 1), .int (nI 1)]) (rest := []) ⟨hx, hb, hml, hown, hts0⟩ (m_fails1 l dC dI cL cZ h1 a1 a2 a3 a4 0 n w sh ke go H.size rfl 1 (by decide) (by decide)) (cwV 2 hts0 (sd_gV k_methodLink_X1_38 k_instanceMethod_X1_fails k_sel_X1_fails k_init_ShareDeskModel k_code_X1_fails) rfl rfl rfl (by decide +kernel) ⟨Nat.le_of_ble_eq_true rfl, Nat.le_of_ble_eq_true rfl⟩) (sd_preVw hK hP hD (q0 := 0) (ci := 1) rfl rfl) rfl rfl hl.1 rfl (lv_room (Nat.le_of_ble_eq_true rfl)) dX1_over_39 ⟨Nat.zero_le _, Nat.zero_le _⟩) hD hS hA (fun r_ u_ H locs hpo hP hD hS => ?_)
      obtain ⟨sh, ke, go⟩ := u_
      try dsimp only at hpo
      have hP : va_P (dC, dI) vwCl [(h1, .inr (1, [.int (nI 1), .int (nI n), .ref a1, .ref a2, .ref a3, .ref a4])), (a1, .inl (cL, 8, .inr (.inl (fun z => lN (w z))))), (a2, .inl (cL, 8, .inr (.inl sh))), (a3, .inl (cL, 8, .inr (.inl ke))), (a4, .inl (cZ, 8, .inl go))] H := hP
      have hD : va_D A [(h1, .inr (1, [.int (nI 1), .int (nI n), .ref a1, .ref a2, .ref a3, .ref a4])), (a1, .inl (cL, 8, .inr (.inl (fun z => lN (w z))))), (a2, .inl (cL, 8, .inr (.inl sh))), (a3, .inl (cL, 8, .inr (.inl ke))), (a4, .inl (cZ, 8, .inl go))] := hD
      subst hpo
      refine sd_iz_ne (a := 1) (tgt := 67) hx hb dX1_over_42 (by decide) (by omega) (fun h => ?_) (fun h => ?_)
      · refine lv_lconst (v := lN 0) hx hb dX1_over_67 rfl ?_
        exact W.lret hx hb hr (fun t ht hW => ⟨⟨_, (sh, ke, go), rfl, rfl, by rw [ht]; exact hP, va_K.moved hW.alike hK, by rw [← hAe]; exact hD⟩, by rw [← hAe]; exact hS.F ht⟩) (fun q hq => by rw [← hAe]; exact hS.2.2 q hq) dX1_over_68
      · exact absurd h (by omega)
    · have hc1 : sd_rg x2 0 10000 = true := hc1
      refine lv_aload_n hx hb dX1_over_25 rfl (lv_at hl 0 rfl) ?_
      refine lv_iload_n hx hb dX1_over_26 rfl (lv_at hl 3 rfl) ?_
      refine sd_calli (va_runV (As := [.int x3]) (rest := [.ref h1]) ⟨hx, hb, hml, hown, hts0⟩ (m_isParty l dC dI cL cZ h1 a1 a2 a3 a4 0 n w sh ke go hn1 hn8 x3) (cwV 1 hts0 (sd_gV k_methodLink_X1_42 k_instanceMethod_X1_isParty k_sel_X1_isParty k_init_ShareDeskModel k_code_X1_isParty) rfl rfl rfl (by decide +kernel) ⟨Nat.le_of_ble_eq_true rfl, Nat.le_of_ble_eq_true rfl⟩) (sd_preV hK hP (q0 := 0) (ci := 1) rfl rfl) rfl rfl hl.1 rfl (lv_room (Nat.le_of_ble_eq_true rfl)) dX1_over_27 ⟨Nat.zero_le _, Nat.zero_le _⟩) ?_
      refine sd_bz_ne (tgt := 37) hx hb dX1_over_30 (by decide) (fun hc2 => ?_) (fun hc2 => ?_)
      · have hc2 : sd_rg x3 0 (n - 1) = true := hc2
        exact absurd hbad (by simp [hc0, hc1, hc2])
      · have hc2 : sd_rg x3 0 (n - 1) = false := hc2
        refine lv_iconst (v := (nI 1)) hx hb dX1_over_33 (by decide +kernel) ?_
        refine lv_goto (tgt := 38) hx hb dX1_over_34 (by decide) ?_
        refine lv_iconst (v := (nI 1)) hx hb dX1_over_38 (by decide +kernel) ?_
        refine sd_wi (va_runV (As := [.int (nI 1), .int (nI 1)]) (rest := []) ⟨hx, hb, hml, hown, hts0⟩ (m_fails1 l dC dI cL cZ h1 a1 a2 a3 a4 0 n w sh ke go H.size rfl 1 (by decide) (by decide)) (cwV 2 hts0 (sd_gV k_methodLink_X1_38 k_instanceMethod_X1_fails k_sel_X1_fails k_init_ShareDeskModel k_code_X1_fails) rfl rfl rfl (by decide +kernel) ⟨Nat.le_of_ble_eq_true rfl, Nat.le_of_ble_eq_true rfl⟩) (sd_preVw hK hP hD (q0 := 0) (ci := 1) rfl rfl) rfl rfl hl.1 rfl (lv_room (Nat.le_of_ble_eq_true rfl)) dX1_over_39 ⟨Nat.zero_le _, Nat.zero_le _⟩) hD hS hA (fun r_ u_ H locs hpo hP hD hS => ?_)
        obtain ⟨sh, ke, go⟩ := u_
        try dsimp only at hpo
        have hP : va_P (dC, dI) vwCl [(h1, .inr (1, [.int (nI 1), .int (nI n), .ref a1, .ref a2, .ref a3, .ref a4])), (a1, .inl (cL, 8, .inr (.inl (fun z => lN (w z))))), (a2, .inl (cL, 8, .inr (.inl sh))), (a3, .inl (cL, 8, .inr (.inl ke))), (a4, .inl (cZ, 8, .inl go))] H := hP
        have hD : va_D A [(h1, .inr (1, [.int (nI 1), .int (nI n), .ref a1, .ref a2, .ref a3, .ref a4])), (a1, .inl (cL, 8, .inr (.inl (fun z => lN (w z))))), (a2, .inl (cL, 8, .inr (.inl sh))), (a3, .inl (cL, 8, .inr (.inl ke))), (a4, .inl (cZ, 8, .inl go))] := hD
        subst hpo
        refine sd_iz_ne (a := 1) (tgt := 67) hx hb dX1_over_42 (by decide) (by omega) (fun h => ?_) (fun h => ?_)
        · refine lv_lconst (v := lN 0) hx hb dX1_over_67 rfl ?_
          exact W.lret hx hb hr (fun t ht hW => ⟨⟨_, (sh, ke, go), rfl, rfl, by rw [ht]; exact hP, va_K.moved hW.alike hK, by rw [← hAe]; exact hD⟩, by rw [← hAe]; exact hS.F ht⟩) (fun q hq => by rw [← hAe]; exact hS.2.2 q hq) dX1_over_68
        · exact absurd h (by omega)
set_option maxHeartbeats 4000000 in
set_option maxRecDepth 100000 in
theorem m_over_zero (l : Launch) (dC : Nat → ClassId) (dI : Nat → Nat → Nat) (cL cZ : ClassId) (h1 a1 a2 a3 a4 er n : Nat) (w : Nat → Nat) (sh ke : Nat → Int64) (go : Nat → Int32) (sz : Nat) (hn1 : 1 ≤ n) (hn8 : n ≤ 8) (y u q : Nat) (hy : y ≤ 2) (hu : u ≤ 10000) (hq : q < n) (hz : sd_sum w n = 0) : Met l yX1_over (sd_ws yX1_over cX1_over 4 (some .long)) (sd_rm 3 0 0) (sd_Pw (dC, dI) vwCl [(cL, .long), (cZ, .boolean)] (sd_M cL cZ h1 a1 a2 a3 a4 er n w sh ke go) sz [.ref h1, .int (nI y), .int (nI u), .int (nI q)]) (va_Ql (fun r (v_ : sd_S) => r = lN 0) (sd_Bw (dC, dI) vwCl [(cL, .long), (cZ, .boolean)] (sd_M cL cZ h1 a1 a2 a3 a4 er n w sh ke go) sz (fun v_ => (sd_M cL cZ h1 a1 a2 a3 a4 2 n w v_.1 v_.2.1 v_.2.2))) (va_A (sd_M cL cZ h1 a1 a2 a3 a4 er n w sh ke go) sz)) 0 0 (va_A (sd_M cL cZ h1 a1 a2 a3 a4 er n w sh ke go) sz) := by
  refine Met.ofW (cc := cX1_over) (maxL := 4) (ret := (some .long)) (by decide) rfl ?_
  intro p e s m args below meth c s₁ B hml hv
  obtain ⟨rfl, hsz, hP, hK, hD0⟩ := hv
  subst hsz
  have hx := B.exec
  have hb := B.bytes
  have hr := B.returns
  have hts0 := atoms_spec (ws := (sd_ws yX1_over cX1_over 4 (some .long))) B.pre
  have hts : ∀ w ∈ sd_WS, w.before _ s = true := fun w h => hts0 w (List.mem_cons_of_mem _ h)
  have hown : s.vm.findClass RX1 = some m.cls := findClass_of_methodNamed B.named
  have hlocks := B.notSynchronized
  have hl := lv_entry ([.ref h1, .int (nI y), .int (nI u), .int (nI q)]) (n := 4) (Nat.le_of_ble_eq_true rfl)
  rw [lg_entry_eq]
  generalize (lg_sl ([.ref h1, .int (nI y), .int (nI u), .int (nI q)]) ++ List.replicate (4 - (lg_sl ([.ref h1, .int (nI y), .int (nI u), .int (nI q)])).length) Slot.unset).toArray = ls at hl ⊢
  have hl : lv_has ls 4 [(0, .ref h1), (1, .int (nI y)), (2, .int (nI u)), (3, .int (nI q))] := hl
  obtain ⟨A, hAe⟩ : ∃ A, A = va_A (sd_M cL cZ h1 a1 a2 a3 a4 er n w sh ke go) s.heap.size := ⟨_, rfl⟩
  have hD : va_D A (sd_M cL cZ h1 a1 a2 a3 a4 er n w sh ke go) := by rw [hAe]; exact hD0.self
  have hA : ∀ q : Nat, s.heap.size ≤ q → A q := fun q h => by rw [hAe]; exact Or.inr h
  have hS : va_S A s.heap s.heap [] := va_S.rf
  have hP : va_P (dC, dI) vwCl [(h1, .inr (1, [.int (nI er), .int (nI n), .ref a1, .ref a2, .ref a3, .ref a4])), (a1, .inl (cL, 8, .inr (.inl (fun z => lN (w z))))), (a2, .inl (cL, 8, .inr (.inl sh))), (a3, .inl (cL, 8, .inr (.inl ke))), (a4, .inl (cZ, 8, .inl go))] s.heap := hP
  have hD : va_D A [(h1, .inr (1, [.int (nI er), .int (nI n), .ref a1, .ref a2, .ref a3, .ref a4])), (a1, .inl (cL, 8, .inr (.inl (fun z => lN (w z))))), (a2, .inl (cL, 8, .inr (.inl sh))), (a3, .inl (cL, 8, .inr (.inl ke))), (a4, .inl (cZ, 8, .inl go))] := hD
  refine lv_aload_n hx hb dX1_over_0 rfl (lv_at hl 0 rfl) ?_
  refine lv_iconst (v := (nI 0)) hx hb dX1_over_1 (by decide +kernel) ?_
  refine va_put (D := (dC, dI)) (ci := 1) (v := .int (nI 0)) (ty := .int) (C := RX1) (T := TX1) (N := 6) hx hb hts u_in_X1 tyX1 tyX1_ok nmX1 hown hK hP hD hS 0 rfl rfl 0 (by decide) (hts (.fieldLink RX1 27 "ShareDeskModel" "err" "I") k_fieldLink_X1_27) (fun _ h9 => h9) rfl (by decide +kernel) rfl rfl (Nat.le_of_ble_eq_true rfl) dX1_over_2 (fun H locs hP hD hS => ?_)
  have hP : va_P (dC, dI) vwCl [(h1, .inr (1, [.int (nI 0), .int (nI n), .ref a1, .ref a2, .ref a3, .ref a4])), (a1, .inl (cL, 8, .inr (.inl (fun z => lN (w z))))), (a2, .inl (cL, 8, .inr (.inl sh))), (a3, .inl (cL, 8, .inr (.inl ke))), (a4, .inl (cZ, 8, .inl go))] H := hP
  have hD : va_D A [(h1, .inr (1, [.int (nI 0), .int (nI n), .ref a1, .ref a2, .ref a3, .ref a4])), (a1, .inl (cL, 8, .inr (.inl (fun z => lN (w z))))), (a2, .inl (cL, 8, .inr (.inl sh))), (a3, .inl (cL, 8, .inr (.inl ke))), (a4, .inl (cZ, 8, .inl go))] := hD
  refine lv_aload_n hx hb dX1_over_5 rfl (lv_at hl 0 rfl) ?_
  refine lv_iload_n hx hb dX1_over_6 rfl (lv_at hl 1 rfl) ?_
  refine sd_calli (va_runS (As := [.int (nI y)]) (rest := [.ref h1]) ⟨hx, hb, hml, hown, hts0⟩ (m_isWay l dC dI (nI y)) (cwS 1 hts0 (sd_gS k_methodLink_X1_59 k_static_X1_isWay k_init_ShareDeskModel k_code_X1_isWay) rfl rfl rfl (by decide +kernel) ⟨Nat.le_of_ble_eq_true rfl, Nat.le_of_ble_eq_true rfl⟩) (sd_preS (sd_K0 hK) (sd_nil _ _ _)) rfl rfl hl.1 rfl (lv_room (Nat.le_of_ble_eq_true rfl)) dX1_over_7 ⟨Nat.zero_le _, Nat.zero_le _⟩) ?_
  refine sd_bz_eq (tgt := 33) hx hb dX1_over_10 (by decide) (fun hc0 => ?_) (fun hc0 => ?_)
  · have hc0 : sd_rg (nI y) 0 2 = false := hc0
    exact absurd hc0 (by rw [sd_rg_nI (by omega) (by omega) (by omega) (by omega)]; decide)
  · have hc0 : sd_rg (nI y) 0 2 = true := hc0
    refine lv_iload_n hx hb dX1_over_13 rfl (lv_at hl 2 rfl) ?_
    refine lv_i2l (v := (nI u).toInt64) hx hb dX1_over_14 rfl ?_
    refine lv_lconst (v := lN 0) hx hb dX1_over_15 rfl ?_
    refine lv_ldc2 (v := 10000) hx hb hown (hts (.constantLong RX1 62 10000) k_constantLong_X1_62) dX1_over_16 ?_
    refine sd_topl (y := lN 10000) (by decide +kernel) ?_
    refine sd_calli (va_runS (As := [.long ((nI u).toInt64), .long (lN 0), .long (lN 10000)]) (rest := [.ref h1]) ⟨hx, hb, hml, hown, hts0⟩ (m_in l dC dI (nI u).toInt64 (lN 0) (lN 10000)) (cwS 3 hts0 (sd_gS k_methodLink_X1_30 k_static_X1_in k_init_ShareDeskModel k_code_X1_in) rfl rfl rfl (by decide +kernel) ⟨Nat.le_of_ble_eq_true rfl, Nat.le_of_ble_eq_true rfl⟩) (sd_preS (sd_K0 hK) (sd_nil _ _ _)) rfl rfl hl.1 rfl (lv_room (Nat.le_of_ble_eq_true rfl)) dX1_over_19 ⟨Nat.zero_le _, Nat.zero_le _⟩) ?_
    refine sd_bz_eq (tgt := 33) hx hb dX1_over_22 (by decide) (fun hc1 => ?_) (fun hc1 => ?_)
    · have hc1 : sd_rg (nI u) 0 10000 = false := hc1
      exact absurd hc1 (by rw [sd_rg_nI (by omega) (by omega) (by omega) (by omega)]; decide)
    · have hc1 : sd_rg (nI u) 0 10000 = true := hc1
      refine lv_aload_n hx hb dX1_over_25 rfl (lv_at hl 0 rfl) ?_
      refine lv_iload_n hx hb dX1_over_26 rfl (lv_at hl 3 rfl) ?_
      refine sd_calli (va_runV (As := [.int (nI q)]) (rest := [.ref h1]) ⟨hx, hb, hml, hown, hts0⟩ (m_isParty l dC dI cL cZ h1 a1 a2 a3 a4 0 n w sh ke go hn1 hn8 (nI q)) (cwV 1 hts0 (sd_gV k_methodLink_X1_42 k_instanceMethod_X1_isParty k_sel_X1_isParty k_init_ShareDeskModel k_code_X1_isParty) rfl rfl rfl (by decide +kernel) ⟨Nat.le_of_ble_eq_true rfl, Nat.le_of_ble_eq_true rfl⟩) (sd_preV hK hP (q0 := 0) (ci := 1) rfl rfl) rfl rfl hl.1 rfl (lv_room (Nat.le_of_ble_eq_true rfl)) dX1_over_27 ⟨Nat.zero_le _, Nat.zero_le _⟩) ?_
      refine sd_bz_ne (tgt := 37) hx hb dX1_over_30 (by decide) (fun hc2 => ?_) (fun hc2 => ?_)
      · have hc2 : sd_rg (nI q) 0 (n - 1) = true := hc2
        refine lv_iconst (v := (nI 0)) hx hb dX1_over_37 (by decide +kernel) ?_
        refine lv_iconst (v := (nI 1)) hx hb dX1_over_38 (by decide +kernel) ?_
        refine sd_calli (va_runV (As := [.int (nI 0), .int (nI 1)]) (rest := []) ⟨hx, hb, hml, hown, hts0⟩ (m_fails0 l dC dI cL cZ h1 a1 a2 a3 a4 0 n w sh ke go rfl 1) (cwV 2 hts0 (sd_gV k_methodLink_X1_38 k_instanceMethod_X1_fails k_sel_X1_fails k_init_ShareDeskModel k_code_X1_fails) rfl rfl rfl (by decide +kernel) ⟨Nat.le_of_ble_eq_true rfl, Nat.le_of_ble_eq_true rfl⟩) (sd_preV hK hP (q0 := 0) (ci := 1) rfl rfl) rfl rfl hl.1 rfl (lv_room (Nat.le_of_ble_eq_true rfl)) dX1_over_39 ⟨Nat.zero_le _, Nat.zero_le _⟩) ?_
        refine sd_iz_ne (a := 0) (tgt := 67) hx hb dX1_over_42 (by decide) (by omega) (fun h => ?_) (fun h => ?_)
        · exact absurd h (by omega)
        · refine lv_aload_n hx hb dX1_over_45 rfl (lv_at hl 0 rfl) ?_
          refine lv_aload_n hx hb dX1_over_46 rfl (lv_at hl 0 rfl) ?_
          refine sd_calll (va_runV (As := []) (rest := [.ref h1]) ⟨hx, hb, hml, hown, hts0⟩ (m_all l dC dI cL cZ h1 a1 a2 a3 a4 0 n w sh ke go hn8) (cwV 0 hts0 (sd_gV k_methodLink_X1_48 k_instanceMethod_X1_all k_sel_X1_all k_init_ShareDeskModel k_code_X1_all) rfl rfl rfl (by decide +kernel) ⟨Nat.le_of_ble_eq_true rfl, Nat.le_of_ble_eq_true rfl⟩) (sd_preV hK hP (q0 := 0) (ci := 1) rfl rfl) rfl rfl hl.1 rfl (lv_room (Nat.le_of_ble_eq_true rfl)) dX1_over_47 ⟨Nat.zero_le _, Nat.zero_le _⟩) ?_
          refine lv_lconst (v := lN 0) hx hb dX1_over_50 rfl ?_
          refine sd_lc_ne (a := sd_sum w n) (b := 0) (tgt := 59) hx hb dX1_over_51 dX1_over_52 (by decide) (by omega) (by omega) (fun h => ?_) (fun h => ?_)
          · exact absurd hz h
          · refine lv_iconst (v := (nI 1)) hx hb dX1_over_55 (by decide +kernel) ?_
            refine lv_goto (tgt := 60) hx hb dX1_over_56 (by decide) ?_
            refine lv_iconst (v := (nI 2)) hx hb dX1_over_60 (by decide +kernel) ?_
            refine sd_wi (va_runV (As := [.int (nI 1), .int (nI 2)]) (rest := []) ⟨hx, hb, hml, hown, hts0⟩ (m_fails1 l dC dI cL cZ h1 a1 a2 a3 a4 0 n w sh ke go H.size rfl 2 (by decide) (by decide)) (cwV 2 hts0 (sd_gV k_methodLink_X1_38 k_instanceMethod_X1_fails k_sel_X1_fails k_init_ShareDeskModel k_code_X1_fails) rfl rfl rfl (by decide +kernel) ⟨Nat.le_of_ble_eq_true rfl, Nat.le_of_ble_eq_true rfl⟩) (sd_preVw hK hP hD (q0 := 0) (ci := 1) rfl rfl) rfl rfl hl.1 rfl (lv_room (Nat.le_of_ble_eq_true rfl)) dX1_over_61 ⟨Nat.zero_le _, Nat.zero_le _⟩) hD hS hA (fun r_ u_ H locs hpo hP hD hS => ?_)
            obtain ⟨sh, ke, go⟩ := u_
            try dsimp only at hpo
            have hP : va_P (dC, dI) vwCl [(h1, .inr (1, [.int (nI 2), .int (nI n), .ref a1, .ref a2, .ref a3, .ref a4])), (a1, .inl (cL, 8, .inr (.inl (fun z => lN (w z))))), (a2, .inl (cL, 8, .inr (.inl sh))), (a3, .inl (cL, 8, .inr (.inl ke))), (a4, .inl (cZ, 8, .inl go))] H := hP
            have hD : va_D A [(h1, .inr (1, [.int (nI 2), .int (nI n), .ref a1, .ref a2, .ref a3, .ref a4])), (a1, .inl (cL, 8, .inr (.inl (fun z => lN (w z))))), (a2, .inl (cL, 8, .inr (.inl sh))), (a3, .inl (cL, 8, .inr (.inl ke))), (a4, .inl (cZ, 8, .inl go))] := hD
            subst hpo
            refine sd_iz_eq (a := 1) (tgt := 69) hx hb dX1_over_64 (by decide) (by omega) (fun h => ?_) (fun h => ?_)
            · exact absurd h (by omega)
            · refine lv_lconst (v := lN 0) hx hb dX1_over_67 rfl ?_
              exact W.lret hx hb hr (fun t ht hW => ⟨⟨_, (sh, ke, go), rfl, rfl, by rw [ht]; exact hP, va_K.moved hW.alike hK, by rw [← hAe]; exact hD⟩, by rw [← hAe]; exact hS.F ht⟩) (fun q hq => by rw [← hAe]; exact hS.2.2 q hq) dX1_over_68
      · have hc2 : sd_rg (nI q) 0 (n - 1) = false := hc2
        exact absurd hc2 (by rw [sd_rg_nI (by omega) (by omega) (by omega) (by omega)]; decide)
set_option maxHeartbeats 4000000 in
set_option maxRecDepth 100000 in
theorem m_over (l : Launch) (dC : Nat → ClassId) (dI : Nat → Nat → Nat) (cL cZ : ClassId) (h1 a1 a2 a3 a4 er n : Nat) (w : Nat → Nat) (sh ke : Nat → Int64) (go : Nat → Int32) (sz : Nat) (ok : sd_ok n w) (hW : 0 < sd_sum w n) (y u q : Nat) (hy : y ≤ 2) (hu : u ≤ 10000) (hq : q < n) : Met l yX1_over (sd_ws yX1_over cX1_over 4 (some .long)) (sd_rm 3 0 0) (sd_Pw (dC, dI) vwCl [(cL, .long), (cZ, .boolean)] (sd_M cL cZ h1 a1 a2 a3 a4 er n w sh ke go) sz [.ref h1, .int (nI y), .int (nI u), .int (nI q)]) (va_Ql (fun r (v_ : sd_S) => r = lN (sd_U y w n u q * sd_sum w n) - lN (u * w q)) (sd_Bw (dC, dI) vwCl [(cL, .long), (cZ, .boolean)] (sd_M cL cZ h1 a1 a2 a3 a4 er n w sh ke go) sz (fun v_ => (sd_M cL cZ h1 a1 a2 a3 a4 0 n w v_.1 v_.2.1 v_.2.2))) (va_A (sd_M cL cZ h1 a1 a2 a3 a4 er n w sh ke go) sz)) 0 0 (va_A (sd_M cL cZ h1 a1 a2 a3 a4 er n w sh ke go) sz) := by
  refine Met.ofW (cc := cX1_over) (maxL := 4) (ret := (some .long)) (by decide) rfl ?_
  intro p e s m args below meth c s₁ B hml hv
  obtain ⟨rfl, hsz, hP, hK, hD0⟩ := hv
  subst hsz
  have hx := B.exec
  have hb := B.bytes
  have hr := B.returns
  have hts0 := atoms_spec (ws := (sd_ws yX1_over cX1_over 4 (some .long))) B.pre
  have hts : ∀ w ∈ sd_WS, w.before _ s = true := fun w h => hts0 w (List.mem_cons_of_mem _ h)
  have hown : s.vm.findClass RX1 = some m.cls := findClass_of_methodNamed B.named
  have hlocks := B.notSynchronized
  have hl := lv_entry ([.ref h1, .int (nI y), .int (nI u), .int (nI q)]) (n := 4) (Nat.le_of_ble_eq_true rfl)
  rw [lg_entry_eq]
  generalize (lg_sl ([.ref h1, .int (nI y), .int (nI u), .int (nI q)]) ++ List.replicate (4 - (lg_sl ([.ref h1, .int (nI y), .int (nI u), .int (nI q)])).length) Slot.unset).toArray = ls at hl ⊢
  have hl : lv_has ls 4 [(0, .ref h1), (1, .int (nI y)), (2, .int (nI u)), (3, .int (nI q))] := hl
  obtain ⟨A, hAe⟩ : ∃ A, A = va_A (sd_M cL cZ h1 a1 a2 a3 a4 er n w sh ke go) s.heap.size := ⟨_, rfl⟩
  have hD : va_D A (sd_M cL cZ h1 a1 a2 a3 a4 er n w sh ke go) := by rw [hAe]; exact hD0.self
  have hA : ∀ q : Nat, s.heap.size ≤ q → A q := fun q h => by rw [hAe]; exact Or.inr h
  have hS : va_S A s.heap s.heap [] := va_S.rf
  have hP : va_P (dC, dI) vwCl [(h1, .inr (1, [.int (nI er), .int (nI n), .ref a1, .ref a2, .ref a3, .ref a4])), (a1, .inl (cL, 8, .inr (.inl (fun z => lN (w z))))), (a2, .inl (cL, 8, .inr (.inl sh))), (a3, .inl (cL, 8, .inr (.inl ke))), (a4, .inl (cZ, 8, .inl go))] s.heap := hP
  have hD : va_D A [(h1, .inr (1, [.int (nI er), .int (nI n), .ref a1, .ref a2, .ref a3, .ref a4])), (a1, .inl (cL, 8, .inr (.inl (fun z => lN (w z))))), (a2, .inl (cL, 8, .inr (.inl sh))), (a3, .inl (cL, 8, .inr (.inl ke))), (a4, .inl (cZ, 8, .inl go))] := hD
  have hn1 := ok.1
  have hn8 := ok.2.1
  have hWl := sd_W_le ok.2.2.1 ok.2.1
  refine lv_aload_n hx hb dX1_over_0 rfl (lv_at hl 0 rfl) ?_
  refine lv_iconst (v := (nI 0)) hx hb dX1_over_1 (by decide +kernel) ?_
  refine va_put (D := (dC, dI)) (ci := 1) (v := .int (nI 0)) (ty := .int) (C := RX1) (T := TX1) (N := 6) hx hb hts u_in_X1 tyX1 tyX1_ok nmX1 hown hK hP hD hS 0 rfl rfl 0 (by decide) (hts (.fieldLink RX1 27 "ShareDeskModel" "err" "I") k_fieldLink_X1_27) (fun _ h9 => h9) rfl (by decide +kernel) rfl rfl (Nat.le_of_ble_eq_true rfl) dX1_over_2 (fun H locs hP hD hS => ?_)
  have hP : va_P (dC, dI) vwCl [(h1, .inr (1, [.int (nI 0), .int (nI n), .ref a1, .ref a2, .ref a3, .ref a4])), (a1, .inl (cL, 8, .inr (.inl (fun z => lN (w z))))), (a2, .inl (cL, 8, .inr (.inl sh))), (a3, .inl (cL, 8, .inr (.inl ke))), (a4, .inl (cZ, 8, .inl go))] H := hP
  have hD : va_D A [(h1, .inr (1, [.int (nI 0), .int (nI n), .ref a1, .ref a2, .ref a3, .ref a4])), (a1, .inl (cL, 8, .inr (.inl (fun z => lN (w z))))), (a2, .inl (cL, 8, .inr (.inl sh))), (a3, .inl (cL, 8, .inr (.inl ke))), (a4, .inl (cZ, 8, .inl go))] := hD
  refine lv_aload_n hx hb dX1_over_5 rfl (lv_at hl 0 rfl) ?_
  refine lv_iload_n hx hb dX1_over_6 rfl (lv_at hl 1 rfl) ?_
  refine sd_calli (va_runS (As := [.int (nI y)]) (rest := [.ref h1]) ⟨hx, hb, hml, hown, hts0⟩ (m_isWay l dC dI (nI y)) (cwS 1 hts0 (sd_gS k_methodLink_X1_59 k_static_X1_isWay k_init_ShareDeskModel k_code_X1_isWay) rfl rfl rfl (by decide +kernel) ⟨Nat.le_of_ble_eq_true rfl, Nat.le_of_ble_eq_true rfl⟩) (sd_preS (sd_K0 hK) (sd_nil _ _ _)) rfl rfl hl.1 rfl (lv_room (Nat.le_of_ble_eq_true rfl)) dX1_over_7 ⟨Nat.zero_le _, Nat.zero_le _⟩) ?_
  refine sd_bz_eq (tgt := 33) hx hb dX1_over_10 (by decide) (fun hc0 => ?_) (fun hc0 => ?_)
  · have hc0 : sd_rg (nI y) 0 2 = false := hc0
    exact absurd hc0 (by rw [sd_rg_nI (by omega) (by omega) (by omega) (by omega)]; decide)
  · have hc0 : sd_rg (nI y) 0 2 = true := hc0
    refine lv_iload_n hx hb dX1_over_13 rfl (lv_at hl 2 rfl) ?_
    refine lv_i2l (v := (nI u).toInt64) hx hb dX1_over_14 rfl ?_
    refine lv_lconst (v := lN 0) hx hb dX1_over_15 rfl ?_
    refine lv_ldc2 (v := 10000) hx hb hown (hts (.constantLong RX1 62 10000) k_constantLong_X1_62) dX1_over_16 ?_
    refine sd_topl (y := lN 10000) (by decide +kernel) ?_
    refine sd_calli (va_runS (As := [.long ((nI u).toInt64), .long (lN 0), .long (lN 10000)]) (rest := [.ref h1]) ⟨hx, hb, hml, hown, hts0⟩ (m_in l dC dI (nI u).toInt64 (lN 0) (lN 10000)) (cwS 3 hts0 (sd_gS k_methodLink_X1_30 k_static_X1_in k_init_ShareDeskModel k_code_X1_in) rfl rfl rfl (by decide +kernel) ⟨Nat.le_of_ble_eq_true rfl, Nat.le_of_ble_eq_true rfl⟩) (sd_preS (sd_K0 hK) (sd_nil _ _ _)) rfl rfl hl.1 rfl (lv_room (Nat.le_of_ble_eq_true rfl)) dX1_over_19 ⟨Nat.zero_le _, Nat.zero_le _⟩) ?_
    refine sd_bz_eq (tgt := 33) hx hb dX1_over_22 (by decide) (fun hc1 => ?_) (fun hc1 => ?_)
    · have hc1 : sd_rg (nI u) 0 10000 = false := hc1
      exact absurd hc1 (by rw [sd_rg_nI (by omega) (by omega) (by omega) (by omega)]; decide)
    · have hc1 : sd_rg (nI u) 0 10000 = true := hc1
      refine lv_aload_n hx hb dX1_over_25 rfl (lv_at hl 0 rfl) ?_
      refine lv_iload_n hx hb dX1_over_26 rfl (lv_at hl 3 rfl) ?_
      refine sd_calli (va_runV (As := [.int (nI q)]) (rest := [.ref h1]) ⟨hx, hb, hml, hown, hts0⟩ (m_isParty l dC dI cL cZ h1 a1 a2 a3 a4 0 n w sh ke go hn1 hn8 (nI q)) (cwV 1 hts0 (sd_gV k_methodLink_X1_42 k_instanceMethod_X1_isParty k_sel_X1_isParty k_init_ShareDeskModel k_code_X1_isParty) rfl rfl rfl (by decide +kernel) ⟨Nat.le_of_ble_eq_true rfl, Nat.le_of_ble_eq_true rfl⟩) (sd_preV hK hP (q0 := 0) (ci := 1) rfl rfl) rfl rfl hl.1 rfl (lv_room (Nat.le_of_ble_eq_true rfl)) dX1_over_27 ⟨Nat.zero_le _, Nat.zero_le _⟩) ?_
      refine sd_bz_ne (tgt := 37) hx hb dX1_over_30 (by decide) (fun hc2 => ?_) (fun hc2 => ?_)
      · have hc2 : sd_rg (nI q) 0 (n - 1) = true := hc2
        refine lv_iconst (v := (nI 0)) hx hb dX1_over_37 (by decide +kernel) ?_
        refine lv_iconst (v := (nI 1)) hx hb dX1_over_38 (by decide +kernel) ?_
        refine sd_calli (va_runV (As := [.int (nI 0), .int (nI 1)]) (rest := []) ⟨hx, hb, hml, hown, hts0⟩ (m_fails0 l dC dI cL cZ h1 a1 a2 a3 a4 0 n w sh ke go rfl 1) (cwV 2 hts0 (sd_gV k_methodLink_X1_38 k_instanceMethod_X1_fails k_sel_X1_fails k_init_ShareDeskModel k_code_X1_fails) rfl rfl rfl (by decide +kernel) ⟨Nat.le_of_ble_eq_true rfl, Nat.le_of_ble_eq_true rfl⟩) (sd_preV hK hP (q0 := 0) (ci := 1) rfl rfl) rfl rfl hl.1 rfl (lv_room (Nat.le_of_ble_eq_true rfl)) dX1_over_39 ⟨Nat.zero_le _, Nat.zero_le _⟩) ?_
        refine sd_iz_ne (a := 0) (tgt := 67) hx hb dX1_over_42 (by decide) (by omega) (fun h => ?_) (fun h => ?_)
        · exact absurd h (by omega)
        · refine lv_aload_n hx hb dX1_over_45 rfl (lv_at hl 0 rfl) ?_
          refine lv_aload_n hx hb dX1_over_46 rfl (lv_at hl 0 rfl) ?_
          refine sd_calll (va_runV (As := []) (rest := [.ref h1]) ⟨hx, hb, hml, hown, hts0⟩ (m_all l dC dI cL cZ h1 a1 a2 a3 a4 0 n w sh ke go hn8) (cwV 0 hts0 (sd_gV k_methodLink_X1_48 k_instanceMethod_X1_all k_sel_X1_all k_init_ShareDeskModel k_code_X1_all) rfl rfl rfl (by decide +kernel) ⟨Nat.le_of_ble_eq_true rfl, Nat.le_of_ble_eq_true rfl⟩) (sd_preV hK hP (q0 := 0) (ci := 1) rfl rfl) rfl rfl hl.1 rfl (lv_room (Nat.le_of_ble_eq_true rfl)) dX1_over_47 ⟨Nat.zero_le _, Nat.zero_le _⟩) ?_
          refine lv_lconst (v := lN 0) hx hb dX1_over_50 rfl ?_
          refine sd_lc_ne (a := sd_sum w n) (b := 0) (tgt := 59) hx hb dX1_over_51 dX1_over_52 (by decide) (by omega) (by omega) (fun h => ?_) (fun h => ?_)
          · refine lv_iconst (v := (nI 0)) hx hb dX1_over_59 (by decide +kernel) ?_
            refine lv_iconst (v := (nI 2)) hx hb dX1_over_60 (by decide +kernel) ?_
            refine sd_calli (va_runV (As := [.int (nI 0), .int (nI 2)]) (rest := []) ⟨hx, hb, hml, hown, hts0⟩ (m_fails0 l dC dI cL cZ h1 a1 a2 a3 a4 0 n w sh ke go rfl 2) (cwV 2 hts0 (sd_gV k_methodLink_X1_38 k_instanceMethod_X1_fails k_sel_X1_fails k_init_ShareDeskModel k_code_X1_fails) rfl rfl rfl (by decide +kernel) ⟨Nat.le_of_ble_eq_true rfl, Nat.le_of_ble_eq_true rfl⟩) (sd_preV hK hP (q0 := 0) (ci := 1) rfl rfl) rfl rfl hl.1 rfl (lv_room (Nat.le_of_ble_eq_true rfl)) dX1_over_61 ⟨Nat.zero_le _, Nat.zero_le _⟩) ?_
            refine sd_iz_eq (a := 0) (tgt := 69) hx hb dX1_over_64 (by decide) (by omega) (fun h => ?_) (fun h => ?_)
            · have hUl := sd_U_le (y := y) (w := w) (m := u) hW hq
              have hwq := ok.2.2.1 q
              refine lv_aload_n hx hb dX1_over_69 rfl (lv_at hl 0 rfl) ?_
              refine lv_iload_n hx hb dX1_over_70 rfl (lv_at hl 1 rfl) ?_
              refine lv_iload_n hx hb dX1_over_71 rfl (lv_at hl 2 rfl) ?_
              refine sd_wv (va_runV (As := [.int (nI y), .int (nI u)]) (rest := []) ⟨hx, hb, hml, hown, hts0⟩ (m_give l dC dI cL cZ h1 a1 a2 a3 a4 0 n w sh ke go H.size ok hW y u hy hu) (cwV 2 hts0 (sd_gV k_methodLink_X1_64 k_instanceMethod_X1_give k_sel_X1_give k_init_ShareDeskModel k_code_X1_give) rfl rfl rfl (by decide +kernel) ⟨Nat.le_of_ble_eq_true rfl, Nat.le_of_ble_eq_true rfl⟩) (sd_preVw hK hP hD (q0 := 0) (ci := 1) rfl rfl) rfl rfl hl.1 rfl (lv_room (Nat.le_of_ble_eq_true rfl)) dX1_over_72 ⟨Nat.zero_le _, Nat.zero_le _⟩) hD hS hA (fun u_ H locs hpo hP hD hS => ?_)
              obtain ⟨sh, ke1, go⟩ := u_
              try dsimp only at hpo
              have hP : va_P (dC, dI) vwCl [(h1, .inr (1, [.int (nI 0), .int (nI n), .ref a1, .ref a2, .ref a3, .ref a4])), (a1, .inl (cL, 8, .inr (.inl (fun z => lN (w z))))), (a2, .inl (cL, 8, .inr (.inl sh))), (a3, .inl (cL, 8, .inr (.inl ke1))), (a4, .inl (cZ, 8, .inl go))] H := hP
              have hD : va_D A [(h1, .inr (1, [.int (nI 0), .int (nI n), .ref a1, .ref a2, .ref a3, .ref a4])), (a1, .inl (cL, 8, .inr (.inl (fun z => lN (w z))))), (a2, .inl (cL, 8, .inr (.inl sh))), (a3, .inl (cL, 8, .inr (.inl ke1))), (a4, .inl (cZ, 8, .inl go))] := hD
              obtain ⟨hpo, hke⟩ := hpo
              rw [hke] at hP hD
              have hP : va_P (dC, dI) vwCl [(h1, .inr (1, [.int (nI 0), .int (nI n), .ref a1, .ref a2, .ref a3, .ref a4])), (a1, .inl (cL, 8, .inr (.inl (fun z => lN (w z))))), (a2, .inl (cL, 8, .inr (.inl sh))), (a3, .inl (cL, 8, .inr (.inl ke))), (a4, .inl (cZ, 8, .inl go))] H := hP
              have hD : va_D A [(h1, .inr (1, [.int (nI 0), .int (nI n), .ref a1, .ref a2, .ref a3, .ref a4])), (a1, .inl (cL, 8, .inr (.inl (fun z => lN (w z))))), (a2, .inl (cL, 8, .inr (.inl sh))), (a3, .inl (cL, 8, .inr (.inl ke))), (a4, .inl (cZ, 8, .inl go))] := hD
              refine lv_aload_n hx hb dX1_over_75 rfl (lv_at hl 0 rfl) ?_
              refine va_get (D := (dC, dI)) (ci := 1) (v := .ref a2) (C := RX1) (T := TX1) (N := 6) hx hb hts u_in_X1 hown hK hP 0 rfl rfl 3 (by decide) (hts (.fieldLink RX1 17 "ShareDeskModel" "shares" "[J") k_fieldLink_X1_17) (fun _ h9 => h9) rfl dX1_over_76 ?_
              refine lv_iload_n hx hb dX1_over_79 rfl (lv_at hl 3 rfl) ?_
              refine sd_lald (j := q) (v := lN (sd_U y w n u q)) hx hb hK hP 2 0 rfl rfl (by omega) (by decide) (hpo q hq) dX1_over_80 ?_
              refine lv_aload_n hx hb dX1_over_81 rfl (lv_at hl 0 rfl) ?_
              refine sd_calll (va_runV (As := []) (rest := [.long (lN (sd_U y w n u q))]) ⟨hx, hb, hml, hown, hts0⟩ (m_all l dC dI cL cZ h1 a1 a2 a3 a4 0 n w sh ke go hn8) (cwV 0 hts0 (sd_gV k_methodLink_X1_48 k_instanceMethod_X1_all k_sel_X1_all k_init_ShareDeskModel k_code_X1_all) rfl rfl rfl (by decide +kernel) ⟨Nat.le_of_ble_eq_true rfl, Nat.le_of_ble_eq_true rfl⟩) (sd_preV hK hP (q0 := 0) (ci := 1) rfl rfl) rfl rfl hl.1 rfl (lv_room (Nat.le_of_ble_eq_true rfl)) dX1_over_82 ⟨Nat.zero_le _, Nat.zero_le _⟩) ?_
              refine sd_lmul (v := lN ((sd_U y w n u q) * (sd_sum w n))) hx hb dX1_over_85 (lN_mul _ _) ?_
              refine lv_iload_n hx hb dX1_over_86 rfl (lv_at hl 2 rfl) ?_
              refine lv_i2l (v := lN u) hx hb dX1_over_87 (nI_l (by omega)) ?_
              refine lv_aload_n hx hb dX1_over_88 rfl (lv_at hl 0 rfl) ?_
              refine va_get (D := (dC, dI)) (ci := 1) (v := .ref a1) (C := RX1) (T := TX1) (N := 6) hx hb hts u_in_X1 hown hK hP 0 rfl rfl 2 (by decide) (hts (.fieldLink RX1 13 "ShareDeskModel" "weights" "[J") k_fieldLink_X1_13) (fun _ h9 => h9) rfl dX1_over_89 ?_
              refine lv_iload_n hx hb dX1_over_92 rfl (lv_at hl 3 rfl) ?_
              refine sd_lald (j := q) (v := lN (w q)) hx hb hK hP 1 0 rfl rfl (by omega) (by decide) rfl dX1_over_93 ?_
              refine sd_lmul (v := lN (u * (w q))) hx hb dX1_over_94 (lN_mul _ _) ?_
              refine sd_lsub (v := lN (sd_U y w n u q * sd_sum w n) - lN (u * w q)) hx hb dX1_over_95 rfl ?_
              exact W.lret hx hb hr (fun t ht hW => ⟨⟨_, (sh, ke, go), rfl, rfl, by rw [ht]; exact hP, va_K.moved hW.alike hK, by rw [← hAe]; exact hD⟩, by rw [← hAe]; exact hS.F ht⟩) (fun q hq => by rw [← hAe]; exact hS.2.2 q hq) dX1_over_96
            · exact absurd h (by omega)
          · exact absurd h (by omega)
      · have hc2 : sd_rg (nI q) 0 (n - 1) = false := hc2
        exact absurd hc2 (by rw [sd_rg_nI (by omega) (by omega) (by omega) (by omega)]; decide)
