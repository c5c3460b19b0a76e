set_option maxHeartbeats 4000000 in
set_option maxRecDepth 100000 in
theorem t_checkWay (l : Launch) (hl9 : l.stackTraces = false) (dC : Nat → ClassId) (dI : Nat → Nat → Nat) (x : Int32) (hbad : x < 0 ∨ nI 2 < x) : sd_MT l yX0_checkWay (sd_ws yX0_checkWay cX0_checkWay 1 none) (sd_rm 6 1 6) (sd_Pt (dC, dI) vwCl [] [] [.int x]) sd_IA := by
  refine sd_MT.ofW (cc := cX0_checkWay) (maxL := 1) (ret := none) (by decide) rfl ?_
  intro p e s m args below meth c s₁ B hml hout hv
  obtain ⟨rfl, hP, hK, hTH⟩ := hv
  have hx := B.exec
  have hb := B.bytes
  have hr := B.returns
  have hts0 := atoms_spec (ws := (sd_ws yX0_checkWay cX0_checkWay 1 none)) B.pre
  have hts : ∀ w ∈ sd_WS, w.before _ s = true := fun w h => hts0 w (List.mem_cons_of_mem _ h)
  have hown : s.vm.findClass RX0 = some m.cls := findClass_of_methodNamed B.named
  have hlocks := B.notSynchronized
  have hl := lv_entry ([.int x]) (n := 1) (Nat.le_of_ble_eq_true rfl)
  rw [lg_entry_eq]
  generalize (lg_sl ([.int x]) ++ List.replicate (1 - (lg_sl ([.int x])).length) Slot.unset).toArray = ls at hl ⊢
  have hl : lv_has ls 1 [(0, .int x)] := hl
  refine lv_iload_n hx hb dX0_checkWay_0 rfl (lv_at hl 0 rfl) ?_
  refine lv_if_lt (tgt := 9) hx hb dX0_checkWay_1 (by decide) (fun h => ?_) (fun h => ?_)
  · obtain ⟨qs, hZ⟩ := hTH.2.2.2.2.2.2.2.2 (66, "there is no such way") (by decide)
    exact sd_throw hx hb hl9 hlocks hout (own := RX0) (cls := sd_IA) (names := sd_up2) (tx := "there is no such way") hown (by decide) (by decide) (sd_own sd_ownIA hts hTH) (hts (.classLink RX0 20 sd_IA) k_classLink_X0_20) (hts (.initialized sd_IA) k_init_java_lang_IllegalArgumentException) hZ (hl.1.trans hml.symm) dX0_checkWay_9 dX0_checkWay_12 dX0_checkWay_13 dX0_checkWay_15 dX0_checkWay_18 (by decide) (by decide) (by decide) (by decide)
  · have hn := h
    refine lv_iload_n hx hb dX0_checkWay_4 rfl (lv_at hl 0 rfl) ?_
    refine lv_iconst (v := (nI 2)) hx hb dX0_checkWay_5 (by decide +kernel) ?_
    refine lv_icmp_le (tgt := 19) hx hb dX0_checkWay_6 (by decide) (fun h => ?_) (fun h => ?_)
    · exact absurd hbad (fun z => z.elim hn (fun z2 => absurd h (Int32.not_le.mpr z2)))
    · obtain ⟨qs, hZ⟩ := hTH.2.2.2.2.2.2.2.2 (66, "there is no such way") (by decide)
      exact sd_throw hx hb hl9 hlocks hout (own := RX0) (cls := sd_IA) (names := sd_up2) (tx := "there is no such way") hown (by decide) (by decide) (sd_own sd_ownIA hts hTH) (hts (.classLink RX0 20 sd_IA) k_classLink_X0_20) (hts (.initialized sd_IA) k_init_java_lang_IllegalArgumentException) hZ (hl.1.trans hml.symm) dX0_checkWay_9 dX0_checkWay_12 dX0_checkWay_13 dX0_checkWay_15 dX0_checkWay_18 (by decide) (by decide) (by decide) (by decide)
set_option maxHeartbeats 4000000 in
set_option maxRecDepth 100000 in
theorem t_checkUnits (l : Launch) (hl9 : l.stackTraces = false) (dC : Nat → ClassId) (dI : Nat → Nat → Nat) (x : Int32) (M : Nat) (hbad : x < 0 ∨ nI M < x) : sd_MT l yX0_checkUnits (sd_ws yX0_checkUnits cX0_checkUnits 2 none) (sd_rm 6 1 6) (sd_Pt (dC, dI) vwCl [] [] [.int x, .int (nI M)]) sd_IA := by
  refine sd_MT.ofW (cc := cX0_checkUnits) (maxL := 2) (ret := none) (by decide) rfl ?_
  intro p e s m args below meth c s₁ B hml hout hv
  obtain ⟨rfl, hP, hK, hTH⟩ := hv
  have hx := B.exec
  have hb := B.bytes
  have hr := B.returns
  have hts0 := atoms_spec (ws := (sd_ws yX0_checkUnits cX0_checkUnits 2 none)) B.pre
  have hts : ∀ w ∈ sd_WS, w.before _ s = true := fun w h => hts0 w (List.mem_cons_of_mem _ h)
  have hown : s.vm.findClass RX0 = some m.cls := findClass_of_methodNamed B.named
  have hlocks := B.notSynchronized
  have hl := lv_entry ([.int x, .int (nI M)]) (n := 2) (Nat.le_of_ble_eq_true rfl)
  rw [lg_entry_eq]
  generalize (lg_sl ([.int x, .int (nI M)]) ++ List.replicate (2 - (lg_sl ([.int x, .int (nI M)])).length) Slot.unset).toArray = ls at hl ⊢
  have hl : lv_has ls 2 [(0, .int x), (1, .int (nI M))] := hl
  refine lv_iload_n hx hb dX0_checkUnits_0 rfl (lv_at hl 0 rfl) ?_
  refine lv_if_lt (tgt := 9) hx hb dX0_checkUnits_1 (by decide) (fun h => ?_) (fun h => ?_)
  · obtain ⟨qs, hZ⟩ := hTH.2.2.2.2.2.2.2.2 (68, "the number of units is out of range") (by decide)
    exact sd_throw hx hb hl9 hlocks hout (own := RX0) (cls := sd_IA) (names := sd_up2) (tx := "the number of units is out of range") hown (by decide) (by decide) (sd_own sd_ownIA hts hTH) (hts (.classLink RX0 20 sd_IA) k_classLink_X0_20) (hts (.initialized sd_IA) k_init_java_lang_IllegalArgumentException) hZ (hl.1.trans hml.symm) dX0_checkUnits_9 dX0_checkUnits_12 dX0_checkUnits_13 dX0_checkUnits_15 dX0_checkUnits_18 (by decide) (by decide) (by decide) (by decide)
  · have hn := h
    refine lv_iload_n hx hb dX0_checkUnits_4 rfl (lv_at hl 0 rfl) ?_
    refine lv_iload_n hx hb dX0_checkUnits_5 rfl (lv_at hl 1 rfl) ?_
    refine lv_icmp_le (tgt := 19) hx hb dX0_checkUnits_6 (by decide) (fun h => ?_) (fun h => ?_)
    · exact absurd hbad (fun z => z.elim hn (fun z2 => absurd h (Int32.not_le.mpr z2)))
    · obtain ⟨qs, hZ⟩ := hTH.2.2.2.2.2.2.2.2 (68, "the number of units is out of range") (by decide)
      exact sd_throw hx hb hl9 hlocks hout (own := RX0) (cls := sd_IA) (names := sd_up2) (tx := "the number of units is out of range") hown (by decide) (by decide) (sd_own sd_ownIA hts hTH) (hts (.classLink RX0 20 sd_IA) k_classLink_X0_20) (hts (.initialized sd_IA) k_init_java_lang_IllegalArgumentException) hZ (hl.1.trans hml.symm) dX0_checkUnits_9 dX0_checkUnits_12 dX0_checkUnits_13 dX0_checkUnits_15 dX0_checkUnits_18 (by decide) (by decide) (by decide) (by decide)
set_option maxHeartbeats 4000000 in
set_option maxRecDepth 100000 in
theorem t_checkParty (l : Launch) (hl9 : l.stackTraces = false) (dC : Nat → ClassId) (dI : Nat → Nat → Nat) (cA : ClassId) (h0 a0 n : Nat) (w : Nat → Nat) (x : Int32) (hbad : x < 0 ∨ nI n ≤ x) : sd_MT l yX0_checkParty (sd_ws yX0_checkParty cX0_checkParty 2 none) (sd_rm 6 1 6) (sd_Pt (dC, dI) vwCl [(cA, .int)] (sd_O cA h0 a0 n w) [.ref h0, .int x]) sd_IA := by
  refine sd_MT.ofW (cc := cX0_checkParty) (maxL := 2) (ret := none) (by decide) rfl ?_
  intro p e s m args below meth c s₁ B hml hout hv
  obtain ⟨rfl, hP, hK, hTH⟩ := hv
  have hx := B.exec
  have hb := B.bytes
  have hr := B.returns
  have hts0 := atoms_spec (ws := (sd_ws yX0_checkParty cX0_checkParty 2 none)) B.pre
  have hts : ∀ w ∈ sd_WS, w.before _ s = true := fun w h => hts0 w (List.mem_cons_of_mem _ h)
  have hown : s.vm.findClass RX0 = some m.cls := findClass_of_methodNamed B.named
  have hlocks := B.notSynchronized
  have hl := lv_entry ([.ref h0, .int x]) (n := 2) (Nat.le_of_ble_eq_true rfl)
  rw [lg_entry_eq]
  generalize (lg_sl ([.ref h0, .int x]) ++ List.replicate (2 - (lg_sl ([.ref h0, .int x])).length) Slot.unset).toArray = ls at hl ⊢
  have hl : lv_has ls 2 [(0, .ref h0), (1, .int x)] := hl
  have hP : va_P (dC, dI) vwCl [(h0, .inr (0, [.ref a0, .int (nI n), .int (nI (sd_sum w n))])), (a0, .inl (cA, 8, .inl (fun i => nI (w i))))] s.heap := hP
  refine lv_iload_n hx hb dX0_checkParty_0 rfl (lv_at hl 1 rfl) ?_
  refine lv_if_lt (tgt := 12) hx hb dX0_checkParty_1 (by decide) (fun h => ?_) (fun h => ?_)
  · obtain ⟨qs, hZ⟩ := hTH.2.2.2.2.2.2.2.2 (70, "there is no such party") (by decide)
    exact sd_throw hx hb hl9 hlocks hout (own := RX0) (cls := sd_IA) (names := sd_up2) (tx := "there is no such party") hown (by decide) (by decide) (sd_own sd_ownIA hts hTH) (hts (.classLink RX0 20 sd_IA) k_classLink_X0_20) (hts (.initialized sd_IA) k_init_java_lang_IllegalArgumentException) hZ (hl.1.trans hml.symm) dX0_checkParty_12 dX0_checkParty_15 dX0_checkParty_16 dX0_checkParty_18 dX0_checkParty_21 (by decide) (by decide) (by decide) (by decide)
  · have hn := h
    refine lv_iload_n hx hb dX0_checkParty_4 rfl (lv_at hl 1 rfl) ?_
    refine lv_aload_n hx hb dX0_checkParty_5 rfl (lv_at hl 0 rfl) ?_
    refine va_get (D := (dC, dI)) (ci := 0) (v := .int (nI n)) (C := RX0) (T := TX0) (N := 3) hx hb hts u_in_X0 hown hK hP 0 rfl rfl 1 (by decide) (hts (.fieldLink RX0 13 "ShareDesk" "parties" "I") k_fieldLink_X0_13) (fun _ h9 => h9) rfl dX0_checkParty_6 ?_
    refine lv_icmp_lt (tgt := 22) hx hb dX0_checkParty_9 (by decide) (fun h => ?_) (fun h => ?_)
    · exact absurd hbad (fun z => z.elim hn (fun z2 => absurd h (Int32.not_lt.mpr z2)))
    · obtain ⟨qs, hZ⟩ := hTH.2.2.2.2.2.2.2.2 (70, "there is no such party") (by decide)
      exact sd_throw hx hb hl9 hlocks hout (own := RX0) (cls := sd_IA) (names := sd_up2) (tx := "there is no such party") hown (by decide) (by decide) (sd_own sd_ownIA hts hTH) (hts (.classLink RX0 20 sd_IA) k_classLink_X0_20) (hts (.initialized sd_IA) k_init_java_lang_IllegalArgumentException) hZ (hl.1.trans hml.symm) dX0_checkParty_12 dX0_checkParty_15 dX0_checkParty_16 dX0_checkParty_18 dX0_checkParty_21 (by decide) (by decide) (by decide) (by decide)
set_option maxHeartbeats 4000000 in
set_option maxRecDepth 100000 in
theorem t_checkTotal (l : Launch) (hl9 : l.stackTraces = false) (dC : Nat → ClassId) (dI : Nat → Nat → Nat) (cA : ClassId) (h0 a0 n : Nat) (w : Nat → Nat) (hz : sd_sum w n = 0) : sd_MT l yX0_checkTotal (sd_ws yX0_checkTotal cX0_checkTotal 1 none) (sd_rm 6 1 6) (sd_Pt (dC, dI) vwCl [(cA, .int)] (sd_O cA h0 a0 n w) [.ref h0]) sd_IS := by
  refine sd_MT.ofW (cc := cX0_checkTotal) (maxL := 1) (ret := none) (by decide) rfl ?_
  intro p e s m args below meth c s₁ B hml hout hv
  obtain ⟨rfl, hP, hK, hTH⟩ := hv
  have hx := B.exec
  have hb := B.bytes
  have hr := B.returns
  have hts0 := atoms_spec (ws := (sd_ws yX0_checkTotal cX0_checkTotal 1 none)) B.pre
  have hts : ∀ w ∈ sd_WS, w.before _ s = true := fun w h => hts0 w (List.mem_cons_of_mem _ h)
  have hown : s.vm.findClass RX0 = some m.cls := findClass_of_methodNamed B.named
  have hlocks := B.notSynchronized
  have hl := lv_entry ([.ref h0]) (n := 1) (Nat.le_of_ble_eq_true rfl)
  rw [lg_entry_eq]
  generalize (lg_sl ([.ref h0]) ++ List.replicate (1 - (lg_sl ([.ref h0])).length) Slot.unset).toArray = ls at hl ⊢
  have hl : lv_has ls 1 [(0, .ref h0)] := hl
  have hP : va_P (dC, dI) vwCl [(h0, .inr (0, [.ref a0, .int (nI n), .int (nI (sd_sum w n))])), (a0, .inl (cA, 8, .inl (fun i => nI (w i))))] s.heap := hP
  refine lv_aload_n hx hb dX0_checkTotal_0 rfl (lv_at hl 0 rfl) ?_
  refine va_get (D := (dC, dI)) (ci := 0) (v := .int (nI (sd_sum w n))) (C := RX0) (T := TX0) (N := 3) hx hb hts u_in_X0 hown hK hP 0 rfl rfl 2 (by decide) (hts (.fieldLink RX0 17 "ShareDesk" "total" "I") k_fieldLink_X0_17) (fun _ h9 => h9) rfl dX0_checkTotal_1 ?_
  refine sd_iz_ne (a := sd_sum w n) (tgt := 17) hx hb dX0_checkTotal_4 (by decide) (by omega) (fun h => ?_) (fun h => ?_)
  · exact absurd h (by omega)
  · obtain ⟨qs, hZ⟩ := hTH.2.2.2.2.2.2.2.2 (74, "all weights are 0") (by decide)
    exact sd_throw hx hb hl9 hlocks hout (own := RX0) (cls := sd_IS) (names := sd_up2) (tx := "all weights are 0") hown (by decide) (by decide) (sd_own sd_ownIS hts hTH) (hts (.classLink RX0 72 sd_IS) k_classLink_X0_72) (hts (.initialized sd_IS) k_init_java_lang_IllegalStateException) hZ (hl.1.trans hml.symm) dX0_checkTotal_7 dX0_checkTotal_10 dX0_checkTotal_11 dX0_checkTotal_13 dX0_checkTotal_16 (by decide) (by decide) (by decide) (by decide)
set_option maxHeartbeats 4000000 in
set_option maxRecDepth 100000 in
theorem t_begin (l : Launch) (hl9 : l.stackTraces = false) (dC : Nat → ClassId) (dI : Nat → Nat → Nat) (cA : ClassId) (h0 a0 n : Nat) (w : Nat → Nat) (x : Int32) (hbad : x < nI 1 ∨ nI 8 < x) : sd_MT l yX0_begin (sd_ws yX0_begin cX0_begin 3 none) (sd_rm 6 1 6) (sd_Pt (dC, dI) vwCl [(cA, .int)] (sd_O cA h0 a0 n w) [.ref h0, .int x]) sd_IA := by
  refine sd_MT.ofW (cc := cX0_begin) (maxL := 3) (ret := none) (by decide) rfl ?_
  intro p e s m args below meth c s₁ B hml hout hv
  obtain ⟨rfl, hP, hK, hTH⟩ := hv
  have hx := B.exec
  have hb := B.bytes
  have hr := B.returns
  have hts0 := atoms_spec (ws := (sd_ws yX0_begin cX0_begin 3 none)) B.pre
  have hts : ∀ w ∈ sd_WS, w.before _ s = true := fun w h => hts0 w (List.mem_cons_of_mem _ h)
  have hown : s.vm.findClass RX0 = some m.cls := findClass_of_methodNamed B.named
  have hlocks := B.notSynchronized
  have hl := lv_entry ([.ref h0, .int x]) (n := 3) (Nat.le_of_ble_eq_true rfl)
  rw [lg_entry_eq]
  generalize (lg_sl ([.ref h0, .int x]) ++ List.replicate (3 - (lg_sl ([.ref h0, .int x])).length) Slot.unset).toArray = ls at hl ⊢
  have hl : lv_has ls 3 [(0, .ref h0), (1, .int x)] := hl
  have hP : va_P (dC, dI) vwCl [(h0, .inr (0, [.ref a0, .int (nI n), .int (nI (sd_sum w n))])), (a0, .inl (cA, 8, .inl (fun i => nI (w i))))] s.heap := hP
  refine lv_iload_n hx hb dX0_begin_0 rfl (lv_at hl 1 rfl) ?_
  refine lv_iconst (v := (nI 1)) hx hb dX0_begin_1 (by decide +kernel) ?_
  refine lv_icmp_lt (tgt := 11) hx hb dX0_begin_2 (by decide) (fun h => ?_) (fun h => ?_)
  · obtain ⟨qs, hZ⟩ := hTH.2.2.2.2.2.2.2.2 (22, "the number of parties is not 1..8") (by decide)
    exact sd_throw hx hb hl9 hlocks hout (own := RX0) (cls := sd_IA) (names := sd_up2) (tx := "the number of parties is not 1..8") hown (by decide) (by decide) (sd_own sd_ownIA hts hTH) (hts (.classLink RX0 20 sd_IA) k_classLink_X0_20) (hts (.initialized sd_IA) k_init_java_lang_IllegalArgumentException) hZ (hl.1.trans hml.symm) dX0_begin_11 dX0_begin_14 dX0_begin_15 dX0_begin_17 dX0_begin_20 (by decide) (by decide) (by decide) (by decide)
  · have hn := h
    refine lv_iload_n hx hb dX0_begin_5 rfl (lv_at hl 1 rfl) ?_
    refine lv_bipush (v := nI 8) hx hb dX0_begin_6 (by decide +kernel) ?_
    refine lv_icmp_le (tgt := 21) hx hb dX0_begin_8 (by decide) (fun h => ?_) (fun h => ?_)
    · exact absurd hbad (fun z => z.elim hn (fun z2 => absurd h (Int32.not_le.mpr z2)))
    · obtain ⟨qs, hZ⟩ := hTH.2.2.2.2.2.2.2.2 (22, "the number of parties is not 1..8") (by decide)
      exact sd_throw hx hb hl9 hlocks hout (own := RX0) (cls := sd_IA) (names := sd_up2) (tx := "the number of parties is not 1..8") hown (by decide) (by decide) (sd_own sd_ownIA hts hTH) (hts (.classLink RX0 20 sd_IA) k_classLink_X0_20) (hts (.initialized sd_IA) k_init_java_lang_IllegalArgumentException) hZ (hl.1.trans hml.symm) dX0_begin_11 dX0_begin_14 dX0_begin_15 dX0_begin_17 dX0_begin_20 (by decide) (by decide) (by decide) (by decide)
set_option maxHeartbeats 4000000 in
set_option maxRecDepth 100000 in
theorem t_count (l : Launch) (hl9 : l.stackTraces = false) (dC : Nat → ClassId) (dI : Nat → Nat → Nat) (cA : ClassId) (h0 a0 n : Nat) (w : Nat → Nat) (x : Int32) (hbad : x.toInt < 0 ∨ 2 < x.toInt) : sd_MT l yX0_count (sd_ws yX0_count cX0_count 2 (some .int)) (sd_rm 6 1 6) (sd_Pt (dC, dI) vwCl [(cA, .int)] (sd_O cA h0 a0 n w) [.ref h0, .int x]) sd_IA := by
  refine sd_MT.ofW (cc := cX0_count) (maxL := 2) (ret := (some .int)) (by decide) rfl ?_
  intro p e s m args below meth c s₁ B hml hout hv
  obtain ⟨rfl, hP, hK, hTH⟩ := hv
  have hx := B.exec
  have hb := B.bytes
  have hr := B.returns
  have hts0 := atoms_spec (ws := (sd_ws yX0_count cX0_count 2 (some .int))) B.pre
  have hts : ∀ w ∈ sd_WS, w.before _ s = true := fun w h => hts0 w (List.mem_cons_of_mem _ h)
  have hown : s.vm.findClass RX0 = some m.cls := findClass_of_methodNamed B.named
  have hlocks := B.notSynchronized
  have hl := lv_entry ([.ref h0, .int x]) (n := 2) (Nat.le_of_ble_eq_true rfl)
  rw [lg_entry_eq]
  generalize (lg_sl ([.ref h0, .int x]) ++ List.replicate (2 - (lg_sl ([.ref h0, .int x])).length) Slot.unset).toArray = ls at hl ⊢
  have hl : lv_has ls 2 [(0, .ref h0), (1, .int x)] := hl
  have hP : va_P (dC, dI) vwCl [(h0, .inr (0, [.ref a0, .int (nI n), .int (nI (sd_sum w n))])), (a0, .inl (cA, 8, .inl (fun i => nI (w i))))] s.heap := hP
  refine lv_iload_n hx hb dX0_count_0 rfl (lv_at hl 1 rfl) ?_
  refine lv_tableOut (tgt := 43) hx hb dX0_count_1 hbad (by decide) ?_
  obtain ⟨qs, hZ⟩ := hTH.2.2.2.2.2.2.2.2 (64, "there is no such count") (by decide)
  exact sd_throw hx hb hl9 hlocks hout (own := RX0) (cls := sd_IA) (names := sd_up2) (tx := "there is no such count") hown (by decide) (by decide) (sd_own sd_ownIA hts hTH) (hts (.classLink RX0 20 sd_IA) k_classLink_X0_20) (hts (.initialized sd_IA) k_init_java_lang_IllegalArgumentException) hZ (hl.1.trans hml.symm) dX0_count_43 dX0_count_46 dX0_count_47 dX0_count_49 dX0_count_52 (by decide) (by decide) (by decide) (by decide)
set_option maxHeartbeats 4000000 in
set_option maxRecDepth 100000 in
theorem t_weight1 (l : Launch) (hl9 : l.stackTraces = false) (dC : Nat → ClassId) (dI : Nat → Nat → Nat) (cA : ClassId) (h0 a0 n : Nat) (w : Nat → Nat) (x z : Int32) (hbad : x < 0 ∨ nI n ≤ x) : sd_MT l yX0_weight (sd_ws yX0_weight cX0_weight 4 (some .int)) (sd_rm 7 1 6) (sd_Pt (dC, dI) vwCl [(cA, .int)] (sd_O cA h0 a0 n w) [.ref h0, .int x, .int z]) sd_IA := by
  refine sd_MT.ofW (cc := cX0_weight) (maxL := 4) (ret := (some .int)) (by decide) rfl ?_
  intro p e s m args below meth c s₁ B hml hout hv
  obtain ⟨rfl, hP, hK, hTH⟩ := hv
  have hx := B.exec
  have hb := B.bytes
  have hr := B.returns
  have hts0 := atoms_spec (ws := (sd_ws yX0_weight cX0_weight 4 (some .int))) B.pre
  have hts : ∀ w ∈ sd_WS, w.before _ s = true := fun w h => hts0 w (List.mem_cons_of_mem _ h)
  have hown : s.vm.findClass RX0 = some m.cls := findClass_of_methodNamed B.named
  have hlocks := B.notSynchronized
  have hl := lv_entry ([.ref h0, .int x, .int z]) (n := 4) (Nat.le_of_ble_eq_true rfl)
  rw [lg_entry_eq]
  generalize (lg_sl ([.ref h0, .int x, .int z]) ++ List.replicate (4 - (lg_sl ([.ref h0, .int x, .int z])).length) Slot.unset).toArray = ls at hl ⊢
  have hl : lv_has ls 4 [(0, .ref h0), (1, .int x), (2, .int z)] := hl
  have hP : va_P (dC, dI) vwCl [(h0, .inr (0, [.ref a0, .int (nI n), .int (nI (sd_sum w n))])), (a0, .inl (cA, 8, .inl (fun i => nI (w i))))] s.heap := hP
  refine lv_aload_n hx hb dX0_weight_0 rfl (lv_at hl 0 rfl) ?_
  refine lv_iload_n hx hb dX0_weight_1 rfl (lv_at hl 1 rfl) ?_
  exact sd_thrV (As := [.int x]) (rest := []) ⟨hx, hb, hml, hown, hts0⟩ (t_checkParty l hl9 dC dI cA h0 a0 n w x hbad) (cwV 1 hts0 (sd_gV k_methodLink_X0_27 k_instanceMethod_X0_checkParty k_sel_X0_checkParty k_init_ShareDesk k_code_X0_checkParty) rfl rfl rfl (by decide +kernel) ⟨Nat.le_of_ble_eq_true rfl, Nat.le_of_ble_eq_true rfl⟩) (sd_preVt hK hP hTH (q0 := 0) (ci := 0) rfl rfl) rfl hl.1 rfl (lv_room (Nat.le_of_ble_eq_true rfl)) dX0_weight_2 ⟨Nat.le_refl _, Nat.le_refl _⟩ (sd_out hout hlocks)
set_option maxHeartbeats 4000000 in
set_option maxRecDepth 100000 in
theorem t_weight2 (l : Launch) (hl9 : l.stackTraces = false) (dC : Nat → ClassId) (dI : Nat → Nat → Nat) (cA : ClassId) (h0 a0 n : Nat) (w : Nat → Nat) (ok : sd_ok n w) (q : Nat) (hq : q < n) (z : Int32) (hbad : z < 0 ∨ nI 100000 < z) : sd_MT l yX0_weight (sd_ws yX0_weight cX0_weight 4 (some .int)) (sd_rm 7 1 6) (sd_Pt (dC, dI) vwCl [(cA, .int)] (sd_O cA h0 a0 n w) [.ref h0, .int (nI q), .int z]) sd_IA := by
  refine sd_MT.ofW (cc := cX0_weight) (maxL := 4) (ret := (some .int)) (by decide) rfl ?_
  intro p e s m args below meth c s₁ B hml hout hv
  obtain ⟨rfl, hP, hK, hTH⟩ := hv
  have hx := B.exec
  have hb := B.bytes
  have hr := B.returns
  have hts0 := atoms_spec (ws := (sd_ws yX0_weight cX0_weight 4 (some .int))) B.pre
  have hts : ∀ w ∈ sd_WS, w.before _ s = true := fun w h => hts0 w (List.mem_cons_of_mem _ h)
  have hown : s.vm.findClass RX0 = some m.cls := findClass_of_methodNamed B.named
  have hlocks := B.notSynchronized
  have hl := lv_entry ([.ref h0, .int (nI q), .int z]) (n := 4) (Nat.le_of_ble_eq_true rfl)
  rw [lg_entry_eq]
  generalize (lg_sl ([.ref h0, .int (nI q), .int z]) ++ List.replicate (4 - (lg_sl ([.ref h0, .int (nI q), .int z])).length) Slot.unset).toArray = ls at hl ⊢
  have hl : lv_has ls 4 [(0, .ref h0), (1, .int (nI q)), (2, .int z)] := hl
  have hP : va_P (dC, dI) vwCl [(h0, .inr (0, [.ref a0, .int (nI n), .int (nI (sd_sum w n))])), (a0, .inl (cA, 8, .inl (fun i => nI (w i))))] s.heap := hP
  refine lv_aload_n hx hb dX0_weight_0 rfl (lv_at hl 0 rfl) ?_
  refine lv_iload_n hx hb dX0_weight_1 rfl (lv_at hl 1 rfl) ?_
  refine sd_callv (va_runV (As := [.int (nI q)]) (rest := []) ⟨hx, hb, hml, hown, hts0⟩ (c_checkParty l dC dI cA h0 a0 n w ok q hq) (cwV 1 hts0 (sd_gV k_methodLink_X0_27 k_instanceMethod_X0_checkParty k_sel_X0_checkParty k_init_ShareDesk k_code_X0_checkParty) rfl rfl rfl (by decide +kernel) ⟨Nat.le_of_ble_eq_true rfl, Nat.le_of_ble_eq_true rfl⟩) (sd_preV hK hP (q0 := 0) (ci := 0) rfl rfl) rfl rfl hl.1 rfl (lv_room (Nat.le_of_ble_eq_true rfl)) dX0_weight_2 ⟨Nat.zero_le _, Nat.zero_le _⟩) ?_
  refine lv_iload_n hx hb dX0_weight_5 rfl (lv_at hl 2 rfl) ?_
  refine lv_if_lt (tgt := 15) hx hb dX0_weight_6 (by decide) (fun h => ?_) (fun h => ?_)
  · obtain ⟨qs, hZ⟩ := hTH.2.2.2.2.2.2.2.2 (32, "the weight is not 0..100000") (by decide)
    exact sd_throw hx hb hl9 hlocks hout (own := RX0) (cls := sd_IA) (names := sd_up2) (tx := "the weight is not 0..100000") hown (by decide) (by decide) (sd_own sd_ownIA hts hTH) (hts (.classLink RX0 20 sd_IA) k_classLink_X0_20) (hts (.initialized sd_IA) k_init_java_lang_IllegalArgumentException) hZ (hl.1.trans hml.symm) dX0_weight_15 dX0_weight_18 dX0_weight_19 dX0_weight_21 dX0_weight_24 (by decide) (by decide) (by decide) (by decide)
  · have hn := h
    refine lv_iload_n hx hb dX0_weight_9 rfl (lv_at hl 2 rfl) ?_
    refine lv_ldc (v := 100000) hx hb hown (hts (.constant RX0 31 100000) k_constant_X0_31) dX0_weight_10 ?_
    refine sd_topi (y := nI 100000) (by decide +kernel) ?_
    refine lv_icmp_le (tgt := 25) hx hb dX0_weight_12 (by decide) (fun h => ?_) (fun h => ?_)
    · exact absurd hbad (fun z => z.elim hn (fun z2 => absurd h (Int32.not_le.mpr z2)))
    · obtain ⟨qs, hZ⟩ := hTH.2.2.2.2.2.2.2.2 (32, "the weight is not 0..100000") (by decide)
      exact sd_throw hx hb hl9 hlocks hout (own := RX0) (cls := sd_IA) (names := sd_up2) (tx := "the weight is not 0..100000") hown (by decide) (by decide) (sd_own sd_ownIA hts hTH) (hts (.classLink RX0 20 sd_IA) k_classLink_X0_20) (hts (.initialized sd_IA) k_init_java_lang_IllegalArgumentException) hZ (hl.1.trans hml.symm) dX0_weight_15 dX0_weight_18 dX0_weight_19 dX0_weight_21 dX0_weight_24 (by decide) (by decide) (by decide) (by decide)
set_option maxHeartbeats 4000000 in
set_option maxRecDepth 100000 in
theorem t_share1 (l : Launch) (hl9 : l.stackTraces = false) (dC : Nat → ClassId) (dI : Nat → Nat → Nat) (cA : ClassId) (h0 a0 n : Nat) (w : Nat → Nat) (x z1 z2 : Int32) (hbad : x < 0 ∨ nI 2 < x) : sd_MT l yX0_share (sd_ws yX0_share cX0_share 4 (some .int)) (sd_rm 7 1 6) (sd_Pt (dC, dI) vwCl [(cA, .int)] (sd_O cA h0 a0 n w) [.ref h0, .int x, .int z1, .int z2]) sd_IA := by
  refine sd_MT.ofW (cc := cX0_share) (maxL := 4) (ret := (some .int)) (by decide) rfl ?_
  intro p e s m args below meth c s₁ B hml hout hv
  obtain ⟨rfl, hP, hK, hTH⟩ := hv
  have hx := B.exec
  have hb := B.bytes
  have hr := B.returns
  have hts0 := atoms_spec (ws := (sd_ws yX0_share cX0_share 4 (some .int))) B.pre
  have hts : ∀ w ∈ sd_WS, w.before _ s = true := fun w h => hts0 w (List.mem_cons_of_mem _ h)
  have hown : s.vm.findClass RX0 = some m.cls := findClass_of_methodNamed B.named
  have hlocks := B.notSynchronized
  have hl := lv_entry ([.ref h0, .int x, .int z1, .int z2]) (n := 4) (Nat.le_of_ble_eq_true rfl)
  rw [lg_entry_eq]
  generalize (lg_sl ([.ref h0, .int x, .int z1, .int z2]) ++ List.replicate (4 - (lg_sl ([.ref h0, .int x, .int z1, .int z2])).length) Slot.unset).toArray = ls at hl ⊢
  have hl : lv_has ls 4 [(0, .ref h0), (1, .int x), (2, .int z1), (3, .int z2)] := hl
  have hP : va_P (dC, dI) vwCl [(h0, .inr (0, [.ref a0, .int (nI n), .int (nI (sd_sum w n))])), (a0, .inl (cA, 8, .inl (fun i => nI (w i))))] s.heap := hP
  refine lv_iload_n hx hb dX0_share_0 rfl (lv_at hl 1 rfl) ?_
  exact sd_thrS (As := [.int x]) (rest := []) ⟨hx, hb, hml, hown, hts0⟩ (t_checkWay l hl9 dC dI x hbad) (cwS 1 hts0 (sd_gS k_methodLink_X0_34 k_static_X0_checkWay k_init_ShareDesk k_code_X0_checkWay) rfl rfl rfl (by decide +kernel) ⟨Nat.le_of_ble_eq_true rfl, Nat.le_of_ble_eq_true rfl⟩) (sd_preSt (sd_K0 hK) (sd_nil _ _ _) hTH) rfl hl.1 rfl (lv_room (Nat.le_of_ble_eq_true rfl)) dX0_share_1 ⟨Nat.le_refl _, Nat.le_refl _⟩ (sd_out hout hlocks)
set_option maxHeartbeats 4000000 in
set_option maxRecDepth 100000 in
theorem t_share2 (l : Launch) (hl9 : l.stackTraces = false) (dC : Nat → ClassId) (dI : Nat → Nat → Nat) (cA : ClassId) (h0 a0 n : Nat) (w : Nat → Nat) (y : Nat) (hy : y ≤ 2) (x z2 : Int32) (hbad : x < 0 ∨ nI 10000 < x) : sd_MT l yX0_share (sd_ws yX0_share cX0_share 4 (some .int)) (sd_rm 7 1 6) (sd_Pt (dC, dI) vwCl [(cA, .int)] (sd_O cA h0 a0 n w) [.ref h0, .int (nI y), .int x, .int z2]) sd_IA := by
  refine sd_MT.ofW (cc := cX0_share) (maxL := 4) (ret := (some .int)) (by decide) rfl ?_
  intro p e s m args below meth c s₁ B hml hout hv
  obtain ⟨rfl, hP, hK, hTH⟩ := hv
  have hx := B.exec
  have hb := B.bytes
  have hr := B.returns
  have hts0 := atoms_spec (ws := (sd_ws yX0_share cX0_share 4 (some .int))) B.pre
  have hts : ∀ w ∈ sd_WS, w.before _ s = true := fun w h => hts0 w (List.mem_cons_of_mem _ h)
  have hown : s.vm.findClass RX0 = some m.cls := findClass_of_methodNamed B.named
  have hlocks := B.notSynchronized
  have hl := lv_entry ([.ref h0, .int (nI y), .int x, .int z2]) (n := 4) (Nat.le_of_ble_eq_true rfl)
  rw [lg_entry_eq]
  generalize (lg_sl ([.ref h0, .int (nI y), .int x, .int z2]) ++ List.replicate (4 - (lg_sl ([.ref h0, .int (nI y), .int x, .int z2])).length) Slot.unset).toArray = ls at hl ⊢
  have hl : lv_has ls 4 [(0, .ref h0), (1, .int (nI y)), (2, .int x), (3, .int z2)] := hl
  have hP : va_P (dC, dI) vwCl [(h0, .inr (0, [.ref a0, .int (nI n), .int (nI (sd_sum w n))])), (a0, .inl (cA, 8, .inl (fun i => nI (w i))))] s.heap := hP
  refine lv_iload_n hx hb dX0_share_0 rfl (lv_at hl 1 rfl) ?_
  refine sd_callv (va_runS (As := [.int (nI y)]) (rest := []) ⟨hx, hb, hml, hown, hts0⟩ (c_checkWay l dC dI y hy) (cwS 1 hts0 (sd_gS k_methodLink_X0_34 k_static_X0_checkWay k_init_ShareDesk k_code_X0_checkWay) rfl rfl rfl (by decide +kernel) ⟨Nat.le_of_ble_eq_true rfl, Nat.le_of_ble_eq_true rfl⟩) (sd_preS (sd_K0 hK) (sd_nil _ _ _)) rfl rfl hl.1 rfl (lv_room (Nat.le_of_ble_eq_true rfl)) dX0_share_1 ⟨Nat.zero_le _, Nat.zero_le _⟩) ?_
  refine lv_iload_n hx hb dX0_share_4 rfl (lv_at hl 2 rfl) ?_
  refine lv_sipush (v := nI 10000) hx hb dX0_share_5 (by decide +kernel) ?_
  exact sd_thrS (As := [.int x, .int (nI 10000)]) (rest := []) ⟨hx, hb, hml, hown, hts0⟩ (t_checkUnits l hl9 dC dI x 10000 hbad) (cwS 2 hts0 (sd_gS k_methodLink_X0_37 k_static_X0_checkUnits k_init_ShareDesk k_code_X0_checkUnits) rfl rfl rfl (by decide +kernel) ⟨Nat.le_of_ble_eq_true rfl, Nat.le_of_ble_eq_true rfl⟩) (sd_preSt (sd_K0 hK) (sd_nil _ _ _) hTH) rfl hl.1 rfl (lv_room (Nat.le_of_ble_eq_true rfl)) dX0_share_8 ⟨Nat.le_refl _, Nat.le_refl _⟩ (sd_out hout hlocks)
set_option maxHeartbeats 4000000 in
set_option maxRecDepth 100000 in
theorem t_share3 (l : Launch) (hl9 : l.stackTraces = false) (dC : Nat → ClassId) (dI : Nat → Nat → Nat) (cA : ClassId) (h0 a0 n : Nat) (w : Nat → Nat) (y u : Nat) (hy : y ≤ 2) (hu : u ≤ 10000) (x : Int32) (hbad : x < 0 ∨ nI n ≤ x) : sd_MT l yX0_share (sd_ws yX0_share cX0_share 4 (some .int)) (sd_rm 7 1 6) (sd_Pt (dC, dI) vwCl [(cA, .int)] (sd_O cA h0 a0 n w) [.ref h0, .int (nI y), .int (nI u), .int x]) sd_IA := by
  refine sd_MT.ofW (cc := cX0_share) (maxL := 4) (ret := (some .int)) (by decide) rfl ?_
  intro p e s m args below meth c s₁ B hml hout hv
  obtain ⟨rfl, hP, hK, hTH⟩ := hv
  have hx := B.exec
  have hb := B.bytes
  have hr := B.returns
  have hts0 := atoms_spec (ws := (sd_ws yX0_share cX0_share 4 (some .int))) B.pre
  have hts : ∀ w ∈ sd_WS, w.before _ s = true := fun w h => hts0 w (List.mem_cons_of_mem _ h)
  have hown : s.vm.findClass RX0 = some m.cls := findClass_of_methodNamed B.named
  have hlocks := B.notSynchronized
  have hl := lv_entry ([.ref h0, .int (nI y), .int (nI u), .int x]) (n := 4) (Nat.le_of_ble_eq_true rfl)
  rw [lg_entry_eq]
  generalize (lg_sl ([.ref h0, .int (nI y), .int (nI u), .int x]) ++ List.replicate (4 - (lg_sl ([.ref h0, .int (nI y), .int (nI u), .int x])).length) Slot.unset).toArray = ls at hl ⊢
  have hl : lv_has ls 4 [(0, .ref h0), (1, .int (nI y)), (2, .int (nI u)), (3, .int x)] := hl
  have hP : va_P (dC, dI) vwCl [(h0, .inr (0, [.ref a0, .int (nI n), .int (nI (sd_sum w n))])), (a0, .inl (cA, 8, .inl (fun i => nI (w i))))] s.heap := hP
  refine lv_iload_n hx hb dX0_share_0 rfl (lv_at hl 1 rfl) ?_
  refine sd_callv (va_runS (As := [.int (nI y)]) (rest := []) ⟨hx, hb, hml, hown, hts0⟩ (c_checkWay l dC dI y hy) (cwS 1 hts0 (sd_gS k_methodLink_X0_34 k_static_X0_checkWay k_init_ShareDesk k_code_X0_checkWay) rfl rfl rfl (by decide +kernel) ⟨Nat.le_of_ble_eq_true rfl, Nat.le_of_ble_eq_true rfl⟩) (sd_preS (sd_K0 hK) (sd_nil _ _ _)) rfl rfl hl.1 rfl (lv_room (Nat.le_of_ble_eq_true rfl)) dX0_share_1 ⟨Nat.zero_le _, Nat.zero_le _⟩) ?_
  refine lv_iload_n hx hb dX0_share_4 rfl (lv_at hl 2 rfl) ?_
  refine lv_sipush (v := nI 10000) hx hb dX0_share_5 (by decide +kernel) ?_
  refine sd_callv (va_runS (As := [.int (nI u), .int (nI 10000)]) (rest := []) ⟨hx, hb, hml, hown, hts0⟩ (c_checkUnits l dC dI u 10000 hu (by omega)) (cwS 2 hts0 (sd_gS k_methodLink_X0_37 k_static_X0_checkUnits k_init_ShareDesk k_code_X0_checkUnits) rfl rfl rfl (by decide +kernel) ⟨Nat.le_of_ble_eq_true rfl, Nat.le_of_ble_eq_true rfl⟩) (sd_preS (sd_K0 hK) (sd_nil _ _ _)) rfl rfl hl.1 rfl (lv_room (Nat.le_of_ble_eq_true rfl)) dX0_share_8 ⟨Nat.zero_le _, Nat.zero_le _⟩) ?_
  refine lv_aload_n hx hb dX0_share_11 rfl (lv_at hl 0 rfl) ?_
  refine lv_iload_n hx hb dX0_share_12 rfl (lv_at hl 3 rfl) ?_
  exact sd_thrV (As := [.int x]) (rest := []) ⟨hx, hb, hml, hown, hts0⟩ (t_checkParty l hl9 dC dI cA h0 a0 n w x hbad) (cwV 1 hts0 (sd_gV k_methodLink_X0_27 k_instanceMethod_X0_checkParty k_sel_X0_checkParty k_init_ShareDesk k_code_X0_checkParty) rfl rfl rfl (by decide +kernel) ⟨Nat.le_of_ble_eq_true rfl, Nat.le_of_ble_eq_true rfl⟩) (sd_preVt hK hP hTH (q0 := 0) (ci := 0) rfl rfl) rfl hl.1 rfl (lv_room (Nat.le_of_ble_eq_true rfl)) dX0_share_13 ⟨Nat.le_refl _, Nat.le_refl _⟩ (sd_out hout hlocks)
set_option maxHeartbeats 4000000 in
set_option maxRecDepth 100000 in
theorem t_share4 (l : Launch) (hl9 : l.stackTraces = false) (dC : Nat → ClassId) (dI : Nat → Nat → Nat) (cA : ClassId) (h0 a0 n : Nat) (w : Nat → Nat) (ok : sd_ok n w) (y u q : Nat) (hy : y ≤ 2) (hu : u ≤ 10000) (hq : q < n) (hz : sd_sum w n = 0) : sd_MT l yX0_share (sd_ws yX0_share cX0_share 4 (some .int)) (sd_rm 7 1 6) (sd_Pt (dC, dI) vwCl [(cA, .int)] (sd_O cA h0 a0 n w) [.ref h0, .int (nI y), .int (nI u), .int (nI q)]) sd_IS := by
  refine sd_MT.ofW (cc := cX0_share) (maxL := 4) (ret := (some .int)) (by decide) rfl ?_
  intro p e s m args below meth c s₁ B hml hout hv
  obtain ⟨rfl, hP, hK, hTH⟩ := hv
  have hx := B.exec
  have hb := B.bytes
  have hr := B.returns
  have hts0 := atoms_spec (ws := (sd_ws yX0_share cX0_share 4 (some .int))) B.pre
  have hts : ∀ w ∈ sd_WS, w.before _ s = true := fun w h => hts0 w (List.mem_cons_of_mem _ h)
  have hown : s.vm.findClass RX0 = some m.cls := findClass_of_methodNamed B.named
  have hlocks := B.notSynchronized
  have hl := lv_entry ([.ref h0, .int (nI y), .int (nI u), .int (nI q)]) (n := 4) (Nat.le_of_ble_eq_true rfl)
  rw [lg_entry_eq]
  generalize (lg_sl ([.ref h0, .int (nI y), .int (nI u), .int (nI q)]) ++ List.replicate (4 - (lg_sl ([.ref h0, .int (nI y), .int (nI u), .int (nI q)])).length) Slot.unset).toArray = ls at hl ⊢
  have hl : lv_has ls 4 [(0, .ref h0), (1, .int (nI y)), (2, .int (nI u)), (3, .int (nI q))] := hl
  have hP : va_P (dC, dI) vwCl [(h0, .inr (0, [.ref a0, .int (nI n), .int (nI (sd_sum w n))])), (a0, .inl (cA, 8, .inl (fun i => nI (w i))))] s.heap := hP
  refine lv_iload_n hx hb dX0_share_0 rfl (lv_at hl 1 rfl) ?_
  refine sd_callv (va_runS (As := [.int (nI y)]) (rest := []) ⟨hx, hb, hml, hown, hts0⟩ (c_checkWay l dC dI y hy) (cwS 1 hts0 (sd_gS k_methodLink_X0_34 k_static_X0_checkWay k_init_ShareDesk k_code_X0_checkWay) rfl rfl rfl (by decide +kernel) ⟨Nat.le_of_ble_eq_true rfl, Nat.le_of_ble_eq_true rfl⟩) (sd_preS (sd_K0 hK) (sd_nil _ _ _)) rfl rfl hl.1 rfl (lv_room (Nat.le_of_ble_eq_true rfl)) dX0_share_1 ⟨Nat.zero_le _, Nat.zero_le _⟩) ?_
  refine lv_iload_n hx hb dX0_share_4 rfl (lv_at hl 2 rfl) ?_
  refine lv_sipush (v := nI 10000) hx hb dX0_share_5 (by decide +kernel) ?_
  refine sd_callv (va_runS (As := [.int (nI u), .int (nI 10000)]) (rest := []) ⟨hx, hb, hml, hown, hts0⟩ (c_checkUnits l dC dI u 10000 hu (by omega)) (cwS 2 hts0 (sd_gS k_methodLink_X0_37 k_static_X0_checkUnits k_init_ShareDesk k_code_X0_checkUnits) rfl rfl rfl (by decide +kernel) ⟨Nat.le_of_ble_eq_true rfl, Nat.le_of_ble_eq_true rfl⟩) (sd_preS (sd_K0 hK) (sd_nil _ _ _)) rfl rfl hl.1 rfl (lv_room (Nat.le_of_ble_eq_true rfl)) dX0_share_8 ⟨Nat.zero_le _, Nat.zero_le _⟩) ?_
  refine lv_aload_n hx hb dX0_share_11 rfl (lv_at hl 0 rfl) ?_
  refine lv_iload_n hx hb dX0_share_12 rfl (lv_at hl 3 rfl) ?_
  refine sd_callv (va_runV (As := [.int (nI q)]) (rest := []) ⟨hx, hb, hml, hown, hts0⟩ (c_checkParty l dC dI cA h0 a0 n w ok q hq) (cwV 1 hts0 (sd_gV k_methodLink_X0_27 k_instanceMethod_X0_checkParty k_sel_X0_checkParty k_init_ShareDesk k_code_X0_checkParty) rfl rfl rfl (by decide +kernel) ⟨Nat.le_of_ble_eq_true rfl, Nat.le_of_ble_eq_true rfl⟩) (sd_preV hK hP (q0 := 0) (ci := 0) rfl rfl) rfl rfl hl.1 rfl (lv_room (Nat.le_of_ble_eq_true rfl)) dX0_share_13 ⟨Nat.zero_le _, Nat.zero_le _⟩) ?_
  refine lv_aload_n hx hb dX0_share_16 rfl (lv_at hl 0 rfl) ?_
  exact sd_thrV (As := []) (rest := []) ⟨hx, hb, hml, hown, hts0⟩ (t_checkTotal l hl9 dC dI cA h0 a0 n w hz) (cwV 0 hts0 (sd_gV k_methodLink_X0_41 k_instanceMethod_X0_checkTotal k_sel_X0_checkTotal k_init_ShareDesk k_code_X0_checkTotal) rfl rfl rfl (by decide +kernel) ⟨Nat.le_of_ble_eq_true rfl, Nat.le_of_ble_eq_true rfl⟩) (sd_preVt hK hP hTH (q0 := 0) (ci := 0) rfl rfl) rfl hl.1 rfl (lv_room (Nat.le_of_ble_eq_true rfl)) dX0_share_17 ⟨Nat.le_refl _, Nat.le_refl _⟩ (sd_out hout hlocks)
set_option maxHeartbeats 4000000 in
set_option maxRecDepth 100000 in
theorem t_over1 (l : Launch) (hl9 : l.stackTraces = false) (dC : Nat → ClassId) (dI : Nat → Nat → Nat) (cA : ClassId) (h0 a0 n : Nat) (w : Nat → Nat) (x z1 z2 : Int32) (hbad : x < 0 ∨ nI 2 < x) : sd_MT l yX0_over (sd_ws yX0_over cX0_over 4 (some .long)) (sd_rm 7 1 6) (sd_Pt (dC, dI) vwCl [(cA, .int)] (sd_O cA h0 a0 n w) [.ref h0, .int x, .int z1, .int z2]) sd_IA := by
  refine sd_MT.ofW (cc := cX0_over) (maxL := 4) (ret := (some .long)) (by decide) rfl ?_
  intro p e s m args below meth c s₁ B hml hout hv
  obtain ⟨rfl, hP, hK, hTH⟩ := hv
  have hx := B.exec
  have hb := B.bytes
  have hr := B.returns
  have hts0 := atoms_spec (ws := (sd_ws yX0_over cX0_over 4 (some .long))) B.pre
  have hts : ∀ w ∈ sd_WS, w.before _ s = true := fun w h => hts0 w (List.mem_cons_of_mem _ h)
  have hown : s.vm.findClass RX0 = some m.cls := findClass_of_methodNamed B.named
  have hlocks := B.notSynchronized
  have hl := lv_entry ([.ref h0, .int x, .int z1, .int z2]) (n := 4) (Nat.le_of_ble_eq_true rfl)
  rw [lg_entry_eq]
  generalize (lg_sl ([.ref h0, .int x, .int z1, .int z2]) ++ List.replicate (4 - (lg_sl ([.ref h0, .int x, .int z1, .int z2])).length) Slot.unset).toArray = ls at hl ⊢
  have hl : lv_has ls 4 [(0, .ref h0), (1, .int x), (2, .int z1), (3, .int z2)] := hl
  have hP : va_P (dC, dI) vwCl [(h0, .inr (0, [.ref a0, .int (nI n), .int (nI (sd_sum w n))])), (a0, .inl (cA, 8, .inl (fun i => nI (w i))))] s.heap := hP
  refine lv_iload_n hx hb dX0_over_0 rfl (lv_at hl 1 rfl) ?_
  exact sd_thrS (As := [.int x]) (rest := []) ⟨hx, hb, hml, hown, hts0⟩ (t_checkWay l hl9 dC dI x hbad) (cwS 1 hts0 (sd_gS k_methodLink_X0_34 k_static_X0_checkWay k_init_ShareDesk k_code_X0_checkWay) rfl rfl rfl (by decide +kernel) ⟨Nat.le_of_ble_eq_true rfl, Nat.le_of_ble_eq_true rfl⟩) (sd_preSt (sd_K0 hK) (sd_nil _ _ _) hTH) rfl hl.1 rfl (lv_room (Nat.le_of_ble_eq_true rfl)) dX0_over_1 ⟨Nat.le_refl _, Nat.le_refl _⟩ (sd_out hout hlocks)
set_option maxHeartbeats 4000000 in
set_option maxRecDepth 100000 in
theorem t_over2 (l : Launch) (hl9 : l.stackTraces = false) (dC : Nat → ClassId) (dI : Nat → Nat → Nat) (cA : ClassId) (h0 a0 n : Nat) (w : Nat → Nat) (y : Nat) (hy : y ≤ 2) (x z2 : Int32) (hbad : x < 0 ∨ nI 10000 < x) : sd_MT l yX0_over (sd_ws yX0_over cX0_over 4 (some .long)) (sd_rm 7 1 6) (sd_Pt (dC, dI) vwCl [(cA, .int)] (sd_O cA h0 a0 n w) [.ref h0, .int (nI y), .int x, .int z2]) sd_IA := by
  refine sd_MT.ofW (cc := cX0_over) (maxL := 4) (ret := (some .long)) (by decide) rfl ?_
  intro p e s m args below meth c s₁ B hml hout hv
  obtain ⟨rfl, hP, hK, hTH⟩ := hv
  have hx := B.exec
  have hb := B.bytes
  have hr := B.returns
  have hts0 := atoms_spec (ws := (sd_ws yX0_over cX0_over 4 (some .long))) B.pre
  have hts : ∀ w ∈ sd_WS, w.before _ s = true := fun w h => hts0 w (List.mem_cons_of_mem _ h)
  have hown : s.vm.findClass RX0 = some m.cls := findClass_of_methodNamed B.named
  have hlocks := B.notSynchronized
  have hl := lv_entry ([.ref h0, .int (nI y), .int x, .int z2]) (n := 4) (Nat.le_of_ble_eq_true rfl)
  rw [lg_entry_eq]
  generalize (lg_sl ([.ref h0, .int (nI y), .int x, .int z2]) ++ List.replicate (4 - (lg_sl ([.ref h0, .int (nI y), .int x, .int z2])).length) Slot.unset).toArray = ls at hl ⊢
  have hl : lv_has ls 4 [(0, .ref h0), (1, .int (nI y)), (2, .int x), (3, .int z2)] := hl
  have hP : va_P (dC, dI) vwCl [(h0, .inr (0, [.ref a0, .int (nI n), .int (nI (sd_sum w n))])), (a0, .inl (cA, 8, .inl (fun i => nI (w i))))] s.heap := hP
  refine lv_iload_n hx hb dX0_over_0 rfl (lv_at hl 1 rfl) ?_
  refine sd_callv (va_runS (As := [.int (nI y)]) (rest := []) ⟨hx, hb, hml, hown, hts0⟩ (c_checkWay l dC dI y hy) (cwS 1 hts0 (sd_gS k_methodLink_X0_34 k_static_X0_checkWay k_init_ShareDesk k_code_X0_checkWay) rfl rfl rfl (by decide +kernel) ⟨Nat.le_of_ble_eq_true rfl, Nat.le_of_ble_eq_true rfl⟩) (sd_preS (sd_K0 hK) (sd_nil _ _ _)) rfl rfl hl.1 rfl (lv_room (Nat.le_of_ble_eq_true rfl)) dX0_over_1 ⟨Nat.zero_le _, Nat.zero_le _⟩) ?_
  refine lv_iload_n hx hb dX0_over_4 rfl (lv_at hl 2 rfl) ?_
  refine lv_sipush (v := nI 10000) hx hb dX0_over_5 (by decide +kernel) ?_
  exact sd_thrS (As := [.int x, .int (nI 10000)]) (rest := []) ⟨hx, hb, hml, hown, hts0⟩ (t_checkUnits l hl9 dC dI x 10000 hbad) (cwS 2 hts0 (sd_gS k_methodLink_X0_37 k_static_X0_checkUnits k_init_ShareDesk k_code_X0_checkUnits) rfl rfl rfl (by decide +kernel) ⟨Nat.le_of_ble_eq_true rfl, Nat.le_of_ble_eq_true rfl⟩) (sd_preSt (sd_K0 hK) (sd_nil _ _ _) hTH) rfl hl.1 rfl (lv_room (Nat.le_of_ble_eq_true rfl)) dX0_over_8 ⟨Nat.le_refl _, Nat.le_refl _⟩ (sd_out hout hlocks)
set_option maxHeartbeats 4000000 in
set_option maxRecDepth 100000 in
theorem t_over3 (l : Launch) (hl9 : l.stackTraces = false) (dC : Nat → ClassId) (dI : Nat → Nat → Nat) (cA : ClassId) (h0 a0 n : Nat) (w : Nat → Nat) (y u : Nat) (hy : y ≤ 2) (hu : u ≤ 10000) (x : Int32) (hbad : x < 0 ∨ nI n ≤ x) : sd_MT l yX0_over (sd_ws yX0_over cX0_over 4 (some .long)) (sd_rm 7 1 6) (sd_Pt (dC, dI) vwCl [(cA, .int)] (sd_O cA h0 a0 n w) [.ref h0, .int (nI y), .int (nI u), .int x]) sd_IA := by
  refine sd_MT.ofW (cc := cX0_over) (maxL := 4) (ret := (some .long)) (by decide) rfl ?_
  intro p e s m args below meth c s₁ B hml hout hv
  obtain ⟨rfl, hP, hK, hTH⟩ := hv
  have hx := B.exec
  have hb := B.bytes
  have hr := B.returns
  have hts0 := atoms_spec (ws := (sd_ws yX0_over cX0_over 4 (some .long))) B.pre
  have hts : ∀ w ∈ sd_WS, w.before _ s = true := fun w h => hts0 w (List.mem_cons_of_mem _ h)
  have hown : s.vm.findClass RX0 = some m.cls := findClass_of_methodNamed B.named
  have hlocks := B.notSynchronized
  have hl := lv_entry ([.ref h0, .int (nI y), .int (nI u), .int x]) (n := 4) (Nat.le_of_ble_eq_true rfl)
  rw [lg_entry_eq]
  generalize (lg_sl ([.ref h0, .int (nI y), .int (nI u), .int x]) ++ List.replicate (4 - (lg_sl ([.ref h0, .int (nI y), .int (nI u), .int x])).length) Slot.unset).toArray = ls at hl ⊢
  have hl : lv_has ls 4 [(0, .ref h0), (1, .int (nI y)), (2, .int (nI u)), (3, .int x)] := hl
  have hP : va_P (dC, dI) vwCl [(h0, .inr (0, [.ref a0, .int (nI n), .int (nI (sd_sum w n))])), (a0, .inl (cA, 8, .inl (fun i => nI (w i))))] s.heap := hP
  refine lv_iload_n hx hb dX0_over_0 rfl (lv_at hl 1 rfl) ?_
  refine sd_callv (va_runS (As := [.int (nI y)]) (rest := []) ⟨hx, hb, hml, hown, hts0⟩ (c_checkWay l dC dI y hy) (cwS 1 hts0 (sd_gS k_methodLink_X0_34 k_static_X0_checkWay k_init_ShareDesk k_code_X0_checkWay) rfl rfl rfl (by decide +kernel) ⟨Nat.le_of_ble_eq_true rfl, Nat.le_of_ble_eq_true rfl⟩) (sd_preS (sd_K0 hK) (sd_nil _ _ _)) rfl rfl hl.1 rfl (lv_room (Nat.le_of_ble_eq_true rfl)) dX0_over_1 ⟨Nat.zero_le _, Nat.zero_le _⟩) ?_
  refine lv_iload_n hx hb dX0_over_4 rfl (lv_at hl 2 rfl) ?_
  refine lv_sipush (v := nI 10000) hx hb dX0_over_5 (by decide +kernel) ?_
  refine sd_callv (va_runS (As := [.int (nI u), .int (nI 10000)]) (rest := []) ⟨hx, hb, hml, hown, hts0⟩ (c_checkUnits l dC dI u 10000 hu (by omega)) (cwS 2 hts0 (sd_gS k_methodLink_X0_37 k_static_X0_checkUnits k_init_ShareDesk k_code_X0_checkUnits) rfl rfl rfl (by decide +kernel) ⟨Nat.le_of_ble_eq_true rfl, Nat.le_of_ble_eq_true rfl⟩) (sd_preS (sd_K0 hK) (sd_nil _ _ _)) rfl rfl hl.1 rfl (lv_room (Nat.le_of_ble_eq_true rfl)) dX0_over_8 ⟨Nat.zero_le _, Nat.zero_le _⟩) ?_
  refine lv_aload_n hx hb dX0_over_11 rfl (lv_at hl 0 rfl) ?_
  refine lv_iload_n hx hb dX0_over_12 rfl (lv_at hl 3 rfl) ?_
  exact sd_thrV (As := [.int x]) (rest := []) ⟨hx, hb, hml, hown, hts0⟩ (t_checkParty l hl9 dC dI cA h0 a0 n w x hbad) (cwV 1 hts0 (sd_gV k_methodLink_X0_27 k_instanceMethod_X0_checkParty k_sel_X0_checkParty k_init_ShareDesk k_code_X0_checkParty) rfl rfl rfl (by decide +kernel) ⟨Nat.le_of_ble_eq_true rfl, Nat.le_of_ble_eq_true rfl⟩) (sd_preVt hK hP hTH (q0 := 0) (ci := 0) rfl rfl) rfl hl.1 rfl (lv_room (Nat.le_of_ble_eq_true rfl)) dX0_over_13 ⟨Nat.le_refl _, Nat.le_refl _⟩ (sd_out hout hlocks)
set_option maxHeartbeats 4000000 in
set_option maxRecDepth 100000 in
theorem t_over4 (l : Launch) (hl9 : l.stackTraces = false) (dC : Nat → ClassId) (dI : Nat → Nat → Nat) (cA : ClassId) (h0 a0 n : Nat) (w : Nat → Nat) (ok : sd_ok n w) (y u q : Nat) (hy : y ≤ 2) (hu : u ≤ 10000) (hq : q < n) (hz : sd_sum w n = 0) : sd_MT l yX0_over (sd_ws yX0_over cX0_over 4 (some .long)) (sd_rm 7 1 6) (sd_Pt (dC, dI) vwCl [(cA, .int)] (sd_O cA h0 a0 n w) [.ref h0, .int (nI y), .int (nI u), .int (nI q)]) sd_IS := by
  refine sd_MT.ofW (cc := cX0_over) (maxL := 4) (ret := (some .long)) (by decide) rfl ?_
  intro p e s m args below meth c s₁ B hml hout hv
  obtain ⟨rfl, hP, hK, hTH⟩ := hv
  have hx := B.exec
  have hb := B.bytes
  have hr := B.returns
  have hts0 := atoms_spec (ws := (sd_ws yX0_over cX0_over 4 (some .long))) B.pre
  have hts : ∀ w ∈ sd_WS, w.before _ s = true := fun w h => hts0 w (List.mem_cons_of_mem _ h)
  have hown : s.vm.findClass RX0 = some m.cls := findClass_of_methodNamed B.named
  have hlocks := B.notSynchronized
  have hl := lv_entry ([.ref h0, .int (nI y), .int (nI u), .int (nI q)]) (n := 4) (Nat.le_of_ble_eq_true rfl)
  rw [lg_entry_eq]
  generalize (lg_sl ([.ref h0, .int (nI y), .int (nI u), .int (nI q)]) ++ List.replicate (4 - (lg_sl ([.ref h0, .int (nI y), .int (nI u), .int (nI q)])).length) Slot.unset).toArray = ls at hl ⊢
  have hl : lv_has ls 4 [(0, .ref h0), (1, .int (nI y)), (2, .int (nI u)), (3, .int (nI q))] := hl
  have hP : va_P (dC, dI) vwCl [(h0, .inr (0, [.ref a0, .int (nI n), .int (nI (sd_sum w n))])), (a0, .inl (cA, 8, .inl (fun i => nI (w i))))] s.heap := hP
  refine lv_iload_n hx hb dX0_over_0 rfl (lv_at hl 1 rfl) ?_
  refine sd_callv (va_runS (As := [.int (nI y)]) (rest := []) ⟨hx, hb, hml, hown, hts0⟩ (c_checkWay l dC dI y hy) (cwS 1 hts0 (sd_gS k_methodLink_X0_34 k_static_X0_checkWay k_init_ShareDesk k_code_X0_checkWay) rfl rfl rfl (by decide +kernel) ⟨Nat.le_of_ble_eq_true rfl, Nat.le_of_ble_eq_true rfl⟩) (sd_preS (sd_K0 hK) (sd_nil _ _ _)) rfl rfl hl.1 rfl (lv_room (Nat.le_of_ble_eq_true rfl)) dX0_over_1 ⟨Nat.zero_le _, Nat.zero_le _⟩) ?_
  refine lv_iload_n hx hb dX0_over_4 rfl (lv_at hl 2 rfl) ?_
  refine lv_sipush (v := nI 10000) hx hb dX0_over_5 (by decide +kernel) ?_
  refine sd_callv (va_runS (As := [.int (nI u), .int (nI 10000)]) (rest := []) ⟨hx, hb, hml, hown, hts0⟩ (c_checkUnits l dC dI u 10000 hu (by omega)) (cwS 2 hts0 (sd_gS k_methodLink_X0_37 k_static_X0_checkUnits k_init_ShareDesk k_code_X0_checkUnits) rfl rfl rfl (by decide +kernel) ⟨Nat.le_of_ble_eq_true rfl, Nat.le_of_ble_eq_true rfl⟩) (sd_preS (sd_K0 hK) (sd_nil _ _ _)) rfl rfl hl.1 rfl (lv_room (Nat.le_of_ble_eq_true rfl)) dX0_over_8 ⟨Nat.zero_le _, Nat.zero_le _⟩) ?_
  refine lv_aload_n hx hb dX0_over_11 rfl (lv_at hl 0 rfl) ?_
  refine lv_iload_n hx hb dX0_over_12 rfl (lv_at hl 3 rfl) ?_
  refine sd_callv (va_runV (As := [.int (nI q)]) (rest := []) ⟨hx, hb, hml, hown, hts0⟩ (c_checkParty l dC dI cA h0 a0 n w ok q hq) (cwV 1 hts0 (sd_gV k_methodLink_X0_27 k_instanceMethod_X0_checkParty k_sel_X0_checkParty k_init_ShareDesk k_code_X0_checkParty) rfl rfl rfl (by decide +kernel) ⟨Nat.le_of_ble_eq_true rfl, Nat.le_of_ble_eq_true rfl⟩) (sd_preV hK hP (q0 := 0) (ci := 0) rfl rfl) rfl rfl hl.1 rfl (lv_room (Nat.le_of_ble_eq_true rfl)) dX0_over_13 ⟨Nat.zero_le _, Nat.zero_le _⟩) ?_
  refine lv_aload_n hx hb dX0_over_16 rfl (lv_at hl 0 rfl) ?_
  exact sd_thrV (As := []) (rest := []) ⟨hx, hb, hml, hown, hts0⟩ (t_checkTotal l hl9 dC dI cA h0 a0 n w hz) (cwV 0 hts0 (sd_gV k_methodLink_X0_41 k_instanceMethod_X0_checkTotal k_sel_X0_checkTotal k_init_ShareDesk k_code_X0_checkTotal) rfl rfl rfl (by decide +kernel) ⟨Nat.le_of_ble_eq_true rfl, Nat.le_of_ble_eq_true rfl⟩) (sd_preVt hK hP hTH (q0 := 0) (ci := 0) rfl rfl) rfl hl.1 rfl (lv_room (Nat.le_of_ble_eq_true rfl)) dX0_over_17 ⟨Nat.le_refl _, Nat.le_refl _⟩ (sd_out hout hlocks)
set_option maxHeartbeats 4000000 in
set_option maxRecDepth 100000 in
theorem t_next1 (l : Launch) (hl9 : l.stackTraces = false) (dC : Nat → ClassId) (dI : Nat → Nat → Nat) (cA : ClassId) (h0 a0 n : Nat) (w : Nat → Nat) (x z1 : Int32) (hbad : x < 0 ∨ nI 2 < x) : sd_MT l yX0_next (sd_ws yX0_next cX0_next 5 (some .int)) (sd_rm 7 1 6) (sd_Pt (dC, dI) vwCl [(cA, .int)] (sd_O cA h0 a0 n w) [.ref h0, .int x, .int z1]) sd_IA := by
  refine sd_MT.ofW (cc := cX0_next) (maxL := 5) (ret := (some .int)) (by decide) rfl ?_
  intro p e s m args below meth c s₁ B hml hout hv
  obtain ⟨rfl, hP, hK, hTH⟩ := hv
  have hx := B.exec
  have hb := B.bytes
  have hr := B.returns
  have hts0 := atoms_spec (ws := (sd_ws yX0_next cX0_next 5 (some .int))) B.pre
  have hts : ∀ w ∈ sd_WS, w.before _ s = true := fun w h => hts0 w (List.mem_cons_of_mem _ h)
  have hown : s.vm.findClass RX0 = some m.cls := findClass_of_methodNamed B.named
  have hlocks := B.notSynchronized
  have hl := lv_entry ([.ref h0, .int x, .int z1]) (n := 5) (Nat.le_of_ble_eq_true rfl)
  rw [lg_entry_eq]
  generalize (lg_sl ([.ref h0, .int x, .int z1]) ++ List.replicate (5 - (lg_sl ([.ref h0, .int x, .int z1])).length) Slot.unset).toArray = ls at hl ⊢
  have hl : lv_has ls 5 [(0, .ref h0), (1, .int x), (2, .int z1)] := hl
  have hP : va_P (dC, dI) vwCl [(h0, .inr (0, [.ref a0, .int (nI n), .int (nI (sd_sum w n))])), (a0, .inl (cA, 8, .inl (fun i => nI (w i))))] s.heap := hP
  refine lv_iload_n hx hb dX0_next_0 rfl (lv_at hl 1 rfl) ?_
  exact sd_thrS (As := [.int x]) (rest := []) ⟨hx, hb, hml, hown, hts0⟩ (t_checkWay l hl9 dC dI x hbad) (cwS 1 hts0 (sd_gS k_methodLink_X0_34 k_static_X0_checkWay k_init_ShareDesk k_code_X0_checkWay) rfl rfl rfl (by decide +kernel) ⟨Nat.le_of_ble_eq_true rfl, Nat.le_of_ble_eq_true rfl⟩) (sd_preSt (sd_K0 hK) (sd_nil _ _ _) hTH) rfl hl.1 rfl (lv_room (Nat.le_of_ble_eq_true rfl)) dX0_next_1 ⟨Nat.le_refl _, Nat.le_refl _⟩ (sd_out hout hlocks)
set_option maxHeartbeats 4000000 in
set_option maxRecDepth 100000 in
theorem t_next2 (l : Launch) (hl9 : l.stackTraces = false) (dC : Nat → ClassId) (dI : Nat → Nat → Nat) (cA : ClassId) (h0 a0 n : Nat) (w : Nat → Nat) (y : Nat) (hy : y ≤ 2) (x : Int32) (hbad : x < 0 ∨ nI 9999 < x) : sd_MT l yX0_next (sd_ws yX0_next cX0_next 5 (some .int)) (sd_rm 7 1 6) (sd_Pt (dC, dI) vwCl [(cA, .int)] (sd_O cA h0 a0 n w) [.ref h0, .int (nI y), .int x]) sd_IA := by
  refine sd_MT.ofW (cc := cX0_next) (maxL := 5) (ret := (some .int)) (by decide) rfl ?_
  intro p e s m args below meth c s₁ B hml hout hv
  obtain ⟨rfl, hP, hK, hTH⟩ := hv
  have hx := B.exec
  have hb := B.bytes
  have hr := B.returns
  have hts0 := atoms_spec (ws := (sd_ws yX0_next cX0_next 5 (some .int))) B.pre
  have hts : ∀ w ∈ sd_WS, w.before _ s = true := fun w h => hts0 w (List.mem_cons_of_mem _ h)
  have hown : s.vm.findClass RX0 = some m.cls := findClass_of_methodNamed B.named
  have hlocks := B.notSynchronized
  have hl := lv_entry ([.ref h0, .int (nI y), .int x]) (n := 5) (Nat.le_of_ble_eq_true rfl)
  rw [lg_entry_eq]
  generalize (lg_sl ([.ref h0, .int (nI y), .int x]) ++ List.replicate (5 - (lg_sl ([.ref h0, .int (nI y), .int x])).length) Slot.unset).toArray = ls at hl ⊢
  have hl : lv_has ls 5 [(0, .ref h0), (1, .int (nI y)), (2, .int x)] := hl
  have hP : va_P (dC, dI) vwCl [(h0, .inr (0, [.ref a0, .int (nI n), .int (nI (sd_sum w n))])), (a0, .inl (cA, 8, .inl (fun i => nI (w i))))] s.heap := hP
  refine lv_iload_n hx hb dX0_next_0 rfl (lv_at hl 1 rfl) ?_
  refine sd_callv (va_runS (As := [.int (nI y)]) (rest := []) ⟨hx, hb, hml, hown, hts0⟩ (c_checkWay l dC dI y hy) (cwS 1 hts0 (sd_gS k_methodLink_X0_34 k_static_X0_checkWay k_init_ShareDesk k_code_X0_checkWay) rfl rfl rfl (by decide +kernel) ⟨Nat.le_of_ble_eq_true rfl, Nat.le_of_ble_eq_true rfl⟩) (sd_preS (sd_K0 hK) (sd_nil _ _ _)) rfl rfl hl.1 rfl (lv_room (Nat.le_of_ble_eq_true rfl)) dX0_next_1 ⟨Nat.zero_le _, Nat.zero_le _⟩) ?_
  refine lv_iload_n hx hb dX0_next_4 rfl (lv_at hl 2 rfl) ?_
  refine lv_sipush (v := nI 9999) hx hb dX0_next_5 (by decide +kernel) ?_
  exact sd_thrS (As := [.int x, .int (nI 9999)]) (rest := []) ⟨hx, hb, hml, hown, hts0⟩ (t_checkUnits l hl9 dC dI x 9999 hbad) (cwS 2 hts0 (sd_gS k_methodLink_X0_37 k_static_X0_checkUnits k_init_ShareDesk k_code_X0_checkUnits) rfl rfl rfl (by decide +kernel) ⟨Nat.le_of_ble_eq_true rfl, Nat.le_of_ble_eq_true rfl⟩) (sd_preSt (sd_K0 hK) (sd_nil _ _ _) hTH) rfl hl.1 rfl (lv_room (Nat.le_of_ble_eq_true rfl)) dX0_next_8 ⟨Nat.le_refl _, Nat.le_refl _⟩ (sd_out hout hlocks)
set_option maxHeartbeats 4000000 in
set_option maxRecDepth 100000 in
theorem t_next4 (l : Launch) (hl9 : l.stackTraces = false) (dC : Nat → ClassId) (dI : Nat → Nat → Nat) (cA : ClassId) (h0 a0 n : Nat) (w : Nat → Nat) (y u : Nat) (hy : y ≤ 2) (hu : u ≤ 9999) (hz : sd_sum w n = 0) : sd_MT l yX0_next (sd_ws yX0_next cX0_next 5 (some .int)) (sd_rm 7 1 6) (sd_Pt (dC, dI) vwCl [(cA, .int)] (sd_O cA h0 a0 n w) [.ref h0, .int (nI y), .int (nI u)]) sd_IS := by
  refine sd_MT.ofW (cc := cX0_next) (maxL := 5) (ret := (some .int)) (by decide) rfl ?_
  intro p e s m args below meth c s₁ B hml hout hv
  obtain ⟨rfl, hP, hK, hTH⟩ := hv
  have hx := B.exec
  have hb := B.bytes
  have hr := B.returns
  have hts0 := atoms_spec (ws := (sd_ws yX0_next cX0_next 5 (some .int))) B.pre
  have hts : ∀ w ∈ sd_WS, w.before _ s = true := fun w h => hts0 w (List.mem_cons_of_mem _ h)
  have hown : s.vm.findClass RX0 = some m.cls := findClass_of_methodNamed B.named
  have hlocks := B.notSynchronized
  have hl := lv_entry ([.ref h0, .int (nI y), .int (nI u)]) (n := 5) (Nat.le_of_ble_eq_true rfl)
  rw [lg_entry_eq]
  generalize (lg_sl ([.ref h0, .int (nI y), .int (nI u)]) ++ List.replicate (5 - (lg_sl ([.ref h0, .int (nI y), .int (nI u)])).length) Slot.unset).toArray = ls at hl ⊢
  have hl : lv_has ls 5 [(0, .ref h0), (1, .int (nI y)), (2, .int (nI u))] := hl
  have hP : va_P (dC, dI) vwCl [(h0, .inr (0, [.ref a0, .int (nI n), .int (nI (sd_sum w n))])), (a0, .inl (cA, 8, .inl (fun i => nI (w i))))] s.heap := hP
  refine lv_iload_n hx hb dX0_next_0 rfl (lv_at hl 1 rfl) ?_
  refine sd_callv (va_runS (As := [.int (nI y)]) (rest := []) ⟨hx, hb, hml, hown, hts0⟩ (c_checkWay l dC dI y hy) (cwS 1 hts0 (sd_gS k_methodLink_X0_34 k_static_X0_checkWay k_init_ShareDesk k_code_X0_checkWay) rfl rfl rfl (by decide +kernel) ⟨Nat.le_of_ble_eq_true rfl, Nat.le_of_ble_eq_true rfl⟩) (sd_preS (sd_K0 hK) (sd_nil _ _ _)) rfl rfl hl.1 rfl (lv_room (Nat.le_of_ble_eq_true rfl)) dX0_next_1 ⟨Nat.zero_le _, Nat.zero_le _⟩) ?_
  refine lv_iload_n hx hb dX0_next_4 rfl (lv_at hl 2 rfl) ?_
  refine lv_sipush (v := nI 9999) hx hb dX0_next_5 (by decide +kernel) ?_
  refine sd_callv (va_runS (As := [.int (nI u), .int (nI 9999)]) (rest := []) ⟨hx, hb, hml, hown, hts0⟩ (c_checkUnits l dC dI u 9999 hu (by omega)) (cwS 2 hts0 (sd_gS k_methodLink_X0_37 k_static_X0_checkUnits k_init_ShareDesk k_code_X0_checkUnits) rfl rfl rfl (by decide +kernel) ⟨Nat.le_of_ble_eq_true rfl, Nat.le_of_ble_eq_true rfl⟩) (sd_preS (sd_K0 hK) (sd_nil _ _ _)) rfl rfl hl.1 rfl (lv_room (Nat.le_of_ble_eq_true rfl)) dX0_next_8 ⟨Nat.zero_le _, Nat.zero_le _⟩) ?_
  refine lv_aload_n hx hb dX0_next_11 rfl (lv_at hl 0 rfl) ?_
  exact sd_thrV (As := []) (rest := []) ⟨hx, hb, hml, hown, hts0⟩ (t_checkTotal l hl9 dC dI cA h0 a0 n w hz) (cwV 0 hts0 (sd_gV k_methodLink_X0_41 k_instanceMethod_X0_checkTotal k_sel_X0_checkTotal k_init_ShareDesk k_code_X0_checkTotal) rfl rfl rfl (by decide +kernel) ⟨Nat.le_of_ble_eq_true rfl, Nat.le_of_ble_eq_true rfl⟩) (sd_preVt hK hP hTH (q0 := 0) (ci := 0) rfl rfl) rfl hl.1 rfl (lv_room (Nat.le_of_ble_eq_true rfl)) dX0_next_12 ⟨Nat.le_refl _, Nat.le_refl _⟩ (sd_out hout hlocks)
set_option maxHeartbeats 4000000 in
set_option maxRecDepth 100000 in
theorem t_least1 (l : Launch) (hl9 : l.stackTraces = false) (dC : Nat → ClassId) (dI : Nat → Nat → Nat) (cA : ClassId) (h0 a0 n : Nat) (w : Nat → Nat) (x z1 z2 : Int32) (hbad : x < 0 ∨ nI 2 < x) : sd_MT l yX0_least (sd_ws yX0_least cX0_least 6 (some .int)) (sd_rm 7 1 6) (sd_Pt (dC, dI) vwCl [(cA, .int)] (sd_O cA h0 a0 n w) [.ref h0, .int x, .int z1, .int z2]) sd_IA := by
  refine sd_MT.ofW (cc := cX0_least) (maxL := 6) (ret := (some .int)) (by decide) rfl ?_
  intro p e s m args below meth c s₁ B hml hout hv
  obtain ⟨rfl, hP, hK, hTH⟩ := hv
  have hx := B.exec
  have hb := B.bytes
  have hr := B.returns
  have hts0 := atoms_spec (ws := (sd_ws yX0_least cX0_least 6 (some .int))) B.pre
  have hts : ∀ w ∈ sd_WS, w.before _ s = true := fun w h => hts0 w (List.mem_cons_of_mem _ h)
  have hown : s.vm.findClass RX0 = some m.cls := findClass_of_methodNamed B.named
  have hlocks := B.notSynchronized
  have hl := lv_entry ([.ref h0, .int x, .int z1, .int z2]) (n := 6) (Nat.le_of_ble_eq_true rfl)
  rw [lg_entry_eq]
  generalize (lg_sl ([.ref h0, .int x, .int z1, .int z2]) ++ List.replicate (6 - (lg_sl ([.ref h0, .int x, .int z1, .int z2])).length) Slot.unset).toArray = ls at hl ⊢
  have hl : lv_has ls 6 [(0, .ref h0), (1, .int x), (2, .int z1), (3, .int z2)] := hl
  have hP : va_P (dC, dI) vwCl [(h0, .inr (0, [.ref a0, .int (nI n), .int (nI (sd_sum w n))])), (a0, .inl (cA, 8, .inl (fun i => nI (w i))))] s.heap := hP
  refine lv_iload_n hx hb dX0_least_0 rfl (lv_at hl 1 rfl) ?_
  exact sd_thrS (As := [.int x]) (rest := []) ⟨hx, hb, hml, hown, hts0⟩ (t_checkWay l hl9 dC dI x hbad) (cwS 1 hts0 (sd_gS k_methodLink_X0_34 k_static_X0_checkWay k_init_ShareDesk k_code_X0_checkWay) rfl rfl rfl (by decide +kernel) ⟨Nat.le_of_ble_eq_true rfl, Nat.le_of_ble_eq_true rfl⟩) (sd_preSt (sd_K0 hK) (sd_nil _ _ _) hTH) rfl hl.1 rfl (lv_room (Nat.le_of_ble_eq_true rfl)) dX0_least_1 ⟨Nat.le_refl _, Nat.le_refl _⟩ (sd_out hout hlocks)
set_option maxHeartbeats 4000000 in
set_option maxRecDepth 100000 in
theorem t_least2 (l : Launch) (hl9 : l.stackTraces = false) (dC : Nat → ClassId) (dI : Nat → Nat → Nat) (cA : ClassId) (h0 a0 n : Nat) (w : Nat → Nat) (y : Nat) (hy : y ≤ 2) (x z1 : Int32) (hbad : x < 0 ∨ nI n ≤ x) : sd_MT l yX0_least (sd_ws yX0_least cX0_least 6 (some .int)) (sd_rm 7 1 6) (sd_Pt (dC, dI) vwCl [(cA, .int)] (sd_O cA h0 a0 n w) [.ref h0, .int (nI y), .int z1, .int x]) sd_IA := by
  refine sd_MT.ofW (cc := cX0_least) (maxL := 6) (ret := (some .int)) (by decide) rfl ?_
  intro p e s m args below meth c s₁ B hml hout hv
  obtain ⟨rfl, hP, hK, hTH⟩ := hv
  have hx := B.exec
  have hb := B.bytes
  have hr := B.returns
  have hts0 := atoms_spec (ws := (sd_ws yX0_least cX0_least 6 (some .int))) B.pre
  have hts : ∀ w ∈ sd_WS, w.before _ s = true := fun w h => hts0 w (List.mem_cons_of_mem _ h)
  have hown : s.vm.findClass RX0 = some m.cls := findClass_of_methodNamed B.named
  have hlocks := B.notSynchronized
  have hl := lv_entry ([.ref h0, .int (nI y), .int z1, .int x]) (n := 6) (Nat.le_of_ble_eq_true rfl)
  rw [lg_entry_eq]
  generalize (lg_sl ([.ref h0, .int (nI y), .int z1, .int x]) ++ List.replicate (6 - (lg_sl ([.ref h0, .int (nI y), .int z1, .int x])).length) Slot.unset).toArray = ls at hl ⊢
  have hl : lv_has ls 6 [(0, .ref h0), (1, .int (nI y)), (2, .int z1), (3, .int x)] := hl
  have hP : va_P (dC, dI) vwCl [(h0, .inr (0, [.ref a0, .int (nI n), .int (nI (sd_sum w n))])), (a0, .inl (cA, 8, .inl (fun i => nI (w i))))] s.heap := hP
  refine lv_iload_n hx hb dX0_least_0 rfl (lv_at hl 1 rfl) ?_
  refine sd_callv (va_runS (As := [.int (nI y)]) (rest := []) ⟨hx, hb, hml, hown, hts0⟩ (c_checkWay l dC dI y hy) (cwS 1 hts0 (sd_gS k_methodLink_X0_34 k_static_X0_checkWay k_init_ShareDesk k_code_X0_checkWay) rfl rfl rfl (by decide +kernel) ⟨Nat.le_of_ble_eq_true rfl, Nat.le_of_ble_eq_true rfl⟩) (sd_preS (sd_K0 hK) (sd_nil _ _ _)) rfl rfl hl.1 rfl (lv_room (Nat.le_of_ble_eq_true rfl)) dX0_least_1 ⟨Nat.zero_le _, Nat.zero_le _⟩) ?_
  refine lv_aload_n hx hb dX0_least_4 rfl (lv_at hl 0 rfl) ?_
  refine lv_iload_n hx hb dX0_least_5 rfl (lv_at hl 3 rfl) ?_
  exact sd_thrV (As := [.int x]) (rest := []) ⟨hx, hb, hml, hown, hts0⟩ (t_checkParty l hl9 dC dI cA h0 a0 n w x hbad) (cwV 1 hts0 (sd_gV k_methodLink_X0_27 k_instanceMethod_X0_checkParty k_sel_X0_checkParty k_init_ShareDesk k_code_X0_checkParty) rfl rfl rfl (by decide +kernel) ⟨Nat.le_of_ble_eq_true rfl, Nat.le_of_ble_eq_true rfl⟩) (sd_preVt hK hP hTH (q0 := 0) (ci := 0) rfl rfl) rfl hl.1 rfl (lv_room (Nat.le_of_ble_eq_true rfl)) dX0_least_6 ⟨Nat.le_refl _, Nat.le_refl _⟩ (sd_out hout hlocks)
set_option maxHeartbeats 4000000 in
set_option maxRecDepth 100000 in
theorem t_least3 (l : Launch) (hl9 : l.stackTraces = false) (dC : Nat → ClassId) (dI : Nat → Nat → Nat) (cA : ClassId) (h0 a0 n : Nat) (w : Nat → Nat) (ok : sd_ok n w) (y q : Nat) (hy : y ≤ 2) (hq : q < n) (x : Int32) (hbad : x < 0) : sd_MT l yX0_least (sd_ws yX0_least cX0_least 6 (some .int)) (sd_rm 7 1 6) (sd_Pt (dC, dI) vwCl [(cA, .int)] (sd_O cA h0 a0 n w) [.ref h0, .int (nI y), .int x, .int (nI q)]) sd_IA := by
  refine sd_MT.ofW (cc := cX0_least) (maxL := 6) (ret := (some .int)) (by decide) rfl ?_
  intro p e s m args below meth c s₁ B hml hout hv
  obtain ⟨rfl, hP, hK, hTH⟩ := hv
  have hx := B.exec
  have hb := B.bytes
  have hr := B.returns
  have hts0 := atoms_spec (ws := (sd_ws yX0_least cX0_least 6 (some .int))) B.pre
  have hts : ∀ w ∈ sd_WS, w.before _ s = true := fun w h => hts0 w (List.mem_cons_of_mem _ h)
  have hown : s.vm.findClass RX0 = some m.cls := findClass_of_methodNamed B.named
  have hlocks := B.notSynchronized
  have hl := lv_entry ([.ref h0, .int (nI y), .int x, .int (nI q)]) (n := 6) (Nat.le_of_ble_eq_true rfl)
  rw [lg_entry_eq]
  generalize (lg_sl ([.ref h0, .int (nI y), .int x, .int (nI q)]) ++ List.replicate (6 - (lg_sl ([.ref h0, .int (nI y), .int x, .int (nI q)])).length) Slot.unset).toArray = ls at hl ⊢
  have hl : lv_has ls 6 [(0, .ref h0), (1, .int (nI y)), (2, .int x), (3, .int (nI q))] := hl
  have hP : va_P (dC, dI) vwCl [(h0, .inr (0, [.ref a0, .int (nI n), .int (nI (sd_sum w n))])), (a0, .inl (cA, 8, .inl (fun i => nI (w i))))] s.heap := hP
  refine lv_iload_n hx hb dX0_least_0 rfl (lv_at hl 1 rfl) ?_
  refine sd_callv (va_runS (As := [.int (nI y)]) (rest := []) ⟨hx, hb, hml, hown, hts0⟩ (c_checkWay l dC dI y hy) (cwS 1 hts0 (sd_gS k_methodLink_X0_34 k_static_X0_checkWay k_init_ShareDesk k_code_X0_checkWay) rfl rfl rfl (by decide +kernel) ⟨Nat.le_of_ble_eq_true rfl, Nat.le_of_ble_eq_true rfl⟩) (sd_preS (sd_K0 hK) (sd_nil _ _ _)) rfl rfl hl.1 rfl (lv_room (Nat.le_of_ble_eq_true rfl)) dX0_least_1 ⟨Nat.zero_le _, Nat.zero_le _⟩) ?_
  refine lv_aload_n hx hb dX0_least_4 rfl (lv_at hl 0 rfl) ?_
  refine lv_iload_n hx hb dX0_least_5 rfl (lv_at hl 3 rfl) ?_
  refine sd_callv (va_runV (As := [.int (nI q)]) (rest := []) ⟨hx, hb, hml, hown, hts0⟩ (c_checkParty l dC dI cA h0 a0 n w ok q hq) (cwV 1 hts0 (sd_gV k_methodLink_X0_27 k_instanceMethod_X0_checkParty k_sel_X0_checkParty k_init_ShareDesk k_code_X0_checkParty) rfl rfl rfl (by decide +kernel) ⟨Nat.le_of_ble_eq_true rfl, Nat.le_of_ble_eq_true rfl⟩) (sd_preV hK hP (q0 := 0) (ci := 0) rfl rfl) rfl rfl hl.1 rfl (lv_room (Nat.le_of_ble_eq_true rfl)) dX0_least_6 ⟨Nat.zero_le _, Nat.zero_le _⟩) ?_
  refine lv_iload_n hx hb dX0_least_9 rfl (lv_at hl 2 rfl) ?_
  refine lv_if_ge (tgt := 23) hx hb dX0_least_10 (by decide) (fun h => ?_) (fun h => ?_)
  · exact absurd hbad (Int32.not_lt.mpr h)
  · obtain ⟨qs, hZ⟩ := hTH.2.2.2.2.2.2.2.2 (48, "the share is below 0") (by decide)
    exact sd_throw hx hb hl9 hlocks hout (own := RX0) (cls := sd_IA) (names := sd_up2) (tx := "the share is below 0") hown (by decide) (by decide) (sd_own sd_ownIA hts hTH) (hts (.classLink RX0 20 sd_IA) k_classLink_X0_20) (hts (.initialized sd_IA) k_init_java_lang_IllegalArgumentException) hZ (hl.1.trans hml.symm) dX0_least_13 dX0_least_16 dX0_least_17 dX0_least_19 dX0_least_22 (by decide) (by decide) (by decide) (by decide)
set_option maxHeartbeats 4000000 in
set_option maxRecDepth 100000 in
theorem t_least4 (l : Launch) (hl9 : l.stackTraces = false) (dC : Nat → ClassId) (dI : Nat → Nat → Nat) (cA : ClassId) (h0 a0 n : Nat) (w : Nat → Nat) (ok : sd_ok n w) (y q : Nat) (hy : y ≤ 2) (hq : q < n) (x : Int32) (hx9 : 0 ≤ x) (hz : sd_sum w n = 0) : sd_MT l yX0_least (sd_ws yX0_least cX0_least 6 (some .int)) (sd_rm 7 1 6) (sd_Pt (dC, dI) vwCl [(cA, .int)] (sd_O cA h0 a0 n w) [.ref h0, .int (nI y), .int x, .int (nI q)]) sd_IS := by
  refine sd_MT.ofW (cc := cX0_least) (maxL := 6) (ret := (some .int)) (by decide) rfl ?_
  intro p e s m args below meth c s₁ B hml hout hv
  obtain ⟨rfl, hP, hK, hTH⟩ := hv
  have hx := B.exec
  have hb := B.bytes
  have hr := B.returns
  have hts0 := atoms_spec (ws := (sd_ws yX0_least cX0_least 6 (some .int))) B.pre
  have hts : ∀ w ∈ sd_WS, w.before _ s = true := fun w h => hts0 w (List.mem_cons_of_mem _ h)
  have hown : s.vm.findClass RX0 = some m.cls := findClass_of_methodNamed B.named
  have hlocks := B.notSynchronized
  have hl := lv_entry ([.ref h0, .int (nI y), .int x, .int (nI q)]) (n := 6) (Nat.le_of_ble_eq_true rfl)
  rw [lg_entry_eq]
  generalize (lg_sl ([.ref h0, .int (nI y), .int x, .int (nI q)]) ++ List.replicate (6 - (lg_sl ([.ref h0, .int (nI y), .int x, .int (nI q)])).length) Slot.unset).toArray = ls at hl ⊢
  have hl : lv_has ls 6 [(0, .ref h0), (1, .int (nI y)), (2, .int x), (3, .int (nI q))] := hl
  have hP : va_P (dC, dI) vwCl [(h0, .inr (0, [.ref a0, .int (nI n), .int (nI (sd_sum w n))])), (a0, .inl (cA, 8, .inl (fun i => nI (w i))))] s.heap := hP
  refine lv_iload_n hx hb dX0_least_0 rfl (lv_at hl 1 rfl) ?_
  refine sd_callv (va_runS (As := [.int (nI y)]) (rest := []) ⟨hx, hb, hml, hown, hts0⟩ (c_checkWay l dC dI y hy) (cwS 1 hts0 (sd_gS k_methodLink_X0_34 k_static_X0_checkWay k_init_ShareDesk k_code_X0_checkWay) rfl rfl rfl (by decide +kernel) ⟨Nat.le_of_ble_eq_true rfl, Nat.le_of_ble_eq_true rfl⟩) (sd_preS (sd_K0 hK) (sd_nil _ _ _)) rfl rfl hl.1 rfl (lv_room (Nat.le_of_ble_eq_true rfl)) dX0_least_1 ⟨Nat.zero_le _, Nat.zero_le _⟩) ?_
  refine lv_aload_n hx hb dX0_least_4 rfl (lv_at hl 0 rfl) ?_
  refine lv_iload_n hx hb dX0_least_5 rfl (lv_at hl 3 rfl) ?_
  refine sd_callv (va_runV (As := [.int (nI q)]) (rest := []) ⟨hx, hb, hml, hown, hts0⟩ (c_checkParty l dC dI cA h0 a0 n w ok q hq) (cwV 1 hts0 (sd_gV k_methodLink_X0_27 k_instanceMethod_X0_checkParty k_sel_X0_checkParty k_init_ShareDesk k_code_X0_checkParty) rfl rfl rfl (by decide +kernel) ⟨Nat.le_of_ble_eq_true rfl, Nat.le_of_ble_eq_true rfl⟩) (sd_preV hK hP (q0 := 0) (ci := 0) rfl rfl) rfl rfl hl.1 rfl (lv_room (Nat.le_of_ble_eq_true rfl)) dX0_least_6 ⟨Nat.zero_le _, Nat.zero_le _⟩) ?_
  refine lv_iload_n hx hb dX0_least_9 rfl (lv_at hl 2 rfl) ?_
  refine lv_if_ge (tgt := 23) hx hb dX0_least_10 (by decide) (fun h => ?_) (fun h => ?_)
  · refine lv_aload_n hx hb dX0_least_23 rfl (lv_at hl 0 rfl) ?_
    exact sd_thrV (As := []) (rest := []) ⟨hx, hb, hml, hown, hts0⟩ (t_checkTotal l hl9 dC dI cA h0 a0 n w hz) (cwV 0 hts0 (sd_gV k_methodLink_X0_41 k_instanceMethod_X0_checkTotal k_sel_X0_checkTotal k_init_ShareDesk k_code_X0_checkTotal) rfl rfl rfl (by decide +kernel) ⟨Nat.le_of_ble_eq_true rfl, Nat.le_of_ble_eq_true rfl⟩) (sd_preVt hK hP hTH (q0 := 0) (ci := 0) rfl rfl) rfl hl.1 rfl (lv_room (Nat.le_of_ble_eq_true rfl)) dX0_least_24 ⟨Nat.le_refl _, Nat.le_refl _⟩ (sd_out hout hlocks)
  · exact absurd hx9 h
