set_option maxHeartbeats 4000000 in
set_option maxRecDepth 100000 in
theorem w_share (l : Launch) (hl9 : l.stackTraces = false) (dC : Nat → ClassId) (dI : Nat → Nat → Nat) (cA : ClassId) (h0 a0 n : Nat) (w : Nat → Nat) (cO : ClassId) (q0 : Nat) (ou : Nat → Int64) (sz : Nat) (ok : sd_ok n w) (hW : 0 < sd_sum w n) (y u q : Nat) (hy : y ≤ 2) (hu : u ≤ 10000) (hq : q < n) : Met l yL_share (sd_wsW yL_share cL_share 6 (some .int) [(0, 12, 15, 13), (0, 12, 19, 23)]) (sd_rm 8 1 6) (sd_PwT (dC, dI) vwCl [(cA, .int), (cO, .long)] (sd_OL cA h0 a0 n w cO q0 ou) sz [.ref h0, .int (nI y), .int (nI u), .int (nI q), .ref q0]) (va_Qi (fun r (_ : Unit) => r = nI 0) (sd_Bw (dC, dI) vwCl [(cA, .int), (cO, .long)] (sd_OL cA h0 a0 n w cO q0 ou) sz (fun _ => (sd_OL cA h0 a0 n w cO q0 (vp_updL ou 0 ((nI (sd_U y w n u q)).toInt64))))) (va_A (sd_OL cA h0 a0 n w cO q0 ou) sz)) 1 6 (va_A (sd_OL cA h0 a0 n w cO q0 ou) sz) := by
  refine va_MetW (cc := cL_share) (maxL := 6) (ret := (some .int)) (hh := [(0, 12, 15, 13), (0, 12, 19, 23)]) (by decide) rfl ?_
  intro p e s m args below meth c s₁ B hml hv
  obtain ⟨rfl, hsz, hP, hK, hD0, hTH⟩ := hv
  subst hsz
  have hx := B.exec
  have hb := B.bytes
  have hr := B.returns
  have hts0 := atoms_spec (ws := (sd_wsW yL_share cL_share 6 (some .int) [(0, 12, 15, 13), (0, 12, 19, 23)])) B.pre
  have htb := sd_table B (hts0 _ List.mem_cons_self)
  have hts : ∀ w ∈ sd_WS, w.before _ s = true := fun w h => hts0 w (List.mem_cons_of_mem _ h)
  have hown : s.vm.findClass RL = some m.cls := findClass_of_methodNamed B.named
  have hlocks := B.notSynchronized
  have hl := lv_entry ([.ref h0, .int (nI y), .int (nI u), .int (nI q), .ref q0]) (n := 6) (Nat.le_of_ble_eq_true rfl)
  rw [lg_entry_eq]
  generalize (lg_sl ([.ref h0, .int (nI y), .int (nI u), .int (nI q), .ref q0]) ++ List.replicate (6 - (lg_sl ([.ref h0, .int (nI y), .int (nI u), .int (nI q), .ref q0])).length) Slot.unset).toArray = ls at hl ⊢
  have hl : lv_has ls 6 [(0, .ref h0), (1, .int (nI y)), (2, .int (nI u)), (3, .int (nI q)), (4, .ref q0)] := hl
  obtain ⟨A, hAe⟩ : ∃ A, A = va_A (sd_OL cA h0 a0 n w cO q0 ou) s.heap.size := ⟨_, rfl⟩
  have hD : va_D A (sd_OL cA h0 a0 n w cO q0 ou) := by rw [hAe]; exact hD0.self
  have hA : ∀ q : Nat, s.heap.size ≤ q → A q := fun q h => by rw [hAe]; exact Or.inr h
  have hS : va_S A s.heap s.heap [] := va_S.rf
  have hP : va_P (dC, dI) vwCl [(h0, .inr (0, [.ref a0, .int (nI n), .int (nI (sd_sum w n))])), (a0, .inl (cA, 8, .inl (fun i => nI (w i)))), (q0, .inl (cO, 1, .inr (.inl ou)))] s.heap := hP
  have hD : va_D A [(h0, .inr (0, [.ref a0, .int (nI n), .int (nI (sd_sum w n))])), (a0, .inl (cA, 8, .inl (fun i => nI (w i)))), (q0, .inl (cO, 1, .inr (.inl ou)))] := hD
  have hPc := hP.sub (ws' := (sd_O cA h0 a0 n w)) [0, 1] rfl
  have hKc := hK.sub (tys' := [(cA, .int)]) [0] rfl
  have hDc := hD.sub (ws' := (sd_O cA h0 a0 n w)) [0, 1] (by decide) rfl
  refine lv_aload hx hb dL_share_0 (lv_at hl 4 rfl) ?_
  refine lv_iconst (v := (nI 0)) hx hb dL_share_2 (by decide +kernel) ?_
  refine lv_aload_n hx hb dL_share_3 rfl (lv_at hl 0 rfl) ?_
  refine lv_iload_n hx hb dL_share_4 rfl (lv_at hl 1 rfl) ?_
  refine lv_iload_n hx hb dL_share_5 rfl (lv_at hl 2 rfl) ?_
  refine lv_iload_n hx hb dL_share_6 rfl (lv_at hl 3 rfl) ?_
  refine sd_calli (va_runV (As := [.int (nI y), .int (nI u), .int (nI q)]) (rest := [.int (nI 0), .ref q0]) ⟨hx, hb, hml, hown, hts0⟩ (c_share l dC dI cA h0 a0 n w ok hW y u q hy hu hq) (cwV 3 hts0 (sd_gV k_methodLink_L_19 k_instanceMethod_X0_share k_sel_X0_share k_init_ShareDesk k_code_X0_share) rfl rfl rfl (by decide +kernel) ⟨Nat.le_of_ble_eq_true rfl, Nat.le_of_ble_eq_true rfl⟩) (sd_preV hKc hPc (q0 := 0) (ci := 0) rfl rfl) rfl rfl hl.1 rfl (lv_room (Nat.le_of_ble_eq_true rfl)) dL_share_7 ⟨Nat.zero_le _, Nat.zero_le _⟩) ?_
  refine lv_i2l (v := (nI (sd_U y w n u q)).toInt64) hx hb dL_share_10 rfl ?_
  refine sd_last (j := 0) hx hb hK hP hD hS 2 1 rfl rfl (by omega) (by decide) dL_share_11 (fun H locs hP hD hS => ?_)
  have hP : va_P (dC, dI) vwCl [(h0, .inr (0, [.ref a0, .int (nI n), .int (nI (sd_sum w n))])), (a0, .inl (cA, 8, .inl (fun i => nI (w i)))), (q0, .inl (cO, 1, .inr (.inl (vp_updL ou 0 ((nI (sd_U y w n u q)).toInt64)))))] H := hP
  have hD : va_D A [(h0, .inr (0, [.ref a0, .int (nI n), .int (nI (sd_sum w n))])), (a0, .inl (cA, 8, .inl (fun i => nI (w i)))), (q0, .inl (cO, 1, .inr (.inl (vp_updL ou 0 ((nI (sd_U y w n u q)).toInt64)))))] := hD
  refine lv_goto (tgt := 23) hx hb dL_share_12 (by decide) ?_
  refine lv_iconst (v := (nI 0)) hx hb dL_share_23 (by decide +kernel) ?_
  have hP : va_P (dC, dI) vwCl (sd_OL cA h0 a0 n w cO q0 (vp_updL ou 0 ((nI (sd_U y w n u q)).toInt64))) H := hP
  have hD : va_D A (sd_OL cA h0 a0 n w cO q0 (vp_updL ou 0 ((nI (sd_U y w n u q)).toInt64))) := hD
  refine W.widen (k := 1) (n := 6) (by omega) (by omega) ?_
  exact W.iret hx hb hr (fun t ht hW => ⟨⟨_, (), rfl, rfl, by rw [ht]; exact hP, va_K.moved hW.alike hK, by rw [← hAe]; exact hD⟩, by rw [← hAe]; exact hS.F ht⟩) (fun q hq => by rw [← hAe]; exact hS.2.2 q hq) dL_share_24
set_option maxHeartbeats 4000000 in
set_option maxRecDepth 100000 in
theorem w_share1 (l : Launch) (hl9 : l.stackTraces = false) (dC : Nat → ClassId) (dI : Nat → Nat → Nat) (cA : ClassId) (h0 a0 n : Nat) (w : Nat → Nat) (cO : ClassId) (q0 : Nat) (ou : Nat → Int64) (sz : Nat) (x1 x2 x3 : Int32) (hbad : x1 < 0 ∨ nI 2 < x1) : Met l yL_share (sd_wsW yL_share cL_share 6 (some .int) [(0, 12, 15, 13), (0, 12, 19, 23)]) (sd_rm 8 1 6) (sd_PwT (dC, dI) vwCl [(cA, .int), (cO, .long)] (sd_OL cA h0 a0 n w cO q0 ou) sz [.ref h0, .int x1, .int x2, .int x3, .ref q0]) (va_Qi (fun r (_ : Unit) => r = nI 1) (sd_Bw (dC, dI) vwCl [(cA, .int), (cO, .long)] (sd_OL cA h0 a0 n w cO q0 ou) sz (fun _ => (sd_OL cA h0 a0 n w cO q0 ou))) (va_A (sd_OL cA h0 a0 n w cO q0 ou) sz)) 1 6 (va_A (sd_OL cA h0 a0 n w cO q0 ou) sz) := by
  refine va_MetW (cc := cL_share) (maxL := 6) (ret := (some .int)) (hh := [(0, 12, 15, 13), (0, 12, 19, 23)]) (by decide) rfl ?_
  intro p e s m args below meth c s₁ B hml hv
  obtain ⟨rfl, hsz, hP, hK, hD0, hTH⟩ := hv
  subst hsz
  have hx := B.exec
  have hb := B.bytes
  have hr := B.returns
  have hts0 := atoms_spec (ws := (sd_wsW yL_share cL_share 6 (some .int) [(0, 12, 15, 13), (0, 12, 19, 23)])) B.pre
  have htb := sd_table B (hts0 _ List.mem_cons_self)
  have hts : ∀ w ∈ sd_WS, w.before _ s = true := fun w h => hts0 w (List.mem_cons_of_mem _ h)
  have hown : s.vm.findClass RL = some m.cls := findClass_of_methodNamed B.named
  have hlocks := B.notSynchronized
  have hl := lv_entry ([.ref h0, .int x1, .int x2, .int x3, .ref q0]) (n := 6) (Nat.le_of_ble_eq_true rfl)
  rw [lg_entry_eq]
  generalize (lg_sl ([.ref h0, .int x1, .int x2, .int x3, .ref q0]) ++ List.replicate (6 - (lg_sl ([.ref h0, .int x1, .int x2, .int x3, .ref q0])).length) Slot.unset).toArray = ls at hl ⊢
  have hl : lv_has ls 6 [(0, .ref h0), (1, .int x1), (2, .int x2), (3, .int x3), (4, .ref q0)] := hl
  obtain ⟨A, hAe⟩ : ∃ A, A = va_A (sd_OL cA h0 a0 n w cO q0 ou) s.heap.size := ⟨_, rfl⟩
  have hD : va_D A (sd_OL cA h0 a0 n w cO q0 ou) := by rw [hAe]; exact hD0.self
  have hA : ∀ q : Nat, s.heap.size ≤ q → A q := fun q h => by rw [hAe]; exact Or.inr h
  have hS : va_S A s.heap s.heap [] := va_S.rf
  have hP : va_P (dC, dI) vwCl [(h0, .inr (0, [.ref a0, .int (nI n), .int (nI (sd_sum w n))])), (a0, .inl (cA, 8, .inl (fun i => nI (w i)))), (q0, .inl (cO, 1, .inr (.inl ou)))] s.heap := hP
  have hD : va_D A [(h0, .inr (0, [.ref a0, .int (nI n), .int (nI (sd_sum w n))])), (a0, .inl (cA, 8, .inl (fun i => nI (w i)))), (q0, .inl (cO, 1, .inr (.inl ou)))] := hD
  have hPc := hP.sub (ws' := (sd_O cA h0 a0 n w)) [0, 1] rfl
  have hKc := hK.sub (tys' := [(cA, .int)]) [0] rfl
  have hDc := hD.sub (ws' := (sd_O cA h0 a0 n w)) [0, 1] (by decide) rfl
  refine lv_aload hx hb dL_share_0 (lv_at hl 4 rfl) ?_
  refine lv_iconst (v := (nI 0)) hx hb dL_share_2 (by decide +kernel) ?_
  refine lv_aload_n hx hb dL_share_3 rfl (lv_at hl 0 rfl) ?_
  refine lv_iload_n hx hb dL_share_4 rfl (lv_at hl 1 rfl) ?_
  refine lv_iload_n hx hb dL_share_5 rfl (lv_at hl 2 rfl) ?_
  refine lv_iload_n hx hb dL_share_6 rfl (lv_at hl 3 rfl) ?_
  refine sd_thrV (As := [.int x1, .int x2, .int x3]) (rest := [.int (nI 0), .ref q0]) ⟨hx, hb, hml, hown, hts0⟩ (t_share1 l hl9 dC dI cA h0 a0 n w x1 x2 x3 hbad) (cwV 3 hts0 (sd_gV k_methodLink_L_19 k_instanceMethod_X0_share k_sel_X0_share k_init_ShareDesk k_code_X0_share) rfl rfl rfl (by decide +kernel) ⟨Nat.le_of_ble_eq_true rfl, Nat.le_of_ble_eq_true rfl⟩) (sd_preVt hKc hPc hTH (q0 := 0) (ci := 0) rfl rfl) rfl hl.1 rfl (lv_room (Nat.le_of_ble_eq_true rfl)) dL_share_7 ⟨Nat.le_refl _, Nat.le_refl _⟩ (sd_catch1 (own := RL) (cls := sd_IA) (x := (⟨0, 12, 15, 13⟩ : ExceptionTableEntry)) (t := [(⟨0, 12, 19, 23⟩ : ExceptionTableEntry)]) (by rw [htb]; rfl) hown (by decide) (by decide) (hts (.classLink RL 13 sd_IA) k_classLink_L_13) (va_any rfl hTH.2.2.2.1) (fun H q9 hz hk => ?_))
  have hP := sd_keptP hP hk
  have hS : va_S A s.heap H [] := ⟨hz, fun q hq _ => hk q hq, fun _ h => nomatch h⟩
  refine W.eq (g2 := F0 m 15 ls [.ref q9]) rfl ?_
  refine lv_astore hx hb dL_share_15 hl (by decide) rfl (fun ls hl => ?_)
  have hl : lv_has ls 6 [(5, .ref q9), (0, .ref h0), (1, .int x1), (2, .int x2), (3, .int x3), (4, .ref q0)] := hl
  refine lv_iconst (v := (nI 1)) hx hb dL_share_17 (by decide +kernel) ?_
  have hP : va_P (dC, dI) vwCl (sd_OL cA h0 a0 n w cO q0 ou) H := hP
  have hD : va_D A (sd_OL cA h0 a0 n w cO q0 ou) := hD
  refine W.widen (k := 1) (n := 6) (by omega) (by omega) ?_
  exact W.iret hx hb hr (fun t ht hW => ⟨⟨_, (), rfl, rfl, by rw [ht]; exact hP, va_K.moved hW.alike hK, by rw [← hAe]; exact hD⟩, by rw [← hAe]; exact hS.F ht⟩) (fun q hq => by rw [← hAe]; exact hS.2.2 q hq) dL_share_18
set_option maxHeartbeats 4000000 in
set_option maxRecDepth 100000 in
theorem w_share2 (l : Launch) (hl9 : l.stackTraces = false) (dC : Nat → ClassId) (dI : Nat → Nat → Nat) (cA : ClassId) (h0 a0 n : Nat) (w : Nat → Nat) (cO : ClassId) (q0 : Nat) (ou : Nat → Int64) (sz : Nat) (y : Nat) (hy : y ≤ 2) (x2 x3 : Int32) (hbad : x2 < 0 ∨ nI 10000 < x2) : Met l yL_share (sd_wsW yL_share cL_share 6 (some .int) [(0, 12, 15, 13), (0, 12, 19, 23)]) (sd_rm 8 1 6) (sd_PwT (dC, dI) vwCl [(cA, .int), (cO, .long)] (sd_OL cA h0 a0 n w cO q0 ou) sz [.ref h0, .int (nI y), .int x2, .int x3, .ref q0]) (va_Qi (fun r (_ : Unit) => r = nI 1) (sd_Bw (dC, dI) vwCl [(cA, .int), (cO, .long)] (sd_OL cA h0 a0 n w cO q0 ou) sz (fun _ => (sd_OL cA h0 a0 n w cO q0 ou))) (va_A (sd_OL cA h0 a0 n w cO q0 ou) sz)) 1 6 (va_A (sd_OL cA h0 a0 n w cO q0 ou) sz) := by
  refine va_MetW (cc := cL_share) (maxL := 6) (ret := (some .int)) (hh := [(0, 12, 15, 13), (0, 12, 19, 23)]) (by decide) rfl ?_
  intro p e s m args below meth c s₁ B hml hv
  obtain ⟨rfl, hsz, hP, hK, hD0, hTH⟩ := hv
  subst hsz
  have hx := B.exec
  have hb := B.bytes
  have hr := B.returns
  have hts0 := atoms_spec (ws := (sd_wsW yL_share cL_share 6 (some .int) [(0, 12, 15, 13), (0, 12, 19, 23)])) B.pre
  have htb := sd_table B (hts0 _ List.mem_cons_self)
  have hts : ∀ w ∈ sd_WS, w.before _ s = true := fun w h => hts0 w (List.mem_cons_of_mem _ h)
  have hown : s.vm.findClass RL = some m.cls := findClass_of_methodNamed B.named
  have hlocks := B.notSynchronized
  have hl := lv_entry ([.ref h0, .int (nI y), .int x2, .int x3, .ref q0]) (n := 6) (Nat.le_of_ble_eq_true rfl)
  rw [lg_entry_eq]
  generalize (lg_sl ([.ref h0, .int (nI y), .int x2, .int x3, .ref q0]) ++ List.replicate (6 - (lg_sl ([.ref h0, .int (nI y), .int x2, .int x3, .ref q0])).length) Slot.unset).toArray = ls at hl ⊢
  have hl : lv_has ls 6 [(0, .ref h0), (1, .int (nI y)), (2, .int x2), (3, .int x3), (4, .ref q0)] := hl
  obtain ⟨A, hAe⟩ : ∃ A, A = va_A (sd_OL cA h0 a0 n w cO q0 ou) s.heap.size := ⟨_, rfl⟩
  have hD : va_D A (sd_OL cA h0 a0 n w cO q0 ou) := by rw [hAe]; exact hD0.self
  have hA : ∀ q : Nat, s.heap.size ≤ q → A q := fun q h => by rw [hAe]; exact Or.inr h
  have hS : va_S A s.heap s.heap [] := va_S.rf
  have hP : va_P (dC, dI) vwCl [(h0, .inr (0, [.ref a0, .int (nI n), .int (nI (sd_sum w n))])), (a0, .inl (cA, 8, .inl (fun i => nI (w i)))), (q0, .inl (cO, 1, .inr (.inl ou)))] s.heap := hP
  have hD : va_D A [(h0, .inr (0, [.ref a0, .int (nI n), .int (nI (sd_sum w n))])), (a0, .inl (cA, 8, .inl (fun i => nI (w i)))), (q0, .inl (cO, 1, .inr (.inl ou)))] := hD
  have hPc := hP.sub (ws' := (sd_O cA h0 a0 n w)) [0, 1] rfl
  have hKc := hK.sub (tys' := [(cA, .int)]) [0] rfl
  have hDc := hD.sub (ws' := (sd_O cA h0 a0 n w)) [0, 1] (by decide) rfl
  refine lv_aload hx hb dL_share_0 (lv_at hl 4 rfl) ?_
  refine lv_iconst (v := (nI 0)) hx hb dL_share_2 (by decide +kernel) ?_
  refine lv_aload_n hx hb dL_share_3 rfl (lv_at hl 0 rfl) ?_
  refine lv_iload_n hx hb dL_share_4 rfl (lv_at hl 1 rfl) ?_
  refine lv_iload_n hx hb dL_share_5 rfl (lv_at hl 2 rfl) ?_
  refine lv_iload_n hx hb dL_share_6 rfl (lv_at hl 3 rfl) ?_
  refine sd_thrV (As := [.int (nI y), .int x2, .int x3]) (rest := [.int (nI 0), .ref q0]) ⟨hx, hb, hml, hown, hts0⟩ (t_share2 l hl9 dC dI cA h0 a0 n w y hy x2 x3 hbad) (cwV 3 hts0 (sd_gV k_methodLink_L_19 k_instanceMethod_X0_share k_sel_X0_share k_init_ShareDesk k_code_X0_share) rfl rfl rfl (by decide +kernel) ⟨Nat.le_of_ble_eq_true rfl, Nat.le_of_ble_eq_true rfl⟩) (sd_preVt hKc hPc hTH (q0 := 0) (ci := 0) rfl rfl) rfl hl.1 rfl (lv_room (Nat.le_of_ble_eq_true rfl)) dL_share_7 ⟨Nat.le_refl _, Nat.le_refl _⟩ (sd_catch1 (own := RL) (cls := sd_IA) (x := (⟨0, 12, 15, 13⟩ : ExceptionTableEntry)) (t := [(⟨0, 12, 19, 23⟩ : ExceptionTableEntry)]) (by rw [htb]; rfl) hown (by decide) (by decide) (hts (.classLink RL 13 sd_IA) k_classLink_L_13) (va_any rfl hTH.2.2.2.1) (fun H q9 hz hk => ?_))
  have hP := sd_keptP hP hk
  have hS : va_S A s.heap H [] := ⟨hz, fun q hq _ => hk q hq, fun _ h => nomatch h⟩
  refine W.eq (g2 := F0 m 15 ls [.ref q9]) rfl ?_
  refine lv_astore hx hb dL_share_15 hl (by decide) rfl (fun ls hl => ?_)
  have hl : lv_has ls 6 [(5, .ref q9), (0, .ref h0), (1, .int (nI y)), (2, .int x2), (3, .int x3), (4, .ref q0)] := hl
  refine lv_iconst (v := (nI 1)) hx hb dL_share_17 (by decide +kernel) ?_
  have hP : va_P (dC, dI) vwCl (sd_OL cA h0 a0 n w cO q0 ou) H := hP
  have hD : va_D A (sd_OL cA h0 a0 n w cO q0 ou) := hD
  refine W.widen (k := 1) (n := 6) (by omega) (by omega) ?_
  exact W.iret hx hb hr (fun t ht hW => ⟨⟨_, (), rfl, rfl, by rw [ht]; exact hP, va_K.moved hW.alike hK, by rw [← hAe]; exact hD⟩, by rw [← hAe]; exact hS.F ht⟩) (fun q hq => by rw [← hAe]; exact hS.2.2 q hq) dL_share_18
set_option maxHeartbeats 4000000 in
set_option maxRecDepth 100000 in
theorem w_share3 (l : Launch) (hl9 : l.stackTraces = false) (dC : Nat → ClassId) (dI : Nat → Nat → Nat) (cA : ClassId) (h0 a0 n : Nat) (w : Nat → Nat) (cO : ClassId) (q0 : Nat) (ou : Nat → Int64) (sz : Nat) (y u : Nat) (hy : y ≤ 2) (hu : u ≤ 10000) (x3 : Int32) (hbad : x3 < 0 ∨ nI n ≤ x3) : Met l yL_share (sd_wsW yL_share cL_share 6 (some .int) [(0, 12, 15, 13), (0, 12, 19, 23)]) (sd_rm 8 1 6) (sd_PwT (dC, dI) vwCl [(cA, .int), (cO, .long)] (sd_OL cA h0 a0 n w cO q0 ou) sz [.ref h0, .int (nI y), .int (nI u), .int x3, .ref q0]) (va_Qi (fun r (_ : Unit) => r = nI 1) (sd_Bw (dC, dI) vwCl [(cA, .int), (cO, .long)] (sd_OL cA h0 a0 n w cO q0 ou) sz (fun _ => (sd_OL cA h0 a0 n w cO q0 ou))) (va_A (sd_OL cA h0 a0 n w cO q0 ou) sz)) 1 6 (va_A (sd_OL cA h0 a0 n w cO q0 ou) sz) := by
  refine va_MetW (cc := cL_share) (maxL := 6) (ret := (some .int)) (hh := [(0, 12, 15, 13), (0, 12, 19, 23)]) (by decide) rfl ?_
  intro p e s m args below meth c s₁ B hml hv
  obtain ⟨rfl, hsz, hP, hK, hD0, hTH⟩ := hv
  subst hsz
  have hx := B.exec
  have hb := B.bytes
  have hr := B.returns
  have hts0 := atoms_spec (ws := (sd_wsW yL_share cL_share 6 (some .int) [(0, 12, 15, 13), (0, 12, 19, 23)])) B.pre
  have htb := sd_table B (hts0 _ List.mem_cons_self)
  have hts : ∀ w ∈ sd_WS, w.before _ s = true := fun w h => hts0 w (List.mem_cons_of_mem _ h)
  have hown : s.vm.findClass RL = some m.cls := findClass_of_methodNamed B.named
  have hlocks := B.notSynchronized
  have hl := lv_entry ([.ref h0, .int (nI y), .int (nI u), .int x3, .ref q0]) (n := 6) (Nat.le_of_ble_eq_true rfl)
  rw [lg_entry_eq]
  generalize (lg_sl ([.ref h0, .int (nI y), .int (nI u), .int x3, .ref q0]) ++ List.replicate (6 - (lg_sl ([.ref h0, .int (nI y), .int (nI u), .int x3, .ref q0])).length) Slot.unset).toArray = ls at hl ⊢
  have hl : lv_has ls 6 [(0, .ref h0), (1, .int (nI y)), (2, .int (nI u)), (3, .int x3), (4, .ref q0)] := hl
  obtain ⟨A, hAe⟩ : ∃ A, A = va_A (sd_OL cA h0 a0 n w cO q0 ou) s.heap.size := ⟨_, rfl⟩
  have hD : va_D A (sd_OL cA h0 a0 n w cO q0 ou) := by rw [hAe]; exact hD0.self
  have hA : ∀ q : Nat, s.heap.size ≤ q → A q := fun q h => by rw [hAe]; exact Or.inr h
  have hS : va_S A s.heap s.heap [] := va_S.rf
  have hP : va_P (dC, dI) vwCl [(h0, .inr (0, [.ref a0, .int (nI n), .int (nI (sd_sum w n))])), (a0, .inl (cA, 8, .inl (fun i => nI (w i)))), (q0, .inl (cO, 1, .inr (.inl ou)))] s.heap := hP
  have hD : va_D A [(h0, .inr (0, [.ref a0, .int (nI n), .int (nI (sd_sum w n))])), (a0, .inl (cA, 8, .inl (fun i => nI (w i)))), (q0, .inl (cO, 1, .inr (.inl ou)))] := hD
  have hPc := hP.sub (ws' := (sd_O cA h0 a0 n w)) [0, 1] rfl
  have hKc := hK.sub (tys' := [(cA, .int)]) [0] rfl
  have hDc := hD.sub (ws' := (sd_O cA h0 a0 n w)) [0, 1] (by decide) rfl
  refine lv_aload hx hb dL_share_0 (lv_at hl 4 rfl) ?_
  refine lv_iconst (v := (nI 0)) hx hb dL_share_2 (by decide +kernel) ?_
  refine lv_aload_n hx hb dL_share_3 rfl (lv_at hl 0 rfl) ?_
  refine lv_iload_n hx hb dL_share_4 rfl (lv_at hl 1 rfl) ?_
  refine lv_iload_n hx hb dL_share_5 rfl (lv_at hl 2 rfl) ?_
  refine lv_iload_n hx hb dL_share_6 rfl (lv_at hl 3 rfl) ?_
  refine sd_thrV (As := [.int (nI y), .int (nI u), .int x3]) (rest := [.int (nI 0), .ref q0]) ⟨hx, hb, hml, hown, hts0⟩ (t_share3 l hl9 dC dI cA h0 a0 n w y u hy hu x3 hbad) (cwV 3 hts0 (sd_gV k_methodLink_L_19 k_instanceMethod_X0_share k_sel_X0_share k_init_ShareDesk k_code_X0_share) rfl rfl rfl (by decide +kernel) ⟨Nat.le_of_ble_eq_true rfl, Nat.le_of_ble_eq_true rfl⟩) (sd_preVt hKc hPc hTH (q0 := 0) (ci := 0) rfl rfl) rfl hl.1 rfl (lv_room (Nat.le_of_ble_eq_true rfl)) dL_share_7 ⟨Nat.le_refl _, Nat.le_refl _⟩ (sd_catch1 (own := RL) (cls := sd_IA) (x := (⟨0, 12, 15, 13⟩ : ExceptionTableEntry)) (t := [(⟨0, 12, 19, 23⟩ : ExceptionTableEntry)]) (by rw [htb]; rfl) hown (by decide) (by decide) (hts (.classLink RL 13 sd_IA) k_classLink_L_13) (va_any rfl hTH.2.2.2.1) (fun H q9 hz hk => ?_))
  have hP := sd_keptP hP hk
  have hS : va_S A s.heap H [] := ⟨hz, fun q hq _ => hk q hq, fun _ h => nomatch h⟩
  refine W.eq (g2 := F0 m 15 ls [.ref q9]) rfl ?_
  refine lv_astore hx hb dL_share_15 hl (by decide) rfl (fun ls hl => ?_)
  have hl : lv_has ls 6 [(5, .ref q9), (0, .ref h0), (1, .int (nI y)), (2, .int (nI u)), (3, .int x3), (4, .ref q0)] := hl
  refine lv_iconst (v := (nI 1)) hx hb dL_share_17 (by decide +kernel) ?_
  have hP : va_P (dC, dI) vwCl (sd_OL cA h0 a0 n w cO q0 ou) H := hP
  have hD : va_D A (sd_OL cA h0 a0 n w cO q0 ou) := hD
  refine W.widen (k := 1) (n := 6) (by omega) (by omega) ?_
  exact W.iret hx hb hr (fun t ht hW => ⟨⟨_, (), rfl, rfl, by rw [ht]; exact hP, va_K.moved hW.alike hK, by rw [← hAe]; exact hD⟩, by rw [← hAe]; exact hS.F ht⟩) (fun q hq => by rw [← hAe]; exact hS.2.2 q hq) dL_share_18
set_option maxHeartbeats 4000000 in
set_option maxRecDepth 100000 in
theorem w_share4 (l : Launch) (hl9 : l.stackTraces = false) (dC : Nat → ClassId) (dI : Nat → Nat → Nat) (cA : ClassId) (h0 a0 n : Nat) (w : Nat → Nat) (cO : ClassId) (q0 : Nat) (ou : Nat → Int64) (sz : Nat) (ok : sd_ok n w) (y u q : Nat) (hy : y ≤ 2) (hu : u ≤ 10000) (hq : q < n) (hz0 : sd_sum w n = 0) : Met l yL_share (sd_wsW yL_share cL_share 6 (some .int) [(0, 12, 15, 13), (0, 12, 19, 23)]) (sd_rm 8 1 6) (sd_PwT (dC, dI) vwCl [(cA, .int), (cO, .long)] (sd_OL cA h0 a0 n w cO q0 ou) sz [.ref h0, .int (nI y), .int (nI u), .int (nI q), .ref q0]) (va_Qi (fun r (_ : Unit) => r = nI 2) (sd_Bw (dC, dI) vwCl [(cA, .int), (cO, .long)] (sd_OL cA h0 a0 n w cO q0 ou) sz (fun _ => (sd_OL cA h0 a0 n w cO q0 ou))) (va_A (sd_OL cA h0 a0 n w cO q0 ou) sz)) 1 6 (va_A (sd_OL cA h0 a0 n w cO q0 ou) sz) := by
  refine va_MetW (cc := cL_share) (maxL := 6) (ret := (some .int)) (hh := [(0, 12, 15, 13), (0, 12, 19, 23)]) (by decide) rfl ?_
  intro p e s m args below meth c s₁ B hml hv
  obtain ⟨rfl, hsz, hP, hK, hD0, hTH⟩ := hv
  subst hsz
  have hx := B.exec
  have hb := B.bytes
  have hr := B.returns
  have hts0 := atoms_spec (ws := (sd_wsW yL_share cL_share 6 (some .int) [(0, 12, 15, 13), (0, 12, 19, 23)])) B.pre
  have htb := sd_table B (hts0 _ List.mem_cons_self)
  have hts : ∀ w ∈ sd_WS, w.before _ s = true := fun w h => hts0 w (List.mem_cons_of_mem _ h)
  have hown : s.vm.findClass RL = some m.cls := findClass_of_methodNamed B.named
  have hlocks := B.notSynchronized
  have hl := lv_entry ([.ref h0, .int (nI y), .int (nI u), .int (nI q), .ref q0]) (n := 6) (Nat.le_of_ble_eq_true rfl)
  rw [lg_entry_eq]
  generalize (lg_sl ([.ref h0, .int (nI y), .int (nI u), .int (nI q), .ref q0]) ++ List.replicate (6 - (lg_sl ([.ref h0, .int (nI y), .int (nI u), .int (nI q), .ref q0])).length) Slot.unset).toArray = ls at hl ⊢
  have hl : lv_has ls 6 [(0, .ref h0), (1, .int (nI y)), (2, .int (nI u)), (3, .int (nI q)), (4, .ref q0)] := hl
  obtain ⟨A, hAe⟩ : ∃ A, A = va_A (sd_OL cA h0 a0 n w cO q0 ou) s.heap.size := ⟨_, rfl⟩
  have hD : va_D A (sd_OL cA h0 a0 n w cO q0 ou) := by rw [hAe]; exact hD0.self
  have hA : ∀ q : Nat, s.heap.size ≤ q → A q := fun q h => by rw [hAe]; exact Or.inr h
  have hS : va_S A s.heap s.heap [] := va_S.rf
  have hP : va_P (dC, dI) vwCl [(h0, .inr (0, [.ref a0, .int (nI n), .int (nI (sd_sum w n))])), (a0, .inl (cA, 8, .inl (fun i => nI (w i)))), (q0, .inl (cO, 1, .inr (.inl ou)))] s.heap := hP
  have hD : va_D A [(h0, .inr (0, [.ref a0, .int (nI n), .int (nI (sd_sum w n))])), (a0, .inl (cA, 8, .inl (fun i => nI (w i)))), (q0, .inl (cO, 1, .inr (.inl ou)))] := hD
  have hPc := hP.sub (ws' := (sd_O cA h0 a0 n w)) [0, 1] rfl
  have hKc := hK.sub (tys' := [(cA, .int)]) [0] rfl
  have hDc := hD.sub (ws' := (sd_O cA h0 a0 n w)) [0, 1] (by decide) rfl
  refine lv_aload hx hb dL_share_0 (lv_at hl 4 rfl) ?_
  refine lv_iconst (v := (nI 0)) hx hb dL_share_2 (by decide +kernel) ?_
  refine lv_aload_n hx hb dL_share_3 rfl (lv_at hl 0 rfl) ?_
  refine lv_iload_n hx hb dL_share_4 rfl (lv_at hl 1 rfl) ?_
  refine lv_iload_n hx hb dL_share_5 rfl (lv_at hl 2 rfl) ?_
  refine lv_iload_n hx hb dL_share_6 rfl (lv_at hl 3 rfl) ?_
  refine sd_thrV (As := [.int (nI y), .int (nI u), .int (nI q)]) (rest := [.int (nI 0), .ref q0]) ⟨hx, hb, hml, hown, hts0⟩ (t_share4 l hl9 dC dI cA h0 a0 n w ok y u q hy hu hq hz0) (cwV 3 hts0 (sd_gV k_methodLink_L_19 k_instanceMethod_X0_share k_sel_X0_share k_init_ShareDesk k_code_X0_share) rfl rfl rfl (by decide +kernel) ⟨Nat.le_of_ble_eq_true rfl, Nat.le_of_ble_eq_true rfl⟩) (sd_preVt hKc hPc hTH (q0 := 0) (ci := 0) rfl rfl) rfl hl.1 rfl (lv_room (Nat.le_of_ble_eq_true rfl)) dL_share_7 ⟨Nat.le_refl _, Nat.le_refl _⟩ (sd_catch2 (own := RL) (cls := sd_IS) (other := sd_IA) (x := (⟨0, 12, 15, 13⟩ : ExceptionTableEntry)) (y := (⟨0, 12, 19, 23⟩ : ExceptionTableEntry)) (t := []) (by rw [htb]; rfl) hown (by decide) (by decide) (by decide) (by decide) (hts (.classLink RL 13 sd_IA) k_classLink_L_13) (hts (.classLink RL 23 sd_IS) k_classLink_L_23) hTH.2.2.2.2.2.1 (va_any rfl hTH.2.2.2.2.1) (fun H q9 hz hk => ?_))
  have hP := sd_keptP hP hk
  have hS : va_S A s.heap H [] := ⟨hz, fun q hq _ => hk q hq, fun _ h => nomatch h⟩
  refine W.eq (g2 := F0 m 19 ls [.ref q9]) rfl ?_
  refine lv_astore hx hb dL_share_19 hl (by decide) rfl (fun ls hl => ?_)
  have hl : lv_has ls 6 [(5, .ref q9), (0, .ref h0), (1, .int (nI y)), (2, .int (nI u)), (3, .int (nI q)), (4, .ref q0)] := hl
  refine lv_iconst (v := (nI 2)) hx hb dL_share_21 (by decide +kernel) ?_
  have hP : va_P (dC, dI) vwCl (sd_OL cA h0 a0 n w cO q0 ou) H := hP
  have hD : va_D A (sd_OL cA h0 a0 n w cO q0 ou) := hD
  refine W.widen (k := 1) (n := 6) (by omega) (by omega) ?_
  exact W.iret hx hb hr (fun t ht hW => ⟨⟨_, (), rfl, rfl, by rw [ht]; exact hP, va_K.moved hW.alike hK, by rw [← hAe]; exact hD⟩, by rw [← hAe]; exact hS.F ht⟩) (fun q hq => by rw [← hAe]; exact hS.2.2 q hq) dL_share_22
set_option maxHeartbeats 4000000 in
set_option maxRecDepth 100000 in
theorem w_over (l : Launch) (hl9 : l.stackTraces = false) (dC : Nat → ClassId) (dI : Nat → Nat → Nat) (cA : ClassId) (h0 a0 n : Nat) (w : Nat → Nat) (cO : ClassId) (q0 : Nat) (ou : Nat → Int64) (sz : Nat) (ok : sd_ok n w) (hW : 0 < sd_sum w n) (y u q : Nat) (hy : y ≤ 2) (hu : u ≤ 10000) (hq : q < n) : Met l yL_over (sd_wsW yL_over cL_over 6 (some .int) [(0, 11, 14, 13), (0, 11, 18, 23)]) (sd_rm 8 1 6) (sd_PwT (dC, dI) vwCl [(cA, .int), (cO, .long)] (sd_OL cA h0 a0 n w cO q0 ou) sz [.ref h0, .int (nI y), .int (nI u), .int (nI q), .ref q0]) (va_Qi (fun r (_ : Unit) => r = nI 0) (sd_Bw (dC, dI) vwCl [(cA, .int), (cO, .long)] (sd_OL cA h0 a0 n w cO q0 ou) sz (fun _ => (sd_OL cA h0 a0 n w cO q0 (vp_updL ou 0 (lN (sd_U y w n u q * sd_sum w n) - lN (u * w q)))))) (va_A (sd_OL cA h0 a0 n w cO q0 ou) sz)) 1 6 (va_A (sd_OL cA h0 a0 n w cO q0 ou) sz) := by
  refine va_MetW (cc := cL_over) (maxL := 6) (ret := (some .int)) (hh := [(0, 11, 14, 13), (0, 11, 18, 23)]) (by decide) rfl ?_
  intro p e s m args below meth c s₁ B hml hv
  obtain ⟨rfl, hsz, hP, hK, hD0, hTH⟩ := hv
  subst hsz
  have hx := B.exec
  have hb := B.bytes
  have hr := B.returns
  have hts0 := atoms_spec (ws := (sd_wsW yL_over cL_over 6 (some .int) [(0, 11, 14, 13), (0, 11, 18, 23)])) B.pre
  have htb := sd_table B (hts0 _ List.mem_cons_self)
  have hts : ∀ w ∈ sd_WS, w.before _ s = true := fun w h => hts0 w (List.mem_cons_of_mem _ h)
  have hown : s.vm.findClass RL = some m.cls := findClass_of_methodNamed B.named
  have hlocks := B.notSynchronized
  have hl := lv_entry ([.ref h0, .int (nI y), .int (nI u), .int (nI q), .ref q0]) (n := 6) (Nat.le_of_ble_eq_true rfl)
  rw [lg_entry_eq]
  generalize (lg_sl ([.ref h0, .int (nI y), .int (nI u), .int (nI q), .ref q0]) ++ List.replicate (6 - (lg_sl ([.ref h0, .int (nI y), .int (nI u), .int (nI q), .ref q0])).length) Slot.unset).toArray = ls at hl ⊢
  have hl : lv_has ls 6 [(0, .ref h0), (1, .int (nI y)), (2, .int (nI u)), (3, .int (nI q)), (4, .ref q0)] := hl
  obtain ⟨A, hAe⟩ : ∃ A, A = va_A (sd_OL cA h0 a0 n w cO q0 ou) s.heap.size := ⟨_, rfl⟩
  have hD : va_D A (sd_OL cA h0 a0 n w cO q0 ou) := by rw [hAe]; exact hD0.self
  have hA : ∀ q : Nat, s.heap.size ≤ q → A q := fun q h => by rw [hAe]; exact Or.inr h
  have hS : va_S A s.heap s.heap [] := va_S.rf
  have hP : va_P (dC, dI) vwCl [(h0, .inr (0, [.ref a0, .int (nI n), .int (nI (sd_sum w n))])), (a0, .inl (cA, 8, .inl (fun i => nI (w i)))), (q0, .inl (cO, 1, .inr (.inl ou)))] s.heap := hP
  have hD : va_D A [(h0, .inr (0, [.ref a0, .int (nI n), .int (nI (sd_sum w n))])), (a0, .inl (cA, 8, .inl (fun i => nI (w i)))), (q0, .inl (cO, 1, .inr (.inl ou)))] := hD
  have hPc := hP.sub (ws' := (sd_O cA h0 a0 n w)) [0, 1] rfl
  have hKc := hK.sub (tys' := [(cA, .int)]) [0] rfl
  have hDc := hD.sub (ws' := (sd_O cA h0 a0 n w)) [0, 1] (by decide) rfl
  refine lv_aload hx hb dL_over_0 (lv_at hl 4 rfl) ?_
  refine lv_iconst (v := (nI 0)) hx hb dL_over_2 (by decide +kernel) ?_
  refine lv_aload_n hx hb dL_over_3 rfl (lv_at hl 0 rfl) ?_
  refine lv_iload_n hx hb dL_over_4 rfl (lv_at hl 1 rfl) ?_
  refine lv_iload_n hx hb dL_over_5 rfl (lv_at hl 2 rfl) ?_
  refine lv_iload_n hx hb dL_over_6 rfl (lv_at hl 3 rfl) ?_
  refine sd_calll (va_runV (As := [.int (nI y), .int (nI u), .int (nI q)]) (rest := [.int (nI 0), .ref q0]) ⟨hx, hb, hml, hown, hts0⟩ (c_over l dC dI cA h0 a0 n w ok hW y u q hy hu hq) (cwV 3 hts0 (sd_gV k_methodLink_L_25 k_instanceMethod_X0_over k_sel_X0_over k_init_ShareDesk k_code_X0_over) rfl rfl rfl (by decide +kernel) ⟨Nat.le_of_ble_eq_true rfl, Nat.le_of_ble_eq_true rfl⟩) (sd_preV hKc hPc (q0 := 0) (ci := 0) rfl rfl) rfl rfl hl.1 rfl (lv_room (Nat.le_of_ble_eq_true rfl)) dL_over_7 ⟨Nat.zero_le _, Nat.zero_le _⟩) ?_
  refine sd_last (j := 0) hx hb hK hP hD hS 2 1 rfl rfl (by omega) (by decide) dL_over_10 (fun H locs hP hD hS => ?_)
  have hP : va_P (dC, dI) vwCl [(h0, .inr (0, [.ref a0, .int (nI n), .int (nI (sd_sum w n))])), (a0, .inl (cA, 8, .inl (fun i => nI (w i)))), (q0, .inl (cO, 1, .inr (.inl (vp_updL ou 0 (lN (sd_U y w n u q * sd_sum w n) - lN (u * w q))))))] H := hP
  have hD : va_D A [(h0, .inr (0, [.ref a0, .int (nI n), .int (nI (sd_sum w n))])), (a0, .inl (cA, 8, .inl (fun i => nI (w i)))), (q0, .inl (cO, 1, .inr (.inl (vp_updL ou 0 (lN (sd_U y w n u q * sd_sum w n) - lN (u * w q))))))] := hD
  refine lv_goto (tgt := 22) hx hb dL_over_11 (by decide) ?_
  refine lv_iconst (v := (nI 0)) hx hb dL_over_22 (by decide +kernel) ?_
  have hP : va_P (dC, dI) vwCl (sd_OL cA h0 a0 n w cO q0 (vp_updL ou 0 (lN (sd_U y w n u q * sd_sum w n) - lN (u * w q)))) H := hP
  have hD : va_D A (sd_OL cA h0 a0 n w cO q0 (vp_updL ou 0 (lN (sd_U y w n u q * sd_sum w n) - lN (u * w q)))) := hD
  refine W.widen (k := 1) (n := 6) (by omega) (by omega) ?_
  exact W.iret hx hb hr (fun t ht hW => ⟨⟨_, (), rfl, rfl, by rw [ht]; exact hP, va_K.moved hW.alike hK, by rw [← hAe]; exact hD⟩, by rw [← hAe]; exact hS.F ht⟩) (fun q hq => by rw [← hAe]; exact hS.2.2 q hq) dL_over_23
set_option maxHeartbeats 4000000 in
set_option maxRecDepth 100000 in
theorem w_over1 (l : Launch) (hl9 : l.stackTraces = false) (dC : Nat → ClassId) (dI : Nat → Nat → Nat) (cA : ClassId) (h0 a0 n : Nat) (w : Nat → Nat) (cO : ClassId) (q0 : Nat) (ou : Nat → Int64) (sz : Nat) (x1 x2 x3 : Int32) (hbad : x1 < 0 ∨ nI 2 < x1) : Met l yL_over (sd_wsW yL_over cL_over 6 (some .int) [(0, 11, 14, 13), (0, 11, 18, 23)]) (sd_rm 8 1 6) (sd_PwT (dC, dI) vwCl [(cA, .int), (cO, .long)] (sd_OL cA h0 a0 n w cO q0 ou) sz [.ref h0, .int x1, .int x2, .int x3, .ref q0]) (va_Qi (fun r (_ : Unit) => r = nI 1) (sd_Bw (dC, dI) vwCl [(cA, .int), (cO, .long)] (sd_OL cA h0 a0 n w cO q0 ou) sz (fun _ => (sd_OL cA h0 a0 n w cO q0 ou))) (va_A (sd_OL cA h0 a0 n w cO q0 ou) sz)) 1 6 (va_A (sd_OL cA h0 a0 n w cO q0 ou) sz) := by
  refine va_MetW (cc := cL_over) (maxL := 6) (ret := (some .int)) (hh := [(0, 11, 14, 13), (0, 11, 18, 23)]) (by decide) rfl ?_
  intro p e s m args below meth c s₁ B hml hv
  obtain ⟨rfl, hsz, hP, hK, hD0, hTH⟩ := hv
  subst hsz
  have hx := B.exec
  have hb := B.bytes
  have hr := B.returns
  have hts0 := atoms_spec (ws := (sd_wsW yL_over cL_over 6 (some .int) [(0, 11, 14, 13), (0, 11, 18, 23)])) B.pre
  have htb := sd_table B (hts0 _ List.mem_cons_self)
  have hts : ∀ w ∈ sd_WS, w.before _ s = true := fun w h => hts0 w (List.mem_cons_of_mem _ h)
  have hown : s.vm.findClass RL = some m.cls := findClass_of_methodNamed B.named
  have hlocks := B.notSynchronized
  have hl := lv_entry ([.ref h0, .int x1, .int x2, .int x3, .ref q0]) (n := 6) (Nat.le_of_ble_eq_true rfl)
  rw [lg_entry_eq]
  generalize (lg_sl ([.ref h0, .int x1, .int x2, .int x3, .ref q0]) ++ List.replicate (6 - (lg_sl ([.ref h0, .int x1, .int x2, .int x3, .ref q0])).length) Slot.unset).toArray = ls at hl ⊢
  have hl : lv_has ls 6 [(0, .ref h0), (1, .int x1), (2, .int x2), (3, .int x3), (4, .ref q0)] := hl
  obtain ⟨A, hAe⟩ : ∃ A, A = va_A (sd_OL cA h0 a0 n w cO q0 ou) s.heap.size := ⟨_, rfl⟩
  have hD : va_D A (sd_OL cA h0 a0 n w cO q0 ou) := by rw [hAe]; exact hD0.self
  have hA : ∀ q : Nat, s.heap.size ≤ q → A q := fun q h => by rw [hAe]; exact Or.inr h
  have hS : va_S A s.heap s.heap [] := va_S.rf
  have hP : va_P (dC, dI) vwCl [(h0, .inr (0, [.ref a0, .int (nI n), .int (nI (sd_sum w n))])), (a0, .inl (cA, 8, .inl (fun i => nI (w i)))), (q0, .inl (cO, 1, .inr (.inl ou)))] s.heap := hP
  have hD : va_D A [(h0, .inr (0, [.ref a0, .int (nI n), .int (nI (sd_sum w n))])), (a0, .inl (cA, 8, .inl (fun i => nI (w i)))), (q0, .inl (cO, 1, .inr (.inl ou)))] := hD
  have hPc := hP.sub (ws' := (sd_O cA h0 a0 n w)) [0, 1] rfl
  have hKc := hK.sub (tys' := [(cA, .int)]) [0] rfl
  have hDc := hD.sub (ws' := (sd_O cA h0 a0 n w)) [0, 1] (by decide) rfl
  refine lv_aload hx hb dL_over_0 (lv_at hl 4 rfl) ?_
  refine lv_iconst (v := (nI 0)) hx hb dL_over_2 (by decide +kernel) ?_
  refine lv_aload_n hx hb dL_over_3 rfl (lv_at hl 0 rfl) ?_
  refine lv_iload_n hx hb dL_over_4 rfl (lv_at hl 1 rfl) ?_
  refine lv_iload_n hx hb dL_over_5 rfl (lv_at hl 2 rfl) ?_
  refine lv_iload_n hx hb dL_over_6 rfl (lv_at hl 3 rfl) ?_
  refine sd_thrV (As := [.int x1, .int x2, .int x3]) (rest := [.int (nI 0), .ref q0]) ⟨hx, hb, hml, hown, hts0⟩ (t_over1 l hl9 dC dI cA h0 a0 n w x1 x2 x3 hbad) (cwV 3 hts0 (sd_gV k_methodLink_L_25 k_instanceMethod_X0_over k_sel_X0_over k_init_ShareDesk k_code_X0_over) rfl rfl rfl (by decide +kernel) ⟨Nat.le_of_ble_eq_true rfl, Nat.le_of_ble_eq_true rfl⟩) (sd_preVt hKc hPc hTH (q0 := 0) (ci := 0) rfl rfl) rfl hl.1 rfl (lv_room (Nat.le_of_ble_eq_true rfl)) dL_over_7 ⟨Nat.le_refl _, Nat.le_refl _⟩ (sd_catch1 (own := RL) (cls := sd_IA) (x := (⟨0, 11, 14, 13⟩ : ExceptionTableEntry)) (t := [(⟨0, 11, 18, 23⟩ : ExceptionTableEntry)]) (by rw [htb]; rfl) hown (by decide) (by decide) (hts (.classLink RL 13 sd_IA) k_classLink_L_13) (va_any rfl hTH.2.2.2.1) (fun H q9 hz hk => ?_))
  have hP := sd_keptP hP hk
  have hS : va_S A s.heap H [] := ⟨hz, fun q hq _ => hk q hq, fun _ h => nomatch h⟩
  refine W.eq (g2 := F0 m 14 ls [.ref q9]) rfl ?_
  refine lv_astore hx hb dL_over_14 hl (by decide) rfl (fun ls hl => ?_)
  have hl : lv_has ls 6 [(5, .ref q9), (0, .ref h0), (1, .int x1), (2, .int x2), (3, .int x3), (4, .ref q0)] := hl
  refine lv_iconst (v := (nI 1)) hx hb dL_over_16 (by decide +kernel) ?_
  have hP : va_P (dC, dI) vwCl (sd_OL cA h0 a0 n w cO q0 ou) H := hP
  have hD : va_D A (sd_OL cA h0 a0 n w cO q0 ou) := hD
  refine W.widen (k := 1) (n := 6) (by omega) (by omega) ?_
  exact W.iret hx hb hr (fun t ht hW => ⟨⟨_, (), rfl, rfl, by rw [ht]; exact hP, va_K.moved hW.alike hK, by rw [← hAe]; exact hD⟩, by rw [← hAe]; exact hS.F ht⟩) (fun q hq => by rw [← hAe]; exact hS.2.2 q hq) dL_over_17
set_option maxHeartbeats 4000000 in
set_option maxRecDepth 100000 in
theorem w_over2 (l : Launch) (hl9 : l.stackTraces = false) (dC : Nat → ClassId) (dI : Nat → Nat → Nat) (cA : ClassId) (h0 a0 n : Nat) (w : Nat → Nat) (cO : ClassId) (q0 : Nat) (ou : Nat → Int64) (sz : Nat) (y : Nat) (hy : y ≤ 2) (x2 x3 : Int32) (hbad : x2 < 0 ∨ nI 10000 < x2) : Met l yL_over (sd_wsW yL_over cL_over 6 (some .int) [(0, 11, 14, 13), (0, 11, 18, 23)]) (sd_rm 8 1 6) (sd_PwT (dC, dI) vwCl [(cA, .int), (cO, .long)] (sd_OL cA h0 a0 n w cO q0 ou) sz [.ref h0, .int (nI y), .int x2, .int x3, .ref q0]) (va_Qi (fun r (_ : Unit) => r = nI 1) (sd_Bw (dC, dI) vwCl [(cA, .int), (cO, .long)] (sd_OL cA h0 a0 n w cO q0 ou) sz (fun _ => (sd_OL cA h0 a0 n w cO q0 ou))) (va_A (sd_OL cA h0 a0 n w cO q0 ou) sz)) 1 6 (va_A (sd_OL cA h0 a0 n w cO q0 ou) sz) := by
  refine va_MetW (cc := cL_over) (maxL := 6) (ret := (some .int)) (hh := [(0, 11, 14, 13), (0, 11, 18, 23)]) (by decide) rfl ?_
  intro p e s m args below meth c s₁ B hml hv
  obtain ⟨rfl, hsz, hP, hK, hD0, hTH⟩ := hv
  subst hsz
  have hx := B.exec
  have hb := B.bytes
  have hr := B.returns
  have hts0 := atoms_spec (ws := (sd_wsW yL_over cL_over 6 (some .int) [(0, 11, 14, 13), (0, 11, 18, 23)])) B.pre
  have htb := sd_table B (hts0 _ List.mem_cons_self)
  have hts : ∀ w ∈ sd_WS, w.before _ s = true := fun w h => hts0 w (List.mem_cons_of_mem _ h)
  have hown : s.vm.findClass RL = some m.cls := findClass_of_methodNamed B.named
  have hlocks := B.notSynchronized
  have hl := lv_entry ([.ref h0, .int (nI y), .int x2, .int x3, .ref q0]) (n := 6) (Nat.le_of_ble_eq_true rfl)
  rw [lg_entry_eq]
  generalize (lg_sl ([.ref h0, .int (nI y), .int x2, .int x3, .ref q0]) ++ List.replicate (6 - (lg_sl ([.ref h0, .int (nI y), .int x2, .int x3, .ref q0])).length) Slot.unset).toArray = ls at hl ⊢
  have hl : lv_has ls 6 [(0, .ref h0), (1, .int (nI y)), (2, .int x2), (3, .int x3), (4, .ref q0)] := hl
  obtain ⟨A, hAe⟩ : ∃ A, A = va_A (sd_OL cA h0 a0 n w cO q0 ou) s.heap.size := ⟨_, rfl⟩
  have hD : va_D A (sd_OL cA h0 a0 n w cO q0 ou) := by rw [hAe]; exact hD0.self
  have hA : ∀ q : Nat, s.heap.size ≤ q → A q := fun q h => by rw [hAe]; exact Or.inr h
  have hS : va_S A s.heap s.heap [] := va_S.rf
  have hP : va_P (dC, dI) vwCl [(h0, .inr (0, [.ref a0, .int (nI n), .int (nI (sd_sum w n))])), (a0, .inl (cA, 8, .inl (fun i => nI (w i)))), (q0, .inl (cO, 1, .inr (.inl ou)))] s.heap := hP
  have hD : va_D A [(h0, .inr (0, [.ref a0, .int (nI n), .int (nI (sd_sum w n))])), (a0, .inl (cA, 8, .inl (fun i => nI (w i)))), (q0, .inl (cO, 1, .inr (.inl ou)))] := hD
  have hPc := hP.sub (ws' := (sd_O cA h0 a0 n w)) [0, 1] rfl
  have hKc := hK.sub (tys' := [(cA, .int)]) [0] rfl
  have hDc := hD.sub (ws' := (sd_O cA h0 a0 n w)) [0, 1] (by decide) rfl
  refine lv_aload hx hb dL_over_0 (lv_at hl 4 rfl) ?_
  refine lv_iconst (v := (nI 0)) hx hb dL_over_2 (by decide +kernel) ?_
  refine lv_aload_n hx hb dL_over_3 rfl (lv_at hl 0 rfl) ?_
  refine lv_iload_n hx hb dL_over_4 rfl (lv_at hl 1 rfl) ?_
  refine lv_iload_n hx hb dL_over_5 rfl (lv_at hl 2 rfl) ?_
  refine lv_iload_n hx hb dL_over_6 rfl (lv_at hl 3 rfl) ?_
  refine sd_thrV (As := [.int (nI y), .int x2, .int x3]) (rest := [.int (nI 0), .ref q0]) ⟨hx, hb, hml, hown, hts0⟩ (t_over2 l hl9 dC dI cA h0 a0 n w y hy x2 x3 hbad) (cwV 3 hts0 (sd_gV k_methodLink_L_25 k_instanceMethod_X0_over k_sel_X0_over k_init_ShareDesk k_code_X0_over) rfl rfl rfl (by decide +kernel) ⟨Nat.le_of_ble_eq_true rfl, Nat.le_of_ble_eq_true rfl⟩) (sd_preVt hKc hPc hTH (q0 := 0) (ci := 0) rfl rfl) rfl hl.1 rfl (lv_room (Nat.le_of_ble_eq_true rfl)) dL_over_7 ⟨Nat.le_refl _, Nat.le_refl _⟩ (sd_catch1 (own := RL) (cls := sd_IA) (x := (⟨0, 11, 14, 13⟩ : ExceptionTableEntry)) (t := [(⟨0, 11, 18, 23⟩ : ExceptionTableEntry)]) (by rw [htb]; rfl) hown (by decide) (by decide) (hts (.classLink RL 13 sd_IA) k_classLink_L_13) (va_any rfl hTH.2.2.2.1) (fun H q9 hz hk => ?_))
  have hP := sd_keptP hP hk
  have hS : va_S A s.heap H [] := ⟨hz, fun q hq _ => hk q hq, fun _ h => nomatch h⟩
  refine W.eq (g2 := F0 m 14 ls [.ref q9]) rfl ?_
  refine lv_astore hx hb dL_over_14 hl (by decide) rfl (fun ls hl => ?_)
  have hl : lv_has ls 6 [(5, .ref q9), (0, .ref h0), (1, .int (nI y)), (2, .int x2), (3, .int x3), (4, .ref q0)] := hl
  refine lv_iconst (v := (nI 1)) hx hb dL_over_16 (by decide +kernel) ?_
  have hP : va_P (dC, dI) vwCl (sd_OL cA h0 a0 n w cO q0 ou) H := hP
  have hD : va_D A (sd_OL cA h0 a0 n w cO q0 ou) := hD
  refine W.widen (k := 1) (n := 6) (by omega) (by omega) ?_
  exact W.iret hx hb hr (fun t ht hW => ⟨⟨_, (), rfl, rfl, by rw [ht]; exact hP, va_K.moved hW.alike hK, by rw [← hAe]; exact hD⟩, by rw [← hAe]; exact hS.F ht⟩) (fun q hq => by rw [← hAe]; exact hS.2.2 q hq) dL_over_17
set_option maxHeartbeats 4000000 in
set_option maxRecDepth 100000 in
theorem w_over3 (l : Launch) (hl9 : l.stackTraces = false) (dC : Nat → ClassId) (dI : Nat → Nat → Nat) (cA : ClassId) (h0 a0 n : Nat) (w : Nat → Nat) (cO : ClassId) (q0 : Nat) (ou : Nat → Int64) (sz : Nat) (y u : Nat) (hy : y ≤ 2) (hu : u ≤ 10000) (x3 : Int32) (hbad : x3 < 0 ∨ nI n ≤ x3) : Met l yL_over (sd_wsW yL_over cL_over 6 (some .int) [(0, 11, 14, 13), (0, 11, 18, 23)]) (sd_rm 8 1 6) (sd_PwT (dC, dI) vwCl [(cA, .int), (cO, .long)] (sd_OL cA h0 a0 n w cO q0 ou) sz [.ref h0, .int (nI y), .int (nI u), .int x3, .ref q0]) (va_Qi (fun r (_ : Unit) => r = nI 1) (sd_Bw (dC, dI) vwCl [(cA, .int), (cO, .long)] (sd_OL cA h0 a0 n w cO q0 ou) sz (fun _ => (sd_OL cA h0 a0 n w cO q0 ou))) (va_A (sd_OL cA h0 a0 n w cO q0 ou) sz)) 1 6 (va_A (sd_OL cA h0 a0 n w cO q0 ou) sz) := by
  refine va_MetW (cc := cL_over) (maxL := 6) (ret := (some .int)) (hh := [(0, 11, 14, 13), (0, 11, 18, 23)]) (by decide) rfl ?_
  intro p e s m args below meth c s₁ B hml hv
  obtain ⟨rfl, hsz, hP, hK, hD0, hTH⟩ := hv
  subst hsz
  have hx := B.exec
  have hb := B.bytes
  have hr := B.returns
  have hts0 := atoms_spec (ws := (sd_wsW yL_over cL_over 6 (some .int) [(0, 11, 14, 13), (0, 11, 18, 23)])) B.pre
  have htb := sd_table B (hts0 _ List.mem_cons_self)
  have hts : ∀ w ∈ sd_WS, w.before _ s = true := fun w h => hts0 w (List.mem_cons_of_mem _ h)
  have hown : s.vm.findClass RL = some m.cls := findClass_of_methodNamed B.named
  have hlocks := B.notSynchronized
  have hl := lv_entry ([.ref h0, .int (nI y), .int (nI u), .int x3, .ref q0]) (n := 6) (Nat.le_of_ble_eq_true rfl)
  rw [lg_entry_eq]
  generalize (lg_sl ([.ref h0, .int (nI y), .int (nI u), .int x3, .ref q0]) ++ List.replicate (6 - (lg_sl ([.ref h0, .int (nI y), .int (nI u), .int x3, .ref q0])).length) Slot.unset).toArray = ls at hl ⊢
  have hl : lv_has ls 6 [(0, .ref h0), (1, .int (nI y)), (2, .int (nI u)), (3, .int x3), (4, .ref q0)] := hl
  obtain ⟨A, hAe⟩ : ∃ A, A = va_A (sd_OL cA h0 a0 n w cO q0 ou) s.heap.size := ⟨_, rfl⟩
  have hD : va_D A (sd_OL cA h0 a0 n w cO q0 ou) := by rw [hAe]; exact hD0.self
  have hA : ∀ q : Nat, s.heap.size ≤ q → A q := fun q h => by rw [hAe]; exact Or.inr h
  have hS : va_S A s.heap s.heap [] := va_S.rf
  have hP : va_P (dC, dI) vwCl [(h0, .inr (0, [.ref a0, .int (nI n), .int (nI (sd_sum w n))])), (a0, .inl (cA, 8, .inl (fun i => nI (w i)))), (q0, .inl (cO, 1, .inr (.inl ou)))] s.heap := hP
  have hD : va_D A [(h0, .inr (0, [.ref a0, .int (nI n), .int (nI (sd_sum w n))])), (a0, .inl (cA, 8, .inl (fun i => nI (w i)))), (q0, .inl (cO, 1, .inr (.inl ou)))] := hD
  have hPc := hP.sub (ws' := (sd_O cA h0 a0 n w)) [0, 1] rfl
  have hKc := hK.sub (tys' := [(cA, .int)]) [0] rfl
  have hDc := hD.sub (ws' := (sd_O cA h0 a0 n w)) [0, 1] (by decide) rfl
  refine lv_aload hx hb dL_over_0 (lv_at hl 4 rfl) ?_
  refine lv_iconst (v := (nI 0)) hx hb dL_over_2 (by decide +kernel) ?_
  refine lv_aload_n hx hb dL_over_3 rfl (lv_at hl 0 rfl) ?_
  refine lv_iload_n hx hb dL_over_4 rfl (lv_at hl 1 rfl) ?_
  refine lv_iload_n hx hb dL_over_5 rfl (lv_at hl 2 rfl) ?_
  refine lv_iload_n hx hb dL_over_6 rfl (lv_at hl 3 rfl) ?_
  refine sd_thrV (As := [.int (nI y), .int (nI u), .int x3]) (rest := [.int (nI 0), .ref q0]) ⟨hx, hb, hml, hown, hts0⟩ (t_over3 l hl9 dC dI cA h0 a0 n w y u hy hu x3 hbad) (cwV 3 hts0 (sd_gV k_methodLink_L_25 k_instanceMethod_X0_over k_sel_X0_over k_init_ShareDesk k_code_X0_over) rfl rfl rfl (by decide +kernel) ⟨Nat.le_of_ble_eq_true rfl, Nat.le_of_ble_eq_true rfl⟩) (sd_preVt hKc hPc hTH (q0 := 0) (ci := 0) rfl rfl) rfl hl.1 rfl (lv_room (Nat.le_of_ble_eq_true rfl)) dL_over_7 ⟨Nat.le_refl _, Nat.le_refl _⟩ (sd_catch1 (own := RL) (cls := sd_IA) (x := (⟨0, 11, 14, 13⟩ : ExceptionTableEntry)) (t := [(⟨0, 11, 18, 23⟩ : ExceptionTableEntry)]) (by rw [htb]; rfl) hown (by decide) (by decide) (hts (.classLink RL 13 sd_IA) k_classLink_L_13) (va_any rfl hTH.2.2.2.1) (fun H q9 hz hk => ?_))
  have hP := sd_keptP hP hk
  have hS : va_S A s.heap H [] := ⟨hz, fun q hq _ => hk q hq, fun _ h => nomatch h⟩
  refine W.eq (g2 := F0 m 14 ls [.ref q9]) rfl ?_
  refine lv_astore hx hb dL_over_14 hl (by decide) rfl (fun ls hl => ?_)
  have hl : lv_has ls 6 [(5, .ref q9), (0, .ref h0), (1, .int (nI y)), (2, .int (nI u)), (3, .int x3), (4, .ref q0)] := hl
  refine lv_iconst (v := (nI 1)) hx hb dL_over_16 (by decide +kernel) ?_
  have hP : va_P (dC, dI) vwCl (sd_OL cA h0 a0 n w cO q0 ou) H := hP
  have hD : va_D A (sd_OL cA h0 a0 n w cO q0 ou) := hD
  refine W.widen (k := 1) (n := 6) (by omega) (by omega) ?_
  exact W.iret hx hb hr (fun t ht hW => ⟨⟨_, (), rfl, rfl, by rw [ht]; exact hP, va_K.moved hW.alike hK, by rw [← hAe]; exact hD⟩, by rw [← hAe]; exact hS.F ht⟩) (fun q hq => by rw [← hAe]; exact hS.2.2 q hq) dL_over_17
set_option maxHeartbeats 4000000 in
set_option maxRecDepth 100000 in
theorem w_over4 (l : Launch) (hl9 : l.stackTraces = false) (dC : Nat → ClassId) (dI : Nat → Nat → Nat) (cA : ClassId) (h0 a0 n : Nat) (w : Nat → Nat) (cO : ClassId) (q0 : Nat) (ou : Nat → Int64) (sz : Nat) (ok : sd_ok n w) (y u q : Nat) (hy : y ≤ 2) (hu : u ≤ 10000) (hq : q < n) (hz0 : sd_sum w n = 0) : Met l yL_over (sd_wsW yL_over cL_over 6 (some .int) [(0, 11, 14, 13), (0, 11, 18, 23)]) (sd_rm 8 1 6) (sd_PwT (dC, dI) vwCl [(cA, .int), (cO, .long)] (sd_OL cA h0 a0 n w cO q0 ou) sz [.ref h0, .int (nI y), .int (nI u), .int (nI q), .ref q0]) (va_Qi (fun r (_ : Unit) => r = nI 2) (sd_Bw (dC, dI) vwCl [(cA, .int), (cO, .long)] (sd_OL cA h0 a0 n w cO q0 ou) sz (fun _ => (sd_OL cA h0 a0 n w cO q0 ou))) (va_A (sd_OL cA h0 a0 n w cO q0 ou) sz)) 1 6 (va_A (sd_OL cA h0 a0 n w cO q0 ou) sz) := by
  refine va_MetW (cc := cL_over) (maxL := 6) (ret := (some .int)) (hh := [(0, 11, 14, 13), (0, 11, 18, 23)]) (by decide) rfl ?_
  intro p e s m args below meth c s₁ B hml hv
  obtain ⟨rfl, hsz, hP, hK, hD0, hTH⟩ := hv
  subst hsz
  have hx := B.exec
  have hb := B.bytes
  have hr := B.returns
  have hts0 := atoms_spec (ws := (sd_wsW yL_over cL_over 6 (some .int) [(0, 11, 14, 13), (0, 11, 18, 23)])) B.pre
  have htb := sd_table B (hts0 _ List.mem_cons_self)
  have hts : ∀ w ∈ sd_WS, w.before _ s = true := fun w h => hts0 w (List.mem_cons_of_mem _ h)
  have hown : s.vm.findClass RL = some m.cls := findClass_of_methodNamed B.named
  have hlocks := B.notSynchronized
  have hl := lv_entry ([.ref h0, .int (nI y), .int (nI u), .int (nI q), .ref q0]) (n := 6) (Nat.le_of_ble_eq_true rfl)
  rw [lg_entry_eq]
  generalize (lg_sl ([.ref h0, .int (nI y), .int (nI u), .int (nI q), .ref q0]) ++ List.replicate (6 - (lg_sl ([.ref h0, .int (nI y), .int (nI u), .int (nI q), .ref q0])).length) Slot.unset).toArray = ls at hl ⊢
  have hl : lv_has ls 6 [(0, .ref h0), (1, .int (nI y)), (2, .int (nI u)), (3, .int (nI q)), (4, .ref q0)] := hl
  obtain ⟨A, hAe⟩ : ∃ A, A = va_A (sd_OL cA h0 a0 n w cO q0 ou) s.heap.size := ⟨_, rfl⟩
  have hD : va_D A (sd_OL cA h0 a0 n w cO q0 ou) := by rw [hAe]; exact hD0.self
  have hA : ∀ q : Nat, s.heap.size ≤ q → A q := fun q h => by rw [hAe]; exact Or.inr h
  have hS : va_S A s.heap s.heap [] := va_S.rf
  have hP : va_P (dC, dI) vwCl [(h0, .inr (0, [.ref a0, .int (nI n), .int (nI (sd_sum w n))])), (a0, .inl (cA, 8, .inl (fun i => nI (w i)))), (q0, .inl (cO, 1, .inr (.inl ou)))] s.heap := hP
  have hD : va_D A [(h0, .inr (0, [.ref a0, .int (nI n), .int (nI (sd_sum w n))])), (a0, .inl (cA, 8, .inl (fun i => nI (w i)))), (q0, .inl (cO, 1, .inr (.inl ou)))] := hD
  have hPc := hP.sub (ws' := (sd_O cA h0 a0 n w)) [0, 1] rfl
  have hKc := hK.sub (tys' := [(cA, .int)]) [0] rfl
  have hDc := hD.sub (ws' := (sd_O cA h0 a0 n w)) [0, 1] (by decide) rfl
  refine lv_aload hx hb dL_over_0 (lv_at hl 4 rfl) ?_
  refine lv_iconst (v := (nI 0)) hx hb dL_over_2 (by decide +kernel) ?_
  refine lv_aload_n hx hb dL_over_3 rfl (lv_at hl 0 rfl) ?_
  refine lv_iload_n hx hb dL_over_4 rfl (lv_at hl 1 rfl) ?_
  refine lv_iload_n hx hb dL_over_5 rfl (lv_at hl 2 rfl) ?_
  refine lv_iload_n hx hb dL_over_6 rfl (lv_at hl 3 rfl) ?_
  refine sd_thrV (As := [.int (nI y), .int (nI u), .int (nI q)]) (rest := [.int (nI 0), .ref q0]) ⟨hx, hb, hml, hown, hts0⟩ (t_over4 l hl9 dC dI cA h0 a0 n w ok y u q hy hu hq hz0) (cwV 3 hts0 (sd_gV k_methodLink_L_25 k_instanceMethod_X0_over k_sel_X0_over k_init_ShareDesk k_code_X0_over) rfl rfl rfl (by decide +kernel) ⟨Nat.le_of_ble_eq_true rfl, Nat.le_of_ble_eq_true rfl⟩) (sd_preVt hKc hPc hTH (q0 := 0) (ci := 0) rfl rfl) rfl hl.1 rfl (lv_room (Nat.le_of_ble_eq_true rfl)) dL_over_7 ⟨Nat.le_refl _, Nat.le_refl _⟩ (sd_catch2 (own := RL) (cls := sd_IS) (other := sd_IA) (x := (⟨0, 11, 14, 13⟩ : ExceptionTableEntry)) (y := (⟨0, 11, 18, 23⟩ : ExceptionTableEntry)) (t := []) (by rw [htb]; rfl) hown (by decide) (by decide) (by decide) (by decide) (hts (.classLink RL 13 sd_IA) k_classLink_L_13) (hts (.classLink RL 23 sd_IS) k_classLink_L_23) hTH.2.2.2.2.2.1 (va_any rfl hTH.2.2.2.2.1) (fun H q9 hz hk => ?_))
  have hP := sd_keptP hP hk
  have hS : va_S A s.heap H [] := ⟨hz, fun q hq _ => hk q hq, fun _ h => nomatch h⟩
  refine W.eq (g2 := F0 m 18 ls [.ref q9]) rfl ?_
  refine lv_astore hx hb dL_over_18 hl (by decide) rfl (fun ls hl => ?_)
  have hl : lv_has ls 6 [(5, .ref q9), (0, .ref h0), (1, .int (nI y)), (2, .int (nI u)), (3, .int (nI q)), (4, .ref q0)] := hl
  refine lv_iconst (v := (nI 2)) hx hb dL_over_20 (by decide +kernel) ?_
  have hP : va_P (dC, dI) vwCl (sd_OL cA h0 a0 n w cO q0 ou) H := hP
  have hD : va_D A (sd_OL cA h0 a0 n w cO q0 ou) := hD
  refine W.widen (k := 1) (n := 6) (by omega) (by omega) ?_
  exact W.iret hx hb hr (fun t ht hW => ⟨⟨_, (), rfl, rfl, by rw [ht]; exact hP, va_K.moved hW.alike hK, by rw [← hAe]; exact hD⟩, by rw [← hAe]; exact hS.F ht⟩) (fun q hq => by rw [← hAe]; exact hS.2.2 q hq) dL_over_21
set_option maxHeartbeats 4000000 in
set_option maxRecDepth 100000 in
theorem w_next (l : Launch) (hl9 : l.stackTraces = false) (dC : Nat → ClassId) (dI : Nat → Nat → Nat) (cA : ClassId) (h0 a0 n : Nat) (w : Nat → Nat) (cO : ClassId) (q0 : Nat) (ou : Nat → Int64) (sz : Nat) (ok : sd_ok n w) (hW : 0 < sd_sum w n) (y u : Nat) (hy : y ≤ 2) (hu : u ≤ 9999) : Met l yL_next (sd_wsW yL_next cL_next 5 (some .int) [(0, 10, 13, 13), (0, 10, 17, 23)]) (sd_rm 8 1 6) (sd_PwT (dC, dI) vwCl [(cA, .int), (cO, .long)] (sd_OL cA h0 a0 n w cO q0 ou) sz [.ref h0, .int (nI y), .int (nI u), .ref q0]) (va_Qi (fun r (_ : Unit) => r = nI 0) (sd_Bw (dC, dI) vwCl [(cA, .int), (cO, .long)] (sd_OL cA h0 a0 n w cO q0 ou) sz (fun _ => (sd_OL cA h0 a0 n w cO q0 (vp_updL ou 0 ((sd_oi (sd_na (sd_nc (sd_U y w n u) (sd_U y w n (u + 1)) n))).toInt64))))) (va_A (sd_OL cA h0 a0 n w cO q0 ou) sz)) 1 6 (va_A (sd_OL cA h0 a0 n w cO q0 ou) sz) := by
  refine va_MetW (cc := cL_next) (maxL := 5) (ret := (some .int)) (hh := [(0, 10, 13, 13), (0, 10, 17, 23)]) (by decide) rfl ?_
  intro p e s m args below meth c s₁ B hml hv
  obtain ⟨rfl, hsz, hP, hK, hD0, hTH⟩ := hv
  subst hsz
  have hx := B.exec
  have hb := B.bytes
  have hr := B.returns
  have hts0 := atoms_spec (ws := (sd_wsW yL_next cL_next 5 (some .int) [(0, 10, 13, 13), (0, 10, 17, 23)])) B.pre
  have htb := sd_table B (hts0 _ List.mem_cons_self)
  have hts : ∀ w ∈ sd_WS, w.before _ s = true := fun w h => hts0 w (List.mem_cons_of_mem _ h)
  have hown : s.vm.findClass RL = some m.cls := findClass_of_methodNamed B.named
  have hlocks := B.notSynchronized
  have hl := lv_entry ([.ref h0, .int (nI y), .int (nI u), .ref q0]) (n := 5) (Nat.le_of_ble_eq_true rfl)
  rw [lg_entry_eq]
  generalize (lg_sl ([.ref h0, .int (nI y), .int (nI u), .ref q0]) ++ List.replicate (5 - (lg_sl ([.ref h0, .int (nI y), .int (nI u), .ref q0])).length) Slot.unset).toArray = ls at hl ⊢
  have hl : lv_has ls 5 [(0, .ref h0), (1, .int (nI y)), (2, .int (nI u)), (3, .ref q0)] := hl
  obtain ⟨A, hAe⟩ : ∃ A, A = va_A (sd_OL cA h0 a0 n w cO q0 ou) s.heap.size := ⟨_, rfl⟩
  have hD : va_D A (sd_OL cA h0 a0 n w cO q0 ou) := by rw [hAe]; exact hD0.self
  have hA : ∀ q : Nat, s.heap.size ≤ q → A q := fun q h => by rw [hAe]; exact Or.inr h
  have hS : va_S A s.heap s.heap [] := va_S.rf
  have hP : va_P (dC, dI) vwCl [(h0, .inr (0, [.ref a0, .int (nI n), .int (nI (sd_sum w n))])), (a0, .inl (cA, 8, .inl (fun i => nI (w i)))), (q0, .inl (cO, 1, .inr (.inl ou)))] s.heap := hP
  have hD : va_D A [(h0, .inr (0, [.ref a0, .int (nI n), .int (nI (sd_sum w n))])), (a0, .inl (cA, 8, .inl (fun i => nI (w i)))), (q0, .inl (cO, 1, .inr (.inl ou)))] := hD
  have hPc := hP.sub (ws' := (sd_O cA h0 a0 n w)) [0, 1] rfl
  have hKc := hK.sub (tys' := [(cA, .int)]) [0] rfl
  have hDc := hD.sub (ws' := (sd_O cA h0 a0 n w)) [0, 1] (by decide) rfl
  refine lv_aload_n hx hb dL_next_0 rfl (lv_at hl 3 rfl) ?_
  refine lv_iconst (v := (nI 0)) hx hb dL_next_1 (by decide +kernel) ?_
  refine lv_aload_n hx hb dL_next_2 rfl (lv_at hl 0 rfl) ?_
  refine lv_iload_n hx hb dL_next_3 rfl (lv_at hl 1 rfl) ?_
  refine lv_iload_n hx hb dL_next_4 rfl (lv_at hl 2 rfl) ?_
  refine sd_calli (va_runV (As := [.int (nI y), .int (nI u)]) (rest := [.int (nI 0), .ref q0]) ⟨hx, hb, hml, hown, hts0⟩ (c_next l dC dI cA h0 a0 n w ok hW y u hy hu) (cwV 2 hts0 (sd_gV k_methodLink_L_29 k_instanceMethod_X0_next k_sel_X0_next k_init_ShareDesk k_code_X0_next) rfl rfl rfl (by decide +kernel) ⟨Nat.le_of_ble_eq_true rfl, Nat.le_of_ble_eq_true rfl⟩) (sd_preV hKc hPc (q0 := 0) (ci := 0) rfl rfl) rfl rfl hl.1 rfl (lv_room (Nat.le_of_ble_eq_true rfl)) dL_next_5 ⟨Nat.zero_le _, Nat.zero_le _⟩) ?_
  refine lv_i2l (v := (sd_oi (sd_na (sd_nc (sd_U y w n u) (sd_U y w n (u + 1)) n))).toInt64) hx hb dL_next_8 rfl ?_
  refine sd_last (j := 0) hx hb hK hP hD hS 2 1 rfl rfl (by omega) (by decide) dL_next_9 (fun H locs hP hD hS => ?_)
  have hP : va_P (dC, dI) vwCl [(h0, .inr (0, [.ref a0, .int (nI n), .int (nI (sd_sum w n))])), (a0, .inl (cA, 8, .inl (fun i => nI (w i)))), (q0, .inl (cO, 1, .inr (.inl (vp_updL ou 0 ((sd_oi (sd_na (sd_nc (sd_U y w n u) (sd_U y w n (u + 1)) n))).toInt64)))))] H := hP
  have hD : va_D A [(h0, .inr (0, [.ref a0, .int (nI n), .int (nI (sd_sum w n))])), (a0, .inl (cA, 8, .inl (fun i => nI (w i)))), (q0, .inl (cO, 1, .inr (.inl (vp_updL ou 0 ((sd_oi (sd_na (sd_nc (sd_U y w n u) (sd_U y w n (u + 1)) n))).toInt64)))))] := hD
  refine lv_goto (tgt := 21) hx hb dL_next_10 (by decide) ?_
  refine lv_iconst (v := (nI 0)) hx hb dL_next_21 (by decide +kernel) ?_
  have hP : va_P (dC, dI) vwCl (sd_OL cA h0 a0 n w cO q0 (vp_updL ou 0 ((sd_oi (sd_na (sd_nc (sd_U y w n u) (sd_U y w n (u + 1)) n))).toInt64))) H := hP
  have hD : va_D A (sd_OL cA h0 a0 n w cO q0 (vp_updL ou 0 ((sd_oi (sd_na (sd_nc (sd_U y w n u) (sd_U y w n (u + 1)) n))).toInt64))) := hD
  refine W.widen (k := 1) (n := 6) (by omega) (by omega) ?_
  exact W.iret hx hb hr (fun t ht hW => ⟨⟨_, (), rfl, rfl, by rw [ht]; exact hP, va_K.moved hW.alike hK, by rw [← hAe]; exact hD⟩, by rw [← hAe]; exact hS.F ht⟩) (fun q hq => by rw [← hAe]; exact hS.2.2 q hq) dL_next_22
set_option maxHeartbeats 4000000 in
set_option maxRecDepth 100000 in
theorem w_next1 (l : Launch) (hl9 : l.stackTraces = false) (dC : Nat → ClassId) (dI : Nat → Nat → Nat) (cA : ClassId) (h0 a0 n : Nat) (w : Nat → Nat) (cO : ClassId) (q0 : Nat) (ou : Nat → Int64) (sz : Nat) (x1 x2 : Int32) (hbad : x1 < 0 ∨ nI 2 < x1) : Met l yL_next (sd_wsW yL_next cL_next 5 (some .int) [(0, 10, 13, 13), (0, 10, 17, 23)]) (sd_rm 8 1 6) (sd_PwT (dC, dI) vwCl [(cA, .int), (cO, .long)] (sd_OL cA h0 a0 n w cO q0 ou) sz [.ref h0, .int x1, .int x2, .ref q0]) (va_Qi (fun r (_ : Unit) => r = nI 1) (sd_Bw (dC, dI) vwCl [(cA, .int), (cO, .long)] (sd_OL cA h0 a0 n w cO q0 ou) sz (fun _ => (sd_OL cA h0 a0 n w cO q0 ou))) (va_A (sd_OL cA h0 a0 n w cO q0 ou) sz)) 1 6 (va_A (sd_OL cA h0 a0 n w cO q0 ou) sz) := by
  refine va_MetW (cc := cL_next) (maxL := 5) (ret := (some .int)) (hh := [(0, 10, 13, 13), (0, 10, 17, 23)]) (by decide) rfl ?_
  intro p e s m args below meth c s₁ B hml hv
  obtain ⟨rfl, hsz, hP, hK, hD0, hTH⟩ := hv
  subst hsz
  have hx := B.exec
  have hb := B.bytes
  have hr := B.returns
  have hts0 := atoms_spec (ws := (sd_wsW yL_next cL_next 5 (some .int) [(0, 10, 13, 13), (0, 10, 17, 23)])) B.pre
  have htb := sd_table B (hts0 _ List.mem_cons_self)
  have hts : ∀ w ∈ sd_WS, w.before _ s = true := fun w h => hts0 w (List.mem_cons_of_mem _ h)
  have hown : s.vm.findClass RL = some m.cls := findClass_of_methodNamed B.named
  have hlocks := B.notSynchronized
  have hl := lv_entry ([.ref h0, .int x1, .int x2, .ref q0]) (n := 5) (Nat.le_of_ble_eq_true rfl)
  rw [lg_entry_eq]
  generalize (lg_sl ([.ref h0, .int x1, .int x2, .ref q0]) ++ List.replicate (5 - (lg_sl ([.ref h0, .int x1, .int x2, .ref q0])).length) Slot.unset).toArray = ls at hl ⊢
  have hl : lv_has ls 5 [(0, .ref h0), (1, .int x1), (2, .int x2), (3, .ref q0)] := hl
  obtain ⟨A, hAe⟩ : ∃ A, A = va_A (sd_OL cA h0 a0 n w cO q0 ou) s.heap.size := ⟨_, rfl⟩
  have hD : va_D A (sd_OL cA h0 a0 n w cO q0 ou) := by rw [hAe]; exact hD0.self
  have hA : ∀ q : Nat, s.heap.size ≤ q → A q := fun q h => by rw [hAe]; exact Or.inr h
  have hS : va_S A s.heap s.heap [] := va_S.rf
  have hP : va_P (dC, dI) vwCl [(h0, .inr (0, [.ref a0, .int (nI n), .int (nI (sd_sum w n))])), (a0, .inl (cA, 8, .inl (fun i => nI (w i)))), (q0, .inl (cO, 1, .inr (.inl ou)))] s.heap := hP
  have hD : va_D A [(h0, .inr (0, [.ref a0, .int (nI n), .int (nI (sd_sum w n))])), (a0, .inl (cA, 8, .inl (fun i => nI (w i)))), (q0, .inl (cO, 1, .inr (.inl ou)))] := hD
  have hPc := hP.sub (ws' := (sd_O cA h0 a0 n w)) [0, 1] rfl
  have hKc := hK.sub (tys' := [(cA, .int)]) [0] rfl
  have hDc := hD.sub (ws' := (sd_O cA h0 a0 n w)) [0, 1] (by decide) rfl
  refine lv_aload_n hx hb dL_next_0 rfl (lv_at hl 3 rfl) ?_
  refine lv_iconst (v := (nI 0)) hx hb dL_next_1 (by decide +kernel) ?_
  refine lv_aload_n hx hb dL_next_2 rfl (lv_at hl 0 rfl) ?_
  refine lv_iload_n hx hb dL_next_3 rfl (lv_at hl 1 rfl) ?_
  refine lv_iload_n hx hb dL_next_4 rfl (lv_at hl 2 rfl) ?_
  refine sd_thrV (As := [.int x1, .int x2]) (rest := [.int (nI 0), .ref q0]) ⟨hx, hb, hml, hown, hts0⟩ (t_next1 l hl9 dC dI cA h0 a0 n w x1 x2 hbad) (cwV 2 hts0 (sd_gV k_methodLink_L_29 k_instanceMethod_X0_next k_sel_X0_next k_init_ShareDesk k_code_X0_next) rfl rfl rfl (by decide +kernel) ⟨Nat.le_of_ble_eq_true rfl, Nat.le_of_ble_eq_true rfl⟩) (sd_preVt hKc hPc hTH (q0 := 0) (ci := 0) rfl rfl) rfl hl.1 rfl (lv_room (Nat.le_of_ble_eq_true rfl)) dL_next_5 ⟨Nat.le_refl _, Nat.le_refl _⟩ (sd_catch1 (own := RL) (cls := sd_IA) (x := (⟨0, 10, 13, 13⟩ : ExceptionTableEntry)) (t := [(⟨0, 10, 17, 23⟩ : ExceptionTableEntry)]) (by rw [htb]; rfl) hown (by decide) (by decide) (hts (.classLink RL 13 sd_IA) k_classLink_L_13) (va_any rfl hTH.2.2.2.1) (fun H q9 hz hk => ?_))
  have hP := sd_keptP hP hk
  have hS : va_S A s.heap H [] := ⟨hz, fun q hq _ => hk q hq, fun _ h => nomatch h⟩
  refine W.eq (g2 := F0 m 13 ls [.ref q9]) rfl ?_
  refine lv_astore hx hb dL_next_13 hl (by decide) rfl (fun ls hl => ?_)
  have hl : lv_has ls 5 [(4, .ref q9), (0, .ref h0), (1, .int x1), (2, .int x2), (3, .ref q0)] := hl
  refine lv_iconst (v := (nI 1)) hx hb dL_next_15 (by decide +kernel) ?_
  have hP : va_P (dC, dI) vwCl (sd_OL cA h0 a0 n w cO q0 ou) H := hP
  have hD : va_D A (sd_OL cA h0 a0 n w cO q0 ou) := hD
  refine W.widen (k := 1) (n := 6) (by omega) (by omega) ?_
  exact W.iret hx hb hr (fun t ht hW => ⟨⟨_, (), rfl, rfl, by rw [ht]; exact hP, va_K.moved hW.alike hK, by rw [← hAe]; exact hD⟩, by rw [← hAe]; exact hS.F ht⟩) (fun q hq => by rw [← hAe]; exact hS.2.2 q hq) dL_next_16
set_option maxHeartbeats 4000000 in
set_option maxRecDepth 100000 in
theorem w_next2 (l : Launch) (hl9 : l.stackTraces = false) (dC : Nat → ClassId) (dI : Nat → Nat → Nat) (cA : ClassId) (h0 a0 n : Nat) (w : Nat → Nat) (cO : ClassId) (q0 : Nat) (ou : Nat → Int64) (sz : Nat) (y : Nat) (hy : y ≤ 2) (x2 : Int32) (hbad : x2 < 0 ∨ nI 9999 < x2) : Met l yL_next (sd_wsW yL_next cL_next 5 (some .int) [(0, 10, 13, 13), (0, 10, 17, 23)]) (sd_rm 8 1 6) (sd_PwT (dC, dI) vwCl [(cA, .int), (cO, .long)] (sd_OL cA h0 a0 n w cO q0 ou) sz [.ref h0, .int (nI y), .int x2, .ref q0]) (va_Qi (fun r (_ : Unit) => r = nI 1) (sd_Bw (dC, dI) vwCl [(cA, .int), (cO, .long)] (sd_OL cA h0 a0 n w cO q0 ou) sz (fun _ => (sd_OL cA h0 a0 n w cO q0 ou))) (va_A (sd_OL cA h0 a0 n w cO q0 ou) sz)) 1 6 (va_A (sd_OL cA h0 a0 n w cO q0 ou) sz) := by
  refine va_MetW (cc := cL_next) (maxL := 5) (ret := (some .int)) (hh := [(0, 10, 13, 13), (0, 10, 17, 23)]) (by decide) rfl ?_
  intro p e s m args below meth c s₁ B hml hv
  obtain ⟨rfl, hsz, hP, hK, hD0, hTH⟩ := hv
  subst hsz
  have hx := B.exec
  have hb := B.bytes
  have hr := B.returns
  have hts0 := atoms_spec (ws := (sd_wsW yL_next cL_next 5 (some .int) [(0, 10, 13, 13), (0, 10, 17, 23)])) B.pre
  have htb := sd_table B (hts0 _ List.mem_cons_self)
  have hts : ∀ w ∈ sd_WS, w.before _ s = true := fun w h => hts0 w (List.mem_cons_of_mem _ h)
  have hown : s.vm.findClass RL = some m.cls := findClass_of_methodNamed B.named
  have hlocks := B.notSynchronized
  have hl := lv_entry ([.ref h0, .int (nI y), .int x2, .ref q0]) (n := 5) (Nat.le_of_ble_eq_true rfl)
  rw [lg_entry_eq]
  generalize (lg_sl ([.ref h0, .int (nI y), .int x2, .ref q0]) ++ List.replicate (5 - (lg_sl ([.ref h0, .int (nI y), .int x2, .ref q0])).length) Slot.unset).toArray = ls at hl ⊢
  have hl : lv_has ls 5 [(0, .ref h0), (1, .int (nI y)), (2, .int x2), (3, .ref q0)] := hl
  obtain ⟨A, hAe⟩ : ∃ A, A = va_A (sd_OL cA h0 a0 n w cO q0 ou) s.heap.size := ⟨_, rfl⟩
  have hD : va_D A (sd_OL cA h0 a0 n w cO q0 ou) := by rw [hAe]; exact hD0.self
  have hA : ∀ q : Nat, s.heap.size ≤ q → A q := fun q h => by rw [hAe]; exact Or.inr h
  have hS : va_S A s.heap s.heap [] := va_S.rf
  have hP : va_P (dC, dI) vwCl [(h0, .inr (0, [.ref a0, .int (nI n), .int (nI (sd_sum w n))])), (a0, .inl (cA, 8, .inl (fun i => nI (w i)))), (q0, .inl (cO, 1, .inr (.inl ou)))] s.heap := hP
  have hD : va_D A [(h0, .inr (0, [.ref a0, .int (nI n), .int (nI (sd_sum w n))])), (a0, .inl (cA, 8, .inl (fun i => nI (w i)))), (q0, .inl (cO, 1, .inr (.inl ou)))] := hD
  have hPc := hP.sub (ws' := (sd_O cA h0 a0 n w)) [0, 1] rfl
  have hKc := hK.sub (tys' := [(cA, .int)]) [0] rfl
  have hDc := hD.sub (ws' := (sd_O cA h0 a0 n w)) [0, 1] (by decide) rfl
  refine lv_aload_n hx hb dL_next_0 rfl (lv_at hl 3 rfl) ?_
  refine lv_iconst (v := (nI 0)) hx hb dL_next_1 (by decide +kernel) ?_
  refine lv_aload_n hx hb dL_next_2 rfl (lv_at hl 0 rfl) ?_
  refine lv_iload_n hx hb dL_next_3 rfl (lv_at hl 1 rfl) ?_
  refine lv_iload_n hx hb dL_next_4 rfl (lv_at hl 2 rfl) ?_
  refine sd_thrV (As := [.int (nI y), .int x2]) (rest := [.int (nI 0), .ref q0]) ⟨hx, hb, hml, hown, hts0⟩ (t_next2 l hl9 dC dI cA h0 a0 n w y hy x2 hbad) (cwV 2 hts0 (sd_gV k_methodLink_L_29 k_instanceMethod_X0_next k_sel_X0_next k_init_ShareDesk k_code_X0_next) rfl rfl rfl (by decide +kernel) ⟨Nat.le_of_ble_eq_true rfl, Nat.le_of_ble_eq_true rfl⟩) (sd_preVt hKc hPc hTH (q0 := 0) (ci := 0) rfl rfl) rfl hl.1 rfl (lv_room (Nat.le_of_ble_eq_true rfl)) dL_next_5 ⟨Nat.le_refl _, Nat.le_refl _⟩ (sd_catch1 (own := RL) (cls := sd_IA) (x := (⟨0, 10, 13, 13⟩ : ExceptionTableEntry)) (t := [(⟨0, 10, 17, 23⟩ : ExceptionTableEntry)]) (by rw [htb]; rfl) hown (by decide) (by decide) (hts (.classLink RL 13 sd_IA) k_classLink_L_13) (va_any rfl hTH.2.2.2.1) (fun H q9 hz hk => ?_))
  have hP := sd_keptP hP hk
  have hS : va_S A s.heap H [] := ⟨hz, fun q hq _ => hk q hq, fun _ h => nomatch h⟩
  refine W.eq (g2 := F0 m 13 ls [.ref q9]) rfl ?_
  refine lv_astore hx hb dL_next_13 hl (by decide) rfl (fun ls hl => ?_)
  have hl : lv_has ls 5 [(4, .ref q9), (0, .ref h0), (1, .int (nI y)), (2, .int x2), (3, .ref q0)] := hl
  refine lv_iconst (v := (nI 1)) hx hb dL_next_15 (by decide +kernel) ?_
  have hP : va_P (dC, dI) vwCl (sd_OL cA h0 a0 n w cO q0 ou) H := hP
  have hD : va_D A (sd_OL cA h0 a0 n w cO q0 ou) := hD
  refine W.widen (k := 1) (n := 6) (by omega) (by omega) ?_
  exact W.iret hx hb hr (fun t ht hW => ⟨⟨_, (), rfl, rfl, by rw [ht]; exact hP, va_K.moved hW.alike hK, by rw [← hAe]; exact hD⟩, by rw [← hAe]; exact hS.F ht⟩) (fun q hq => by rw [← hAe]; exact hS.2.2 q hq) dL_next_16
set_option maxHeartbeats 4000000 in
set_option maxRecDepth 100000 in
theorem w_next4 (l : Launch) (hl9 : l.stackTraces = false) (dC : Nat → ClassId) (dI : Nat → Nat → Nat) (cA : ClassId) (h0 a0 n : Nat) (w : Nat → Nat) (cO : ClassId) (q0 : Nat) (ou : Nat → Int64) (sz : Nat) (y u : Nat) (hy : y ≤ 2) (hu : u ≤ 9999) (hz0 : sd_sum w n = 0) : Met l yL_next (sd_wsW yL_next cL_next 5 (some .int) [(0, 10, 13, 13), (0, 10, 17, 23)]) (sd_rm 8 1 6) (sd_PwT (dC, dI) vwCl [(cA, .int), (cO, .long)] (sd_OL cA h0 a0 n w cO q0 ou) sz [.ref h0, .int (nI y), .int (nI u), .ref q0]) (va_Qi (fun r (_ : Unit) => r = nI 2) (sd_Bw (dC, dI) vwCl [(cA, .int), (cO, .long)] (sd_OL cA h0 a0 n w cO q0 ou) sz (fun _ => (sd_OL cA h0 a0 n w cO q0 ou))) (va_A (sd_OL cA h0 a0 n w cO q0 ou) sz)) 1 6 (va_A (sd_OL cA h0 a0 n w cO q0 ou) sz) := by
  refine va_MetW (cc := cL_next) (maxL := 5) (ret := (some .int)) (hh := [(0, 10, 13, 13), (0, 10, 17, 23)]) (by decide) rfl ?_
  intro p e s m args below meth c s₁ B hml hv
  obtain ⟨rfl, hsz, hP, hK, hD0, hTH⟩ := hv
  subst hsz
  have hx := B.exec
  have hb := B.bytes
  have hr := B.returns
  have hts0 := atoms_spec (ws := (sd_wsW yL_next cL_next 5 (some .int) [(0, 10, 13, 13), (0, 10, 17, 23)])) B.pre
  have htb := sd_table B (hts0 _ List.mem_cons_self)
  have hts : ∀ w ∈ sd_WS, w.before _ s = true := fun w h => hts0 w (List.mem_cons_of_mem _ h)
  have hown : s.vm.findClass RL = some m.cls := findClass_of_methodNamed B.named
  have hlocks := B.notSynchronized
  have hl := lv_entry ([.ref h0, .int (nI y), .int (nI u), .ref q0]) (n := 5) (Nat.le_of_ble_eq_true rfl)
  rw [lg_entry_eq]
  generalize (lg_sl ([.ref h0, .int (nI y), .int (nI u), .ref q0]) ++ List.replicate (5 - (lg_sl ([.ref h0, .int (nI y), .int (nI u), .ref q0])).length) Slot.unset).toArray = ls at hl ⊢
  have hl : lv_has ls 5 [(0, .ref h0), (1, .int (nI y)), (2, .int (nI u)), (3, .ref q0)] := hl
  obtain ⟨A, hAe⟩ : ∃ A, A = va_A (sd_OL cA h0 a0 n w cO q0 ou) s.heap.size := ⟨_, rfl⟩
  have hD : va_D A (sd_OL cA h0 a0 n w cO q0 ou) := by rw [hAe]; exact hD0.self
  have hA : ∀ q : Nat, s.heap.size ≤ q → A q := fun q h => by rw [hAe]; exact Or.inr h
  have hS : va_S A s.heap s.heap [] := va_S.rf
  have hP : va_P (dC, dI) vwCl [(h0, .inr (0, [.ref a0, .int (nI n), .int (nI (sd_sum w n))])), (a0, .inl (cA, 8, .inl (fun i => nI (w i)))), (q0, .inl (cO, 1, .inr (.inl ou)))] s.heap := hP
  have hD : va_D A [(h0, .inr (0, [.ref a0, .int (nI n), .int (nI (sd_sum w n))])), (a0, .inl (cA, 8, .inl (fun i => nI (w i)))), (q0, .inl (cO, 1, .inr (.inl ou)))] := hD
  have hPc := hP.sub (ws' := (sd_O cA h0 a0 n w)) [0, 1] rfl
  have hKc := hK.sub (tys' := [(cA, .int)]) [0] rfl
  have hDc := hD.sub (ws' := (sd_O cA h0 a0 n w)) [0, 1] (by decide) rfl
  refine lv_aload_n hx hb dL_next_0 rfl (lv_at hl 3 rfl) ?_
  refine lv_iconst (v := (nI 0)) hx hb dL_next_1 (by decide +kernel) ?_
  refine lv_aload_n hx hb dL_next_2 rfl (lv_at hl 0 rfl) ?_
  refine lv_iload_n hx hb dL_next_3 rfl (lv_at hl 1 rfl) ?_
  refine lv_iload_n hx hb dL_next_4 rfl (lv_at hl 2 rfl) ?_
  refine sd_thrV (As := [.int (nI y), .int (nI u)]) (rest := [.int (nI 0), .ref q0]) ⟨hx, hb, hml, hown, hts0⟩ (t_next4 l hl9 dC dI cA h0 a0 n w y u hy hu hz0) (cwV 2 hts0 (sd_gV k_methodLink_L_29 k_instanceMethod_X0_next k_sel_X0_next k_init_ShareDesk k_code_X0_next) rfl rfl rfl (by decide +kernel) ⟨Nat.le_of_ble_eq_true rfl, Nat.le_of_ble_eq_true rfl⟩) (sd_preVt hKc hPc hTH (q0 := 0) (ci := 0) rfl rfl) rfl hl.1 rfl (lv_room (Nat.le_of_ble_eq_true rfl)) dL_next_5 ⟨Nat.le_refl _, Nat.le_refl _⟩ (sd_catch2 (own := RL) (cls := sd_IS) (other := sd_IA) (x := (⟨0, 10, 13, 13⟩ : ExceptionTableEntry)) (y := (⟨0, 10, 17, 23⟩ : ExceptionTableEntry)) (t := []) (by rw [htb]; rfl) hown (by decide) (by decide) (by decide) (by decide) (hts (.classLink RL 13 sd_IA) k_classLink_L_13) (hts (.classLink RL 23 sd_IS) k_classLink_L_23) hTH.2.2.2.2.2.1 (va_any rfl hTH.2.2.2.2.1) (fun H q9 hz hk => ?_))
  have hP := sd_keptP hP hk
  have hS : va_S A s.heap H [] := ⟨hz, fun q hq _ => hk q hq, fun _ h => nomatch h⟩
  refine W.eq (g2 := F0 m 17 ls [.ref q9]) rfl ?_
  refine lv_astore hx hb dL_next_17 hl (by decide) rfl (fun ls hl => ?_)
  have hl : lv_has ls 5 [(4, .ref q9), (0, .ref h0), (1, .int (nI y)), (2, .int (nI u)), (3, .ref q0)] := hl
  refine lv_iconst (v := (nI 2)) hx hb dL_next_19 (by decide +kernel) ?_
  have hP : va_P (dC, dI) vwCl (sd_OL cA h0 a0 n w cO q0 ou) H := hP
  have hD : va_D A (sd_OL cA h0 a0 n w cO q0 ou) := hD
  refine W.widen (k := 1) (n := 6) (by omega) (by omega) ?_
  exact W.iret hx hb hr (fun t ht hW => ⟨⟨_, (), rfl, rfl, by rw [ht]; exact hP, va_K.moved hW.alike hK, by rw [← hAe]; exact hD⟩, by rw [← hAe]; exact hS.F ht⟩) (fun q hq => by rw [← hAe]; exact hS.2.2 q hq) dL_next_20
set_option maxHeartbeats 4000000 in
set_option maxRecDepth 100000 in
theorem w_least (l : Launch) (hl9 : l.stackTraces = false) (dC : Nat → ClassId) (dI : Nat → Nat → Nat) (cA : ClassId) (h0 a0 n : Nat) (w : Nat → Nat) (cO : ClassId) (q0 : Nat) (ou : Nat → Int64) (sz : Nat) (ok : sd_ok n w) (hW : 0 < sd_sum w n) (y k q : Nat) (hy : y ≤ 2) (hk : k < 2 ^ 31) (hq : q < n) : Met l yL_least (sd_wsW yL_least cL_least 6 (some .int) [(0, 12, 15, 13), (0, 12, 19, 23)]) (sd_rm 8 1 6) (sd_PwT (dC, dI) vwCl [(cA, .int), (cO, .long)] (sd_OL cA h0 a0 n w cO q0 ou) sz [.ref h0, .int (nI y), .int (nI k), .int (nI q), .ref q0]) (va_Qi (fun r (_ : Unit) => r = nI 0) (sd_Bw (dC, dI) vwCl [(cA, .int), (cO, .long)] (sd_OL cA h0 a0 n w cO q0 ou) sz (fun _ => (sd_OL cA h0 a0 n w cO q0 (vp_updL ou 0 ((sd_oi (sd_lst (fun j => decide (k ≤ sd_U y w n j q)) 10001)).toInt64))))) (va_A (sd_OL cA h0 a0 n w cO q0 ou) sz)) 1 6 (va_A (sd_OL cA h0 a0 n w cO q0 ou) sz) := by
  refine va_MetW (cc := cL_least) (maxL := 6) (ret := (some .int)) (hh := [(0, 12, 15, 13), (0, 12, 19, 23)]) (by decide) rfl ?_
  intro p e s m args below meth c s₁ B hml hv
  obtain ⟨rfl, hsz, hP, hK, hD0, hTH⟩ := hv
  subst hsz
  have hx := B.exec
  have hb := B.bytes
  have hr := B.returns
  have hts0 := atoms_spec (ws := (sd_wsW yL_least cL_least 6 (some .int) [(0, 12, 15, 13), (0, 12, 19, 23)])) B.pre
  have htb := sd_table B (hts0 _ List.mem_cons_self)
  have hts : ∀ w ∈ sd_WS, w.before _ s = true := fun w h => hts0 w (List.mem_cons_of_mem _ h)
  have hown : s.vm.findClass RL = some m.cls := findClass_of_methodNamed B.named
  have hlocks := B.notSynchronized
  have hl := lv_entry ([.ref h0, .int (nI y), .int (nI k), .int (nI q), .ref q0]) (n := 6) (Nat.le_of_ble_eq_true rfl)
  rw [lg_entry_eq]
  generalize (lg_sl ([.ref h0, .int (nI y), .int (nI k), .int (nI q), .ref q0]) ++ List.replicate (6 - (lg_sl ([.ref h0, .int (nI y), .int (nI k), .int (nI q), .ref q0])).length) Slot.unset).toArray = ls at hl ⊢
  have hl : lv_has ls 6 [(0, .ref h0), (1, .int (nI y)), (2, .int (nI k)), (3, .int (nI q)), (4, .ref q0)] := hl
  obtain ⟨A, hAe⟩ : ∃ A, A = va_A (sd_OL cA h0 a0 n w cO q0 ou) s.heap.size := ⟨_, rfl⟩
  have hD : va_D A (sd_OL cA h0 a0 n w cO q0 ou) := by rw [hAe]; exact hD0.self
  have hA : ∀ q : Nat, s.heap.size ≤ q → A q := fun q h => by rw [hAe]; exact Or.inr h
  have hS : va_S A s.heap s.heap [] := va_S.rf
  have hP : va_P (dC, dI) vwCl [(h0, .inr (0, [.ref a0, .int (nI n), .int (nI (sd_sum w n))])), (a0, .inl (cA, 8, .inl (fun i => nI (w i)))), (q0, .inl (cO, 1, .inr (.inl ou)))] s.heap := hP
  have hD : va_D A [(h0, .inr (0, [.ref a0, .int (nI n), .int (nI (sd_sum w n))])), (a0, .inl (cA, 8, .inl (fun i => nI (w i)))), (q0, .inl (cO, 1, .inr (.inl ou)))] := hD
  have hPc := hP.sub (ws' := (sd_O cA h0 a0 n w)) [0, 1] rfl
  have hKc := hK.sub (tys' := [(cA, .int)]) [0] rfl
  have hDc := hD.sub (ws' := (sd_O cA h0 a0 n w)) [0, 1] (by decide) rfl
  refine lv_aload hx hb dL_least_0 (lv_at hl 4 rfl) ?_
  refine lv_iconst (v := (nI 0)) hx hb dL_least_2 (by decide +kernel) ?_
  refine lv_aload_n hx hb dL_least_3 rfl (lv_at hl 0 rfl) ?_
  refine lv_iload_n hx hb dL_least_4 rfl (lv_at hl 1 rfl) ?_
  refine lv_iload_n hx hb dL_least_5 rfl (lv_at hl 2 rfl) ?_
  refine lv_iload_n hx hb dL_least_6 rfl (lv_at hl 3 rfl) ?_
  refine sd_calli (va_runV (As := [.int (nI y), .int (nI k), .int (nI q)]) (rest := [.int (nI 0), .ref q0]) ⟨hx, hb, hml, hown, hts0⟩ (c_least l dC dI cA h0 a0 n w ok hW y k q hy hk hq) (cwV 3 hts0 (sd_gV k_methodLink_L_32 k_instanceMethod_X0_least k_sel_X0_least k_init_ShareDesk k_code_X0_least) rfl rfl rfl (by decide +kernel) ⟨Nat.le_of_ble_eq_true rfl, Nat.le_of_ble_eq_true rfl⟩) (sd_preV hKc hPc (q0 := 0) (ci := 0) rfl rfl) rfl rfl hl.1 rfl (lv_room (Nat.le_of_ble_eq_true rfl)) dL_least_7 ⟨Nat.zero_le _, Nat.zero_le _⟩) ?_
  refine lv_i2l (v := (sd_oi (sd_lst (fun j => decide (k ≤ sd_U y w n j q)) 10001)).toInt64) hx hb dL_least_10 rfl ?_
  refine sd_last (j := 0) hx hb hK hP hD hS 2 1 rfl rfl (by omega) (by decide) dL_least_11 (fun H locs hP hD hS => ?_)
  have hP : va_P (dC, dI) vwCl [(h0, .inr (0, [.ref a0, .int (nI n), .int (nI (sd_sum w n))])), (a0, .inl (cA, 8, .inl (fun i => nI (w i)))), (q0, .inl (cO, 1, .inr (.inl (vp_updL ou 0 ((sd_oi (sd_lst (fun j => decide (k ≤ sd_U y w n j q)) 10001)).toInt64)))))] H := hP
  have hD : va_D A [(h0, .inr (0, [.ref a0, .int (nI n), .int (nI (sd_sum w n))])), (a0, .inl (cA, 8, .inl (fun i => nI (w i)))), (q0, .inl (cO, 1, .inr (.inl (vp_updL ou 0 ((sd_oi (sd_lst (fun j => decide (k ≤ sd_U y w n j q)) 10001)).toInt64)))))] := hD
  refine lv_goto (tgt := 23) hx hb dL_least_12 (by decide) ?_
  refine lv_iconst (v := (nI 0)) hx hb dL_least_23 (by decide +kernel) ?_
  have hP : va_P (dC, dI) vwCl (sd_OL cA h0 a0 n w cO q0 (vp_updL ou 0 ((sd_oi (sd_lst (fun j => decide (k ≤ sd_U y w n j q)) 10001)).toInt64))) H := hP
  have hD : va_D A (sd_OL cA h0 a0 n w cO q0 (vp_updL ou 0 ((sd_oi (sd_lst (fun j => decide (k ≤ sd_U y w n j q)) 10001)).toInt64))) := hD
  refine W.widen (k := 1) (n := 6) (by omega) (by omega) ?_
  exact W.iret hx hb hr (fun t ht hW => ⟨⟨_, (), rfl, rfl, by rw [ht]; exact hP, va_K.moved hW.alike hK, by rw [← hAe]; exact hD⟩, by rw [← hAe]; exact hS.F ht⟩) (fun q hq => by rw [← hAe]; exact hS.2.2 q hq) dL_least_24
set_option maxHeartbeats 4000000 in
set_option maxRecDepth 100000 in
theorem w_least1 (l : Launch) (hl9 : l.stackTraces = false) (dC : Nat → ClassId) (dI : Nat → Nat → Nat) (cA : ClassId) (h0 a0 n : Nat) (w : Nat → Nat) (cO : ClassId) (q0 : Nat) (ou : Nat → Int64) (sz : Nat) (x1 x2 x3 : Int32) (hbad : x1 < 0 ∨ nI 2 < x1) : Met l yL_least (sd_wsW yL_least cL_least 6 (some .int) [(0, 12, 15, 13), (0, 12, 19, 23)]) (sd_rm 8 1 6) (sd_PwT (dC, dI) vwCl [(cA, .int), (cO, .long)] (sd_OL cA h0 a0 n w cO q0 ou) sz [.ref h0, .int x1, .int x2, .int x3, .ref q0]) (va_Qi (fun r (_ : Unit) => r = nI 1) (sd_Bw (dC, dI) vwCl [(cA, .int), (cO, .long)] (sd_OL cA h0 a0 n w cO q0 ou) sz (fun _ => (sd_OL cA h0 a0 n w cO q0 ou))) (va_A (sd_OL cA h0 a0 n w cO q0 ou) sz)) 1 6 (va_A (sd_OL cA h0 a0 n w cO q0 ou) sz) := by
  refine va_MetW (cc := cL_least) (maxL := 6) (ret := (some .int)) (hh := [(0, 12, 15, 13), (0, 12, 19, 23)]) (by decide) rfl ?_
  intro p e s m args below meth c s₁ B hml hv
  obtain ⟨rfl, hsz, hP, hK, hD0, hTH⟩ := hv
  subst hsz
  have hx := B.exec
  have hb := B.bytes
  have hr := B.returns
  have hts0 := atoms_spec (ws := (sd_wsW yL_least cL_least 6 (some .int) [(0, 12, 15, 13), (0, 12, 19, 23)])) B.pre
  have htb := sd_table B (hts0 _ List.mem_cons_self)
  have hts : ∀ w ∈ sd_WS, w.before _ s = true := fun w h => hts0 w (List.mem_cons_of_mem _ h)
  have hown : s.vm.findClass RL = some m.cls := findClass_of_methodNamed B.named
  have hlocks := B.notSynchronized
  have hl := lv_entry ([.ref h0, .int x1, .int x2, .int x3, .ref q0]) (n := 6) (Nat.le_of_ble_eq_true rfl)
  rw [lg_entry_eq]
  generalize (lg_sl ([.ref h0, .int x1, .int x2, .int x3, .ref q0]) ++ List.replicate (6 - (lg_sl ([.ref h0, .int x1, .int x2, .int x3, .ref q0])).length) Slot.unset).toArray = ls at hl ⊢
  have hl : lv_has ls 6 [(0, .ref h0), (1, .int x1), (2, .int x2), (3, .int x3), (4, .ref q0)] := hl
  obtain ⟨A, hAe⟩ : ∃ A, A = va_A (sd_OL cA h0 a0 n w cO q0 ou) s.heap.size := ⟨_, rfl⟩
  have hD : va_D A (sd_OL cA h0 a0 n w cO q0 ou) := by rw [hAe]; exact hD0.self
  have hA : ∀ q : Nat, s.heap.size ≤ q → A q := fun q h => by rw [hAe]; exact Or.inr h
  have hS : va_S A s.heap s.heap [] := va_S.rf
  have hP : va_P (dC, dI) vwCl [(h0, .inr (0, [.ref a0, .int (nI n), .int (nI (sd_sum w n))])), (a0, .inl (cA, 8, .inl (fun i => nI (w i)))), (q0, .inl (cO, 1, .inr (.inl ou)))] s.heap := hP
  have hD : va_D A [(h0, .inr (0, [.ref a0, .int (nI n), .int (nI (sd_sum w n))])), (a0, .inl (cA, 8, .inl (fun i => nI (w i)))), (q0, .inl (cO, 1, .inr (.inl ou)))] := hD
  have hPc := hP.sub (ws' := (sd_O cA h0 a0 n w)) [0, 1] rfl
  have hKc := hK.sub (tys' := [(cA, .int)]) [0] rfl
  have hDc := hD.sub (ws' := (sd_O cA h0 a0 n w)) [0, 1] (by decide) rfl
  refine lv_aload hx hb dL_least_0 (lv_at hl 4 rfl) ?_
  refine lv_iconst (v := (nI 0)) hx hb dL_least_2 (by decide +kernel) ?_
  refine lv_aload_n hx hb dL_least_3 rfl (lv_at hl 0 rfl) ?_
  refine lv_iload_n hx hb dL_least_4 rfl (lv_at hl 1 rfl) ?_
  refine lv_iload_n hx hb dL_least_5 rfl (lv_at hl 2 rfl) ?_
  refine lv_iload_n hx hb dL_least_6 rfl (lv_at hl 3 rfl) ?_
  refine sd_thrV (As := [.int x1, .int x2, .int x3]) (rest := [.int (nI 0), .ref q0]) ⟨hx, hb, hml, hown, hts0⟩ (t_least1 l hl9 dC dI cA h0 a0 n w x1 x2 x3 hbad) (cwV 3 hts0 (sd_gV k_methodLink_L_32 k_instanceMethod_X0_least k_sel_X0_least k_init_ShareDesk k_code_X0_least) rfl rfl rfl (by decide +kernel) ⟨Nat.le_of_ble_eq_true rfl, Nat.le_of_ble_eq_true rfl⟩) (sd_preVt hKc hPc hTH (q0 := 0) (ci := 0) rfl rfl) rfl hl.1 rfl (lv_room (Nat.le_of_ble_eq_true rfl)) dL_least_7 ⟨Nat.le_refl _, Nat.le_refl _⟩ (sd_catch1 (own := RL) (cls := sd_IA) (x := (⟨0, 12, 15, 13⟩ : ExceptionTableEntry)) (t := [(⟨0, 12, 19, 23⟩ : ExceptionTableEntry)]) (by rw [htb]; rfl) hown (by decide) (by decide) (hts (.classLink RL 13 sd_IA) k_classLink_L_13) (va_any rfl hTH.2.2.2.1) (fun H q9 hz hk => ?_))
  have hP := sd_keptP hP hk
  have hS : va_S A s.heap H [] := ⟨hz, fun q hq _ => hk q hq, fun _ h => nomatch h⟩
  refine W.eq (g2 := F0 m 15 ls [.ref q9]) rfl ?_
  refine lv_astore hx hb dL_least_15 hl (by decide) rfl (fun ls hl => ?_)
  have hl : lv_has ls 6 [(5, .ref q9), (0, .ref h0), (1, .int x1), (2, .int x2), (3, .int x3), (4, .ref q0)] := hl
  refine lv_iconst (v := (nI 1)) hx hb dL_least_17 (by decide +kernel) ?_
  have hP : va_P (dC, dI) vwCl (sd_OL cA h0 a0 n w cO q0 ou) H := hP
  have hD : va_D A (sd_OL cA h0 a0 n w cO q0 ou) := hD
  refine W.widen (k := 1) (n := 6) (by omega) (by omega) ?_
  exact W.iret hx hb hr (fun t ht hW => ⟨⟨_, (), rfl, rfl, by rw [ht]; exact hP, va_K.moved hW.alike hK, by rw [← hAe]; exact hD⟩, by rw [← hAe]; exact hS.F ht⟩) (fun q hq => by rw [← hAe]; exact hS.2.2 q hq) dL_least_18
set_option maxHeartbeats 4000000 in
set_option maxRecDepth 100000 in
theorem w_least2 (l : Launch) (hl9 : l.stackTraces = false) (dC : Nat → ClassId) (dI : Nat → Nat → Nat) (cA : ClassId) (h0 a0 n : Nat) (w : Nat → Nat) (cO : ClassId) (q0 : Nat) (ou : Nat → Int64) (sz : Nat) (y : Nat) (hy : y ≤ 2) (x2 x3 : Int32) (hbad : x3 < 0 ∨ nI n ≤ x3) : Met l yL_least (sd_wsW yL_least cL_least 6 (some .int) [(0, 12, 15, 13), (0, 12, 19, 23)]) (sd_rm 8 1 6) (sd_PwT (dC, dI) vwCl [(cA, .int), (cO, .long)] (sd_OL cA h0 a0 n w cO q0 ou) sz [.ref h0, .int (nI y), .int x2, .int x3, .ref q0]) (va_Qi (fun r (_ : Unit) => r = nI 1) (sd_Bw (dC, dI) vwCl [(cA, .int), (cO, .long)] (sd_OL cA h0 a0 n w cO q0 ou) sz (fun _ => (sd_OL cA h0 a0 n w cO q0 ou))) (va_A (sd_OL cA h0 a0 n w cO q0 ou) sz)) 1 6 (va_A (sd_OL cA h0 a0 n w cO q0 ou) sz) := by
  refine va_MetW (cc := cL_least) (maxL := 6) (ret := (some .int)) (hh := [(0, 12, 15, 13), (0, 12, 19, 23)]) (by decide) rfl ?_
  intro p e s m args below meth c s₁ B hml hv
  obtain ⟨rfl, hsz, hP, hK, hD0, hTH⟩ := hv
  subst hsz
  have hx := B.exec
  have hb := B.bytes
  have hr := B.returns
  have hts0 := atoms_spec (ws := (sd_wsW yL_least cL_least 6 (some .int) [(0, 12, 15, 13), (0, 12, 19, 23)])) B.pre
  have htb := sd_table B (hts0 _ List.mem_cons_self)
  have hts : ∀ w ∈ sd_WS, w.before _ s = true := fun w h => hts0 w (List.mem_cons_of_mem _ h)
  have hown : s.vm.findClass RL = some m.cls := findClass_of_methodNamed B.named
  have hlocks := B.notSynchronized
  have hl := lv_entry ([.ref h0, .int (nI y), .int x2, .int x3, .ref q0]) (n := 6) (Nat.le_of_ble_eq_true rfl)
  rw [lg_entry_eq]
  generalize (lg_sl ([.ref h0, .int (nI y), .int x2, .int x3, .ref q0]) ++ List.replicate (6 - (lg_sl ([.ref h0, .int (nI y), .int x2, .int x3, .ref q0])).length) Slot.unset).toArray = ls at hl ⊢
  have hl : lv_has ls 6 [(0, .ref h0), (1, .int (nI y)), (2, .int x2), (3, .int x3), (4, .ref q0)] := hl
  obtain ⟨A, hAe⟩ : ∃ A, A = va_A (sd_OL cA h0 a0 n w cO q0 ou) s.heap.size := ⟨_, rfl⟩
  have hD : va_D A (sd_OL cA h0 a0 n w cO q0 ou) := by rw [hAe]; exact hD0.self
  have hA : ∀ q : Nat, s.heap.size ≤ q → A q := fun q h => by rw [hAe]; exact Or.inr h
  have hS : va_S A s.heap s.heap [] := va_S.rf
  have hP : va_P (dC, dI) vwCl [(h0, .inr (0, [.ref a0, .int (nI n), .int (nI (sd_sum w n))])), (a0, .inl (cA, 8, .inl (fun i => nI (w i)))), (q0, .inl (cO, 1, .inr (.inl ou)))] s.heap := hP
  have hD : va_D A [(h0, .inr (0, [.ref a0, .int (nI n), .int (nI (sd_sum w n))])), (a0, .inl (cA, 8, .inl (fun i => nI (w i)))), (q0, .inl (cO, 1, .inr (.inl ou)))] := hD
  have hPc := hP.sub (ws' := (sd_O cA h0 a0 n w)) [0, 1] rfl
  have hKc := hK.sub (tys' := [(cA, .int)]) [0] rfl
  have hDc := hD.sub (ws' := (sd_O cA h0 a0 n w)) [0, 1] (by decide) rfl
  refine lv_aload hx hb dL_least_0 (lv_at hl 4 rfl) ?_
  refine lv_iconst (v := (nI 0)) hx hb dL_least_2 (by decide +kernel) ?_
  refine lv_aload_n hx hb dL_least_3 rfl (lv_at hl 0 rfl) ?_
  refine lv_iload_n hx hb dL_least_4 rfl (lv_at hl 1 rfl) ?_
  refine lv_iload_n hx hb dL_least_5 rfl (lv_at hl 2 rfl) ?_
  refine lv_iload_n hx hb dL_least_6 rfl (lv_at hl 3 rfl) ?_
  refine sd_thrV (As := [.int (nI y), .int x2, .int x3]) (rest := [.int (nI 0), .ref q0]) ⟨hx, hb, hml, hown, hts0⟩ (t_least2 l hl9 dC dI cA h0 a0 n w y hy x3 x2 hbad) (cwV 3 hts0 (sd_gV k_methodLink_L_32 k_instanceMethod_X0_least k_sel_X0_least k_init_ShareDesk k_code_X0_least) rfl rfl rfl (by decide +kernel) ⟨Nat.le_of_ble_eq_true rfl, Nat.le_of_ble_eq_true rfl⟩) (sd_preVt hKc hPc hTH (q0 := 0) (ci := 0) rfl rfl) rfl hl.1 rfl (lv_room (Nat.le_of_ble_eq_true rfl)) dL_least_7 ⟨Nat.le_refl _, Nat.le_refl _⟩ (sd_catch1 (own := RL) (cls := sd_IA) (x := (⟨0, 12, 15, 13⟩ : ExceptionTableEntry)) (t := [(⟨0, 12, 19, 23⟩ : ExceptionTableEntry)]) (by rw [htb]; rfl) hown (by decide) (by decide) (hts (.classLink RL 13 sd_IA) k_classLink_L_13) (va_any rfl hTH.2.2.2.1) (fun H q9 hz hk => ?_))
  have hP := sd_keptP hP hk
  have hS : va_S A s.heap H [] := ⟨hz, fun q hq _ => hk q hq, fun _ h => nomatch h⟩
  refine W.eq (g2 := F0 m 15 ls [.ref q9]) rfl ?_
  refine lv_astore hx hb dL_least_15 hl (by decide) rfl (fun ls hl => ?_)
  have hl : lv_has ls 6 [(5, .ref q9), (0, .ref h0), (1, .int (nI y)), (2, .int x2), (3, .int x3), (4, .ref q0)] := hl
  refine lv_iconst (v := (nI 1)) hx hb dL_least_17 (by decide +kernel) ?_
  have hP : va_P (dC, dI) vwCl (sd_OL cA h0 a0 n w cO q0 ou) H := hP
  have hD : va_D A (sd_OL cA h0 a0 n w cO q0 ou) := hD
  refine W.widen (k := 1) (n := 6) (by omega) (by omega) ?_
  exact W.iret hx hb hr (fun t ht hW => ⟨⟨_, (), rfl, rfl, by rw [ht]; exact hP, va_K.moved hW.alike hK, by rw [← hAe]; exact hD⟩, by rw [← hAe]; exact hS.F ht⟩) (fun q hq => by rw [← hAe]; exact hS.2.2 q hq) dL_least_18
set_option maxHeartbeats 4000000 in
set_option maxRecDepth 100000 in
theorem w_least3 (l : Launch) (hl9 : l.stackTraces = false) (dC : Nat → ClassId) (dI : Nat → Nat → Nat) (cA : ClassId) (h0 a0 n : Nat) (w : Nat → Nat) (cO : ClassId) (q0 : Nat) (ou : Nat → Int64) (sz : Nat) (ok : sd_ok n w) (y q : Nat) (hy : y ≤ 2) (hq : q < n) (x2 : Int32) (hbad : x2 < 0) : Met l yL_least (sd_wsW yL_least cL_least 6 (some .int) [(0, 12, 15, 13), (0, 12, 19, 23)]) (sd_rm 8 1 6) (sd_PwT (dC, dI) vwCl [(cA, .int), (cO, .long)] (sd_OL cA h0 a0 n w cO q0 ou) sz [.ref h0, .int (nI y), .int x2, .int (nI q), .ref q0]) (va_Qi (fun r (_ : Unit) => r = nI 1) (sd_Bw (dC, dI) vwCl [(cA, .int), (cO, .long)] (sd_OL cA h0 a0 n w cO q0 ou) sz (fun _ => (sd_OL cA h0 a0 n w cO q0 ou))) (va_A (sd_OL cA h0 a0 n w cO q0 ou) sz)) 1 6 (va_A (sd_OL cA h0 a0 n w cO q0 ou) sz) := by
  refine va_MetW (cc := cL_least) (maxL := 6) (ret := (some .int)) (hh := [(0, 12, 15, 13), (0, 12, 19, 23)]) (by decide) rfl ?_
  intro p e s m args below meth c s₁ B hml hv
  obtain ⟨rfl, hsz, hP, hK, hD0, hTH⟩ := hv
  subst hsz
  have hx := B.exec
  have hb := B.bytes
  have hr := B.returns
  have hts0 := atoms_spec (ws := (sd_wsW yL_least cL_least 6 (some .int) [(0, 12, 15, 13), (0, 12, 19, 23)])) B.pre
  have htb := sd_table B (hts0 _ List.mem_cons_self)
  have hts : ∀ w ∈ sd_WS, w.before _ s = true := fun w h => hts0 w (List.mem_cons_of_mem _ h)
  have hown : s.vm.findClass RL = some m.cls := findClass_of_methodNamed B.named
  have hlocks := B.notSynchronized
  have hl := lv_entry ([.ref h0, .int (nI y), .int x2, .int (nI q), .ref q0]) (n := 6) (Nat.le_of_ble_eq_true rfl)
  rw [lg_entry_eq]
  generalize (lg_sl ([.ref h0, .int (nI y), .int x2, .int (nI q), .ref q0]) ++ List.replicate (6 - (lg_sl ([.ref h0, .int (nI y), .int x2, .int (nI q), .ref q0])).length) Slot.unset).toArray = ls at hl ⊢
  have hl : lv_has ls 6 [(0, .ref h0), (1, .int (nI y)), (2, .int x2), (3, .int (nI q)), (4, .ref q0)] := hl
  obtain ⟨A, hAe⟩ : ∃ A, A = va_A (sd_OL cA h0 a0 n w cO q0 ou) s.heap.size := ⟨_, rfl⟩
  have hD : va_D A (sd_OL cA h0 a0 n w cO q0 ou) := by rw [hAe]; exact hD0.self
  have hA : ∀ q : Nat, s.heap.size ≤ q → A q := fun q h => by rw [hAe]; exact Or.inr h
  have hS : va_S A s.heap s.heap [] := va_S.rf
  have hP : va_P (dC, dI) vwCl [(h0, .inr (0, [.ref a0, .int (nI n), .int (nI (sd_sum w n))])), (a0, .inl (cA, 8, .inl (fun i => nI (w i)))), (q0, .inl (cO, 1, .inr (.inl ou)))] s.heap := hP
  have hD : va_D A [(h0, .inr (0, [.ref a0, .int (nI n), .int (nI (sd_sum w n))])), (a0, .inl (cA, 8, .inl (fun i => nI (w i)))), (q0, .inl (cO, 1, .inr (.inl ou)))] := hD
  have hPc := hP.sub (ws' := (sd_O cA h0 a0 n w)) [0, 1] rfl
  have hKc := hK.sub (tys' := [(cA, .int)]) [0] rfl
  have hDc := hD.sub (ws' := (sd_O cA h0 a0 n w)) [0, 1] (by decide) rfl
  refine lv_aload hx hb dL_least_0 (lv_at hl 4 rfl) ?_
  refine lv_iconst (v := (nI 0)) hx hb dL_least_2 (by decide +kernel) ?_
  refine lv_aload_n hx hb dL_least_3 rfl (lv_at hl 0 rfl) ?_
  refine lv_iload_n hx hb dL_least_4 rfl (lv_at hl 1 rfl) ?_
  refine lv_iload_n hx hb dL_least_5 rfl (lv_at hl 2 rfl) ?_
  refine lv_iload_n hx hb dL_least_6 rfl (lv_at hl 3 rfl) ?_
  refine sd_thrV (As := [.int (nI y), .int x2, .int (nI q)]) (rest := [.int (nI 0), .ref q0]) ⟨hx, hb, hml, hown, hts0⟩ (t_least3 l hl9 dC dI cA h0 a0 n w ok y q hy hq x2 hbad) (cwV 3 hts0 (sd_gV k_methodLink_L_32 k_instanceMethod_X0_least k_sel_X0_least k_init_ShareDesk k_code_X0_least) rfl rfl rfl (by decide +kernel) ⟨Nat.le_of_ble_eq_true rfl, Nat.le_of_ble_eq_true rfl⟩) (sd_preVt hKc hPc hTH (q0 := 0) (ci := 0) rfl rfl) rfl hl.1 rfl (lv_room (Nat.le_of_ble_eq_true rfl)) dL_least_7 ⟨Nat.le_refl _, Nat.le_refl _⟩ (sd_catch1 (own := RL) (cls := sd_IA) (x := (⟨0, 12, 15, 13⟩ : ExceptionTableEntry)) (t := [(⟨0, 12, 19, 23⟩ : ExceptionTableEntry)]) (by rw [htb]; rfl) hown (by decide) (by decide) (hts (.classLink RL 13 sd_IA) k_classLink_L_13) (va_any rfl hTH.2.2.2.1) (fun H q9 hz hk => ?_))
  have hP := sd_keptP hP hk
  have hS : va_S A s.heap H [] := ⟨hz, fun q hq _ => hk q hq, fun _ h => nomatch h⟩
  refine W.eq (g2 := F0 m 15 ls [.ref q9]) rfl ?_
  refine lv_astore hx hb dL_least_15 hl (by decide) rfl (fun ls hl => ?_)
  have hl : lv_has ls 6 [(5, .ref q9), (0, .ref h0), (1, .int (nI y)), (2, .int x2), (3, .int (nI q)), (4, .ref q0)] := hl
  refine lv_iconst (v := (nI 1)) hx hb dL_least_17 (by decide +kernel) ?_
  have hP : va_P (dC, dI) vwCl (sd_OL cA h0 a0 n w cO q0 ou) H := hP
  have hD : va_D A (sd_OL cA h0 a0 n w cO q0 ou) := hD
  refine W.widen (k := 1) (n := 6) (by omega) (by omega) ?_
  exact W.iret hx hb hr (fun t ht hW => ⟨⟨_, (), rfl, rfl, by rw [ht]; exact hP, va_K.moved hW.alike hK, by rw [← hAe]; exact hD⟩, by rw [← hAe]; exact hS.F ht⟩) (fun q hq => by rw [← hAe]; exact hS.2.2 q hq) dL_least_18
set_option maxHeartbeats 4000000 in
set_option maxRecDepth 100000 in
theorem w_least4 (l : Launch) (hl9 : l.stackTraces = false) (dC : Nat → ClassId) (dI : Nat → Nat → Nat) (cA : ClassId) (h0 a0 n : Nat) (w : Nat → Nat) (cO : ClassId) (q0 : Nat) (ou : Nat → Int64) (sz : Nat) (ok : sd_ok n w) (y k q : Nat) (hy : y ≤ 2) (hk : k < 2 ^ 31) (hq : q < n) (hz0 : sd_sum w n = 0) : Met l yL_least (sd_wsW yL_least cL_least 6 (some .int) [(0, 12, 15, 13), (0, 12, 19, 23)]) (sd_rm 8 1 6) (sd_PwT (dC, dI) vwCl [(cA, .int), (cO, .long)] (sd_OL cA h0 a0 n w cO q0 ou) sz [.ref h0, .int (nI y), .int (nI k), .int (nI q), .ref q0]) (va_Qi (fun r (_ : Unit) => r = nI 2) (sd_Bw (dC, dI) vwCl [(cA, .int), (cO, .long)] (sd_OL cA h0 a0 n w cO q0 ou) sz (fun _ => (sd_OL cA h0 a0 n w cO q0 ou))) (va_A (sd_OL cA h0 a0 n w cO q0 ou) sz)) 1 6 (va_A (sd_OL cA h0 a0 n w cO q0 ou) sz) := by
  refine va_MetW (cc := cL_least) (maxL := 6) (ret := (some .int)) (hh := [(0, 12, 15, 13), (0, 12, 19, 23)]) (by decide) rfl ?_
  intro p e s m args below meth c s₁ B hml hv
  obtain ⟨rfl, hsz, hP, hK, hD0, hTH⟩ := hv
  subst hsz
  have hx := B.exec
  have hb := B.bytes
  have hr := B.returns
  have hts0 := atoms_spec (ws := (sd_wsW yL_least cL_least 6 (some .int) [(0, 12, 15, 13), (0, 12, 19, 23)])) B.pre
  have htb := sd_table B (hts0 _ List.mem_cons_self)
  have hts : ∀ w ∈ sd_WS, w.before _ s = true := fun w h => hts0 w (List.mem_cons_of_mem _ h)
  have hown : s.vm.findClass RL = some m.cls := findClass_of_methodNamed B.named
  have hlocks := B.notSynchronized
  have hl := lv_entry ([.ref h0, .int (nI y), .int (nI k), .int (nI q), .ref q0]) (n := 6) (Nat.le_of_ble_eq_true rfl)
  rw [lg_entry_eq]
  generalize (lg_sl ([.ref h0, .int (nI y), .int (nI k), .int (nI q), .ref q0]) ++ List.replicate (6 - (lg_sl ([.ref h0, .int (nI y), .int (nI k), .int (nI q), .ref q0])).length) Slot.unset).toArray = ls at hl ⊢
  have hl : lv_has ls 6 [(0, .ref h0), (1, .int (nI y)), (2, .int (nI k)), (3, .int (nI q)), (4, .ref q0)] := hl
  obtain ⟨A, hAe⟩ : ∃ A, A = va_A (sd_OL cA h0 a0 n w cO q0 ou) s.heap.size := ⟨_, rfl⟩
  have hD : va_D A (sd_OL cA h0 a0 n w cO q0 ou) := by rw [hAe]; exact hD0.self
  have hA : ∀ q : Nat, s.heap.size ≤ q → A q := fun q h => by rw [hAe]; exact Or.inr h
  have hS : va_S A s.heap s.heap [] := va_S.rf
  have hP : va_P (dC, dI) vwCl [(h0, .inr (0, [.ref a0, .int (nI n), .int (nI (sd_sum w n))])), (a0, .inl (cA, 8, .inl (fun i => nI (w i)))), (q0, .inl (cO, 1, .inr (.inl ou)))] s.heap := hP
  have hD : va_D A [(h0, .inr (0, [.ref a0, .int (nI n), .int (nI (sd_sum w n))])), (a0, .inl (cA, 8, .inl (fun i => nI (w i)))), (q0, .inl (cO, 1, .inr (.inl ou)))] := hD
  have hPc := hP.sub (ws' := (sd_O cA h0 a0 n w)) [0, 1] rfl
  have hKc := hK.sub (tys' := [(cA, .int)]) [0] rfl
  have hDc := hD.sub (ws' := (sd_O cA h0 a0 n w)) [0, 1] (by decide) rfl
  refine lv_aload hx hb dL_least_0 (lv_at hl 4 rfl) ?_
  refine lv_iconst (v := (nI 0)) hx hb dL_least_2 (by decide +kernel) ?_
  refine lv_aload_n hx hb dL_least_3 rfl (lv_at hl 0 rfl) ?_
  refine lv_iload_n hx hb dL_least_4 rfl (lv_at hl 1 rfl) ?_
  refine lv_iload_n hx hb dL_least_5 rfl (lv_at hl 2 rfl) ?_
  refine lv_iload_n hx hb dL_least_6 rfl (lv_at hl 3 rfl) ?_
  refine sd_thrV (As := [.int (nI y), .int (nI k), .int (nI q)]) (rest := [.int (nI 0), .ref q0]) ⟨hx, hb, hml, hown, hts0⟩ (t_least4 l hl9 dC dI cA h0 a0 n w ok y q hy hq (nI k) (nI_pos' hk) hz0) (cwV 3 hts0 (sd_gV k_methodLink_L_32 k_instanceMethod_X0_least k_sel_X0_least k_init_ShareDesk k_code_X0_least) rfl rfl rfl (by decide +kernel) ⟨Nat.le_of_ble_eq_true rfl, Nat.le_of_ble_eq_true rfl⟩) (sd_preVt hKc hPc hTH (q0 := 0) (ci := 0) rfl rfl) rfl hl.1 rfl (lv_room (Nat.le_of_ble_eq_true rfl)) dL_least_7 ⟨Nat.le_refl _, Nat.le_refl _⟩ (sd_catch2 (own := RL) (cls := sd_IS) (other := sd_IA) (x := (⟨0, 12, 15, 13⟩ : ExceptionTableEntry)) (y := (⟨0, 12, 19, 23⟩ : ExceptionTableEntry)) (t := []) (by rw [htb]; rfl) hown (by decide) (by decide) (by decide) (by decide) (hts (.classLink RL 13 sd_IA) k_classLink_L_13) (hts (.classLink RL 23 sd_IS) k_classLink_L_23) hTH.2.2.2.2.2.1 (va_any rfl hTH.2.2.2.2.1) (fun H q9 hz hk => ?_))
  have hP := sd_keptP hP hk
  have hS : va_S A s.heap H [] := ⟨hz, fun q hq _ => hk q hq, fun _ h => nomatch h⟩
  refine W.eq (g2 := F0 m 19 ls [.ref q9]) rfl ?_
  refine lv_astore hx hb dL_least_19 hl (by decide) rfl (fun ls hl => ?_)
  have hl : lv_has ls 6 [(5, .ref q9), (0, .ref h0), (1, .int (nI y)), (2, .int (nI k)), (3, .int (nI q)), (4, .ref q0)] := hl
  refine lv_iconst (v := (nI 2)) hx hb dL_least_21 (by decide +kernel) ?_
  have hP : va_P (dC, dI) vwCl (sd_OL cA h0 a0 n w cO q0 ou) H := hP
  have hD : va_D A (sd_OL cA h0 a0 n w cO q0 ou) := hD
  refine W.widen (k := 1) (n := 6) (by omega) (by omega) ?_
  exact W.iret hx hb hr (fun t ht hW => ⟨⟨_, (), rfl, rfl, by rw [ht]; exact hP, va_K.moved hW.alike hK, by rw [← hAe]; exact hD⟩, by rw [← hAe]; exact hS.F ht⟩) (fun q hq => by rw [← hAe]; exact hS.2.2 q hq) dL_least_22
set_option maxHeartbeats 4000000 in
set_option maxRecDepth 100000 in
theorem w_count (l : Launch) (hl9 : l.stackTraces = false) (dC : Nat → ClassId) (dI : Nat → Nat → Nat) (cA : ClassId) (h0 a0 n : Nat) (w : Nat → Nat) (cO : ClassId) (q0 : Nat) (ou : Nat → Int64) (sz : Nat) (ok : sd_ok n w) (k : Nat) (hk : k ≤ 2) : Met l yL_count (sd_wsW yL_count cL_count 4 (some .int) [(0, 9, 12, 13)]) (sd_rm 8 1 6) (sd_PwT (dC, dI) vwCl [(cA, .int), (cO, .long)] (sd_OL cA h0 a0 n w cO q0 ou) sz [.ref h0, .int (nI k), .ref q0]) (va_Qi (fun r (_ : Unit) => r = nI 0) (sd_Bw (dC, dI) vwCl [(cA, .int), (cO, .long)] (sd_OL cA h0 a0 n w cO q0 ou) sz (fun _ => (sd_OL cA h0 a0 n w cO q0 (vp_updL ou 0 ((nI (if k = 0 then n else if k = 1 then sd_sum w n else sd_cnt (fun j => decide (0 < w j)) n)).toInt64))))) (va_A (sd_OL cA h0 a0 n w cO q0 ou) sz)) 1 6 (va_A (sd_OL cA h0 a0 n w cO q0 ou) sz) := by
  refine va_MetW (cc := cL_count) (maxL := 4) (ret := (some .int)) (hh := [(0, 9, 12, 13)]) (by decide) rfl ?_
  intro p e s m args below meth c s₁ B hml hv
  obtain ⟨rfl, hsz, hP, hK, hD0, hTH⟩ := hv
  subst hsz
  have hx := B.exec
  have hb := B.bytes
  have hr := B.returns
  have hts0 := atoms_spec (ws := (sd_wsW yL_count cL_count 4 (some .int) [(0, 9, 12, 13)])) B.pre
  have htb := sd_table B (hts0 _ List.mem_cons_self)
  have hts : ∀ w ∈ sd_WS, w.before _ s = true := fun w h => hts0 w (List.mem_cons_of_mem _ h)
  have hown : s.vm.findClass RL = some m.cls := findClass_of_methodNamed B.named
  have hlocks := B.notSynchronized
  have hl := lv_entry ([.ref h0, .int (nI k), .ref q0]) (n := 4) (Nat.le_of_ble_eq_true rfl)
  rw [lg_entry_eq]
  generalize (lg_sl ([.ref h0, .int (nI k), .ref q0]) ++ List.replicate (4 - (lg_sl ([.ref h0, .int (nI k), .ref q0])).length) Slot.unset).toArray = ls at hl ⊢
  have hl : lv_has ls 4 [(0, .ref h0), (1, .int (nI k)), (2, .ref q0)] := hl
  obtain ⟨A, hAe⟩ : ∃ A, A = va_A (sd_OL cA h0 a0 n w cO q0 ou) s.heap.size := ⟨_, rfl⟩
  have hD : va_D A (sd_OL cA h0 a0 n w cO q0 ou) := by rw [hAe]; exact hD0.self
  have hA : ∀ q : Nat, s.heap.size ≤ q → A q := fun q h => by rw [hAe]; exact Or.inr h
  have hS : va_S A s.heap s.heap [] := va_S.rf
  have hP : va_P (dC, dI) vwCl [(h0, .inr (0, [.ref a0, .int (nI n), .int (nI (sd_sum w n))])), (a0, .inl (cA, 8, .inl (fun i => nI (w i)))), (q0, .inl (cO, 1, .inr (.inl ou)))] s.heap := hP
  have hD : va_D A [(h0, .inr (0, [.ref a0, .int (nI n), .int (nI (sd_sum w n))])), (a0, .inl (cA, 8, .inl (fun i => nI (w i)))), (q0, .inl (cO, 1, .inr (.inl ou)))] := hD
  have hPc := hP.sub (ws' := (sd_O cA h0 a0 n w)) [0, 1] rfl
  have hKc := hK.sub (tys' := [(cA, .int)]) [0] rfl
  have hDc := hD.sub (ws' := (sd_O cA h0 a0 n w)) [0, 1] (by decide) rfl
  refine lv_aload_n hx hb dL_count_0 rfl (lv_at hl 2 rfl) ?_
  refine lv_iconst (v := (nI 0)) hx hb dL_count_1 (by decide +kernel) ?_
  refine lv_aload_n hx hb dL_count_2 rfl (lv_at hl 0 rfl) ?_
  refine lv_iload_n hx hb dL_count_3 rfl (lv_at hl 1 rfl) ?_
  refine sd_calli (va_runV (As := [.int (nI k)]) (rest := [.int (nI 0), .ref q0]) ⟨hx, hb, hml, hown, hts0⟩ (c_count l dC dI cA h0 a0 n w ok k hk) (cwV 1 hts0 (sd_gV k_methodLink_L_35 k_instanceMethod_X0_count k_sel_X0_count k_init_ShareDesk k_code_X0_count) rfl rfl rfl (by decide +kernel) ⟨Nat.le_of_ble_eq_true rfl, Nat.le_of_ble_eq_true rfl⟩) (sd_preV hKc hPc (q0 := 0) (ci := 0) rfl rfl) rfl rfl hl.1 rfl (lv_room (Nat.le_of_ble_eq_true rfl)) dL_count_4 ⟨Nat.zero_le _, Nat.zero_le _⟩) ?_
  refine lv_i2l (v := (nI (if k = 0 then n else if k = 1 then sd_sum w n else sd_cnt (fun j => decide (0 < w j)) n)).toInt64) hx hb dL_count_7 rfl ?_
  refine sd_last (j := 0) hx hb hK hP hD hS 2 1 rfl rfl (by omega) (by decide) dL_count_8 (fun H locs hP hD hS => ?_)
  have hP : va_P (dC, dI) vwCl [(h0, .inr (0, [.ref a0, .int (nI n), .int (nI (sd_sum w n))])), (a0, .inl (cA, 8, .inl (fun i => nI (w i)))), (q0, .inl (cO, 1, .inr (.inl (vp_updL ou 0 ((nI (if k = 0 then n else if k = 1 then sd_sum w n else sd_cnt (fun j => decide (0 < w j)) n)).toInt64)))))] H := hP
  have hD : va_D A [(h0, .inr (0, [.ref a0, .int (nI n), .int (nI (sd_sum w n))])), (a0, .inl (cA, 8, .inl (fun i => nI (w i)))), (q0, .inl (cO, 1, .inr (.inl (vp_updL ou 0 ((nI (if k = 0 then n else if k = 1 then sd_sum w n else sd_cnt (fun j => decide (0 < w j)) n)).toInt64)))))] := hD
  refine lv_goto (tgt := 15) hx hb dL_count_9 (by decide) ?_
  refine lv_iconst (v := (nI 0)) hx hb dL_count_15 (by decide +kernel) ?_
  have hP : va_P (dC, dI) vwCl (sd_OL cA h0 a0 n w cO q0 (vp_updL ou 0 ((nI (if k = 0 then n else if k = 1 then sd_sum w n else sd_cnt (fun j => decide (0 < w j)) n)).toInt64))) H := hP
  have hD : va_D A (sd_OL cA h0 a0 n w cO q0 (vp_updL ou 0 ((nI (if k = 0 then n else if k = 1 then sd_sum w n else sd_cnt (fun j => decide (0 < w j)) n)).toInt64))) := hD
  refine W.widen (k := 1) (n := 6) (by omega) (by omega) ?_
  exact W.iret hx hb hr (fun t ht hW => ⟨⟨_, (), rfl, rfl, by rw [ht]; exact hP, va_K.moved hW.alike hK, by rw [← hAe]; exact hD⟩, by rw [← hAe]; exact hS.F ht⟩) (fun q hq => by rw [← hAe]; exact hS.2.2 q hq) dL_count_16
set_option maxHeartbeats 4000000 in
set_option maxRecDepth 100000 in
theorem w_count1 (l : Launch) (hl9 : l.stackTraces = false) (dC : Nat → ClassId) (dI : Nat → Nat → Nat) (cA : ClassId) (h0 a0 n : Nat) (w : Nat → Nat) (cO : ClassId) (q0 : Nat) (ou : Nat → Int64) (sz : Nat) (x1 : Int32) (hbad : x1.toInt < 0 ∨ 2 < x1.toInt) : Met l yL_count (sd_wsW yL_count cL_count 4 (some .int) [(0, 9, 12, 13)]) (sd_rm 8 1 6) (sd_PwT (dC, dI) vwCl [(cA, .int), (cO, .long)] (sd_OL cA h0 a0 n w cO q0 ou) sz [.ref h0, .int x1, .ref q0]) (va_Qi (fun r (_ : Unit) => r = nI 1) (sd_Bw (dC, dI) vwCl [(cA, .int), (cO, .long)] (sd_OL cA h0 a0 n w cO q0 ou) sz (fun _ => (sd_OL cA h0 a0 n w cO q0 ou))) (va_A (sd_OL cA h0 a0 n w cO q0 ou) sz)) 1 6 (va_A (sd_OL cA h0 a0 n w cO q0 ou) sz) := by
  refine va_MetW (cc := cL_count) (maxL := 4) (ret := (some .int)) (hh := [(0, 9, 12, 13)]) (by decide) rfl ?_
  intro p e s m args below meth c s₁ B hml hv
  obtain ⟨rfl, hsz, hP, hK, hD0, hTH⟩ := hv
  subst hsz
  have hx := B.exec
  have hb := B.bytes
  have hr := B.returns
  have hts0 := atoms_spec (ws := (sd_wsW yL_count cL_count 4 (some .int) [(0, 9, 12, 13)])) B.pre
  have htb := sd_table B (hts0 _ List.mem_cons_self)
  have hts : ∀ w ∈ sd_WS, w.before _ s = true := fun w h => hts0 w (List.mem_cons_of_mem _ h)
  have hown : s.vm.findClass RL = some m.cls := findClass_of_methodNamed B.named
  have hlocks := B.notSynchronized
  have hl := lv_entry ([.ref h0, .int x1, .ref q0]) (n := 4) (Nat.le_of_ble_eq_true rfl)
  rw [lg_entry_eq]
  generalize (lg_sl ([.ref h0, .int x1, .ref q0]) ++ List.replicate (4 - (lg_sl ([.ref h0, .int x1, .ref q0])).length) Slot.unset).toArray = ls at hl ⊢
  have hl : lv_has ls 4 [(0, .ref h0), (1, .int x1), (2, .ref q0)] := hl
  obtain ⟨A, hAe⟩ : ∃ A, A = va_A (sd_OL cA h0 a0 n w cO q0 ou) s.heap.size := ⟨_, rfl⟩
  have hD : va_D A (sd_OL cA h0 a0 n w cO q0 ou) := by rw [hAe]; exact hD0.self
  have hA : ∀ q : Nat, s.heap.size ≤ q → A q := fun q h => by rw [hAe]; exact Or.inr h
  have hS : va_S A s.heap s.heap [] := va_S.rf
  have hP : va_P (dC, dI) vwCl [(h0, .inr (0, [.ref a0, .int (nI n), .int (nI (sd_sum w n))])), (a0, .inl (cA, 8, .inl (fun i => nI (w i)))), (q0, .inl (cO, 1, .inr (.inl ou)))] s.heap := hP
  have hD : va_D A [(h0, .inr (0, [.ref a0, .int (nI n), .int (nI (sd_sum w n))])), (a0, .inl (cA, 8, .inl (fun i => nI (w i)))), (q0, .inl (cO, 1, .inr (.inl ou)))] := hD
  have hPc := hP.sub (ws' := (sd_O cA h0 a0 n w)) [0, 1] rfl
  have hKc := hK.sub (tys' := [(cA, .int)]) [0] rfl
  have hDc := hD.sub (ws' := (sd_O cA h0 a0 n w)) [0, 1] (by decide) rfl
  refine lv_aload_n hx hb dL_count_0 rfl (lv_at hl 2 rfl) ?_
  refine lv_iconst (v := (nI 0)) hx hb dL_count_1 (by decide +kernel) ?_
  refine lv_aload_n hx hb dL_count_2 rfl (lv_at hl 0 rfl) ?_
  refine lv_iload_n hx hb dL_count_3 rfl (lv_at hl 1 rfl) ?_
  refine sd_thrV (As := [.int x1]) (rest := [.int (nI 0), .ref q0]) ⟨hx, hb, hml, hown, hts0⟩ (t_count l hl9 dC dI cA h0 a0 n w x1 hbad) (cwV 1 hts0 (sd_gV k_methodLink_L_35 k_instanceMethod_X0_count k_sel_X0_count k_init_ShareDesk k_code_X0_count) rfl rfl rfl (by decide +kernel) ⟨Nat.le_of_ble_eq_true rfl, Nat.le_of_ble_eq_true rfl⟩) (sd_preVt hKc hPc hTH (q0 := 0) (ci := 0) rfl rfl) rfl hl.1 rfl (lv_room (Nat.le_of_ble_eq_true rfl)) dL_count_4 ⟨Nat.le_refl _, Nat.le_refl _⟩ (sd_catch1 (own := RL) (cls := sd_IA) (x := (⟨0, 9, 12, 13⟩ : ExceptionTableEntry)) (t := []) (by rw [htb]; rfl) hown (by decide) (by decide) (hts (.classLink RL 13 sd_IA) k_classLink_L_13) (va_any rfl hTH.2.2.2.1) (fun H q9 hz hk => ?_))
  have hP := sd_keptP hP hk
  have hS : va_S A s.heap H [] := ⟨hz, fun q hq _ => hk q hq, fun _ h => nomatch h⟩
  refine W.eq (g2 := F0 m 12 ls [.ref q9]) rfl ?_
  refine lv_astore_n hx hb dL_count_12 rfl hl (by decide) rfl (fun ls hl => ?_)
  have hl : lv_has ls 4 [(3, .ref q9), (0, .ref h0), (1, .int x1), (2, .ref q0)] := hl
  refine lv_iconst (v := (nI 1)) hx hb dL_count_13 (by decide +kernel) ?_
  have hP : va_P (dC, dI) vwCl (sd_OL cA h0 a0 n w cO q0 ou) H := hP
  have hD : va_D A (sd_OL cA h0 a0 n w cO q0 ou) := hD
  refine W.widen (k := 1) (n := 6) (by omega) (by omega) ?_
  exact W.iret hx hb hr (fun t ht hW => ⟨⟨_, (), rfl, rfl, by rw [ht]; exact hP, va_K.moved hW.alike hK, by rw [← hAe]; exact hD⟩, by rw [← hAe]; exact hS.F ht⟩) (fun q hq => by rw [← hAe]; exact hS.2.2 q hq) dL_count_14
set_option maxHeartbeats 4000000 in
set_option maxRecDepth 100000 in
theorem w_weight (l : Launch) (hl9 : l.stackTraces = false) (dC : Nat → ClassId) (dI : Nat → Nat → Nat) (cA : ClassId) (h0 a0 n : Nat) (w : Nat → Nat) (cO : ClassId) (q0 : Nat) (ou : Nat → Int64) (sz : Nat) (ok : sd_ok n w) (q v : Nat) (hq : q < n) (hv : v ≤ 100000) : Met l yL_weight (sd_wsW yL_weight cL_weight 5 (some .int) [(0, 10, 13, 13)]) (sd_rm 8 1 6) (sd_PwT (dC, dI) vwCl [(cA, .int), (cO, .long)] (sd_OL cA h0 a0 n w cO q0 ou) sz [.ref h0, .int (nI q), .int (nI v), .ref q0]) (va_Qi (fun r (_ : Unit) => r = nI 0) (sd_Bw (dC, dI) vwCl [(cA, .int), (cO, .long)] (sd_OL cA h0 a0 n w cO q0 ou) sz (fun _ => (sd_OL cA h0 a0 n (sd_up w q v) cO q0 (vp_updL ou 0 ((nI (w q)).toInt64))))) (va_A (sd_OL cA h0 a0 n w cO q0 ou) sz)) 1 6 (va_A (sd_OL cA h0 a0 n w cO q0 ou) sz) := by
  refine va_MetW (cc := cL_weight) (maxL := 5) (ret := (some .int)) (hh := [(0, 10, 13, 13)]) (by decide) rfl ?_
  intro p e s m args below meth c s₁ B hml hv
  obtain ⟨rfl, hsz, hP, hK, hD0, hTH⟩ := hv
  subst hsz
  have hx := B.exec
  have hb := B.bytes
  have hr := B.returns
  have hts0 := atoms_spec (ws := (sd_wsW yL_weight cL_weight 5 (some .int) [(0, 10, 13, 13)])) B.pre
  have htb := sd_table B (hts0 _ List.mem_cons_self)
  have hts : ∀ w ∈ sd_WS, w.before _ s = true := fun w h => hts0 w (List.mem_cons_of_mem _ h)
  have hown : s.vm.findClass RL = some m.cls := findClass_of_methodNamed B.named
  have hlocks := B.notSynchronized
  have hl := lv_entry ([.ref h0, .int (nI q), .int (nI v), .ref q0]) (n := 5) (Nat.le_of_ble_eq_true rfl)
  rw [lg_entry_eq]
  generalize (lg_sl ([.ref h0, .int (nI q), .int (nI v), .ref q0]) ++ List.replicate (5 - (lg_sl ([.ref h0, .int (nI q), .int (nI v), .ref q0])).length) Slot.unset).toArray = ls at hl ⊢
  have hl : lv_has ls 5 [(0, .ref h0), (1, .int (nI q)), (2, .int (nI v)), (3, .ref q0)] := hl
  obtain ⟨A, hAe⟩ : ∃ A, A = va_A (sd_OL cA h0 a0 n w cO q0 ou) s.heap.size := ⟨_, rfl⟩
  have hD : va_D A (sd_OL cA h0 a0 n w cO q0 ou) := by rw [hAe]; exact hD0.self
  have hA : ∀ q : Nat, s.heap.size ≤ q → A q := fun q h => by rw [hAe]; exact Or.inr h
  have hS : va_S A s.heap s.heap [] := va_S.rf
  have hP : va_P (dC, dI) vwCl [(h0, .inr (0, [.ref a0, .int (nI n), .int (nI (sd_sum w n))])), (a0, .inl (cA, 8, .inl (fun i => nI (w i)))), (q0, .inl (cO, 1, .inr (.inl ou)))] s.heap := hP
  have hD : va_D A [(h0, .inr (0, [.ref a0, .int (nI n), .int (nI (sd_sum w n))])), (a0, .inl (cA, 8, .inl (fun i => nI (w i)))), (q0, .inl (cO, 1, .inr (.inl ou)))] := hD
  have hPc := hP.sub (ws' := (sd_O cA h0 a0 n w)) [0, 1] rfl
  have hKc := hK.sub (tys' := [(cA, .int)]) [0] rfl
  have hDc := hD.sub (ws' := (sd_O cA h0 a0 n w)) [0, 1] (by decide) rfl
  refine lv_aload_n hx hb dL_weight_0 rfl (lv_at hl 3 rfl) ?_
  refine lv_iconst (v := (nI 0)) hx hb dL_weight_1 (by decide +kernel) ?_
  refine lv_aload_n hx hb dL_weight_2 rfl (lv_at hl 0 rfl) ?_
  refine lv_iload_n hx hb dL_weight_3 rfl (lv_at hl 1 rfl) ?_
  refine lv_iload_n hx hb dL_weight_4 rfl (lv_at hl 2 rfl) ?_
  refine sd_Ji (wc := (sd_O cA h0 a0 n w)) (wr := [(q0, .inl (cO, 1, .inr (.inl ou)))]) (va_runV (As := [.int (nI q), .int (nI v)]) (rest := [.int (nI 0), .ref q0]) ⟨hx, hb, hml, hown, hts0⟩ (c_weight l dC dI cA h0 a0 n w s.heap.size q v ok hq hv) (cwV 2 hts0 (sd_gV k_methodLink_L_15 k_instanceMethod_X0_weight k_sel_X0_weight k_init_ShareDesk k_code_X0_weight) rfl rfl rfl (by decide +kernel) ⟨Nat.le_of_ble_eq_true rfl, Nat.le_of_ble_eq_true rfl⟩) (sd_preVw hKc hPc hDc (q0 := 0) (ci := 0) rfl rfl) rfl rfl hl.1 rfl (lv_room (Nat.le_of_ble_eq_true rfl)) dL_weight_5 ⟨Nat.zero_le _, Nat.zero_le _⟩) hP hD hS hA [0, 1] [2] rfl rfl (by decide) (by decide) (fun r_ u_ H locs hpo hP hD hS => ?_)
  subst hpo
  have hP := hP.sub (ws' := (sd_OL cA h0 a0 n (sd_up w q v) cO q0 ou)) [1, 2, 0] rfl
  have hD := hD.sub (ws' := (sd_OL cA h0 a0 n (sd_up w q v) cO q0 ou)) [1, 2, 0] (by decide) rfl
  have hP : va_P (dC, dI) vwCl [(h0, .inr (0, [.ref a0, .int (nI n), .int (nI (sd_sum (sd_up w q v) n))])), (a0, .inl (cA, 8, .inl (fun i => nI ((sd_up w q v) i)))), (q0, .inl (cO, 1, .inr (.inl ou)))] H := hP
  have hD : va_D A [(h0, .inr (0, [.ref a0, .int (nI n), .int (nI (sd_sum (sd_up w q v) n))])), (a0, .inl (cA, 8, .inl (fun i => nI ((sd_up w q v) i)))), (q0, .inl (cO, 1, .inr (.inl ou)))] := hD
  refine lv_i2l (v := (nI (w q)).toInt64) hx hb dL_weight_8 rfl ?_
  refine sd_last (j := 0) hx hb hK hP hD hS 2 1 rfl rfl (by omega) (by decide) dL_weight_9 (fun H locs hP hD hS => ?_)
  have hP : va_P (dC, dI) vwCl [(h0, .inr (0, [.ref a0, .int (nI n), .int (nI (sd_sum (sd_up w q v) n))])), (a0, .inl (cA, 8, .inl (fun i => nI ((sd_up w q v) i)))), (q0, .inl (cO, 1, .inr (.inl (vp_updL ou 0 ((nI (w q)).toInt64)))))] H := hP
  have hD : va_D A [(h0, .inr (0, [.ref a0, .int (nI n), .int (nI (sd_sum (sd_up w q v) n))])), (a0, .inl (cA, 8, .inl (fun i => nI ((sd_up w q v) i)))), (q0, .inl (cO, 1, .inr (.inl (vp_updL ou 0 ((nI (w q)).toInt64)))))] := hD
  refine lv_goto (tgt := 17) hx hb dL_weight_10 (by decide) ?_
  refine lv_iconst (v := (nI 0)) hx hb dL_weight_17 (by decide +kernel) ?_
  have hP : va_P (dC, dI) vwCl (sd_OL cA h0 a0 n (sd_up w q v) cO q0 (vp_updL ou 0 ((nI (w q)).toInt64))) H := hP
  have hD : va_D A (sd_OL cA h0 a0 n (sd_up w q v) cO q0 (vp_updL ou 0 ((nI (w q)).toInt64))) := hD
  refine W.widen (k := 1) (n := 6) (by omega) (by omega) ?_
  exact W.iret hx hb hr (fun t ht hW => ⟨⟨_, (), rfl, rfl, by rw [ht]; exact hP, va_K.moved hW.alike hK, by rw [← hAe]; exact hD⟩, by rw [← hAe]; exact hS.F ht⟩) (fun q hq => by rw [← hAe]; exact hS.2.2 q hq) dL_weight_18
set_option maxHeartbeats 4000000 in
set_option maxRecDepth 100000 in
theorem w_weight1 (l : Launch) (hl9 : l.stackTraces = false) (dC : Nat → ClassId) (dI : Nat → Nat → Nat) (cA : ClassId) (h0 a0 n : Nat) (w : Nat → Nat) (cO : ClassId) (q0 : Nat) (ou : Nat → Int64) (sz : Nat) (x1 x2 : Int32) (hbad : x1 < 0 ∨ nI n ≤ x1) : Met l yL_weight (sd_wsW yL_weight cL_weight 5 (some .int) [(0, 10, 13, 13)]) (sd_rm 8 1 6) (sd_PwT (dC, dI) vwCl [(cA, .int), (cO, .long)] (sd_OL cA h0 a0 n w cO q0 ou) sz [.ref h0, .int x1, .int x2, .ref q0]) (va_Qi (fun r (_ : Unit) => r = nI 1) (sd_Bw (dC, dI) vwCl [(cA, .int), (cO, .long)] (sd_OL cA h0 a0 n w cO q0 ou) sz (fun _ => (sd_OL cA h0 a0 n w cO q0 ou))) (va_A (sd_OL cA h0 a0 n w cO q0 ou) sz)) 1 6 (va_A (sd_OL cA h0 a0 n w cO q0 ou) sz) := by
  refine va_MetW (cc := cL_weight) (maxL := 5) (ret := (some .int)) (hh := [(0, 10, 13, 13)]) (by decide) rfl ?_
  intro p e s m args below meth c s₁ B hml hv
  obtain ⟨rfl, hsz, hP, hK, hD0, hTH⟩ := hv
  subst hsz
  have hx := B.exec
  have hb := B.bytes
  have hr := B.returns
  have hts0 := atoms_spec (ws := (sd_wsW yL_weight cL_weight 5 (some .int) [(0, 10, 13, 13)])) B.pre
  have htb := sd_table B (hts0 _ List.mem_cons_self)
  have hts : ∀ w ∈ sd_WS, w.before _ s = true := fun w h => hts0 w (List.mem_cons_of_mem _ h)
  have hown : s.vm.findClass RL = some m.cls := findClass_of_methodNamed B.named
  have hlocks := B.notSynchronized
  have hl := lv_entry ([.ref h0, .int x1, .int x2, .ref q0]) (n := 5) (Nat.le_of_ble_eq_true rfl)
  rw [lg_entry_eq]
  generalize (lg_sl ([.ref h0, .int x1, .int x2, .ref q0]) ++ List.replicate (5 - (lg_sl ([.ref h0, .int x1, .int x2, .ref q0])).length) Slot.unset).toArray = ls at hl ⊢
  have hl : lv_has ls 5 [(0, .ref h0), (1, .int x1), (2, .int x2), (3, .ref q0)] := hl
  obtain ⟨A, hAe⟩ : ∃ A, A = va_A (sd_OL cA h0 a0 n w cO q0 ou) s.heap.size := ⟨_, rfl⟩
  have hD : va_D A (sd_OL cA h0 a0 n w cO q0 ou) := by rw [hAe]; exact hD0.self
  have hA : ∀ q : Nat, s.heap.size ≤ q → A q := fun q h => by rw [hAe]; exact Or.inr h
  have hS : va_S A s.heap s.heap [] := va_S.rf
  have hP : va_P (dC, dI) vwCl [(h0, .inr (0, [.ref a0, .int (nI n), .int (nI (sd_sum w n))])), (a0, .inl (cA, 8, .inl (fun i => nI (w i)))), (q0, .inl (cO, 1, .inr (.inl ou)))] s.heap := hP
  have hD : va_D A [(h0, .inr (0, [.ref a0, .int (nI n), .int (nI (sd_sum w n))])), (a0, .inl (cA, 8, .inl (fun i => nI (w i)))), (q0, .inl (cO, 1, .inr (.inl ou)))] := hD
  have hPc := hP.sub (ws' := (sd_O cA h0 a0 n w)) [0, 1] rfl
  have hKc := hK.sub (tys' := [(cA, .int)]) [0] rfl
  have hDc := hD.sub (ws' := (sd_O cA h0 a0 n w)) [0, 1] (by decide) rfl
  refine lv_aload_n hx hb dL_weight_0 rfl (lv_at hl 3 rfl) ?_
  refine lv_iconst (v := (nI 0)) hx hb dL_weight_1 (by decide +kernel) ?_
  refine lv_aload_n hx hb dL_weight_2 rfl (lv_at hl 0 rfl) ?_
  refine lv_iload_n hx hb dL_weight_3 rfl (lv_at hl 1 rfl) ?_
  refine lv_iload_n hx hb dL_weight_4 rfl (lv_at hl 2 rfl) ?_
  refine sd_thrV (As := [.int x1, .int x2]) (rest := [.int (nI 0), .ref q0]) ⟨hx, hb, hml, hown, hts0⟩ (t_weight1 l hl9 dC dI cA h0 a0 n w x1 x2 hbad) (cwV 2 hts0 (sd_gV k_methodLink_L_15 k_instanceMethod_X0_weight k_sel_X0_weight k_init_ShareDesk k_code_X0_weight) rfl rfl rfl (by decide +kernel) ⟨Nat.le_of_ble_eq_true rfl, Nat.le_of_ble_eq_true rfl⟩) (sd_preVt hKc hPc hTH (q0 := 0) (ci := 0) rfl rfl) rfl hl.1 rfl (lv_room (Nat.le_of_ble_eq_true rfl)) dL_weight_5 ⟨Nat.le_refl _, Nat.le_refl _⟩ (sd_catch1 (own := RL) (cls := sd_IA) (x := (⟨0, 10, 13, 13⟩ : ExceptionTableEntry)) (t := []) (by rw [htb]; rfl) hown (by decide) (by decide) (hts (.classLink RL 13 sd_IA) k_classLink_L_13) (va_any rfl hTH.2.2.2.1) (fun H q9 hz hk => ?_))
  have hP := sd_keptP hP hk
  have hS : va_S A s.heap H [] := ⟨hz, fun q hq _ => hk q hq, fun _ h => nomatch h⟩
  refine W.eq (g2 := F0 m 13 ls [.ref q9]) rfl ?_
  refine lv_astore hx hb dL_weight_13 hl (by decide) rfl (fun ls hl => ?_)
  have hl : lv_has ls 5 [(4, .ref q9), (0, .ref h0), (1, .int x1), (2, .int x2), (3, .ref q0)] := hl
  refine lv_iconst (v := (nI 1)) hx hb dL_weight_15 (by decide +kernel) ?_
  have hP : va_P (dC, dI) vwCl (sd_OL cA h0 a0 n w cO q0 ou) H := hP
  have hD : va_D A (sd_OL cA h0 a0 n w cO q0 ou) := hD
  refine W.widen (k := 1) (n := 6) (by omega) (by omega) ?_
  exact W.iret hx hb hr (fun t ht hW => ⟨⟨_, (), rfl, rfl, by rw [ht]; exact hP, va_K.moved hW.alike hK, by rw [← hAe]; exact hD⟩, by rw [← hAe]; exact hS.F ht⟩) (fun q hq => by rw [← hAe]; exact hS.2.2 q hq) dL_weight_16
set_option maxHeartbeats 4000000 in
set_option maxRecDepth 100000 in
theorem w_weight2 (l : Launch) (hl9 : l.stackTraces = false) (dC : Nat → ClassId) (dI : Nat → Nat → Nat) (cA : ClassId) (h0 a0 n : Nat) (w : Nat → Nat) (cO : ClassId) (q0 : Nat) (ou : Nat → Int64) (sz : Nat) (ok : sd_ok n w) (q : Nat) (hq : q < n) (x2 : Int32) (hbad : x2 < 0 ∨ nI 100000 < x2) : Met l yL_weight (sd_wsW yL_weight cL_weight 5 (some .int) [(0, 10, 13, 13)]) (sd_rm 8 1 6) (sd_PwT (dC, dI) vwCl [(cA, .int), (cO, .long)] (sd_OL cA h0 a0 n w cO q0 ou) sz [.ref h0, .int (nI q), .int x2, .ref q0]) (va_Qi (fun r (_ : Unit) => r = nI 1) (sd_Bw (dC, dI) vwCl [(cA, .int), (cO, .long)] (sd_OL cA h0 a0 n w cO q0 ou) sz (fun _ => (sd_OL cA h0 a0 n w cO q0 ou))) (va_A (sd_OL cA h0 a0 n w cO q0 ou) sz)) 1 6 (va_A (sd_OL cA h0 a0 n w cO q0 ou) sz) := by
  refine va_MetW (cc := cL_weight) (maxL := 5) (ret := (some .int)) (hh := [(0, 10, 13, 13)]) (by decide) rfl ?_
  intro p e s m args below meth c s₁ B hml hv
  obtain ⟨rfl, hsz, hP, hK, hD0, hTH⟩ := hv
  subst hsz
  have hx := B.exec
  have hb := B.bytes
  have hr := B.returns
  have hts0 := atoms_spec (ws := (sd_wsW yL_weight cL_weight 5 (some .int) [(0, 10, 13, 13)])) B.pre
  have htb := sd_table B (hts0 _ List.mem_cons_self)
  have hts : ∀ w ∈ sd_WS, w.before _ s = true := fun w h => hts0 w (List.mem_cons_of_mem _ h)
  have hown : s.vm.findClass RL = some m.cls := findClass_of_methodNamed B.named
  have hlocks := B.notSynchronized
  have hl := lv_entry ([.ref h0, .int (nI q), .int x2, .ref q0]) (n := 5) (Nat.le_of_ble_eq_true rfl)
  rw [lg_entry_eq]
  generalize (lg_sl ([.ref h0, .int (nI q), .int x2, .ref q0]) ++ List.replicate (5 - (lg_sl ([.ref h0, .int (nI q), .int x2, .ref q0])).length) Slot.unset).toArray = ls at hl ⊢
  have hl : lv_has ls 5 [(0, .ref h0), (1, .int (nI q)), (2, .int x2), (3, .ref q0)] := hl
  obtain ⟨A, hAe⟩ : ∃ A, A = va_A (sd_OL cA h0 a0 n w cO q0 ou) s.heap.size := ⟨_, rfl⟩
  have hD : va_D A (sd_OL cA h0 a0 n w cO q0 ou) := by rw [hAe]; exact hD0.self
  have hA : ∀ q : Nat, s.heap.size ≤ q → A q := fun q h => by rw [hAe]; exact Or.inr h
  have hS : va_S A s.heap s.heap [] := va_S.rf
  have hP : va_P (dC, dI) vwCl [(h0, .inr (0, [.ref a0, .int (nI n), .int (nI (sd_sum w n))])), (a0, .inl (cA, 8, .inl (fun i => nI (w i)))), (q0, .inl (cO, 1, .inr (.inl ou)))] s.heap := hP
  have hD : va_D A [(h0, .inr (0, [.ref a0, .int (nI n), .int (nI (sd_sum w n))])), (a0, .inl (cA, 8, .inl (fun i => nI (w i)))), (q0, .inl (cO, 1, .inr (.inl ou)))] := hD
  have hPc := hP.sub (ws' := (sd_O cA h0 a0 n w)) [0, 1] rfl
  have hKc := hK.sub (tys' := [(cA, .int)]) [0] rfl
  have hDc := hD.sub (ws' := (sd_O cA h0 a0 n w)) [0, 1] (by decide) rfl
  refine lv_aload_n hx hb dL_weight_0 rfl (lv_at hl 3 rfl) ?_
  refine lv_iconst (v := (nI 0)) hx hb dL_weight_1 (by decide +kernel) ?_
  refine lv_aload_n hx hb dL_weight_2 rfl (lv_at hl 0 rfl) ?_
  refine lv_iload_n hx hb dL_weight_3 rfl (lv_at hl 1 rfl) ?_
  refine lv_iload_n hx hb dL_weight_4 rfl (lv_at hl 2 rfl) ?_
  refine sd_thrV (As := [.int (nI q), .int x2]) (rest := [.int (nI 0), .ref q0]) ⟨hx, hb, hml, hown, hts0⟩ (t_weight2 l hl9 dC dI cA h0 a0 n w ok q hq x2 hbad) (cwV 2 hts0 (sd_gV k_methodLink_L_15 k_instanceMethod_X0_weight k_sel_X0_weight k_init_ShareDesk k_code_X0_weight) rfl rfl rfl (by decide +kernel) ⟨Nat.le_of_ble_eq_true rfl, Nat.le_of_ble_eq_true rfl⟩) (sd_preVt hKc hPc hTH (q0 := 0) (ci := 0) rfl rfl) rfl hl.1 rfl (lv_room (Nat.le_of_ble_eq_true rfl)) dL_weight_5 ⟨Nat.le_refl _, Nat.le_refl _⟩ (sd_catch1 (own := RL) (cls := sd_IA) (x := (⟨0, 10, 13, 13⟩ : ExceptionTableEntry)) (t := []) (by rw [htb]; rfl) hown (by decide) (by decide) (hts (.classLink RL 13 sd_IA) k_classLink_L_13) (va_any rfl hTH.2.2.2.1) (fun H q9 hz hk => ?_))
  have hP := sd_keptP hP hk
  have hS : va_S A s.heap H [] := ⟨hz, fun q hq _ => hk q hq, fun _ h => nomatch h⟩
  refine W.eq (g2 := F0 m 13 ls [.ref q9]) rfl ?_
  refine lv_astore hx hb dL_weight_13 hl (by decide) rfl (fun ls hl => ?_)
  have hl : lv_has ls 5 [(4, .ref q9), (0, .ref h0), (1, .int (nI q)), (2, .int x2), (3, .ref q0)] := hl
  refine lv_iconst (v := (nI 1)) hx hb dL_weight_15 (by decide +kernel) ?_
  have hP : va_P (dC, dI) vwCl (sd_OL cA h0 a0 n w cO q0 ou) H := hP
  have hD : va_D A (sd_OL cA h0 a0 n w cO q0 ou) := hD
  refine W.widen (k := 1) (n := 6) (by omega) (by omega) ?_
  exact W.iret hx hb hr (fun t ht hW => ⟨⟨_, (), rfl, rfl, by rw [ht]; exact hP, va_K.moved hW.alike hK, by rw [← hAe]; exact hD⟩, by rw [← hAe]; exact hS.F ht⟩) (fun q hq => by rw [← hAe]; exact hS.2.2 q hq) dL_weight_16
set_option maxHeartbeats 4000000 in
set_option maxRecDepth 100000 in
theorem w_begin (l : Launch) (hl9 : l.stackTraces = false) (dC : Nat → ClassId) (dI : Nat → Nat → Nat) (cA : ClassId) (h0 a0 n : Nat) (w : Nat → Nat) (cO : ClassId) (q0 : Nat) (ou : Nat → Int64) (sz : Nat) (ok : sd_ok n w) (j : Nat) (hj1 : 1 ≤ j) (hj8 : j ≤ 8) : Met l yL_begin (sd_wsW yL_begin cL_begin 3 (some .int) [(0, 5, 8, 13)]) (sd_rm 8 1 6) (sd_PwT (dC, dI) vwCl [(cA, .int)] (sd_O cA h0 a0 n w) sz [.ref h0, .int (nI j)]) (va_Qi (fun r (_ : Unit) => r = nI 0) (sd_Bw (dC, dI) vwCl [(cA, .int)] (sd_O cA h0 a0 n w) sz (fun _ => sd_O cA h0 a0 j (fun _ => 0))) (va_A (sd_O cA h0 a0 n w) sz)) 1 6 (va_A (sd_O cA h0 a0 n w) sz) := by
  refine va_MetW (cc := cL_begin) (maxL := 3) (ret := (some .int)) (hh := [(0, 5, 8, 13)]) (by decide) rfl ?_
  intro p e s m args below meth c s₁ B hml hv
  obtain ⟨rfl, hsz, hP, hK, hD0, hTH⟩ := hv
  subst hsz
  have hx := B.exec
  have hb := B.bytes
  have hr := B.returns
  have hts0 := atoms_spec (ws := (sd_wsW yL_begin cL_begin 3 (some .int) [(0, 5, 8, 13)])) B.pre
  have htb := sd_table B (hts0 _ List.mem_cons_self)
  have hts : ∀ w ∈ sd_WS, w.before _ s = true := fun w h => hts0 w (List.mem_cons_of_mem _ h)
  have hown : s.vm.findClass RL = some m.cls := findClass_of_methodNamed B.named
  have hlocks := B.notSynchronized
  have hl := lv_entry ([.ref h0, .int (nI j)]) (n := 3) (Nat.le_of_ble_eq_true rfl)
  rw [lg_entry_eq]
  generalize (lg_sl ([.ref h0, .int (nI j)]) ++ List.replicate (3 - (lg_sl ([.ref h0, .int (nI j)])).length) Slot.unset).toArray = ls at hl ⊢
  have hl : lv_has ls 3 [(0, .ref h0), (1, .int (nI j))] := hl
  obtain ⟨A, hAe⟩ : ∃ A, A = va_A (sd_O cA h0 a0 n w) s.heap.size := ⟨_, rfl⟩
  have hD : va_D A (sd_O cA h0 a0 n w) := by rw [hAe]; exact hD0.self
  have hA : ∀ q : Nat, s.heap.size ≤ q → A q := fun q h => by rw [hAe]; exact Or.inr h
  have hS : va_S A s.heap s.heap [] := va_S.rf
  have hP : va_P (dC, dI) vwCl [(h0, .inr (0, [.ref a0, .int (nI n), .int (nI (sd_sum w n))])), (a0, .inl (cA, 8, .inl (fun i => nI (w i))))] s.heap := hP
  have hD : va_D A [(h0, .inr (0, [.ref a0, .int (nI n), .int (nI (sd_sum w n))])), (a0, .inl (cA, 8, .inl (fun i => nI (w i))))] := hD
  have hPc : va_P (dC, dI) vwCl (sd_O cA h0 a0 n w) s.heap := hP
  have hKc := hK
  have hDc : va_D A (sd_O cA h0 a0 n w) := hD
  refine lv_aload_n hx hb dL_begin_0 rfl (lv_at hl 0 rfl) ?_
  refine lv_iload_n hx hb dL_begin_1 rfl (lv_at hl 1 rfl) ?_
  refine sd_wv (va_runV (As := [.int (nI j)]) (rest := []) ⟨hx, hb, hml, hown, hts0⟩ (c_begin l dC dI cA h0 a0 n w s.heap.size j ok hj1 hj8) (cwV 1 hts0 (sd_gV k_methodLink_L_7 k_instanceMethod_X0_begin k_sel_X0_begin k_init_ShareDesk k_code_X0_begin) rfl rfl rfl (by decide +kernel) ⟨Nat.le_of_ble_eq_true rfl, Nat.le_of_ble_eq_true rfl⟩) (sd_preVw hKc hPc hDc (q0 := 0) (ci := 0) rfl rfl) rfl rfl hl.1 rfl (lv_room (Nat.le_of_ble_eq_true rfl)) dL_begin_2 ⟨Nat.zero_le _, Nat.zero_le _⟩) hDc hS hA (fun u_ H locs hpo hP hD hS => ?_)
  refine lv_goto (tgt := 11) hx hb dL_begin_5 (by decide) ?_
  refine lv_iconst (v := (nI 0)) hx hb dL_begin_11 (by decide +kernel) ?_
  refine W.widen (k := 1) (n := 6) (by omega) (by omega) ?_
  exact W.iret hx hb hr (fun t ht hW => ⟨⟨_, (), rfl, rfl, by rw [ht]; exact hP, va_K.moved hW.alike hK, by rw [← hAe]; exact hD⟩, by rw [← hAe]; exact hS.F ht⟩) (fun q hq => by rw [← hAe]; exact hS.2.2 q hq) dL_begin_12
set_option maxHeartbeats 4000000 in
set_option maxRecDepth 100000 in
theorem w_begin1 (l : Launch) (hl9 : l.stackTraces = false) (dC : Nat → ClassId) (dI : Nat → Nat → Nat) (cA : ClassId) (h0 a0 n : Nat) (w : Nat → Nat) (cO : ClassId) (q0 : Nat) (ou : Nat → Int64) (sz : Nat) (x1 : Int32) (hbad : x1 < nI 1 ∨ nI 8 < x1) : Met l yL_begin (sd_wsW yL_begin cL_begin 3 (some .int) [(0, 5, 8, 13)]) (sd_rm 8 1 6) (sd_PwT (dC, dI) vwCl [(cA, .int)] (sd_O cA h0 a0 n w) sz [.ref h0, .int x1]) (va_Qi (fun r (_ : Unit) => r = nI 1) (sd_Bw (dC, dI) vwCl [(cA, .int)] (sd_O cA h0 a0 n w) sz (fun _ => (sd_O cA h0 a0 n w))) (va_A (sd_O cA h0 a0 n w) sz)) 1 6 (va_A (sd_O cA h0 a0 n w) sz) := by
  refine va_MetW (cc := cL_begin) (maxL := 3) (ret := (some .int)) (hh := [(0, 5, 8, 13)]) (by decide) rfl ?_
  intro p e s m args below meth c s₁ B hml hv
  obtain ⟨rfl, hsz, hP, hK, hD0, hTH⟩ := hv
  subst hsz
  have hx := B.exec
  have hb := B.bytes
  have hr := B.returns
  have hts0 := atoms_spec (ws := (sd_wsW yL_begin cL_begin 3 (some .int) [(0, 5, 8, 13)])) B.pre
  have htb := sd_table B (hts0 _ List.mem_cons_self)
  have hts : ∀ w ∈ sd_WS, w.before _ s = true := fun w h => hts0 w (List.mem_cons_of_mem _ h)
  have hown : s.vm.findClass RL = some m.cls := findClass_of_methodNamed B.named
  have hlocks := B.notSynchronized
  have hl := lv_entry ([.ref h0, .int x1]) (n := 3) (Nat.le_of_ble_eq_true rfl)
  rw [lg_entry_eq]
  generalize (lg_sl ([.ref h0, .int x1]) ++ List.replicate (3 - (lg_sl ([.ref h0, .int x1])).length) Slot.unset).toArray = ls at hl ⊢
  have hl : lv_has ls 3 [(0, .ref h0), (1, .int x1)] := hl
  obtain ⟨A, hAe⟩ : ∃ A, A = va_A (sd_O cA h0 a0 n w) s.heap.size := ⟨_, rfl⟩
  have hD : va_D A (sd_O cA h0 a0 n w) := by rw [hAe]; exact hD0.self
  have hA : ∀ q : Nat, s.heap.size ≤ q → A q := fun q h => by rw [hAe]; exact Or.inr h
  have hS : va_S A s.heap s.heap [] := va_S.rf
  have hP : va_P (dC, dI) vwCl [(h0, .inr (0, [.ref a0, .int (nI n), .int (nI (sd_sum w n))])), (a0, .inl (cA, 8, .inl (fun i => nI (w i))))] s.heap := hP
  have hD : va_D A [(h0, .inr (0, [.ref a0, .int (nI n), .int (nI (sd_sum w n))])), (a0, .inl (cA, 8, .inl (fun i => nI (w i))))] := hD
  have hPc : va_P (dC, dI) vwCl (sd_O cA h0 a0 n w) s.heap := hP
  have hKc := hK
  have hDc : va_D A (sd_O cA h0 a0 n w) := hD
  refine lv_aload_n hx hb dL_begin_0 rfl (lv_at hl 0 rfl) ?_
  refine lv_iload_n hx hb dL_begin_1 rfl (lv_at hl 1 rfl) ?_
  refine sd_thrV (As := [.int x1]) (rest := []) ⟨hx, hb, hml, hown, hts0⟩ (t_begin l hl9 dC dI cA h0 a0 n w x1 hbad) (cwV 1 hts0 (sd_gV k_methodLink_L_7 k_instanceMethod_X0_begin k_sel_X0_begin k_init_ShareDesk k_code_X0_begin) rfl rfl rfl (by decide +kernel) ⟨Nat.le_of_ble_eq_true rfl, Nat.le_of_ble_eq_true rfl⟩) (sd_preVt hKc hPc hTH (q0 := 0) (ci := 0) rfl rfl) rfl hl.1 rfl (lv_room (Nat.le_of_ble_eq_true rfl)) dL_begin_2 ⟨Nat.le_refl _, Nat.le_refl _⟩ (sd_catch1 (own := RL) (cls := sd_IA) (x := (⟨0, 5, 8, 13⟩ : ExceptionTableEntry)) (t := []) (by rw [htb]; rfl) hown (by decide) (by decide) (hts (.classLink RL 13 sd_IA) k_classLink_L_13) (va_any rfl hTH.2.2.2.1) (fun H q9 hz hk => ?_))
  have hP := sd_keptP hP hk
  have hS : va_S A s.heap H [] := ⟨hz, fun q hq _ => hk q hq, fun _ h => nomatch h⟩
  refine W.eq (g2 := F0 m 8 ls [.ref q9]) rfl ?_
  refine lv_astore_n hx hb dL_begin_8 rfl hl (by decide) rfl (fun ls hl => ?_)
  have hl : lv_has ls 3 [(2, .ref q9), (0, .ref h0), (1, .int x1)] := hl
  refine lv_iconst (v := (nI 1)) hx hb dL_begin_9 (by decide +kernel) ?_
  have hP : va_P (dC, dI) vwCl (sd_O cA h0 a0 n w) H := hP
  have hD : va_D A (sd_O cA h0 a0 n w) := hD
  refine W.widen (k := 1) (n := 6) (by omega) (by omega) ?_
  exact W.iret hx hb hr (fun t ht hW => ⟨⟨_, (), rfl, rfl, by rw [ht]; exact hP, va_K.moved hW.alike hK, by rw [← hAe]; exact hD⟩, by rw [← hAe]; exact hS.F ht⟩) (fun q hq => by rw [← hAe]; exact hS.2.2 q hq) dL_begin_10
