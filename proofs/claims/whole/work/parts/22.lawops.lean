/-! The law's body: a call of the script. -/
/-- all cells: the desk, the reference, the law's own array -/
def sd_LW (cA : ClassId) (h0 a0 : Nat) (cL cZ : ClassId) (h1 a1 a2 a3 a4 : Nat) (cO : ClassId) (q0 n : Nat) (w : Nat → Nat) (er : Nat) (sh ke : Nat → Int64) (go : Nat → Int32) (ou : Nat → Int64) : va_W :=
  [(h0, .inr (0, [.ref a0, .int (nI n), .int (nI (sd_sum w n))])), (a0, .inl (cA, 8, .inl (fun i => nI (w i)))), (h1, .inr (1, [.int (nI er), .int (nI n), .ref a1, .ref a2, .ref a3, .ref a4])), (a1, .inl (cL, 8, .inr (.inl (fun z => lN (w z))))), (a2, .inl (cL, 8, .inr (.inl sh))), (a3, .inl (cL, 8, .inr (.inl ke))), (a4, .inl (cZ, 8, .inl go)), (q0, .inl (cO, 1, .inr (.inl ou)))]
section SDL
variable {p : Program} {l : Launch} {e : Env} {s : State} {m : MethodId} {args : Array Value} {below : List Frame} {meth : Method} {c : Code} {R : Room} {H : Heap} {locs : List Loc} {cells slots : Nat} {Q : State → Prop} {cc : ByteArray} {pc : Nat} {ls : Array Slot} {rest : List Value} {A : Nat → Prop} {H0 : Heap}
theorem sd_sld (hexec : p.tables.exec = Jvm.exec) (hb : c.code = cc) {b L : Nat} {xs : Nat → Int32} (hX : va_X b L xs s H0) (hbl : b < H0.size) (hbA : ¬ A b) (hS : va_S A H0 H locs) {j : Nat} (hj : j < L) (hL : L < 2 ^ 31) (hdg : decode cc pc = .ok (.iaload, 1))
    (kk : W p l e R s m args below meth c H locs cells slots Q (F0 m (pc + 1) ls (.int (xs j) :: rest))) : W p l e R s m args below meth c H locs cells slots Q (F0 m pc ls (.int (nI j) :: .ref b :: rest)) := by
  refine va_sld hexec hb hX hbl hbA hS (vp_in_nI hj hL) hdg ?_
  rw [nI_clamp (Nat.lt_trans hj hL)]
  exact kk
end SDL
set_option maxHeartbeats 4000000 in
set_option maxRecDepth 100000 in
theorem law_begin {p : Program} {l : Launch} {e : Env} {s : State} {m : MethodId} {below : List Frame} {meth : Method} {c : Code} {Q : State → Prop} {b L : Nat} {xs : Nat → Int32} {dC : Nat → ClassId} {dI : Nat → Nat → Nat} {cA : ClassId} {h0 a0 : Nat} {cL cZ : ClassId} {h1 a1 a2 a3 a4 : Nat} {cO : ClassId} {q0 : Nat} {A : Nat → Prop} (hx : p.tables.exec = Jvm.exec) (hb : c.code = cL_law) (hml : c.maxLocals = 8) (hts0 : ∀ w ∈ (Cond.initialized RX0 :: sd_WS), w.before #[Value.ref b] s = true) (hown : s.vm.findClass RL = some m.cls) (hX : va_X b L xs s s.heap) (hbl : b < s.heap.size) (hbA : ¬ A b) (hA : ∀ q, s.heap.size ≤ q → A q) (hTH : sd_TH A s s.heap) (hK : va_K (dC, dI) vwCl [(cA, .int), (cL, .long), (cZ, .boolean), (cO, .long)] s) (hL : L ≤ 2048) (i : Nat) (hi : i + 4 ≤ L) (n : Nat) (w : Nat → Nat) (er : Nat) (sh ke : Nat → Int64) (go : Nat → Int32) (ou : Nat → Int64) (k n2 : Nat) (w2 : Nat → Nat) (ou2 : Nat → Int64)  (hk : k ≤ 2)  (hou : ou2 = ou)
    (hM1 : ∀ sz : Nat, Met l yL_begin (sd_wsW yL_begin cL_begin 3 (some .int) [(0, 5, 8, 13)]) (sd_rm 8 1 6) (sd_PwT (dC, dI) vwCl [(cA, .int)] (sd_O cA h0 a0 n w) sz [.ref h0, .int (xs (i + 1))]) (va_Qi (fun r (_ : Unit) => r = nI k) (sd_Bw (dC, dI) vwCl [(cA, .int)] (sd_O cA h0 a0 n w) sz (fun _ => (sd_O cA h0 a0 n2 w2))) (va_A (sd_O cA h0 a0 n w) sz)) 1 6 (va_A (sd_O cA h0 a0 n w) sz))
    (hM2 : ∀ sz : Nat, Met l yX1_begin (sd_ws yX1_begin cX1_begin 3 none) (sd_rm 3 0 0) (sd_Pw (dC, dI) vwCl [(cL, .long), (cZ, .boolean)] (sd_M cL cZ h1 a1 a2 a3 a4 er n w sh ke go) sz [.ref h1, .int (xs (i + 1))]) (va_Qv (fun (_ : sd_S) => True) (sd_Bw (dC, dI) vwCl [(cL, .long), (cZ, .boolean)] (sd_M cL cZ h1 a1 a2 a3 a4 er n w sh ke go) sz (fun v_ => (sd_M cL cZ h1 a1 a2 a3 a4 k n2 w2 v_.1 v_.2.1 v_.2.2))) (va_A (sd_M cL cZ h1 a1 a2 a3 a4 er n w sh ke go) sz)) 0 0 (va_A (sd_M cL cZ h1 a1 a2 a3 a4 er n w sh ke go) sz))
    {H : Heap} {locs : List Loc} {ls : Array Slot} {cells slots : Nat} (hcl : cells + 1 ≤ 1040) (hsl : slots + 6 ≤ 8290) (hP : va_P (dC, dI) vwCl (sd_LW cA h0 a0 cL cZ h1 a1 a2 a3 a4 cO q0 n w er sh ke go ou) H) (hD : va_D A (sd_LW cA h0 a0 cL cZ h1 a1 a2 a3 a4 cO q0 n w er sh ke go ou)) (hS : va_S A s.heap H locs) (hl : lv_has ls 8 [(0, .ref b), (1, .ref h0), (2, .ref h1), (3, .ref q0), (4, .int (nI i))])
    (kk : ∀ (H : Heap) (locs : List Loc) (ls : Array Slot) (sh ke : Nat → Int64) (go : Nat → Int32), va_P (dC, dI) vwCl (sd_LW cA h0 a0 cL cZ h1 a1 a2 a3 a4 cO q0 n2 w2 k sh ke go ou2) H → va_D A (sd_LW cA h0 a0 cL cZ h1 a1 a2 a3 a4 cO q0 n2 w2 k sh ke go ou2) → va_S A s.heap H locs → lv_has ls 8 [(0, .ref b), (1, .ref h0), (2, .ref h1), (3, .ref q0), (4, .int (nI i))] → W p l e room_1 s m #[Value.ref b] below meth c H locs (cells + 1) (slots + 6) Q (F0 m 547 ls [])) : W p l e room_1 s m #[Value.ref b] below meth c H locs cells slots Q (F0 m 80 ls []) := by
  have hts : ∀ w ∈ sd_WS, w.before #[Value.ref b] s = true := fun w h => hts0 w (List.mem_cons_of_mem _ h)
  have hP : va_P (dC, dI) vwCl [(h0, .inr (0, [.ref a0, .int (nI n), .int (nI (sd_sum w n))])), (a0, .inl (cA, 8, .inl (fun i => nI (w i)))), (h1, .inr (1, [.int (nI er), .int (nI n), .ref a1, .ref a2, .ref a3, .ref a4])), (a1, .inl (cL, 8, .inr (.inl (fun z => lN (w z))))), (a2, .inl (cL, 8, .inr (.inl sh))), (a3, .inl (cL, 8, .inr (.inl ke))), (a4, .inl (cZ, 8, .inl go)), (q0, .inl (cO, 1, .inr (.inl ou)))] H := hP
  have hD : va_D A [(h0, .inr (0, [.ref a0, .int (nI n), .int (nI (sd_sum w n))])), (a0, .inl (cA, 8, .inl (fun i => nI (w i)))), (h1, .inr (1, [.int (nI er), .int (nI n), .ref a1, .ref a2, .ref a3, .ref a4])), (a1, .inl (cL, 8, .inr (.inl (fun z => lN (w z))))), (a2, .inl (cL, 8, .inr (.inl sh))), (a3, .inl (cL, 8, .inr (.inl ke))), (a4, .inl (cZ, 8, .inl go)), (q0, .inl (cO, 1, .inr (.inl ou)))] := hD
  refine lv_aload_n hx hb dL_law_80 rfl (lv_at hl 1 rfl) ?_
  refine lv_aload_n hx hb dL_law_81 rfl (lv_at hl 0 rfl) ?_
  refine lv_iload hx hb dL_law_82 (lv_at hl 4 rfl) ?_
  refine lv_iconst (v := (nI 1)) hx hb dL_law_84 (by decide +kernel) ?_
  refine sd_iadd (v := nI (i + 1)) hx hb dL_law_85 (nI_add _ _) ?_
  refine sd_sld (j := i + 1) hx hb hX hbl hbA hS (by omega) (by omega) dL_law_86 ?_
  have hPc := hP.sub (ws' := (sd_O cA h0 a0 n w)) [0, 1] rfl
  have hDc := hD.sub (ws' := (sd_O cA h0 a0 n w)) [0, 1] (by decide) rfl
  have hKc := hK.sub (tys' := [(cA, .int)]) [0] rfl
  have hT9 : sd_TH (fun _ => False) s H := (hTH.kept hS.2.1).narrow (fun _ h => h.elim)
  refine sd_Ji (wc := (sd_O cA h0 a0 n w)) (wr := [(h1, .inr (1, [.int (nI er), .int (nI n), .ref a1, .ref a2, .ref a3, .ref a4])), (a1, .inl (cL, 8, .inr (.inl (fun z => lN (w z))))), (a2, .inl (cL, 8, .inr (.inl sh))), (a3, .inl (cL, 8, .inr (.inl ke))), (a4, .inl (cZ, 8, .inl go)), (q0, .inl (cO, 1, .inr (.inl ou)))]) (vx_runSW (As := [.ref h0, .int (xs (i + 1))]) (rest := []) ⟨hx, hb, hml, hown, hts0⟩ (hM1 H.size) (vx_cwSW 2 hts0 (sd_gSW k_methodLink_L_43 k_static_L_begin k_init_ShareDeskLaw k_codeWith_L_begin) rfl rfl rfl (by decide +kernel) ⟨Nat.le_of_ble_eq_true rfl, Nat.le_of_ble_eq_true rfl⟩) (sd_preSwT hKc hPc hDc hT9) rfl rfl hl.1 rfl (lv_room (Nat.le_of_ble_eq_true rfl)) dL_law_87 ⟨hcl, hsl⟩) hP hD hS hA [0, 1] [2, 3, 4, 5, 6, 7] rfl rfl (by decide) (by decide) (fun r_ u_ H locs hpo hP hD hS => ?_)
  subst hou
  subst hpo
  have hP := hP.sub (ws' := [(h0, .inr (0, [.ref a0, .int (nI n2), .int (nI (sd_sum w2 n2))])), (a0, .inl (cA, 8, .inl (fun i => nI (w2 i)))), (h1, .inr (1, [.int (nI er), .int (nI n), .ref a1, .ref a2, .ref a3, .ref a4])), (a1, .inl (cL, 8, .inr (.inl (fun z => lN (w z))))), (a2, .inl (cL, 8, .inr (.inl sh))), (a3, .inl (cL, 8, .inr (.inl ke))), (a4, .inl (cZ, 8, .inl go)), (q0, .inl (cO, 1, .inr (.inl ou2)))]) [6, 7, 0, 1, 2, 3, 4, 5] rfl
  have hD := hD.sub (ws' := [(h0, .inr (0, [.ref a0, .int (nI n2), .int (nI (sd_sum w2 n2))])), (a0, .inl (cA, 8, .inl (fun i => nI (w2 i)))), (h1, .inr (1, [.int (nI er), .int (nI n), .ref a1, .ref a2, .ref a3, .ref a4])), (a1, .inl (cL, 8, .inr (.inl (fun z => lN (w z))))), (a2, .inl (cL, 8, .inr (.inl sh))), (a3, .inl (cL, 8, .inr (.inl ke))), (a4, .inl (cZ, 8, .inl go)), (q0, .inl (cO, 1, .inr (.inl ou2)))]) [6, 7, 0, 1, 2, 3, 4, 5] (by decide) rfl
  refine lv_istore hx hb dL_law_90 hl (by decide) rfl (fun ls hl => ?_)
  have hl : lv_has ls 8 [(5, .int (nI k)), (0, .ref b), (1, .ref h0), (2, .ref h1), (3, .ref q0), (4, .int (nI i))] := hl
  refine lv_aload_n hx hb dL_law_92 rfl (lv_at hl 3 rfl) ?_
  refine lv_aload_n hx hb dL_law_93 rfl (lv_at hl 1 rfl) ?_
  refine lv_iload hx hb dL_law_94 (lv_at hl 5 rfl) ?_
  refine lv_iconst (v := (nI 1)) hx hb dL_law_96 (by decide +kernel) ?_
  refine sd_iadd (v := nI (i + 1)) hx hb dL_law_97 (nI_add _ _) ?_
  refine sd_sld (j := i + 1) hx hb hX hbl hbA hS (by omega) (by omega) dL_law_98 ?_
  have hPm := hP.sub (ws' := (sd_M cL cZ h1 a1 a2 a3 a4 er n w sh ke go)) [2, 3, 4, 5, 6] rfl
  have hDm := hD.sub (ws' := (sd_M cL cZ h1 a1 a2 a3 a4 er n w sh ke go)) [2, 3, 4, 5, 6] (by decide) rfl
  have hKm := hK.sub (tys' := [(cL, .long), (cZ, .boolean)]) [1, 2] rfl
  refine sd_Jv (wc := (sd_M cL cZ h1 a1 a2 a3 a4 er n w sh ke go)) (wr := [(h0, .inr (0, [.ref a0, .int (nI n2), .int (nI (sd_sum w2 n2))])), (a0, .inl (cA, 8, .inl (fun i => nI (w2 i)))), (q0, .inl (cO, 1, .inr (.inl ou2)))]) (va_runV (As := [.int (xs (i + 1))]) (rest := []) ⟨hx, hb, hml, hown, hts0⟩ (hM2 H.size) (cwV 1 hts0 (sd_gV k_methodLink_L_48 k_instanceMethod_X1_begin k_sel_X1_begin k_init_ShareDeskModel k_code_X1_begin) rfl rfl rfl (by decide +kernel) ⟨Nat.le_of_ble_eq_true rfl, Nat.le_of_ble_eq_true rfl⟩) (sd_preVw hKm hPm hDm (q0 := 0) (ci := 1) rfl rfl) rfl rfl hl.1 rfl (lv_room (Nat.le_of_ble_eq_true rfl)) dL_law_99 ⟨hcl, hsl⟩) hP hD hS hA [2, 3, 4, 5, 6] [0, 1, 7] rfl rfl (by decide) (by decide) (fun u_ H locs hpo hP hD hS => ?_)
  obtain ⟨sh, ke, go⟩ := u_
  have hP := hP.sub (ws' := (sd_LW cA h0 a0 cL cZ h1 a1 a2 a3 a4 cO q0 n2 w2 k sh ke go ou2)) [0, 1, 3, 4, 5, 6, 7, 2] rfl
  have hD := hD.sub (ws' := (sd_LW cA h0 a0 cL cZ h1 a1 a2 a3 a4 cO q0 n2 w2 k sh ke go ou2)) [0, 1, 3, 4, 5, 6, 7, 2] (by decide) rfl
  have hP : va_P (dC, dI) vwCl [(h0, .inr (0, [.ref a0, .int (nI n2), .int (nI (sd_sum w2 n2))])), (a0, .inl (cA, 8, .inl (fun i => nI (w2 i)))), (h1, .inr (1, [.int (nI k), .int (nI n2), .ref a1, .ref a2, .ref a3, .ref a4])), (a1, .inl (cL, 8, .inr (.inl (fun z => lN (w2 z))))), (a2, .inl (cL, 8, .inr (.inl sh))), (a3, .inl (cL, 8, .inr (.inl ke))), (a4, .inl (cZ, 8, .inl go)), (q0, .inl (cO, 1, .inr (.inl ou2)))] H := hP
  have hD : va_D A [(h0, .inr (0, [.ref a0, .int (nI n2), .int (nI (sd_sum w2 n2))])), (a0, .inl (cA, 8, .inl (fun i => nI (w2 i)))), (h1, .inr (1, [.int (nI k), .int (nI n2), .ref a1, .ref a2, .ref a3, .ref a4])), (a1, .inl (cL, 8, .inr (.inl (fun z => lN (w2 z))))), (a2, .inl (cL, 8, .inr (.inl sh))), (a3, .inl (cL, 8, .inr (.inl ke))), (a4, .inl (cZ, 8, .inl go)), (q0, .inl (cO, 1, .inr (.inl ou2)))] := hD
  refine lv_aload_n hx hb dL_law_102 rfl (lv_at hl 3 rfl) ?_
  have hPm := hP.sub (ws' := (sd_M cL cZ h1 a1 a2 a3 a4 k n2 w2 sh ke go)) [2, 3, 4, 5, 6] rfl
  refine sd_calli (va_runV (As := []) (rest := []) ⟨hx, hb, hml, hown, hts0⟩ (m_thrown l dC dI cL cZ h1 a1 a2 a3 a4 k n2 w2 sh ke go) (cwV 0 hts0 (sd_gV k_methodLink_L_49 k_instanceMethod_X1_thrown k_sel_X1_thrown k_init_ShareDeskModel k_code_X1_thrown) rfl rfl rfl (by decide +kernel) ⟨Nat.le_of_ble_eq_true rfl, Nat.le_of_ble_eq_true rfl⟩) (sd_preV hKm hPm (q0 := 0) (ci := 1) rfl rfl) rfl rfl hl.1 rfl (lv_room (Nat.le_of_ble_eq_true rfl)) dL_law_103 ⟨hcl, hsl⟩) ?_
  refine lv_iload hx hb dL_law_106 (lv_at hl 0 rfl) ?_
  refine sd_ic_eq (a := k) (b := k) (tgt := 113) hx hb dL_law_108 (by decide) (by omega) (by omega) (fun h => ?_) (fun h => ?_)
  · refine lv_goto (tgt := 547) hx hb dL_law_113 (by decide) ?_
    have hl := lv_sub (l' := [(0, .ref b), (1, .ref h0), (2, .ref h1), (3, .ref q0), (4, .int (nI i))]) hl [1, 2, 3, 4, 5] rfl
    exact kk H locs ls sh ke go hP hD hS hl
  · exact absurd rfl h
set_option maxHeartbeats 4000000 in
set_option maxRecDepth 100000 in
theorem law_weight {p : Program} {l : Launch} {e : Env} {s : State} {m : MethodId} {below : List Frame} {meth : Method} {c : Code} {Q : State → Prop} {b L : Nat} {xs : Nat → Int32} {dC : Nat → ClassId} {dI : Nat → Nat → Nat} {cA : ClassId} {h0 a0 : Nat} {cL cZ : ClassId} {h1 a1 a2 a3 a4 : Nat} {cO : ClassId} {q0 : Nat} {A : Nat → Prop} (hx : p.tables.exec = Jvm.exec) (hb : c.code = cL_law) (hml : c.maxLocals = 8) (hts0 : ∀ w ∈ (Cond.initialized RX0 :: sd_WS), w.before #[Value.ref b] s = true) (hown : s.vm.findClass RL = some m.cls) (hX : va_X b L xs s s.heap) (hbl : b < s.heap.size) (hbA : ¬ A b) (hA : ∀ q, s.heap.size ≤ q → A q) (hTH : sd_TH A s s.heap) (hK : va_K (dC, dI) vwCl [(cA, .int), (cL, .long), (cZ, .boolean), (cO, .long)] s) (hL : L ≤ 2048) (i : Nat) (hi : i + 4 ≤ L) (n : Nat) (w : Nat → Nat) (er : Nat) (sh ke : Nat → Int64) (go : Nat → Int32) (ou : Nat → Int64) (k n2 : Nat) (w2 : Nat → Nat) (ou2 : Nat → Int64) (vb : Int32) (hk : k ≤ 2) (hcmp : k = 0 → ou2 0 = vb.toInt64) 
    (hM1 : ∀ sz : Nat, Met l yL_weight (sd_wsW yL_weight cL_weight 5 (some .int) [(0, 10, 13, 13)]) (sd_rm 8 1 6) (sd_PwT (dC, dI) vwCl [(cA, .int), (cO, .long)] (sd_OL cA h0 a0 n w cO q0 ou) sz [.ref h0, .int (xs (i + 1)), .int (xs (i + 2)), .ref q0]) (va_Qi (fun r (_ : Unit) => r = nI k) (sd_Bw (dC, dI) vwCl [(cA, .int), (cO, .long)] (sd_OL cA h0 a0 n w cO q0 ou) sz (fun _ => (sd_OL cA h0 a0 n2 w2 cO q0 ou2))) (va_A (sd_OL cA h0 a0 n w cO q0 ou) sz)) 1 6 (va_A (sd_OL cA h0 a0 n w cO q0 ou) sz))
    (hM2 : ∀ sz : Nat, Met l yX1_weight (sd_ws yX1_weight cX1_weight 4 (some .int)) (sd_rm 3 0 0) (sd_Pw (dC, dI) vwCl [(cL, .long), (cZ, .boolean)] (sd_M cL cZ h1 a1 a2 a3 a4 er n w sh ke go) sz [.ref h1, .int (xs (i + 1)), .int (xs (i + 2))]) (va_Qi (fun r (_ : sd_S) => r = vb) (sd_Bw (dC, dI) vwCl [(cL, .long), (cZ, .boolean)] (sd_M cL cZ h1 a1 a2 a3 a4 er n w sh ke go) sz (fun v_ => (sd_M cL cZ h1 a1 a2 a3 a4 k n2 w2 v_.1 v_.2.1 v_.2.2))) (va_A (sd_M cL cZ h1 a1 a2 a3 a4 er n w sh ke go) sz)) 0 0 (va_A (sd_M cL cZ h1 a1 a2 a3 a4 er n w sh ke go) sz))
    {H : Heap} {locs : List Loc} {ls : Array Slot} {cells slots : Nat} (hcl : cells + 1 ≤ 1040) (hsl : slots + 6 ≤ 8290) (hP : va_P (dC, dI) vwCl (sd_LW cA h0 a0 cL cZ h1 a1 a2 a3 a4 cO q0 n w er sh ke go ou) H) (hD : va_D A (sd_LW cA h0 a0 cL cZ h1 a1 a2 a3 a4 cO q0 n w er sh ke go ou)) (hS : va_S A s.heap H locs) (hl : lv_has ls 8 [(0, .ref b), (1, .ref h0), (2, .ref h1), (3, .ref q0), (4, .int (nI i))])
    (kk : ∀ (H : Heap) (locs : List Loc) (ls : Array Slot) (sh ke : Nat → Int64) (go : Nat → Int32), va_P (dC, dI) vwCl (sd_LW cA h0 a0 cL cZ h1 a1 a2 a3 a4 cO q0 n2 w2 k sh ke go ou2) H → va_D A (sd_LW cA h0 a0 cL cZ h1 a1 a2 a3 a4 cO q0 n2 w2 k sh ke go ou2) → va_S A s.heap H locs → lv_has ls 8 [(0, .ref b), (1, .ref h0), (2, .ref h1), (3, .ref q0), (4, .int (nI i))] → W p l e room_1 s m #[Value.ref b] below meth c H locs (cells + 1) (slots + 6) Q (F0 m 547 ls [])) : W p l e room_1 s m #[Value.ref b] below meth c H locs cells slots Q (F0 m 116 ls []) := by
  have hts : ∀ w ∈ sd_WS, w.before #[Value.ref b] s = true := fun w h => hts0 w (List.mem_cons_of_mem _ h)
  have hP : va_P (dC, dI) vwCl [(h0, .inr (0, [.ref a0, .int (nI n), .int (nI (sd_sum w n))])), (a0, .inl (cA, 8, .inl (fun i => nI (w i)))), (h1, .inr (1, [.int (nI er), .int (nI n), .ref a1, .ref a2, .ref a3, .ref a4])), (a1, .inl (cL, 8, .inr (.inl (fun z => lN (w z))))), (a2, .inl (cL, 8, .inr (.inl sh))), (a3, .inl (cL, 8, .inr (.inl ke))), (a4, .inl (cZ, 8, .inl go)), (q0, .inl (cO, 1, .inr (.inl ou)))] H := hP
  have hD : va_D A [(h0, .inr (0, [.ref a0, .int (nI n), .int (nI (sd_sum w n))])), (a0, .inl (cA, 8, .inl (fun i => nI (w i)))), (h1, .inr (1, [.int (nI er), .int (nI n), .ref a1, .ref a2, .ref a3, .ref a4])), (a1, .inl (cL, 8, .inr (.inl (fun z => lN (w z))))), (a2, .inl (cL, 8, .inr (.inl sh))), (a3, .inl (cL, 8, .inr (.inl ke))), (a4, .inl (cZ, 8, .inl go)), (q0, .inl (cO, 1, .inr (.inl ou)))] := hD
  refine lv_aload_n hx hb dL_law_116 rfl (lv_at hl 1 rfl) ?_
  refine lv_aload_n hx hb dL_law_117 rfl (lv_at hl 0 rfl) ?_
  refine lv_iload hx hb dL_law_118 (lv_at hl 4 rfl) ?_
  refine lv_iconst (v := (nI 1)) hx hb dL_law_120 (by decide +kernel) ?_
  refine sd_iadd (v := nI (i + 1)) hx hb dL_law_121 (nI_add _ _) ?_
  refine sd_sld (j := i + 1) hx hb hX hbl hbA hS (by omega) (by omega) dL_law_122 ?_
  refine lv_aload_n hx hb dL_law_123 rfl (lv_at hl 0 rfl) ?_
  refine lv_iload hx hb dL_law_124 (lv_at hl 4 rfl) ?_
  refine lv_iconst (v := (nI 2)) hx hb dL_law_126 (by decide +kernel) ?_
  refine sd_iadd (v := nI (i + 2)) hx hb dL_law_127 (nI_add _ _) ?_
  refine sd_sld (j := i + 2) hx hb hX hbl hbA hS (by omega) (by omega) dL_law_128 ?_
  refine lv_aload_n hx hb dL_law_129 rfl (lv_at hl 3 rfl) ?_
  have hPc := hP.sub (ws' := (sd_OL cA h0 a0 n w cO q0 ou)) [0, 1, 7] rfl
  have hDc := hD.sub (ws' := (sd_OL cA h0 a0 n w cO q0 ou)) [0, 1, 7] (by decide) rfl
  have hKc := hK.sub (tys' := [(cA, .int), (cO, .long)]) [0, 3] rfl
  have hT9 : sd_TH (fun _ => False) s H := (hTH.kept hS.2.1).narrow (fun _ h => h.elim)
  refine sd_Ji (wc := (sd_OL cA h0 a0 n w cO q0 ou)) (wr := [(h1, .inr (1, [.int (nI er), .int (nI n), .ref a1, .ref a2, .ref a3, .ref a4])), (a1, .inl (cL, 8, .inr (.inl (fun z => lN (w z))))), (a2, .inl (cL, 8, .inr (.inl sh))), (a3, .inl (cL, 8, .inr (.inl ke))), (a4, .inl (cZ, 8, .inl go))]) (vx_runSW (As := [.ref h0, .int (xs (i + 1)), .int (xs (i + 2)), .ref q0]) (rest := []) ⟨hx, hb, hml, hown, hts0⟩ (hM1 H.size) (vx_cwSW 4 hts0 (sd_gSW k_methodLink_L_53 k_static_L_weight k_init_ShareDeskLaw k_codeWith_L_weight) rfl rfl rfl (by decide +kernel) ⟨Nat.le_of_ble_eq_true rfl, Nat.le_of_ble_eq_true rfl⟩) (sd_preSwT hKc hPc hDc hT9) rfl rfl hl.1 rfl (lv_room (Nat.le_of_ble_eq_true rfl)) dL_law_130 ⟨hcl, hsl⟩) hP hD hS hA [0, 1, 7] [2, 3, 4, 5, 6] rfl rfl (by decide) (by decide) (fun r_ u_ H locs hpo hP hD hS => ?_)
  subst hpo
  have hP := hP.sub (ws' := [(h0, .inr (0, [.ref a0, .int (nI n2), .int (nI (sd_sum w2 n2))])), (a0, .inl (cA, 8, .inl (fun i => nI (w2 i)))), (h1, .inr (1, [.int (nI er), .int (nI n), .ref a1, .ref a2, .ref a3, .ref a4])), (a1, .inl (cL, 8, .inr (.inl (fun z => lN (w z))))), (a2, .inl (cL, 8, .inr (.inl sh))), (a3, .inl (cL, 8, .inr (.inl ke))), (a4, .inl (cZ, 8, .inl go)), (q0, .inl (cO, 1, .inr (.inl ou2)))]) [5, 6, 0, 1, 2, 3, 4, 7] rfl
  have hD := hD.sub (ws' := [(h0, .inr (0, [.ref a0, .int (nI n2), .int (nI (sd_sum w2 n2))])), (a0, .inl (cA, 8, .inl (fun i => nI (w2 i)))), (h1, .inr (1, [.int (nI er), .int (nI n), .ref a1, .ref a2, .ref a3, .ref a4])), (a1, .inl (cL, 8, .inr (.inl (fun z => lN (w z))))), (a2, .inl (cL, 8, .inr (.inl sh))), (a3, .inl (cL, 8, .inr (.inl ke))), (a4, .inl (cZ, 8, .inl go)), (q0, .inl (cO, 1, .inr (.inl ou2)))]) [5, 6, 0, 1, 2, 3, 4, 7] (by decide) rfl
  refine lv_istore hx hb dL_law_133 hl (by decide) rfl (fun ls hl => ?_)
  have hl : lv_has ls 8 [(5, .int (nI k)), (0, .ref b), (1, .ref h0), (2, .ref h1), (3, .ref q0), (4, .int (nI i))] := hl
  refine lv_aload_n hx hb dL_law_135 rfl (lv_at hl 3 rfl) ?_
  refine lv_aload_n hx hb dL_law_136 rfl (lv_at hl 1 rfl) ?_
  refine lv_iload hx hb dL_law_137 (lv_at hl 5 rfl) ?_
  refine lv_iconst (v := (nI 1)) hx hb dL_law_139 (by decide +kernel) ?_
  refine sd_iadd (v := nI (i + 1)) hx hb dL_law_140 (nI_add _ _) ?_
  refine sd_sld (j := i + 1) hx hb hX hbl hbA hS (by omega) (by omega) dL_law_141 ?_
  refine lv_aload_n hx hb dL_law_142 rfl (lv_at hl 1 rfl) ?_
  refine lv_iload hx hb dL_law_143 (lv_at hl 5 rfl) ?_
  refine lv_iconst (v := (nI 2)) hx hb dL_law_145 (by decide +kernel) ?_
  refine sd_iadd (v := nI (i + 2)) hx hb dL_law_146 (nI_add _ _) ?_
  refine sd_sld (j := i + 2) hx hb hX hbl hbA hS (by omega) (by omega) dL_law_147 ?_
  have hPm := hP.sub (ws' := (sd_M cL cZ h1 a1 a2 a3 a4 er n w sh ke go)) [2, 3, 4, 5, 6] rfl
  have hDm := hD.sub (ws' := (sd_M cL cZ h1 a1 a2 a3 a4 er n w sh ke go)) [2, 3, 4, 5, 6] (by decide) rfl
  have hKm := hK.sub (tys' := [(cL, .long), (cZ, .boolean)]) [1, 2] rfl
  refine sd_Ji (wc := (sd_M cL cZ h1 a1 a2 a3 a4 er n w sh ke go)) (wr := [(h0, .inr (0, [.ref a0, .int (nI n2), .int (nI (sd_sum w2 n2))])), (a0, .inl (cA, 8, .inl (fun i => nI (w2 i)))), (q0, .inl (cO, 1, .inr (.inl ou2)))]) (va_runV (As := [.int (xs (i + 1)), .int (xs (i + 2))]) (rest := []) ⟨hx, hb, hml, hown, hts0⟩ (hM2 H.size) (cwV 2 hts0 (sd_gV k_methodLink_L_56 k_instanceMethod_X1_weight k_sel_X1_weight k_init_ShareDeskModel k_code_X1_weight) rfl rfl rfl (by decide +kernel) ⟨Nat.le_of_ble_eq_true rfl, Nat.le_of_ble_eq_true rfl⟩) (sd_preVw hKm hPm hDm (q0 := 0) (ci := 1) rfl rfl) rfl rfl hl.1 rfl (lv_room (Nat.le_of_ble_eq_true rfl)) dL_law_148 ⟨hcl, hsl⟩) hP hD hS hA [2, 3, 4, 5, 6] [0, 1, 7] rfl rfl (by decide) (by decide) (fun r_ u_ H locs hpo hP hD hS => ?_)
  obtain ⟨sh, ke, go⟩ := u_
  subst hpo
  have hP := hP.sub (ws' := (sd_LW cA h0 a0 cL cZ h1 a1 a2 a3 a4 cO q0 n2 w2 k sh ke go ou2)) [0, 1, 3, 4, 5, 6, 7, 2] rfl
  have hD := hD.sub (ws' := (sd_LW cA h0 a0 cL cZ h1 a1 a2 a3 a4 cO q0 n2 w2 k sh ke go ou2)) [0, 1, 3, 4, 5, 6, 7, 2] (by decide) rfl
  have hP : va_P (dC, dI) vwCl [(h0, .inr (0, [.ref a0, .int (nI n2), .int (nI (sd_sum w2 n2))])), (a0, .inl (cA, 8, .inl (fun i => nI (w2 i)))), (h1, .inr (1, [.int (nI k), .int (nI n2), .ref a1, .ref a2, .ref a3, .ref a4])), (a1, .inl (cL, 8, .inr (.inl (fun z => lN (w2 z))))), (a2, .inl (cL, 8, .inr (.inl sh))), (a3, .inl (cL, 8, .inr (.inl ke))), (a4, .inl (cZ, 8, .inl go)), (q0, .inl (cO, 1, .inr (.inl ou2)))] H := hP
  have hD : va_D A [(h0, .inr (0, [.ref a0, .int (nI n2), .int (nI (sd_sum w2 n2))])), (a0, .inl (cA, 8, .inl (fun i => nI (w2 i)))), (h1, .inr (1, [.int (nI k), .int (nI n2), .ref a1, .ref a2, .ref a3, .ref a4])), (a1, .inl (cL, 8, .inr (.inl (fun z => lN (w2 z))))), (a2, .inl (cL, 8, .inr (.inl sh))), (a3, .inl (cL, 8, .inr (.inl ke))), (a4, .inl (cZ, 8, .inl go)), (q0, .inl (cO, 1, .inr (.inl ou2)))] := hD
  refine lv_istore hx hb dL_law_151 hl (by decide) rfl (fun ls hl => ?_)
  have hl : lv_has ls 8 [(6, .int r_), (5, .int (nI k)), (0, .ref b), (1, .ref h0), (2, .ref h1), (3, .ref q0), (4, .int (nI i))] := hl
  refine lv_aload_n hx hb dL_law_153 rfl (lv_at hl 4 rfl) ?_
  have hPm := hP.sub (ws' := (sd_M cL cZ h1 a1 a2 a3 a4 k n2 w2 sh ke go)) [2, 3, 4, 5, 6] rfl
  refine sd_calli (va_runV (As := []) (rest := []) ⟨hx, hb, hml, hown, hts0⟩ (m_thrown l dC dI cL cZ h1 a1 a2 a3 a4 k n2 w2 sh ke go) (cwV 0 hts0 (sd_gV k_methodLink_L_49 k_instanceMethod_X1_thrown k_sel_X1_thrown k_init_ShareDeskModel k_code_X1_thrown) rfl rfl rfl (by decide +kernel) ⟨Nat.le_of_ble_eq_true rfl, Nat.le_of_ble_eq_true rfl⟩) (sd_preV hKm hPm (q0 := 0) (ci := 1) rfl rfl) rfl rfl hl.1 rfl (lv_room (Nat.le_of_ble_eq_true rfl)) dL_law_154 ⟨hcl, hsl⟩) ?_
  refine lv_iload hx hb dL_law_157 (lv_at hl 1 rfl) ?_
  refine sd_ic_eq (a := k) (b := k) (tgt := 164) hx hb dL_law_159 (by decide) (by omega) (by omega) (fun h => ?_) (fun h => ?_)
  · refine lv_iload hx hb dL_law_164 (lv_at hl 1 rfl) ?_
    refine sd_iz_ne (a := k) (tgt := 181) hx hb dL_law_166 (by decide) (by omega) (fun h => ?_) (fun h => ?_)
    · refine lv_goto (tgt := 547) hx hb dL_law_181 (by decide) ?_
      have hl := lv_sub (l' := [(0, .ref b), (1, .ref h0), (2, .ref h1), (3, .ref q0), (4, .int (nI i))]) hl [2, 3, 4, 5, 6] rfl
      exact kk H locs ls sh ke go hP hD hS hl
    · have hk0 := h
      refine lv_aload_n hx hb dL_law_169 rfl (lv_at hl 5 rfl) ?_
      refine lv_iconst (v := (nI 0)) hx hb dL_law_170 (by decide +kernel) ?_
      refine sd_lald (j := 0) (v := ou2 0) hx hb hK hP 7 3 rfl rfl (by decide) (by decide) rfl dL_law_171 ?_
      refine lv_iload hx hb dL_law_172 (lv_at hl 0 rfl) ?_
      refine lv_i2l (v := r_.toInt64) hx hb dL_law_174 rfl ?_
      refine sd_lif_eq (tgt := 181) hx hb dL_law_175 dL_law_176 (by decide) (fun h => ?_) (fun h => ?_)
      · refine lv_goto (tgt := 547) hx hb dL_law_181 (by decide) ?_
        have hl := lv_sub (l' := [(0, .ref b), (1, .ref h0), (2, .ref h1), (3, .ref q0), (4, .int (nI i))]) hl [2, 3, 4, 5, 6] rfl
        exact kk H locs ls sh ke go hP hD hS hl
      · exact absurd (hcmp hk0) h
  · exact absurd rfl h
set_option maxHeartbeats 4000000 in
set_option maxRecDepth 100000 in
theorem law_share {p : Program} {l : Launch} {e : Env} {s : State} {m : MethodId} {below : List Frame} {meth : Method} {c : Code} {Q : State → Prop} {b L : Nat} {xs : Nat → Int32} {dC : Nat → ClassId} {dI : Nat → Nat → Nat} {cA : ClassId} {h0 a0 : Nat} {cL cZ : ClassId} {h1 a1 a2 a3 a4 : Nat} {cO : ClassId} {q0 : Nat} {A : Nat → Prop} (hx : p.tables.exec = Jvm.exec) (hb : c.code = cL_law) (hml : c.maxLocals = 8) (hts0 : ∀ w ∈ (Cond.initialized RX0 :: sd_WS), w.before #[Value.ref b] s = true) (hown : s.vm.findClass RL = some m.cls) (hX : va_X b L xs s s.heap) (hbl : b < s.heap.size) (hbA : ¬ A b) (hA : ∀ q, s.heap.size ≤ q → A q) (hTH : sd_TH A s s.heap) (hK : va_K (dC, dI) vwCl [(cA, .int), (cL, .long), (cZ, .boolean), (cO, .long)] s) (hL : L ≤ 2048) (i : Nat) (hi : i + 4 ≤ L) (n : Nat) (w : Nat → Nat) (er : Nat) (sh ke : Nat → Int64) (go : Nat → Int32) (ou : Nat → Int64) (k n2 : Nat) (w2 : Nat → Nat) (ou2 : Nat → Int64) (vb : Int32) (hk : k ≤ 2) (hcmp : k = 0 → ou2 0 = vb.toInt64) 
    (hM1 : ∀ sz : Nat, Met l yL_share (sd_wsW yL_share cL_share 6 (some .int) [(0, 12, 15, 13), (0, 12, 19, 23)]) (sd_rm 8 1 6) (sd_PwT (dC, dI) vwCl [(cA, .int), (cO, .long)] (sd_OL cA h0 a0 n w cO q0 ou) sz [.ref h0, .int (xs (i + 1)), .int (xs (i + 2)), .int (xs (i + 3)), .ref q0]) (va_Qi (fun r (_ : Unit) => r = nI k) (sd_Bw (dC, dI) vwCl [(cA, .int), (cO, .long)] (sd_OL cA h0 a0 n w cO q0 ou) sz (fun _ => (sd_OL cA h0 a0 n2 w2 cO q0 ou2))) (va_A (sd_OL cA h0 a0 n w cO q0 ou) sz)) 1 6 (va_A (sd_OL cA h0 a0 n w cO q0 ou) sz))
    (hM2 : ∀ sz : Nat, Met l yX1_share (sd_ws yX1_share cX1_share 4 (some .int)) (sd_rm 3 0 0) (sd_Pw (dC, dI) vwCl [(cL, .long), (cZ, .boolean)] (sd_M cL cZ h1 a1 a2 a3 a4 er n w sh ke go) sz [.ref h1, .int (xs (i + 1)), .int (xs (i + 2)), .int (xs (i + 3))]) (va_Qi (fun r (_ : sd_S) => r = vb) (sd_Bw (dC, dI) vwCl [(cL, .long), (cZ, .boolean)] (sd_M cL cZ h1 a1 a2 a3 a4 er n w sh ke go) sz (fun v_ => (sd_M cL cZ h1 a1 a2 a3 a4 k n2 w2 v_.1 v_.2.1 v_.2.2))) (va_A (sd_M cL cZ h1 a1 a2 a3 a4 er n w sh ke go) sz)) 0 0 (va_A (sd_M cL cZ h1 a1 a2 a3 a4 er n w sh ke go) sz))
    {H : Heap} {locs : List Loc} {ls : Array Slot} {cells slots : Nat} (hcl : cells + 1 ≤ 1040) (hsl : slots + 6 ≤ 8290) (hP : va_P (dC, dI) vwCl (sd_LW cA h0 a0 cL cZ h1 a1 a2 a3 a4 cO q0 n w er sh ke go ou) H) (hD : va_D A (sd_LW cA h0 a0 cL cZ h1 a1 a2 a3 a4 cO q0 n w er sh ke go ou)) (hS : va_S A s.heap H locs) (hl : lv_has ls 8 [(0, .ref b), (1, .ref h0), (2, .ref h1), (3, .ref q0), (4, .int (nI i))])
    (kk : ∀ (H : Heap) (locs : List Loc) (ls : Array Slot) (sh ke : Nat → Int64) (go : Nat → Int32), va_P (dC, dI) vwCl (sd_LW cA h0 a0 cL cZ h1 a1 a2 a3 a4 cO q0 n2 w2 k sh ke go ou2) H → va_D A (sd_LW cA h0 a0 cL cZ h1 a1 a2 a3 a4 cO q0 n2 w2 k sh ke go ou2) → va_S A s.heap H locs → lv_has ls 8 [(0, .ref b), (1, .ref h0), (2, .ref h1), (3, .ref q0), (4, .int (nI i))] → W p l e room_1 s m #[Value.ref b] below meth c H locs (cells + 1) (slots + 6) Q (F0 m 547 ls [])) : W p l e room_1 s m #[Value.ref b] below meth c H locs cells slots Q (F0 m 184 ls []) := by
  have hts : ∀ w ∈ sd_WS, w.before #[Value.ref b] s = true := fun w h => hts0 w (List.mem_cons_of_mem _ h)
  have hP : va_P (dC, dI) vwCl [(h0, .inr (0, [.ref a0, .int (nI n), .int (nI (sd_sum w n))])), (a0, .inl (cA, 8, .inl (fun i => nI (w i)))), (h1, .inr (1, [.int (nI er), .int (nI n), .ref a1, .ref a2, .ref a3, .ref a4])), (a1, .inl (cL, 8, .inr (.inl (fun z => lN (w z))))), (a2, .inl (cL, 8, .inr (.inl sh))), (a3, .inl (cL, 8, .inr (.inl ke))), (a4, .inl (cZ, 8, .inl go)), (q0, .inl (cO, 1, .inr (.inl ou)))] H := hP
  have hD : va_D A [(h0, .inr (0, [.ref a0, .int (nI n), .int (nI (sd_sum w n))])), (a0, .inl (cA, 8, .inl (fun i => nI (w i)))), (h1, .inr (1, [.int (nI er), .int (nI n), .ref a1, .ref a2, .ref a3, .ref a4])), (a1, .inl (cL, 8, .inr (.inl (fun z => lN (w z))))), (a2, .inl (cL, 8, .inr (.inl sh))), (a3, .inl (cL, 8, .inr (.inl ke))), (a4, .inl (cZ, 8, .inl go)), (q0, .inl (cO, 1, .inr (.inl ou)))] := hD
  refine lv_aload_n hx hb dL_law_184 rfl (lv_at hl 1 rfl) ?_
  refine lv_aload_n hx hb dL_law_185 rfl (lv_at hl 0 rfl) ?_
  refine lv_iload hx hb dL_law_186 (lv_at hl 4 rfl) ?_
  refine lv_iconst (v := (nI 1)) hx hb dL_law_188 (by decide +kernel) ?_
  refine sd_iadd (v := nI (i + 1)) hx hb dL_law_189 (nI_add _ _) ?_
  refine sd_sld (j := i + 1) hx hb hX hbl hbA hS (by omega) (by omega) dL_law_190 ?_
  refine lv_aload_n hx hb dL_law_191 rfl (lv_at hl 0 rfl) ?_
  refine lv_iload hx hb dL_law_192 (lv_at hl 4 rfl) ?_
  refine lv_iconst (v := (nI 2)) hx hb dL_law_194 (by decide +kernel) ?_
  refine sd_iadd (v := nI (i + 2)) hx hb dL_law_195 (nI_add _ _) ?_
  refine sd_sld (j := i + 2) hx hb hX hbl hbA hS (by omega) (by omega) dL_law_196 ?_
  refine lv_aload_n hx hb dL_law_197 rfl (lv_at hl 0 rfl) ?_
  refine lv_iload hx hb dL_law_198 (lv_at hl 4 rfl) ?_
  refine lv_iconst (v := (nI 3)) hx hb dL_law_200 (by decide +kernel) ?_
  refine sd_iadd (v := nI (i + 3)) hx hb dL_law_201 (nI_add _ _) ?_
  refine sd_sld (j := i + 3) hx hb hX hbl hbA hS (by omega) (by omega) dL_law_202 ?_
  refine lv_aload_n hx hb dL_law_203 rfl (lv_at hl 3 rfl) ?_
  have hPc := hP.sub (ws' := (sd_OL cA h0 a0 n w cO q0 ou)) [0, 1, 7] rfl
  have hDc := hD.sub (ws' := (sd_OL cA h0 a0 n w cO q0 ou)) [0, 1, 7] (by decide) rfl
  have hKc := hK.sub (tys' := [(cA, .int), (cO, .long)]) [0, 3] rfl
  have hT9 : sd_TH (fun _ => False) s H := (hTH.kept hS.2.1).narrow (fun _ h => h.elim)
  refine sd_Ji (wc := (sd_OL cA h0 a0 n w cO q0 ou)) (wr := [(h1, .inr (1, [.int (nI er), .int (nI n), .ref a1, .ref a2, .ref a3, .ref a4])), (a1, .inl (cL, 8, .inr (.inl (fun z => lN (w z))))), (a2, .inl (cL, 8, .inr (.inl sh))), (a3, .inl (cL, 8, .inr (.inl ke))), (a4, .inl (cZ, 8, .inl go))]) (vx_runSW (As := [.ref h0, .int (xs (i + 1)), .int (xs (i + 2)), .int (xs (i + 3)), .ref q0]) (rest := []) ⟨hx, hb, hml, hown, hts0⟩ (hM1 H.size) (vx_cwSW 5 hts0 (sd_gSW k_methodLink_L_57 k_static_L_share k_init_ShareDeskLaw k_codeWith_L_share) rfl rfl rfl (by decide +kernel) ⟨Nat.le_of_ble_eq_true rfl, Nat.le_of_ble_eq_true rfl⟩) (sd_preSwT hKc hPc hDc hT9) rfl rfl hl.1 rfl (lv_room (Nat.le_of_ble_eq_true rfl)) dL_law_204 ⟨hcl, hsl⟩) hP hD hS hA [0, 1, 7] [2, 3, 4, 5, 6] rfl rfl (by decide) (by decide) (fun r_ u_ H locs hpo hP hD hS => ?_)
  subst hpo
  have hP := hP.sub (ws' := [(h0, .inr (0, [.ref a0, .int (nI n2), .int (nI (sd_sum w2 n2))])), (a0, .inl (cA, 8, .inl (fun i => nI (w2 i)))), (h1, .inr (1, [.int (nI er), .int (nI n), .ref a1, .ref a2, .ref a3, .ref a4])), (a1, .inl (cL, 8, .inr (.inl (fun z => lN (w z))))), (a2, .inl (cL, 8, .inr (.inl sh))), (a3, .inl (cL, 8, .inr (.inl ke))), (a4, .inl (cZ, 8, .inl go)), (q0, .inl (cO, 1, .inr (.inl ou2)))]) [5, 6, 0, 1, 2, 3, 4, 7] rfl
  have hD := hD.sub (ws' := [(h0, .inr (0, [.ref a0, .int (nI n2), .int (nI (sd_sum w2 n2))])), (a0, .inl (cA, 8, .inl (fun i => nI (w2 i)))), (h1, .inr (1, [.int (nI er), .int (nI n), .ref a1, .ref a2, .ref a3, .ref a4])), (a1, .inl (cL, 8, .inr (.inl (fun z => lN (w z))))), (a2, .inl (cL, 8, .inr (.inl sh))), (a3, .inl (cL, 8, .inr (.inl ke))), (a4, .inl (cZ, 8, .inl go)), (q0, .inl (cO, 1, .inr (.inl ou2)))]) [5, 6, 0, 1, 2, 3, 4, 7] (by decide) rfl
  refine lv_istore hx hb dL_law_207 hl (by decide) rfl (fun ls hl => ?_)
  have hl : lv_has ls 8 [(5, .int (nI k)), (0, .ref b), (1, .ref h0), (2, .ref h1), (3, .ref q0), (4, .int (nI i))] := hl
  refine lv_aload_n hx hb dL_law_209 rfl (lv_at hl 3 rfl) ?_
  refine lv_aload_n hx hb dL_law_210 rfl (lv_at hl 1 rfl) ?_
  refine lv_iload hx hb dL_law_211 (lv_at hl 5 rfl) ?_
  refine lv_iconst (v := (nI 1)) hx hb dL_law_213 (by decide +kernel) ?_
  refine sd_iadd (v := nI (i + 1)) hx hb dL_law_214 (nI_add _ _) ?_
  refine sd_sld (j := i + 1) hx hb hX hbl hbA hS (by omega) (by omega) dL_law_215 ?_
  refine lv_aload_n hx hb dL_law_216 rfl (lv_at hl 1 rfl) ?_
  refine lv_iload hx hb dL_law_217 (lv_at hl 5 rfl) ?_
  refine lv_iconst (v := (nI 2)) hx hb dL_law_219 (by decide +kernel) ?_
  refine sd_iadd (v := nI (i + 2)) hx hb dL_law_220 (nI_add _ _) ?_
  refine sd_sld (j := i + 2) hx hb hX hbl hbA hS (by omega) (by omega) dL_law_221 ?_
  refine lv_aload_n hx hb dL_law_222 rfl (lv_at hl 1 rfl) ?_
  refine lv_iload hx hb dL_law_223 (lv_at hl 5 rfl) ?_
  refine lv_iconst (v := (nI 3)) hx hb dL_law_225 (by decide +kernel) ?_
  refine sd_iadd (v := nI (i + 3)) hx hb dL_law_226 (nI_add _ _) ?_
  refine sd_sld (j := i + 3) hx hb hX hbl hbA hS (by omega) (by omega) dL_law_227 ?_
  have hPm := hP.sub (ws' := (sd_M cL cZ h1 a1 a2 a3 a4 er n w sh ke go)) [2, 3, 4, 5, 6] rfl
  have hDm := hD.sub (ws' := (sd_M cL cZ h1 a1 a2 a3 a4 er n w sh ke go)) [2, 3, 4, 5, 6] (by decide) rfl
  have hKm := hK.sub (tys' := [(cL, .long), (cZ, .boolean)]) [1, 2] rfl
  refine sd_Ji (wc := (sd_M cL cZ h1 a1 a2 a3 a4 er n w sh ke go)) (wr := [(h0, .inr (0, [.ref a0, .int (nI n2), .int (nI (sd_sum w2 n2))])), (a0, .inl (cA, 8, .inl (fun i => nI (w2 i)))), (q0, .inl (cO, 1, .inr (.inl ou2)))]) (va_runV (As := [.int (xs (i + 1)), .int (xs (i + 2)), .int (xs (i + 3))]) (rest := []) ⟨hx, hb, hml, hown, hts0⟩ (hM2 H.size) (cwV 3 hts0 (sd_gV k_methodLink_L_60 k_instanceMethod_X1_share k_sel_X1_share k_init_ShareDeskModel k_code_X1_share) rfl rfl rfl (by decide +kernel) ⟨Nat.le_of_ble_eq_true rfl, Nat.le_of_ble_eq_true rfl⟩) (sd_preVw hKm hPm hDm (q0 := 0) (ci := 1) rfl rfl) rfl rfl hl.1 rfl (lv_room (Nat.le_of_ble_eq_true rfl)) dL_law_228 ⟨hcl, hsl⟩) hP hD hS hA [2, 3, 4, 5, 6] [0, 1, 7] rfl rfl (by decide) (by decide) (fun r_ u_ H locs hpo hP hD hS => ?_)
  obtain ⟨sh, ke, go⟩ := u_
  subst hpo
  have hP := hP.sub (ws' := (sd_LW cA h0 a0 cL cZ h1 a1 a2 a3 a4 cO q0 n2 w2 k sh ke go ou2)) [0, 1, 3, 4, 5, 6, 7, 2] rfl
  have hD := hD.sub (ws' := (sd_LW cA h0 a0 cL cZ h1 a1 a2 a3 a4 cO q0 n2 w2 k sh ke go ou2)) [0, 1, 3, 4, 5, 6, 7, 2] (by decide) rfl
  have hP : va_P (dC, dI) vwCl [(h0, .inr (0, [.ref a0, .int (nI n2), .int (nI (sd_sum w2 n2))])), (a0, .inl (cA, 8, .inl (fun i => nI (w2 i)))), (h1, .inr (1, [.int (nI k), .int (nI n2), .ref a1, .ref a2, .ref a3, .ref a4])), (a1, .inl (cL, 8, .inr (.inl (fun z => lN (w2 z))))), (a2, .inl (cL, 8, .inr (.inl sh))), (a3, .inl (cL, 8, .inr (.inl ke))), (a4, .inl (cZ, 8, .inl go)), (q0, .inl (cO, 1, .inr (.inl ou2)))] H := hP
  have hD : va_D A [(h0, .inr (0, [.ref a0, .int (nI n2), .int (nI (sd_sum w2 n2))])), (a0, .inl (cA, 8, .inl (fun i => nI (w2 i)))), (h1, .inr (1, [.int (nI k), .int (nI n2), .ref a1, .ref a2, .ref a3, .ref a4])), (a1, .inl (cL, 8, .inr (.inl (fun z => lN (w2 z))))), (a2, .inl (cL, 8, .inr (.inl sh))), (a3, .inl (cL, 8, .inr (.inl ke))), (a4, .inl (cZ, 8, .inl go)), (q0, .inl (cO, 1, .inr (.inl ou2)))] := hD
  refine lv_istore hx hb dL_law_231 hl (by decide) rfl (fun ls hl => ?_)
  have hl : lv_has ls 8 [(6, .int r_), (5, .int (nI k)), (0, .ref b), (1, .ref h0), (2, .ref h1), (3, .ref q0), (4, .int (nI i))] := hl
  refine lv_aload_n hx hb dL_law_233 rfl (lv_at hl 4 rfl) ?_
  have hPm := hP.sub (ws' := (sd_M cL cZ h1 a1 a2 a3 a4 k n2 w2 sh ke go)) [2, 3, 4, 5, 6] rfl
  refine sd_calli (va_runV (As := []) (rest := []) ⟨hx, hb, hml, hown, hts0⟩ (m_thrown l dC dI cL cZ h1 a1 a2 a3 a4 k n2 w2 sh ke go) (cwV 0 hts0 (sd_gV k_methodLink_L_49 k_instanceMethod_X1_thrown k_sel_X1_thrown k_init_ShareDeskModel k_code_X1_thrown) rfl rfl rfl (by decide +kernel) ⟨Nat.le_of_ble_eq_true rfl, Nat.le_of_ble_eq_true rfl⟩) (sd_preV hKm hPm (q0 := 0) (ci := 1) rfl rfl) rfl rfl hl.1 rfl (lv_room (Nat.le_of_ble_eq_true rfl)) dL_law_234 ⟨hcl, hsl⟩) ?_
  refine lv_iload hx hb dL_law_237 (lv_at hl 1 rfl) ?_
  refine sd_ic_eq (a := k) (b := k) (tgt := 244) hx hb dL_law_239 (by decide) (by omega) (by omega) (fun h => ?_) (fun h => ?_)
  · refine lv_iload hx hb dL_law_244 (lv_at hl 1 rfl) ?_
    refine sd_iz_ne (a := k) (tgt := 261) hx hb dL_law_246 (by decide) (by omega) (fun h => ?_) (fun h => ?_)
    · refine lv_goto (tgt := 547) hx hb dL_law_261 (by decide) ?_
      have hl := lv_sub (l' := [(0, .ref b), (1, .ref h0), (2, .ref h1), (3, .ref q0), (4, .int (nI i))]) hl [2, 3, 4, 5, 6] rfl
      exact kk H locs ls sh ke go hP hD hS hl
    · have hk0 := h
      refine lv_aload_n hx hb dL_law_249 rfl (lv_at hl 5 rfl) ?_
      refine lv_iconst (v := (nI 0)) hx hb dL_law_250 (by decide +kernel) ?_
      refine sd_lald (j := 0) (v := ou2 0) hx hb hK hP 7 3 rfl rfl (by decide) (by decide) rfl dL_law_251 ?_
      refine lv_iload hx hb dL_law_252 (lv_at hl 0 rfl) ?_
      refine lv_i2l (v := r_.toInt64) hx hb dL_law_254 rfl ?_
      refine sd_lif_eq (tgt := 261) hx hb dL_law_255 dL_law_256 (by decide) (fun h => ?_) (fun h => ?_)
      · refine lv_goto (tgt := 547) hx hb dL_law_261 (by decide) ?_
        have hl := lv_sub (l' := [(0, .ref b), (1, .ref h0), (2, .ref h1), (3, .ref q0), (4, .int (nI i))]) hl [2, 3, 4, 5, 6] rfl
        exact kk H locs ls sh ke go hP hD hS hl
      · exact absurd (hcmp hk0) h
  · exact absurd rfl h
set_option maxHeartbeats 4000000 in
set_option maxRecDepth 100000 in
theorem law_over {p : Program} {l : Launch} {e : Env} {s : State} {m : MethodId} {below : List Frame} {meth : Method} {c : Code} {Q : State → Prop} {b L : Nat} {xs : Nat → Int32} {dC : Nat → ClassId} {dI : Nat → Nat → Nat} {cA : ClassId} {h0 a0 : Nat} {cL cZ : ClassId} {h1 a1 a2 a3 a4 : Nat} {cO : ClassId} {q0 : Nat} {A : Nat → Prop} (hx : p.tables.exec = Jvm.exec) (hb : c.code = cL_law) (hml : c.maxLocals = 8) (hts0 : ∀ w ∈ (Cond.initialized RX0 :: sd_WS), w.before #[Value.ref b] s = true) (hown : s.vm.findClass RL = some m.cls) (hX : va_X b L xs s s.heap) (hbl : b < s.heap.size) (hbA : ¬ A b) (hA : ∀ q, s.heap.size ≤ q → A q) (hTH : sd_TH A s s.heap) (hK : va_K (dC, dI) vwCl [(cA, .int), (cL, .long), (cZ, .boolean), (cO, .long)] s) (hL : L ≤ 2048) (i : Nat) (hi : i + 4 ≤ L) (n : Nat) (w : Nat → Nat) (er : Nat) (sh ke : Nat → Int64) (go : Nat → Int32) (ou : Nat → Int64) (k n2 : Nat) (w2 : Nat → Nat) (ou2 : Nat → Int64) (vb : Int64) (hk : k ≤ 2) (hcmp : k = 0 → ou2 0 = vb) 
    (hM1 : ∀ sz : Nat, Met l yL_over (sd_wsW yL_over cL_over 6 (some .int) [(0, 11, 14, 13), (0, 11, 18, 23)]) (sd_rm 8 1 6) (sd_PwT (dC, dI) vwCl [(cA, .int), (cO, .long)] (sd_OL cA h0 a0 n w cO q0 ou) sz [.ref h0, .int (xs (i + 1)), .int (xs (i + 2)), .int (xs (i + 3)), .ref q0]) (va_Qi (fun r (_ : Unit) => r = nI k) (sd_Bw (dC, dI) vwCl [(cA, .int), (cO, .long)] (sd_OL cA h0 a0 n w cO q0 ou) sz (fun _ => (sd_OL cA h0 a0 n2 w2 cO q0 ou2))) (va_A (sd_OL cA h0 a0 n w cO q0 ou) sz)) 1 6 (va_A (sd_OL cA h0 a0 n w cO q0 ou) sz))
    (hM2 : ∀ sz : Nat, Met l yX1_over (sd_ws yX1_over cX1_over 4 (some .long)) (sd_rm 3 0 0) (sd_Pw (dC, dI) vwCl [(cL, .long), (cZ, .boolean)] (sd_M cL cZ h1 a1 a2 a3 a4 er n w sh ke go) sz [.ref h1, .int (xs (i + 1)), .int (xs (i + 2)), .int (xs (i + 3))]) (va_Ql (fun r (_ : sd_S) => r = vb) (sd_Bw (dC, dI) vwCl [(cL, .long), (cZ, .boolean)] (sd_M cL cZ h1 a1 a2 a3 a4 er n w sh ke go) sz (fun v_ => (sd_M cL cZ h1 a1 a2 a3 a4 k n2 w2 v_.1 v_.2.1 v_.2.2))) (va_A (sd_M cL cZ h1 a1 a2 a3 a4 er n w sh ke go) sz)) 0 0 (va_A (sd_M cL cZ h1 a1 a2 a3 a4 er n w sh ke go) sz))
    {H : Heap} {locs : List Loc} {ls : Array Slot} {cells slots : Nat} (hcl : cells + 1 ≤ 1040) (hsl : slots + 6 ≤ 8290) (hP : va_P (dC, dI) vwCl (sd_LW cA h0 a0 cL cZ h1 a1 a2 a3 a4 cO q0 n w er sh ke go ou) H) (hD : va_D A (sd_LW cA h0 a0 cL cZ h1 a1 a2 a3 a4 cO q0 n w er sh ke go ou)) (hS : va_S A s.heap H locs) (hl : lv_has ls 8 [(0, .ref b), (1, .ref h0), (2, .ref h1), (3, .ref q0), (4, .int (nI i))])
    (kk : ∀ (H : Heap) (locs : List Loc) (ls : Array Slot) (sh ke : Nat → Int64) (go : Nat → Int32), va_P (dC, dI) vwCl (sd_LW cA h0 a0 cL cZ h1 a1 a2 a3 a4 cO q0 n2 w2 k sh ke go ou2) H → va_D A (sd_LW cA h0 a0 cL cZ h1 a1 a2 a3 a4 cO q0 n2 w2 k sh ke go ou2) → va_S A s.heap H locs → lv_has ls 8 [(0, .ref b), (1, .ref h0), (2, .ref h1), (3, .ref q0), (4, .int (nI i))] → W p l e room_1 s m #[Value.ref b] below meth c H locs (cells + 1) (slots + 6) Q (F0 m 547 ls [])) : W p l e room_1 s m #[Value.ref b] below meth c H locs cells slots Q (F0 m 264 ls []) := by
  have hts : ∀ w ∈ sd_WS, w.before #[Value.ref b] s = true := fun w h => hts0 w (List.mem_cons_of_mem _ h)
  have hP : va_P (dC, dI) vwCl [(h0, .inr (0, [.ref a0, .int (nI n), .int (nI (sd_sum w n))])), (a0, .inl (cA, 8, .inl (fun i => nI (w i)))), (h1, .inr (1, [.int (nI er), .int (nI n), .ref a1, .ref a2, .ref a3, .ref a4])), (a1, .inl (cL, 8, .inr (.inl (fun z => lN (w z))))), (a2, .inl (cL, 8, .inr (.inl sh))), (a3, .inl (cL, 8, .inr (.inl ke))), (a4, .inl (cZ, 8, .inl go)), (q0, .inl (cO, 1, .inr (.inl ou)))] H := hP
  have hD : va_D A [(h0, .inr (0, [.ref a0, .int (nI n), .int (nI (sd_sum w n))])), (a0, .inl (cA, 8, .inl (fun i => nI (w i)))), (h1, .inr (1, [.int (nI er), .int (nI n), .ref a1, .ref a2, .ref a3, .ref a4])), (a1, .inl (cL, 8, .inr (.inl (fun z => lN (w z))))), (a2, .inl (cL, 8, .inr (.inl sh))), (a3, .inl (cL, 8, .inr (.inl ke))), (a4, .inl (cZ, 8, .inl go)), (q0, .inl (cO, 1, .inr (.inl ou)))] := hD
  refine lv_aload_n hx hb dL_law_264 rfl (lv_at hl 1 rfl) ?_
  refine lv_aload_n hx hb dL_law_265 rfl (lv_at hl 0 rfl) ?_
  refine lv_iload hx hb dL_law_266 (lv_at hl 4 rfl) ?_
  refine lv_iconst (v := (nI 1)) hx hb dL_law_268 (by decide +kernel) ?_
  refine sd_iadd (v := nI (i + 1)) hx hb dL_law_269 (nI_add _ _) ?_
  refine sd_sld (j := i + 1) hx hb hX hbl hbA hS (by omega) (by omega) dL_law_270 ?_
  refine lv_aload_n hx hb dL_law_271 rfl (lv_at hl 0 rfl) ?_
  refine lv_iload hx hb dL_law_272 (lv_at hl 4 rfl) ?_
  refine lv_iconst (v := (nI 2)) hx hb dL_law_274 (by decide +kernel) ?_
  refine sd_iadd (v := nI (i + 2)) hx hb dL_law_275 (nI_add _ _) ?_
  refine sd_sld (j := i + 2) hx hb hX hbl hbA hS (by omega) (by omega) dL_law_276 ?_
  refine lv_aload_n hx hb dL_law_277 rfl (lv_at hl 0 rfl) ?_
  refine lv_iload hx hb dL_law_278 (lv_at hl 4 rfl) ?_
  refine lv_iconst (v := (nI 3)) hx hb dL_law_280 (by decide +kernel) ?_
  refine sd_iadd (v := nI (i + 3)) hx hb dL_law_281 (nI_add _ _) ?_
  refine sd_sld (j := i + 3) hx hb hX hbl hbA hS (by omega) (by omega) dL_law_282 ?_
  refine lv_aload_n hx hb dL_law_283 rfl (lv_at hl 3 rfl) ?_
  have hPc := hP.sub (ws' := (sd_OL cA h0 a0 n w cO q0 ou)) [0, 1, 7] rfl
  have hDc := hD.sub (ws' := (sd_OL cA h0 a0 n w cO q0 ou)) [0, 1, 7] (by decide) rfl
  have hKc := hK.sub (tys' := [(cA, .int), (cO, .long)]) [0, 3] rfl
  have hT9 : sd_TH (fun _ => False) s H := (hTH.kept hS.2.1).narrow (fun _ h => h.elim)
  refine sd_Ji (wc := (sd_OL cA h0 a0 n w cO q0 ou)) (wr := [(h1, .inr (1, [.int (nI er), .int (nI n), .ref a1, .ref a2, .ref a3, .ref a4])), (a1, .inl (cL, 8, .inr (.inl (fun z => lN (w z))))), (a2, .inl (cL, 8, .inr (.inl sh))), (a3, .inl (cL, 8, .inr (.inl ke))), (a4, .inl (cZ, 8, .inl go))]) (vx_runSW (As := [.ref h0, .int (xs (i + 1)), .int (xs (i + 2)), .int (xs (i + 3)), .ref q0]) (rest := []) ⟨hx, hb, hml, hown, hts0⟩ (hM1 H.size) (vx_cwSW 5 hts0 (sd_gSW k_methodLink_L_61 k_static_L_over k_init_ShareDeskLaw k_codeWith_L_over) rfl rfl rfl (by decide +kernel) ⟨Nat.le_of_ble_eq_true rfl, Nat.le_of_ble_eq_true rfl⟩) (sd_preSwT hKc hPc hDc hT9) rfl rfl hl.1 rfl (lv_room (Nat.le_of_ble_eq_true rfl)) dL_law_284 ⟨hcl, hsl⟩) hP hD hS hA [0, 1, 7] [2, 3, 4, 5, 6] rfl rfl (by decide) (by decide) (fun r_ u_ H locs hpo hP hD hS => ?_)
  subst hpo
  have hP := hP.sub (ws' := [(h0, .inr (0, [.ref a0, .int (nI n2), .int (nI (sd_sum w2 n2))])), (a0, .inl (cA, 8, .inl (fun i => nI (w2 i)))), (h1, .inr (1, [.int (nI er), .int (nI n), .ref a1, .ref a2, .ref a3, .ref a4])), (a1, .inl (cL, 8, .inr (.inl (fun z => lN (w z))))), (a2, .inl (cL, 8, .inr (.inl sh))), (a3, .inl (cL, 8, .inr (.inl ke))), (a4, .inl (cZ, 8, .inl go)), (q0, .inl (cO, 1, .inr (.inl ou2)))]) [5, 6, 0, 1, 2, 3, 4, 7] rfl
  have hD := hD.sub (ws' := [(h0, .inr (0, [.ref a0, .int (nI n2), .int (nI (sd_sum w2 n2))])), (a0, .inl (cA, 8, .inl (fun i => nI (w2 i)))), (h1, .inr (1, [.int (nI er), .int (nI n), .ref a1, .ref a2, .ref a3, .ref a4])), (a1, .inl (cL, 8, .inr (.inl (fun z => lN (w z))))), (a2, .inl (cL, 8, .inr (.inl sh))), (a3, .inl (cL, 8, .inr (.inl ke))), (a4, .inl (cZ, 8, .inl go)), (q0, .inl (cO, 1, .inr (.inl ou2)))]) [5, 6, 0, 1, 2, 3, 4, 7] (by decide) rfl
  refine lv_istore hx hb dL_law_287 hl (by decide) rfl (fun ls hl => ?_)
  have hl : lv_has ls 8 [(5, .int (nI k)), (0, .ref b), (1, .ref h0), (2, .ref h1), (3, .ref q0), (4, .int (nI i))] := hl
  refine lv_aload_n hx hb dL_law_289 rfl (lv_at hl 3 rfl) ?_
  refine lv_aload_n hx hb dL_law_290 rfl (lv_at hl 1 rfl) ?_
  refine lv_iload hx hb dL_law_291 (lv_at hl 5 rfl) ?_
  refine lv_iconst (v := (nI 1)) hx hb dL_law_293 (by decide +kernel) ?_
  refine sd_iadd (v := nI (i + 1)) hx hb dL_law_294 (nI_add _ _) ?_
  refine sd_sld (j := i + 1) hx hb hX hbl hbA hS (by omega) (by omega) dL_law_295 ?_
  refine lv_aload_n hx hb dL_law_296 rfl (lv_at hl 1 rfl) ?_
  refine lv_iload hx hb dL_law_297 (lv_at hl 5 rfl) ?_
  refine lv_iconst (v := (nI 2)) hx hb dL_law_299 (by decide +kernel) ?_
  refine sd_iadd (v := nI (i + 2)) hx hb dL_law_300 (nI_add _ _) ?_
  refine sd_sld (j := i + 2) hx hb hX hbl hbA hS (by omega) (by omega) dL_law_301 ?_
  refine lv_aload_n hx hb dL_law_302 rfl (lv_at hl 1 rfl) ?_
  refine lv_iload hx hb dL_law_303 (lv_at hl 5 rfl) ?_
  refine lv_iconst (v := (nI 3)) hx hb dL_law_305 (by decide +kernel) ?_
  refine sd_iadd (v := nI (i + 3)) hx hb dL_law_306 (nI_add _ _) ?_
  refine sd_sld (j := i + 3) hx hb hX hbl hbA hS (by omega) (by omega) dL_law_307 ?_
  have hPm := hP.sub (ws' := (sd_M cL cZ h1 a1 a2 a3 a4 er n w sh ke go)) [2, 3, 4, 5, 6] rfl
  have hDm := hD.sub (ws' := (sd_M cL cZ h1 a1 a2 a3 a4 er n w sh ke go)) [2, 3, 4, 5, 6] (by decide) rfl
  have hKm := hK.sub (tys' := [(cL, .long), (cZ, .boolean)]) [1, 2] rfl
  refine sd_Jl (wc := (sd_M cL cZ h1 a1 a2 a3 a4 er n w sh ke go)) (wr := [(h0, .inr (0, [.ref a0, .int (nI n2), .int (nI (sd_sum w2 n2))])), (a0, .inl (cA, 8, .inl (fun i => nI (w2 i)))), (q0, .inl (cO, 1, .inr (.inl ou2)))]) (va_runV (As := [.int (xs (i + 1)), .int (xs (i + 2)), .int (xs (i + 3))]) (rest := []) ⟨hx, hb, hml, hown, hts0⟩ (hM2 H.size) (cwV 3 hts0 (sd_gV k_methodLink_L_63 k_instanceMethod_X1_over k_sel_X1_over k_init_ShareDeskModel k_code_X1_over) rfl rfl rfl (by decide +kernel) ⟨Nat.le_of_ble_eq_true rfl, Nat.le_of_ble_eq_true rfl⟩) (sd_preVw hKm hPm hDm (q0 := 0) (ci := 1) rfl rfl) rfl rfl hl.1 rfl (lv_room (Nat.le_of_ble_eq_true rfl)) dL_law_308 ⟨hcl, hsl⟩) hP hD hS hA [2, 3, 4, 5, 6] [0, 1, 7] rfl rfl (by decide) (by decide) (fun r_ u_ H locs hpo hP hD hS => ?_)
  obtain ⟨sh, ke, go⟩ := u_
  subst hpo
  have hP := hP.sub (ws' := (sd_LW cA h0 a0 cL cZ h1 a1 a2 a3 a4 cO q0 n2 w2 k sh ke go ou2)) [0, 1, 3, 4, 5, 6, 7, 2] rfl
  have hD := hD.sub (ws' := (sd_LW cA h0 a0 cL cZ h1 a1 a2 a3 a4 cO q0 n2 w2 k sh ke go ou2)) [0, 1, 3, 4, 5, 6, 7, 2] (by decide) rfl
  have hP : va_P (dC, dI) vwCl [(h0, .inr (0, [.ref a0, .int (nI n2), .int (nI (sd_sum w2 n2))])), (a0, .inl (cA, 8, .inl (fun i => nI (w2 i)))), (h1, .inr (1, [.int (nI k), .int (nI n2), .ref a1, .ref a2, .ref a3, .ref a4])), (a1, .inl (cL, 8, .inr (.inl (fun z => lN (w2 z))))), (a2, .inl (cL, 8, .inr (.inl sh))), (a3, .inl (cL, 8, .inr (.inl ke))), (a4, .inl (cZ, 8, .inl go)), (q0, .inl (cO, 1, .inr (.inl ou2)))] H := hP
  have hD : va_D A [(h0, .inr (0, [.ref a0, .int (nI n2), .int (nI (sd_sum w2 n2))])), (a0, .inl (cA, 8, .inl (fun i => nI (w2 i)))), (h1, .inr (1, [.int (nI k), .int (nI n2), .ref a1, .ref a2, .ref a3, .ref a4])), (a1, .inl (cL, 8, .inr (.inl (fun z => lN (w2 z))))), (a2, .inl (cL, 8, .inr (.inl sh))), (a3, .inl (cL, 8, .inr (.inl ke))), (a4, .inl (cZ, 8, .inl go)), (q0, .inl (cO, 1, .inr (.inl ou2)))] := hD
  refine lv_lstore hx hb dL_law_311 hl (by decide) rfl (fun ls hl => ?_)
  have hl : lv_has ls 8 [(6, .long r_), (5, .int (nI k)), (0, .ref b), (1, .ref h0), (2, .ref h1), (3, .ref q0), (4, .int (nI i))] := hl
  refine lv_aload_n hx hb dL_law_313 rfl (lv_at hl 4 rfl) ?_
  have hPm := hP.sub (ws' := (sd_M cL cZ h1 a1 a2 a3 a4 k n2 w2 sh ke go)) [2, 3, 4, 5, 6] rfl
  refine sd_calli (va_runV (As := []) (rest := []) ⟨hx, hb, hml, hown, hts0⟩ (m_thrown l dC dI cL cZ h1 a1 a2 a3 a4 k n2 w2 sh ke go) (cwV 0 hts0 (sd_gV k_methodLink_L_49 k_instanceMethod_X1_thrown k_sel_X1_thrown k_init_ShareDeskModel k_code_X1_thrown) rfl rfl rfl (by decide +kernel) ⟨Nat.le_of_ble_eq_true rfl, Nat.le_of_ble_eq_true rfl⟩) (sd_preV hKm hPm (q0 := 0) (ci := 1) rfl rfl) rfl rfl hl.1 rfl (lv_room (Nat.le_of_ble_eq_true rfl)) dL_law_314 ⟨hcl, hsl⟩) ?_
  refine lv_iload hx hb dL_law_317 (lv_at hl 1 rfl) ?_
  refine sd_ic_eq (a := k) (b := k) (tgt := 324) hx hb dL_law_319 (by decide) (by omega) (by omega) (fun h => ?_) (fun h => ?_)
  · refine lv_iload hx hb dL_law_324 (lv_at hl 1 rfl) ?_
    refine sd_iz_ne (a := k) (tgt := 340) hx hb dL_law_326 (by decide) (by omega) (fun h => ?_) (fun h => ?_)
    · refine lv_goto (tgt := 547) hx hb dL_law_340 (by decide) ?_
      have hl := lv_sub (l' := [(0, .ref b), (1, .ref h0), (2, .ref h1), (3, .ref q0), (4, .int (nI i))]) hl [2, 3, 4, 5, 6] rfl
      exact kk H locs ls sh ke go hP hD hS hl
    · have hk0 := h
      refine lv_aload_n hx hb dL_law_329 rfl (lv_at hl 5 rfl) ?_
      refine lv_iconst (v := (nI 0)) hx hb dL_law_330 (by decide +kernel) ?_
      refine sd_lald (j := 0) (v := ou2 0) hx hb hK hP 7 3 rfl rfl (by decide) (by decide) rfl dL_law_331 ?_
      refine lv_lload hx hb dL_law_332 (lv_at hl 0 rfl) ?_
      refine sd_lif_eq (tgt := 340) hx hb dL_law_334 dL_law_335 (by decide) (fun h => ?_) (fun h => ?_)
      · refine lv_goto (tgt := 547) hx hb dL_law_340 (by decide) ?_
        have hl := lv_sub (l' := [(0, .ref b), (1, .ref h0), (2, .ref h1), (3, .ref q0), (4, .int (nI i))]) hl [2, 3, 4, 5, 6] rfl
        exact kk H locs ls sh ke go hP hD hS hl
      · exact absurd (hcmp hk0) h
  · exact absurd rfl h
set_option maxHeartbeats 4000000 in
set_option maxRecDepth 100000 in
theorem law_next {p : Program} {l : Launch} {e : Env} {s : State} {m : MethodId} {below : List Frame} {meth : Method} {c : Code} {Q : State → Prop} {b L : Nat} {xs : Nat → Int32} {dC : Nat → ClassId} {dI : Nat → Nat → Nat} {cA : ClassId} {h0 a0 : Nat} {cL cZ : ClassId} {h1 a1 a2 a3 a4 : Nat} {cO : ClassId} {q0 : Nat} {A : Nat → Prop} (hx : p.tables.exec = Jvm.exec) (hb : c.code = cL_law) (hml : c.maxLocals = 8) (hts0 : ∀ w ∈ (Cond.initialized RX0 :: sd_WS), w.before #[Value.ref b] s = true) (hown : s.vm.findClass RL = some m.cls) (hX : va_X b L xs s s.heap) (hbl : b < s.heap.size) (hbA : ¬ A b) (hA : ∀ q, s.heap.size ≤ q → A q) (hTH : sd_TH A s s.heap) (hK : va_K (dC, dI) vwCl [(cA, .int), (cL, .long), (cZ, .boolean), (cO, .long)] s) (hL : L ≤ 2048) (i : Nat) (hi : i + 4 ≤ L) (n : Nat) (w : Nat → Nat) (er : Nat) (sh ke : Nat → Int64) (go : Nat → Int32) (ou : Nat → Int64) (k n2 : Nat) (w2 : Nat → Nat) (ou2 : Nat → Int64) (vb : Int32) (hk : k ≤ 2) (hcmp : k = 0 → ou2 0 = vb.toInt64) 
    (hM1 : ∀ sz : Nat, Met l yL_next (sd_wsW yL_next cL_next 5 (some .int) [(0, 10, 13, 13), (0, 10, 17, 23)]) (sd_rm 8 1 6) (sd_PwT (dC, dI) vwCl [(cA, .int), (cO, .long)] (sd_OL cA h0 a0 n w cO q0 ou) sz [.ref h0, .int (xs (i + 1)), .int (xs (i + 2)), .ref q0]) (va_Qi (fun r (_ : Unit) => r = nI k) (sd_Bw (dC, dI) vwCl [(cA, .int), (cO, .long)] (sd_OL cA h0 a0 n w cO q0 ou) sz (fun _ => (sd_OL cA h0 a0 n2 w2 cO q0 ou2))) (va_A (sd_OL cA h0 a0 n w cO q0 ou) sz)) 1 6 (va_A (sd_OL cA h0 a0 n w cO q0 ou) sz))
    (hM2 : ∀ sz : Nat, Met l yX1_next (sd_ws yX1_next cX1_next 5 (some .int)) (sd_rm 3 0 0) (sd_Pw (dC, dI) vwCl [(cL, .long), (cZ, .boolean)] (sd_M cL cZ h1 a1 a2 a3 a4 er n w sh ke go) sz [.ref h1, .int (xs (i + 1)), .int (xs (i + 2))]) (va_Qi (fun r (_ : sd_S) => r = vb) (sd_Bw (dC, dI) vwCl [(cL, .long), (cZ, .boolean)] (sd_M cL cZ h1 a1 a2 a3 a4 er n w sh ke go) sz (fun v_ => (sd_M cL cZ h1 a1 a2 a3 a4 k n2 w2 v_.1 v_.2.1 v_.2.2))) (va_A (sd_M cL cZ h1 a1 a2 a3 a4 er n w sh ke go) sz)) 0 0 (va_A (sd_M cL cZ h1 a1 a2 a3 a4 er n w sh ke go) sz))
    {H : Heap} {locs : List Loc} {ls : Array Slot} {cells slots : Nat} (hcl : cells + 1 ≤ 1040) (hsl : slots + 6 ≤ 8290) (hP : va_P (dC, dI) vwCl (sd_LW cA h0 a0 cL cZ h1 a1 a2 a3 a4 cO q0 n w er sh ke go ou) H) (hD : va_D A (sd_LW cA h0 a0 cL cZ h1 a1 a2 a3 a4 cO q0 n w er sh ke go ou)) (hS : va_S A s.heap H locs) (hl : lv_has ls 8 [(0, .ref b), (1, .ref h0), (2, .ref h1), (3, .ref q0), (4, .int (nI i))])
    (kk : ∀ (H : Heap) (locs : List Loc) (ls : Array Slot) (sh ke : Nat → Int64) (go : Nat → Int32), va_P (dC, dI) vwCl (sd_LW cA h0 a0 cL cZ h1 a1 a2 a3 a4 cO q0 n2 w2 k sh ke go ou2) H → va_D A (sd_LW cA h0 a0 cL cZ h1 a1 a2 a3 a4 cO q0 n2 w2 k sh ke go ou2) → va_S A s.heap H locs → lv_has ls 8 [(0, .ref b), (1, .ref h0), (2, .ref h1), (3, .ref q0), (4, .int (nI i))] → W p l e room_1 s m #[Value.ref b] below meth c H locs (cells + 1) (slots + 6) Q (F0 m 547 ls [])) : W p l e room_1 s m #[Value.ref b] below meth c H locs cells slots Q (F0 m 343 ls []) := by
  have hts : ∀ w ∈ sd_WS, w.before #[Value.ref b] s = true := fun w h => hts0 w (List.mem_cons_of_mem _ h)
  have hP : va_P (dC, dI) vwCl [(h0, .inr (0, [.ref a0, .int (nI n), .int (nI (sd_sum w n))])), (a0, .inl (cA, 8, .inl (fun i => nI (w i)))), (h1, .inr (1, [.int (nI er), .int (nI n), .ref a1, .ref a2, .ref a3, .ref a4])), (a1, .inl (cL, 8, .inr (.inl (fun z => lN (w z))))), (a2, .inl (cL, 8, .inr (.inl sh))), (a3, .inl (cL, 8, .inr (.inl ke))), (a4, .inl (cZ, 8, .inl go)), (q0, .inl (cO, 1, .inr (.inl ou)))] H := hP
  have hD : va_D A [(h0, .inr (0, [.ref a0, .int (nI n), .int (nI (sd_sum w n))])), (a0, .inl (cA, 8, .inl (fun i => nI (w i)))), (h1, .inr (1, [.int (nI er), .int (nI n), .ref a1, .ref a2, .ref a3, .ref a4])), (a1, .inl (cL, 8, .inr (.inl (fun z => lN (w z))))), (a2, .inl (cL, 8, .inr (.inl sh))), (a3, .inl (cL, 8, .inr (.inl ke))), (a4, .inl (cZ, 8, .inl go)), (q0, .inl (cO, 1, .inr (.inl ou)))] := hD
  refine lv_aload_n hx hb dL_law_343 rfl (lv_at hl 1 rfl) ?_
  refine lv_aload_n hx hb dL_law_344 rfl (lv_at hl 0 rfl) ?_
  refine lv_iload hx hb dL_law_345 (lv_at hl 4 rfl) ?_
  refine lv_iconst (v := (nI 1)) hx hb dL_law_347 (by decide +kernel) ?_
  refine sd_iadd (v := nI (i + 1)) hx hb dL_law_348 (nI_add _ _) ?_
  refine sd_sld (j := i + 1) hx hb hX hbl hbA hS (by omega) (by omega) dL_law_349 ?_
  refine lv_aload_n hx hb dL_law_350 rfl (lv_at hl 0 rfl) ?_
  refine lv_iload hx hb dL_law_351 (lv_at hl 4 rfl) ?_
  refine lv_iconst (v := (nI 2)) hx hb dL_law_353 (by decide +kernel) ?_
  refine sd_iadd (v := nI (i + 2)) hx hb dL_law_354 (nI_add _ _) ?_
  refine sd_sld (j := i + 2) hx hb hX hbl hbA hS (by omega) (by omega) dL_law_355 ?_
  refine lv_aload_n hx hb dL_law_356 rfl (lv_at hl 3 rfl) ?_
  have hPc := hP.sub (ws' := (sd_OL cA h0 a0 n w cO q0 ou)) [0, 1, 7] rfl
  have hDc := hD.sub (ws' := (sd_OL cA h0 a0 n w cO q0 ou)) [0, 1, 7] (by decide) rfl
  have hKc := hK.sub (tys' := [(cA, .int), (cO, .long)]) [0, 3] rfl
  have hT9 : sd_TH (fun _ => False) s H := (hTH.kept hS.2.1).narrow (fun _ h => h.elim)
  refine sd_Ji (wc := (sd_OL cA h0 a0 n w cO q0 ou)) (wr := [(h1, .inr (1, [.int (nI er), .int (nI n), .ref a1, .ref a2, .ref a3, .ref a4])), (a1, .inl (cL, 8, .inr (.inl (fun z => lN (w z))))), (a2, .inl (cL, 8, .inr (.inl sh))), (a3, .inl (cL, 8, .inr (.inl ke))), (a4, .inl (cZ, 8, .inl go))]) (vx_runSW (As := [.ref h0, .int (xs (i + 1)), .int (xs (i + 2)), .ref q0]) (rest := []) ⟨hx, hb, hml, hown, hts0⟩ (hM1 H.size) (vx_cwSW 4 hts0 (sd_gSW k_methodLink_L_64 k_static_L_next k_init_ShareDeskLaw k_codeWith_L_next) rfl rfl rfl (by decide +kernel) ⟨Nat.le_of_ble_eq_true rfl, Nat.le_of_ble_eq_true rfl⟩) (sd_preSwT hKc hPc hDc hT9) rfl rfl hl.1 rfl (lv_room (Nat.le_of_ble_eq_true rfl)) dL_law_357 ⟨hcl, hsl⟩) hP hD hS hA [0, 1, 7] [2, 3, 4, 5, 6] rfl rfl (by decide) (by decide) (fun r_ u_ H locs hpo hP hD hS => ?_)
  subst hpo
  have hP := hP.sub (ws' := [(h0, .inr (0, [.ref a0, .int (nI n2), .int (nI (sd_sum w2 n2))])), (a0, .inl (cA, 8, .inl (fun i => nI (w2 i)))), (h1, .inr (1, [.int (nI er), .int (nI n), .ref a1, .ref a2, .ref a3, .ref a4])), (a1, .inl (cL, 8, .inr (.inl (fun z => lN (w z))))), (a2, .inl (cL, 8, .inr (.inl sh))), (a3, .inl (cL, 8, .inr (.inl ke))), (a4, .inl (cZ, 8, .inl go)), (q0, .inl (cO, 1, .inr (.inl ou2)))]) [5, 6, 0, 1, 2, 3, 4, 7] rfl
  have hD := hD.sub (ws' := [(h0, .inr (0, [.ref a0, .int (nI n2), .int (nI (sd_sum w2 n2))])), (a0, .inl (cA, 8, .inl (fun i => nI (w2 i)))), (h1, .inr (1, [.int (nI er), .int (nI n), .ref a1, .ref a2, .ref a3, .ref a4])), (a1, .inl (cL, 8, .inr (.inl (fun z => lN (w z))))), (a2, .inl (cL, 8, .inr (.inl sh))), (a3, .inl (cL, 8, .inr (.inl ke))), (a4, .inl (cZ, 8, .inl go)), (q0, .inl (cO, 1, .inr (.inl ou2)))]) [5, 6, 0, 1, 2, 3, 4, 7] (by decide) rfl
  refine lv_istore hx hb dL_law_360 hl (by decide) rfl (fun ls hl => ?_)
  have hl : lv_has ls 8 [(5, .int (nI k)), (0, .ref b), (1, .ref h0), (2, .ref h1), (3, .ref q0), (4, .int (nI i))] := hl
  refine lv_aload_n hx hb dL_law_362 rfl (lv_at hl 3 rfl) ?_
  refine lv_aload_n hx hb dL_law_363 rfl (lv_at hl 1 rfl) ?_
  refine lv_iload hx hb dL_law_364 (lv_at hl 5 rfl) ?_
  refine lv_iconst (v := (nI 1)) hx hb dL_law_366 (by decide +kernel) ?_
  refine sd_iadd (v := nI (i + 1)) hx hb dL_law_367 (nI_add _ _) ?_
  refine sd_sld (j := i + 1) hx hb hX hbl hbA hS (by omega) (by omega) dL_law_368 ?_
  refine lv_aload_n hx hb dL_law_369 rfl (lv_at hl 1 rfl) ?_
  refine lv_iload hx hb dL_law_370 (lv_at hl 5 rfl) ?_
  refine lv_iconst (v := (nI 2)) hx hb dL_law_372 (by decide +kernel) ?_
  refine sd_iadd (v := nI (i + 2)) hx hb dL_law_373 (nI_add _ _) ?_
  refine sd_sld (j := i + 2) hx hb hX hbl hbA hS (by omega) (by omega) dL_law_374 ?_
  have hPm := hP.sub (ws' := (sd_M cL cZ h1 a1 a2 a3 a4 er n w sh ke go)) [2, 3, 4, 5, 6] rfl
  have hDm := hD.sub (ws' := (sd_M cL cZ h1 a1 a2 a3 a4 er n w sh ke go)) [2, 3, 4, 5, 6] (by decide) rfl
  have hKm := hK.sub (tys' := [(cL, .long), (cZ, .boolean)]) [1, 2] rfl
  refine sd_Ji (wc := (sd_M cL cZ h1 a1 a2 a3 a4 er n w sh ke go)) (wr := [(h0, .inr (0, [.ref a0, .int (nI n2), .int (nI (sd_sum w2 n2))])), (a0, .inl (cA, 8, .inl (fun i => nI (w2 i)))), (q0, .inl (cO, 1, .inr (.inl ou2)))]) (va_runV (As := [.int (xs (i + 1)), .int (xs (i + 2))]) (rest := []) ⟨hx, hb, hml, hown, hts0⟩ (hM2 H.size) (cwV 2 hts0 (sd_gV k_methodLink_L_66 k_instanceMethod_X1_next k_sel_X1_next k_init_ShareDeskModel k_code_X1_next) rfl rfl rfl (by decide +kernel) ⟨Nat.le_of_ble_eq_true rfl, Nat.le_of_ble_eq_true rfl⟩) (sd_preVw hKm hPm hDm (q0 := 0) (ci := 1) rfl rfl) rfl rfl hl.1 rfl (lv_room (Nat.le_of_ble_eq_true rfl)) dL_law_375 ⟨hcl, hsl⟩) hP hD hS hA [2, 3, 4, 5, 6] [0, 1, 7] rfl rfl (by decide) (by decide) (fun r_ u_ H locs hpo hP hD hS => ?_)
  obtain ⟨sh, ke, go⟩ := u_
  subst hpo
  have hP := hP.sub (ws' := (sd_LW cA h0 a0 cL cZ h1 a1 a2 a3 a4 cO q0 n2 w2 k sh ke go ou2)) [0, 1, 3, 4, 5, 6, 7, 2] rfl
  have hD := hD.sub (ws' := (sd_LW cA h0 a0 cL cZ h1 a1 a2 a3 a4 cO q0 n2 w2 k sh ke go ou2)) [0, 1, 3, 4, 5, 6, 7, 2] (by decide) rfl
  have hP : va_P (dC, dI) vwCl [(h0, .inr (0, [.ref a0, .int (nI n2), .int (nI (sd_sum w2 n2))])), (a0, .inl (cA, 8, .inl (fun i => nI (w2 i)))), (h1, .inr (1, [.int (nI k), .int (nI n2), .ref a1, .ref a2, .ref a3, .ref a4])), (a1, .inl (cL, 8, .inr (.inl (fun z => lN (w2 z))))), (a2, .inl (cL, 8, .inr (.inl sh))), (a3, .inl (cL, 8, .inr (.inl ke))), (a4, .inl (cZ, 8, .inl go)), (q0, .inl (cO, 1, .inr (.inl ou2)))] H := hP
  have hD : va_D A [(h0, .inr (0, [.ref a0, .int (nI n2), .int (nI (sd_sum w2 n2))])), (a0, .inl (cA, 8, .inl (fun i => nI (w2 i)))), (h1, .inr (1, [.int (nI k), .int (nI n2), .ref a1, .ref a2, .ref a3, .ref a4])), (a1, .inl (cL, 8, .inr (.inl (fun z => lN (w2 z))))), (a2, .inl (cL, 8, .inr (.inl sh))), (a3, .inl (cL, 8, .inr (.inl ke))), (a4, .inl (cZ, 8, .inl go)), (q0, .inl (cO, 1, .inr (.inl ou2)))] := hD
  refine lv_istore hx hb dL_law_378 hl (by decide) rfl (fun ls hl => ?_)
  have hl : lv_has ls 8 [(6, .int r_), (5, .int (nI k)), (0, .ref b), (1, .ref h0), (2, .ref h1), (3, .ref q0), (4, .int (nI i))] := hl
  refine lv_aload_n hx hb dL_law_380 rfl (lv_at hl 4 rfl) ?_
  have hPm := hP.sub (ws' := (sd_M cL cZ h1 a1 a2 a3 a4 k n2 w2 sh ke go)) [2, 3, 4, 5, 6] rfl
  refine sd_calli (va_runV (As := []) (rest := []) ⟨hx, hb, hml, hown, hts0⟩ (m_thrown l dC dI cL cZ h1 a1 a2 a3 a4 k n2 w2 sh ke go) (cwV 0 hts0 (sd_gV k_methodLink_L_49 k_instanceMethod_X1_thrown k_sel_X1_thrown k_init_ShareDeskModel k_code_X1_thrown) rfl rfl rfl (by decide +kernel) ⟨Nat.le_of_ble_eq_true rfl, Nat.le_of_ble_eq_true rfl⟩) (sd_preV hKm hPm (q0 := 0) (ci := 1) rfl rfl) rfl rfl hl.1 rfl (lv_room (Nat.le_of_ble_eq_true rfl)) dL_law_381 ⟨hcl, hsl⟩) ?_
  refine lv_iload hx hb dL_law_384 (lv_at hl 1 rfl) ?_
  refine sd_ic_eq (a := k) (b := k) (tgt := 391) hx hb dL_law_386 (by decide) (by omega) (by omega) (fun h => ?_) (fun h => ?_)
  · refine lv_iload hx hb dL_law_391 (lv_at hl 1 rfl) ?_
    refine sd_iz_ne (a := k) (tgt := 408) hx hb dL_law_393 (by decide) (by omega) (fun h => ?_) (fun h => ?_)
    · refine lv_goto (tgt := 547) hx hb dL_law_408 (by decide) ?_
      have hl := lv_sub (l' := [(0, .ref b), (1, .ref h0), (2, .ref h1), (3, .ref q0), (4, .int (nI i))]) hl [2, 3, 4, 5, 6] rfl
      exact kk H locs ls sh ke go hP hD hS hl
    · have hk0 := h
      refine lv_aload_n hx hb dL_law_396 rfl (lv_at hl 5 rfl) ?_
      refine lv_iconst (v := (nI 0)) hx hb dL_law_397 (by decide +kernel) ?_
      refine sd_lald (j := 0) (v := ou2 0) hx hb hK hP 7 3 rfl rfl (by decide) (by decide) rfl dL_law_398 ?_
      refine lv_iload hx hb dL_law_399 (lv_at hl 0 rfl) ?_
      refine lv_i2l (v := r_.toInt64) hx hb dL_law_401 rfl ?_
      refine sd_lif_eq (tgt := 408) hx hb dL_law_402 dL_law_403 (by decide) (fun h => ?_) (fun h => ?_)
      · refine lv_goto (tgt := 547) hx hb dL_law_408 (by decide) ?_
        have hl := lv_sub (l' := [(0, .ref b), (1, .ref h0), (2, .ref h1), (3, .ref q0), (4, .int (nI i))]) hl [2, 3, 4, 5, 6] rfl
        exact kk H locs ls sh ke go hP hD hS hl
      · exact absurd (hcmp hk0) h
  · exact absurd rfl h
set_option maxHeartbeats 4000000 in
set_option maxRecDepth 100000 in
theorem law_least {p : Program} {l : Launch} {e : Env} {s : State} {m : MethodId} {below : List Frame} {meth : Method} {c : Code} {Q : State → Prop} {b L : Nat} {xs : Nat → Int32} {dC : Nat → ClassId} {dI : Nat → Nat → Nat} {cA : ClassId} {h0 a0 : Nat} {cL cZ : ClassId} {h1 a1 a2 a3 a4 : Nat} {cO : ClassId} {q0 : Nat} {A : Nat → Prop} (hx : p.tables.exec = Jvm.exec) (hb : c.code = cL_law) (hml : c.maxLocals = 8) (hts0 : ∀ w ∈ (Cond.initialized RX0 :: sd_WS), w.before #[Value.ref b] s = true) (hown : s.vm.findClass RL = some m.cls) (hX : va_X b L xs s s.heap) (hbl : b < s.heap.size) (hbA : ¬ A b) (hA : ∀ q, s.heap.size ≤ q → A q) (hTH : sd_TH A s s.heap) (hK : va_K (dC, dI) vwCl [(cA, .int), (cL, .long), (cZ, .boolean), (cO, .long)] s) (hL : L ≤ 2048) (i : Nat) (hi : i + 4 ≤ L) (n : Nat) (w : Nat → Nat) (er : Nat) (sh ke : Nat → Int64) (go : Nat → Int32) (ou : Nat → Int64) (k n2 : Nat) (w2 : Nat → Nat) (ou2 : Nat → Int64) (vb : Int32) (hk : k ≤ 2) (hcmp : k = 0 → ou2 0 = vb.toInt64) 
    (hM1 : ∀ sz : Nat, Met l yL_least (sd_wsW yL_least cL_least 6 (some .int) [(0, 12, 15, 13), (0, 12, 19, 23)]) (sd_rm 8 1 6) (sd_PwT (dC, dI) vwCl [(cA, .int), (cO, .long)] (sd_OL cA h0 a0 n w cO q0 ou) sz [.ref h0, .int (xs (i + 1)), .int (xs (i + 2)), .int (xs (i + 3)), .ref q0]) (va_Qi (fun r (_ : Unit) => r = nI k) (sd_Bw (dC, dI) vwCl [(cA, .int), (cO, .long)] (sd_OL cA h0 a0 n w cO q0 ou) sz (fun _ => (sd_OL cA h0 a0 n2 w2 cO q0 ou2))) (va_A (sd_OL cA h0 a0 n w cO q0 ou) sz)) 1 6 (va_A (sd_OL cA h0 a0 n w cO q0 ou) sz))
    (hM2 : ∀ sz : Nat, Met l yX1_least (sd_ws yX1_least cX1_least 5 (some .int)) (sd_rm 3 0 0) (sd_Pw (dC, dI) vwCl [(cL, .long), (cZ, .boolean)] (sd_M cL cZ h1 a1 a2 a3 a4 er n w sh ke go) sz [.ref h1, .int (xs (i + 1)), .int (xs (i + 2)), .int (xs (i + 3))]) (va_Qi (fun r (_ : sd_S) => r = vb) (sd_Bw (dC, dI) vwCl [(cL, .long), (cZ, .boolean)] (sd_M cL cZ h1 a1 a2 a3 a4 er n w sh ke go) sz (fun v_ => (sd_M cL cZ h1 a1 a2 a3 a4 k n2 w2 v_.1 v_.2.1 v_.2.2))) (va_A (sd_M cL cZ h1 a1 a2 a3 a4 er n w sh ke go) sz)) 0 0 (va_A (sd_M cL cZ h1 a1 a2 a3 a4 er n w sh ke go) sz))
    {H : Heap} {locs : List Loc} {ls : Array Slot} {cells slots : Nat} (hcl : cells + 1 ≤ 1040) (hsl : slots + 6 ≤ 8290) (hP : va_P (dC, dI) vwCl (sd_LW cA h0 a0 cL cZ h1 a1 a2 a3 a4 cO q0 n w er sh ke go ou) H) (hD : va_D A (sd_LW cA h0 a0 cL cZ h1 a1 a2 a3 a4 cO q0 n w er sh ke go ou)) (hS : va_S A s.heap H locs) (hl : lv_has ls 8 [(0, .ref b), (1, .ref h0), (2, .ref h1), (3, .ref q0), (4, .int (nI i))])
    (kk : ∀ (H : Heap) (locs : List Loc) (ls : Array Slot) (sh ke : Nat → Int64) (go : Nat → Int32), va_P (dC, dI) vwCl (sd_LW cA h0 a0 cL cZ h1 a1 a2 a3 a4 cO q0 n2 w2 k sh ke go ou2) H → va_D A (sd_LW cA h0 a0 cL cZ h1 a1 a2 a3 a4 cO q0 n2 w2 k sh ke go ou2) → va_S A s.heap H locs → lv_has ls 8 [(0, .ref b), (1, .ref h0), (2, .ref h1), (3, .ref q0), (4, .int (nI i))] → W p l e room_1 s m #[Value.ref b] below meth c H locs (cells + 1) (slots + 6) Q (F0 m 547 ls [])) : W p l e room_1 s m #[Value.ref b] below meth c H locs cells slots Q (F0 m 411 ls []) := by
  have hts : ∀ w ∈ sd_WS, w.before #[Value.ref b] s = true := fun w h => hts0 w (List.mem_cons_of_mem _ h)
  have hP : va_P (dC, dI) vwCl [(h0, .inr (0, [.ref a0, .int (nI n), .int (nI (sd_sum w n))])), (a0, .inl (cA, 8, .inl (fun i => nI (w i)))), (h1, .inr (1, [.int (nI er), .int (nI n), .ref a1, .ref a2, .ref a3, .ref a4])), (a1, .inl (cL, 8, .inr (.inl (fun z => lN (w z))))), (a2, .inl (cL, 8, .inr (.inl sh))), (a3, .inl (cL, 8, .inr (.inl ke))), (a4, .inl (cZ, 8, .inl go)), (q0, .inl (cO, 1, .inr (.inl ou)))] H := hP
  have hD : va_D A [(h0, .inr (0, [.ref a0, .int (nI n), .int (nI (sd_sum w n))])), (a0, .inl (cA, 8, .inl (fun i => nI (w i)))), (h1, .inr (1, [.int (nI er), .int (nI n), .ref a1, .ref a2, .ref a3, .ref a4])), (a1, .inl (cL, 8, .inr (.inl (fun z => lN (w z))))), (a2, .inl (cL, 8, .inr (.inl sh))), (a3, .inl (cL, 8, .inr (.inl ke))), (a4, .inl (cZ, 8, .inl go)), (q0, .inl (cO, 1, .inr (.inl ou)))] := hD
  refine lv_aload_n hx hb dL_law_411 rfl (lv_at hl 1 rfl) ?_
  refine lv_aload_n hx hb dL_law_412 rfl (lv_at hl 0 rfl) ?_
  refine lv_iload hx hb dL_law_413 (lv_at hl 4 rfl) ?_
  refine lv_iconst (v := (nI 1)) hx hb dL_law_415 (by decide +kernel) ?_
  refine sd_iadd (v := nI (i + 1)) hx hb dL_law_416 (nI_add _ _) ?_
  refine sd_sld (j := i + 1) hx hb hX hbl hbA hS (by omega) (by omega) dL_law_417 ?_
  refine lv_aload_n hx hb dL_law_418 rfl (lv_at hl 0 rfl) ?_
  refine lv_iload hx hb dL_law_419 (lv_at hl 4 rfl) ?_
  refine lv_iconst (v := (nI 2)) hx hb dL_law_421 (by decide +kernel) ?_
  refine sd_iadd (v := nI (i + 2)) hx hb dL_law_422 (nI_add _ _) ?_
  refine sd_sld (j := i + 2) hx hb hX hbl hbA hS (by omega) (by omega) dL_law_423 ?_
  refine lv_aload_n hx hb dL_law_424 rfl (lv_at hl 0 rfl) ?_
  refine lv_iload hx hb dL_law_425 (lv_at hl 4 rfl) ?_
  refine lv_iconst (v := (nI 3)) hx hb dL_law_427 (by decide +kernel) ?_
  refine sd_iadd (v := nI (i + 3)) hx hb dL_law_428 (nI_add _ _) ?_
  refine sd_sld (j := i + 3) hx hb hX hbl hbA hS (by omega) (by omega) dL_law_429 ?_
  refine lv_aload_n hx hb dL_law_430 rfl (lv_at hl 3 rfl) ?_
  have hPc := hP.sub (ws' := (sd_OL cA h0 a0 n w cO q0 ou)) [0, 1, 7] rfl
  have hDc := hD.sub (ws' := (sd_OL cA h0 a0 n w cO q0 ou)) [0, 1, 7] (by decide) rfl
  have hKc := hK.sub (tys' := [(cA, .int), (cO, .long)]) [0, 3] rfl
  have hT9 : sd_TH (fun _ => False) s H := (hTH.kept hS.2.1).narrow (fun _ h => h.elim)
  refine sd_Ji (wc := (sd_OL cA h0 a0 n w cO q0 ou)) (wr := [(h1, .inr (1, [.int (nI er), .int (nI n), .ref a1, .ref a2, .ref a3, .ref a4])), (a1, .inl (cL, 8, .inr (.inl (fun z => lN (w z))))), (a2, .inl (cL, 8, .inr (.inl sh))), (a3, .inl (cL, 8, .inr (.inl ke))), (a4, .inl (cZ, 8, .inl go))]) (vx_runSW (As := [.ref h0, .int (xs (i + 1)), .int (xs (i + 2)), .int (xs (i + 3)), .ref q0]) (rest := []) ⟨hx, hb, hml, hown, hts0⟩ (hM1 H.size) (vx_cwSW 5 hts0 (sd_gSW k_methodLink_L_67 k_static_L_least k_init_ShareDeskLaw k_codeWith_L_least) rfl rfl rfl (by decide +kernel) ⟨Nat.le_of_ble_eq_true rfl, Nat.le_of_ble_eq_true rfl⟩) (sd_preSwT hKc hPc hDc hT9) rfl rfl hl.1 rfl (lv_room (Nat.le_of_ble_eq_true rfl)) dL_law_431 ⟨hcl, hsl⟩) hP hD hS hA [0, 1, 7] [2, 3, 4, 5, 6] rfl rfl (by decide) (by decide) (fun r_ u_ H locs hpo hP hD hS => ?_)
  subst hpo
  have hP := hP.sub (ws' := [(h0, .inr (0, [.ref a0, .int (nI n2), .int (nI (sd_sum w2 n2))])), (a0, .inl (cA, 8, .inl (fun i => nI (w2 i)))), (h1, .inr (1, [.int (nI er), .int (nI n), .ref a1, .ref a2, .ref a3, .ref a4])), (a1, .inl (cL, 8, .inr (.inl (fun z => lN (w z))))), (a2, .inl (cL, 8, .inr (.inl sh))), (a3, .inl (cL, 8, .inr (.inl ke))), (a4, .inl (cZ, 8, .inl go)), (q0, .inl (cO, 1, .inr (.inl ou2)))]) [5, 6, 0, 1, 2, 3, 4, 7] rfl
  have hD := hD.sub (ws' := [(h0, .inr (0, [.ref a0, .int (nI n2), .int (nI (sd_sum w2 n2))])), (a0, .inl (cA, 8, .inl (fun i => nI (w2 i)))), (h1, .inr (1, [.int (nI er), .int (nI n), .ref a1, .ref a2, .ref a3, .ref a4])), (a1, .inl (cL, 8, .inr (.inl (fun z => lN (w z))))), (a2, .inl (cL, 8, .inr (.inl sh))), (a3, .inl (cL, 8, .inr (.inl ke))), (a4, .inl (cZ, 8, .inl go)), (q0, .inl (cO, 1, .inr (.inl ou2)))]) [5, 6, 0, 1, 2, 3, 4, 7] (by decide) rfl
  refine lv_istore hx hb dL_law_434 hl (by decide) rfl (fun ls hl => ?_)
  have hl : lv_has ls 8 [(5, .int (nI k)), (0, .ref b), (1, .ref h0), (2, .ref h1), (3, .ref q0), (4, .int (nI i))] := hl
  refine lv_aload_n hx hb dL_law_436 rfl (lv_at hl 3 rfl) ?_
  refine lv_aload_n hx hb dL_law_437 rfl (lv_at hl 1 rfl) ?_
  refine lv_iload hx hb dL_law_438 (lv_at hl 5 rfl) ?_
  refine lv_iconst (v := (nI 1)) hx hb dL_law_440 (by decide +kernel) ?_
  refine sd_iadd (v := nI (i + 1)) hx hb dL_law_441 (nI_add _ _) ?_
  refine sd_sld (j := i + 1) hx hb hX hbl hbA hS (by omega) (by omega) dL_law_442 ?_
  refine lv_aload_n hx hb dL_law_443 rfl (lv_at hl 1 rfl) ?_
  refine lv_iload hx hb dL_law_444 (lv_at hl 5 rfl) ?_
  refine lv_iconst (v := (nI 2)) hx hb dL_law_446 (by decide +kernel) ?_
  refine sd_iadd (v := nI (i + 2)) hx hb dL_law_447 (nI_add _ _) ?_
  refine sd_sld (j := i + 2) hx hb hX hbl hbA hS (by omega) (by omega) dL_law_448 ?_
  refine lv_aload_n hx hb dL_law_449 rfl (lv_at hl 1 rfl) ?_
  refine lv_iload hx hb dL_law_450 (lv_at hl 5 rfl) ?_
  refine lv_iconst (v := (nI 3)) hx hb dL_law_452 (by decide +kernel) ?_
  refine sd_iadd (v := nI (i + 3)) hx hb dL_law_453 (nI_add _ _) ?_
  refine sd_sld (j := i + 3) hx hb hX hbl hbA hS (by omega) (by omega) dL_law_454 ?_
  have hPm := hP.sub (ws' := (sd_M cL cZ h1 a1 a2 a3 a4 er n w sh ke go)) [2, 3, 4, 5, 6] rfl
  have hDm := hD.sub (ws' := (sd_M cL cZ h1 a1 a2 a3 a4 er n w sh ke go)) [2, 3, 4, 5, 6] (by decide) rfl
  have hKm := hK.sub (tys' := [(cL, .long), (cZ, .boolean)]) [1, 2] rfl
  refine sd_Ji (wc := (sd_M cL cZ h1 a1 a2 a3 a4 er n w sh ke go)) (wr := [(h0, .inr (0, [.ref a0, .int (nI n2), .int (nI (sd_sum w2 n2))])), (a0, .inl (cA, 8, .inl (fun i => nI (w2 i)))), (q0, .inl (cO, 1, .inr (.inl ou2)))]) (va_runV (As := [.int (xs (i + 1)), .int (xs (i + 2)), .int (xs (i + 3))]) (rest := []) ⟨hx, hb, hml, hown, hts0⟩ (hM2 H.size) (cwV 3 hts0 (sd_gV k_methodLink_L_69 k_instanceMethod_X1_least k_sel_X1_least k_init_ShareDeskModel k_code_X1_least) rfl rfl rfl (by decide +kernel) ⟨Nat.le_of_ble_eq_true rfl, Nat.le_of_ble_eq_true rfl⟩) (sd_preVw hKm hPm hDm (q0 := 0) (ci := 1) rfl rfl) rfl rfl hl.1 rfl (lv_room (Nat.le_of_ble_eq_true rfl)) dL_law_455 ⟨hcl, hsl⟩) hP hD hS hA [2, 3, 4, 5, 6] [0, 1, 7] rfl rfl (by decide) (by decide) (fun r_ u_ H locs hpo hP hD hS => ?_)
  obtain ⟨sh, ke, go⟩ := u_
  subst hpo
  have hP := hP.sub (ws' := (sd_LW cA h0 a0 cL cZ h1 a1 a2 a3 a4 cO q0 n2 w2 k sh ke go ou2)) [0, 1, 3, 4, 5, 6, 7, 2] rfl
  have hD := hD.sub (ws' := (sd_LW cA h0 a0 cL cZ h1 a1 a2 a3 a4 cO q0 n2 w2 k sh ke go ou2)) [0, 1, 3, 4, 5, 6, 7, 2] (by decide) rfl
  have hP : va_P (dC, dI) vwCl [(h0, .inr (0, [.ref a0, .int (nI n2), .int (nI (sd_sum w2 n2))])), (a0, .inl (cA, 8, .inl (fun i => nI (w2 i)))), (h1, .inr (1, [.int (nI k), .int (nI n2), .ref a1, .ref a2, .ref a3, .ref a4])), (a1, .inl (cL, 8, .inr (.inl (fun z => lN (w2 z))))), (a2, .inl (cL, 8, .inr (.inl sh))), (a3, .inl (cL, 8, .inr (.inl ke))), (a4, .inl (cZ, 8, .inl go)), (q0, .inl (cO, 1, .inr (.inl ou2)))] H := hP
  have hD : va_D A [(h0, .inr (0, [.ref a0, .int (nI n2), .int (nI (sd_sum w2 n2))])), (a0, .inl (cA, 8, .inl (fun i => nI (w2 i)))), (h1, .inr (1, [.int (nI k), .int (nI n2), .ref a1, .ref a2, .ref a3, .ref a4])), (a1, .inl (cL, 8, .inr (.inl (fun z => lN (w2 z))))), (a2, .inl (cL, 8, .inr (.inl sh))), (a3, .inl (cL, 8, .inr (.inl ke))), (a4, .inl (cZ, 8, .inl go)), (q0, .inl (cO, 1, .inr (.inl ou2)))] := hD
  refine lv_istore hx hb dL_law_458 hl (by decide) rfl (fun ls hl => ?_)
  have hl : lv_has ls 8 [(6, .int r_), (5, .int (nI k)), (0, .ref b), (1, .ref h0), (2, .ref h1), (3, .ref q0), (4, .int (nI i))] := hl
  refine lv_aload_n hx hb dL_law_460 rfl (lv_at hl 4 rfl) ?_
  have hPm := hP.sub (ws' := (sd_M cL cZ h1 a1 a2 a3 a4 k n2 w2 sh ke go)) [2, 3, 4, 5, 6] rfl
  refine sd_calli (va_runV (As := []) (rest := []) ⟨hx, hb, hml, hown, hts0⟩ (m_thrown l dC dI cL cZ h1 a1 a2 a3 a4 k n2 w2 sh ke go) (cwV 0 hts0 (sd_gV k_methodLink_L_49 k_instanceMethod_X1_thrown k_sel_X1_thrown k_init_ShareDeskModel k_code_X1_thrown) rfl rfl rfl (by decide +kernel) ⟨Nat.le_of_ble_eq_true rfl, Nat.le_of_ble_eq_true rfl⟩) (sd_preV hKm hPm (q0 := 0) (ci := 1) rfl rfl) rfl rfl hl.1 rfl (lv_room (Nat.le_of_ble_eq_true rfl)) dL_law_461 ⟨hcl, hsl⟩) ?_
  refine lv_iload hx hb dL_law_464 (lv_at hl 1 rfl) ?_
  refine sd_ic_eq (a := k) (b := k) (tgt := 471) hx hb dL_law_466 (by decide) (by omega) (by omega) (fun h => ?_) (fun h => ?_)
  · refine lv_iload hx hb dL_law_471 (lv_at hl 1 rfl) ?_
    refine sd_iz_ne (a := k) (tgt := 488) hx hb dL_law_473 (by decide) (by omega) (fun h => ?_) (fun h => ?_)
    · refine lv_goto (tgt := 547) hx hb dL_law_488 (by decide) ?_
      have hl := lv_sub (l' := [(0, .ref b), (1, .ref h0), (2, .ref h1), (3, .ref q0), (4, .int (nI i))]) hl [2, 3, 4, 5, 6] rfl
      exact kk H locs ls sh ke go hP hD hS hl
    · have hk0 := h
      refine lv_aload_n hx hb dL_law_476 rfl (lv_at hl 5 rfl) ?_
      refine lv_iconst (v := (nI 0)) hx hb dL_law_477 (by decide +kernel) ?_
      refine sd_lald (j := 0) (v := ou2 0) hx hb hK hP 7 3 rfl rfl (by decide) (by decide) rfl dL_law_478 ?_
      refine lv_iload hx hb dL_law_479 (lv_at hl 0 rfl) ?_
      refine lv_i2l (v := r_.toInt64) hx hb dL_law_481 rfl ?_
      refine sd_lif_eq (tgt := 488) hx hb dL_law_482 dL_law_483 (by decide) (fun h => ?_) (fun h => ?_)
      · refine lv_goto (tgt := 547) hx hb dL_law_488 (by decide) ?_
        have hl := lv_sub (l' := [(0, .ref b), (1, .ref h0), (2, .ref h1), (3, .ref q0), (4, .int (nI i))]) hl [2, 3, 4, 5, 6] rfl
        exact kk H locs ls sh ke go hP hD hS hl
      · exact absurd (hcmp hk0) h
  · exact absurd rfl h
set_option maxHeartbeats 4000000 in
set_option maxRecDepth 100000 in
theorem law_count {p : Program} {l : Launch} {e : Env} {s : State} {m : MethodId} {below : List Frame} {meth : Method} {c : Code} {Q : State → Prop} {b L : Nat} {xs : Nat → Int32} {dC : Nat → ClassId} {dI : Nat → Nat → Nat} {cA : ClassId} {h0 a0 : Nat} {cL cZ : ClassId} {h1 a1 a2 a3 a4 : Nat} {cO : ClassId} {q0 : Nat} {A : Nat → Prop} (hx : p.tables.exec = Jvm.exec) (hb : c.code = cL_law) (hml : c.maxLocals = 8) (hts0 : ∀ w ∈ (Cond.initialized RX0 :: sd_WS), w.before #[Value.ref b] s = true) (hown : s.vm.findClass RL = some m.cls) (hX : va_X b L xs s s.heap) (hbl : b < s.heap.size) (hbA : ¬ A b) (hA : ∀ q, s.heap.size ≤ q → A q) (hTH : sd_TH A s s.heap) (hK : va_K (dC, dI) vwCl [(cA, .int), (cL, .long), (cZ, .boolean), (cO, .long)] s) (hL : L ≤ 2048) (i : Nat) (hi : i + 4 ≤ L) (n : Nat) (w : Nat → Nat) (er : Nat) (sh ke : Nat → Int64) (go : Nat → Int32) (ou : Nat → Int64) (k n2 : Nat) (w2 : Nat → Nat) (ou2 : Nat → Int64) (vb : Int32) (hk : k ≤ 2) (hcmp : k = 0 → ou2 0 = vb.toInt64) 
    (hM1 : ∀ sz : Nat, Met l yL_count (sd_wsW yL_count cL_count 4 (some .int) [(0, 9, 12, 13)]) (sd_rm 8 1 6) (sd_PwT (dC, dI) vwCl [(cA, .int), (cO, .long)] (sd_OL cA h0 a0 n w cO q0 ou) sz [.ref h0, .int (xs (i + 1)), .ref q0]) (va_Qi (fun r (_ : Unit) => r = nI k) (sd_Bw (dC, dI) vwCl [(cA, .int), (cO, .long)] (sd_OL cA h0 a0 n w cO q0 ou) sz (fun _ => (sd_OL cA h0 a0 n2 w2 cO q0 ou2))) (va_A (sd_OL cA h0 a0 n w cO q0 ou) sz)) 1 6 (va_A (sd_OL cA h0 a0 n w cO q0 ou) sz))
    (hM2 : ∀ sz : Nat, Met l yX1_count (sd_ws yX1_count cX1_count 4 (some .int)) (sd_rm 3 0 0) (sd_Pw (dC, dI) vwCl [(cL, .long), (cZ, .boolean)] (sd_M cL cZ h1 a1 a2 a3 a4 er n w sh ke go) sz [.ref h1, .int (xs (i + 1))]) (va_Qi (fun r (_ : sd_S) => r = vb) (sd_Bw (dC, dI) vwCl [(cL, .long), (cZ, .boolean)] (sd_M cL cZ h1 a1 a2 a3 a4 er n w sh ke go) sz (fun v_ => (sd_M cL cZ h1 a1 a2 a3 a4 k n2 w2 v_.1 v_.2.1 v_.2.2))) (va_A (sd_M cL cZ h1 a1 a2 a3 a4 er n w sh ke go) sz)) 0 0 (va_A (sd_M cL cZ h1 a1 a2 a3 a4 er n w sh ke go) sz))
    {H : Heap} {locs : List Loc} {ls : Array Slot} {cells slots : Nat} (hcl : cells + 1 ≤ 1040) (hsl : slots + 6 ≤ 8290) (hP : va_P (dC, dI) vwCl (sd_LW cA h0 a0 cL cZ h1 a1 a2 a3 a4 cO q0 n w er sh ke go ou) H) (hD : va_D A (sd_LW cA h0 a0 cL cZ h1 a1 a2 a3 a4 cO q0 n w er sh ke go ou)) (hS : va_S A s.heap H locs) (hl : lv_has ls 8 [(0, .ref b), (1, .ref h0), (2, .ref h1), (3, .ref q0), (4, .int (nI i))])
    (kk : ∀ (H : Heap) (locs : List Loc) (ls : Array Slot) (sh ke : Nat → Int64) (go : Nat → Int32), va_P (dC, dI) vwCl (sd_LW cA h0 a0 cL cZ h1 a1 a2 a3 a4 cO q0 n2 w2 k sh ke go ou2) H → va_D A (sd_LW cA h0 a0 cL cZ h1 a1 a2 a3 a4 cO q0 n2 w2 k sh ke go ou2) → va_S A s.heap H locs → lv_has ls 8 [(0, .ref b), (1, .ref h0), (2, .ref h1), (3, .ref q0), (4, .int (nI i))] → W p l e room_1 s m #[Value.ref b] below meth c H locs (cells + 1) (slots + 6) Q (F0 m 547 ls [])) : W p l e room_1 s m #[Value.ref b] below meth c H locs cells slots Q (F0 m 491 ls []) := by
  have hts : ∀ w ∈ sd_WS, w.before #[Value.ref b] s = true := fun w h => hts0 w (List.mem_cons_of_mem _ h)
  have hP : va_P (dC, dI) vwCl [(h0, .inr (0, [.ref a0, .int (nI n), .int (nI (sd_sum w n))])), (a0, .inl (cA, 8, .inl (fun i => nI (w i)))), (h1, .inr (1, [.int (nI er), .int (nI n), .ref a1, .ref a2, .ref a3, .ref a4])), (a1, .inl (cL, 8, .inr (.inl (fun z => lN (w z))))), (a2, .inl (cL, 8, .inr (.inl sh))), (a3, .inl (cL, 8, .inr (.inl ke))), (a4, .inl (cZ, 8, .inl go)), (q0, .inl (cO, 1, .inr (.inl ou)))] H := hP
  have hD : va_D A [(h0, .inr (0, [.ref a0, .int (nI n), .int (nI (sd_sum w n))])), (a0, .inl (cA, 8, .inl (fun i => nI (w i)))), (h1, .inr (1, [.int (nI er), .int (nI n), .ref a1, .ref a2, .ref a3, .ref a4])), (a1, .inl (cL, 8, .inr (.inl (fun z => lN (w z))))), (a2, .inl (cL, 8, .inr (.inl sh))), (a3, .inl (cL, 8, .inr (.inl ke))), (a4, .inl (cZ, 8, .inl go)), (q0, .inl (cO, 1, .inr (.inl ou)))] := hD
  refine lv_aload_n hx hb dL_law_491 rfl (lv_at hl 1 rfl) ?_
  refine lv_aload_n hx hb dL_law_492 rfl (lv_at hl 0 rfl) ?_
  refine lv_iload hx hb dL_law_493 (lv_at hl 4 rfl) ?_
  refine lv_iconst (v := (nI 1)) hx hb dL_law_495 (by decide +kernel) ?_
  refine sd_iadd (v := nI (i + 1)) hx hb dL_law_496 (nI_add _ _) ?_
  refine sd_sld (j := i + 1) hx hb hX hbl hbA hS (by omega) (by omega) dL_law_497 ?_
  refine lv_aload_n hx hb dL_law_498 rfl (lv_at hl 3 rfl) ?_
  have hPc := hP.sub (ws' := (sd_OL cA h0 a0 n w cO q0 ou)) [0, 1, 7] rfl
  have hDc := hD.sub (ws' := (sd_OL cA h0 a0 n w cO q0 ou)) [0, 1, 7] (by decide) rfl
  have hKc := hK.sub (tys' := [(cA, .int), (cO, .long)]) [0, 3] rfl
  have hT9 : sd_TH (fun _ => False) s H := (hTH.kept hS.2.1).narrow (fun _ h => h.elim)
  refine sd_Ji (wc := (sd_OL cA h0 a0 n w cO q0 ou)) (wr := [(h1, .inr (1, [.int (nI er), .int (nI n), .ref a1, .ref a2, .ref a3, .ref a4])), (a1, .inl (cL, 8, .inr (.inl (fun z => lN (w z))))), (a2, .inl (cL, 8, .inr (.inl sh))), (a3, .inl (cL, 8, .inr (.inl ke))), (a4, .inl (cZ, 8, .inl go))]) (vx_runSW (As := [.ref h0, .int (xs (i + 1)), .ref q0]) (rest := []) ⟨hx, hb, hml, hown, hts0⟩ (hM1 H.size) (vx_cwSW 3 hts0 (sd_gSW k_methodLink_L_70 k_static_L_count k_init_ShareDeskLaw k_codeWith_L_count) rfl rfl rfl (by decide +kernel) ⟨Nat.le_of_ble_eq_true rfl, Nat.le_of_ble_eq_true rfl⟩) (sd_preSwT hKc hPc hDc hT9) rfl rfl hl.1 rfl (lv_room (Nat.le_of_ble_eq_true rfl)) dL_law_499 ⟨hcl, hsl⟩) hP hD hS hA [0, 1, 7] [2, 3, 4, 5, 6] rfl rfl (by decide) (by decide) (fun r_ u_ H locs hpo hP hD hS => ?_)
  subst hpo
  have hP := hP.sub (ws' := [(h0, .inr (0, [.ref a0, .int (nI n2), .int (nI (sd_sum w2 n2))])), (a0, .inl (cA, 8, .inl (fun i => nI (w2 i)))), (h1, .inr (1, [.int (nI er), .int (nI n), .ref a1, .ref a2, .ref a3, .ref a4])), (a1, .inl (cL, 8, .inr (.inl (fun z => lN (w z))))), (a2, .inl (cL, 8, .inr (.inl sh))), (a3, .inl (cL, 8, .inr (.inl ke))), (a4, .inl (cZ, 8, .inl go)), (q0, .inl (cO, 1, .inr (.inl ou2)))]) [5, 6, 0, 1, 2, 3, 4, 7] rfl
  have hD := hD.sub (ws' := [(h0, .inr (0, [.ref a0, .int (nI n2), .int (nI (sd_sum w2 n2))])), (a0, .inl (cA, 8, .inl (fun i => nI (w2 i)))), (h1, .inr (1, [.int (nI er), .int (nI n), .ref a1, .ref a2, .ref a3, .ref a4])), (a1, .inl (cL, 8, .inr (.inl (fun z => lN (w z))))), (a2, .inl (cL, 8, .inr (.inl sh))), (a3, .inl (cL, 8, .inr (.inl ke))), (a4, .inl (cZ, 8, .inl go)), (q0, .inl (cO, 1, .inr (.inl ou2)))]) [5, 6, 0, 1, 2, 3, 4, 7] (by decide) rfl
  refine lv_istore hx hb dL_law_502 hl (by decide) rfl (fun ls hl => ?_)
  have hl : lv_has ls 8 [(5, .int (nI k)), (0, .ref b), (1, .ref h0), (2, .ref h1), (3, .ref q0), (4, .int (nI i))] := hl
  refine lv_aload_n hx hb dL_law_504 rfl (lv_at hl 3 rfl) ?_
  refine lv_aload_n hx hb dL_law_505 rfl (lv_at hl 1 rfl) ?_
  refine lv_iload hx hb dL_law_506 (lv_at hl 5 rfl) ?_
  refine lv_iconst (v := (nI 1)) hx hb dL_law_508 (by decide +kernel) ?_
  refine sd_iadd (v := nI (i + 1)) hx hb dL_law_509 (nI_add _ _) ?_
  refine sd_sld (j := i + 1) hx hb hX hbl hbA hS (by omega) (by omega) dL_law_510 ?_
  have hPm := hP.sub (ws' := (sd_M cL cZ h1 a1 a2 a3 a4 er n w sh ke go)) [2, 3, 4, 5, 6] rfl
  have hDm := hD.sub (ws' := (sd_M cL cZ h1 a1 a2 a3 a4 er n w sh ke go)) [2, 3, 4, 5, 6] (by decide) rfl
  have hKm := hK.sub (tys' := [(cL, .long), (cZ, .boolean)]) [1, 2] rfl
  refine sd_Ji (wc := (sd_M cL cZ h1 a1 a2 a3 a4 er n w sh ke go)) (wr := [(h0, .inr (0, [.ref a0, .int (nI n2), .int (nI (sd_sum w2 n2))])), (a0, .inl (cA, 8, .inl (fun i => nI (w2 i)))), (q0, .inl (cO, 1, .inr (.inl ou2)))]) (va_runV (As := [.int (xs (i + 1))]) (rest := []) ⟨hx, hb, hml, hown, hts0⟩ (hM2 H.size) (cwV 1 hts0 (sd_gV k_methodLink_L_73 k_instanceMethod_X1_count k_sel_X1_count k_init_ShareDeskModel k_code_X1_count) rfl rfl rfl (by decide +kernel) ⟨Nat.le_of_ble_eq_true rfl, Nat.le_of_ble_eq_true rfl⟩) (sd_preVw hKm hPm hDm (q0 := 0) (ci := 1) rfl rfl) rfl rfl hl.1 rfl (lv_room (Nat.le_of_ble_eq_true rfl)) dL_law_511 ⟨hcl, hsl⟩) hP hD hS hA [2, 3, 4, 5, 6] [0, 1, 7] rfl rfl (by decide) (by decide) (fun r_ u_ H locs hpo hP hD hS => ?_)
  obtain ⟨sh, ke, go⟩ := u_
  subst hpo
  have hP := hP.sub (ws' := (sd_LW cA h0 a0 cL cZ h1 a1 a2 a3 a4 cO q0 n2 w2 k sh ke go ou2)) [0, 1, 3, 4, 5, 6, 7, 2] rfl
  have hD := hD.sub (ws' := (sd_LW cA h0 a0 cL cZ h1 a1 a2 a3 a4 cO q0 n2 w2 k sh ke go ou2)) [0, 1, 3, 4, 5, 6, 7, 2] (by decide) rfl
  have hP : va_P (dC, dI) vwCl [(h0, .inr (0, [.ref a0, .int (nI n2), .int (nI (sd_sum w2 n2))])), (a0, .inl (cA, 8, .inl (fun i => nI (w2 i)))), (h1, .inr (1, [.int (nI k), .int (nI n2), .ref a1, .ref a2, .ref a3, .ref a4])), (a1, .inl (cL, 8, .inr (.inl (fun z => lN (w2 z))))), (a2, .inl (cL, 8, .inr (.inl sh))), (a3, .inl (cL, 8, .inr (.inl ke))), (a4, .inl (cZ, 8, .inl go)), (q0, .inl (cO, 1, .inr (.inl ou2)))] H := hP
  have hD : va_D A [(h0, .inr (0, [.ref a0, .int (nI n2), .int (nI (sd_sum w2 n2))])), (a0, .inl (cA, 8, .inl (fun i => nI (w2 i)))), (h1, .inr (1, [.int (nI k), .int (nI n2), .ref a1, .ref a2, .ref a3, .ref a4])), (a1, .inl (cL, 8, .inr (.inl (fun z => lN (w2 z))))), (a2, .inl (cL, 8, .inr (.inl sh))), (a3, .inl (cL, 8, .inr (.inl ke))), (a4, .inl (cZ, 8, .inl go)), (q0, .inl (cO, 1, .inr (.inl ou2)))] := hD
  refine lv_istore hx hb dL_law_514 hl (by decide) rfl (fun ls hl => ?_)
  have hl : lv_has ls 8 [(6, .int r_), (5, .int (nI k)), (0, .ref b), (1, .ref h0), (2, .ref h1), (3, .ref q0), (4, .int (nI i))] := hl
  refine lv_aload_n hx hb dL_law_516 rfl (lv_at hl 4 rfl) ?_
  have hPm := hP.sub (ws' := (sd_M cL cZ h1 a1 a2 a3 a4 k n2 w2 sh ke go)) [2, 3, 4, 5, 6] rfl
  refine sd_calli (va_runV (As := []) (rest := []) ⟨hx, hb, hml, hown, hts0⟩ (m_thrown l dC dI cL cZ h1 a1 a2 a3 a4 k n2 w2 sh ke go) (cwV 0 hts0 (sd_gV k_methodLink_L_49 k_instanceMethod_X1_thrown k_sel_X1_thrown k_init_ShareDeskModel k_code_X1_thrown) rfl rfl rfl (by decide +kernel) ⟨Nat.le_of_ble_eq_true rfl, Nat.le_of_ble_eq_true rfl⟩) (sd_preV hKm hPm (q0 := 0) (ci := 1) rfl rfl) rfl rfl hl.1 rfl (lv_room (Nat.le_of_ble_eq_true rfl)) dL_law_517 ⟨hcl, hsl⟩) ?_
  refine lv_iload hx hb dL_law_520 (lv_at hl 1 rfl) ?_
  refine sd_ic_eq (a := k) (b := k) (tgt := 527) hx hb dL_law_522 (by decide) (by omega) (by omega) (fun h => ?_) (fun h => ?_)
  · refine lv_iload hx hb dL_law_527 (lv_at hl 1 rfl) ?_
    refine sd_iz_ne (a := k) (tgt := 544) hx hb dL_law_529 (by decide) (by omega) (fun h => ?_) (fun h => ?_)
    · refine lv_goto (tgt := 547) hx hb dL_law_544 (by decide) ?_
      have hl := lv_sub (l' := [(0, .ref b), (1, .ref h0), (2, .ref h1), (3, .ref q0), (4, .int (nI i))]) hl [2, 3, 4, 5, 6] rfl
      exact kk H locs ls sh ke go hP hD hS hl
    · have hk0 := h
      refine lv_aload_n hx hb dL_law_532 rfl (lv_at hl 5 rfl) ?_
      refine lv_iconst (v := (nI 0)) hx hb dL_law_533 (by decide +kernel) ?_
      refine sd_lald (j := 0) (v := ou2 0) hx hb hK hP 7 3 rfl rfl (by decide) (by decide) rfl dL_law_534 ?_
      refine lv_iload hx hb dL_law_535 (lv_at hl 0 rfl) ?_
      refine lv_i2l (v := r_.toInt64) hx hb dL_law_537 rfl ?_
      refine sd_lif_eq (tgt := 544) hx hb dL_law_538 dL_law_539 (by decide) (fun h => ?_) (fun h => ?_)
      · refine lv_goto (tgt := 547) hx hb dL_law_544 (by decide) ?_
        have hl := lv_sub (l' := [(0, .ref b), (1, .ref h0), (2, .ref h1), (3, .ref q0), (4, .int (nI i))]) hl [2, 3, 4, 5, 6] rfl
        exact kk H locs ls sh ke go hP hD hS hl
      · exact absurd (hcmp hk0) h
  · exact absurd rfl h
