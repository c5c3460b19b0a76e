set_option maxHeartbeats 4000000 in
set_option maxRecDepth 100000 in
theorem lp_mcount {p : Program} {l : Launch} {e : Env} {R : Room} {s : State} {m : MethodId} {args : Array Value} {below : List Frame} {meth : Method} {c : Code} {H : Heap} {locs : List Loc} {cells slots : Nat} {Q : State → Prop} (hx : p.tables.exec = Jvm.exec) (hb : c.code = cX1_count) (hml : c.maxLocals = 4) (hts0 : ∀ w ∈ (sd_ws yX1_count cX1_count 4 (some .int)), w.before args s = true) (hown : s.vm.findClass RX1 = some m.cls) {dC : Nat → ClassId} {dI : Nat → Nat → Nat} {cL cZ : ClassId} {h1 a1 a2 a3 a4 er n : Nat} {w : Nat → Nat} {sh ke : Nat → Int64} {go : Nat → Int32} (hK : va_K (dC, dI) vwCl [(cL, .long), (cZ, .boolean)] s) (hP : va_P (dC, dI) vwCl (sd_M cL cZ h1 a1 a2 a3 a4 er n w sh ke go) H) (ok : sd_ok n w) (k : Nat)
    (kk : ∀ ls : Array Slot, lv_has ls 4 [(0, .ref h1), (1, .int (nI k)), (2, .int (nI (sd_cnt (fun j => decide (0 < w j)) n))), (3, .int (nI n))] → W p l e R s m args below meth c H locs cells slots Q (F0 m 64 ls []))
    : ∀ (f i : Nat), i + f = n → ∀ ls : Array Slot, lv_has ls 4 [(0, .ref h1), (1, .int (nI k)), (2, .int (nI (sd_cnt (fun j => decide (0 < w j)) i))), (3, .int (nI i))] → W p l e R s m args below meth c H locs cells slots Q (F0 m 36 ls []) := by
  have hts : ∀ w ∈ sd_WS, w.before args s = true := fun w h => hts0 w (List.mem_cons_of_mem _ h)
  have hP : va_P (dC, dI) vwCl [(h1, .inr (1, [.int (nI er), .int (nI n), .ref a1, .ref a2, .ref a3, .ref a4])), (a1, .inl (cL, 8, .inr (.inl (fun z => lN (w z))))), (a2, .inl (cL, 8, .inr (.inl sh))), (a3, .inl (cL, 8, .inr (.inl ke))), (a4, .inl (cZ, 8, .inl go))] H := hP
  have hn8 := ok.2.1
  intro f
  induction f using Nat.strongRecOn with
  | ind f ih0 =>
    intro i hi ls hl
    have ih : i < n → ∀ ls : Array Slot, lv_has ls 4 [(0, .ref h1), (1, .int (nI k)), (2, .int (nI (sd_cnt (fun j => decide (0 < w j)) (i + 1)))), (3, .int (nI (i + 1)))] → W p l e R s m args below meth c H locs cells slots Q (F0 m 36 ls []) := fun hlt => ih0 (f - 1) (by omega) (i + 1) (by omega)
    have hcb := sd_cnt_lim (fun j => decide (0 < w j)) i
    have hwi := ok.2.2.1 i
    refine lv_iload_n hx hb dX1_count_36 rfl (lv_at hl 3 rfl) ?_
    refine lv_aload_n hx hb dX1_count_37 rfl (lv_at hl 0 rfl) ?_
    refine va_get (D := (dC, dI)) (ci := 1) (v := .int (nI n)) (C := RX1) (T := TX1) (N := 6) hx hb hts u_in_X1 hown hK hP 0 rfl rfl 1 (by decide) (hts (.fieldLink RX1 7 "ShareDeskModel" "parties" "I") k_fieldLink_X1_7) (fun _ h9 => h9) rfl dX1_count_38 ?_
    refine sd_ic_ge (a := i) (b := n) (tgt := 64) hx hb dX1_count_41 (by decide) (by omega) (by omega) (fun h => ?_) (fun h => ?_)
    · have hin : i = n := by omega
      subst hin
      exact kk ls hl
    · refine lv_aload_n hx hb dX1_count_44 rfl (lv_at hl 0 rfl) ?_
      refine va_get (D := (dC, dI)) (ci := 1) (v := .ref a1) (C := RX1) (T := TX1) (N := 6) hx hb hts u_in_X1 hown hK hP 0 rfl rfl 2 (by decide) (hts (.fieldLink RX1 13 "ShareDeskModel" "weights" "[J") k_fieldLink_X1_13) (fun _ h9 => h9) rfl dX1_count_45 ?_
      refine lv_iload_n hx hb dX1_count_48 rfl (lv_at hl 3 rfl) ?_
      refine sd_lald (j := i) (v := lN (w i)) hx hb hK hP 1 0 rfl rfl (by omega) (by decide) rfl dX1_count_49 ?_
      refine lv_lconst (v := lN 0) hx hb dX1_count_50 rfl ?_
      refine sd_lc_le (a := w i) (b := 0) (tgt := 58) hx hb dX1_count_51 dX1_count_52 (by decide) (by omega) (by omega) (fun h => ?_) (fun h => ?_)
      · have e1 : sd_cnt (fun j => decide (0 < w j)) (i + 1) = sd_cnt (fun j => decide (0 < w j)) i := by rw [sd_cnt_s, decide_eq_false (by omega)]; rfl
        refine lv_iinc (k := 3) (v := nI (i + 1)) hx hb dX1_count_58 hl rfl (nI_add _ 1) (by decide) rfl (fun ls hl => ?_)
        have hl : lv_has ls 4 [(3, .int (nI (i + 1))), (0, .ref h1), (1, .int (nI k)), (2, .int (nI (sd_cnt (fun j => decide (0 < w j)) i)))] := hl
        refine lv_goto (tgt := 36) hx hb dX1_count_61 (by decide) ?_
        have hl := lv_sub (l' := [(0, .ref h1), (1, .int (nI k)), (2, .int (nI (sd_cnt (fun j => decide (0 < w j)) i))), (3, .int (nI (i + 1)))]) hl [1, 2, 3, 0] rfl
        rw [← e1] at hl
        exact ih (by omega) ls hl
      · have e1 : sd_cnt (fun j => decide (0 < w j)) (i + 1) = sd_cnt (fun j => decide (0 < w j)) i + 1 := by rw [sd_cnt_s, decide_eq_true h]; rfl
        refine lv_iinc (k := 2) (v := nI (sd_cnt (fun j => decide (0 < w j)) i + 1)) hx hb dX1_count_55 hl rfl (nI_add _ 1) (by decide) rfl (fun ls hl => ?_)
        have hl : lv_has ls 4 [(2, .int (nI (sd_cnt (fun j => decide (0 < w j)) i + 1))), (0, .ref h1), (1, .int (nI k)), (3, .int (nI i))] := hl
        refine lv_iinc (k := 3) (v := nI (i + 1)) hx hb dX1_count_58 hl rfl (nI_add _ 1) (by decide) rfl (fun ls hl => ?_)
        have hl : lv_has ls 4 [(3, .int (nI (i + 1))), (2, .int (nI (sd_cnt (fun j => decide (0 < w j)) i + 1))), (0, .ref h1), (1, .int (nI k))] := hl
        refine lv_goto (tgt := 36) hx hb dX1_count_61 (by decide) ?_
        have hl := lv_sub (l' := [(0, .ref h1), (1, .int (nI k)), (2, .int (nI (sd_cnt (fun j => decide (0 < w j)) i + 1))), (3, .int (nI (i + 1)))]) hl [2, 3, 1, 0] rfl
        rw [← e1] at hl
        exact ih (by omega) ls hl
set_option maxHeartbeats 4000000 in
set_option maxRecDepth 100000 in
theorem m_count_bad (l : Launch) (dC : Nat → ClassId) (dI : Nat → Nat → Nat) (cL cZ : ClassId) (h1 a1 a2 a3 a4 er n : Nat) (w : Nat → Nat) (sh ke : Nat → Int64) (go : Nat → Int32) (sz : Nat) (hn1 : 1 ≤ n) (hn8 : n ≤ 8) (x1 : Int32) (hbad : sd_rg x1 0 2 = false) : Met l yX1_count (sd_ws yX1_count cX1_count 4 (some .int)) (sd_rm 3 0 0) (sd_Pw (dC, dI) vwCl [(cL, .long), (cZ, .boolean)] (sd_M cL cZ h1 a1 a2 a3 a4 er n w sh ke go) sz [.ref h1, .int x1]) (va_Qi (fun r (v_ : sd_S) => r = nI 0) (sd_Bw (dC, dI) vwCl [(cL, .long), (cZ, .boolean)] (sd_M cL cZ h1 a1 a2 a3 a4 er n w sh ke go) sz (fun v_ => (sd_M cL cZ h1 a1 a2 a3 a4 1 n w v_.1 v_.2.1 v_.2.2))) (va_A (sd_M cL cZ h1 a1 a2 a3 a4 er n w sh ke go) sz)) 0 0 (va_A (sd_M cL cZ h1 a1 a2 a3 a4 er n w sh ke go) sz) := by
  refine Met.ofW (cc := cX1_count) (maxL := 4) (ret := (some .int)) (by decide) rfl ?_
  intro p e s m args below meth c s₁ B hml hv
  obtain ⟨rfl, hsz, hP, hK, hD0⟩ := hv
  subst hsz
  have hx := B.exec
  have hb := B.bytes
  have hr := B.returns
  have hts0 := atoms_spec (ws := (sd_ws yX1_count cX1_count 4 (some .int))) B.pre
  have hts : ∀ w ∈ sd_WS, w.before _ s = true := fun w h => hts0 w (List.mem_cons_of_mem _ h)
  have hown : s.vm.findClass RX1 = some m.cls := findClass_of_methodNamed B.named
  have hlocks := B.notSynchronized
  have hl := lv_entry ([.ref h1, .int x1]) (n := 4) (Nat.le_of_ble_eq_true rfl)
  rw [lg_entry_eq]
  generalize (lg_sl ([.ref h1, .int x1]) ++ List.replicate (4 - (lg_sl ([.ref h1, .int x1])).length) Slot.unset).toArray = ls at hl ⊢
  have hl : lv_has ls 4 [(0, .ref h1), (1, .int x1)] := hl
  obtain ⟨A, hAe⟩ : ∃ A, A = va_A (sd_M cL cZ h1 a1 a2 a3 a4 er n w sh ke go) s.heap.size := ⟨_, rfl⟩
  have hD : va_D A (sd_M cL cZ h1 a1 a2 a3 a4 er n w sh ke go) := by rw [hAe]; exact hD0.self
  have hA : ∀ q : Nat, s.heap.size ≤ q → A q := fun q h => by rw [hAe]; exact Or.inr h
  have hS : va_S A s.heap s.heap [] := va_S.rf
  have hP : va_P (dC, dI) vwCl [(h1, .inr (1, [.int (nI er), .int (nI n), .ref a1, .ref a2, .ref a3, .ref a4])), (a1, .inl (cL, 8, .inr (.inl (fun z => lN (w z))))), (a2, .inl (cL, 8, .inr (.inl sh))), (a3, .inl (cL, 8, .inr (.inl ke))), (a4, .inl (cZ, 8, .inl go))] s.heap := hP
  have hD : va_D A [(h1, .inr (1, [.int (nI er), .int (nI n), .ref a1, .ref a2, .ref a3, .ref a4])), (a1, .inl (cL, 8, .inr (.inl (fun z => lN (w z))))), (a2, .inl (cL, 8, .inr (.inl sh))), (a3, .inl (cL, 8, .inr (.inl ke))), (a4, .inl (cZ, 8, .inl go))] := hD
  refine lv_aload_n hx hb dX1_count_0 rfl (lv_at hl 0 rfl) ?_
  refine lv_iconst (v := (nI 0)) hx hb dX1_count_1 (by decide +kernel) ?_
  refine va_put (D := (dC, dI)) (ci := 1) (v := .int (nI 0)) (ty := .int) (C := RX1) (T := TX1) (N := 6) hx hb hts u_in_X1 tyX1 tyX1_ok nmX1 hown hK hP hD hS 0 rfl rfl 0 (by decide) (hts (.fieldLink RX1 27 "ShareDeskModel" "err" "I") k_fieldLink_X1_27) (fun _ h9 => h9) rfl (by decide +kernel) rfl rfl (Nat.le_of_ble_eq_true rfl) dX1_count_2 (fun H locs hP hD hS => ?_)
  have hP : va_P (dC, dI) vwCl [(h1, .inr (1, [.int (nI 0), .int (nI n), .ref a1, .ref a2, .ref a3, .ref a4])), (a1, .inl (cL, 8, .inr (.inl (fun z => lN (w z))))), (a2, .inl (cL, 8, .inr (.inl sh))), (a3, .inl (cL, 8, .inr (.inl ke))), (a4, .inl (cZ, 8, .inl go))] H := hP
  have hD : va_D A [(h1, .inr (1, [.int (nI 0), .int (nI n), .ref a1, .ref a2, .ref a3, .ref a4])), (a1, .inl (cL, 8, .inr (.inl (fun z => lN (w z))))), (a2, .inl (cL, 8, .inr (.inl sh))), (a3, .inl (cL, 8, .inr (.inl ke))), (a4, .inl (cZ, 8, .inl go))] := hD
  refine lv_aload_n hx hb dX1_count_5 rfl (lv_at hl 0 rfl) ?_
  refine lv_iload_n hx hb dX1_count_6 rfl (lv_at hl 1 rfl) ?_
  refine lv_i2l (v := x1.toInt64) hx hb dX1_count_7 rfl ?_
  refine lv_lconst (v := lN 0) hx hb dX1_count_8 rfl ?_
  refine lv_ldc2 (v := 2) hx hb hown (hts (.constantLong RX1 34 2) k_constantLong_X1_34) dX1_count_9 ?_
  refine sd_topl (y := lN 2) (by decide +kernel) ?_
  refine sd_calli (va_runS (As := [.long (x1.toInt64), .long (lN 0), .long (lN 2)]) (rest := [.ref h1]) ⟨hx, hb, hml, hown, hts0⟩ (m_in l dC dI x1.toInt64 (lN 0) (lN 2)) (cwS 3 hts0 (sd_gS k_methodLink_X1_30 k_static_X1_in k_init_ShareDeskModel k_code_X1_in) rfl rfl rfl (by decide +kernel) ⟨Nat.le_of_ble_eq_true rfl, Nat.le_of_ble_eq_true rfl⟩) (sd_preS (sd_K0 hK) (sd_nil _ _ _)) rfl rfl hl.1 rfl (lv_room (Nat.le_of_ble_eq_true rfl)) dX1_count_12 ⟨Nat.zero_le _, Nat.zero_le _⟩) ?_
  refine sd_bz_ne (tgt := 22) hx hb dX1_count_15 (by decide) (fun hc0 => ?_) (fun hc0 => ?_)
  · have hc0 : sd_rg x1 0 2 = true := hc0
    exact absurd hbad (by simp [hc0])
  · have hc0 : sd_rg x1 0 2 = false := hc0
    refine lv_iconst (v := (nI 1)) hx hb dX1_count_18 (by decide +kernel) ?_
    refine lv_goto (tgt := 23) hx hb dX1_count_19 (by decide) ?_
    refine lv_iconst (v := (nI 1)) hx hb dX1_count_23 (by decide +kernel) ?_
    refine sd_wi (va_runV (As := [.int (nI 1), .int (nI 1)]) (rest := []) ⟨hx, hb, hml, hown, hts0⟩ (m_fails1 l dC dI cL cZ h1 a1 a2 a3 a4 0 n w sh ke go H.size rfl 1 (by decide) (by decide)) (cwV 2 hts0 (sd_gV k_methodLink_X1_38 k_instanceMethod_X1_fails k_sel_X1_fails k_init_ShareDeskModel k_code_X1_fails) rfl rfl rfl (by decide +kernel) ⟨Nat.le_of_ble_eq_true rfl, Nat.le_of_ble_eq_true rfl⟩) (sd_preVw hK hP hD (q0 := 0) (ci := 1) rfl rfl) rfl rfl hl.1 rfl (lv_room (Nat.le_of_ble_eq_true rfl)) dX1_count_24 ⟨Nat.zero_le _, Nat.zero_le _⟩) hD hS hA (fun r_ u_ H locs hpo hP hD hS => ?_)
    obtain ⟨sh, ke, go⟩ := u_
    try dsimp only at hpo
    have hP : va_P (dC, dI) vwCl [(h1, .inr (1, [.int (nI 1), .int (nI n), .ref a1, .ref a2, .ref a3, .ref a4])), (a1, .inl (cL, 8, .inr (.inl (fun z => lN (w z))))), (a2, .inl (cL, 8, .inr (.inl sh))), (a3, .inl (cL, 8, .inr (.inl ke))), (a4, .inl (cZ, 8, .inl go))] H := hP
    have hD : va_D A [(h1, .inr (1, [.int (nI 1), .int (nI n), .ref a1, .ref a2, .ref a3, .ref a4])), (a1, .inl (cL, 8, .inr (.inl (fun z => lN (w z))))), (a2, .inl (cL, 8, .inr (.inl sh))), (a3, .inl (cL, 8, .inr (.inl ke))), (a4, .inl (cZ, 8, .inl go))] := hD
    subst hpo
    refine sd_iz_eq (a := 1) (tgt := 32) hx hb dX1_count_27 (by decide) (by omega) (fun h => ?_) (fun h => ?_)
    · exact absurd h (by omega)
    · refine lv_iconst (v := (nI 0)) hx hb dX1_count_30 (by decide +kernel) ?_
      exact W.iret hx hb hr (fun t ht hW => ⟨⟨_, (sh, ke, go), rfl, rfl, by rw [ht]; exact hP, va_K.moved hW.alike hK, by rw [← hAe]; exact hD⟩, by rw [← hAe]; exact hS.F ht⟩) (fun q hq => by rw [← hAe]; exact hS.2.2 q hq) dX1_count_31
set_option maxHeartbeats 4000000 in
set_option maxRecDepth 100000 in
theorem m_count (l : Launch) (dC : Nat → ClassId) (dI : Nat → Nat → Nat) (cL cZ : ClassId) (h1 a1 a2 a3 a4 er n : Nat) (w : Nat → Nat) (sh ke : Nat → Int64) (go : Nat → Int32) (sz : Nat) (ok : sd_ok n w) (k : Nat) (hk : k ≤ 2) : Met l yX1_count (sd_ws yX1_count cX1_count 4 (some .int)) (sd_rm 3 0 0) (sd_Pw (dC, dI) vwCl [(cL, .long), (cZ, .boolean)] (sd_M cL cZ h1 a1 a2 a3 a4 er n w sh ke go) sz [.ref h1, .int (nI k)]) (va_Qi (fun r (v_ : sd_S) => r = nI (if k = 0 then n else if k = 1 then sd_sum w n else sd_cnt (fun j => decide (0 < w j)) n)) (sd_Bw (dC, dI) vwCl [(cL, .long), (cZ, .boolean)] (sd_M cL cZ h1 a1 a2 a3 a4 er n w sh ke go) sz (fun v_ => (sd_M cL cZ h1 a1 a2 a3 a4 0 n w v_.1 v_.2.1 v_.2.2))) (va_A (sd_M cL cZ h1 a1 a2 a3 a4 er n w sh ke go) sz)) 0 0 (va_A (sd_M cL cZ h1 a1 a2 a3 a4 er n w sh ke go) sz) := by
  refine Met.ofW (cc := cX1_count) (maxL := 4) (ret := (some .int)) (by decide) rfl ?_
  intro p e s m args below meth c s₁ B hml hv
  obtain ⟨rfl, hsz, hP, hK, hD0⟩ := hv
  subst hsz
  have hx := B.exec
  have hb := B.bytes
  have hr := B.returns
  have hts0 := atoms_spec (ws := (sd_ws yX1_count cX1_count 4 (some .int))) B.pre
  have hts : ∀ w ∈ sd_WS, w.before _ s = true := fun w h => hts0 w (List.mem_cons_of_mem _ h)
  have hown : s.vm.findClass RX1 = some m.cls := findClass_of_methodNamed B.named
  have hlocks := B.notSynchronized
  have hl := lv_entry ([.ref h1, .int (nI k)]) (n := 4) (Nat.le_of_ble_eq_true rfl)
  rw [lg_entry_eq]
  generalize (lg_sl ([.ref h1, .int (nI k)]) ++ List.replicate (4 - (lg_sl ([.ref h1, .int (nI k)])).length) Slot.unset).toArray = ls at hl ⊢
  have hl : lv_has ls 4 [(0, .ref h1), (1, .int (nI k))] := hl
  obtain ⟨A, hAe⟩ : ∃ A, A = va_A (sd_M cL cZ h1 a1 a2 a3 a4 er n w sh ke go) s.heap.size := ⟨_, rfl⟩
  have hD : va_D A (sd_M cL cZ h1 a1 a2 a3 a4 er n w sh ke go) := by rw [hAe]; exact hD0.self
  have hA : ∀ q : Nat, s.heap.size ≤ q → A q := fun q h => by rw [hAe]; exact Or.inr h
  have hS : va_S A s.heap s.heap [] := va_S.rf
  have hP : va_P (dC, dI) vwCl [(h1, .inr (1, [.int (nI er), .int (nI n), .ref a1, .ref a2, .ref a3, .ref a4])), (a1, .inl (cL, 8, .inr (.inl (fun z => lN (w z))))), (a2, .inl (cL, 8, .inr (.inl sh))), (a3, .inl (cL, 8, .inr (.inl ke))), (a4, .inl (cZ, 8, .inl go))] s.heap := hP
  have hD : va_D A [(h1, .inr (1, [.int (nI er), .int (nI n), .ref a1, .ref a2, .ref a3, .ref a4])), (a1, .inl (cL, 8, .inr (.inl (fun z => lN (w z))))), (a2, .inl (cL, 8, .inr (.inl sh))), (a3, .inl (cL, 8, .inr (.inl ke))), (a4, .inl (cZ, 8, .inl go))] := hD
  have hn1 := ok.1
  have hn8 := ok.2.1
  refine lv_aload_n hx hb dX1_count_0 rfl (lv_at hl 0 rfl) ?_
  refine lv_iconst (v := (nI 0)) hx hb dX1_count_1 (by decide +kernel) ?_
  refine va_put (D := (dC, dI)) (ci := 1) (v := .int (nI 0)) (ty := .int) (C := RX1) (T := TX1) (N := 6) hx hb hts u_in_X1 tyX1 tyX1_ok nmX1 hown hK hP hD hS 0 rfl rfl 0 (by decide) (hts (.fieldLink RX1 27 "ShareDeskModel" "err" "I") k_fieldLink_X1_27) (fun _ h9 => h9) rfl (by decide +kernel) rfl rfl (Nat.le_of_ble_eq_true rfl) dX1_count_2 (fun H locs hP hD hS => ?_)
  have hP : va_P (dC, dI) vwCl [(h1, .inr (1, [.int (nI 0), .int (nI n), .ref a1, .ref a2, .ref a3, .ref a4])), (a1, .inl (cL, 8, .inr (.inl (fun z => lN (w z))))), (a2, .inl (cL, 8, .inr (.inl sh))), (a3, .inl (cL, 8, .inr (.inl ke))), (a4, .inl (cZ, 8, .inl go))] H := hP
  have hD : va_D A [(h1, .inr (1, [.int (nI 0), .int (nI n), .ref a1, .ref a2, .ref a3, .ref a4])), (a1, .inl (cL, 8, .inr (.inl (fun z => lN (w z))))), (a2, .inl (cL, 8, .inr (.inl sh))), (a3, .inl (cL, 8, .inr (.inl ke))), (a4, .inl (cZ, 8, .inl go))] := hD
  refine lv_aload_n hx hb dX1_count_5 rfl (lv_at hl 0 rfl) ?_
  refine lv_iload_n hx hb dX1_count_6 rfl (lv_at hl 1 rfl) ?_
  refine lv_i2l (v := (nI k).toInt64) hx hb dX1_count_7 rfl ?_
  refine lv_lconst (v := lN 0) hx hb dX1_count_8 rfl ?_
  refine lv_ldc2 (v := 2) hx hb hown (hts (.constantLong RX1 34 2) k_constantLong_X1_34) dX1_count_9 ?_
  refine sd_topl (y := lN 2) (by decide +kernel) ?_
  refine sd_calli (va_runS (As := [.long ((nI k).toInt64), .long (lN 0), .long (lN 2)]) (rest := [.ref h1]) ⟨hx, hb, hml, hown, hts0⟩ (m_in l dC dI (nI k).toInt64 (lN 0) (lN 2)) (cwS 3 hts0 (sd_gS k_methodLink_X1_30 k_static_X1_in k_init_ShareDeskModel k_code_X1_in) rfl rfl rfl (by decide +kernel) ⟨Nat.le_of_ble_eq_true rfl, Nat.le_of_ble_eq_true rfl⟩) (sd_preS (sd_K0 hK) (sd_nil _ _ _)) rfl rfl hl.1 rfl (lv_room (Nat.le_of_ble_eq_true rfl)) dX1_count_12 ⟨Nat.zero_le _, Nat.zero_le _⟩) ?_
  refine sd_bz_ne (tgt := 22) hx hb dX1_count_15 (by decide) (fun h => ?_) (fun h => ?_)
  · refine lv_iconst (v := (nI 0)) hx hb dX1_count_22 (by decide +kernel) ?_
    refine lv_iconst (v := (nI 1)) hx hb dX1_count_23 (by decide +kernel) ?_
    refine sd_calli (va_runV (As := [.int (nI 0), .int (nI 1)]) (rest := []) ⟨hx, hb, hml, hown, hts0⟩ (m_fails0 l dC dI cL cZ h1 a1 a2 a3 a4 0 n w sh ke go rfl 1) (cwV 2 hts0 (sd_gV k_methodLink_X1_38 k_instanceMethod_X1_fails k_sel_X1_fails k_init_ShareDeskModel k_code_X1_fails) rfl rfl rfl (by decide +kernel) ⟨Nat.le_of_ble_eq_true rfl, Nat.le_of_ble_eq_true rfl⟩) (sd_preV hK hP (q0 := 0) (ci := 1) rfl rfl) rfl rfl hl.1 rfl (lv_room (Nat.le_of_ble_eq_true rfl)) dX1_count_24 ⟨Nat.zero_le _, Nat.zero_le _⟩) ?_
    refine sd_iz_eq (a := 0) (tgt := 32) hx hb dX1_count_27 (by decide) (by omega) (fun h => ?_) (fun h => ?_)
    · refine lv_iconst (v := (nI 0)) hx hb dX1_count_32 (by decide +kernel) ?_
      refine lv_istore_n hx hb dX1_count_33 rfl hl (by decide) rfl (fun ls hl => ?_)
      have hl : lv_has ls 4 [(2, .int (nI 0)), (0, .ref h1), (1, .int (nI k))] := hl
      refine lv_iconst (v := (nI 0)) hx hb dX1_count_34 (by decide +kernel) ?_
      refine lv_istore_n hx hb dX1_count_35 rfl hl (by decide) rfl (fun ls hl => ?_)
      have hl : lv_has ls 4 [(3, .int (nI 0)), (2, .int (nI 0)), (0, .ref h1), (1, .int (nI k))] := hl
      have hl := lv_sub (l' := [(0, .ref h1), (1, .int (nI k)), (2, .int (nI 0)), (3, .int (nI 0))]) hl [2, 3, 1, 0] rfl
      refine lp_mcount hx hb hml hts0 hown hK hP ok k (fun ls hl => ?_) n 0 (by omega) ls hl
      refine lv_iload_n hx hb dX1_count_64 rfl (lv_at hl 1 rfl) ?_
      refine sd_iz_ne (a := k) (tgt := 75) hx hb dX1_count_65 (by decide) (by omega) (fun h => ?_) (fun h => ?_)
      · refine lv_iload_n hx hb dX1_count_75 rfl (lv_at hl 1 rfl) ?_
        refine lv_iconst (v := (nI 1)) hx hb dX1_count_76 (by decide +kernel) ?_
        refine sd_ic_ne (a := k) (b := 1) (tgt := 88) hx hb dX1_count_77 (by decide) (by omega) (by omega) (fun h => ?_) (fun h => ?_)
        · refine lv_iload_n hx hb dX1_count_88 rfl (lv_at hl 2 rfl) ?_
          refine sd_topi (y := nI (if k = 0 then n else if k = 1 then sd_sum w n else sd_cnt (fun j => decide (0 < w j)) n)) (by rw [if_neg (by omega), if_neg h]) ?_
          exact W.iret hx hb hr (fun t ht hW => ⟨⟨_, (sh, ke, go), rfl, rfl, by rw [ht]; exact hP, va_K.moved hW.alike hK, by rw [← hAe]; exact hD⟩, by rw [← hAe]; exact hS.F ht⟩) (fun q hq => by rw [← hAe]; exact hS.2.2 q hq) dX1_count_89
        · have hk1 := h
          refine lv_aload_n hx hb dX1_count_80 rfl (lv_at hl 0 rfl) ?_
          refine sd_calll (va_runV (As := []) (rest := []) ⟨hx, hb, hml, hown, hts0⟩ (m_all l dC dI cL cZ h1 a1 a2 a3 a4 0 n w sh ke go hn8) (cwV 0 hts0 (sd_gV k_methodLink_X1_48 k_instanceMethod_X1_all k_sel_X1_all k_init_ShareDeskModel k_code_X1_all) rfl rfl rfl (by decide +kernel) ⟨Nat.le_of_ble_eq_true rfl, Nat.le_of_ble_eq_true rfl⟩) (sd_preV hK hP (q0 := 0) (ci := 1) rfl rfl) rfl rfl hl.1 rfl (lv_room (Nat.le_of_ble_eq_true rfl)) dX1_count_81 ⟨Nat.zero_le _, Nat.zero_le _⟩) ?_
          refine lv_l2i (v := nI (sd_sum w n)) hx hb dX1_count_84 (lN_i _) ?_
          refine lv_goto (tgt := 89) hx hb dX1_count_85 (by decide) ?_
          refine sd_topi (y := nI (if k = 0 then n else if k = 1 then sd_sum w n else sd_cnt (fun j => decide (0 < w j)) n)) (by rw [if_neg (by omega), if_pos hk1]) ?_
          exact W.iret hx hb hr (fun t ht hW => ⟨⟨_, (sh, ke, go), rfl, rfl, by rw [ht]; exact hP, va_K.moved hW.alike hK, by rw [← hAe]; exact hD⟩, by rw [← hAe]; exact hS.F ht⟩) (fun q hq => by rw [← hAe]; exact hS.2.2 q hq) dX1_count_89
      · subst h
        refine lv_aload_n hx hb dX1_count_68 rfl (lv_at hl 0 rfl) ?_
        refine va_get (D := (dC, dI)) (ci := 1) (v := .int (nI n)) (C := RX1) (T := TX1) (N := 6) hx hb hts u_in_X1 hown hK hP 0 rfl rfl 1 (by decide) (hts (.fieldLink RX1 7 "ShareDeskModel" "parties" "I") k_fieldLink_X1_7) (fun _ h9 => h9) rfl dX1_count_69 ?_
        refine lv_goto (tgt := 89) hx hb dX1_count_72 (by decide) ?_
        refine sd_topi (y := nI (if 0 = 0 then n else if 0 = 1 then sd_sum w n else sd_cnt (fun j => decide (0 < w j)) n)) rfl ?_
        exact W.iret hx hb hr (fun t ht hW => ⟨⟨_, (sh, ke, go), rfl, rfl, by rw [ht]; exact hP, va_K.moved hW.alike hK, by rw [← hAe]; exact hD⟩, by rw [← hAe]; exact hS.F ht⟩) (fun q hq => by rw [← hAe]; exact hS.2.2 q hq) dX1_count_89
    · exact absurd h (by omega)
  · exact absurd (show sd_rg (nI k) 0 2 = false from h) (by rw [sd_rg_nI (by omega) (by omega) (by omega) (by omega)]; decide)
set_option maxHeartbeats 4000000 in
set_option maxRecDepth 100000 in
theorem m_begin_bad (l : Launch) (dC : Nat → ClassId) (dI : Nat → Nat → Nat) (cL cZ : ClassId) (h1 a1 a2 a3 a4 er n : Nat) (w : Nat → Nat) (sh ke : Nat → Int64) (go : Nat → Int32) (sz : Nat) (hn1 : 1 ≤ n) (hn8 : n ≤ 8) (x1 : Int32) (hbad : sd_rg x1 1 8 = false) : Met l yX1_begin (sd_ws yX1_begin cX1_begin 3 none) (sd_rm 3 0 0) (sd_Pw (dC, dI) vwCl [(cL, .long), (cZ, .boolean)] (sd_M cL cZ h1 a1 a2 a3 a4 er n w sh ke go) sz [.ref h1, .int x1]) (va_Qv (fun (v_ : sd_S) => True) (sd_Bw (dC, dI) vwCl [(cL, .long), (cZ, .boolean)] (sd_M cL cZ h1 a1 a2 a3 a4 er n w sh ke go) sz (fun v_ => (sd_M cL cZ h1 a1 a2 a3 a4 1 n w v_.1 v_.2.1 v_.2.2))) (va_A (sd_M cL cZ h1 a1 a2 a3 a4 er n w sh ke go) sz)) 0 0 (va_A (sd_M cL cZ h1 a1 a2 a3 a4 er n w sh ke go) sz) := by
  refine Met.ofW (cc := cX1_begin) (maxL := 3) (ret := none) (by decide) rfl ?_
  intro p e s m args below meth c s₁ B hml hv
  obtain ⟨rfl, hsz, hP, hK, hD0⟩ := hv
  subst hsz
  have hx := B.exec
  have hb := B.bytes
  have hr := B.returns
  have hts0 := atoms_spec (ws := (sd_ws yX1_begin cX1_begin 3 none)) B.pre
  have hts : ∀ w ∈ sd_WS, w.before _ s = true := fun w h => hts0 w (List.mem_cons_of_mem _ h)
  have hown : s.vm.findClass RX1 = some m.cls := findClass_of_methodNamed B.named
  have hlocks := B.notSynchronized
  have hl := lv_entry ([.ref h1, .int x1]) (n := 3) (Nat.le_of_ble_eq_true rfl)
  rw [lg_entry_eq]
  generalize (lg_sl ([.ref h1, .int x1]) ++ List.replicate (3 - (lg_sl ([.ref h1, .int x1])).length) Slot.unset).toArray = ls at hl ⊢
  have hl : lv_has ls 3 [(0, .ref h1), (1, .int x1)] := hl
  obtain ⟨A, hAe⟩ : ∃ A, A = va_A (sd_M cL cZ h1 a1 a2 a3 a4 er n w sh ke go) s.heap.size := ⟨_, rfl⟩
  have hD : va_D A (sd_M cL cZ h1 a1 a2 a3 a4 er n w sh ke go) := by rw [hAe]; exact hD0.self
  have hA : ∀ q : Nat, s.heap.size ≤ q → A q := fun q h => by rw [hAe]; exact Or.inr h
  have hS : va_S A s.heap s.heap [] := va_S.rf
  have hP : va_P (dC, dI) vwCl [(h1, .inr (1, [.int (nI er), .int (nI n), .ref a1, .ref a2, .ref a3, .ref a4])), (a1, .inl (cL, 8, .inr (.inl (fun z => lN (w z))))), (a2, .inl (cL, 8, .inr (.inl sh))), (a3, .inl (cL, 8, .inr (.inl ke))), (a4, .inl (cZ, 8, .inl go))] s.heap := hP
  have hD : va_D A [(h1, .inr (1, [.int (nI er), .int (nI n), .ref a1, .ref a2, .ref a3, .ref a4])), (a1, .inl (cL, 8, .inr (.inl (fun z => lN (w z))))), (a2, .inl (cL, 8, .inr (.inl sh))), (a3, .inl (cL, 8, .inr (.inl ke))), (a4, .inl (cZ, 8, .inl go))] := hD
  refine lv_aload_n hx hb dX1_begin_0 rfl (lv_at hl 0 rfl) ?_
  refine lv_iconst (v := (nI 0)) hx hb dX1_begin_1 (by decide +kernel) ?_
  refine va_put (D := (dC, dI)) (ci := 1) (v := .int (nI 0)) (ty := .int) (C := RX1) (T := TX1) (N := 6) hx hb hts u_in_X1 tyX1 tyX1_ok nmX1 hown hK hP hD hS 0 rfl rfl 0 (by decide) (hts (.fieldLink RX1 27 "ShareDeskModel" "err" "I") k_fieldLink_X1_27) (fun _ h9 => h9) rfl (by decide +kernel) rfl rfl (Nat.le_of_ble_eq_true rfl) dX1_begin_2 (fun H locs hP hD hS => ?_)
  have hP : va_P (dC, dI) vwCl [(h1, .inr (1, [.int (nI 0), .int (nI n), .ref a1, .ref a2, .ref a3, .ref a4])), (a1, .inl (cL, 8, .inr (.inl (fun z => lN (w z))))), (a2, .inl (cL, 8, .inr (.inl sh))), (a3, .inl (cL, 8, .inr (.inl ke))), (a4, .inl (cZ, 8, .inl go))] H := hP
  have hD : va_D A [(h1, .inr (1, [.int (nI 0), .int (nI n), .ref a1, .ref a2, .ref a3, .ref a4])), (a1, .inl (cL, 8, .inr (.inl (fun z => lN (w z))))), (a2, .inl (cL, 8, .inr (.inl sh))), (a3, .inl (cL, 8, .inr (.inl ke))), (a4, .inl (cZ, 8, .inl go))] := hD
  refine lv_aload_n hx hb dX1_begin_5 rfl (lv_at hl 0 rfl) ?_
  refine lv_iload_n hx hb dX1_begin_6 rfl (lv_at hl 1 rfl) ?_
  refine lv_i2l (v := x1.toInt64) hx hb dX1_begin_7 rfl ?_
  refine lv_lconst (v := lN 1) hx hb dX1_begin_8 rfl ?_
  refine lv_ldc2 (v := 8) hx hb hown (hts (.constantLong RX1 36 8) k_constantLong_X1_36) dX1_begin_9 ?_
  refine sd_topl (y := lN 8) (by decide +kernel) ?_
  refine sd_calli (va_runS (As := [.long (x1.toInt64), .long (lN 1), .long (lN 8)]) (rest := [.ref h1]) ⟨hx, hb, hml, hown, hts0⟩ (m_in l dC dI x1.toInt64 (lN 1) (lN 8)) (cwS 3 hts0 (sd_gS k_methodLink_X1_30 k_static_X1_in k_init_ShareDeskModel k_code_X1_in) rfl rfl rfl (by decide +kernel) ⟨Nat.le_of_ble_eq_true rfl, Nat.le_of_ble_eq_true rfl⟩) (sd_preS (sd_K0 hK) (sd_nil _ _ _)) rfl rfl hl.1 rfl (lv_room (Nat.le_of_ble_eq_true rfl)) dX1_begin_12 ⟨Nat.zero_le _, Nat.zero_le _⟩) ?_
  refine sd_bz_ne (tgt := 22) hx hb dX1_begin_15 (by decide) (fun h => ?_) (fun h => ?_)
  · exact absurd (show sd_rg x1 1 8 = true from h) (by rw [hbad]; decide)
  · refine lv_iconst (v := (nI 1)) hx hb dX1_begin_18 (by decide +kernel) ?_
    refine lv_goto (tgt := 23) hx hb dX1_begin_19 (by decide) ?_
    refine lv_iconst (v := (nI 1)) hx hb dX1_begin_23 (by decide +kernel) ?_
    refine sd_wi (va_runV (As := [.int (nI 1), .int (nI 1)]) (rest := []) ⟨hx, hb, hml, hown, hts0⟩ (m_fails1 l dC dI cL cZ h1 a1 a2 a3 a4 0 n w sh ke go H.size rfl 1 (by decide) (by decide)) (cwV 2 hts0 (sd_gV k_methodLink_X1_38 k_instanceMethod_X1_fails k_sel_X1_fails k_init_ShareDeskModel k_code_X1_fails) rfl rfl rfl (by decide +kernel) ⟨Nat.le_of_ble_eq_true rfl, Nat.le_of_ble_eq_true rfl⟩) (sd_preVw hK hP hD (q0 := 0) (ci := 1) rfl rfl) rfl rfl hl.1 rfl (lv_room (Nat.le_of_ble_eq_true rfl)) dX1_begin_24 ⟨Nat.zero_le _, Nat.zero_le _⟩) hD hS hA (fun r_ u_ H locs hpo hP hD hS => ?_)
    obtain ⟨sh, ke, go⟩ := u_
    try dsimp only at hpo
    have hP : va_P (dC, dI) vwCl [(h1, .inr (1, [.int (nI 1), .int (nI n), .ref a1, .ref a2, .ref a3, .ref a4])), (a1, .inl (cL, 8, .inr (.inl (fun z => lN (w z))))), (a2, .inl (cL, 8, .inr (.inl sh))), (a3, .inl (cL, 8, .inr (.inl ke))), (a4, .inl (cZ, 8, .inl go))] H := hP
    have hD : va_D A [(h1, .inr (1, [.int (nI 1), .int (nI n), .ref a1, .ref a2, .ref a3, .ref a4])), (a1, .inl (cL, 8, .inr (.inl (fun z => lN (w z))))), (a2, .inl (cL, 8, .inr (.inl sh))), (a3, .inl (cL, 8, .inr (.inl ke))), (a4, .inl (cZ, 8, .inl go))] := hD
    subst hpo
    refine sd_iz_eq (a := 1) (tgt := 31) hx hb dX1_begin_27 (by decide) (by omega) (fun h => ?_) (fun h => ?_)
    · exact absurd h (by omega)
    · exact W.vret hx hb hr (fun t ht hW => ⟨⟨(sh, ke, go), rfl, trivial, by rw [ht]; exact hP, va_K.moved hW.alike hK, by rw [← hAe]; exact hD⟩, by rw [← hAe]; exact hS.F ht⟩) (fun q hq => by rw [← hAe]; exact hS.2.2 q hq) dX1_begin_30
set_option maxHeartbeats 4000000 in
set_option maxRecDepth 100000 in
theorem lp_mbegin {p : Program} {l : Launch} {e : Env} {R : Room} {s : State} {m : MethodId} {args : Array Value} {below : List Frame} {meth : Method} {c : Code} {cells slots : Nat} {Q : State → Prop} (hx : p.tables.exec = Jvm.exec) (hb : c.code = cX1_begin) (hml : c.maxLocals = 3) (hts0 : ∀ w ∈ (sd_ws yX1_begin cX1_begin 3 none), w.before args s = true) (hown : s.vm.findClass RX1 = some m.cls) {dC : Nat → ClassId} {dI : Nat → Nat → Nat} {cL cZ : ClassId} {h1 a1 a2 a3 a4 : Nat} {w : Nat → Nat} (sh ke : Nat → Int64) (go : Nat → Int32) (A : Nat → Prop) (H0 : Heap) (hK : va_K (dC, dI) vwCl [(cL, .long), (cZ, .boolean)] s) (j : Nat)
    (kk : ∀ (H : Heap) (locs : List Loc) (ls : Array Slot), va_P (dC, dI) vwCl [(h1, .inr (1, [.int (nI 0), .int (nI j), .ref a1, .ref a2, .ref a3, .ref a4])), (a1, .inl (cL, 8, .inr (.inl (fun z => lN ((sd_cl w 8) z))))), (a2, .inl (cL, 8, .inr (.inl sh))), (a3, .inl (cL, 8, .inr (.inl ke))), (a4, .inl (cZ, 8, .inl go))] H → va_D A [(h1, .inr (1, [.int (nI 0), .int (nI j), .ref a1, .ref a2, .ref a3, .ref a4])), (a1, .inl (cL, 8, .inr (.inl (fun z => lN ((sd_cl w 8) z))))), (a2, .inl (cL, 8, .inr (.inl sh))), (a3, .inl (cL, 8, .inr (.inl ke))), (a4, .inl (cZ, 8, .inl go))] → va_S A H0 H locs → True → lv_has ls 3 [(0, .ref h1), (1, .int (nI j)), (2, .int (nI 8))] → W p l e R s m args below meth c H locs cells slots Q (F0 m 57 ls []))
    : ∀ (f i : Nat), i + f = 8 → ∀ (H : Heap) (locs : List Loc) (ls : Array Slot), va_P (dC, dI) vwCl [(h1, .inr (1, [.int (nI 0), .int (nI j), .ref a1, .ref a2, .ref a3, .ref a4])), (a1, .inl (cL, 8, .inr (.inl (fun z => lN ((sd_cl w i) z))))), (a2, .inl (cL, 8, .inr (.inl sh))), (a3, .inl (cL, 8, .inr (.inl ke))), (a4, .inl (cZ, 8, .inl go))] H → va_D A [(h1, .inr (1, [.int (nI 0), .int (nI j), .ref a1, .ref a2, .ref a3, .ref a4])), (a1, .inl (cL, 8, .inr (.inl (fun z => lN ((sd_cl w i) z))))), (a2, .inl (cL, 8, .inr (.inl sh))), (a3, .inl (cL, 8, .inr (.inl ke))), (a4, .inl (cZ, 8, .inl go))] → va_S A H0 H locs → True → lv_has ls 3 [(0, .ref h1), (1, .int (nI j)), (2, .int (nI i))] → W p l e R s m args below meth c H locs cells slots Q (F0 m 38 ls []) := by
  have hts : ∀ w ∈ sd_WS, w.before args s = true := fun w h => hts0 w (List.mem_cons_of_mem _ h)
  intro f
  induction f using Nat.strongRecOn with
  | ind f ih0 =>
    intro i hi H locs ls hP hD hS _ hl
    have ih : i < 8 → ∀ (H : Heap) (locs : List Loc) (ls : Array Slot), va_P (dC, dI) vwCl [(h1, .inr (1, [.int (nI 0), .int (nI j), .ref a1, .ref a2, .ref a3, .ref a4])), (a1, .inl (cL, 8, .inr (.inl (fun z => lN ((sd_cl w (i + 1)) z))))), (a2, .inl (cL, 8, .inr (.inl sh))), (a3, .inl (cL, 8, .inr (.inl ke))), (a4, .inl (cZ, 8, .inl go))] H → va_D A [(h1, .inr (1, [.int (nI 0), .int (nI j), .ref a1, .ref a2, .ref a3, .ref a4])), (a1, .inl (cL, 8, .inr (.inl (fun z => lN ((sd_cl w (i + 1)) z))))), (a2, .inl (cL, 8, .inr (.inl sh))), (a3, .inl (cL, 8, .inr (.inl ke))), (a4, .inl (cZ, 8, .inl go))] → va_S A H0 H locs → True → lv_has ls 3 [(0, .ref h1), (1, .int (nI j)), (2, .int (nI (i + 1)))] → W p l e R s m args below meth c H locs cells slots Q (F0 m 38 ls []) := fun hlt => ih0 (f - 1) (by omega) (i + 1) (by omega)
    refine lv_iload_n hx hb dX1_begin_38 rfl (lv_at hl 2 rfl) ?_
    refine lv_bipush (v := nI 8) hx hb dX1_begin_39 (by decide +kernel) ?_
    refine sd_ic_ge (a := i) (b := 8) (tgt := 57) hx hb dX1_begin_41 (by decide) (by omega) (by omega) (fun h => ?_) (fun h => ?_)
    · have hin : i = 8 := by omega
      subst hin
      exact kk H locs ls hP hD hS trivial hl
    · refine lv_aload_n hx hb dX1_begin_44 rfl (lv_at hl 0 rfl) ?_
      refine va_get (D := (dC, dI)) (ci := 1) (v := .ref a1) (C := RX1) (T := TX1) (N := 6) hx hb hts u_in_X1 hown hK hP 0 rfl rfl 2 (by decide) (hts (.fieldLink RX1 13 "ShareDeskModel" "weights" "[J") k_fieldLink_X1_13) (fun _ h9 => h9) rfl dX1_begin_45 ?_
      refine lv_iload_n hx hb dX1_begin_48 rfl (lv_at hl 2 rfl) ?_
      refine lv_lconst (v := lN 0) hx hb dX1_begin_49 rfl ?_
      refine sd_last (j := i) hx hb hK hP hD hS 1 0 rfl rfl (by omega) (by decide) dX1_begin_50 (fun H locs hP hD hS => ?_)
      have hP : va_P (dC, dI) vwCl [(h1, .inr (1, [.int (nI 0), .int (nI j), .ref a1, .ref a2, .ref a3, .ref a4])), (a1, .inl (cL, 8, .inr (.inl (fun z => lN ((sd_cl w (i + 1)) z))))), (a2, .inl (cL, 8, .inr (.inl sh))), (a3, .inl (cL, 8, .inr (.inl ke))), (a4, .inl (cZ, 8, .inl go))] H := by rw [← sd_cls, ← sd_updL_w]; exact hP
      have hD : va_D A [(h1, .inr (1, [.int (nI 0), .int (nI j), .ref a1, .ref a2, .ref a3, .ref a4])), (a1, .inl (cL, 8, .inr (.inl (fun z => lN ((sd_cl w (i + 1)) z))))), (a2, .inl (cL, 8, .inr (.inl sh))), (a3, .inl (cL, 8, .inr (.inl ke))), (a4, .inl (cZ, 8, .inl go))] := by rw [← sd_cls, ← sd_updL_w]; exact hD
      refine lv_iinc (k := 2) (v := nI (i + 1)) hx hb dX1_begin_51 hl rfl (nI_add _ 1) (by decide) rfl (fun ls hl => ?_)
      have hl : lv_has ls 3 [(2, .int (nI (i + 1))), (0, .ref h1), (1, .int (nI j))] := hl
      refine lv_goto (tgt := 38) hx hb dX1_begin_54 (by decide) ?_
      have hl := lv_sub (l' := [(0, .ref h1), (1, .int (nI j)), (2, .int (nI (i + 1)))]) hl [1, 2, 0] rfl
      exact ih (by omega) H locs ls hP hD hS trivial hl
set_option maxHeartbeats 4000000 in
set_option maxRecDepth 100000 in
theorem m_begin (l : Launch) (dC : Nat → ClassId) (dI : Nat → Nat → Nat) (cL cZ : ClassId) (h1 a1 a2 a3 a4 er n : Nat) (w : Nat → Nat) (sh ke : Nat → Int64) (go : Nat → Int32) (sz : Nat) (ok : sd_ok n w) (j : Nat) (hj1 : 1 ≤ j) (hj8 : j ≤ 8) : Met l yX1_begin (sd_ws yX1_begin cX1_begin 3 none) (sd_rm 3 0 0) (sd_Pw (dC, dI) vwCl [(cL, .long), (cZ, .boolean)] (sd_M cL cZ h1 a1 a2 a3 a4 er n w sh ke go) sz [.ref h1, .int (nI j)]) (va_Qv (fun (v_ : sd_S) => True) (sd_Bw (dC, dI) vwCl [(cL, .long), (cZ, .boolean)] (sd_M cL cZ h1 a1 a2 a3 a4 er n w sh ke go) sz (fun v_ => (sd_M cL cZ h1 a1 a2 a3 a4 0 j (fun _ => 0) v_.1 v_.2.1 v_.2.2))) (va_A (sd_M cL cZ h1 a1 a2 a3 a4 er n w sh ke go) sz)) 0 0 (va_A (sd_M cL cZ h1 a1 a2 a3 a4 er n w sh ke go) sz) := by
  refine Met.ofW (cc := cX1_begin) (maxL := 3) (ret := none) (by decide) rfl ?_
  intro p e s m args below meth c s₁ B hml hv
  obtain ⟨rfl, hsz, hP, hK, hD0⟩ := hv
  subst hsz
  have hx := B.exec
  have hb := B.bytes
  have hr := B.returns
  have hts0 := atoms_spec (ws := (sd_ws yX1_begin cX1_begin 3 none)) B.pre
  have hts : ∀ w ∈ sd_WS, w.before _ s = true := fun w h => hts0 w (List.mem_cons_of_mem _ h)
  have hown : s.vm.findClass RX1 = some m.cls := findClass_of_methodNamed B.named
  have hlocks := B.notSynchronized
  have hl := lv_entry ([.ref h1, .int (nI j)]) (n := 3) (Nat.le_of_ble_eq_true rfl)
  rw [lg_entry_eq]
  generalize (lg_sl ([.ref h1, .int (nI j)]) ++ List.replicate (3 - (lg_sl ([.ref h1, .int (nI j)])).length) Slot.unset).toArray = ls at hl ⊢
  have hl : lv_has ls 3 [(0, .ref h1), (1, .int (nI j))] := hl
  obtain ⟨A, hAe⟩ : ∃ A, A = va_A (sd_M cL cZ h1 a1 a2 a3 a4 er n w sh ke go) s.heap.size := ⟨_, rfl⟩
  have hD : va_D A (sd_M cL cZ h1 a1 a2 a3 a4 er n w sh ke go) := by rw [hAe]; exact hD0.self
  have hA : ∀ q : Nat, s.heap.size ≤ q → A q := fun q h => by rw [hAe]; exact Or.inr h
  have hS : va_S A s.heap s.heap [] := va_S.rf
  have hP : va_P (dC, dI) vwCl [(h1, .inr (1, [.int (nI er), .int (nI n), .ref a1, .ref a2, .ref a3, .ref a4])), (a1, .inl (cL, 8, .inr (.inl (fun z => lN (w z))))), (a2, .inl (cL, 8, .inr (.inl sh))), (a3, .inl (cL, 8, .inr (.inl ke))), (a4, .inl (cZ, 8, .inl go))] s.heap := hP
  have hD : va_D A [(h1, .inr (1, [.int (nI er), .int (nI n), .ref a1, .ref a2, .ref a3, .ref a4])), (a1, .inl (cL, 8, .inr (.inl (fun z => lN (w z))))), (a2, .inl (cL, 8, .inr (.inl sh))), (a3, .inl (cL, 8, .inr (.inl ke))), (a4, .inl (cZ, 8, .inl go))] := hD
  have hn1 := ok.1
  have hn8 := ok.2.1
  refine lv_aload_n hx hb dX1_begin_0 rfl (lv_at hl 0 rfl) ?_
  refine lv_iconst (v := (nI 0)) hx hb dX1_begin_1 (by decide +kernel) ?_
  refine va_put (D := (dC, dI)) (ci := 1) (v := .int (nI 0)) (ty := .int) (C := RX1) (T := TX1) (N := 6) hx hb hts u_in_X1 tyX1 tyX1_ok nmX1 hown hK hP hD hS 0 rfl rfl 0 (by decide) (hts (.fieldLink RX1 27 "ShareDeskModel" "err" "I") k_fieldLink_X1_27) (fun _ h9 => h9) rfl (by decide +kernel) rfl rfl (Nat.le_of_ble_eq_true rfl) dX1_begin_2 (fun H locs hP hD hS => ?_)
  have hP : va_P (dC, dI) vwCl [(h1, .inr (1, [.int (nI 0), .int (nI n), .ref a1, .ref a2, .ref a3, .ref a4])), (a1, .inl (cL, 8, .inr (.inl (fun z => lN (w z))))), (a2, .inl (cL, 8, .inr (.inl sh))), (a3, .inl (cL, 8, .inr (.inl ke))), (a4, .inl (cZ, 8, .inl go))] H := hP
  have hD : va_D A [(h1, .inr (1, [.int (nI 0), .int (nI n), .ref a1, .ref a2, .ref a3, .ref a4])), (a1, .inl (cL, 8, .inr (.inl (fun z => lN (w z))))), (a2, .inl (cL, 8, .inr (.inl sh))), (a3, .inl (cL, 8, .inr (.inl ke))), (a4, .inl (cZ, 8, .inl go))] := hD
  refine lv_aload_n hx hb dX1_begin_5 rfl (lv_at hl 0 rfl) ?_
  refine lv_iload_n hx hb dX1_begin_6 rfl (lv_at hl 1 rfl) ?_
  refine lv_i2l (v := (nI j).toInt64) hx hb dX1_begin_7 rfl ?_
  refine lv_lconst (v := lN 1) hx hb dX1_begin_8 rfl ?_
  refine lv_ldc2 (v := 8) hx hb hown (hts (.constantLong RX1 36 8) k_constantLong_X1_36) dX1_begin_9 ?_
  refine sd_topl (y := lN 8) (by decide +kernel) ?_
  refine sd_calli (va_runS (As := [.long ((nI j).toInt64), .long (lN 1), .long (lN 8)]) (rest := [.ref h1]) ⟨hx, hb, hml, hown, hts0⟩ (m_in l dC dI (nI j).toInt64 (lN 1) (lN 8)) (cwS 3 hts0 (sd_gS k_methodLink_X1_30 k_static_X1_in k_init_ShareDeskModel k_code_X1_in) rfl rfl rfl (by decide +kernel) ⟨Nat.le_of_ble_eq_true rfl, Nat.le_of_ble_eq_true rfl⟩) (sd_preS (sd_K0 hK) (sd_nil _ _ _)) rfl rfl hl.1 rfl (lv_room (Nat.le_of_ble_eq_true rfl)) dX1_begin_12 ⟨Nat.zero_le _, Nat.zero_le _⟩) ?_
  refine sd_bz_ne (tgt := 22) hx hb dX1_begin_15 (by decide) (fun h => ?_) (fun h => ?_)
  · refine lv_iconst (v := (nI 0)) hx hb dX1_begin_22 (by decide +kernel) ?_
    refine lv_iconst (v := (nI 1)) hx hb dX1_begin_23 (by decide +kernel) ?_
    refine sd_calli (va_runV (As := [.int (nI 0), .int (nI 1)]) (rest := []) ⟨hx, hb, hml, hown, hts0⟩ (m_fails0 l dC dI cL cZ h1 a1 a2 a3 a4 0 n w sh ke go rfl 1) (cwV 2 hts0 (sd_gV k_methodLink_X1_38 k_instanceMethod_X1_fails k_sel_X1_fails k_init_ShareDeskModel k_code_X1_fails) rfl rfl rfl (by decide +kernel) ⟨Nat.le_of_ble_eq_true rfl, Nat.le_of_ble_eq_true rfl⟩) (sd_preV hK hP (q0 := 0) (ci := 1) rfl rfl) rfl rfl hl.1 rfl (lv_room (Nat.le_of_ble_eq_true rfl)) dX1_begin_24 ⟨Nat.zero_le _, Nat.zero_le _⟩) ?_
    refine sd_iz_eq (a := 0) (tgt := 31) hx hb dX1_begin_27 (by decide) (by omega) (fun h => ?_) (fun h => ?_)
    · refine lv_aload_n hx hb dX1_begin_31 rfl (lv_at hl 0 rfl) ?_
      refine lv_iload_n hx hb dX1_begin_32 rfl (lv_at hl 1 rfl) ?_
      refine va_put (D := (dC, dI)) (ci := 1) (v := .int (nI j)) (ty := .int) (C := RX1) (T := TX1) (N := 6) hx hb hts u_in_X1 tyX1 tyX1_ok nmX1 hown hK hP hD hS 0 rfl rfl 1 (by decide) (hts (.fieldLink RX1 7 "ShareDeskModel" "parties" "I") k_fieldLink_X1_7) (fun _ h9 => h9) rfl (by decide +kernel) rfl rfl (Nat.le_of_ble_eq_true rfl) dX1_begin_33 (fun H locs hP hD hS => ?_)
      have hP : va_P (dC, dI) vwCl [(h1, .inr (1, [.int (nI 0), .int (nI j), .ref a1, .ref a2, .ref a3, .ref a4])), (a1, .inl (cL, 8, .inr (.inl (fun z => lN (w z))))), (a2, .inl (cL, 8, .inr (.inl sh))), (a3, .inl (cL, 8, .inr (.inl ke))), (a4, .inl (cZ, 8, .inl go))] H := hP
      have hD : va_D A [(h1, .inr (1, [.int (nI 0), .int (nI j), .ref a1, .ref a2, .ref a3, .ref a4])), (a1, .inl (cL, 8, .inr (.inl (fun z => lN (w z))))), (a2, .inl (cL, 8, .inr (.inl sh))), (a3, .inl (cL, 8, .inr (.inl ke))), (a4, .inl (cZ, 8, .inl go))] := hD
      refine lv_iconst (v := (nI 0)) hx hb dX1_begin_36 (by decide +kernel) ?_
      refine lv_istore_n hx hb dX1_begin_37 rfl hl (by decide) rfl (fun ls hl => ?_)
      have hl : lv_has ls 3 [(2, .int (nI 0)), (0, .ref h1), (1, .int (nI j))] := hl
      have hl := lv_sub (l' := [(0, .ref h1), (1, .int (nI j)), (2, .int (nI 0))]) hl [1, 2, 0] rfl
      have hP : va_P (dC, dI) vwCl [(h1, .inr (1, [.int (nI 0), .int (nI j), .ref a1, .ref a2, .ref a3, .ref a4])), (a1, .inl (cL, 8, .inr (.inl (fun z => lN ((sd_cl w 0) z))))), (a2, .inl (cL, 8, .inr (.inl sh))), (a3, .inl (cL, 8, .inr (.inl ke))), (a4, .inl (cZ, 8, .inl go))] H := by rw [sd_cl0]; exact hP
      have hD : va_D A [(h1, .inr (1, [.int (nI 0), .int (nI j), .ref a1, .ref a2, .ref a3, .ref a4])), (a1, .inl (cL, 8, .inr (.inl (fun z => lN ((sd_cl w 0) z))))), (a2, .inl (cL, 8, .inr (.inl sh))), (a3, .inl (cL, 8, .inr (.inl ke))), (a4, .inl (cZ, 8, .inl go))] := by rw [sd_cl0]; exact hD
      refine lp_mbegin hx hb hml hts0 hown sh ke go A s.heap hK j (fun H locs ls hP hD hS _ hl => ?_) 8 0 (by omega) H locs ls hP hD hS trivial hl
      have hP : va_P (dC, dI) vwCl (sd_M cL cZ h1 a1 a2 a3 a4 0 j (fun _ => 0) sh ke go) H := by rw [sd_cl8 ok] at hP; exact hP
      have hD : va_D A (sd_M cL cZ h1 a1 a2 a3 a4 0 j (fun _ => 0) sh ke go) := by rw [sd_cl8 ok] at hD; exact hD
      exact W.vret hx hb hr (fun t ht hW => ⟨⟨(sh, ke, go), rfl, trivial, by rw [ht]; exact hP, va_K.moved hW.alike hK, by rw [← hAe]; exact hD⟩, by rw [← hAe]; exact hS.F ht⟩) (fun q hq => by rw [← hAe]; exact hS.2.2 q hq) dX1_begin_57
    · exact absurd h (by omega)
  · exact absurd (show sd_rg (nI j) 1 8 = false from h) (by rw [sd_rg_nI (by omega) (by omega) (by omega) (by omega)]; decide)
set_option maxHeartbeats 4000000 in
set_option maxRecDepth 100000 in
theorem m_weight_bad (l : Launch) (dC : Nat → ClassId) (dI : Nat → Nat → Nat) (cL cZ : ClassId) (h1 a1 a2 a3 a4 er n : Nat) (w : Nat → Nat) (sh ke : Nat → Int64) (go : Nat → Int32) (sz : Nat) (hn1 : 1 ≤ n) (hn8 : n ≤ 8) (x1 x2 : Int32) (hbad : sd_rg x1 0 (n - 1) = false ∨ sd_rg x2 0 100000 = false) : Met l yX1_weight (sd_ws yX1_weight cX1_weight 4 (some .int)) (sd_rm 3 0 0) (sd_Pw (dC, dI) vwCl [(cL, .long), (cZ, .boolean)] (sd_M cL cZ h1 a1 a2 a3 a4 er n w sh ke go) sz [.ref h1, .int x1, .int x2]) (va_Qi (fun r (v_ : sd_S) => r = nI 0) (sd_Bw (dC, dI) vwCl [(cL, .long), (cZ, .boolean)] (sd_M cL cZ h1 a1 a2 a3 a4 er n w sh ke go) sz (fun v_ => (sd_M cL cZ h1 a1 a2 a3 a4 1 n w v_.1 v_.2.1 v_.2.2))) (va_A (sd_M cL cZ h1 a1 a2 a3 a4 er n w sh ke go) sz)) 0 0 (va_A (sd_M cL cZ h1 a1 a2 a3 a4 er n w sh ke go) sz) := by
  refine Met.ofW (cc := cX1_weight) (maxL := 4) (ret := (some .int)) (by decide) rfl ?_
  intro p e s m args below meth c s₁ B hml hv
  obtain ⟨rfl, hsz, hP, hK, hD0⟩ := hv
  subst hsz
  have hx := B.exec
  have hb := B.bytes
  have hr := B.returns
  have hts0 := atoms_spec (ws := (sd_ws yX1_weight cX1_weight 4 (some .int))) B.pre
  have hts : ∀ w ∈ sd_WS, w.before _ s = true := fun w h => hts0 w (List.mem_cons_of_mem _ h)
  have hown : s.vm.findClass RX1 = some m.cls := findClass_of_methodNamed B.named
  have hlocks := B.notSynchronized
  have hl := lv_entry ([.ref h1, .int x1, .int x2]) (n := 4) (Nat.le_of_ble_eq_true rfl)
  rw [lg_entry_eq]
  generalize (lg_sl ([.ref h1, .int x1, .int x2]) ++ List.replicate (4 - (lg_sl ([.ref h1, .int x1, .int x2])).length) Slot.unset).toArray = ls at hl ⊢
  have hl : lv_has ls 4 [(0, .ref h1), (1, .int x1), (2, .int x2)] := hl
  obtain ⟨A, hAe⟩ : ∃ A, A = va_A (sd_M cL cZ h1 a1 a2 a3 a4 er n w sh ke go) s.heap.size := ⟨_, rfl⟩
  have hD : va_D A (sd_M cL cZ h1 a1 a2 a3 a4 er n w sh ke go) := by rw [hAe]; exact hD0.self
  have hA : ∀ q : Nat, s.heap.size ≤ q → A q := fun q h => by rw [hAe]; exact Or.inr h
  have hS : va_S A s.heap s.heap [] := va_S.rf
  have hP : va_P (dC, dI) vwCl [(h1, .inr (1, [.int (nI er), .int (nI n), .ref a1, .ref a2, .ref a3, .ref a4])), (a1, .inl (cL, 8, .inr (.inl (fun z => lN (w z))))), (a2, .inl (cL, 8, .inr (.inl sh))), (a3, .inl (cL, 8, .inr (.inl ke))), (a4, .inl (cZ, 8, .inl go))] s.heap := hP
  have hD : va_D A [(h1, .inr (1, [.int (nI er), .int (nI n), .ref a1, .ref a2, .ref a3, .ref a4])), (a1, .inl (cL, 8, .inr (.inl (fun z => lN (w z))))), (a2, .inl (cL, 8, .inr (.inl sh))), (a3, .inl (cL, 8, .inr (.inl ke))), (a4, .inl (cZ, 8, .inl go))] := hD
  refine lv_aload_n hx hb dX1_weight_0 rfl (lv_at hl 0 rfl) ?_
  refine lv_iconst (v := (nI 0)) hx hb dX1_weight_1 (by decide +kernel) ?_
  refine va_put (D := (dC, dI)) (ci := 1) (v := .int (nI 0)) (ty := .int) (C := RX1) (T := TX1) (N := 6) hx hb hts u_in_X1 tyX1 tyX1_ok nmX1 hown hK hP hD hS 0 rfl rfl 0 (by decide) (hts (.fieldLink RX1 27 "ShareDeskModel" "err" "I") k_fieldLink_X1_27) (fun _ h9 => h9) rfl (by decide +kernel) rfl rfl (Nat.le_of_ble_eq_true rfl) dX1_weight_2 (fun H locs hP hD hS => ?_)
  have hP : va_P (dC, dI) vwCl [(h1, .inr (1, [.int (nI 0), .int (nI n), .ref a1, .ref a2, .ref a3, .ref a4])), (a1, .inl (cL, 8, .inr (.inl (fun z => lN (w z))))), (a2, .inl (cL, 8, .inr (.inl sh))), (a3, .inl (cL, 8, .inr (.inl ke))), (a4, .inl (cZ, 8, .inl go))] H := hP
  have hD : va_D A [(h1, .inr (1, [.int (nI 0), .int (nI n), .ref a1, .ref a2, .ref a3, .ref a4])), (a1, .inl (cL, 8, .inr (.inl (fun z => lN (w z))))), (a2, .inl (cL, 8, .inr (.inl sh))), (a3, .inl (cL, 8, .inr (.inl ke))), (a4, .inl (cZ, 8, .inl go))] := hD
  refine lv_aload_n hx hb dX1_weight_5 rfl (lv_at hl 0 rfl) ?_
  refine lv_aload_n hx hb dX1_weight_6 rfl (lv_at hl 0 rfl) ?_
  refine lv_iload_n hx hb dX1_weight_7 rfl (lv_at hl 1 rfl) ?_
  refine sd_calli (va_runV (As := [.int x1]) (rest := [.ref h1]) ⟨hx, hb, hml, hown, hts0⟩ (m_isParty l dC dI cL cZ h1 a1 a2 a3 a4 0 n w sh ke go hn1 hn8 x1) (cwV 1 hts0 (sd_gV k_methodLink_X1_42 k_instanceMethod_X1_isParty k_sel_X1_isParty k_init_ShareDeskModel k_code_X1_isParty) rfl rfl rfl (by decide +kernel) ⟨Nat.le_of_ble_eq_true rfl, Nat.le_of_ble_eq_true rfl⟩) (sd_preV hK hP (q0 := 0) (ci := 1) rfl rfl) rfl rfl hl.1 rfl (lv_room (Nat.le_of_ble_eq_true rfl)) dX1_weight_8 ⟨Nat.zero_le _, Nat.zero_le _⟩) ?_
  refine sd_bz_eq (tgt := 26) hx hb dX1_weight_11 (by decide) (fun hc0 => ?_) (fun hc0 => ?_)
  · have hc0 : sd_rg x1 0 (n - 1) = false := hc0
    refine lv_iconst (v := (nI 1)) hx hb dX1_weight_26 (by decide +kernel) ?_
    refine lv_goto (tgt := 31) hx hb dX1_weight_27 (by decide) ?_
    refine lv_iconst (v := (nI 1)) hx hb dX1_weight_31 (by decide +kernel) ?_
    refine sd_wi (va_runV (As := [.int (nI 1), .int (nI 1)]) (rest := []) ⟨hx, hb, hml, hown, hts0⟩ (m_fails1 l dC dI cL cZ h1 a1 a2 a3 a4 0 n w sh ke go H.size rfl 1 (by decide) (by decide)) (cwV 2 hts0 (sd_gV k_methodLink_X1_38 k_instanceMethod_X1_fails k_sel_X1_fails k_init_ShareDeskModel k_code_X1_fails) rfl rfl rfl (by decide +kernel) ⟨Nat.le_of_ble_eq_true rfl, Nat.le_of_ble_eq_true rfl⟩) (sd_preVw hK hP hD (q0 := 0) (ci := 1) rfl rfl) rfl rfl hl.1 rfl (lv_room (Nat.le_of_ble_eq_true rfl)) dX1_weight_32 ⟨Nat.zero_le _, Nat.zero_le _⟩) hD hS hA (fun r_ u_ H locs hpo hP hD hS => ?_)
    obtain ⟨sh, ke, go⟩ := u_
    try dsimp only at hpo
    have hP : va_P (dC, dI) vwCl [(h1, .inr (1, [.int (nI 1), .int (nI n), .ref a1, .ref a2, .ref a3, .ref a4])), (a1, .inl (cL, 8, .inr (.inl (fun z => lN (w z))))), (a2, .inl (cL, 8, .inr (.inl sh))), (a3, .inl (cL, 8, .inr (.inl ke))), (a4, .inl (cZ, 8, .inl go))] H := hP
    have hD : va_D A [(h1, .inr (1, [.int (nI 1), .int (nI n), .ref a1, .ref a2, .ref a3, .ref a4])), (a1, .inl (cL, 8, .inr (.inl (fun z => lN (w z))))), (a2, .inl (cL, 8, .inr (.inl sh))), (a3, .inl (cL, 8, .inr (.inl ke))), (a4, .inl (cZ, 8, .inl go))] := hD
    subst hpo
    refine sd_iz_eq (a := 1) (tgt := 40) hx hb dX1_weight_35 (by decide) (by omega) (fun h => ?_) (fun h => ?_)
    · exact absurd h (by omega)
    · refine lv_iconst (v := (nI 0)) hx hb dX1_weight_38 (by decide +kernel) ?_
      exact W.iret hx hb hr (fun t ht hW => ⟨⟨_, (sh, ke, go), rfl, rfl, by rw [ht]; exact hP, va_K.moved hW.alike hK, by rw [← hAe]; exact hD⟩, by rw [← hAe]; exact hS.F ht⟩) (fun q hq => by rw [← hAe]; exact hS.2.2 q hq) dX1_weight_39
  · have hc0 : sd_rg x1 0 (n - 1) = true := hc0
    refine lv_iload_n hx hb dX1_weight_14 rfl (lv_at hl 2 rfl) ?_
    refine lv_i2l (v := x2.toInt64) hx hb dX1_weight_15 rfl ?_
    refine lv_lconst (v := lN 0) hx hb dX1_weight_16 rfl ?_
    refine lv_ldc2 (v := 100000) hx hb hown (hts (.constantLong RX1 46 100000) k_constantLong_X1_46) dX1_weight_17 ?_
    refine sd_topl (y := lN 100000) (by decide +kernel) ?_
    refine sd_calli (va_runS (As := [.long (x2.toInt64), .long (lN 0), .long (lN 100000)]) (rest := [.ref h1]) ⟨hx, hb, hml, hown, hts0⟩ (m_in l dC dI x2.toInt64 (lN 0) (lN 100000)) (cwS 3 hts0 (sd_gS k_methodLink_X1_30 k_static_X1_in k_init_ShareDeskModel k_code_X1_in) rfl rfl rfl (by decide +kernel) ⟨Nat.le_of_ble_eq_true rfl, Nat.le_of_ble_eq_true rfl⟩) (sd_preS (sd_K0 hK) (sd_nil _ _ _)) rfl rfl hl.1 rfl (lv_room (Nat.le_of_ble_eq_true rfl)) dX1_weight_20 ⟨Nat.zero_le _, Nat.zero_le _⟩) ?_
    refine sd_bz_ne (tgt := 30) hx hb dX1_weight_23 (by decide) (fun hc1 => ?_) (fun hc1 => ?_)
    · have hc1 : sd_rg x2 0 100000 = true := hc1
      exact absurd hbad (by simp [hc0, hc1])
    · have hc1 : sd_rg x2 0 100000 = false := hc1
      refine lv_iconst (v := (nI 1)) hx hb dX1_weight_26 (by decide +kernel) ?_
      refine lv_goto (tgt := 31) hx hb dX1_weight_27 (by decide) ?_
      refine lv_iconst (v := (nI 1)) hx hb dX1_weight_31 (by decide +kernel) ?_
      refine sd_wi (va_runV (As := [.int (nI 1), .int (nI 1)]) (rest := []) ⟨hx, hb, hml, hown, hts0⟩ (m_fails1 l dC dI cL cZ h1 a1 a2 a3 a4 0 n w sh ke go H.size rfl 1 (by decide) (by decide)) (cwV 2 hts0 (sd_gV k_methodLink_X1_38 k_instanceMethod_X1_fails k_sel_X1_fails k_init_ShareDeskModel k_code_X1_fails) rfl rfl rfl (by decide +kernel) ⟨Nat.le_of_ble_eq_true rfl, Nat.le_of_ble_eq_true rfl⟩) (sd_preVw hK hP hD (q0 := 0) (ci := 1) rfl rfl) rfl rfl hl.1 rfl (lv_room (Nat.le_of_ble_eq_true rfl)) dX1_weight_32 ⟨Nat.zero_le _, Nat.zero_le _⟩) hD hS hA (fun r_ u_ H locs hpo hP hD hS => ?_)
      obtain ⟨sh, ke, go⟩ := u_
      try dsimp only at hpo
      have hP : va_P (dC, dI) vwCl [(h1, .inr (1, [.int (nI 1), .int (nI n), .ref a1, .ref a2, .ref a3, .ref a4])), (a1, .inl (cL, 8, .inr (.inl (fun z => lN (w z))))), (a2, .inl (cL, 8, .inr (.inl sh))), (a3, .inl (cL, 8, .inr (.inl ke))), (a4, .inl (cZ, 8, .inl go))] H := hP
      have hD : va_D A [(h1, .inr (1, [.int (nI 1), .int (nI n), .ref a1, .ref a2, .ref a3, .ref a4])), (a1, .inl (cL, 8, .inr (.inl (fun z => lN (w z))))), (a2, .inl (cL, 8, .inr (.inl sh))), (a3, .inl (cL, 8, .inr (.inl ke))), (a4, .inl (cZ, 8, .inl go))] := hD
      subst hpo
      refine sd_iz_eq (a := 1) (tgt := 40) hx hb dX1_weight_35 (by decide) (by omega) (fun h => ?_) (fun h => ?_)
      · exact absurd h (by omega)
      · refine lv_iconst (v := (nI 0)) hx hb dX1_weight_38 (by decide +kernel) ?_
        exact W.iret hx hb hr (fun t ht hW => ⟨⟨_, (sh, ke, go), rfl, rfl, by rw [ht]; exact hP, va_K.moved hW.alike hK, by rw [← hAe]; exact hD⟩, by rw [← hAe]; exact hS.F ht⟩) (fun q hq => by rw [← hAe]; exact hS.2.2 q hq) dX1_weight_39
set_option maxHeartbeats 4000000 in
set_option maxRecDepth 100000 in
theorem m_weight (l : Launch) (dC : Nat → ClassId) (dI : Nat → Nat → Nat) (cL cZ : ClassId) (h1 a1 a2 a3 a4 er n : Nat) (w : Nat → Nat) (sh ke : Nat → Int64) (go : Nat → Int32) (sz : Nat) (ok : sd_ok n w) (q v : Nat) (hq : q < n) (hv : v ≤ 100000) : Met l yX1_weight (sd_ws yX1_weight cX1_weight 4 (some .int)) (sd_rm 3 0 0) (sd_Pw (dC, dI) vwCl [(cL, .long), (cZ, .boolean)] (sd_M cL cZ h1 a1 a2 a3 a4 er n w sh ke go) sz [.ref h1, .int (nI q), .int (nI v)]) (va_Qi (fun r (v_ : sd_S) => r = nI (w q)) (sd_Bw (dC, dI) vwCl [(cL, .long), (cZ, .boolean)] (sd_M cL cZ h1 a1 a2 a3 a4 er n w sh ke go) sz (fun v_ => (sd_M cL cZ h1 a1 a2 a3 a4 0 n (sd_up w q v) v_.1 v_.2.1 v_.2.2))) (va_A (sd_M cL cZ h1 a1 a2 a3 a4 er n w sh ke go) sz)) 0 0 (va_A (sd_M cL cZ h1 a1 a2 a3 a4 er n w sh ke go) sz) := by
  refine Met.ofW (cc := cX1_weight) (maxL := 4) (ret := (some .int)) (by decide) rfl ?_
  intro p e s m args below meth c s₁ B hml hv
  obtain ⟨rfl, hsz, hP, hK, hD0⟩ := hv
  subst hsz
  have hx := B.exec
  have hb := B.bytes
  have hr := B.returns
  have hts0 := atoms_spec (ws := (sd_ws yX1_weight cX1_weight 4 (some .int))) B.pre
  have hts : ∀ w ∈ sd_WS, w.before _ s = true := fun w h => hts0 w (List.mem_cons_of_mem _ h)
  have hown : s.vm.findClass RX1 = some m.cls := findClass_of_methodNamed B.named
  have hlocks := B.notSynchronized
  have hl := lv_entry ([.ref h1, .int (nI q), .int (nI v)]) (n := 4) (Nat.le_of_ble_eq_true rfl)
  rw [lg_entry_eq]
  generalize (lg_sl ([.ref h1, .int (nI q), .int (nI v)]) ++ List.replicate (4 - (lg_sl ([.ref h1, .int (nI q), .int (nI v)])).length) Slot.unset).toArray = ls at hl ⊢
  have hl : lv_has ls 4 [(0, .ref h1), (1, .int (nI q)), (2, .int (nI v))] := hl
  obtain ⟨A, hAe⟩ : ∃ A, A = va_A (sd_M cL cZ h1 a1 a2 a3 a4 er n w sh ke go) s.heap.size := ⟨_, rfl⟩
  have hD : va_D A (sd_M cL cZ h1 a1 a2 a3 a4 er n w sh ke go) := by rw [hAe]; exact hD0.self
  have hA : ∀ q : Nat, s.heap.size ≤ q → A q := fun q h => by rw [hAe]; exact Or.inr h
  have hS : va_S A s.heap s.heap [] := va_S.rf
  have hP : va_P (dC, dI) vwCl [(h1, .inr (1, [.int (nI er), .int (nI n), .ref a1, .ref a2, .ref a3, .ref a4])), (a1, .inl (cL, 8, .inr (.inl (fun z => lN (w z))))), (a2, .inl (cL, 8, .inr (.inl sh))), (a3, .inl (cL, 8, .inr (.inl ke))), (a4, .inl (cZ, 8, .inl go))] s.heap := hP
  have hD : va_D A [(h1, .inr (1, [.int (nI er), .int (nI n), .ref a1, .ref a2, .ref a3, .ref a4])), (a1, .inl (cL, 8, .inr (.inl (fun z => lN (w z))))), (a2, .inl (cL, 8, .inr (.inl sh))), (a3, .inl (cL, 8, .inr (.inl ke))), (a4, .inl (cZ, 8, .inl go))] := hD
  have hn1 := ok.1
  have hn8 := ok.2.1
  have hwq := ok.2.2.1 q
  refine lv_aload_n hx hb dX1_weight_0 rfl (lv_at hl 0 rfl) ?_
  refine lv_iconst (v := (nI 0)) hx hb dX1_weight_1 (by decide +kernel) ?_
  refine va_put (D := (dC, dI)) (ci := 1) (v := .int (nI 0)) (ty := .int) (C := RX1) (T := TX1) (N := 6) hx hb hts u_in_X1 tyX1 tyX1_ok nmX1 hown hK hP hD hS 0 rfl rfl 0 (by decide) (hts (.fieldLink RX1 27 "ShareDeskModel" "err" "I") k_fieldLink_X1_27) (fun _ h9 => h9) rfl (by decide +kernel) rfl rfl (Nat.le_of_ble_eq_true rfl) dX1_weight_2 (fun H locs hP hD hS => ?_)
  have hP : va_P (dC, dI) vwCl [(h1, .inr (1, [.int (nI 0), .int (nI n), .ref a1, .ref a2, .ref a3, .ref a4])), (a1, .inl (cL, 8, .inr (.inl (fun z => lN (w z))))), (a2, .inl (cL, 8, .inr (.inl sh))), (a3, .inl (cL, 8, .inr (.inl ke))), (a4, .inl (cZ, 8, .inl go))] H := hP
  have hD : va_D A [(h1, .inr (1, [.int (nI 0), .int (nI n), .ref a1, .ref a2, .ref a3, .ref a4])), (a1, .inl (cL, 8, .inr (.inl (fun z => lN (w z))))), (a2, .inl (cL, 8, .inr (.inl sh))), (a3, .inl (cL, 8, .inr (.inl ke))), (a4, .inl (cZ, 8, .inl go))] := hD
  refine lv_aload_n hx hb dX1_weight_5 rfl (lv_at hl 0 rfl) ?_
  refine lv_aload_n hx hb dX1_weight_6 rfl (lv_at hl 0 rfl) ?_
  refine lv_iload_n hx hb dX1_weight_7 rfl (lv_at hl 1 rfl) ?_
  refine sd_calli (va_runV (As := [.int (nI q)]) (rest := [.ref h1]) ⟨hx, hb, hml, hown, hts0⟩ (m_isParty l dC dI cL cZ h1 a1 a2 a3 a4 0 n w sh ke go hn1 hn8 (nI q)) (cwV 1 hts0 (sd_gV k_methodLink_X1_42 k_instanceMethod_X1_isParty k_sel_X1_isParty k_init_ShareDeskModel k_code_X1_isParty) rfl rfl rfl (by decide +kernel) ⟨Nat.le_of_ble_eq_true rfl, Nat.le_of_ble_eq_true rfl⟩) (sd_preV hK hP (q0 := 0) (ci := 1) rfl rfl) rfl rfl hl.1 rfl (lv_room (Nat.le_of_ble_eq_true rfl)) dX1_weight_8 ⟨Nat.zero_le _, Nat.zero_le _⟩) ?_
  refine sd_bz_eq (tgt := 26) hx hb dX1_weight_11 (by decide) (fun h => ?_) (fun h => ?_)
  · exact absurd h (by rw [sd_rg_nI (by omega) (by omega) (by omega) (by omega)]; decide)
  · refine lv_iload_n hx hb dX1_weight_14 rfl (lv_at hl 2 rfl) ?_
    refine lv_i2l (v := (nI v).toInt64) hx hb dX1_weight_15 rfl ?_
    refine lv_lconst (v := lN 0) hx hb dX1_weight_16 rfl ?_
    refine lv_ldc2 (v := 100000) hx hb hown (hts (.constantLong RX1 46 100000) k_constantLong_X1_46) dX1_weight_17 ?_
    refine sd_topl (y := lN 100000) (by decide +kernel) ?_
    refine sd_calli (va_runS (As := [.long ((nI v).toInt64), .long (lN 0), .long (lN 100000)]) (rest := [.ref h1]) ⟨hx, hb, hml, hown, hts0⟩ (m_in l dC dI (nI v).toInt64 (lN 0) (lN 100000)) (cwS 3 hts0 (sd_gS k_methodLink_X1_30 k_static_X1_in k_init_ShareDeskModel k_code_X1_in) rfl rfl rfl (by decide +kernel) ⟨Nat.le_of_ble_eq_true rfl, Nat.le_of_ble_eq_true rfl⟩) (sd_preS (sd_K0 hK) (sd_nil _ _ _)) rfl rfl hl.1 rfl (lv_room (Nat.le_of_ble_eq_true rfl)) dX1_weight_20 ⟨Nat.zero_le _, Nat.zero_le _⟩) ?_
    refine sd_bz_ne (tgt := 30) hx hb dX1_weight_23 (by decide) (fun h => ?_) (fun h => ?_)
    · refine lv_iconst (v := (nI 0)) hx hb dX1_weight_30 (by decide +kernel) ?_
      refine lv_iconst (v := (nI 1)) hx hb dX1_weight_31 (by decide +kernel) ?_
      refine sd_calli (va_runV (As := [.int (nI 0), .int (nI 1)]) (rest := []) ⟨hx, hb, hml, hown, hts0⟩ (m_fails0 l dC dI cL cZ h1 a1 a2 a3 a4 0 n w sh ke go rfl 1) (cwV 2 hts0 (sd_gV k_methodLink_X1_38 k_instanceMethod_X1_fails k_sel_X1_fails k_init_ShareDeskModel k_code_X1_fails) rfl rfl rfl (by decide +kernel) ⟨Nat.le_of_ble_eq_true rfl, Nat.le_of_ble_eq_true rfl⟩) (sd_preV hK hP (q0 := 0) (ci := 1) rfl rfl) rfl rfl hl.1 rfl (lv_room (Nat.le_of_ble_eq_true rfl)) dX1_weight_32 ⟨Nat.zero_le _, Nat.zero_le _⟩) ?_
      refine sd_iz_eq (a := 0) (tgt := 40) hx hb dX1_weight_35 (by decide) (by omega) (fun h => ?_) (fun h => ?_)
      · refine lv_aload_n hx hb dX1_weight_40 rfl (lv_at hl 0 rfl) ?_
        refine va_get (D := (dC, dI)) (ci := 1) (v := .ref a1) (C := RX1) (T := TX1) (N := 6) hx hb hts u_in_X1 hown hK hP 0 rfl rfl 2 (by decide) (hts (.fieldLink RX1 13 "ShareDeskModel" "weights" "[J") k_fieldLink_X1_13) (fun _ h9 => h9) rfl dX1_weight_41 ?_
        refine lv_iload_n hx hb dX1_weight_44 rfl (lv_at hl 1 rfl) ?_
        refine sd_lald (j := q) (v := lN (w q)) hx hb hK hP 1 0 rfl rfl (by omega) (by decide) rfl dX1_weight_45 ?_
        refine lv_l2i (v := nI (w q)) hx hb dX1_weight_46 (lN_i _) ?_
        refine lv_istore_n hx hb dX1_weight_47 rfl hl (by decide) rfl (fun ls hl => ?_)
        have hl : lv_has ls 4 [(3, .int (nI (w q))), (0, .ref h1), (1, .int (nI q)), (2, .int (nI v))] := hl
        refine lv_aload_n hx hb dX1_weight_48 rfl (lv_at hl 1 rfl) ?_
        refine va_get (D := (dC, dI)) (ci := 1) (v := .ref a1) (C := RX1) (T := TX1) (N := 6) hx hb hts u_in_X1 hown hK hP 0 rfl rfl 2 (by decide) (hts (.fieldLink RX1 13 "ShareDeskModel" "weights" "[J") k_fieldLink_X1_13) (fun _ h9 => h9) rfl dX1_weight_49 ?_
        refine lv_iload_n hx hb dX1_weight_52 rfl (lv_at hl 2 rfl) ?_
        refine lv_iload_n hx hb dX1_weight_53 rfl (lv_at hl 3 rfl) ?_
        refine lv_i2l (v := lN v) hx hb dX1_weight_54 (nI_l (by omega)) ?_
        refine sd_last (j := q) hx hb hK hP hD hS 1 0 rfl rfl (by omega) (by decide) dX1_weight_55 (fun H locs hP hD hS => ?_)
        have hP : va_P (dC, dI) vwCl [(h1, .inr (1, [.int (nI 0), .int (nI n), .ref a1, .ref a2, .ref a3, .ref a4])), (a1, .inl (cL, 8, .inr (.inl (fun z => lN ((sd_up w q v) z))))), (a2, .inl (cL, 8, .inr (.inl sh))), (a3, .inl (cL, 8, .inr (.inl ke))), (a4, .inl (cZ, 8, .inl go))] H := by rw [← sd_updL_w]; exact hP
        have hD : va_D A [(h1, .inr (1, [.int (nI 0), .int (nI n), .ref a1, .ref a2, .ref a3, .ref a4])), (a1, .inl (cL, 8, .inr (.inl (fun z => lN ((sd_up w q v) z))))), (a2, .inl (cL, 8, .inr (.inl sh))), (a3, .inl (cL, 8, .inr (.inl ke))), (a4, .inl (cZ, 8, .inl go))] := by rw [← sd_updL_w]; exact hD
        refine lv_iload_n hx hb dX1_weight_56 rfl (lv_at hl 0 rfl) ?_
        exact W.iret hx hb hr (fun t ht hW => ⟨⟨_, (sh, ke, go), rfl, rfl, by rw [ht]; exact hP, va_K.moved hW.alike hK, by rw [← hAe]; exact hD⟩, by rw [← hAe]; exact hS.F ht⟩) (fun q hq => by rw [← hAe]; exact hS.2.2 q hq) dX1_weight_57
      · exact absurd h (by omega)
    · exact absurd (show sd_rg (nI v) 0 100000 = false from h) (by rw [sd_rg_nI (by omega) (by omega) (by omega) (by omega)]; decide)
set_option maxHeartbeats 4000000 in
set_option maxRecDepth 100000 in
theorem m_init (l : Launch) (dC : Nat → ClassId) (dI : Nat → Nat → Nat) (h1 sz : Nat) : Met l yX1_init (sd_ws yX1_init cX1_init 1 none) (sd_rm 1 4 32) (sd_Pw (dC, dI) vwCl [] [(h1, .inr (1, [.int 0, .int 0, .null, .null, .null, .null]))] sz [.ref h1]) (va_Qv (fun (_ : ClassId × ClassId × Nat × Nat × Nat × Nat) => True) (fun u t => va_P (dC, dI) vwCl (sd_M u.1 u.2.1 h1 u.2.2.1 u.2.2.2.1 u.2.2.2.2.1 u.2.2.2.2.2 0 2 (fun _ => 0) (fun _ => lN 0) (fun _ => lN 0) (fun _ => nI 0)) t.heap ∧ va_K (dC, dI) vwCl [(u.1, .long), (u.2.1, .boolean)] t ∧ va_D (va_A [(h1, .inr (1, [.int 0, .int 0, .null, .null, .null, .null]))] sz) (sd_M u.1 u.2.1 h1 u.2.2.1 u.2.2.2.1 u.2.2.2.2.1 u.2.2.2.2.2 0 2 (fun _ => 0) (fun _ => lN 0) (fun _ => lN 0) (fun _ => nI 0))) (va_A [(h1, .inr (1, [.int 0, .int 0, .null, .null, .null, .null]))] sz)) 4 32 (va_A [(h1, .inr (1, [.int 0, .int 0, .null, .null, .null, .null]))] sz) := by
  refine Met.ofW (cc := cX1_init) (maxL := 1) (ret := none) (by decide) rfl ?_
  intro p e s m args below meth c s₁ B hml hv
  obtain ⟨rfl, hsz, hP, hK, hD0⟩ := hv
  subst hsz
  have hx := B.exec
  have hb := B.bytes
  have hr := B.returns
  have hts0 := atoms_spec (ws := (sd_ws yX1_init cX1_init 1 none)) B.pre
  have hts : ∀ w ∈ sd_WS, w.before _ s = true := fun w h => hts0 w (List.mem_cons_of_mem _ h)
  have hown : s.vm.findClass RX1 = some m.cls := findClass_of_methodNamed B.named
  have hlocks := B.notSynchronized
  have hl := lv_entry ([.ref h1]) (n := 1) (Nat.le_of_ble_eq_true rfl)
  rw [lg_entry_eq]
  generalize (lg_sl ([.ref h1]) ++ List.replicate (1 - (lg_sl ([.ref h1])).length) Slot.unset).toArray = ls at hl ⊢
  have hl : lv_has ls 1 [(0, .ref h1)] := hl
  obtain ⟨A, hAe⟩ : ∃ A, A = va_A [(h1, .inr (1, [.int 0, .int 0, .null, .null, .null, .null]))] s.heap.size := ⟨_, rfl⟩
  have hD : va_D A [(h1, .inr (1, [.int 0, .int 0, .null, .null, .null, .null]))] := by rw [hAe]; exact hD0.self
  have hA : ∀ q : Nat, s.heap.size ≤ q → A q := fun q h => by rw [hAe]; exact Or.inr h
  have hS : va_S A s.heap s.heap [] := va_S.rf
  have hin : meth.name = "<init>" := (name_of_methodNamed B.named B.method).1
  refine lv_aload_n hx hb dX1_init_0 rfl (lv_at hl 0 rfl) ?_
  refine W.objInit hx hb hown (hts (.methodLink RX1 1 objectInit) k_methodLink_X1_1) (hts (.instanceMethod objectInit) k_objI) (hts _ k_objC) rfl (by rw [hml]; exact hl.1) rfl dX1_init_1 (Nat.le_of_ble_eq_true rfl) (Nat.le_of_ble_eq_true rfl) ?_
  refine W.eq (g2 := F0 m 4 ls []) rfl ?_
  refine lv_aload_n hx hb dX1_init_4 rfl (lv_at hl 0 rfl) ?_
  refine lv_iconst (v := (nI 2)) hx hb dX1_init_5 (by decide +kernel) ?_
  refine va_put (D := (dC, dI)) (ci := 1) (v := .int (nI 2)) (ty := .int) (C := RX1) (T := TX1) (N := 6) hx hb hts u_in_X1 tyX1 tyX1_ok nmX1 hown hK hP hD hS 0 rfl rfl 1 (by decide) (hts (.fieldLink RX1 7 "ShareDeskModel" "parties" "I") k_fieldLink_X1_7) (fun _ h9 => h9) rfl (by decide +kernel) rfl rfl (Nat.le_of_ble_eq_true rfl) dX1_init_6 (fun H locs hP hD hS => ?_)
  have hP : va_P (dC, dI) vwCl [(h1, .inr (1, [.int 0, .int (nI 2), .null, .null, .null, .null]))] H := hP
  have hD : va_D A [(h1, .inr (1, [.int 0, .int (nI 2), .null, .null, .null, .null]))] := hD
  refine lv_aload_n hx hb dX1_init_9 rfl (lv_at hl 0 rfl) ?_
  refine lv_bipush (v := nI 8) hx hb dX1_init_10 (by decide +kernel) ?_
  have hc1 : 0 + 1 ≤ ((headSpec (sd_ws yX1_init cX1_init 1 none) (sd_rm 1 4 32)).room).cells := by show 1 ≤ 4; omega
  have hs1 : 0 + 8 ≤ ((headSpec (sd_ws yX1_init cX1_init 1 none) (sd_rm 1 4 32)).room).slots := by show 8 ≤ 32; omega
  refine va_newa (atype := .long) (ty := .long) (N' := 8) (a0 := (8, .inr (.inl (fun _ => 0)))) hx hb (hts (.arrayClass .long) k_arrL) rfl hK hP hD hS hA (fun cA => rfl) (by decide +kernel) (by decide +kernel) (by decide +kernel) hc1 hs1 dX1_init_12 (fun a1 c0 H hK hP hD hS => ?_)
  have hP : va_P (dC, dI) vwCl [(h1, .inr (1, [.int 0, .int (nI 2), .null, .null, .null, .null])), (a1, .inl (c0, 8, .inr (.inl (fun _ => 0))))] H := hP
  have hD : va_D A [(h1, .inr (1, [.int 0, .int (nI 2), .null, .null, .null, .null])), (a1, .inl (c0, 8, .inr (.inl (fun _ => 0))))] := hD
  have hK : va_K (dC, dI) vwCl [(c0, .long)] s := hK
  refine W.widen (k := 1) (n := 8) (by omega) (by omega) ?_
  refine va_putF (D := (dC, dI)) (ci := 1) (v := .ref a1) (ty := .array .long) (C := RX1) (T := TX1) (N := 6) hx hb hts u_in_X1 tyX1 tyX1_ok nmX1 hown hK hP hD hS 0 rfl rfl 2 (by decide) (hts (.fieldLink RX1 13 "ShareDeskModel" "weights" "[J") k_fieldLink_X1_13) (fun _ h9 => h9) rfl hin rfl (by decide +kernel) rfl rfl (Nat.le_of_ble_eq_true rfl) dX1_init_14 (fun H locs hP hD hS => ?_)
  have hP : va_P (dC, dI) vwCl [(h1, .inr (1, [.int 0, .int (nI 2), .ref a1, .null, .null, .null])), (a1, .inl (c0, 8, .inr (.inl (fun _ => 0))))] H := hP
  have hD : va_D A [(h1, .inr (1, [.int 0, .int (nI 2), .ref a1, .null, .null, .null])), (a1, .inl (c0, 8, .inr (.inl (fun _ => 0))))] := hD
  refine lv_aload_n hx hb dX1_init_17 rfl (lv_at hl 0 rfl) ?_
  refine lv_bipush (v := nI 8) hx hb dX1_init_18 (by decide +kernel) ?_
  have hc1 : 1 + 1 ≤ ((headSpec (sd_ws yX1_init cX1_init 1 none) (sd_rm 1 4 32)).room).cells := by show 2 ≤ 4; omega
  have hs1 : 8 + 8 ≤ ((headSpec (sd_ws yX1_init cX1_init 1 none) (sd_rm 1 4 32)).room).slots := by show 16 ≤ 32; omega
  refine va_newa (atype := .long) (ty := .long) (N' := 8) (a0 := (8, .inr (.inl (fun _ => 0)))) hx hb (hts (.arrayClass .long) k_arrL) rfl hK hP hD hS hA (fun cA => rfl) (by decide +kernel) (by decide +kernel) (by decide +kernel) hc1 hs1 dX1_init_20 (fun a2 c1 H hK hP hD hS => ?_)
  have hP : va_P (dC, dI) vwCl [(h1, .inr (1, [.int 0, .int (nI 2), .ref a1, .null, .null, .null])), (a1, .inl (c0, 8, .inr (.inl (fun _ => 0)))), (a2, .inl (c1, 8, .inr (.inl (fun _ => 0))))] H := hP
  have hD : va_D A [(h1, .inr (1, [.int 0, .int (nI 2), .ref a1, .null, .null, .null])), (a1, .inl (c0, 8, .inr (.inl (fun _ => 0)))), (a2, .inl (c1, 8, .inr (.inl (fun _ => 0))))] := hD
  have hK : va_K (dC, dI) vwCl [(c0, .long), (c1, .long)] s := hK
  refine W.widen (k := 2) (n := 16) (by omega) (by omega) ?_
  refine va_putF (D := (dC, dI)) (ci := 1) (v := .ref a2) (ty := .array .long) (C := RX1) (T := TX1) (N := 6) hx hb hts u_in_X1 tyX1 tyX1_ok nmX1 hown hK hP hD hS 0 rfl rfl 3 (by decide) (hts (.fieldLink RX1 17 "ShareDeskModel" "shares" "[J") k_fieldLink_X1_17) (fun _ h9 => h9) rfl hin rfl (by decide +kernel) rfl rfl (Nat.le_of_ble_eq_true rfl) dX1_init_22 (fun H locs hP hD hS => ?_)
  have hP : va_P (dC, dI) vwCl [(h1, .inr (1, [.int 0, .int (nI 2), .ref a1, .ref a2, .null, .null])), (a1, .inl (c0, 8, .inr (.inl (fun _ => 0)))), (a2, .inl (c1, 8, .inr (.inl (fun _ => 0))))] H := hP
  have hD : va_D A [(h1, .inr (1, [.int 0, .int (nI 2), .ref a1, .ref a2, .null, .null])), (a1, .inl (c0, 8, .inr (.inl (fun _ => 0)))), (a2, .inl (c1, 8, .inr (.inl (fun _ => 0))))] := hD
  refine lv_aload_n hx hb dX1_init_25 rfl (lv_at hl 0 rfl) ?_
  refine lv_bipush (v := nI 8) hx hb dX1_init_26 (by decide +kernel) ?_
  have hc1 : 2 + 1 ≤ ((headSpec (sd_ws yX1_init cX1_init 1 none) (sd_rm 1 4 32)).room).cells := by show 3 ≤ 4; omega
  have hs1 : 16 + 8 ≤ ((headSpec (sd_ws yX1_init cX1_init 1 none) (sd_rm 1 4 32)).room).slots := by show 24 ≤ 32; omega
  refine va_newa (atype := .long) (ty := .long) (N' := 8) (a0 := (8, .inr (.inl (fun _ => 0)))) hx hb (hts (.arrayClass .long) k_arrL) rfl hK hP hD hS hA (fun cA => rfl) (by decide +kernel) (by decide +kernel) (by decide +kernel) hc1 hs1 dX1_init_28 (fun a3 c2 H hK hP hD hS => ?_)
  have hP : va_P (dC, dI) vwCl [(h1, .inr (1, [.int 0, .int (nI 2), .ref a1, .ref a2, .null, .null])), (a1, .inl (c0, 8, .inr (.inl (fun _ => 0)))), (a2, .inl (c1, 8, .inr (.inl (fun _ => 0)))), (a3, .inl (c2, 8, .inr (.inl (fun _ => 0))))] H := hP
  have hD : va_D A [(h1, .inr (1, [.int 0, .int (nI 2), .ref a1, .ref a2, .null, .null])), (a1, .inl (c0, 8, .inr (.inl (fun _ => 0)))), (a2, .inl (c1, 8, .inr (.inl (fun _ => 0)))), (a3, .inl (c2, 8, .inr (.inl (fun _ => 0))))] := hD
  have hK : va_K (dC, dI) vwCl [(c0, .long), (c1, .long), (c2, .long)] s := hK
  refine W.widen (k := 3) (n := 24) (by omega) (by omega) ?_
  refine va_putF (D := (dC, dI)) (ci := 1) (v := .ref a3) (ty := .array .long) (C := RX1) (T := TX1) (N := 6) hx hb hts u_in_X1 tyX1 tyX1_ok nmX1 hown hK hP hD hS 0 rfl rfl 4 (by decide) (hts (.fieldLink RX1 20 "ShareDeskModel" "kept" "[J") k_fieldLink_X1_20) (fun _ h9 => h9) rfl hin rfl (by decide +kernel) rfl rfl (Nat.le_of_ble_eq_true rfl) dX1_init_30 (fun H locs hP hD hS => ?_)
  have hP : va_P (dC, dI) vwCl [(h1, .inr (1, [.int 0, .int (nI 2), .ref a1, .ref a2, .ref a3, .null])), (a1, .inl (c0, 8, .inr (.inl (fun _ => 0)))), (a2, .inl (c1, 8, .inr (.inl (fun _ => 0)))), (a3, .inl (c2, 8, .inr (.inl (fun _ => 0))))] H := hP
  have hD : va_D A [(h1, .inr (1, [.int 0, .int (nI 2), .ref a1, .ref a2, .ref a3, .null])), (a1, .inl (c0, 8, .inr (.inl (fun _ => 0)))), (a2, .inl (c1, 8, .inr (.inl (fun _ => 0)))), (a3, .inl (c2, 8, .inr (.inl (fun _ => 0))))] := hD
  refine lv_aload_n hx hb dX1_init_33 rfl (lv_at hl 0 rfl) ?_
  refine lv_bipush (v := nI 8) hx hb dX1_init_34 (by decide +kernel) ?_
  have hc1 : 3 + 1 ≤ ((headSpec (sd_ws yX1_init cX1_init 1 none) (sd_rm 1 4 32)).room).cells := by show 4 ≤ 4; omega
  have hs1 : 24 + 8 ≤ ((headSpec (sd_ws yX1_init cX1_init 1 none) (sd_rm 1 4 32)).room).slots := by show 32 ≤ 32; omega
  refine va_newa (atype := .boolean) (ty := .boolean) (N' := 8) (a0 := (8, .inl (fun _ => 0))) hx hb (hts (.arrayClass .boolean) k_arrZ) rfl hK hP hD hS hA (fun cA => rfl) (by decide +kernel) (by decide +kernel) (by decide +kernel) hc1 hs1 dX1_init_36 (fun a4 c3 H hK hP hD hS => ?_)
  have hP : va_P (dC, dI) vwCl [(h1, .inr (1, [.int 0, .int (nI 2), .ref a1, .ref a2, .ref a3, .null])), (a1, .inl (c0, 8, .inr (.inl (fun _ => 0)))), (a2, .inl (c1, 8, .inr (.inl (fun _ => 0)))), (a3, .inl (c2, 8, .inr (.inl (fun _ => 0)))), (a4, .inl (c3, 8, .inl (fun _ => 0)))] H := hP
  have hD : va_D A [(h1, .inr (1, [.int 0, .int (nI 2), .ref a1, .ref a2, .ref a3, .null])), (a1, .inl (c0, 8, .inr (.inl (fun _ => 0)))), (a2, .inl (c1, 8, .inr (.inl (fun _ => 0)))), (a3, .inl (c2, 8, .inr (.inl (fun _ => 0)))), (a4, .inl (c3, 8, .inl (fun _ => 0)))] := hD
  have hK : va_K (dC, dI) vwCl [(c0, .long), (c1, .long), (c2, .long), (c3, .boolean)] s := hK
  refine W.widen (k := 4) (n := 32) (by omega) (by omega) ?_
  refine va_putF (D := (dC, dI)) (ci := 1) (v := .ref a4) (ty := .array .boolean) (C := RX1) (T := TX1) (N := 6) hx hb hts u_in_X1 tyX1 tyX1_ok nmX1 hown hK hP hD hS 0 rfl rfl 5 (by decide) (hts (.fieldLink RX1 23 "ShareDeskModel" "got" "[Z") k_fieldLink_X1_23) (fun _ h9 => h9) rfl hin rfl (by decide +kernel) rfl rfl (Nat.le_of_ble_eq_true rfl) dX1_init_38 (fun H locs hP hD hS => ?_)
  have hP : va_P (dC, dI) vwCl [(h1, .inr (1, [.int 0, .int (nI 2), .ref a1, .ref a2, .ref a3, .ref a4])), (a1, .inl (c0, 8, .inr (.inl (fun _ => 0)))), (a2, .inl (c1, 8, .inr (.inl (fun _ => 0)))), (a3, .inl (c2, 8, .inr (.inl (fun _ => 0)))), (a4, .inl (c3, 8, .inl (fun _ => 0)))] H := hP
  have hD : va_D A [(h1, .inr (1, [.int 0, .int (nI 2), .ref a1, .ref a2, .ref a3, .ref a4])), (a1, .inl (c0, 8, .inr (.inl (fun _ => 0)))), (a2, .inl (c1, 8, .inr (.inl (fun _ => 0)))), (a3, .inl (c2, 8, .inr (.inl (fun _ => 0)))), (a4, .inl (c3, 8, .inl (fun _ => 0)))] := hD
  have e1 : c1 = c0 := Option.some.inj ((hK.2 1 _ rfl).2.symm.trans (hK.2 0 _ rfl).2)
  have e2 : c2 = c0 := Option.some.inj ((hK.2 2 _ rfl).2.symm.trans (hK.2 0 _ rfl).2)
  subst e1
  subst e2
  have eL : (fun _ : Nat => (0 : Int64)) = fun _ => lN 0 := rfl
  have eI : (fun _ : Nat => (0 : Int32)) = fun _ => nI 0 := by funext z; exact nI_0.symm
  rw [eL, eI] at hP hD
  have hP : va_P (dC, dI) vwCl (sd_M c2 c3 h1 a1 a2 a3 a4 0 2 (fun _ => 0) (fun _ => lN 0) (fun _ => lN 0) (fun _ => nI 0)) H := hP
  have hD : va_D A (sd_M c2 c3 h1 a1 a2 a3 a4 0 2 (fun _ => 0) (fun _ => lN 0) (fun _ => lN 0) (fun _ => nI 0)) := hD
  have hK := hK.sub (tys' := [(c2, .long), (c3, .boolean)]) [0, 3] rfl
  exact W.vret hx hb hr (fun t ht hW => ⟨⟨(c2, c3, a1, a2, a3, a4), rfl, trivial, by rw [ht]; exact hP, va_K.moved hW.alike hK, by rw [← hAe]; exact hD⟩, by rw [← hAe]; exact hS.F ht⟩) (fun q hq => by rw [← hAe]; exact hS.2.2 q hq) dX1_init_41
