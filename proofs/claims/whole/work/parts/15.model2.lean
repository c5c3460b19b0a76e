set_option maxHeartbeats 4000000 in
set_option maxRecDepth 100000 in
theorem lp_one {p : Program} {l : Launch} {e : Env} {R : Room} {s : State} {m : MethodId} {args : Array Value} {below : List Frame} {meth : Method} {c : Code} {H : Heap} {locs : List Loc} {cells slots : Nat} {Q : State → Prop} (hx : p.tables.exec = Jvm.exec) (hb : c.code = cX1_one) (hml : c.maxLocals = 4) (hts0 : ∀ w ∈ (sd_ws yX1_one cX1_one 4 none), w.before args s = true) (hown : s.vm.findClass RX1 = some m.cls) {dC : Nat → ClassId} {dI : Nat → Nat → Nat} {cL cZ : ClassId} {h1 a1 a2 a3 a4 er n : Nat} {w : Nat → Nat} {sh ke : Nat → Int64} {go : Nat → Int32} (hK : va_K (dC, dI) vwCl [(cL, .long), (cZ, .boolean)] s) (hP : va_P (dC, dI) vwCl (sd_M cL cZ h1 a1 a2 a3 a4 er n w sh ke go) H) (ok : sd_ok n w) (y : Nat) (hy : y ≤ 2) (S : Nat → Nat) (hS1 : ∀ j, j < n → sh j = lN (S j)) (hS2 : ∀ j, j < n → S j ≤ 10001)
    (kk : ∀ ls : Array Slot, lv_has ls 4 [(0, .ref h1), (1, .int (nI y)), (2, .int (sd_oi (sd_best y w S n))), (3, .int (nI n))] → W p l e R s m args below meth c H locs cells slots Q (F0 m 75 ls []))
    : ∀ (f i : Nat), i + f = n → ∀ ls : Array Slot, lv_has ls 4 [(0, .ref h1), (1, .int (nI y)), (2, .int (sd_oi (sd_best y w S i))), (3, .int (nI i))] → W p l e R s m args below meth c H locs cells slots Q (F0 m 4 ls []) := by
  have hts : ∀ w ∈ sd_WS, w.before args s = true := fun w h => hts0 w (List.mem_cons_of_mem _ h)
  have hP : va_P (dC, dI) vwCl [(h1, .inr (1, [.int (nI er), .int (nI n), .ref a1, .ref a2, .ref a3, .ref a4])), (a1, .inl (cL, 8, .inr (.inl (fun z => lN (w z))))), (a2, .inl (cL, 8, .inr (.inl sh))), (a3, .inl (cL, 8, .inr (.inl ke))), (a4, .inl (cZ, 8, .inl go))] H := hP
  have hn8 := ok.2.1
  intro f
  induction f using Nat.strongRecOn with
  | ind f ih0 =>
    intro i hi ls hl
    have ih : i < n → ∀ ls : Array Slot, lv_has ls 4 [(0, .ref h1), (1, .int (nI y)), (2, .int (sd_oi (sd_best y w S (i + 1)))), (3, .int (nI (i + 1)))] → W p l e R s m args below meth c H locs cells slots Q (F0 m 4 ls []) := fun hlt => ih0 (f - 1) (by omega) (i + 1) (by omega)
    have hwi := ok.2.2.1 i
    have hbs : (sd_best y w S (i + 1)) = if decide (0 < w i) && sd_bt y w S i (sd_best y w S i) then some i else (sd_best y w S i) := rfl
    refine lv_iload_n hx hb dX1_one_4 rfl (lv_at hl 3 rfl) ?_
    refine lv_aload_n hx hb dX1_one_5 rfl (lv_at hl 0 rfl) ?_
    refine va_get (D := (dC, dI)) (ci := 1) (v := .int (nI n)) (C := RX1) (T := TX1) (N := 6) hx hb hts u_in_X1 hown hK hP 0 rfl rfl 1 (by decide) (hts (.fieldLink RX1 7 "ShareDeskModel" "parties" "I") k_fieldLink_X1_7) (fun _ h9 => h9) rfl dX1_one_6 ?_
    refine sd_ic_ge (a := i) (b := n) (tgt := 75) hx hb dX1_one_9 (by decide) (by omega) (by omega) (fun h => ?_) (fun h => ?_)
    · have hin : i = n := by omega
      subst hin
      exact kk ls hl
    · refine lv_aload_n hx hb dX1_one_12 rfl (lv_at hl 0 rfl) ?_
      refine va_get (D := (dC, dI)) (ci := 1) (v := .ref a1) (C := RX1) (T := TX1) (N := 6) hx hb hts u_in_X1 hown hK hP 0 rfl rfl 2 (by decide) (hts (.fieldLink RX1 13 "ShareDeskModel" "weights" "[J") k_fieldLink_X1_13) (fun _ h9 => h9) rfl dX1_one_13 ?_
      refine lv_iload_n hx hb dX1_one_16 rfl (lv_at hl 3 rfl) ?_
      refine sd_lald (j := i) (v := lN (w i)) hx hb hK hP 1 0 rfl rfl (by omega) (by decide) rfl dX1_one_17 ?_
      refine lv_lconst (v := lN 0) hx hb dX1_one_18 rfl ?_
      refine sd_lc_le (a := w i) (b := 0) (tgt := 69) hx hb dX1_one_19 dX1_one_20 (by decide) (by omega) (by omega) (fun h => ?_) (fun h => ?_)
      · have hbs2 : (sd_best y w S (i + 1)) = (sd_best y w S i) := by rw [hbs, decide_eq_false (by omega)]; rfl
        refine lv_iinc (k := 3) (v := nI (i + 1)) hx hb dX1_one_69 hl rfl (nI_add _ 1) (by decide) rfl (fun ls hl => ?_)
        have hl : lv_has ls 4 [(3, .int (nI (i + 1))), (0, .ref h1), (1, .int (nI y)), (2, .int (sd_oi (sd_best y w S i)))] := hl
        refine lv_goto (tgt := 4) hx hb dX1_one_72 (by decide) ?_
        have hl := lv_sub (l' := [(0, .ref h1), (1, .int (nI y)), (2, .int (sd_oi (sd_best y w S i))), (3, .int (nI (i + 1)))]) hl [1, 2, 3, 0] rfl
        rw [← hbs2] at hl
        exact ih (by omega) ls hl
      · have hwpos := h
        cases hbb : sd_best y w S i with
        | none =>
          rw [hbb] at hl hbs
          have hbs2 : (sd_best y w S (i + 1)) = some i := by rw [hbs, decide_eq_true hwpos]; rfl
          refine lv_iload_n hx hb dX1_one_23 rfl (lv_at hl 2 rfl) ?_
          refine lv_if_lt (tgt := 67) hx hb dX1_one_24 (by decide) (fun h => ?_) (fun h => ?_)
          · refine lv_iload_n hx hb dX1_one_67 rfl (lv_at hl 3 rfl) ?_
            refine lv_istore_n hx hb dX1_one_68 rfl hl (by decide) rfl (fun ls hl => ?_)
            have hl : lv_has ls 4 [(2, .int (nI i)), (0, .ref h1), (1, .int (nI y)), (3, .int (nI i))] := hl
            refine lv_iinc (k := 3) (v := nI (i + 1)) hx hb dX1_one_69 hl rfl (nI_add _ 1) (by decide) rfl (fun ls hl => ?_)
            have hl : lv_has ls 4 [(3, .int (nI (i + 1))), (2, .int (nI i)), (0, .ref h1), (1, .int (nI y))] := hl
            refine lv_goto (tgt := 4) hx hb dX1_one_72 (by decide) ?_
            have hl := lv_sub (l' := [(0, .ref h1), (1, .int (nI y)), (2, .int (nI i)), (3, .int (nI (i + 1)))]) hl [2, 3, 1, 0] rfl
            have hl : lv_has ls 4 [(0, .ref h1), (1, .int (nI y)), (2, .int (sd_oi (sd_best y w S (i + 1)))), (3, .int (nI (i + 1)))] := by rw [hbs2]; exact hl
            exact ih (by omega) ls hl
          · exact absurd (by decide +kernel) h
        | some b0 =>
          rw [hbb] at hl hbs
          have hb0 := (sd_best_some hbb).1
          have hl : lv_has ls 4 [(0, .ref h1), (1, .int (nI y)), (2, .int (nI b0)), (3, .int (nI i))] := hl
          have hwb := ok.2.2.1 b0
          have hs1 := hS2 i (by omega)
          have hs2 := hS2 b0 (by omega)
          have hp1 : y * S b0 ≤ 2 * 10001 := Nat.mul_le_mul hy hs2
          have hp2 : y * S i ≤ 2 * 10001 := Nat.mul_le_mul hy hs1
          have hp3 : w i * (y * S b0 + 1) ≤ 100000 * 20003 := Nat.mul_le_mul hwi (by omega)
          have hp4 : w b0 * (y * S i + 1) ≤ 100000 * 20003 := Nat.mul_le_mul hwb (by omega)
          refine lv_iload_n hx hb dX1_one_23 rfl (lv_at hl 2 rfl) ?_
          refine sd_iz_lt (a := b0) (tgt := 67) hx hb dX1_one_24 (by decide) (by omega) ?_
          refine lv_aload_n hx hb dX1_one_27 rfl (lv_at hl 0 rfl) ?_
          refine va_get (D := (dC, dI)) (ci := 1) (v := .ref a1) (C := RX1) (T := TX1) (N := 6) hx hb hts u_in_X1 hown hK hP 0 rfl rfl 2 (by decide) (hts (.fieldLink RX1 13 "ShareDeskModel" "weights" "[J") k_fieldLink_X1_13) (fun _ h9 => h9) rfl dX1_one_28 ?_
          refine lv_iload_n hx hb dX1_one_31 rfl (lv_at hl 3 rfl) ?_
          refine sd_lald (j := i) (v := lN (w i)) hx hb hK hP 1 0 rfl rfl (by omega) (by decide) rfl dX1_one_32 ?_
          refine lv_iload_n hx hb dX1_one_33 rfl (lv_at hl 1 rfl) ?_
          refine lv_i2l (v := lN y) hx hb dX1_one_34 (nI_l (by omega)) ?_
          refine lv_aload_n hx hb dX1_one_35 rfl (lv_at hl 0 rfl) ?_
          refine va_get (D := (dC, dI)) (ci := 1) (v := .ref a2) (C := RX1) (T := TX1) (N := 6) hx hb hts u_in_X1 hown hK hP 0 rfl rfl 3 (by decide) (hts (.fieldLink RX1 17 "ShareDeskModel" "shares" "[J") k_fieldLink_X1_17) (fun _ h9 => h9) rfl dX1_one_36 ?_
          refine lv_iload_n hx hb dX1_one_39 rfl (lv_at hl 2 rfl) ?_
          refine sd_lald (j := b0) (v := lN (S b0)) hx hb hK hP 2 0 rfl rfl (by omega) (by decide) (hS1 b0 (by omega)) dX1_one_40 ?_
          refine sd_lmul (v := lN (y * (S b0))) hx hb dX1_one_41 (lN_mul _ _) ?_
          refine lv_lconst (v := lN 1) hx hb dX1_one_42 rfl ?_
          refine sd_ladd (v := lN ((y * (S b0)) + 1)) hx hb dX1_one_43 (lN_add _ _) ?_
          refine sd_lmul (v := lN ((w i) * ((y * (S b0)) + 1))) hx hb dX1_one_44 (lN_mul _ _) ?_
          refine lv_aload_n hx hb dX1_one_45 rfl (lv_at hl 0 rfl) ?_
          refine va_get (D := (dC, dI)) (ci := 1) (v := .ref a1) (C := RX1) (T := TX1) (N := 6) hx hb hts u_in_X1 hown hK hP 0 rfl rfl 2 (by decide) (hts (.fieldLink RX1 13 "ShareDeskModel" "weights" "[J") k_fieldLink_X1_13) (fun _ h9 => h9) rfl dX1_one_46 ?_
          refine lv_iload_n hx hb dX1_one_49 rfl (lv_at hl 2 rfl) ?_
          refine sd_lald (j := b0) (v := lN (w b0)) hx hb hK hP 1 0 rfl rfl (by omega) (by decide) rfl dX1_one_50 ?_
          refine lv_iload_n hx hb dX1_one_51 rfl (lv_at hl 1 rfl) ?_
          refine lv_i2l (v := lN y) hx hb dX1_one_52 (nI_l (by omega)) ?_
          refine lv_aload_n hx hb dX1_one_53 rfl (lv_at hl 0 rfl) ?_
          refine va_get (D := (dC, dI)) (ci := 1) (v := .ref a2) (C := RX1) (T := TX1) (N := 6) hx hb hts u_in_X1 hown hK hP 0 rfl rfl 3 (by decide) (hts (.fieldLink RX1 17 "ShareDeskModel" "shares" "[J") k_fieldLink_X1_17) (fun _ h9 => h9) rfl dX1_one_54 ?_
          refine lv_iload_n hx hb dX1_one_57 rfl (lv_at hl 3 rfl) ?_
          refine sd_lald (j := i) (v := lN (S i)) hx hb hK hP 2 0 rfl rfl (by omega) (by decide) (hS1 i (by omega)) dX1_one_58 ?_
          refine sd_lmul (v := lN (y * (S i))) hx hb dX1_one_59 (lN_mul _ _) ?_
          refine lv_lconst (v := lN 1) hx hb dX1_one_60 rfl ?_
          refine sd_ladd (v := lN ((y * (S i)) + 1)) hx hb dX1_one_61 (lN_add _ _) ?_
          refine sd_lmul (v := lN ((w b0) * ((y * (S i)) + 1))) hx hb dX1_one_62 (lN_mul _ _) ?_
          refine sd_lc_le (a := (w i) * ((y * (S b0)) + 1)) (b := (w b0) * ((y * (S i)) + 1)) (tgt := 69) hx hb dX1_one_63 dX1_one_64 (by decide) (by omega) (by omega) (fun h => ?_) (fun h => ?_)
          · have hbs2 : (sd_best y w S (i + 1)) = some b0 := by rw [hbs, decide_eq_true hwpos, show sd_bt y w S i (some b0) = false from decide_eq_false (by omega)]; rfl
            refine lv_iinc (k := 3) (v := nI (i + 1)) hx hb dX1_one_69 hl rfl (nI_add _ 1) (by decide) rfl (fun ls hl => ?_)
            have hl : lv_has ls 4 [(3, .int (nI (i + 1))), (0, .ref h1), (1, .int (nI y)), (2, .int (nI b0))] := hl
            refine lv_goto (tgt := 4) hx hb dX1_one_72 (by decide) ?_
            have hl := lv_sub (l' := [(0, .ref h1), (1, .int (nI y)), (2, .int (nI b0)), (3, .int (nI (i + 1)))]) hl [1, 2, 3, 0] rfl
            have hl : lv_has ls 4 [(0, .ref h1), (1, .int (nI y)), (2, .int (sd_oi (sd_best y w S (i + 1)))), (3, .int (nI (i + 1)))] := by rw [hbs2]; exact hl
            exact ih (by omega) ls hl
          · have hbs2 : (sd_best y w S (i + 1)) = some i := by rw [hbs, decide_eq_true hwpos, show sd_bt y w S i (some b0) = true from decide_eq_true h]; rfl
            refine lv_iload_n hx hb dX1_one_67 rfl (lv_at hl 3 rfl) ?_
            refine lv_istore_n hx hb dX1_one_68 rfl hl (by decide) rfl (fun ls hl => ?_)
            have hl : lv_has ls 4 [(2, .int (nI i)), (0, .ref h1), (1, .int (nI y)), (3, .int (nI i))] := hl
            refine lv_iinc (k := 3) (v := nI (i + 1)) hx hb dX1_one_69 hl rfl (nI_add _ 1) (by decide) rfl (fun ls hl => ?_)
            have hl : lv_has ls 4 [(3, .int (nI (i + 1))), (2, .int (nI i)), (0, .ref h1), (1, .int (nI y))] := hl
            refine lv_goto (tgt := 4) hx hb dX1_one_72 (by decide) ?_
            have hl := lv_sub (l' := [(0, .ref h1), (1, .int (nI y)), (2, .int (nI i)), (3, .int (nI (i + 1)))]) hl [2, 3, 1, 0] rfl
            have hl : lv_has ls 4 [(0, .ref h1), (1, .int (nI y)), (2, .int (sd_oi (sd_best y w S (i + 1)))), (3, .int (nI (i + 1)))] := by rw [hbs2]; exact hl
            exact ih (by omega) ls hl
set_option maxHeartbeats 4000000 in
set_option maxRecDepth 100000 in
theorem m_one (l : Launch) (dC : Nat → ClassId) (dI : Nat → Nat → Nat) (cL cZ : ClassId) (h1 a1 a2 a3 a4 er n : Nat) (w : Nat → Nat) (sh ke : Nat → Int64) (go : Nat → Int32) (sz : Nat) (ok : sd_ok n w) (hW : 0 < sd_sum w n) (y : Nat) (hy : y ≤ 2) (S : Nat → Nat) (hS1 : ∀ j, j < n → sh j = lN (S j)) (hS2 : ∀ j, j < n → S j ≤ 10001) : Met l yX1_one (sd_ws yX1_one cX1_one 4 none) (sd_rm 0 0 0) (sd_Pw (dC, dI) vwCl [(cL, .long), (cZ, .boolean)] (sd_M cL cZ h1 a1 a2 a3 a4 er n w sh ke go) sz [.ref h1, .int (nI y)]) (va_Qv (fun (v_ : sd_S) => (∀ j, j < n → v_.1 j = lN (sd_one y w n S j)) ∧ v_.2.1 = ke) (sd_Bw (dC, dI) vwCl [(cL, .long), (cZ, .boolean)] (sd_M cL cZ h1 a1 a2 a3 a4 er n w sh ke go) sz (fun v_ => (sd_M cL cZ h1 a1 a2 a3 a4 er n w v_.1 v_.2.1 v_.2.2))) (va_A (sd_M cL cZ h1 a1 a2 a3 a4 er n w sh ke go) sz)) 0 0 (va_A (sd_M cL cZ h1 a1 a2 a3 a4 er n w sh ke go) sz) := by
  refine Met.ofW (cc := cX1_one) (maxL := 4) (ret := none) (by decide) rfl ?_
  intro p e s m args below meth c s₁ B hml hv
  obtain ⟨rfl, hsz, hP, hK, hD0⟩ := hv
  subst hsz
  have hx := B.exec
  have hb := B.bytes
  have hr := B.returns
  have hts0 := atoms_spec (ws := (sd_ws yX1_one cX1_one 4 none)) B.pre
  have hts : ∀ w ∈ sd_WS, w.before _ s = true := fun w h => hts0 w (List.mem_cons_of_mem _ h)
  have hown : s.vm.findClass RX1 = some m.cls := findClass_of_methodNamed B.named
  have hlocks := B.notSynchronized
  have hl := lv_entry ([.ref h1, .int (nI y)]) (n := 4) (Nat.le_of_ble_eq_true rfl)
  rw [lg_entry_eq]
  generalize (lg_sl ([.ref h1, .int (nI y)]) ++ List.replicate (4 - (lg_sl ([.ref h1, .int (nI y)])).length) Slot.unset).toArray = ls at hl ⊢
  have hl : lv_has ls 4 [(0, .ref h1), (1, .int (nI y))] := hl
  obtain ⟨A, hAe⟩ : ∃ A, A = va_A (sd_M cL cZ h1 a1 a2 a3 a4 er n w sh ke go) s.heap.size := ⟨_, rfl⟩
  have hD : va_D A (sd_M cL cZ h1 a1 a2 a3 a4 er n w sh ke go) := by rw [hAe]; exact hD0.self
  have hA : ∀ q : Nat, s.heap.size ≤ q → A q := fun q h => by rw [hAe]; exact Or.inr h
  have hS : va_S A s.heap s.heap [] := va_S.rf
  have hP : va_P (dC, dI) vwCl [(h1, .inr (1, [.int (nI er), .int (nI n), .ref a1, .ref a2, .ref a3, .ref a4])), (a1, .inl (cL, 8, .inr (.inl (fun z => lN (w z))))), (a2, .inl (cL, 8, .inr (.inl sh))), (a3, .inl (cL, 8, .inr (.inl ke))), (a4, .inl (cZ, 8, .inl go))] s.heap := hP
  have hD : va_D A [(h1, .inr (1, [.int (nI er), .int (nI n), .ref a1, .ref a2, .ref a3, .ref a4])), (a1, .inl (cL, 8, .inr (.inl (fun z => lN (w z))))), (a2, .inl (cL, 8, .inr (.inl sh))), (a3, .inl (cL, 8, .inr (.inl ke))), (a4, .inl (cZ, 8, .inl go))] := hD
  have hn8 := ok.2.1
  refine lv_iconst (v := (-1)) hx hb dX1_one_0 (by decide +kernel) ?_
  refine lv_istore_n hx hb dX1_one_1 rfl hl (by decide) rfl (fun ls hl => ?_)
  have hl : lv_has ls 4 [(2, .int (-1)), (0, .ref h1), (1, .int (nI y))] := hl
  refine lv_iconst (v := (nI 0)) hx hb dX1_one_2 (by decide +kernel) ?_
  refine lv_istore_n hx hb dX1_one_3 rfl hl (by decide) rfl (fun ls hl => ?_)
  have hl : lv_has ls 4 [(3, .int (nI 0)), (2, .int (-1)), (0, .ref h1), (1, .int (nI y))] := hl
  have hl := lv_sub (l' := [(0, .ref h1), (1, .int (nI y)), (2, .int (-1)), (3, .int (nI 0))]) hl [2, 3, 1, 0] rfl
  refine lp_one hx hb hml hts0 hown hK hP ok y hy S hS1 hS2 (fun ls hl => ?_) n 0 (by omega) ls hl
  cases hbb : sd_best y w S n with
  | none =>
    exfalso
    obtain ⟨p0, hp0, hp1⟩ := sd_sum_pos hW
    have := sd_best_none hbb p0 hp0
    omega
  | some b0 =>
    rw [hbb] at hl
    have hl : lv_has ls 4 [(0, .ref h1), (1, .int (nI y)), (2, .int (nI b0)), (3, .int (nI n))] := hl
    have hb0 := (sd_best_some hbb).1
    refine lv_aload_n hx hb dX1_one_75 rfl (lv_at hl 0 rfl) ?_
    refine va_get (D := (dC, dI)) (ci := 1) (v := .ref a2) (C := RX1) (T := TX1) (N := 6) hx hb hts u_in_X1 hown hK hP 0 rfl rfl 3 (by decide) (hts (.fieldLink RX1 17 "ShareDeskModel" "shares" "[J") k_fieldLink_X1_17) (fun _ h9 => h9) rfl dX1_one_76 ?_
    refine lv_iload_n hx hb dX1_one_79 rfl (lv_at hl 2 rfl) ?_
    refine lv_dup2_11 hx hb dX1_one_80 rfl rfl ?_
    refine sd_lald (j := b0) (v := lN (S b0)) hx hb hK hP 2 0 rfl rfl (by omega) (by decide) (hS1 b0 hb0) dX1_one_81 ?_
    refine lv_lconst (v := lN 1) hx hb dX1_one_82 rfl ?_
    refine sd_ladd (v := lN ((S b0) + 1)) hx hb dX1_one_83 (lN_add _ _) ?_
    refine sd_last (j := b0) hx hb hK hP hD hS 2 0 rfl rfl (by omega) (by decide) dX1_one_84 (fun H locs hP hD hS => ?_)
    have hP : va_P (dC, dI) vwCl [(h1, .inr (1, [.int (nI er), .int (nI n), .ref a1, .ref a2, .ref a3, .ref a4])), (a1, .inl (cL, 8, .inr (.inl (fun z => lN (w z))))), (a2, .inl (cL, 8, .inr (.inl (vp_updL sh b0 (lN (S b0 + 1)))))), (a3, .inl (cL, 8, .inr (.inl ke))), (a4, .inl (cZ, 8, .inl go))] H := hP
    have hD : va_D A [(h1, .inr (1, [.int (nI er), .int (nI n), .ref a1, .ref a2, .ref a3, .ref a4])), (a1, .inl (cL, 8, .inr (.inl (fun z => lN (w z))))), (a2, .inl (cL, 8, .inr (.inl (vp_updL sh b0 (lN (S b0 + 1)))))), (a3, .inl (cL, 8, .inr (.inl ke))), (a4, .inl (cZ, 8, .inl go))] := hD
    have hnew : ∀ j, j < n → vp_updL sh b0 (lN (S b0 + 1)) j = lN (sd_one y w n S j) := by
      intro j hj
      have e0 : sd_one y w n S = sd_up S b0 (S b0 + 1) := by unfold sd_one; rw [hbb]
      rw [e0]
      by_cases e : j = b0
      · rw [e, pk_uLs, sd_up_self]
      · rw [pk_uLn e, sd_up_ne e]; exact hS1 j hj
    exact W.vret hx hb hr (fun t ht hW => ⟨⟨(vp_updL sh b0 (lN (S b0 + 1)), ke, go), rfl, ⟨hnew, rfl⟩, by rw [ht]; exact hP, va_K.moved hW.alike hK, by rw [← hAe]; exact hD⟩, by rw [← hAe]; exact hS.F ht⟩) (fun q hq => by rw [← hAe]; exact hS.2.2 q hq) dX1_one_85
set_option maxHeartbeats 4000000 in
set_option maxRecDepth 100000 in
theorem lp_parts1 {p : Program} {l : Launch} {e : Env} {R : Room} {s : State} {m : MethodId} {args : Array Value} {below : List Frame} {meth : Method} {c : Code} {cells slots : Nat} {Q : State → Prop} (hx : p.tables.exec = Jvm.exec) (hb : c.code = cX1_parts) (hml : c.maxLocals = 8) (hts0 : ∀ w ∈ (sd_ws yX1_parts cX1_parts 8 none), w.before args s = true) (hown : s.vm.findClass RX1 = some m.cls) {dC : Nat → ClassId} {dI : Nat → Nat → Nat} {cL cZ : ClassId} {h1 a1 a2 a3 a4 er n : Nat} {w : Nat → Nat} (A : Nat → Prop) (H0 : Heap) (hA : ∀ q, H0.size ≤ q → A q) (hK : va_K (dC, dI) vwCl [(cL, .long), (cZ, .boolean)] s) (ke : Nat → Int64) (ok : sd_ok n w) (hW : 0 < sd_sum w n) (u : Nat) (hu : u ≤ 10001)
    (kk : ∀ (H : Heap) (locs : List Loc) (sh : Nat → Int64) (go : Nat → Int32) (ls : Array Slot), va_P (dC, dI) vwCl [(h1, .inr (1, [.int (nI er), .int (nI n), .ref a1, .ref a2, .ref a3, .ref a4])), (a1, .inl (cL, 8, .inr (.inl (fun z => lN (w z))))), (a2, .inl (cL, 8, .inr (.inl sh))), (a3, .inl (cL, 8, .inr (.inl ke))), (a4, .inl (cZ, 8, .inl go))] H → va_D A [(h1, .inr (1, [.int (nI er), .int (nI n), .ref a1, .ref a2, .ref a3, .ref a4])), (a1, .inl (cL, 8, .inr (.inl (fun z => lN (w z))))), (a2, .inl (cL, 8, .inr (.inl sh))), (a3, .inl (cL, 8, .inr (.inl ke))), (a4, .inl (cZ, 8, .inl go))] → va_S A H0 H locs → ((∀ j, j < n → sh j = lN (u * w j / sd_sum w n)) ∧ ∀ j, j < n → go j = nI 0) → lv_has ls 8 [(0, .ref h1), (1, .int (nI u)), (2, .long (lN (sd_sum w n))), (4, .long (lN (u - (sd_sum (fun j => u * w j / sd_sum w n) n)))), (6, .int (nI n))] → W p l e R s m args below meth c H locs cells slots Q (F0 m 66 ls []))
    : ∀ (f i : Nat), i + f = n → ∀ (H : Heap) (locs : List Loc) (sh : Nat → Int64) (go : Nat → Int32) (ls : Array Slot), va_P (dC, dI) vwCl [(h1, .inr (1, [.int (nI er), .int (nI n), .ref a1, .ref a2, .ref a3, .ref a4])), (a1, .inl (cL, 8, .inr (.inl (fun z => lN (w z))))), (a2, .inl (cL, 8, .inr (.inl sh))), (a3, .inl (cL, 8, .inr (.inl ke))), (a4, .inl (cZ, 8, .inl go))] H → va_D A [(h1, .inr (1, [.int (nI er), .int (nI n), .ref a1, .ref a2, .ref a3, .ref a4])), (a1, .inl (cL, 8, .inr (.inl (fun z => lN (w z))))), (a2, .inl (cL, 8, .inr (.inl sh))), (a3, .inl (cL, 8, .inr (.inl ke))), (a4, .inl (cZ, 8, .inl go))] → va_S A H0 H locs → ((∀ j, j < i → sh j = lN (u * w j / sd_sum w n)) ∧ ∀ j, j < i → go j = nI 0) → lv_has ls 8 [(0, .ref h1), (1, .int (nI u)), (2, .long (lN (sd_sum w n))), (4, .long (lN (u - (sd_sum (fun j => u * w j / sd_sum w n) i)))), (6, .int (nI i))] → W p l e R s m args below meth c H locs cells slots Q (F0 m 12 ls []) := by
  have hts : ∀ w ∈ sd_WS, w.before args s = true := fun w h => hts0 w (List.mem_cons_of_mem _ h)
  have hn8 := ok.2.1
  have hWl := sd_W_le ok.2.2.1 ok.2.1
  intro f
  induction f using Nat.strongRecOn with
  | ind f ih0 =>
    intro i hi H locs sh go ls hP hD hS hv hl
    have ih : i < n → ∀ (H : Heap) (locs : List Loc) (sh : Nat → Int64) (go : Nat → Int32) (ls : Array Slot), va_P (dC, dI) vwCl [(h1, .inr (1, [.int (nI er), .int (nI n), .ref a1, .ref a2, .ref a3, .ref a4])), (a1, .inl (cL, 8, .inr (.inl (fun z => lN (w z))))), (a2, .inl (cL, 8, .inr (.inl sh))), (a3, .inl (cL, 8, .inr (.inl ke))), (a4, .inl (cZ, 8, .inl go))] H → va_D A [(h1, .inr (1, [.int (nI er), .int (nI n), .ref a1, .ref a2, .ref a3, .ref a4])), (a1, .inl (cL, 8, .inr (.inl (fun z => lN (w z))))), (a2, .inl (cL, 8, .inr (.inl sh))), (a3, .inl (cL, 8, .inr (.inl ke))), (a4, .inl (cZ, 8, .inl go))] → va_S A H0 H locs → ((∀ j, j < (i + 1) → sh j = lN (u * w j / sd_sum w n)) ∧ ∀ j, j < (i + 1) → go j = nI 0) → lv_has ls 8 [(0, .ref h1), (1, .int (nI u)), (2, .long (lN (sd_sum w n))), (4, .long (lN (u - (sd_sum (fun j => u * w j / sd_sum w n) (i + 1))))), (6, .int (nI (i + 1)))] → W p l e R s m args below meth c H locs cells slots Q (F0 m 12 ls []) := fun hlt => ih0 (f - 1) (by omega) (i + 1) (by omega)
    have hwi := ok.2.2.1 i
    have hbm : u * w i ≤ 10001 * 100000 := sd_mw_le hu hwi
    have hdl := Nat.div_le_self (u * w i) (sd_sum w n)
    refine lv_iload hx hb dX1_parts_12 (lv_at hl 4 rfl) ?_
    refine lv_aload_n hx hb dX1_parts_14 rfl (lv_at hl 0 rfl) ?_
    refine va_get (D := (dC, dI)) (ci := 1) (v := .int (nI n)) (C := RX1) (T := TX1) (N := 6) hx hb hts u_in_X1 hown hK hP 0 rfl rfl 1 (by decide) (hts (.fieldLink RX1 7 "ShareDeskModel" "parties" "I") k_fieldLink_X1_7) (fun _ h9 => h9) rfl dX1_parts_15 ?_
    refine sd_ic_ge (a := i) (b := n) (tgt := 66) hx hb dX1_parts_18 (by decide) (by omega) (by omega) (fun h => ?_) (fun h => ?_)
    · have hin : i = n := by omega
      subst hin
      exact kk H locs sh go ls hP hD hS hv hl
    · have hfs : (sd_sum (fun j => u * w j / sd_sum w n) (i + 1)) = (sd_sum (fun j => u * w j / sd_sum w n) i) + (u * w i / sd_sum w n) := rfl
      have hfm := sd_sum_mono (f := fun j => u * w j / sd_sum w n) (a := i + 1) (b := n) (by omega)
      have hfe : (sd_sum (fun j => u * w j / sd_sum w n) n) ≤ u := Nat.le.intro (sd_left (m := u) hW).1
      have hd0 := Nat.zero_le (u * w i / sd_sum w n)
      refine lv_aload_n hx hb dX1_parts_21 rfl (lv_at hl 0 rfl) ?_
      refine va_get (D := (dC, dI)) (ci := 1) (v := .ref a2) (C := RX1) (T := TX1) (N := 6) hx hb hts u_in_X1 hown hK hP 0 rfl rfl 3 (by decide) (hts (.fieldLink RX1 17 "ShareDeskModel" "shares" "[J") k_fieldLink_X1_17) (fun _ h9 => h9) rfl dX1_parts_22 ?_
      refine lv_iload hx hb dX1_parts_25 (lv_at hl 4 rfl) ?_
      refine lv_iload_n hx hb dX1_parts_27 rfl (lv_at hl 1 rfl) ?_
      refine lv_i2l (v := lN u) hx hb dX1_parts_28 (nI_l (by omega)) ?_
      refine lv_aload_n hx hb dX1_parts_29 rfl (lv_at hl 0 rfl) ?_
      refine va_get (D := (dC, dI)) (ci := 1) (v := .ref a1) (C := RX1) (T := TX1) (N := 6) hx hb hts u_in_X1 hown hK hP 0 rfl rfl 2 (by decide) (hts (.fieldLink RX1 13 "ShareDeskModel" "weights" "[J") k_fieldLink_X1_13) (fun _ h9 => h9) rfl dX1_parts_30 ?_
      refine lv_iload hx hb dX1_parts_33 (lv_at hl 4 rfl) ?_
      refine sd_lald (j := i) (v := lN (w i)) hx hb hK hP 1 0 rfl rfl (by omega) (by decide) rfl dX1_parts_35 ?_
      refine sd_lmul (v := lN (u * (w i))) hx hb dX1_parts_36 (lN_mul _ _) ?_
      refine lv_lload_n hx hb dX1_parts_37 rfl (lv_at hl 2 rfl) ?_
      refine sd_ldiv (v := lN ((u * (w i)) / (sd_sum w n))) hx hb dX1_parts_38 (sd_lne0 (by omega) (by omega)) (pk_lDiv (by omega) (by omega) (by omega)) ?_
      refine sd_last (j := i) hx hb hK hP hD hS 2 0 rfl rfl (by omega) (by decide) dX1_parts_39 (fun H locs hP hD hS => ?_)
      have hP : va_P (dC, dI) vwCl [(h1, .inr (1, [.int (nI er), .int (nI n), .ref a1, .ref a2, .ref a3, .ref a4])), (a1, .inl (cL, 8, .inr (.inl (fun z => lN (w z))))), (a2, .inl (cL, 8, .inr (.inl (vp_updL sh i (lN (u * w i / sd_sum w n)))))), (a3, .inl (cL, 8, .inr (.inl ke))), (a4, .inl (cZ, 8, .inl go))] H := hP
      have hD : va_D A [(h1, .inr (1, [.int (nI er), .int (nI n), .ref a1, .ref a2, .ref a3, .ref a4])), (a1, .inl (cL, 8, .inr (.inl (fun z => lN (w z))))), (a2, .inl (cL, 8, .inr (.inl (vp_updL sh i (lN (u * w i / sd_sum w n)))))), (a3, .inl (cL, 8, .inr (.inl ke))), (a4, .inl (cZ, 8, .inl go))] := hD
      refine lv_lload hx hb dX1_parts_40 (lv_at hl 3 rfl) ?_
      refine lv_aload_n hx hb dX1_parts_42 rfl (lv_at hl 0 rfl) ?_
      refine va_get (D := (dC, dI)) (ci := 1) (v := .ref a2) (C := RX1) (T := TX1) (N := 6) hx hb hts u_in_X1 hown hK hP 0 rfl rfl 3 (by decide) (hts (.fieldLink RX1 17 "ShareDeskModel" "shares" "[J") k_fieldLink_X1_17) (fun _ h9 => h9) rfl dX1_parts_43 ?_
      refine lv_iload hx hb dX1_parts_46 (lv_at hl 4 rfl) ?_
      refine sd_lald (j := i) (v := lN (u * w i / sd_sum w n)) hx hb hK hP 2 0 rfl rfl (by omega) (by decide) pk_uLs dX1_parts_48 ?_
      refine sd_lsub (v := lN ((u - (sd_sum (fun j => u * w j / sd_sum w n) i)) - (u * w i / sd_sum w n))) hx hb dX1_parts_49 (lN_sub (by omega)) ?_
      refine lv_lstore hx hb dX1_parts_50 hl (by decide) rfl (fun ls hl => ?_)
      have hl : lv_has ls 8 [(4, .long (lN ((u - (sd_sum (fun j => u * w j / sd_sum w n) i)) - (u * w i / sd_sum w n)))), (0, .ref h1), (1, .int (nI u)), (2, .long (lN (sd_sum w n))), (6, .int (nI i))] := hl
      refine lv_aload_n hx hb dX1_parts_52 rfl (lv_at hl 1 rfl) ?_
      refine va_get (D := (dC, dI)) (ci := 1) (v := .ref a4) (C := RX1) (T := TX1) (N := 6) hx hb hts u_in_X1 hown hK hP 0 rfl rfl 5 (by decide) (hts (.fieldLink RX1 23 "ShareDeskModel" "got" "[Z") k_fieldLink_X1_23) (fun _ h9 => h9) rfl dX1_parts_53 ?_
      refine lv_iload hx hb dX1_parts_56 (lv_at hl 4 rfl) ?_
      refine lv_iconst (v := (nI 0)) hx hb dX1_parts_58 (by decide +kernel) ?_
      refine sd_zast (j := i) hx hb hK hP hD hS 4 1 rfl rfl (by omega) (by decide) dX1_parts_59 (fun H locs hP hD hS => ?_)
      have hP : va_P (dC, dI) vwCl [(h1, .inr (1, [.int (nI er), .int (nI n), .ref a1, .ref a2, .ref a3, .ref a4])), (a1, .inl (cL, 8, .inr (.inl (fun z => lN (w z))))), (a2, .inl (cL, 8, .inr (.inl (vp_updL sh i (lN (u * w i / sd_sum w n)))))), (a3, .inl (cL, 8, .inr (.inl ke))), (a4, .inl (cZ, 8, .inl (upd go i (vp_nar .boolean (nI 0)))))] H := hP
      have hD : va_D A [(h1, .inr (1, [.int (nI er), .int (nI n), .ref a1, .ref a2, .ref a3, .ref a4])), (a1, .inl (cL, 8, .inr (.inl (fun z => lN (w z))))), (a2, .inl (cL, 8, .inr (.inl (vp_updL sh i (lN (u * w i / sd_sum w n)))))), (a3, .inl (cL, 8, .inr (.inl ke))), (a4, .inl (cZ, 8, .inl (upd go i (vp_nar .boolean (nI 0)))))] := hD
      refine lv_iinc (k := 4) (v := nI (i + 1)) hx hb dX1_parts_60 hl rfl (nI_add _ 1) (by decide) rfl (fun ls hl => ?_)
      have hl : lv_has ls 8 [(6, .int (nI (i + 1))), (4, .long (lN ((u - (sd_sum (fun j => u * w j / sd_sum w n) i)) - (u * w i / sd_sum w n)))), (0, .ref h1), (1, .int (nI u)), (2, .long (lN (sd_sum w n)))] := hl
      refine lv_goto (tgt := 12) hx hb dX1_parts_63 (by decide) ?_
      have hl := lv_sub (l' := [(0, .ref h1), (1, .int (nI u)), (2, .long (lN (sd_sum w n))), (4, .long (lN ((u - (sd_sum (fun j => u * w j / sd_sum w n) i)) - (u * w i / sd_sum w n)))), (6, .int (nI (i + 1)))]) hl [2, 3, 4, 1, 0] rfl
      have he : u - (sd_sum (fun j => u * w j / sd_sum w n) i) - (u * w i / sd_sum w n) = u - (sd_sum (fun j => u * w j / sd_sum w n) (i + 1)) := by omega
      rw [he] at hl
      refine ih (by omega) H locs _ _ ls hP hD hS ⟨fun j hj => ?_, fun j hj => ?_⟩ hl
      · by_cases e : j = i
        · rw [e, pk_uLs]
        · rw [pk_uLn e]; exact hv.1 j (by omega)
      · by_cases e : j = i
        · rw [e, pk_us]; decide +kernel
        · rw [pk_un e]; exact hv.2 j (by omega)
set_option maxHeartbeats 4000000 in
set_option maxRecDepth 100000 in
theorem lp_parts3 {p : Program} {l : Launch} {e : Env} {R : Room} {s : State} {m : MethodId} {args : Array Value} {below : List Frame} {meth : Method} {c : Code} {H : Heap} {locs : List Loc} {cells slots : Nat} {Q : State → Prop} (hx : p.tables.exec = Jvm.exec) (hb : c.code = cX1_parts) (hml : c.maxLocals = 8) (hts0 : ∀ w ∈ (sd_ws yX1_parts cX1_parts 8 none), w.before args s = true) (hown : s.vm.findClass RX1 = some m.cls) {dC : Nat → ClassId} {dI : Nat → Nat → Nat} {cL cZ : ClassId} {h1 a1 a2 a3 a4 er n : Nat} {w : Nat → Nat} {sh ke : Nat → Int64} {go : Nat → Int32} (hK : va_K (dC, dI) vwCl [(cL, .long), (cZ, .boolean)] s) (hP : va_P (dC, dI) vwCl (sd_M cL cZ h1 a1 a2 a3 a4 er n w sh ke go) H) (ok : sd_ok n w) (hW : 0 < sd_sum w n) (u : Nat) (hu : u ≤ 10001) (v4 : Int64) (g0 : Nat → Bool) (hg : ∀ j, j < n → go j = sd_bi (g0 j))
    (kk : ∀ ls : Array Slot, lv_has ls 8 [(0, .ref h1), (1, .int (nI u)), (2, .long (lN (sd_sum w n))), (4, .long v4), (6, .int (sd_oi (sd_pk (sd_rs w (sd_sum w n) u) g0 n))), (7, .int (nI n))] → W p l e R s m args below meth c H locs cells slots Q (F0 m 141 ls []))
    : ∀ (f i : Nat), i + f = n → ∀ ls : Array Slot, lv_has ls 8 [(0, .ref h1), (1, .int (nI u)), (2, .long (lN (sd_sum w n))), (4, .long v4), (6, .int (sd_oi (sd_pk (sd_rs w (sd_sum w n) u) g0 i))), (7, .int (nI i))] → W p l e R s m args below meth c H locs cells slots Q (F0 m 79 ls []) := by
  have hts : ∀ w ∈ sd_WS, w.before args s = true := fun w h => hts0 w (List.mem_cons_of_mem _ h)
  have hP : va_P (dC, dI) vwCl [(h1, .inr (1, [.int (nI er), .int (nI n), .ref a1, .ref a2, .ref a3, .ref a4])), (a1, .inl (cL, 8, .inr (.inl (fun z => lN (w z))))), (a2, .inl (cL, 8, .inr (.inl sh))), (a3, .inl (cL, 8, .inr (.inl ke))), (a4, .inl (cZ, 8, .inl go))] H := hP
  have hn8 := ok.2.1
  have hWl := sd_W_le ok.2.2.1 ok.2.1
  intro f
  induction f using Nat.strongRecOn with
  | ind f ih0 =>
    intro i hi ls hl
    have ih : i < n → ∀ ls : Array Slot, lv_has ls 8 [(0, .ref h1), (1, .int (nI u)), (2, .long (lN (sd_sum w n))), (4, .long v4), (6, .int (sd_oi (sd_pk (sd_rs w (sd_sum w n) u) g0 (i + 1)))), (7, .int (nI (i + 1)))] → W p l e R s m args below meth c H locs cells slots Q (F0 m 79 ls []) := fun hlt => ih0 (f - 1) (by omega) (i + 1) (by omega)
    have hwi := ok.2.2.1 i
    have hbm : u * w i ≤ 10001 * 100000 := sd_mw_le hu hwi
    have hbs : (sd_pk (sd_rs w (sd_sum w n) u) g0 (i + 1)) = if !g0 i && sd_pt (sd_rs w (sd_sum w n) u) i (sd_pk (sd_rs w (sd_sum w n) u) g0 i) then some i else (sd_pk (sd_rs w (sd_sum w n) u) g0 i) := rfl
    refine lv_iload hx hb dX1_parts_79 (lv_at hl 5 rfl) ?_
    refine lv_aload_n hx hb dX1_parts_81 rfl (lv_at hl 0 rfl) ?_
    refine va_get (D := (dC, dI)) (ci := 1) (v := .int (nI n)) (C := RX1) (T := TX1) (N := 6) hx hb hts u_in_X1 hown hK hP 0 rfl rfl 1 (by decide) (hts (.fieldLink RX1 7 "ShareDeskModel" "parties" "I") k_fieldLink_X1_7) (fun _ h9 => h9) rfl dX1_parts_82 ?_
    refine sd_ic_ge (a := i) (b := n) (tgt := 141) hx hb dX1_parts_85 (by decide) (by omega) (by omega) (fun h => ?_) (fun h => ?_)
    · have hin : i = n := by omega
      subst hin
      exact kk ls hl
    · refine lv_aload_n hx hb dX1_parts_88 rfl (lv_at hl 0 rfl) ?_
      refine va_get (D := (dC, dI)) (ci := 1) (v := .ref a4) (C := RX1) (T := TX1) (N := 6) hx hb hts u_in_X1 hown hK hP 0 rfl rfl 5 (by decide) (hts (.fieldLink RX1 23 "ShareDeskModel" "got" "[Z") k_fieldLink_X1_23) (fun _ h9 => h9) rfl dX1_parts_89 ?_
      refine lv_iload hx hb dX1_parts_92 (lv_at hl 5 rfl) ?_
      refine sd_zald (j := i) (v := sd_bi (g0 i)) hx hb hK hP 4 1 rfl rfl (by omega) (by decide) (hg i (by omega)) dX1_parts_94 ?_
      refine sd_bz_ne (tgt := 135) hx hb dX1_parts_95 (by decide) (fun h => ?_) (fun h => ?_)
      · have hbs2 : (sd_pk (sd_rs w (sd_sum w n) u) g0 (i + 1)) = (sd_pk (sd_rs w (sd_sum w n) u) g0 i) := by rw [hbs, h]; rfl
        refine lv_iinc (k := 5) (v := nI (i + 1)) hx hb dX1_parts_135 hl rfl (nI_add _ 1) (by decide) rfl (fun ls hl => ?_)
        have hl : lv_has ls 8 [(7, .int (nI (i + 1))), (0, .ref h1), (1, .int (nI u)), (2, .long (lN (sd_sum w n))), (4, .long v4), (6, .int (sd_oi (sd_pk (sd_rs w (sd_sum w n) u) g0 i)))] := hl
        refine lv_goto (tgt := 79) hx hb dX1_parts_138 (by decide) ?_
        have hl := lv_sub (l' := [(0, .ref h1), (1, .int (nI u)), (2, .long (lN (sd_sum w n))), (4, .long v4), (6, .int (sd_oi (sd_pk (sd_rs w (sd_sum w n) u) g0 i))), (7, .int (nI (i + 1)))]) hl [1, 2, 3, 4, 5, 0] rfl
        rw [← hbs2] at hl
        exact ih (by omega) ls hl
      · have hg0 := h
        cases hbb : sd_pk (sd_rs w (sd_sum w n) u) g0 i with
        | none =>
          rw [hbb] at hl hbs
          have hbs2 : (sd_pk (sd_rs w (sd_sum w n) u) g0 (i + 1)) = some i := by rw [hbs, hg0]; rfl
          refine lv_iload hx hb dX1_parts_98 (lv_at hl 4 rfl) ?_
          refine lv_if_lt (tgt := 131) hx hb dX1_parts_100 (by decide) (fun h => ?_) (fun h => ?_)
          · refine lv_iload hx hb dX1_parts_131 (lv_at hl 5 rfl) ?_
            refine lv_istore hx hb dX1_parts_133 hl (by decide) rfl (fun ls hl => ?_)
            have hl : lv_has ls 8 [(6, .int (nI i)), (0, .ref h1), (1, .int (nI u)), (2, .long (lN (sd_sum w n))), (4, .long v4), (7, .int (nI i))] := hl
            refine lv_iinc (k := 5) (v := nI (i + 1)) hx hb dX1_parts_135 hl rfl (nI_add _ 1) (by decide) rfl (fun ls hl => ?_)
            have hl : lv_has ls 8 [(7, .int (nI (i + 1))), (6, .int (nI i)), (0, .ref h1), (1, .int (nI u)), (2, .long (lN (sd_sum w n))), (4, .long v4)] := hl
            refine lv_goto (tgt := 79) hx hb dX1_parts_138 (by decide) ?_
            have hl := lv_sub (l' := [(0, .ref h1), (1, .int (nI u)), (2, .long (lN (sd_sum w n))), (4, .long v4), (6, .int (nI i)), (7, .int (nI (i + 1)))]) hl [2, 3, 4, 5, 1, 0] rfl
            have hl : lv_has ls 8 [(0, .ref h1), (1, .int (nI u)), (2, .long (lN (sd_sum w n))), (4, .long v4), (6, .int (sd_oi (sd_pk (sd_rs w (sd_sum w n) u) g0 (i + 1)))), (7, .int (nI (i + 1)))] := by rw [hbs2]; exact hl
            exact ih (by omega) ls hl
          · exact absurd (by decide +kernel) h
        | some b0 =>
          rw [hbb] at hl hbs
          have hb0 := (sd_pk_some hbb).1
          have hl : lv_has ls 8 [(0, .ref h1), (1, .int (nI u)), (2, .long (lN (sd_sum w n))), (4, .long v4), (6, .int (nI b0)), (7, .int (nI i))] := hl
          have hwb := ok.2.2.1 b0
          have hbm2 : u * w b0 ≤ 10001 * 100000 := sd_mw_le hu hwb
          have hr1 : u * w i % sd_sum w n < sd_sum w n := Nat.mod_lt _ hW
          have hr2 : u * w b0 % sd_sum w n < sd_sum w n := Nat.mod_lt _ hW
          refine lv_iload hx hb dX1_parts_98 (lv_at hl 4 rfl) ?_
          refine sd_iz_lt (a := b0) (tgt := 131) hx hb dX1_parts_100 (by decide) (by omega) ?_
          refine lv_iload_n hx hb dX1_parts_103 rfl (lv_at hl 1 rfl) ?_
          refine lv_i2l (v := lN u) hx hb dX1_parts_104 (nI_l (by omega)) ?_
          refine lv_aload_n hx hb dX1_parts_105 rfl (lv_at hl 0 rfl) ?_
          refine va_get (D := (dC, dI)) (ci := 1) (v := .ref a1) (C := RX1) (T := TX1) (N := 6) hx hb hts u_in_X1 hown hK hP 0 rfl rfl 2 (by decide) (hts (.fieldLink RX1 13 "ShareDeskModel" "weights" "[J") k_fieldLink_X1_13) (fun _ h9 => h9) rfl dX1_parts_106 ?_
          refine lv_iload hx hb dX1_parts_109 (lv_at hl 5 rfl) ?_
          refine sd_lald (j := i) (v := lN (w i)) hx hb hK hP 1 0 rfl rfl (by omega) (by decide) rfl dX1_parts_111 ?_
          refine sd_lmul (v := lN (u * (w i))) hx hb dX1_parts_112 (lN_mul _ _) ?_
          refine lv_lload_n hx hb dX1_parts_113 rfl (lv_at hl 2 rfl) ?_
          refine sd_lrem (v := lN ((u * (w i)) % (sd_sum w n))) hx hb dX1_parts_114 (sd_lne0 (by omega) (by omega)) (pk_lRem (by omega) (by omega) (by omega)) ?_
          refine lv_iload_n hx hb dX1_parts_115 rfl (lv_at hl 1 rfl) ?_
          refine lv_i2l (v := lN u) hx hb dX1_parts_116 (nI_l (by omega)) ?_
          refine lv_aload_n hx hb dX1_parts_117 rfl (lv_at hl 0 rfl) ?_
          refine va_get (D := (dC, dI)) (ci := 1) (v := .ref a1) (C := RX1) (T := TX1) (N := 6) hx hb hts u_in_X1 hown hK hP 0 rfl rfl 2 (by decide) (hts (.fieldLink RX1 13 "ShareDeskModel" "weights" "[J") k_fieldLink_X1_13) (fun _ h9 => h9) rfl dX1_parts_118 ?_
          refine lv_iload hx hb dX1_parts_121 (lv_at hl 4 rfl) ?_
          refine sd_lald (j := b0) (v := lN (w b0)) hx hb hK hP 1 0 rfl rfl (by omega) (by decide) rfl dX1_parts_123 ?_
          refine sd_lmul (v := lN (u * (w b0))) hx hb dX1_parts_124 (lN_mul _ _) ?_
          refine lv_lload_n hx hb dX1_parts_125 rfl (lv_at hl 2 rfl) ?_
          refine sd_lrem (v := lN ((u * (w b0)) % (sd_sum w n))) hx hb dX1_parts_126 (sd_lne0 (by omega) (by omega)) (pk_lRem (by omega) (by omega) (by omega)) ?_
          refine sd_lc_le (a := (u * (w i)) % (sd_sum w n)) (b := (u * (w b0)) % (sd_sum w n)) (tgt := 135) hx hb dX1_parts_127 dX1_parts_128 (by decide) (by omega) (by omega) (fun h => ?_) (fun h => ?_)
          · have hbs2 : (sd_pk (sd_rs w (sd_sum w n) u) g0 (i + 1)) = some b0 := by rw [hbs, hg0, show sd_pt (sd_rs w (sd_sum w n) u) i (some b0) = false from decide_eq_false (Nat.not_lt.mpr h)]; rfl
            refine lv_iinc (k := 5) (v := nI (i + 1)) hx hb dX1_parts_135 hl rfl (nI_add _ 1) (by decide) rfl (fun ls hl => ?_)
            have hl : lv_has ls 8 [(7, .int (nI (i + 1))), (0, .ref h1), (1, .int (nI u)), (2, .long (lN (sd_sum w n))), (4, .long v4), (6, .int (nI b0))] := hl
            refine lv_goto (tgt := 79) hx hb dX1_parts_138 (by decide) ?_
            have hl := lv_sub (l' := [(0, .ref h1), (1, .int (nI u)), (2, .long (lN (sd_sum w n))), (4, .long v4), (6, .int (nI b0)), (7, .int (nI (i + 1)))]) hl [1, 2, 3, 4, 5, 0] rfl
            have hl : lv_has ls 8 [(0, .ref h1), (1, .int (nI u)), (2, .long (lN (sd_sum w n))), (4, .long v4), (6, .int (sd_oi (sd_pk (sd_rs w (sd_sum w n) u) g0 (i + 1)))), (7, .int (nI (i + 1)))] := by rw [hbs2]; exact hl
            exact ih (by omega) ls hl
          · have hbs2 : (sd_pk (sd_rs w (sd_sum w n) u) g0 (i + 1)) = some i := by rw [hbs, hg0, show sd_pt (sd_rs w (sd_sum w n) u) i (some b0) = true from decide_eq_true h]; rfl
            refine lv_iload hx hb dX1_parts_131 (lv_at hl 5 rfl) ?_
            refine lv_istore hx hb dX1_parts_133 hl (by decide) rfl (fun ls hl => ?_)
            have hl : lv_has ls 8 [(6, .int (nI i)), (0, .ref h1), (1, .int (nI u)), (2, .long (lN (sd_sum w n))), (4, .long v4), (7, .int (nI i))] := hl
            refine lv_iinc (k := 5) (v := nI (i + 1)) hx hb dX1_parts_135 hl rfl (nI_add _ 1) (by decide) rfl (fun ls hl => ?_)
            have hl : lv_has ls 8 [(7, .int (nI (i + 1))), (6, .int (nI i)), (0, .ref h1), (1, .int (nI u)), (2, .long (lN (sd_sum w n))), (4, .long v4)] := hl
            refine lv_goto (tgt := 79) hx hb dX1_parts_138 (by decide) ?_
            have hl := lv_sub (l' := [(0, .ref h1), (1, .int (nI u)), (2, .long (lN (sd_sum w n))), (4, .long v4), (6, .int (nI i)), (7, .int (nI (i + 1)))]) hl [2, 3, 4, 5, 1, 0] rfl
            have hl : lv_has ls 8 [(0, .ref h1), (1, .int (nI u)), (2, .long (lN (sd_sum w n))), (4, .long v4), (6, .int (sd_oi (sd_pk (sd_rs w (sd_sum w n) u) g0 (i + 1)))), (7, .int (nI (i + 1)))] := by rw [hbs2]; exact hl
            exact ih (by omega) ls hl
