set_option maxHeartbeats 4000000 in
set_option maxRecDepth 100000 in
theorem lp_mnext1 {p : Program} {l : Launch} {e : Env} {R : Room} {s : State} {m : MethodId} {args : Array Value} {below : List Frame} {meth : Method} {c : Code} {cells slots : Nat} {Q : State → Prop} (hx : p.tables.exec = Jvm.exec) (hb : c.code = cX1_next) (hml : c.maxLocals = 5) (hts0 : ∀ w ∈ (sd_ws yX1_next cX1_next 5 (some .int)), w.before args s = true) (hown : s.vm.findClass RX1 = some m.cls) {dC : Nat → ClassId} {dI : Nat → Nat → Nat} {cL cZ : ClassId} {h1 a1 a2 a3 a4 er n : Nat} {w : Nat → Nat} (A : Nat → Prop) (H0 : Heap) (hA : ∀ q, H0.size ≤ q → A q) (hK : va_K (dC, dI) vwCl [(cL, .long), (cZ, .boolean)] s) (sh : Nat → Int64) (go : Nat → Int32) (ok : sd_ok n w) (y u : Nat) (hsh : ∀ j, j < n → sh j = lN (sd_U y w n u j))
    (kk : ∀ (H : Heap) (locs : List Loc) (ke : Nat → Int64) (ls : Array Slot), va_P (dC, dI) vwCl [(h1, .inr (1, [.int (nI 0), .int (nI n), .ref a1, .ref a2, .ref a3, .ref a4])), (a1, .inl (cL, 8, .inr (.inl (fun z => lN (w z))))), (a2, .inl (cL, 8, .inr (.inl sh))), (a3, .inl (cL, 8, .inr (.inl ke))), (a4, .inl (cZ, 8, .inl go))] H → va_D A [(h1, .inr (1, [.int (nI 0), .int (nI n), .ref a1, .ref a2, .ref a3, .ref a4])), (a1, .inl (cL, 8, .inr (.inl (fun z => lN (w z))))), (a2, .inl (cL, 8, .inr (.inl sh))), (a3, .inl (cL, 8, .inr (.inl ke))), (a4, .inl (cZ, 8, .inl go))] → va_S A H0 H locs → (∀ j, j < n → ke j = lN (sd_U y w n u j)) → lv_has ls 5 [(0, .ref h1), (1, .int (nI y)), (2, .int (nI u)), (3, .int (nI n))] → W p l e R s m args below meth c H locs cells slots Q (F0 m 95 ls []))
    : ∀ (f i : Nat), i + f = n → ∀ (H : Heap) (locs : List Loc) (ke : Nat → Int64) (ls : Array Slot), va_P (dC, dI) vwCl [(h1, .inr (1, [.int (nI 0), .int (nI n), .ref a1, .ref a2, .ref a3, .ref a4])), (a1, .inl (cL, 8, .inr (.inl (fun z => lN (w z))))), (a2, .inl (cL, 8, .inr (.inl sh))), (a3, .inl (cL, 8, .inr (.inl ke))), (a4, .inl (cZ, 8, .inl go))] H → va_D A [(h1, .inr (1, [.int (nI 0), .int (nI n), .ref a1, .ref a2, .ref a3, .ref a4])), (a1, .inl (cL, 8, .inr (.inl (fun z => lN (w z))))), (a2, .inl (cL, 8, .inr (.inl sh))), (a3, .inl (cL, 8, .inr (.inl ke))), (a4, .inl (cZ, 8, .inl go))] → va_S A H0 H locs → (∀ j, j < i → ke j = lN (sd_U y w n u j)) → lv_has ls 5 [(0, .ref h1), (1, .int (nI y)), (2, .int (nI u)), (3, .int (nI i))] → W p l e R s m args below meth c H locs cells slots Q (F0 m 69 ls []) := by
  have hts : ∀ w ∈ sd_WS, w.before args s = true := fun w h => hts0 w (List.mem_cons_of_mem _ h)
  have hn8 := ok.2.1
  intro f
  induction f using Nat.strongRecOn with
  | ind f ih0 =>
    intro i hi H locs ke ls hP hD hS hv hl
    have ih : i < n → ∀ (H : Heap) (locs : List Loc) (ke : Nat → Int64) (ls : Array Slot), va_P (dC, dI) vwCl [(h1, .inr (1, [.int (nI 0), .int (nI n), .ref a1, .ref a2, .ref a3, .ref a4])), (a1, .inl (cL, 8, .inr (.inl (fun z => lN (w z))))), (a2, .inl (cL, 8, .inr (.inl sh))), (a3, .inl (cL, 8, .inr (.inl ke))), (a4, .inl (cZ, 8, .inl go))] H → va_D A [(h1, .inr (1, [.int (nI 0), .int (nI n), .ref a1, .ref a2, .ref a3, .ref a4])), (a1, .inl (cL, 8, .inr (.inl (fun z => lN (w z))))), (a2, .inl (cL, 8, .inr (.inl sh))), (a3, .inl (cL, 8, .inr (.inl ke))), (a4, .inl (cZ, 8, .inl go))] → va_S A H0 H locs → (∀ j, j < (i + 1) → ke j = lN (sd_U y w n u j)) → lv_has ls 5 [(0, .ref h1), (1, .int (nI y)), (2, .int (nI u)), (3, .int (nI (i + 1)))] → W p l e R s m args below meth c H locs cells slots Q (F0 m 69 ls []) := fun hlt => ih0 (f - 1) (by omega) (i + 1) (by omega)
    refine lv_iload_n hx hb dX1_next_69 rfl (lv_at hl 3 rfl) ?_
    refine lv_aload_n hx hb dX1_next_70 rfl (lv_at hl 0 rfl) ?_
    refine va_get (D := (dC, dI)) (ci := 1) (v := .int (nI n)) (C := RX1) (T := TX1) (N := 6) hx hb hts u_in_X1 hown hK hP 0 rfl rfl 1 (by decide) (hts (.fieldLink RX1 7 "ShareDeskModel" "parties" "I") k_fieldLink_X1_7) (fun _ h9 => h9) rfl dX1_next_71 ?_
    refine sd_ic_ge (a := i) (b := n) (tgt := 95) hx hb dX1_next_74 (by decide) (by omega) (by omega) (fun h => ?_) (fun h => ?_)
    · have hin : i = n := by omega
      subst hin
      exact kk H locs ke ls hP hD hS hv hl
    · refine lv_aload_n hx hb dX1_next_77 rfl (lv_at hl 0 rfl) ?_
      refine va_get (D := (dC, dI)) (ci := 1) (v := .ref a3) (C := RX1) (T := TX1) (N := 6) hx hb hts u_in_X1 hown hK hP 0 rfl rfl 4 (by decide) (hts (.fieldLink RX1 20 "ShareDeskModel" "kept" "[J") k_fieldLink_X1_20) (fun _ h9 => h9) rfl dX1_next_78 ?_
      refine lv_iload_n hx hb dX1_next_81 rfl (lv_at hl 3 rfl) ?_
      refine lv_aload_n hx hb dX1_next_82 rfl (lv_at hl 0 rfl) ?_
      refine va_get (D := (dC, dI)) (ci := 1) (v := .ref a2) (C := RX1) (T := TX1) (N := 6) hx hb hts u_in_X1 hown hK hP 0 rfl rfl 3 (by decide) (hts (.fieldLink RX1 17 "ShareDeskModel" "shares" "[J") k_fieldLink_X1_17) (fun _ h9 => h9) rfl dX1_next_83 ?_
      refine lv_iload_n hx hb dX1_next_86 rfl (lv_at hl 3 rfl) ?_
      refine sd_lald (j := i) (v := lN (sd_U y w n u i)) hx hb hK hP 2 0 rfl rfl (by omega) (by decide) (hsh i (by omega)) dX1_next_87 ?_
      refine sd_last (j := i) hx hb hK hP hD hS 3 0 rfl rfl (by omega) (by decide) dX1_next_88 (fun H locs hP hD hS => ?_)
      have hP : va_P (dC, dI) vwCl [(h1, .inr (1, [.int (nI 0), .int (nI n), .ref a1, .ref a2, .ref a3, .ref a4])), (a1, .inl (cL, 8, .inr (.inl (fun z => lN (w z))))), (a2, .inl (cL, 8, .inr (.inl sh))), (a3, .inl (cL, 8, .inr (.inl (vp_updL ke i (lN (sd_U y w n u i)))))), (a4, .inl (cZ, 8, .inl go))] H := hP
      have hD : va_D A [(h1, .inr (1, [.int (nI 0), .int (nI n), .ref a1, .ref a2, .ref a3, .ref a4])), (a1, .inl (cL, 8, .inr (.inl (fun z => lN (w z))))), (a2, .inl (cL, 8, .inr (.inl sh))), (a3, .inl (cL, 8, .inr (.inl (vp_updL ke i (lN (sd_U y w n u i)))))), (a4, .inl (cZ, 8, .inl go))] := hD
      refine lv_iinc (k := 3) (v := nI (i + 1)) hx hb dX1_next_89 hl rfl (nI_add _ 1) (by decide) rfl (fun ls hl => ?_)
      have hl : lv_has ls 5 [(3, .int (nI (i + 1))), (0, .ref h1), (1, .int (nI y)), (2, .int (nI u))] := hl
      refine lv_goto (tgt := 69) hx hb dX1_next_92 (by decide) ?_
      have hl := lv_sub (l' := [(0, .ref h1), (1, .int (nI y)), (2, .int (nI u)), (3, .int (nI (i + 1)))]) hl [1, 2, 3, 0] rfl
      refine ih (by omega) H locs _ ls hP hD hS (fun j hj => ?_) hl
      by_cases e : j = i
      · rw [e, pk_uLs]
      · rw [pk_uLn e]; exact hv j (by omega)
set_option maxHeartbeats 4000000 in
set_option maxRecDepth 100000 in
theorem lp_mnext2 {p : Program} {l : Launch} {e : Env} {R : Room} {s : State} {m : MethodId} {args : Array Value} {below : List Frame} {meth : Method} {c : Code} {H : Heap} {locs : List Loc} {cells slots : Nat} {Q : State → Prop} (hx : p.tables.exec = Jvm.exec) (hb : c.code = cX1_next) (hml : c.maxLocals = 5) (hts0 : ∀ w ∈ (sd_ws yX1_next cX1_next 5 (some .int)), w.before args s = true) (hown : s.vm.findClass RX1 = some m.cls) {dC : Nat → ClassId} {dI : Nat → Nat → Nat} {cL cZ : ClassId} {h1 a1 a2 a3 a4 n : Nat} {w : Nat → Nat} {sh ke : Nat → Int64} {go : Nat → Int32} (hK : va_K (dC, dI) vwCl [(cL, .long), (cZ, .boolean)] s) (hP : va_P (dC, dI) vwCl (sd_M cL cZ h1 a1 a2 a3 a4 0 n w sh ke go) H) (ok : sd_ok n w) (hW : 0 < sd_sum w n) (y u : Nat) (hu : u ≤ 9999) (hsh : ∀ j, j < n → sh j = lN (sd_U y w n (u + 1) j)) (hke : ∀ j, j < n → ke j = lN (sd_U y w n u j))
    (kk1 : sd_na (sd_nm (sd_U y w n u) (sd_U y w n (u + 1)) n) = none → ∀ ls : Array Slot, W p l e R s m args below meth c H locs cells slots Q (F0 m 163 ls [.int (-1)])) (kk2 : ∀ ls : Array Slot, W p l e R s m args below meth c H locs cells slots Q (F0 m 174 ls [.int (sd_oi (sd_na (sd_nm (sd_U y w n u) (sd_U y w n (u + 1)) n)))]))
    : ∀ (f i : Nat) (ch : Option Nat), i + f = n → sd_nm (sd_U y w n u) (sd_U y w n (u + 1)) i = some ch → (∀ k, ch = some k → k < 2 ^ 31) → ∀ ls : Array Slot, lv_has ls 5 [(0, .ref h1), (1, .int (nI y)), (2, .int (nI u)), (3, .int (sd_oi ch)), (4, .int (nI i))] → W p l e R s m args below meth c H locs cells slots Q (F0 m 108 ls []) := by
  have hts : ∀ w ∈ sd_WS, w.before args s = true := fun w h => hts0 w (List.mem_cons_of_mem _ h)
  have hP : va_P (dC, dI) vwCl [(h1, .inr (1, [.int (nI 0), .int (nI n), .ref a1, .ref a2, .ref a3, .ref a4])), (a1, .inl (cL, 8, .inr (.inl (fun z => lN (w z))))), (a2, .inl (cL, 8, .inr (.inl sh))), (a3, .inl (cL, 8, .inr (.inl ke))), (a4, .inl (cZ, 8, .inl go))] H := hP
  have hn8 := ok.2.1
  intro f
  induction f with
  | zero =>
    intro i ch hi hc hs ls hl
    have hin : i = n := by omega
    refine lv_iload hx hb dX1_next_108 (lv_at hl 4 rfl) ?_
    refine lv_aload_n hx hb dX1_next_110 rfl (lv_at hl 0 rfl) ?_
    refine va_get (D := (dC, dI)) (ci := 1) (v := .int (nI n)) (C := RX1) (T := TX1) (N := 6) hx hb hts u_in_X1 hown hK hP 0 rfl rfl 1 (by decide) (hts (.fieldLink RX1 7 "ShareDeskModel" "parties" "I") k_fieldLink_X1_7) (fun _ h9 => h9) rfl dX1_next_111 ?_
    refine sd_ic_ge (a := i) (b := n) (tgt := 173) hx hb dX1_next_114 (by decide) (by omega) (by omega) (fun h => ?_) (fun h => ?_)
    · refine lv_iload_n hx hb dX1_next_173 rfl (lv_at hl 3 rfl) ?_
      refine sd_topi (y := sd_oi (sd_na (sd_nm (sd_U y w n u) (sd_U y w n (u + 1)) n))) (by have hc2 := hc; rw [hin] at hc2; rw [hc2]; cases ch <;> rfl) ?_
      exact kk2 ls
    · exact absurd h (by omega)
  | succ f ih =>
    intro i ch hi hc hs ls hl
    refine lv_iload hx hb dX1_next_108 (lv_at hl 4 rfl) ?_
    refine lv_aload_n hx hb dX1_next_110 rfl (lv_at hl 0 rfl) ?_
    refine va_get (D := (dC, dI)) (ci := 1) (v := .int (nI n)) (C := RX1) (T := TX1) (N := 6) hx hb hts u_in_X1 hown hK hP 0 rfl rfl 1 (by decide) (hts (.fieldLink RX1 7 "ShareDeskModel" "parties" "I") k_fieldLink_X1_7) (fun _ h9 => h9) rfl dX1_next_111 ?_
    refine sd_ic_ge (a := i) (b := n) (tgt := 173) hx hb dX1_next_114 (by decide) (by omega) (by omega) (fun h => ?_) (fun h => ?_)
    · exact absurd h (by omega)
    · have hu1 := sd_U_le (y := y) (w := w) (m := u) (p := i) hW (by omega)
      have hu2 := sd_U_le (y := y) (w := w) (m := u + 1) (p := i) hW (by omega)
      refine lv_aload_n hx hb dX1_next_117 rfl (lv_at hl 0 rfl) ?_
      refine va_get (D := (dC, dI)) (ci := 1) (v := .ref a2) (C := RX1) (T := TX1) (N := 6) hx hb hts u_in_X1 hown hK hP 0 rfl rfl 3 (by decide) (hts (.fieldLink RX1 17 "ShareDeskModel" "shares" "[J") k_fieldLink_X1_17) (fun _ h9 => h9) rfl dX1_next_118 ?_
      refine lv_iload hx hb dX1_next_121 (lv_at hl 4 rfl) ?_
      refine sd_lald (j := i) (v := lN (sd_U y w n (u + 1) i)) hx hb hK hP 2 0 rfl rfl (by omega) (by decide) (hsh i (by omega)) dX1_next_123 ?_
      refine lv_aload_n hx hb dX1_next_124 rfl (lv_at hl 0 rfl) ?_
      refine va_get (D := (dC, dI)) (ci := 1) (v := .ref a3) (C := RX1) (T := TX1) (N := 6) hx hb hts u_in_X1 hown hK hP 0 rfl rfl 4 (by decide) (hts (.fieldLink RX1 20 "ShareDeskModel" "kept" "[J") k_fieldLink_X1_20) (fun _ h9 => h9) rfl dX1_next_125 ?_
      refine lv_iload hx hb dX1_next_128 (lv_at hl 4 rfl) ?_
      refine sd_lald (j := i) (v := lN (sd_U y w n u i)) hx hb hK hP 3 0 rfl rfl (by omega) (by decide) (hke i (by omega)) dX1_next_130 ?_
      refine sd_lc_ne (a := sd_U y w n (u + 1) i) (b := sd_U y w n u i) (tgt := 138) hx hb dX1_next_131 dX1_next_132 (by decide) (by omega) (by omega) (fun h => ?_) (fun h => ?_)
      · have hne2 : ¬ sd_U y w n u i = sd_U y w n (u + 1) i := fun z => h z.symm
        refine lv_iload_n hx hb dX1_next_138 rfl (lv_at hl 3 rfl) ?_
        refine lv_if_ge (tgt := 162) hx hb dX1_next_139 (by decide) (fun h => ?_) (fun h => ?_)
        · have hcs : sd_na (sd_nm (sd_U y w n u) (sd_U y w n (u + 1)) n) = none := by
            have e1 : sd_nm (sd_U y w n u) (sd_U y w n (u + 1)) (i + 1) = none := by
              cases ch with
              | none => exact absurd h (by decide +kernel)
              | some c0 => unfold sd_nm; rw [hc]; simp [hne2]
            rw [sd_nm_none e1 n (by omega)]; rfl
          refine lv_iconst (v := (-1)) hx hb dX1_next_162 (by decide +kernel) ?_
          exact kk1 hcs ls
        · have hcn : ch = none := (sd_oi_neg hs).mp (Int32.not_le.mp h)
          subst hcn
          refine lv_aload_n hx hb dX1_next_142 rfl (lv_at hl 0 rfl) ?_
          refine va_get (D := (dC, dI)) (ci := 1) (v := .ref a2) (C := RX1) (T := TX1) (N := 6) hx hb hts u_in_X1 hown hK hP 0 rfl rfl 3 (by decide) (hts (.fieldLink RX1 17 "ShareDeskModel" "shares" "[J") k_fieldLink_X1_17) (fun _ h9 => h9) rfl dX1_next_143 ?_
          refine lv_iload hx hb dX1_next_146 (lv_at hl 4 rfl) ?_
          refine sd_lald (j := i) (v := lN (sd_U y w n (u + 1) i)) hx hb hK hP 2 0 rfl rfl (by omega) (by decide) (hsh i (by omega)) dX1_next_148 ?_
          refine lv_aload_n hx hb dX1_next_149 rfl (lv_at hl 0 rfl) ?_
          refine va_get (D := (dC, dI)) (ci := 1) (v := .ref a3) (C := RX1) (T := TX1) (N := 6) hx hb hts u_in_X1 hown hK hP 0 rfl rfl 4 (by decide) (hts (.fieldLink RX1 20 "ShareDeskModel" "kept" "[J") k_fieldLink_X1_20) (fun _ h9 => h9) rfl dX1_next_150 ?_
          refine lv_iload hx hb dX1_next_153 (lv_at hl 4 rfl) ?_
          refine sd_lald (j := i) (v := lN (sd_U y w n u i)) hx hb hK hP 3 0 rfl rfl (by omega) (by decide) (hke i (by omega)) dX1_next_155 ?_
          refine lv_lconst (v := lN 1) hx hb dX1_next_156 rfl ?_
          refine sd_ladd (v := lN ((sd_U y w n u i) + 1)) hx hb dX1_next_157 (lN_add _ _) ?_
          refine sd_lc_eq (a := sd_U y w n (u + 1) i) (b := (sd_U y w n u i) + 1) (tgt := 164) hx hb dX1_next_158 dX1_next_159 (by decide) (by omega) (by omega) (fun h => ?_) (fun h => ?_)
          · have e1 : sd_nm (sd_U y w n u) (sd_U y w n (u + 1)) (i + 1) = some (some i) := by unfold sd_nm; rw [hc]; simp [hne2, h]
            refine lv_iload hx hb dX1_next_164 (lv_at hl 4 rfl) ?_
            refine lv_istore_n hx hb dX1_next_166 rfl hl (by decide) rfl (fun ls hl => ?_)
            have hl : lv_has ls 5 [(3, .int (nI i)), (0, .ref h1), (1, .int (nI y)), (2, .int (nI u)), (4, .int (nI i))] := hl
            refine lv_iinc (k := 4) (v := nI (i + 1)) hx hb dX1_next_167 hl rfl (nI_add _ 1) (by decide) rfl (fun ls hl => ?_)
            have hl : lv_has ls 5 [(4, .int (nI (i + 1))), (3, .int (nI i)), (0, .ref h1), (1, .int (nI y)), (2, .int (nI u))] := hl
            refine lv_goto (tgt := 108) hx hb dX1_next_170 (by decide) ?_
            have hl := lv_sub (l' := [(0, .ref h1), (1, .int (nI y)), (2, .int (nI u)), (3, .int (nI i)), (4, .int (nI (i + 1)))]) hl [2, 3, 4, 1, 0] rfl
            exact ih (i + 1) (some i) (by omega) e1 (fun k hk => by cases hk; omega) ls hl
          · have hcs : sd_na (sd_nm (sd_U y w n u) (sd_U y w n (u + 1)) n) = none := by
              have e1 : sd_nm (sd_U y w n u) (sd_U y w n (u + 1)) (i + 1) = none := by unfold sd_nm; rw [hc]; simp [hne2, h]
              rw [sd_nm_none e1 n (by omega)]; rfl
            refine lv_iconst (v := (-1)) hx hb dX1_next_162 (by decide +kernel) ?_
            exact kk1 hcs ls
      · have e1 : sd_nm (sd_U y w n u) (sd_U y w n (u + 1)) (i + 1) = some ch := by unfold sd_nm; rw [hc]; simp [h]
        refine lv_goto (tgt := 167) hx hb dX1_next_135 (by decide) ?_
        refine lv_iinc (k := 4) (v := nI (i + 1)) hx hb dX1_next_167 hl rfl (nI_add _ 1) (by decide) rfl (fun ls hl => ?_)
        have hl : lv_has ls 5 [(4, .int (nI (i + 1))), (0, .ref h1), (1, .int (nI y)), (2, .int (nI u)), (3, .int (sd_oi ch))] := hl
        refine lv_goto (tgt := 108) hx hb dX1_next_170 (by decide) ?_
        have hl := lv_sub (l' := [(0, .ref h1), (1, .int (nI y)), (2, .int (nI u)), (3, .int (sd_oi ch)), (4, .int (nI (i + 1)))]) hl [1, 2, 3, 4, 0] rfl
        exact ih (i + 1) ch (by omega) e1 hs ls hl
set_option maxHeartbeats 4000000 in
set_option maxRecDepth 100000 in
theorem m_next_bad (l : Launch) (dC : Nat → ClassId) (dI : Nat → Nat → Nat) (cL cZ : ClassId) (h1 a1 a2 a3 a4 er n : Nat) (w : Nat → Nat) (sh ke : Nat → Int64) (go : Nat → Int32) (sz : Nat) (hn1 : 1 ≤ n) (hn8 : n ≤ 8) (x1 x2 : Int32) (hbad : sd_rg x1 0 2 = false ∨ sd_rg x2 0 9999 = false) : Met l yX1_next (sd_ws yX1_next cX1_next 5 (some .int)) (sd_rm 3 0 0) (sd_Pw (dC, dI) vwCl [(cL, .long), (cZ, .boolean)] (sd_M cL cZ h1 a1 a2 a3 a4 er n w sh ke go) sz [.ref h1, .int x1, .int x2]) (va_Qi (fun r (v_ : sd_S) => r = nI 0) (sd_Bw (dC, dI) vwCl [(cL, .long), (cZ, .boolean)] (sd_M cL cZ h1 a1 a2 a3 a4 er n w sh ke go) sz (fun v_ => (sd_M cL cZ h1 a1 a2 a3 a4 1 n w v_.1 v_.2.1 v_.2.2))) (va_A (sd_M cL cZ h1 a1 a2 a3 a4 er n w sh ke go) sz)) 0 0 (va_A (sd_M cL cZ h1 a1 a2 a3 a4 er n w sh ke go) sz) := by
  refine Met.ofW (cc := cX1_next) (maxL := 5) (ret := (some .int)) (by decide) rfl ?_
  intro p e s m args below meth c s₁ B hml hv
  obtain ⟨rfl, hsz, hP, hK, hD0⟩ := hv
  subst hsz
  have hx := B.exec
  have hb := B.bytes
  have hr := B.returns
  have hts0 := atoms_spec (ws := (sd_ws yX1_next cX1_next 5 (some .int))) B.pre
  have hts : ∀ w ∈ sd_WS, w.before _ s = true := fun w h => hts0 w (List.mem_cons_of_mem _ h)
  have hown : s.vm.findClass RX1 = some m.cls := findClass_of_methodNamed B.named
  have hlocks := B.notSynchronized
  have hl := lv_entry ([.ref h1, .int x1, .int x2]) (n := 5) (Nat.le_of_ble_eq_true rfl)
  rw [lg_entry_eq]
  generalize (lg_sl ([.ref h1, .int x1, .int x2]) ++ List.replicate (5 - (lg_sl ([.ref h1, .int x1, .int x2])).length) Slot.unset).toArray = ls at hl ⊢
  have hl : lv_has ls 5 [(0, .ref h1), (1, .int x1), (2, .int x2)] := hl
  obtain ⟨A, hAe⟩ : ∃ A, A = va_A (sd_M cL cZ h1 a1 a2 a3 a4 er n w sh ke go) s.heap.size := ⟨_, rfl⟩
  have hD : va_D A (sd_M cL cZ h1 a1 a2 a3 a4 er n w sh ke go) := by rw [hAe]; exact hD0.self
  have hA : ∀ q : Nat, s.heap.size ≤ q → A q := fun q h => by rw [hAe]; exact Or.inr h
  have hS : va_S A s.heap s.heap [] := va_S.rf
  have hP : va_P (dC, dI) vwCl [(h1, .inr (1, [.int (nI er), .int (nI n), .ref a1, .ref a2, .ref a3, .ref a4])), (a1, .inl (cL, 8, .inr (.inl (fun z => lN (w z))))), (a2, .inl (cL, 8, .inr (.inl sh))), (a3, .inl (cL, 8, .inr (.inl ke))), (a4, .inl (cZ, 8, .inl go))] s.heap := hP
  have hD : va_D A [(h1, .inr (1, [.int (nI er), .int (nI n), .ref a1, .ref a2, .ref a3, .ref a4])), (a1, .inl (cL, 8, .inr (.inl (fun z => lN (w z))))), (a2, .inl (cL, 8, .inr (.inl sh))), (a3, .inl (cL, 8, .inr (.inl ke))), (a4, .inl (cZ, 8, .inl go))] := hD
  refine lv_aload_n hx hb dX1_next_0 rfl (lv_at hl 0 rfl) ?_
  refine lv_iconst (v := (nI 0)) hx hb dX1_next_1 (by decide +kernel) ?_
  refine va_put (D := (dC, dI)) (ci := 1) (v := .int (nI 0)) (ty := .int) (C := RX1) (T := TX1) (N := 6) hx hb hts u_in_X1 tyX1 tyX1_ok nmX1 hown hK hP hD hS 0 rfl rfl 0 (by decide) (hts (.fieldLink RX1 27 "ShareDeskModel" "err" "I") k_fieldLink_X1_27) (fun _ h9 => h9) rfl (by decide +kernel) rfl rfl (Nat.le_of_ble_eq_true rfl) dX1_next_2 (fun H locs hP hD hS => ?_)
  have hP : va_P (dC, dI) vwCl [(h1, .inr (1, [.int (nI 0), .int (nI n), .ref a1, .ref a2, .ref a3, .ref a4])), (a1, .inl (cL, 8, .inr (.inl (fun z => lN (w z))))), (a2, .inl (cL, 8, .inr (.inl sh))), (a3, .inl (cL, 8, .inr (.inl ke))), (a4, .inl (cZ, 8, .inl go))] H := hP
  have hD : va_D A [(h1, .inr (1, [.int (nI 0), .int (nI n), .ref a1, .ref a2, .ref a3, .ref a4])), (a1, .inl (cL, 8, .inr (.inl (fun z => lN (w z))))), (a2, .inl (cL, 8, .inr (.inl sh))), (a3, .inl (cL, 8, .inr (.inl ke))), (a4, .inl (cZ, 8, .inl go))] := hD
  refine lv_aload_n hx hb dX1_next_5 rfl (lv_at hl 0 rfl) ?_
  refine lv_iload_n hx hb dX1_next_6 rfl (lv_at hl 1 rfl) ?_
  refine sd_calli (va_runS (As := [.int x1]) (rest := [.ref h1]) ⟨hx, hb, hml, hown, hts0⟩ (m_isWay l dC dI x1) (cwS 1 hts0 (sd_gS k_methodLink_X1_59 k_static_X1_isWay k_init_ShareDeskModel k_code_X1_isWay) rfl rfl rfl (by decide +kernel) ⟨Nat.le_of_ble_eq_true rfl, Nat.le_of_ble_eq_true rfl⟩) (sd_preS (sd_K0 hK) (sd_nil _ _ _)) rfl rfl hl.1 rfl (lv_room (Nat.le_of_ble_eq_true rfl)) dX1_next_7 ⟨Nat.zero_le _, Nat.zero_le _⟩) ?_
  refine sd_bz_eq (tgt := 25) hx hb dX1_next_10 (by decide) (fun hc0 => ?_) (fun hc0 => ?_)
  · have hc0 : sd_rg x1 0 2 = false := hc0
    refine lv_iconst (v := (nI 1)) hx hb dX1_next_25 (by decide +kernel) ?_
    refine lv_goto (tgt := 30) hx hb dX1_next_26 (by decide) ?_
    refine lv_iconst (v := (nI 1)) hx hb dX1_next_30 (by decide +kernel) ?_
    refine sd_wi (va_runV (As := [.int (nI 1), .int (nI 1)]) (rest := []) ⟨hx, hb, hml, hown, hts0⟩ (m_fails1 l dC dI cL cZ h1 a1 a2 a3 a4 0 n w sh ke go H.size rfl 1 (by decide) (by decide)) (cwV 2 hts0 (sd_gV k_methodLink_X1_38 k_instanceMethod_X1_fails k_sel_X1_fails k_init_ShareDeskModel k_code_X1_fails) rfl rfl rfl (by decide +kernel) ⟨Nat.le_of_ble_eq_true rfl, Nat.le_of_ble_eq_true rfl⟩) (sd_preVw hK hP hD (q0 := 0) (ci := 1) rfl rfl) rfl rfl hl.1 rfl (lv_room (Nat.le_of_ble_eq_true rfl)) dX1_next_31 ⟨Nat.zero_le _, Nat.zero_le _⟩) hD hS hA (fun r_ u_ H locs hpo hP hD hS => ?_)
    obtain ⟨sh, ke, go⟩ := u_
    try dsimp only at hpo
    have hP : va_P (dC, dI) vwCl [(h1, .inr (1, [.int (nI 1), .int (nI n), .ref a1, .ref a2, .ref a3, .ref a4])), (a1, .inl (cL, 8, .inr (.inl (fun z => lN (w z))))), (a2, .inl (cL, 8, .inr (.inl sh))), (a3, .inl (cL, 8, .inr (.inl ke))), (a4, .inl (cZ, 8, .inl go))] H := hP
    have hD : va_D A [(h1, .inr (1, [.int (nI 1), .int (nI n), .ref a1, .ref a2, .ref a3, .ref a4])), (a1, .inl (cL, 8, .inr (.inl (fun z => lN (w z))))), (a2, .inl (cL, 8, .inr (.inl sh))), (a3, .inl (cL, 8, .inr (.inl ke))), (a4, .inl (cZ, 8, .inl go))] := hD
    subst hpo
    refine sd_iz_ne (a := 1) (tgt := 59) hx hb dX1_next_34 (by decide) (by omega) (fun h => ?_) (fun h => ?_)
    · refine lv_iconst (v := (nI 0)) hx hb dX1_next_59 (by decide +kernel) ?_
      exact W.iret hx hb hr (fun t ht hW => ⟨⟨_, (sh, ke, go), rfl, rfl, by rw [ht]; exact hP, va_K.moved hW.alike hK, by rw [← hAe]; exact hD⟩, by rw [← hAe]; exact hS.F ht⟩) (fun q hq => by rw [← hAe]; exact hS.2.2 q hq) dX1_next_60
    · exact absurd h (by omega)
  · have hc0 : sd_rg x1 0 2 = true := hc0
    refine lv_iload_n hx hb dX1_next_13 rfl (lv_at hl 2 rfl) ?_
    refine lv_i2l (v := x2.toInt64) hx hb dX1_next_14 rfl ?_
    refine lv_lconst (v := lN 0) hx hb dX1_next_15 rfl ?_
    refine lv_ldc2 (v := 9999) hx hb hown (hts (.constantLong RX1 68 9999) k_constantLong_X1_68) dX1_next_16 ?_
    refine sd_topl (y := lN 9999) (by decide +kernel) ?_
    refine sd_calli (va_runS (As := [.long (x2.toInt64), .long (lN 0), .long (lN 9999)]) (rest := [.ref h1]) ⟨hx, hb, hml, hown, hts0⟩ (m_in l dC dI x2.toInt64 (lN 0) (lN 9999)) (cwS 3 hts0 (sd_gS k_methodLink_X1_30 k_static_X1_in k_init_ShareDeskModel k_code_X1_in) rfl rfl rfl (by decide +kernel) ⟨Nat.le_of_ble_eq_true rfl, Nat.le_of_ble_eq_true rfl⟩) (sd_preS (sd_K0 hK) (sd_nil _ _ _)) rfl rfl hl.1 rfl (lv_room (Nat.le_of_ble_eq_true rfl)) dX1_next_19 ⟨Nat.zero_le _, Nat.zero_le _⟩) ?_
    refine sd_bz_ne (tgt := 29) hx hb dX1_next_22 (by decide) (fun hc1 => ?_) (fun hc1 => ?_)
    · have hc1 : sd_rg x2 0 9999 = true := hc1
      exact absurd hbad (by simp [hc0, hc1])
    · have hc1 : sd_rg x2 0 9999 = false := hc1
      refine lv_iconst (v := (nI 1)) hx hb dX1_next_25 (by decide +kernel) ?_
      refine lv_goto (tgt := 30) hx hb dX1_next_26 (by decide) ?_
      refine lv_iconst (v := (nI 1)) hx hb dX1_next_30 (by decide +kernel) ?_
      refine sd_wi (va_runV (As := [.int (nI 1), .int (nI 1)]) (rest := []) ⟨hx, hb, hml, hown, hts0⟩ (m_fails1 l dC dI cL cZ h1 a1 a2 a3 a4 0 n w sh ke go H.size rfl 1 (by decide) (by decide)) (cwV 2 hts0 (sd_gV k_methodLink_X1_38 k_instanceMethod_X1_fails k_sel_X1_fails k_init_ShareDeskModel k_code_X1_fails) rfl rfl rfl (by decide +kernel) ⟨Nat.le_of_ble_eq_true rfl, Nat.le_of_ble_eq_true rfl⟩) (sd_preVw hK hP hD (q0 := 0) (ci := 1) rfl rfl) rfl rfl hl.1 rfl (lv_room (Nat.le_of_ble_eq_true rfl)) dX1_next_31 ⟨Nat.zero_le _, Nat.zero_le _⟩) hD hS hA (fun r_ u_ H locs hpo hP hD hS => ?_)
      obtain ⟨sh, ke, go⟩ := u_
      try dsimp only at hpo
      have hP : va_P (dC, dI) vwCl [(h1, .inr (1, [.int (nI 1), .int (nI n), .ref a1, .ref a2, .ref a3, .ref a4])), (a1, .inl (cL, 8, .inr (.inl (fun z => lN (w z))))), (a2, .inl (cL, 8, .inr (.inl sh))), (a3, .inl (cL, 8, .inr (.inl ke))), (a4, .inl (cZ, 8, .inl go))] H := hP
      have hD : va_D A [(h1, .inr (1, [.int (nI 1), .int (nI n), .ref a1, .ref a2, .ref a3, .ref a4])), (a1, .inl (cL, 8, .inr (.inl (fun z => lN (w z))))), (a2, .inl (cL, 8, .inr (.inl sh))), (a3, .inl (cL, 8, .inr (.inl ke))), (a4, .inl (cZ, 8, .inl go))] := hD
      subst hpo
      refine sd_iz_ne (a := 1) (tgt := 59) hx hb dX1_next_34 (by decide) (by omega) (fun h => ?_) (fun h => ?_)
      · refine lv_iconst (v := (nI 0)) hx hb dX1_next_59 (by decide +kernel) ?_
        exact W.iret hx hb hr (fun t ht hW => ⟨⟨_, (sh, ke, go), rfl, rfl, by rw [ht]; exact hP, va_K.moved hW.alike hK, by rw [← hAe]; exact hD⟩, by rw [← hAe]; exact hS.F ht⟩) (fun q hq => by rw [← hAe]; exact hS.2.2 q hq) dX1_next_60
      · exact absurd h (by omega)
set_option maxHeartbeats 4000000 in
set_option maxRecDepth 100000 in
theorem m_next_zero (l : Launch) (dC : Nat → ClassId) (dI : Nat → Nat → Nat) (cL cZ : ClassId) (h1 a1 a2 a3 a4 er n : Nat) (w : Nat → Nat) (sh ke : Nat → Int64) (go : Nat → Int32) (sz : Nat) (hn1 : 1 ≤ n) (hn8 : n ≤ 8) (y u : Nat) (hy : y ≤ 2) (hu : u ≤ 9999) (hz : sd_sum w n = 0) : Met l yX1_next (sd_ws yX1_next cX1_next 5 (some .int)) (sd_rm 3 0 0) (sd_Pw (dC, dI) vwCl [(cL, .long), (cZ, .boolean)] (sd_M cL cZ h1 a1 a2 a3 a4 er n w sh ke go) sz [.ref h1, .int (nI y), .int (nI u)]) (va_Qi (fun r (v_ : sd_S) => r = nI 0) (sd_Bw (dC, dI) vwCl [(cL, .long), (cZ, .boolean)] (sd_M cL cZ h1 a1 a2 a3 a4 er n w sh ke go) sz (fun v_ => (sd_M cL cZ h1 a1 a2 a3 a4 2 n w v_.1 v_.2.1 v_.2.2))) (va_A (sd_M cL cZ h1 a1 a2 a3 a4 er n w sh ke go) sz)) 0 0 (va_A (sd_M cL cZ h1 a1 a2 a3 a4 er n w sh ke go) sz) := by
  refine Met.ofW (cc := cX1_next) (maxL := 5) (ret := (some .int)) (by decide) rfl ?_
  intro p e s m args below meth c s₁ B hml hv
  obtain ⟨rfl, hsz, hP, hK, hD0⟩ := hv
  subst hsz
  have hx := B.exec
  have hb := B.bytes
  have hr := B.returns
  have hts0 := atoms_spec (ws := (sd_ws yX1_next cX1_next 5 (some .int))) B.pre
  have hts : ∀ w ∈ sd_WS, w.before _ s = true := fun w h => hts0 w (List.mem_cons_of_mem _ h)
  have hown : s.vm.findClass RX1 = some m.cls := findClass_of_methodNamed B.named
  have hlocks := B.notSynchronized
  have hl := lv_entry ([.ref h1, .int (nI y), .int (nI u)]) (n := 5) (Nat.le_of_ble_eq_true rfl)
  rw [lg_entry_eq]
  generalize (lg_sl ([.ref h1, .int (nI y), .int (nI u)]) ++ List.replicate (5 - (lg_sl ([.ref h1, .int (nI y), .int (nI u)])).length) Slot.unset).toArray = ls at hl ⊢
  have hl : lv_has ls 5 [(0, .ref h1), (1, .int (nI y)), (2, .int (nI u))] := hl
  obtain ⟨A, hAe⟩ : ∃ A, A = va_A (sd_M cL cZ h1 a1 a2 a3 a4 er n w sh ke go) s.heap.size := ⟨_, rfl⟩
  have hD : va_D A (sd_M cL cZ h1 a1 a2 a3 a4 er n w sh ke go) := by rw [hAe]; exact hD0.self
  have hA : ∀ q : Nat, s.heap.size ≤ q → A q := fun q h => by rw [hAe]; exact Or.inr h
  have hS : va_S A s.heap s.heap [] := va_S.rf
  have hP : va_P (dC, dI) vwCl [(h1, .inr (1, [.int (nI er), .int (nI n), .ref a1, .ref a2, .ref a3, .ref a4])), (a1, .inl (cL, 8, .inr (.inl (fun z => lN (w z))))), (a2, .inl (cL, 8, .inr (.inl sh))), (a3, .inl (cL, 8, .inr (.inl ke))), (a4, .inl (cZ, 8, .inl go))] s.heap := hP
  have hD : va_D A [(h1, .inr (1, [.int (nI er), .int (nI n), .ref a1, .ref a2, .ref a3, .ref a4])), (a1, .inl (cL, 8, .inr (.inl (fun z => lN (w z))))), (a2, .inl (cL, 8, .inr (.inl sh))), (a3, .inl (cL, 8, .inr (.inl ke))), (a4, .inl (cZ, 8, .inl go))] := hD
  refine lv_aload_n hx hb dX1_next_0 rfl (lv_at hl 0 rfl) ?_
  refine lv_iconst (v := (nI 0)) hx hb dX1_next_1 (by decide +kernel) ?_
  refine va_put (D := (dC, dI)) (ci := 1) (v := .int (nI 0)) (ty := .int) (C := RX1) (T := TX1) (N := 6) hx hb hts u_in_X1 tyX1 tyX1_ok nmX1 hown hK hP hD hS 0 rfl rfl 0 (by decide) (hts (.fieldLink RX1 27 "ShareDeskModel" "err" "I") k_fieldLink_X1_27) (fun _ h9 => h9) rfl (by decide +kernel) rfl rfl (Nat.le_of_ble_eq_true rfl) dX1_next_2 (fun H locs hP hD hS => ?_)
  have hP : va_P (dC, dI) vwCl [(h1, .inr (1, [.int (nI 0), .int (nI n), .ref a1, .ref a2, .ref a3, .ref a4])), (a1, .inl (cL, 8, .inr (.inl (fun z => lN (w z))))), (a2, .inl (cL, 8, .inr (.inl sh))), (a3, .inl (cL, 8, .inr (.inl ke))), (a4, .inl (cZ, 8, .inl go))] H := hP
  have hD : va_D A [(h1, .inr (1, [.int (nI 0), .int (nI n), .ref a1, .ref a2, .ref a3, .ref a4])), (a1, .inl (cL, 8, .inr (.inl (fun z => lN (w z))))), (a2, .inl (cL, 8, .inr (.inl sh))), (a3, .inl (cL, 8, .inr (.inl ke))), (a4, .inl (cZ, 8, .inl go))] := hD
  refine lv_aload_n hx hb dX1_next_5 rfl (lv_at hl 0 rfl) ?_
  refine lv_iload_n hx hb dX1_next_6 rfl (lv_at hl 1 rfl) ?_
  refine sd_calli (va_runS (As := [.int (nI y)]) (rest := [.ref h1]) ⟨hx, hb, hml, hown, hts0⟩ (m_isWay l dC dI (nI y)) (cwS 1 hts0 (sd_gS k_methodLink_X1_59 k_static_X1_isWay k_init_ShareDeskModel k_code_X1_isWay) rfl rfl rfl (by decide +kernel) ⟨Nat.le_of_ble_eq_true rfl, Nat.le_of_ble_eq_true rfl⟩) (sd_preS (sd_K0 hK) (sd_nil _ _ _)) rfl rfl hl.1 rfl (lv_room (Nat.le_of_ble_eq_true rfl)) dX1_next_7 ⟨Nat.zero_le _, Nat.zero_le _⟩) ?_
  refine sd_bz_eq (tgt := 25) hx hb dX1_next_10 (by decide) (fun hc0 => ?_) (fun hc0 => ?_)
  · have hc0 : sd_rg (nI y) 0 2 = false := hc0
    exact absurd hc0 (by rw [sd_rg_nI (by omega) (by omega) (by omega) (by omega)]; decide)
  · have hc0 : sd_rg (nI y) 0 2 = true := hc0
    refine lv_iload_n hx hb dX1_next_13 rfl (lv_at hl 2 rfl) ?_
    refine lv_i2l (v := (nI u).toInt64) hx hb dX1_next_14 rfl ?_
    refine lv_lconst (v := lN 0) hx hb dX1_next_15 rfl ?_
    refine lv_ldc2 (v := 9999) hx hb hown (hts (.constantLong RX1 68 9999) k_constantLong_X1_68) dX1_next_16 ?_
    refine sd_topl (y := lN 9999) (by decide +kernel) ?_
    refine sd_calli (va_runS (As := [.long ((nI u).toInt64), .long (lN 0), .long (lN 9999)]) (rest := [.ref h1]) ⟨hx, hb, hml, hown, hts0⟩ (m_in l dC dI (nI u).toInt64 (lN 0) (lN 9999)) (cwS 3 hts0 (sd_gS k_methodLink_X1_30 k_static_X1_in k_init_ShareDeskModel k_code_X1_in) rfl rfl rfl (by decide +kernel) ⟨Nat.le_of_ble_eq_true rfl, Nat.le_of_ble_eq_true rfl⟩) (sd_preS (sd_K0 hK) (sd_nil _ _ _)) rfl rfl hl.1 rfl (lv_room (Nat.le_of_ble_eq_true rfl)) dX1_next_19 ⟨Nat.zero_le _, Nat.zero_le _⟩) ?_
    refine sd_bz_ne (tgt := 29) hx hb dX1_next_22 (by decide) (fun hc1 => ?_) (fun hc1 => ?_)
    · have hc1 : sd_rg (nI u) 0 9999 = true := hc1
      refine lv_iconst (v := (nI 0)) hx hb dX1_next_29 (by decide +kernel) ?_
      refine lv_iconst (v := (nI 1)) hx hb dX1_next_30 (by decide +kernel) ?_
      refine sd_calli (va_runV (As := [.int (nI 0), .int (nI 1)]) (rest := []) ⟨hx, hb, hml, hown, hts0⟩ (m_fails0 l dC dI cL cZ h1 a1 a2 a3 a4 0 n w sh ke go rfl 1) (cwV 2 hts0 (sd_gV k_methodLink_X1_38 k_instanceMethod_X1_fails k_sel_X1_fails k_init_ShareDeskModel k_code_X1_fails) rfl rfl rfl (by decide +kernel) ⟨Nat.le_of_ble_eq_true rfl, Nat.le_of_ble_eq_true rfl⟩) (sd_preV hK hP (q0 := 0) (ci := 1) rfl rfl) rfl rfl hl.1 rfl (lv_room (Nat.le_of_ble_eq_true rfl)) dX1_next_31 ⟨Nat.zero_le _, Nat.zero_le _⟩) ?_
      refine sd_iz_ne (a := 0) (tgt := 59) hx hb dX1_next_34 (by decide) (by omega) (fun h => ?_) (fun h => ?_)
      · exact absurd h (by omega)
      · refine lv_aload_n hx hb dX1_next_37 rfl (lv_at hl 0 rfl) ?_
        refine lv_aload_n hx hb dX1_next_38 rfl (lv_at hl 0 rfl) ?_
        refine sd_calll (va_runV (As := []) (rest := [.ref h1]) ⟨hx, hb, hml, hown, hts0⟩ (m_all l dC dI cL cZ h1 a1 a2 a3 a4 0 n w sh ke go hn8) (cwV 0 hts0 (sd_gV k_methodLink_X1_48 k_instanceMethod_X1_all k_sel_X1_all k_init_ShareDeskModel k_code_X1_all) rfl rfl rfl (by decide +kernel) ⟨Nat.le_of_ble_eq_true rfl, Nat.le_of_ble_eq_true rfl⟩) (sd_preV hK hP (q0 := 0) (ci := 1) rfl rfl) rfl rfl hl.1 rfl (lv_room (Nat.le_of_ble_eq_true rfl)) dX1_next_39 ⟨Nat.zero_le _, Nat.zero_le _⟩) ?_
        refine lv_lconst (v := lN 0) hx hb dX1_next_42 rfl ?_
        refine sd_lc_ne (a := sd_sum w n) (b := 0) (tgt := 51) hx hb dX1_next_43 dX1_next_44 (by decide) (by omega) (by omega) (fun h => ?_) (fun h => ?_)
        · exact absurd hz h
        · refine lv_iconst (v := (nI 1)) hx hb dX1_next_47 (by decide +kernel) ?_
          refine lv_goto (tgt := 52) hx hb dX1_next_48 (by decide) ?_
          refine lv_iconst (v := (nI 2)) hx hb dX1_next_52 (by decide +kernel) ?_
          refine sd_wi (va_runV (As := [.int (nI 1), .int (nI 2)]) (rest := []) ⟨hx, hb, hml, hown, hts0⟩ (m_fails1 l dC dI cL cZ h1 a1 a2 a3 a4 0 n w sh ke go H.size rfl 2 (by decide) (by decide)) (cwV 2 hts0 (sd_gV k_methodLink_X1_38 k_instanceMethod_X1_fails k_sel_X1_fails k_init_ShareDeskModel k_code_X1_fails) rfl rfl rfl (by decide +kernel) ⟨Nat.le_of_ble_eq_true rfl, Nat.le_of_ble_eq_true rfl⟩) (sd_preVw hK hP hD (q0 := 0) (ci := 1) rfl rfl) rfl rfl hl.1 rfl (lv_room (Nat.le_of_ble_eq_true rfl)) dX1_next_53 ⟨Nat.zero_le _, Nat.zero_le _⟩) hD hS hA (fun r_ u_ H locs hpo hP hD hS => ?_)
          obtain ⟨sh, ke, go⟩ := u_
          try dsimp only at hpo
          have hP : va_P (dC, dI) vwCl [(h1, .inr (1, [.int (nI 2), .int (nI n), .ref a1, .ref a2, .ref a3, .ref a4])), (a1, .inl (cL, 8, .inr (.inl (fun z => lN (w z))))), (a2, .inl (cL, 8, .inr (.inl sh))), (a3, .inl (cL, 8, .inr (.inl ke))), (a4, .inl (cZ, 8, .inl go))] H := hP
          have hD : va_D A [(h1, .inr (1, [.int (nI 2), .int (nI n), .ref a1, .ref a2, .ref a3, .ref a4])), (a1, .inl (cL, 8, .inr (.inl (fun z => lN (w z))))), (a2, .inl (cL, 8, .inr (.inl sh))), (a3, .inl (cL, 8, .inr (.inl ke))), (a4, .inl (cZ, 8, .inl go))] := hD
          subst hpo
          refine sd_iz_eq (a := 1) (tgt := 61) hx hb dX1_next_56 (by decide) (by omega) (fun h => ?_) (fun h => ?_)
          · exact absurd h (by omega)
          · refine lv_iconst (v := (nI 0)) hx hb dX1_next_59 (by decide +kernel) ?_
            exact W.iret hx hb hr (fun t ht hW => ⟨⟨_, (sh, ke, go), rfl, rfl, by rw [ht]; exact hP, va_K.moved hW.alike hK, by rw [← hAe]; exact hD⟩, by rw [← hAe]; exact hS.F ht⟩) (fun q hq => by rw [← hAe]; exact hS.2.2 q hq) dX1_next_60
    · have hc1 : sd_rg (nI u) 0 9999 = false := hc1
      exact absurd hc1 (by rw [sd_rg_nI (by omega) (by omega) (by omega) (by omega)]; decide)
set_option maxHeartbeats 4000000 in
set_option maxRecDepth 100000 in
theorem m_next (l : Launch) (dC : Nat → ClassId) (dI : Nat → Nat → Nat) (cL cZ : ClassId) (h1 a1 a2 a3 a4 er n : Nat) (w : Nat → Nat) (sh ke : Nat → Int64) (go : Nat → Int32) (sz : Nat) (ok : sd_ok n w) (hW : 0 < sd_sum w n) (y u : Nat) (hy : y ≤ 2) (hu : u ≤ 9999) : Met l yX1_next (sd_ws yX1_next cX1_next 5 (some .int)) (sd_rm 3 0 0) (sd_Pw (dC, dI) vwCl [(cL, .long), (cZ, .boolean)] (sd_M cL cZ h1 a1 a2 a3 a4 er n w sh ke go) sz [.ref h1, .int (nI y), .int (nI u)]) (va_Qi (fun r (v_ : sd_S) => r = sd_oi (sd_na (sd_nc (sd_U y w n u) (sd_U y w n (u + 1)) n))) (sd_Bw (dC, dI) vwCl [(cL, .long), (cZ, .boolean)] (sd_M cL cZ h1 a1 a2 a3 a4 er n w sh ke go) sz (fun v_ => (sd_M cL cZ h1 a1 a2 a3 a4 0 n w v_.1 v_.2.1 v_.2.2))) (va_A (sd_M cL cZ h1 a1 a2 a3 a4 er n w sh ke go) sz)) 0 0 (va_A (sd_M cL cZ h1 a1 a2 a3 a4 er n w sh ke go) sz) := by
  refine Met.ofW (cc := cX1_next) (maxL := 5) (ret := (some .int)) (by decide) rfl ?_
  intro p e s m args below meth c s₁ B hml hv
  obtain ⟨rfl, hsz, hP, hK, hD0⟩ := hv
  subst hsz
  have hx := B.exec
  have hb := B.bytes
  have hr := B.returns
  have hts0 := atoms_spec (ws := (sd_ws yX1_next cX1_next 5 (some .int))) B.pre
  have hts : ∀ w ∈ sd_WS, w.before _ s = true := fun w h => hts0 w (List.mem_cons_of_mem _ h)
  have hown : s.vm.findClass RX1 = some m.cls := findClass_of_methodNamed B.named
  have hlocks := B.notSynchronized
  have hl := lv_entry ([.ref h1, .int (nI y), .int (nI u)]) (n := 5) (Nat.le_of_ble_eq_true rfl)
  rw [lg_entry_eq]
  generalize (lg_sl ([.ref h1, .int (nI y), .int (nI u)]) ++ List.replicate (5 - (lg_sl ([.ref h1, .int (nI y), .int (nI u)])).length) Slot.unset).toArray = ls at hl ⊢
  have hl : lv_has ls 5 [(0, .ref h1), (1, .int (nI y)), (2, .int (nI u))] := hl
  obtain ⟨A, hAe⟩ : ∃ A, A = va_A (sd_M cL cZ h1 a1 a2 a3 a4 er n w sh ke go) s.heap.size := ⟨_, rfl⟩
  have hD : va_D A (sd_M cL cZ h1 a1 a2 a3 a4 er n w sh ke go) := by rw [hAe]; exact hD0.self
  have hA : ∀ q : Nat, s.heap.size ≤ q → A q := fun q h => by rw [hAe]; exact Or.inr h
  have hS : va_S A s.heap s.heap [] := va_S.rf
  have hP : va_P (dC, dI) vwCl [(h1, .inr (1, [.int (nI er), .int (nI n), .ref a1, .ref a2, .ref a3, .ref a4])), (a1, .inl (cL, 8, .inr (.inl (fun z => lN (w z))))), (a2, .inl (cL, 8, .inr (.inl sh))), (a3, .inl (cL, 8, .inr (.inl ke))), (a4, .inl (cZ, 8, .inl go))] s.heap := hP
  have hD : va_D A [(h1, .inr (1, [.int (nI er), .int (nI n), .ref a1, .ref a2, .ref a3, .ref a4])), (a1, .inl (cL, 8, .inr (.inl (fun z => lN (w z))))), (a2, .inl (cL, 8, .inr (.inl sh))), (a3, .inl (cL, 8, .inr (.inl ke))), (a4, .inl (cZ, 8, .inl go))] := hD
  have hn1 := ok.1
  have hn8 := ok.2.1
  have hWl := sd_W_le ok.2.2.1 ok.2.1
  refine lv_aload_n hx hb dX1_next_0 rfl (lv_at hl 0 rfl) ?_
  refine lv_iconst (v := (nI 0)) hx hb dX1_next_1 (by decide +kernel) ?_
  refine va_put (D := (dC, dI)) (ci := 1) (v := .int (nI 0)) (ty := .int) (C := RX1) (T := TX1) (N := 6) hx hb hts u_in_X1 tyX1 tyX1_ok nmX1 hown hK hP hD hS 0 rfl rfl 0 (by decide) (hts (.fieldLink RX1 27 "ShareDeskModel" "err" "I") k_fieldLink_X1_27) (fun _ h9 => h9) rfl (by decide +kernel) rfl rfl (Nat.le_of_ble_eq_true rfl) dX1_next_2 (fun H locs hP hD hS => ?_)
  have hP : va_P (dC, dI) vwCl [(h1, .inr (1, [.int (nI 0), .int (nI n), .ref a1, .ref a2, .ref a3, .ref a4])), (a1, .inl (cL, 8, .inr (.inl (fun z => lN (w z))))), (a2, .inl (cL, 8, .inr (.inl sh))), (a3, .inl (cL, 8, .inr (.inl ke))), (a4, .inl (cZ, 8, .inl go))] H := hP
  have hD : va_D A [(h1, .inr (1, [.int (nI 0), .int (nI n), .ref a1, .ref a2, .ref a3, .ref a4])), (a1, .inl (cL, 8, .inr (.inl (fun z => lN (w z))))), (a2, .inl (cL, 8, .inr (.inl sh))), (a3, .inl (cL, 8, .inr (.inl ke))), (a4, .inl (cZ, 8, .inl go))] := hD
  refine lv_aload_n hx hb dX1_next_5 rfl (lv_at hl 0 rfl) ?_
  refine lv_iload_n hx hb dX1_next_6 rfl (lv_at hl 1 rfl) ?_
  refine sd_calli (va_runS (As := [.int (nI y)]) (rest := [.ref h1]) ⟨hx, hb, hml, hown, hts0⟩ (m_isWay l dC dI (nI y)) (cwS 1 hts0 (sd_gS k_methodLink_X1_59 k_static_X1_isWay k_init_ShareDeskModel k_code_X1_isWay) rfl rfl rfl (by decide +kernel) ⟨Nat.le_of_ble_eq_true rfl, Nat.le_of_ble_eq_true rfl⟩) (sd_preS (sd_K0 hK) (sd_nil _ _ _)) rfl rfl hl.1 rfl (lv_room (Nat.le_of_ble_eq_true rfl)) dX1_next_7 ⟨Nat.zero_le _, Nat.zero_le _⟩) ?_
  refine sd_bz_eq (tgt := 25) hx hb dX1_next_10 (by decide) (fun hc0 => ?_) (fun hc0 => ?_)
  · have hc0 : sd_rg (nI y) 0 2 = false := hc0
    exact absurd hc0 (by rw [sd_rg_nI (by omega) (by omega) (by omega) (by omega)]; decide)
  · have hc0 : sd_rg (nI y) 0 2 = true := hc0
    refine lv_iload_n hx hb dX1_next_13 rfl (lv_at hl 2 rfl) ?_
    refine lv_i2l (v := (nI u).toInt64) hx hb dX1_next_14 rfl ?_
    refine lv_lconst (v := lN 0) hx hb dX1_next_15 rfl ?_
    refine lv_ldc2 (v := 9999) hx hb hown (hts (.constantLong RX1 68 9999) k_constantLong_X1_68) dX1_next_16 ?_
    refine sd_topl (y := lN 9999) (by decide +kernel) ?_
    refine sd_calli (va_runS (As := [.long ((nI u).toInt64), .long (lN 0), .long (lN 9999)]) (rest := [.ref h1]) ⟨hx, hb, hml, hown, hts0⟩ (m_in l dC dI (nI u).toInt64 (lN 0) (lN 9999)) (cwS 3 hts0 (sd_gS k_methodLink_X1_30 k_static_X1_in k_init_ShareDeskModel k_code_X1_in) rfl rfl rfl (by decide +kernel) ⟨Nat.le_of_ble_eq_true rfl, Nat.le_of_ble_eq_true rfl⟩) (sd_preS (sd_K0 hK) (sd_nil _ _ _)) rfl rfl hl.1 rfl (lv_room (Nat.le_of_ble_eq_true rfl)) dX1_next_19 ⟨Nat.zero_le _, Nat.zero_le _⟩) ?_
    refine sd_bz_ne (tgt := 29) hx hb dX1_next_22 (by decide) (fun hc1 => ?_) (fun hc1 => ?_)
    · have hc1 : sd_rg (nI u) 0 9999 = true := hc1
      refine lv_iconst (v := (nI 0)) hx hb dX1_next_29 (by decide +kernel) ?_
      refine lv_iconst (v := (nI 1)) hx hb dX1_next_30 (by decide +kernel) ?_
      refine sd_calli (va_runV (As := [.int (nI 0), .int (nI 1)]) (rest := []) ⟨hx, hb, hml, hown, hts0⟩ (m_fails0 l dC dI cL cZ h1 a1 a2 a3 a4 0 n w sh ke go rfl 1) (cwV 2 hts0 (sd_gV k_methodLink_X1_38 k_instanceMethod_X1_fails k_sel_X1_fails k_init_ShareDeskModel k_code_X1_fails) rfl rfl rfl (by decide +kernel) ⟨Nat.le_of_ble_eq_true rfl, Nat.le_of_ble_eq_true rfl⟩) (sd_preV hK hP (q0 := 0) (ci := 1) rfl rfl) rfl rfl hl.1 rfl (lv_room (Nat.le_of_ble_eq_true rfl)) dX1_next_31 ⟨Nat.zero_le _, Nat.zero_le _⟩) ?_
      refine sd_iz_ne (a := 0) (tgt := 59) hx hb dX1_next_34 (by decide) (by omega) (fun h => ?_) (fun h => ?_)
      · exact absurd h (by omega)
      · refine lv_aload_n hx hb dX1_next_37 rfl (lv_at hl 0 rfl) ?_
        refine lv_aload_n hx hb dX1_next_38 rfl (lv_at hl 0 rfl) ?_
        refine sd_calll (va_runV (As := []) (rest := [.ref h1]) ⟨hx, hb, hml, hown, hts0⟩ (m_all l dC dI cL cZ h1 a1 a2 a3 a4 0 n w sh ke go hn8) (cwV 0 hts0 (sd_gV k_methodLink_X1_48 k_instanceMethod_X1_all k_sel_X1_all k_init_ShareDeskModel k_code_X1_all) rfl rfl rfl (by decide +kernel) ⟨Nat.le_of_ble_eq_true rfl, Nat.le_of_ble_eq_true rfl⟩) (sd_preV hK hP (q0 := 0) (ci := 1) rfl rfl) rfl rfl hl.1 rfl (lv_room (Nat.le_of_ble_eq_true rfl)) dX1_next_39 ⟨Nat.zero_le _, Nat.zero_le _⟩) ?_
        refine lv_lconst (v := lN 0) hx hb dX1_next_42 rfl ?_
        refine sd_lc_ne (a := sd_sum w n) (b := 0) (tgt := 51) hx hb dX1_next_43 dX1_next_44 (by decide) (by omega) (by omega) (fun h => ?_) (fun h => ?_)
        · refine lv_iconst (v := (nI 0)) hx hb dX1_next_51 (by decide +kernel) ?_
          refine lv_iconst (v := (nI 2)) hx hb dX1_next_52 (by decide +kernel) ?_
          refine sd_calli (va_runV (As := [.int (nI 0), .int (nI 2)]) (rest := []) ⟨hx, hb, hml, hown, hts0⟩ (m_fails0 l dC dI cL cZ h1 a1 a2 a3 a4 0 n w sh ke go rfl 2) (cwV 2 hts0 (sd_gV k_methodLink_X1_38 k_instanceMethod_X1_fails k_sel_X1_fails k_init_ShareDeskModel k_code_X1_fails) rfl rfl rfl (by decide +kernel) ⟨Nat.le_of_ble_eq_true rfl, Nat.le_of_ble_eq_true rfl⟩) (sd_preV hK hP (q0 := 0) (ci := 1) rfl rfl) rfl rfl hl.1 rfl (lv_room (Nat.le_of_ble_eq_true rfl)) dX1_next_53 ⟨Nat.zero_le _, Nat.zero_le _⟩) ?_
          refine sd_iz_eq (a := 0) (tgt := 61) hx hb dX1_next_56 (by decide) (by omega) (fun h => ?_) (fun h => ?_)
          · refine lv_aload_n hx hb dX1_next_61 rfl (lv_at hl 0 rfl) ?_
            refine lv_iload_n hx hb dX1_next_62 rfl (lv_at hl 1 rfl) ?_
            refine lv_iload_n hx hb dX1_next_63 rfl (lv_at hl 2 rfl) ?_
            refine sd_wv (va_runV (As := [.int (nI y), .int (nI u)]) (rest := []) ⟨hx, hb, hml, hown, hts0⟩ (m_give l dC dI cL cZ h1 a1 a2 a3 a4 0 n w sh ke go H.size ok hW y u hy (by omega)) (cwV 2 hts0 (sd_gV k_methodLink_X1_64 k_instanceMethod_X1_give k_sel_X1_give k_init_ShareDeskModel k_code_X1_give) rfl rfl rfl (by decide +kernel) ⟨Nat.le_of_ble_eq_true rfl, Nat.le_of_ble_eq_true rfl⟩) (sd_preVw hK hP hD (q0 := 0) (ci := 1) rfl rfl) rfl rfl hl.1 rfl (lv_room (Nat.le_of_ble_eq_true rfl)) dX1_next_64 ⟨Nat.zero_le _, Nat.zero_le _⟩) hD hS hA (fun u_ H locs hpo hP hD hS => ?_)
            obtain ⟨sh, ke1, go⟩ := u_
            try dsimp only at hpo
            have hP : va_P (dC, dI) vwCl [(h1, .inr (1, [.int (nI 0), .int (nI n), .ref a1, .ref a2, .ref a3, .ref a4])), (a1, .inl (cL, 8, .inr (.inl (fun z => lN (w z))))), (a2, .inl (cL, 8, .inr (.inl sh))), (a3, .inl (cL, 8, .inr (.inl ke1))), (a4, .inl (cZ, 8, .inl go))] H := hP
            have hD : va_D A [(h1, .inr (1, [.int (nI 0), .int (nI n), .ref a1, .ref a2, .ref a3, .ref a4])), (a1, .inl (cL, 8, .inr (.inl (fun z => lN (w z))))), (a2, .inl (cL, 8, .inr (.inl sh))), (a3, .inl (cL, 8, .inr (.inl ke1))), (a4, .inl (cZ, 8, .inl go))] := hD
            obtain ⟨hpo, hke⟩ := hpo
            rw [hke] at hP hD
            have hP : va_P (dC, dI) vwCl [(h1, .inr (1, [.int (nI 0), .int (nI n), .ref a1, .ref a2, .ref a3, .ref a4])), (a1, .inl (cL, 8, .inr (.inl (fun z => lN (w z))))), (a2, .inl (cL, 8, .inr (.inl sh))), (a3, .inl (cL, 8, .inr (.inl ke))), (a4, .inl (cZ, 8, .inl go))] H := hP
            have hD : va_D A [(h1, .inr (1, [.int (nI 0), .int (nI n), .ref a1, .ref a2, .ref a3, .ref a4])), (a1, .inl (cL, 8, .inr (.inl (fun z => lN (w z))))), (a2, .inl (cL, 8, .inr (.inl sh))), (a3, .inl (cL, 8, .inr (.inl ke))), (a4, .inl (cZ, 8, .inl go))] := hD
            refine lv_iconst (v := (nI 0)) hx hb dX1_next_67 (by decide +kernel) ?_
            refine lv_istore_n hx hb dX1_next_68 rfl hl (by decide) rfl (fun ls hl => ?_)
            have hl : lv_has ls 5 [(3, .int (nI 0)), (0, .ref h1), (1, .int (nI y)), (2, .int (nI u))] := hl
            have hl := lv_sub (l' := [(0, .ref h1), (1, .int (nI y)), (2, .int (nI u)), (3, .int (nI 0))]) hl [1, 2, 3, 0] rfl
            refine lp_mnext1 (er := 0) hx hb hml hts0 hown A s.heap hA hK sh go ok y u hpo (fun H locs ke ls hP hD hS hv hl => ?_) n 0 (by omega) H locs ke ls hP hD hS (fun j hj => absurd hj (Nat.not_lt_zero _)) hl
            refine lv_aload_n hx hb dX1_next_95 rfl (lv_at hl 0 rfl) ?_
            refine lv_iload_n hx hb dX1_next_96 rfl (lv_at hl 1 rfl) ?_
            refine lv_iload_n hx hb dX1_next_97 rfl (lv_at hl 2 rfl) ?_
            refine lv_iconst (v := (nI 1)) hx hb dX1_next_98 (by decide +kernel) ?_
            refine sd_iadd (v := nI (u + 1)) hx hb dX1_next_99 (nI_add _ _) ?_
            refine sd_wv (va_runV (As := [.int (nI y), .int (nI (u + 1))]) (rest := []) ⟨hx, hb, hml, hown, hts0⟩ (m_give l dC dI cL cZ h1 a1 a2 a3 a4 0 n w sh ke go H.size ok hW y (u + 1) hy (by omega)) (cwV 2 hts0 (sd_gV k_methodLink_X1_64 k_instanceMethod_X1_give k_sel_X1_give k_init_ShareDeskModel k_code_X1_give) rfl rfl rfl (by decide +kernel) ⟨Nat.le_of_ble_eq_true rfl, Nat.le_of_ble_eq_true rfl⟩) (sd_preVw hK hP hD (q0 := 0) (ci := 1) rfl rfl) rfl rfl hl.1 rfl (lv_room (Nat.le_of_ble_eq_true rfl)) dX1_next_100 ⟨Nat.zero_le _, Nat.zero_le _⟩) hD hS hA (fun u_ H locs hpp hP hD hS => ?_)
            obtain ⟨sh, ke1, go⟩ := u_
            try dsimp only at hpp
            have hP : va_P (dC, dI) vwCl [(h1, .inr (1, [.int (nI 0), .int (nI n), .ref a1, .ref a2, .ref a3, .ref a4])), (a1, .inl (cL, 8, .inr (.inl (fun z => lN (w z))))), (a2, .inl (cL, 8, .inr (.inl sh))), (a3, .inl (cL, 8, .inr (.inl ke1))), (a4, .inl (cZ, 8, .inl go))] H := hP
            have hD : va_D A [(h1, .inr (1, [.int (nI 0), .int (nI n), .ref a1, .ref a2, .ref a3, .ref a4])), (a1, .inl (cL, 8, .inr (.inl (fun z => lN (w z))))), (a2, .inl (cL, 8, .inr (.inl sh))), (a3, .inl (cL, 8, .inr (.inl ke1))), (a4, .inl (cZ, 8, .inl go))] := hD
            obtain ⟨hpp, hke⟩ := hpp
            rw [hke] at hP hD
            have hP : va_P (dC, dI) vwCl [(h1, .inr (1, [.int (nI 0), .int (nI n), .ref a1, .ref a2, .ref a3, .ref a4])), (a1, .inl (cL, 8, .inr (.inl (fun z => lN (w z))))), (a2, .inl (cL, 8, .inr (.inl sh))), (a3, .inl (cL, 8, .inr (.inl ke))), (a4, .inl (cZ, 8, .inl go))] H := hP
            have hD : va_D A [(h1, .inr (1, [.int (nI 0), .int (nI n), .ref a1, .ref a2, .ref a3, .ref a4])), (a1, .inl (cL, 8, .inr (.inl (fun z => lN (w z))))), (a2, .inl (cL, 8, .inr (.inl sh))), (a3, .inl (cL, 8, .inr (.inl ke))), (a4, .inl (cZ, 8, .inl go))] := hD
            refine lv_iconst (v := (-1)) hx hb dX1_next_103 (by decide +kernel) ?_
            refine lv_istore_n hx hb dX1_next_104 rfl hl (by decide) rfl (fun ls hl => ?_)
            have hl : lv_has ls 5 [(3, .int (-1)), (0, .ref h1), (1, .int (nI y)), (2, .int (nI u))] := hl
            refine lv_iconst (v := (nI 0)) hx hb dX1_next_105 (by decide +kernel) ?_
            refine lv_istore hx hb dX1_next_106 hl (by decide) rfl (fun ls hl => ?_)
            have hl : lv_has ls 5 [(4, .int (nI 0)), (3, .int (-1)), (0, .ref h1), (1, .int (nI y)), (2, .int (nI u))] := hl
            have hl := lv_sub (l' := [(0, .ref h1), (1, .int (nI y)), (2, .int (nI u)), (3, .int (-1)), (4, .int (nI 0))]) hl [2, 3, 4, 1, 0] rfl
            have hsm : sd_sum (sd_U y w n (u + 1)) n = sd_sum (sd_U y w n u) n + 1 := by rw [sd_U_sum hW, sd_U_sum hW]
            refine lp_mnext2 hx hb hml hts0 hown hK hP ok hW y u hu hpp hv (fun hz ls => ?_) (fun ls => ?_) n 0 none (by omega) rfl (fun k hk => nomatch hk) ls hl
            · refine sd_topi (y := sd_oi (sd_na (sd_nc (sd_U y w n u) (sd_U y w n (u + 1)) n))) (by rw [← sd_next_eq hsm, hz]; rfl) ?_
              exact W.iret hx hb hr (fun t ht hW => ⟨⟨_, (sh, ke, go), rfl, rfl, by rw [ht]; exact hP, va_K.moved hW.alike hK, by rw [← hAe]; exact hD⟩, by rw [← hAe]; exact hS.F ht⟩) (fun q hq => by rw [← hAe]; exact hS.2.2 q hq) dX1_next_163
            · refine sd_topi (y := sd_oi (sd_na (sd_nc (sd_U y w n u) (sd_U y w n (u + 1)) n))) (by rw [sd_next_eq hsm]) ?_
              exact W.iret hx hb hr (fun t ht hW => ⟨⟨_, (sh, ke, go), rfl, rfl, by rw [ht]; exact hP, va_K.moved hW.alike hK, by rw [← hAe]; exact hD⟩, by rw [← hAe]; exact hS.F ht⟩) (fun q hq => by rw [← hAe]; exact hS.2.2 q hq) dX1_next_174
          · exact absurd h (by omega)
        · exact absurd h (by omega)
    · have hc1 : sd_rg (nI u) 0 9999 = false := hc1
      exact absurd hc1 (by rw [sd_rg_nI (by omega) (by omega) (by omega) (by omega)]; decide)
set_option maxHeartbeats 4000000 in
set_option maxRecDepth 100000 in
theorem lp_mleast {p : Program} {l : Launch} {e : Env} {R : Room} {s : State} {m : MethodId} {args : Array Value} {below : List Frame} {meth : Method} {c : Code} {cells slots : Nat} {Q : State → Prop} (hx : p.tables.exec = Jvm.exec) (hb : c.code = cX1_least) (hml : c.maxLocals = 5) (hts0 : ∀ w ∈ (sd_ws yX1_least cX1_least 5 (some .int)), w.before args s = true) (hown : s.vm.findClass RX1 = some m.cls) {dC : Nat → ClassId} {dI : Nat → Nat → Nat} {cL cZ : ClassId} {h1 a1 a2 a3 a4 er n : Nat} {w : Nat → Nat} (A : Nat → Prop) (H0 : Heap) (hA : ∀ q, H0.size ≤ q → A q) (hK : va_K (dC, dI) vwCl [(cL, .long), (cZ, .boolean)] s)  (ok : sd_ok n w) (hW : 0 < sd_sum w n) (y k q : Nat) (hy : y ≤ 2) (hk : k < 2 ^ 31) (hq : q < n) (hR : (sd_rm 1 0 0).frames + 1 ≤ R.frames ∧ 8 + (8 + 11) + (sd_rm 1 0 0).locals ≤ R.locals) (hR0 : (sd_rm 0 0 0).frames + 1 ≤ R.frames ∧ 8 + (4 + 11) + (sd_rm 0 0 0).locals ≤ R.locals) (hf : cells + 0 ≤ R.cells ∧ slots + 0 ≤ R.slots)
    (kk1 : sd_lst (fun j => decide (k ≤ sd_U y w n j q)) 10001 = none → ∀ (H : Heap) (locs : List Loc) (sh ke : Nat → Int64) (go : Nat → Int32) (ls : Array Slot), va_P (dC, dI) vwCl [(h1, .inr (1, [.int (nI 0), .int (nI n), .ref a1, .ref a2, .ref a3, .ref a4])), (a1, .inl (cL, 8, .inr (.inl (fun z => lN (w z))))), (a2, .inl (cL, 8, .inr (.inl sh))), (a3, .inl (cL, 8, .inr (.inl ke))), (a4, .inl (cZ, 8, .inl go))] H → va_D A [(h1, .inr (1, [.int (nI 0), .int (nI n), .ref a1, .ref a2, .ref a3, .ref a4])), (a1, .inl (cL, 8, .inr (.inl (fun z => lN (w z))))), (a2, .inl (cL, 8, .inr (.inl sh))), (a3, .inl (cL, 8, .inr (.inl ke))), (a4, .inl (cZ, 8, .inl go))] → va_S A H0 H locs → W p l e R s m args below meth c H locs cells slots Q (F0 m 119 ls [.int (-1)]))
    (kk2 : ∀ i : Nat, i ≤ 10000 → sd_lst (fun j => decide (k ≤ sd_U y w n j q)) 10001 = some i → ∀ (H : Heap) (locs : List Loc) (sh ke : Nat → Int64) (go : Nat → Int32) (ls : Array Slot), va_P (dC, dI) vwCl [(h1, .inr (1, [.int (nI 0), .int (nI n), .ref a1, .ref a2, .ref a3, .ref a4])), (a1, .inl (cL, 8, .inr (.inl (fun z => lN (w z))))), (a2, .inl (cL, 8, .inr (.inl sh))), (a3, .inl (cL, 8, .inr (.inl ke))), (a4, .inl (cZ, 8, .inl go))] H → va_D A [(h1, .inr (1, [.int (nI 0), .int (nI n), .ref a1, .ref a2, .ref a3, .ref a4])), (a1, .inl (cL, 8, .inr (.inl (fun z => lN (w z))))), (a2, .inl (cL, 8, .inr (.inl sh))), (a3, .inl (cL, 8, .inr (.inl ke))), (a4, .inl (cZ, 8, .inl go))] → va_S A H0 H locs → W p l e R s m args below meth c H locs cells slots Q (F0 m 102 ls [.int (nI i)]))
    : ∀ (f i : Nat), i + f = 10001 → ∀ (H : Heap) (locs : List Loc) (sh ke : Nat → Int64) (go : Nat → Int32) (ls : Array Slot), va_P (dC, dI) vwCl [(h1, .inr (1, [.int (nI 0), .int (nI n), .ref a1, .ref a2, .ref a3, .ref a4])), (a1, .inl (cL, 8, .inr (.inl (fun z => lN (w z))))), (a2, .inl (cL, 8, .inr (.inl sh))), (a3, .inl (cL, 8, .inr (.inl ke))), (a4, .inl (cZ, 8, .inl go))] H → va_D A [(h1, .inr (1, [.int (nI 0), .int (nI n), .ref a1, .ref a2, .ref a3, .ref a4])), (a1, .inl (cL, 8, .inr (.inl (fun z => lN (w z))))), (a2, .inl (cL, 8, .inr (.inl sh))), (a3, .inl (cL, 8, .inr (.inl ke))), (a4, .inl (cZ, 8, .inl go))] → va_S A H0 H locs → ((0 < y → ∀ j, j < n → sh j = lN (sd_G y w n i j)) ∧ ∀ j, j < i → sd_U y w n j q < k) → lv_has ls 5 [(0, .ref h1), (1, .int (nI y)), (2, .int (nI k)), (3, .int (nI q)), (4, .int (nI i))] → W p l e R s m args below meth c H locs cells slots Q (F0 m 70 ls []) := by
  have hts : ∀ w ∈ sd_WS, w.before args s = true := fun w h => hts0 w (List.mem_cons_of_mem _ h)
  have hn8 := ok.2.1
  intro f
  induction f using Nat.strongRecOn with
  | ind f ih0 =>
    intro i hi H locs sh ke go ls hP hD hS hv hl
    have ih : i < 10001 → ∀ (H : Heap) (locs : List Loc) (sh ke : Nat → Int64) (go : Nat → Int32) (ls : Array Slot), va_P (dC, dI) vwCl [(h1, .inr (1, [.int (nI 0), .int (nI n), .ref a1, .ref a2, .ref a3, .ref a4])), (a1, .inl (cL, 8, .inr (.inl (fun z => lN (w z))))), (a2, .inl (cL, 8, .inr (.inl sh))), (a3, .inl (cL, 8, .inr (.inl ke))), (a4, .inl (cZ, 8, .inl go))] H → va_D A [(h1, .inr (1, [.int (nI 0), .int (nI n), .ref a1, .ref a2, .ref a3, .ref a4])), (a1, .inl (cL, 8, .inr (.inl (fun z => lN (w z))))), (a2, .inl (cL, 8, .inr (.inl sh))), (a3, .inl (cL, 8, .inr (.inl ke))), (a4, .inl (cZ, 8, .inl go))] → va_S A H0 H locs → ((0 < y → ∀ j, j < n → sh j = lN (sd_G y w n (i + 1) j)) ∧ ∀ j, j < (i + 1) → sd_U y w n j q < k) → lv_has ls 5 [(0, .ref h1), (1, .int (nI y)), (2, .int (nI k)), (3, .int (nI q)), (4, .int (nI (i + 1)))] → W p l e R s m args below meth c H locs cells slots Q (F0 m 70 ls []) := fun hlt => ih0 (f - 1) (by omega) (i + 1) (by omega)
    refine lv_iload hx hb dX1_least_70 (lv_at hl 4 rfl) ?_
    refine lv_sipush (v := nI 10000) hx hb dX1_least_72 (by decide +kernel) ?_
    refine sd_ic_gt (a := i) (b := 10000) (tgt := 118) hx hb dX1_least_75 (by decide) (by omega) (by omega) (fun h => ?_) (fun h => ?_)
    · refine lv_iconst (v := (-1)) hx hb dX1_least_118 (by decide +kernel) ?_
      exact kk1 (sd_lst_none (fun j hj => decide_eq_false (by have := hv.2 j (by omega); omega))) H locs sh ke go ls hP hD hS
    · have hUl := sd_U_le (y := y) (w := w) (m := i) hW hq
      refine lv_iload_n hx hb dX1_least_78 rfl (lv_at hl 1 rfl) ?_
      refine sd_iz_ne (a := y) (tgt := 88) hx hb dX1_least_79 (by decide) (by omega) (fun h => ?_) (fun h => ?_)
      · have hy0 := h
        have hUG : ∀ j, sd_U y w n i j = sd_G y w n i j := fun j => if_neg (by omega)
        refine lv_aload_n hx hb dX1_least_88 rfl (lv_at hl 0 rfl) ?_
        refine va_get (D := (dC, dI)) (ci := 1) (v := .ref a2) (C := RX1) (T := TX1) (N := 6) hx hb hts u_in_X1 hown hK hP 0 rfl rfl 3 (by decide) (hts (.fieldLink RX1 17 "ShareDeskModel" "shares" "[J") k_fieldLink_X1_17) (fun _ h9 => h9) rfl dX1_least_89 ?_
        refine lv_iload_n hx hb dX1_least_92 rfl (lv_at hl 3 rfl) ?_
        refine sd_lald (j := q) (v := lN (sd_U y w n i q)) hx hb hK hP 2 0 rfl rfl (by omega) (by decide) (by rw [hv.1 hy0 q hq, hUG]) dX1_least_93 ?_
        refine lv_iload_n hx hb dX1_least_94 rfl (lv_at hl 2 rfl) ?_
        refine lv_i2l (v := lN k) hx hb dX1_least_95 (nI_l (by omega)) ?_
        refine sd_lc_lt (a := sd_U y w n i q) (b := k) (tgt := 103) hx hb dX1_least_96 dX1_least_97 (by decide) (by omega) (by omega) (fun h => ?_) (fun h => ?_)
        · have hlt := h
          refine lv_iload_n hx hb dX1_least_103 rfl (lv_at hl 1 rfl) ?_
          refine sd_iz_le (a := y) (tgt := 112) hx hb dX1_least_104 (by decide) (by omega) (fun h => ?_) (fun h => ?_)
          · exact absurd h (by omega)
          · have hGl : ∀ j, j < n → sd_G y w n i j ≤ 10001 := fun j hj => by
              have h1 := sd_sum_ge (f := sd_G y w n i) hj
              rw [(sd_inv_G (sd_sum_pos hW) i).1] at h1
              omega
            refine lv_aload_n hx hb dX1_least_107 rfl (lv_at hl 0 rfl) ?_
            refine lv_iload_n hx hb dX1_least_108 rfl (lv_at hl 1 rfl) ?_
            refine sd_wv (va_runV (As := [.int (nI y)]) (rest := []) ⟨hx, hb, hml, hown, hts0⟩ (m_one l dC dI cL cZ h1 a1 a2 a3 a4 0 n w sh ke go H.size ok hW y hy (sd_G y w n i) (hv.1 hy0) hGl) (cwV 1 hts0 (sd_gV k_methodLink_X1_56 k_instanceMethod_X1_one k_sel_X1_one k_init_ShareDeskModel k_code_X1_one) rfl rfl rfl (by decide +kernel) ⟨hR0.1, hR0.2⟩) (sd_preVw hK hP hD (q0 := 0) (ci := 1) rfl rfl) rfl rfl hl.1 rfl (lv_room (Nat.le_of_ble_eq_true rfl)) dX1_least_109 hf) hD hS hA (fun u_ H locs hpo hP hD hS => ?_)
            obtain ⟨sh, ke, go⟩ := u_
            try dsimp only at hpo
            have hP : va_P (dC, dI) vwCl [(h1, .inr (1, [.int (nI 0), .int (nI n), .ref a1, .ref a2, .ref a3, .ref a4])), (a1, .inl (cL, 8, .inr (.inl (fun z => lN (w z))))), (a2, .inl (cL, 8, .inr (.inl sh))), (a3, .inl (cL, 8, .inr (.inl ke))), (a4, .inl (cZ, 8, .inl go))] H := hP
            have hD : va_D A [(h1, .inr (1, [.int (nI 0), .int (nI n), .ref a1, .ref a2, .ref a3, .ref a4])), (a1, .inl (cL, 8, .inr (.inl (fun z => lN (w z))))), (a2, .inl (cL, 8, .inr (.inl sh))), (a3, .inl (cL, 8, .inr (.inl ke))), (a4, .inl (cZ, 8, .inl go))] := hD
            refine lv_iinc (k := 4) (v := nI (i + 1)) hx hb dX1_least_112 hl rfl (nI_add _ 1) (by decide) rfl (fun ls hl => ?_)
            have hl : lv_has ls 5 [(4, .int (nI (i + 1))), (0, .ref h1), (1, .int (nI y)), (2, .int (nI k)), (3, .int (nI q))] := hl
            refine lv_goto (tgt := 70) hx hb dX1_least_115 (by decide) ?_
            have hl := lv_sub (l' := [(0, .ref h1), (1, .int (nI y)), (2, .int (nI k)), (3, .int (nI q)), (4, .int (nI (i + 1)))]) hl [1, 2, 3, 4, 0] rfl
            exact ih (by omega) H locs sh ke go ls hP hD hS ⟨fun _ => hpo.1, fun j hj => by
              by_cases z : j = i
              · rw [z]; exact hlt
              · exact hv.2 j (by omega)⟩ hl
        · refine lv_iload hx hb dX1_least_100 (lv_at hl 4 rfl) ?_
          exact kk2 i (by omega) (sd_lst_at (Q := (fun j => decide (k ≤ sd_U y w n j q))) (m := i) (fun j hj => decide_eq_false (by have := hv.2 j hj; omega)) (decide_eq_true h) (by omega)) H locs sh ke go ls hP hD hS
      · have hy0 := h
        refine lv_aload_n hx hb dX1_least_82 rfl (lv_at hl 0 rfl) ?_
        refine lv_iload hx hb dX1_least_83 (lv_at hl 4 rfl) ?_
        refine sd_wv (va_runV (As := [.int (nI i)]) (rest := []) ⟨hx, hb, hml, hown, hts0⟩ (m_parts l dC dI cL cZ h1 a1 a2 a3 a4 0 n w sh ke go H.size ok hW i (by omega)) (cwV 1 hts0 (sd_gV k_methodLink_X1_52 k_instanceMethod_X1_parts k_sel_X1_parts k_init_ShareDeskModel k_code_X1_parts) rfl rfl rfl (by decide +kernel) ⟨hR.1, hR.2⟩) (sd_preVw hK hP hD (q0 := 0) (ci := 1) rfl rfl) rfl rfl hl.1 rfl (lv_room (Nat.le_of_ble_eq_true rfl)) dX1_least_85 hf) hD hS hA (fun u_ H locs hpo hP hD hS => ?_)
        obtain ⟨sh, ke, go⟩ := u_
        try dsimp only at hpo
        have hP : va_P (dC, dI) vwCl [(h1, .inr (1, [.int (nI 0), .int (nI n), .ref a1, .ref a2, .ref a3, .ref a4])), (a1, .inl (cL, 8, .inr (.inl (fun z => lN (w z))))), (a2, .inl (cL, 8, .inr (.inl sh))), (a3, .inl (cL, 8, .inr (.inl ke))), (a4, .inl (cZ, 8, .inl go))] H := hP
        have hD : va_D A [(h1, .inr (1, [.int (nI 0), .int (nI n), .ref a1, .ref a2, .ref a3, .ref a4])), (a1, .inl (cL, 8, .inr (.inl (fun z => lN (w z))))), (a2, .inl (cL, 8, .inr (.inl sh))), (a3, .inl (cL, 8, .inr (.inl ke))), (a4, .inl (cZ, 8, .inl go))] := hD
        refine lv_aload_n hx hb dX1_least_88 rfl (lv_at hl 0 rfl) ?_
        refine va_get (D := (dC, dI)) (ci := 1) (v := .ref a2) (C := RX1) (T := TX1) (N := 6) hx hb hts u_in_X1 hown hK hP 0 rfl rfl 3 (by decide) (hts (.fieldLink RX1 17 "ShareDeskModel" "shares" "[J") k_fieldLink_X1_17) (fun _ h9 => h9) rfl dX1_least_89 ?_
        refine lv_iload_n hx hb dX1_least_92 rfl (lv_at hl 3 rfl) ?_
        refine sd_lald (j := q) (v := lN (sd_U y w n i q)) hx hb hK hP 2 0 rfl rfl (by omega) (by decide) (by rw [hpo.1 q hq]; unfold sd_U; rw [if_pos hy0]) dX1_least_93 ?_
        refine lv_iload_n hx hb dX1_least_94 rfl (lv_at hl 2 rfl) ?_
        refine lv_i2l (v := lN k) hx hb dX1_least_95 (nI_l (by omega)) ?_
        refine sd_lc_lt (a := sd_U y w n i q) (b := k) (tgt := 103) hx hb dX1_least_96 dX1_least_97 (by decide) (by omega) (by omega) (fun h => ?_) (fun h => ?_)
        · have hlt := h
          refine lv_iload_n hx hb dX1_least_103 rfl (lv_at hl 1 rfl) ?_
          refine sd_iz_le (a := y) (tgt := 112) hx hb dX1_least_104 (by decide) (by omega) (fun h => ?_) (fun h => ?_)
          · refine lv_iinc (k := 4) (v := nI (i + 1)) hx hb dX1_least_112 hl rfl (nI_add _ 1) (by decide) rfl (fun ls hl => ?_)
            have hl : lv_has ls 5 [(4, .int (nI (i + 1))), (0, .ref h1), (1, .int (nI y)), (2, .int (nI k)), (3, .int (nI q))] := hl
            refine lv_goto (tgt := 70) hx hb dX1_least_115 (by decide) ?_
            have hl := lv_sub (l' := [(0, .ref h1), (1, .int (nI y)), (2, .int (nI k)), (3, .int (nI q)), (4, .int (nI (i + 1)))]) hl [1, 2, 3, 4, 0] rfl
            exact ih (by omega) H locs sh ke go ls hP hD hS ⟨fun z => absurd z (by omega), fun j hj => by
              by_cases z : j = i
              · rw [z]; exact hlt
              · exact hv.2 j (by omega)⟩ hl
          · exact absurd h (by omega)
        · refine lv_iload hx hb dX1_least_100 (lv_at hl 4 rfl) ?_
          exact kk2 i (by omega) (sd_lst_at (Q := (fun j => decide (k ≤ sd_U y w n j q))) (m := i) (fun j hj => decide_eq_false (by have := hv.2 j hj; omega)) (decide_eq_true h) (by omega)) H locs sh ke go ls hP hD hS
set_option maxHeartbeats 4000000 in
set_option maxRecDepth 100000 in
theorem m_least_bad (l : Launch) (dC : Nat → ClassId) (dI : Nat → Nat → Nat) (cL cZ : ClassId) (h1 a1 a2 a3 a4 er n : Nat) (w : Nat → Nat) (sh ke : Nat → Int64) (go : Nat → Int32) (sz : Nat) (hn1 : 1 ≤ n) (hn8 : n ≤ 8) (x1 x2 x3 : Int32) (hbad : sd_rg x1 0 2 = false ∨ x2 < 0 ∨ sd_rg x3 0 (n - 1) = false) : Met l yX1_least (sd_ws yX1_least cX1_least 5 (some .int)) (sd_rm 3 0 0) (sd_Pw (dC, dI) vwCl [(cL, .long), (cZ, .boolean)] (sd_M cL cZ h1 a1 a2 a3 a4 er n w sh ke go) sz [.ref h1, .int x1, .int x2, .int x3]) (va_Qi (fun r (v_ : sd_S) => r = nI 0) (sd_Bw (dC, dI) vwCl [(cL, .long), (cZ, .boolean)] (sd_M cL cZ h1 a1 a2 a3 a4 er n w sh ke go) sz (fun v_ => (sd_M cL cZ h1 a1 a2 a3 a4 1 n w v_.1 v_.2.1 v_.2.2))) (va_A (sd_M cL cZ h1 a1 a2 a3 a4 er n w sh ke go) sz)) 0 0 (va_A (sd_M cL cZ h1 a1 a2 a3 a4 er n w sh ke go) sz) := by
  refine Met.ofW (cc := cX1_least) (maxL := 5) (ret := (some .int)) (by decide) rfl ?_
  intro p e s m args below meth c s₁ B hml hv
  obtain ⟨rfl, hsz, hP, hK, hD0⟩ := hv
  subst hsz
  have hx := B.exec
  have hb := B.bytes
  have hr := B.returns
  have hts0 := atoms_spec (ws := (sd_ws yX1_least cX1_least 5 (some .int))) B.pre
  have hts : ∀ w ∈ sd_WS, w.before _ s = true := fun w h => hts0 w (List.mem_cons_of_mem _ h)
  have hown : s.vm.findClass RX1 = some m.cls := findClass_of_methodNamed B.named
  have hlocks := B.notSynchronized
  have hl := lv_entry ([.ref h1, .int x1, .int x2, .int x3]) (n := 5) (Nat.le_of_ble_eq_true rfl)
  rw [lg_entry_eq]
  generalize (lg_sl ([.ref h1, .int x1, .int x2, .int x3]) ++ List.replicate (5 - (lg_sl ([.ref h1, .int x1, .int x2, .int x3])).length) Slot.unset).toArray = ls at hl ⊢
  have hl : lv_has ls 5 [(0, .ref h1), (1, .int x1), (2, .int x2), (3, .int x3)] := hl
  obtain ⟨A, hAe⟩ : ∃ A, A = va_A (sd_M cL cZ h1 a1 a2 a3 a4 er n w sh ke go) s.heap.size := ⟨_, rfl⟩
  have hD : va_D A (sd_M cL cZ h1 a1 a2 a3 a4 er n w sh ke go) := by rw [hAe]; exact hD0.self
  have hA : ∀ q : Nat, s.heap.size ≤ q → A q := fun q h => by rw [hAe]; exact Or.inr h
  have hS : va_S A s.heap s.heap [] := va_S.rf
  have hP : va_P (dC, dI) vwCl [(h1, .inr (1, [.int (nI er), .int (nI n), .ref a1, .ref a2, .ref a3, .ref a4])), (a1, .inl (cL, 8, .inr (.inl (fun z => lN (w z))))), (a2, .inl (cL, 8, .inr (.inl sh))), (a3, .inl (cL, 8, .inr (.inl ke))), (a4, .inl (cZ, 8, .inl go))] s.heap := hP
  have hD : va_D A [(h1, .inr (1, [.int (nI er), .int (nI n), .ref a1, .ref a2, .ref a3, .ref a4])), (a1, .inl (cL, 8, .inr (.inl (fun z => lN (w z))))), (a2, .inl (cL, 8, .inr (.inl sh))), (a3, .inl (cL, 8, .inr (.inl ke))), (a4, .inl (cZ, 8, .inl go))] := hD
  refine lv_aload_n hx hb dX1_least_0 rfl (lv_at hl 0 rfl) ?_
  refine lv_iconst (v := (nI 0)) hx hb dX1_least_1 (by decide +kernel) ?_
  refine va_put (D := (dC, dI)) (ci := 1) (v := .int (nI 0)) (ty := .int) (C := RX1) (T := TX1) (N := 6) hx hb hts u_in_X1 tyX1 tyX1_ok nmX1 hown hK hP hD hS 0 rfl rfl 0 (by decide) (hts (.fieldLink RX1 27 "ShareDeskModel" "err" "I") k_fieldLink_X1_27) (fun _ h9 => h9) rfl (by decide +kernel) rfl rfl (Nat.le_of_ble_eq_true rfl) dX1_least_2 (fun H locs hP hD hS => ?_)
  have hP : va_P (dC, dI) vwCl [(h1, .inr (1, [.int (nI 0), .int (nI n), .ref a1, .ref a2, .ref a3, .ref a4])), (a1, .inl (cL, 8, .inr (.inl (fun z => lN (w z))))), (a2, .inl (cL, 8, .inr (.inl sh))), (a3, .inl (cL, 8, .inr (.inl ke))), (a4, .inl (cZ, 8, .inl go))] H := hP
  have hD : va_D A [(h1, .inr (1, [.int (nI 0), .int (nI n), .ref a1, .ref a2, .ref a3, .ref a4])), (a1, .inl (cL, 8, .inr (.inl (fun z => lN (w z))))), (a2, .inl (cL, 8, .inr (.inl sh))), (a3, .inl (cL, 8, .inr (.inl ke))), (a4, .inl (cZ, 8, .inl go))] := hD
  refine lv_aload_n hx hb dX1_least_5 rfl (lv_at hl 0 rfl) ?_
  refine lv_iload_n hx hb dX1_least_6 rfl (lv_at hl 1 rfl) ?_
  refine sd_calli (va_runS (As := [.int x1]) (rest := [.ref h1]) ⟨hx, hb, hml, hown, hts0⟩ (m_isWay l dC dI x1) (cwS 1 hts0 (sd_gS k_methodLink_X1_59 k_static_X1_isWay k_init_ShareDeskModel k_code_X1_isWay) rfl rfl rfl (by decide +kernel) ⟨Nat.le_of_ble_eq_true rfl, Nat.le_of_ble_eq_true rfl⟩) (sd_preS (sd_K0 hK) (sd_nil _ _ _)) rfl rfl hl.1 rfl (lv_room (Nat.le_of_ble_eq_true rfl)) dX1_least_7 ⟨Nat.zero_le _, Nat.zero_le _⟩) ?_
  refine sd_bz_eq (tgt := 25) hx hb dX1_least_10 (by decide) (fun hc0 => ?_) (fun hc0 => ?_)
  · have hc0 : sd_rg x1 0 2 = false := hc0
    refine lv_iconst (v := (nI 1)) hx hb dX1_least_25 (by decide +kernel) ?_
    refine lv_goto (tgt := 30) hx hb dX1_least_26 (by decide) ?_
    refine lv_iconst (v := (nI 1)) hx hb dX1_least_30 (by decide +kernel) ?_
    refine sd_wi (va_runV (As := [.int (nI 1), .int (nI 1)]) (rest := []) ⟨hx, hb, hml, hown, hts0⟩ (m_fails1 l dC dI cL cZ h1 a1 a2 a3 a4 0 n w sh ke go H.size rfl 1 (by decide) (by decide)) (cwV 2 hts0 (sd_gV k_methodLink_X1_38 k_instanceMethod_X1_fails k_sel_X1_fails k_init_ShareDeskModel k_code_X1_fails) rfl rfl rfl (by decide +kernel) ⟨Nat.le_of_ble_eq_true rfl, Nat.le_of_ble_eq_true rfl⟩) (sd_preVw hK hP hD (q0 := 0) (ci := 1) rfl rfl) rfl rfl hl.1 rfl (lv_room (Nat.le_of_ble_eq_true rfl)) dX1_least_31 ⟨Nat.zero_le _, Nat.zero_le _⟩) hD hS hA (fun r_ u_ H locs hpo hP hD hS => ?_)
    obtain ⟨sh, ke, go⟩ := u_
    try dsimp only at hpo
    have hP : va_P (dC, dI) vwCl [(h1, .inr (1, [.int (nI 1), .int (nI n), .ref a1, .ref a2, .ref a3, .ref a4])), (a1, .inl (cL, 8, .inr (.inl (fun z => lN (w z))))), (a2, .inl (cL, 8, .inr (.inl sh))), (a3, .inl (cL, 8, .inr (.inl ke))), (a4, .inl (cZ, 8, .inl go))] H := hP
    have hD : va_D A [(h1, .inr (1, [.int (nI 1), .int (nI n), .ref a1, .ref a2, .ref a3, .ref a4])), (a1, .inl (cL, 8, .inr (.inl (fun z => lN (w z))))), (a2, .inl (cL, 8, .inr (.inl sh))), (a3, .inl (cL, 8, .inr (.inl ke))), (a4, .inl (cZ, 8, .inl go))] := hD
    subst hpo
    refine sd_iz_ne (a := 1) (tgt := 59) hx hb dX1_least_34 (by decide) (by omega) (fun h => ?_) (fun h => ?_)
    · refine lv_iconst (v := (nI 0)) hx hb dX1_least_59 (by decide +kernel) ?_
      exact W.iret hx hb hr (fun t ht hW => ⟨⟨_, (sh, ke, go), rfl, rfl, by rw [ht]; exact hP, va_K.moved hW.alike hK, by rw [← hAe]; exact hD⟩, by rw [← hAe]; exact hS.F ht⟩) (fun q hq => by rw [← hAe]; exact hS.2.2 q hq) dX1_least_60
    · exact absurd h (by omega)
  · have hc0 : sd_rg x1 0 2 = true := hc0
    refine lv_iload_n hx hb dX1_least_13 rfl (lv_at hl 2 rfl) ?_
    refine lv_if_lt (tgt := 25) hx hb dX1_least_14 (by decide) (fun hng => ?_) (fun hng => ?_)
    · refine lv_iconst (v := (nI 1)) hx hb dX1_least_25 (by decide +kernel) ?_
      refine lv_goto (tgt := 30) hx hb dX1_least_26 (by decide) ?_
      refine lv_iconst (v := (nI 1)) hx hb dX1_least_30 (by decide +kernel) ?_
      refine sd_wi (va_runV (As := [.int (nI 1), .int (nI 1)]) (rest := []) ⟨hx, hb, hml, hown, hts0⟩ (m_fails1 l dC dI cL cZ h1 a1 a2 a3 a4 0 n w sh ke go H.size rfl 1 (by decide) (by decide)) (cwV 2 hts0 (sd_gV k_methodLink_X1_38 k_instanceMethod_X1_fails k_sel_X1_fails k_init_ShareDeskModel k_code_X1_fails) rfl rfl rfl (by decide +kernel) ⟨Nat.le_of_ble_eq_true rfl, Nat.le_of_ble_eq_true rfl⟩) (sd_preVw hK hP hD (q0 := 0) (ci := 1) rfl rfl) rfl rfl hl.1 rfl (lv_room (Nat.le_of_ble_eq_true rfl)) dX1_least_31 ⟨Nat.zero_le _, Nat.zero_le _⟩) hD hS hA (fun r_ u_ H locs hpo hP hD hS => ?_)
      obtain ⟨sh, ke, go⟩ := u_
      try dsimp only at hpo
      have hP : va_P (dC, dI) vwCl [(h1, .inr (1, [.int (nI 1), .int (nI n), .ref a1, .ref a2, .ref a3, .ref a4])), (a1, .inl (cL, 8, .inr (.inl (fun z => lN (w z))))), (a2, .inl (cL, 8, .inr (.inl sh))), (a3, .inl (cL, 8, .inr (.inl ke))), (a4, .inl (cZ, 8, .inl go))] H := hP
      have hD : va_D A [(h1, .inr (1, [.int (nI 1), .int (nI n), .ref a1, .ref a2, .ref a3, .ref a4])), (a1, .inl (cL, 8, .inr (.inl (fun z => lN (w z))))), (a2, .inl (cL, 8, .inr (.inl sh))), (a3, .inl (cL, 8, .inr (.inl ke))), (a4, .inl (cZ, 8, .inl go))] := hD
      subst hpo
      refine sd_iz_ne (a := 1) (tgt := 59) hx hb dX1_least_34 (by decide) (by omega) (fun h => ?_) (fun h => ?_)
      · refine lv_iconst (v := (nI 0)) hx hb dX1_least_59 (by decide +kernel) ?_
        exact W.iret hx hb hr (fun t ht hW => ⟨⟨_, (sh, ke, go), rfl, rfl, by rw [ht]; exact hP, va_K.moved hW.alike hK, by rw [← hAe]; exact hD⟩, by rw [← hAe]; exact hS.F ht⟩) (fun q hq => by rw [← hAe]; exact hS.2.2 q hq) dX1_least_60
      · exact absurd h (by omega)
    · refine lv_aload_n hx hb dX1_least_17 rfl (lv_at hl 0 rfl) ?_
      refine lv_iload_n hx hb dX1_least_18 rfl (lv_at hl 3 rfl) ?_
      refine sd_calli (va_runV (As := [.int x3]) (rest := [.ref h1]) ⟨hx, hb, hml, hown, hts0⟩ (m_isParty l dC dI cL cZ h1 a1 a2 a3 a4 0 n w sh ke go hn1 hn8 x3) (cwV 1 hts0 (sd_gV k_methodLink_X1_42 k_instanceMethod_X1_isParty k_sel_X1_isParty k_init_ShareDeskModel k_code_X1_isParty) rfl rfl rfl (by decide +kernel) ⟨Nat.le_of_ble_eq_true rfl, Nat.le_of_ble_eq_true rfl⟩) (sd_preV hK hP (q0 := 0) (ci := 1) rfl rfl) rfl rfl hl.1 rfl (lv_room (Nat.le_of_ble_eq_true rfl)) dX1_least_19 ⟨Nat.zero_le _, Nat.zero_le _⟩) ?_
      refine sd_bz_ne (tgt := 29) hx hb dX1_least_22 (by decide) (fun hc1 => ?_) (fun hc1 => ?_)
      · have hc1 : sd_rg x3 0 (n - 1) = true := hc1
        exact absurd hbad (by simp [hc0, hc1, hng])
      · have hc1 : sd_rg x3 0 (n - 1) = false := hc1
        refine lv_iconst (v := (nI 1)) hx hb dX1_least_25 (by decide +kernel) ?_
        refine lv_goto (tgt := 30) hx hb dX1_least_26 (by decide) ?_
        refine lv_iconst (v := (nI 1)) hx hb dX1_least_30 (by decide +kernel) ?_
        refine sd_wi (va_runV (As := [.int (nI 1), .int (nI 1)]) (rest := []) ⟨hx, hb, hml, hown, hts0⟩ (m_fails1 l dC dI cL cZ h1 a1 a2 a3 a4 0 n w sh ke go H.size rfl 1 (by decide) (by decide)) (cwV 2 hts0 (sd_gV k_methodLink_X1_38 k_instanceMethod_X1_fails k_sel_X1_fails k_init_ShareDeskModel k_code_X1_fails) rfl rfl rfl (by decide +kernel) ⟨Nat.le_of_ble_eq_true rfl, Nat.le_of_ble_eq_true rfl⟩) (sd_preVw hK hP hD (q0 := 0) (ci := 1) rfl rfl) rfl rfl hl.1 rfl (lv_room (Nat.le_of_ble_eq_true rfl)) dX1_least_31 ⟨Nat.zero_le _, Nat.zero_le _⟩) hD hS hA (fun r_ u_ H locs hpo hP hD hS => ?_)
        obtain ⟨sh, ke, go⟩ := u_
        try dsimp only at hpo
        have hP : va_P (dC, dI) vwCl [(h1, .inr (1, [.int (nI 1), .int (nI n), .ref a1, .ref a2, .ref a3, .ref a4])), (a1, .inl (cL, 8, .inr (.inl (fun z => lN (w z))))), (a2, .inl (cL, 8, .inr (.inl sh))), (a3, .inl (cL, 8, .inr (.inl ke))), (a4, .inl (cZ, 8, .inl go))] H := hP
        have hD : va_D A [(h1, .inr (1, [.int (nI 1), .int (nI n), .ref a1, .ref a2, .ref a3, .ref a4])), (a1, .inl (cL, 8, .inr (.inl (fun z => lN (w z))))), (a2, .inl (cL, 8, .inr (.inl sh))), (a3, .inl (cL, 8, .inr (.inl ke))), (a4, .inl (cZ, 8, .inl go))] := hD
        subst hpo
        refine sd_iz_ne (a := 1) (tgt := 59) hx hb dX1_least_34 (by decide) (by omega) (fun h => ?_) (fun h => ?_)
        · refine lv_iconst (v := (nI 0)) hx hb dX1_least_59 (by decide +kernel) ?_
          exact W.iret hx hb hr (fun t ht hW => ⟨⟨_, (sh, ke, go), rfl, rfl, by rw [ht]; exact hP, va_K.moved hW.alike hK, by rw [← hAe]; exact hD⟩, by rw [← hAe]; exact hS.F ht⟩) (fun q hq => by rw [← hAe]; exact hS.2.2 q hq) dX1_least_60
        · exact absurd h (by omega)
set_option maxHeartbeats 4000000 in
set_option maxRecDepth 100000 in
theorem m_least_zero (l : Launch) (dC : Nat → ClassId) (dI : Nat → Nat → Nat) (cL cZ : ClassId) (h1 a1 a2 a3 a4 er n : Nat) (w : Nat → Nat) (sh ke : Nat → Int64) (go : Nat → Int32) (sz : Nat) (hn1 : 1 ≤ n) (hn8 : n ≤ 8) (y k q : Nat) (hy : y ≤ 2) (hk : k < 2 ^ 31) (hq : q < n) (hz : sd_sum w n = 0) : Met l yX1_least (sd_ws yX1_least cX1_least 5 (some .int)) (sd_rm 3 0 0) (sd_Pw (dC, dI) vwCl [(cL, .long), (cZ, .boolean)] (sd_M cL cZ h1 a1 a2 a3 a4 er n w sh ke go) sz [.ref h1, .int (nI y), .int (nI k), .int (nI q)]) (va_Qi (fun r (v_ : sd_S) => r = nI 0) (sd_Bw (dC, dI) vwCl [(cL, .long), (cZ, .boolean)] (sd_M cL cZ h1 a1 a2 a3 a4 er n w sh ke go) sz (fun v_ => (sd_M cL cZ h1 a1 a2 a3 a4 2 n w v_.1 v_.2.1 v_.2.2))) (va_A (sd_M cL cZ h1 a1 a2 a3 a4 er n w sh ke go) sz)) 0 0 (va_A (sd_M cL cZ h1 a1 a2 a3 a4 er n w sh ke go) sz) := by
  refine Met.ofW (cc := cX1_least) (maxL := 5) (ret := (some .int)) (by decide) rfl ?_
  intro p e s m args below meth c s₁ B hml hv
  obtain ⟨rfl, hsz, hP, hK, hD0⟩ := hv
  subst hsz
  have hx := B.exec
  have hb := B.bytes
  have hr := B.returns
  have hts0 := atoms_spec (ws := (sd_ws yX1_least cX1_least 5 (some .int))) B.pre
  have hts : ∀ w ∈ sd_WS, w.before _ s = true := fun w h => hts0 w (List.mem_cons_of_mem _ h)
  have hown : s.vm.findClass RX1 = some m.cls := findClass_of_methodNamed B.named
  have hlocks := B.notSynchronized
  have hl := lv_entry ([.ref h1, .int (nI y), .int (nI k), .int (nI q)]) (n := 5) (Nat.le_of_ble_eq_true rfl)
  rw [lg_entry_eq]
  generalize (lg_sl ([.ref h1, .int (nI y), .int (nI k), .int (nI q)]) ++ List.replicate (5 - (lg_sl ([.ref h1, .int (nI y), .int (nI k), .int (nI q)])).length) Slot.unset).toArray = ls at hl ⊢
  have hl : lv_has ls 5 [(0, .ref h1), (1, .int (nI y)), (2, .int (nI k)), (3, .int (nI q))] := hl
  obtain ⟨A, hAe⟩ : ∃ A, A = va_A (sd_M cL cZ h1 a1 a2 a3 a4 er n w sh ke go) s.heap.size := ⟨_, rfl⟩
  have hD : va_D A (sd_M cL cZ h1 a1 a2 a3 a4 er n w sh ke go) := by rw [hAe]; exact hD0.self
  have hA : ∀ q : Nat, s.heap.size ≤ q → A q := fun q h => by rw [hAe]; exact Or.inr h
  have hS : va_S A s.heap s.heap [] := va_S.rf
  have hP : va_P (dC, dI) vwCl [(h1, .inr (1, [.int (nI er), .int (nI n), .ref a1, .ref a2, .ref a3, .ref a4])), (a1, .inl (cL, 8, .inr (.inl (fun z => lN (w z))))), (a2, .inl (cL, 8, .inr (.inl sh))), (a3, .inl (cL, 8, .inr (.inl ke))), (a4, .inl (cZ, 8, .inl go))] s.heap := hP
  have hD : va_D A [(h1, .inr (1, [.int (nI er), .int (nI n), .ref a1, .ref a2, .ref a3, .ref a4])), (a1, .inl (cL, 8, .inr (.inl (fun z => lN (w z))))), (a2, .inl (cL, 8, .inr (.inl sh))), (a3, .inl (cL, 8, .inr (.inl ke))), (a4, .inl (cZ, 8, .inl go))] := hD
  refine lv_aload_n hx hb dX1_least_0 rfl (lv_at hl 0 rfl) ?_
  refine lv_iconst (v := (nI 0)) hx hb dX1_least_1 (by decide +kernel) ?_
  refine va_put (D := (dC, dI)) (ci := 1) (v := .int (nI 0)) (ty := .int) (C := RX1) (T := TX1) (N := 6) hx hb hts u_in_X1 tyX1 tyX1_ok nmX1 hown hK hP hD hS 0 rfl rfl 0 (by decide) (hts (.fieldLink RX1 27 "ShareDeskModel" "err" "I") k_fieldLink_X1_27) (fun _ h9 => h9) rfl (by decide +kernel) rfl rfl (Nat.le_of_ble_eq_true rfl) dX1_least_2 (fun H locs hP hD hS => ?_)
  have hP : va_P (dC, dI) vwCl [(h1, .inr (1, [.int (nI 0), .int (nI n), .ref a1, .ref a2, .ref a3, .ref a4])), (a1, .inl (cL, 8, .inr (.inl (fun z => lN (w z))))), (a2, .inl (cL, 8, .inr (.inl sh))), (a3, .inl (cL, 8, .inr (.inl ke))), (a4, .inl (cZ, 8, .inl go))] H := hP
  have hD : va_D A [(h1, .inr (1, [.int (nI 0), .int (nI n), .ref a1, .ref a2, .ref a3, .ref a4])), (a1, .inl (cL, 8, .inr (.inl (fun z => lN (w z))))), (a2, .inl (cL, 8, .inr (.inl sh))), (a3, .inl (cL, 8, .inr (.inl ke))), (a4, .inl (cZ, 8, .inl go))] := hD
  refine lv_aload_n hx hb dX1_least_5 rfl (lv_at hl 0 rfl) ?_
  refine lv_iload_n hx hb dX1_least_6 rfl (lv_at hl 1 rfl) ?_
  refine sd_calli (va_runS (As := [.int (nI y)]) (rest := [.ref h1]) ⟨hx, hb, hml, hown, hts0⟩ (m_isWay l dC dI (nI y)) (cwS 1 hts0 (sd_gS k_methodLink_X1_59 k_static_X1_isWay k_init_ShareDeskModel k_code_X1_isWay) rfl rfl rfl (by decide +kernel) ⟨Nat.le_of_ble_eq_true rfl, Nat.le_of_ble_eq_true rfl⟩) (sd_preS (sd_K0 hK) (sd_nil _ _ _)) rfl rfl hl.1 rfl (lv_room (Nat.le_of_ble_eq_true rfl)) dX1_least_7 ⟨Nat.zero_le _, Nat.zero_le _⟩) ?_
  refine sd_bz_eq (tgt := 25) hx hb dX1_least_10 (by decide) (fun hc0 => ?_) (fun hc0 => ?_)
  · have hc0 : sd_rg (nI y) 0 2 = false := hc0
    exact absurd hc0 (by rw [sd_rg_nI (by omega) (by omega) (by omega) (by omega)]; decide)
  · have hc0 : sd_rg (nI y) 0 2 = true := hc0
    refine lv_iload_n hx hb dX1_least_13 rfl (lv_at hl 2 rfl) ?_
    refine sd_iz_lt (a := k) (tgt := 25) hx hb dX1_least_14 (by decide) (by omega) ?_
    refine lv_aload_n hx hb dX1_least_17 rfl (lv_at hl 0 rfl) ?_
    refine lv_iload_n hx hb dX1_least_18 rfl (lv_at hl 3 rfl) ?_
    refine sd_calli (va_runV (As := [.int (nI q)]) (rest := [.ref h1]) ⟨hx, hb, hml, hown, hts0⟩ (m_isParty l dC dI cL cZ h1 a1 a2 a3 a4 0 n w sh ke go hn1 hn8 (nI q)) (cwV 1 hts0 (sd_gV k_methodLink_X1_42 k_instanceMethod_X1_isParty k_sel_X1_isParty k_init_ShareDeskModel k_code_X1_isParty) rfl rfl rfl (by decide +kernel) ⟨Nat.le_of_ble_eq_true rfl, Nat.le_of_ble_eq_true rfl⟩) (sd_preV hK hP (q0 := 0) (ci := 1) rfl rfl) rfl rfl hl.1 rfl (lv_room (Nat.le_of_ble_eq_true rfl)) dX1_least_19 ⟨Nat.zero_le _, Nat.zero_le _⟩) ?_
    refine sd_bz_ne (tgt := 29) hx hb dX1_least_22 (by decide) (fun hc1 => ?_) (fun hc1 => ?_)
    · have hc1 : sd_rg (nI q) 0 (n - 1) = true := hc1
      refine lv_iconst (v := (nI 0)) hx hb dX1_least_29 (by decide +kernel) ?_
      refine lv_iconst (v := (nI 1)) hx hb dX1_least_30 (by decide +kernel) ?_
      refine sd_calli (va_runV (As := [.int (nI 0), .int (nI 1)]) (rest := []) ⟨hx, hb, hml, hown, hts0⟩ (m_fails0 l dC dI cL cZ h1 a1 a2 a3 a4 0 n w sh ke go rfl 1) (cwV 2 hts0 (sd_gV k_methodLink_X1_38 k_instanceMethod_X1_fails k_sel_X1_fails k_init_ShareDeskModel k_code_X1_fails) rfl rfl rfl (by decide +kernel) ⟨Nat.le_of_ble_eq_true rfl, Nat.le_of_ble_eq_true rfl⟩) (sd_preV hK hP (q0 := 0) (ci := 1) rfl rfl) rfl rfl hl.1 rfl (lv_room (Nat.le_of_ble_eq_true rfl)) dX1_least_31 ⟨Nat.zero_le _, Nat.zero_le _⟩) ?_
      refine sd_iz_ne (a := 0) (tgt := 59) hx hb dX1_least_34 (by decide) (by omega) (fun h => ?_) (fun h => ?_)
      · exact absurd h (by omega)
      · refine lv_aload_n hx hb dX1_least_37 rfl (lv_at hl 0 rfl) ?_
        refine lv_aload_n hx hb dX1_least_38 rfl (lv_at hl 0 rfl) ?_
        refine sd_calll (va_runV (As := []) (rest := [.ref h1]) ⟨hx, hb, hml, hown, hts0⟩ (m_all l dC dI cL cZ h1 a1 a2 a3 a4 0 n w sh ke go hn8) (cwV 0 hts0 (sd_gV k_methodLink_X1_48 k_instanceMethod_X1_all k_sel_X1_all k_init_ShareDeskModel k_code_X1_all) rfl rfl rfl (by decide +kernel) ⟨Nat.le_of_ble_eq_true rfl, Nat.le_of_ble_eq_true rfl⟩) (sd_preV hK hP (q0 := 0) (ci := 1) rfl rfl) rfl rfl hl.1 rfl (lv_room (Nat.le_of_ble_eq_true rfl)) dX1_least_39 ⟨Nat.zero_le _, Nat.zero_le _⟩) ?_
        refine lv_lconst (v := lN 0) hx hb dX1_least_42 rfl ?_
        refine sd_lc_ne (a := sd_sum w n) (b := 0) (tgt := 51) hx hb dX1_least_43 dX1_least_44 (by decide) (by omega) (by omega) (fun h => ?_) (fun h => ?_)
        · exact absurd hz h
        · refine lv_iconst (v := (nI 1)) hx hb dX1_least_47 (by decide +kernel) ?_
          refine lv_goto (tgt := 52) hx hb dX1_least_48 (by decide) ?_
          refine lv_iconst (v := (nI 2)) hx hb dX1_least_52 (by decide +kernel) ?_
          refine sd_wi (va_runV (As := [.int (nI 1), .int (nI 2)]) (rest := []) ⟨hx, hb, hml, hown, hts0⟩ (m_fails1 l dC dI cL cZ h1 a1 a2 a3 a4 0 n w sh ke go H.size rfl 2 (by decide) (by decide)) (cwV 2 hts0 (sd_gV k_methodLink_X1_38 k_instanceMethod_X1_fails k_sel_X1_fails k_init_ShareDeskModel k_code_X1_fails) rfl rfl rfl (by decide +kernel) ⟨Nat.le_of_ble_eq_true rfl, Nat.le_of_ble_eq_true rfl⟩) (sd_preVw hK hP hD (q0 := 0) (ci := 1) rfl rfl) rfl rfl hl.1 rfl (lv_room (Nat.le_of_ble_eq_true rfl)) dX1_least_53 ⟨Nat.zero_le _, Nat.zero_le _⟩) hD hS hA (fun r_ u_ H locs hpo hP hD hS => ?_)
          obtain ⟨sh, ke, go⟩ := u_
          try dsimp only at hpo
          have hP : va_P (dC, dI) vwCl [(h1, .inr (1, [.int (nI 2), .int (nI n), .ref a1, .ref a2, .ref a3, .ref a4])), (a1, .inl (cL, 8, .inr (.inl (fun z => lN (w z))))), (a2, .inl (cL, 8, .inr (.inl sh))), (a3, .inl (cL, 8, .inr (.inl ke))), (a4, .inl (cZ, 8, .inl go))] H := hP
          have hD : va_D A [(h1, .inr (1, [.int (nI 2), .int (nI n), .ref a1, .ref a2, .ref a3, .ref a4])), (a1, .inl (cL, 8, .inr (.inl (fun z => lN (w z))))), (a2, .inl (cL, 8, .inr (.inl sh))), (a3, .inl (cL, 8, .inr (.inl ke))), (a4, .inl (cZ, 8, .inl go))] := hD
          subst hpo
          refine sd_iz_eq (a := 1) (tgt := 61) hx hb dX1_least_56 (by decide) (by omega) (fun h => ?_) (fun h => ?_)
          · exact absurd h (by omega)
          · refine lv_iconst (v := (nI 0)) hx hb dX1_least_59 (by decide +kernel) ?_
            exact W.iret hx hb hr (fun t ht hW => ⟨⟨_, (sh, ke, go), rfl, rfl, by rw [ht]; exact hP, va_K.moved hW.alike hK, by rw [← hAe]; exact hD⟩, by rw [← hAe]; exact hS.F ht⟩) (fun q hq => by rw [← hAe]; exact hS.2.2 q hq) dX1_least_60
    · have hc1 : sd_rg (nI q) 0 (n - 1) = false := hc1
      exact absurd hc1 (by rw [sd_rg_nI (by omega) (by omega) (by omega) (by omega)]; decide)
set_option maxHeartbeats 4000000 in
set_option maxRecDepth 100000 in
theorem m_least (l : Launch) (dC : Nat → ClassId) (dI : Nat → Nat → Nat) (cL cZ : ClassId) (h1 a1 a2 a3 a4 er n : Nat) (w : Nat → Nat) (sh ke : Nat → Int64) (go : Nat → Int32) (sz : Nat) (ok : sd_ok n w) (hW : 0 < sd_sum w n) (y k q : Nat) (hy : y ≤ 2) (hk : k < 2 ^ 31) (hq : q < n) : Met l yX1_least (sd_ws yX1_least cX1_least 5 (some .int)) (sd_rm 3 0 0) (sd_Pw (dC, dI) vwCl [(cL, .long), (cZ, .boolean)] (sd_M cL cZ h1 a1 a2 a3 a4 er n w sh ke go) sz [.ref h1, .int (nI y), .int (nI k), .int (nI q)]) (va_Qi (fun r (v_ : sd_S) => r = sd_oi (sd_lst (fun j => decide (k ≤ sd_U y w n j q)) 10001)) (sd_Bw (dC, dI) vwCl [(cL, .long), (cZ, .boolean)] (sd_M cL cZ h1 a1 a2 a3 a4 er n w sh ke go) sz (fun v_ => (sd_M cL cZ h1 a1 a2 a3 a4 0 n w v_.1 v_.2.1 v_.2.2))) (va_A (sd_M cL cZ h1 a1 a2 a3 a4 er n w sh ke go) sz)) 0 0 (va_A (sd_M cL cZ h1 a1 a2 a3 a4 er n w sh ke go) sz) := by
  refine Met.ofW (cc := cX1_least) (maxL := 5) (ret := (some .int)) (by decide) rfl ?_
  intro p e s m args below meth c s₁ B hml hv
  obtain ⟨rfl, hsz, hP, hK, hD0⟩ := hv
  subst hsz
  have hx := B.exec
  have hb := B.bytes
  have hr := B.returns
  have hts0 := atoms_spec (ws := (sd_ws yX1_least cX1_least 5 (some .int))) B.pre
  have hts : ∀ w ∈ sd_WS, w.before _ s = true := fun w h => hts0 w (List.mem_cons_of_mem _ h)
  have hown : s.vm.findClass RX1 = some m.cls := findClass_of_methodNamed B.named
  have hlocks := B.notSynchronized
  have hl := lv_entry ([.ref h1, .int (nI y), .int (nI k), .int (nI q)]) (n := 5) (Nat.le_of_ble_eq_true rfl)
  rw [lg_entry_eq]
  generalize (lg_sl ([.ref h1, .int (nI y), .int (nI k), .int (nI q)]) ++ List.replicate (5 - (lg_sl ([.ref h1, .int (nI y), .int (nI k), .int (nI q)])).length) Slot.unset).toArray = ls at hl ⊢
  have hl : lv_has ls 5 [(0, .ref h1), (1, .int (nI y)), (2, .int (nI k)), (3, .int (nI q))] := hl
  obtain ⟨A, hAe⟩ : ∃ A, A = va_A (sd_M cL cZ h1 a1 a2 a3 a4 er n w sh ke go) s.heap.size := ⟨_, rfl⟩
  have hD : va_D A (sd_M cL cZ h1 a1 a2 a3 a4 er n w sh ke go) := by rw [hAe]; exact hD0.self
  have hA : ∀ q : Nat, s.heap.size ≤ q → A q := fun q h => by rw [hAe]; exact Or.inr h
  have hS : va_S A s.heap s.heap [] := va_S.rf
  have hP : va_P (dC, dI) vwCl [(h1, .inr (1, [.int (nI er), .int (nI n), .ref a1, .ref a2, .ref a3, .ref a4])), (a1, .inl (cL, 8, .inr (.inl (fun z => lN (w z))))), (a2, .inl (cL, 8, .inr (.inl sh))), (a3, .inl (cL, 8, .inr (.inl ke))), (a4, .inl (cZ, 8, .inl go))] s.heap := hP
  have hD : va_D A [(h1, .inr (1, [.int (nI er), .int (nI n), .ref a1, .ref a2, .ref a3, .ref a4])), (a1, .inl (cL, 8, .inr (.inl (fun z => lN (w z))))), (a2, .inl (cL, 8, .inr (.inl sh))), (a3, .inl (cL, 8, .inr (.inl ke))), (a4, .inl (cZ, 8, .inl go))] := hD
  have hn1 := ok.1
  have hn8 := ok.2.1
  have hWl := sd_W_le ok.2.2.1 ok.2.1
  refine lv_aload_n hx hb dX1_least_0 rfl (lv_at hl 0 rfl) ?_
  refine lv_iconst (v := (nI 0)) hx hb dX1_least_1 (by decide +kernel) ?_
  refine va_put (D := (dC, dI)) (ci := 1) (v := .int (nI 0)) (ty := .int) (C := RX1) (T := TX1) (N := 6) hx hb hts u_in_X1 tyX1 tyX1_ok nmX1 hown hK hP hD hS 0 rfl rfl 0 (by decide) (hts (.fieldLink RX1 27 "ShareDeskModel" "err" "I") k_fieldLink_X1_27) (fun _ h9 => h9) rfl (by decide +kernel) rfl rfl (Nat.le_of_ble_eq_true rfl) dX1_least_2 (fun H locs hP hD hS => ?_)
  have hP : va_P (dC, dI) vwCl [(h1, .inr (1, [.int (nI 0), .int (nI n), .ref a1, .ref a2, .ref a3, .ref a4])), (a1, .inl (cL, 8, .inr (.inl (fun z => lN (w z))))), (a2, .inl (cL, 8, .inr (.inl sh))), (a3, .inl (cL, 8, .inr (.inl ke))), (a4, .inl (cZ, 8, .inl go))] H := hP
  have hD : va_D A [(h1, .inr (1, [.int (nI 0), .int (nI n), .ref a1, .ref a2, .ref a3, .ref a4])), (a1, .inl (cL, 8, .inr (.inl (fun z => lN (w z))))), (a2, .inl (cL, 8, .inr (.inl sh))), (a3, .inl (cL, 8, .inr (.inl ke))), (a4, .inl (cZ, 8, .inl go))] := hD
  refine lv_aload_n hx hb dX1_least_5 rfl (lv_at hl 0 rfl) ?_
  refine lv_iload_n hx hb dX1_least_6 rfl (lv_at hl 1 rfl) ?_
  refine sd_calli (va_runS (As := [.int (nI y)]) (rest := [.ref h1]) ⟨hx, hb, hml, hown, hts0⟩ (m_isWay l dC dI (nI y)) (cwS 1 hts0 (sd_gS k_methodLink_X1_59 k_static_X1_isWay k_init_ShareDeskModel k_code_X1_isWay) rfl rfl rfl (by decide +kernel) ⟨Nat.le_of_ble_eq_true rfl, Nat.le_of_ble_eq_true rfl⟩) (sd_preS (sd_K0 hK) (sd_nil _ _ _)) rfl rfl hl.1 rfl (lv_room (Nat.le_of_ble_eq_true rfl)) dX1_least_7 ⟨Nat.zero_le _, Nat.zero_le _⟩) ?_
  refine sd_bz_eq (tgt := 25) hx hb dX1_least_10 (by decide) (fun hc0 => ?_) (fun hc0 => ?_)
  · have hc0 : sd_rg (nI y) 0 2 = false := hc0
    exact absurd hc0 (by rw [sd_rg_nI (by omega) (by omega) (by omega) (by omega)]; decide)
  · have hc0 : sd_rg (nI y) 0 2 = true := hc0
    refine lv_iload_n hx hb dX1_least_13 rfl (lv_at hl 2 rfl) ?_
    refine sd_iz_lt (a := k) (tgt := 25) hx hb dX1_least_14 (by decide) (by omega) ?_
    refine lv_aload_n hx hb dX1_least_17 rfl (lv_at hl 0 rfl) ?_
    refine lv_iload_n hx hb dX1_least_18 rfl (lv_at hl 3 rfl) ?_
    refine sd_calli (va_runV (As := [.int (nI q)]) (rest := [.ref h1]) ⟨hx, hb, hml, hown, hts0⟩ (m_isParty l dC dI cL cZ h1 a1 a2 a3 a4 0 n w sh ke go hn1 hn8 (nI q)) (cwV 1 hts0 (sd_gV k_methodLink_X1_42 k_instanceMethod_X1_isParty k_sel_X1_isParty k_init_ShareDeskModel k_code_X1_isParty) rfl rfl rfl (by decide +kernel) ⟨Nat.le_of_ble_eq_true rfl, Nat.le_of_ble_eq_true rfl⟩) (sd_preV hK hP (q0 := 0) (ci := 1) rfl rfl) rfl rfl hl.1 rfl (lv_room (Nat.le_of_ble_eq_true rfl)) dX1_least_19 ⟨Nat.zero_le _, Nat.zero_le _⟩) ?_
    refine sd_bz_ne (tgt := 29) hx hb dX1_least_22 (by decide) (fun hc1 => ?_) (fun hc1 => ?_)
    · have hc1 : sd_rg (nI q) 0 (n - 1) = true := hc1
      refine lv_iconst (v := (nI 0)) hx hb dX1_least_29 (by decide +kernel) ?_
      refine lv_iconst (v := (nI 1)) hx hb dX1_least_30 (by decide +kernel) ?_
      refine sd_calli (va_runV (As := [.int (nI 0), .int (nI 1)]) (rest := []) ⟨hx, hb, hml, hown, hts0⟩ (m_fails0 l dC dI cL cZ h1 a1 a2 a3 a4 0 n w sh ke go rfl 1) (cwV 2 hts0 (sd_gV k_methodLink_X1_38 k_instanceMethod_X1_fails k_sel_X1_fails k_init_ShareDeskModel k_code_X1_fails) rfl rfl rfl (by decide +kernel) ⟨Nat.le_of_ble_eq_true rfl, Nat.le_of_ble_eq_true rfl⟩) (sd_preV hK hP (q0 := 0) (ci := 1) rfl rfl) rfl rfl hl.1 rfl (lv_room (Nat.le_of_ble_eq_true rfl)) dX1_least_31 ⟨Nat.zero_le _, Nat.zero_le _⟩) ?_
      refine sd_iz_ne (a := 0) (tgt := 59) hx hb dX1_least_34 (by decide) (by omega) (fun h => ?_) (fun h => ?_)
      · exact absurd h (by omega)
      · refine lv_aload_n hx hb dX1_least_37 rfl (lv_at hl 0 rfl) ?_
        refine lv_aload_n hx hb dX1_least_38 rfl (lv_at hl 0 rfl) ?_
        refine sd_calll (va_runV (As := []) (rest := [.ref h1]) ⟨hx, hb, hml, hown, hts0⟩ (m_all l dC dI cL cZ h1 a1 a2 a3 a4 0 n w sh ke go hn8) (cwV 0 hts0 (sd_gV k_methodLink_X1_48 k_instanceMethod_X1_all k_sel_X1_all k_init_ShareDeskModel k_code_X1_all) rfl rfl rfl (by decide +kernel) ⟨Nat.le_of_ble_eq_true rfl, Nat.le_of_ble_eq_true rfl⟩) (sd_preV hK hP (q0 := 0) (ci := 1) rfl rfl) rfl rfl hl.1 rfl (lv_room (Nat.le_of_ble_eq_true rfl)) dX1_least_39 ⟨Nat.zero_le _, Nat.zero_le _⟩) ?_
        refine lv_lconst (v := lN 0) hx hb dX1_least_42 rfl ?_
        refine sd_lc_ne (a := sd_sum w n) (b := 0) (tgt := 51) hx hb dX1_least_43 dX1_least_44 (by decide) (by omega) (by omega) (fun h => ?_) (fun h => ?_)
        · refine lv_iconst (v := (nI 0)) hx hb dX1_least_51 (by decide +kernel) ?_
          refine lv_iconst (v := (nI 2)) hx hb dX1_least_52 (by decide +kernel) ?_
          refine sd_calli (va_runV (As := [.int (nI 0), .int (nI 2)]) (rest := []) ⟨hx, hb, hml, hown, hts0⟩ (m_fails0 l dC dI cL cZ h1 a1 a2 a3 a4 0 n w sh ke go rfl 2) (cwV 2 hts0 (sd_gV k_methodLink_X1_38 k_instanceMethod_X1_fails k_sel_X1_fails k_init_ShareDeskModel k_code_X1_fails) rfl rfl rfl (by decide +kernel) ⟨Nat.le_of_ble_eq_true rfl, Nat.le_of_ble_eq_true rfl⟩) (sd_preV hK hP (q0 := 0) (ci := 1) rfl rfl) rfl rfl hl.1 rfl (lv_room (Nat.le_of_ble_eq_true rfl)) dX1_least_53 ⟨Nat.zero_le _, Nat.zero_le _⟩) ?_
          refine sd_iz_eq (a := 0) (tgt := 61) hx hb dX1_least_56 (by decide) (by omega) (fun h => ?_) (fun h => ?_)
          · refine lv_aload_n hx hb dX1_least_61 rfl (lv_at hl 0 rfl) ?_
            refine lv_iload_n hx hb dX1_least_62 rfl (lv_at hl 1 rfl) ?_
            refine lv_iconst (v := (nI 0)) hx hb dX1_least_63 (by decide +kernel) ?_
            refine sd_wv (va_runV (As := [.int (nI y), .int (nI 0)]) (rest := []) ⟨hx, hb, hml, hown, hts0⟩ (m_give l dC dI cL cZ h1 a1 a2 a3 a4 0 n w sh ke go H.size ok hW y 0 hy (by omega)) (cwV 2 hts0 (sd_gV k_methodLink_X1_64 k_instanceMethod_X1_give k_sel_X1_give k_init_ShareDeskModel k_code_X1_give) rfl rfl rfl (by decide +kernel) ⟨Nat.le_of_ble_eq_true rfl, Nat.le_of_ble_eq_true rfl⟩) (sd_preVw hK hP hD (q0 := 0) (ci := 1) rfl rfl) rfl rfl hl.1 rfl (lv_room (Nat.le_of_ble_eq_true rfl)) dX1_least_64 ⟨Nat.zero_le _, Nat.zero_le _⟩) hD hS hA (fun u_ H locs hpo hP hD hS => ?_)
            obtain ⟨sh, ke1, go⟩ := u_
            try dsimp only at hpo
            have hP : va_P (dC, dI) vwCl [(h1, .inr (1, [.int (nI 0), .int (nI n), .ref a1, .ref a2, .ref a3, .ref a4])), (a1, .inl (cL, 8, .inr (.inl (fun z => lN (w z))))), (a2, .inl (cL, 8, .inr (.inl sh))), (a3, .inl (cL, 8, .inr (.inl ke1))), (a4, .inl (cZ, 8, .inl go))] H := hP
            have hD : va_D A [(h1, .inr (1, [.int (nI 0), .int (nI n), .ref a1, .ref a2, .ref a3, .ref a4])), (a1, .inl (cL, 8, .inr (.inl (fun z => lN (w z))))), (a2, .inl (cL, 8, .inr (.inl sh))), (a3, .inl (cL, 8, .inr (.inl ke1))), (a4, .inl (cZ, 8, .inl go))] := hD
            obtain ⟨hpo, hke⟩ := hpo
            rw [hke] at hP hD
            have hP : va_P (dC, dI) vwCl [(h1, .inr (1, [.int (nI 0), .int (nI n), .ref a1, .ref a2, .ref a3, .ref a4])), (a1, .inl (cL, 8, .inr (.inl (fun z => lN (w z))))), (a2, .inl (cL, 8, .inr (.inl sh))), (a3, .inl (cL, 8, .inr (.inl ke))), (a4, .inl (cZ, 8, .inl go))] H := hP
            have hD : va_D A [(h1, .inr (1, [.int (nI 0), .int (nI n), .ref a1, .ref a2, .ref a3, .ref a4])), (a1, .inl (cL, 8, .inr (.inl (fun z => lN (w z))))), (a2, .inl (cL, 8, .inr (.inl sh))), (a3, .inl (cL, 8, .inr (.inl ke))), (a4, .inl (cZ, 8, .inl go))] := hD
            refine lv_iconst (v := (nI 0)) hx hb dX1_least_67 (by decide +kernel) ?_
            refine lv_istore hx hb dX1_least_68 hl (by decide) rfl (fun ls hl => ?_)
            have hl : lv_has ls 5 [(4, .int (nI 0)), (0, .ref h1), (1, .int (nI y)), (2, .int (nI k)), (3, .int (nI q))] := hl
            have hl := lv_sub (l' := [(0, .ref h1), (1, .int (nI y)), (2, .int (nI k)), (3, .int (nI q)), (4, .int (nI 0))]) hl [1, 2, 3, 4, 0] rfl
            refine lp_mleast (er := 0) hx hb hml hts0 hown A s.heap hA hK ok hW y k q hy hk hq ⟨Nat.le_of_ble_eq_true rfl, Nat.le_of_ble_eq_true rfl⟩ ⟨Nat.le_of_ble_eq_true rfl, Nat.le_of_ble_eq_true rfl⟩ ⟨Nat.zero_le _, Nat.zero_le _⟩ (fun hz H locs sh ke go ls hP hD hS => ?_) (fun i hi hz H locs sh ke go ls hP hD hS => ?_) 10001 0 (by omega) H locs sh ke go ls hP hD hS ⟨fun hy0 j hj => ?_, fun j hj => absurd hj (Nat.not_lt_zero _)⟩ hl
            · refine sd_topi (y := sd_oi (sd_lst (fun j => decide (k ≤ sd_U y w n j q)) 10001)) (by rw [hz]; rfl) ?_
              exact W.iret hx hb hr (fun t ht hW => ⟨⟨_, (sh, ke, go), rfl, rfl, by rw [ht]; exact hP, va_K.moved hW.alike hK, by rw [← hAe]; exact hD⟩, by rw [← hAe]; exact hS.F ht⟩) (fun q hq => by rw [← hAe]; exact hS.2.2 q hq) dX1_least_119
            · refine sd_topi (y := sd_oi (sd_lst (fun j => decide (k ≤ sd_U y w n j q)) 10001)) (by rw [hz]; rfl) ?_
              exact W.iret hx hb hr (fun t ht hW => ⟨⟨_, (sh, ke, go), rfl, rfl, by rw [ht]; exact hP, va_K.moved hW.alike hK, by rw [← hAe]; exact hD⟩, by rw [← hAe]; exact hS.F ht⟩) (fun q hq => by rw [← hAe]; exact hS.2.2 q hq) dX1_least_102
            · rw [hpo j hj]; unfold sd_U; rw [if_neg (by omega)]
          · exact absurd h (by omega)
        · exact absurd h (by omega)
    · have hc1 : sd_rg (nI q) 0 (n - 1) = false := hc1
      exact absurd hc1 (by rw [sd_rg_nI (by omega) (by omega) (by omega) (by omega)]; decide)
