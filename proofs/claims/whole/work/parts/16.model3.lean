set_option maxHeartbeats 4000000 in
set_option maxRecDepth 100000 in
theorem lp_parts2 {p : Program} {l : Launch} {e : Env} {R : Room} {s : State} {m : MethodId} {args : Array Value} {below : List Frame} {meth : Method} {c : Code} {cells slots : Nat} {Q : State → Prop} (hx : p.tables.exec = Jvm.exec) (hb : c.code = cX1_parts) (hml : c.maxLocals = 8) (hts0 : ∀ w ∈ (sd_ws yX1_parts cX1_parts 8 none), w.before args s = true) (hown : s.vm.findClass RX1 = some m.cls) {dC : Nat → ClassId} {dI : Nat → Nat → Nat} {cL cZ : ClassId} {h1 a1 a2 a3 a4 er n : Nat} {w : Nat → Nat} (A : Nat → Prop) (H0 : Heap) (hA : ∀ q, H0.size ≤ q → A q) (hK : va_K (dC, dI) vwCl [(cL, .long), (cZ, .boolean)] s) (ke : Nat → Int64) (ok : sd_ok n w) (hW : 0 < sd_sum w n) (u : Nat) (hu : u ≤ 10001) (Lv : Nat) (hLn : Lv < n)
    (kk : ∀ (H : Heap) (locs : List Loc) (sh : Nat → Int64) (go : Nat → Int32) (ls : Array Slot), va_P (dC, dI) vwCl [(h1, .inr (1, [.int (nI er), .int (nI n), .ref a1, .ref a2, .ref a3, .ref a4])), (a1, .inl (cL, 8, .inr (.inl (fun z => lN (w z))))), (a2, .inl (cL, 8, .inr (.inl sh))), (a3, .inl (cL, 8, .inr (.inl ke))), (a4, .inl (cZ, 8, .inl go))] H → va_D A [(h1, .inr (1, [.int (nI er), .int (nI n), .ref a1, .ref a2, .ref a3, .ref a4])), (a1, .inl (cL, 8, .inr (.inl (fun z => lN (w z))))), (a2, .inl (cL, 8, .inr (.inl sh))), (a3, .inl (cL, 8, .inr (.inl ke))), (a4, .inl (cZ, 8, .inl go))] → va_S A H0 H locs → ((∀ j, j < n → sh j = lN ((u * w j / sd_sum w n) + (if (sd_gs (sd_rs w (sd_sum w n) u) n Lv) j then 1 else 0))) ∧ ∀ j, j < n → go j = sd_bi ((sd_gs (sd_rs w (sd_sum w n) u) n Lv) j)) → lv_has ls 8 [(0, .ref h1), (1, .int (nI u)), (2, .long (lN (sd_sum w n))), (4, .long (lN (Lv - Lv)))] → W p l e R s m args below meth c H locs cells slots Q (F0 m 169 ls []))
    : ∀ (f t : Nat), t + f = Lv → ∀ (H : Heap) (locs : List Loc) (sh : Nat → Int64) (go : Nat → Int32) (ls : Array Slot), va_P (dC, dI) vwCl [(h1, .inr (1, [.int (nI er), .int (nI n), .ref a1, .ref a2, .ref a3, .ref a4])), (a1, .inl (cL, 8, .inr (.inl (fun z => lN (w z))))), (a2, .inl (cL, 8, .inr (.inl sh))), (a3, .inl (cL, 8, .inr (.inl ke))), (a4, .inl (cZ, 8, .inl go))] H → va_D A [(h1, .inr (1, [.int (nI er), .int (nI n), .ref a1, .ref a2, .ref a3, .ref a4])), (a1, .inl (cL, 8, .inr (.inl (fun z => lN (w z))))), (a2, .inl (cL, 8, .inr (.inl sh))), (a3, .inl (cL, 8, .inr (.inl ke))), (a4, .inl (cZ, 8, .inl go))] → va_S A H0 H locs → ((∀ j, j < n → sh j = lN ((u * w j / sd_sum w n) + (if (sd_gs (sd_rs w (sd_sum w n) u) n t) j then 1 else 0))) ∧ ∀ j, j < n → go j = sd_bi ((sd_gs (sd_rs w (sd_sum w n) u) n t) j)) → lv_has ls 8 [(0, .ref h1), (1, .int (nI u)), (2, .long (lN (sd_sum w n))), (4, .long (lN (Lv - t)))] → W p l e R s m args below meth c H locs cells slots Q (F0 m 66 ls []) := by
  have hts : ∀ w ∈ sd_WS, w.before args s = true := fun w h => hts0 w (List.mem_cons_of_mem _ h)
  have hn8 := ok.2.1
  have hWl := sd_W_le ok.2.2.1 ok.2.1
  intro f
  induction f using Nat.strongRecOn with
  | ind f ih0 =>
    intro t hi H locs sh go ls hP hD hS hv hl
    have ih : t < Lv → ∀ (H : Heap) (locs : List Loc) (sh : Nat → Int64) (go : Nat → Int32) (ls : Array Slot), va_P (dC, dI) vwCl [(h1, .inr (1, [.int (nI er), .int (nI n), .ref a1, .ref a2, .ref a3, .ref a4])), (a1, .inl (cL, 8, .inr (.inl (fun z => lN (w z))))), (a2, .inl (cL, 8, .inr (.inl sh))), (a3, .inl (cL, 8, .inr (.inl ke))), (a4, .inl (cZ, 8, .inl go))] H → va_D A [(h1, .inr (1, [.int (nI er), .int (nI n), .ref a1, .ref a2, .ref a3, .ref a4])), (a1, .inl (cL, 8, .inr (.inl (fun z => lN (w z))))), (a2, .inl (cL, 8, .inr (.inl sh))), (a3, .inl (cL, 8, .inr (.inl ke))), (a4, .inl (cZ, 8, .inl go))] → va_S A H0 H locs → ((∀ j, j < n → sh j = lN ((u * w j / sd_sum w n) + (if (sd_gs (sd_rs w (sd_sum w n) u) n (t + 1)) j then 1 else 0))) ∧ ∀ j, j < n → go j = sd_bi ((sd_gs (sd_rs w (sd_sum w n) u) n (t + 1)) j)) → lv_has ls 8 [(0, .ref h1), (1, .int (nI u)), (2, .long (lN (sd_sum w n))), (4, .long (lN (Lv - (t + 1))))] → W p l e R s m args below meth c H locs cells slots Q (F0 m 66 ls []) := fun hlt => ih0 (f - 1) (by omega) (t + 1) (by omega)
    refine lv_lload hx hb dX1_parts_66 (lv_at hl 3 rfl) ?_
    refine lv_lconst (v := lN 0) hx hb dX1_parts_68 rfl ?_
    refine sd_lc_le (a := Lv - t) (b := 0) (tgt := 169) hx hb dX1_parts_69 dX1_parts_70 (by decide) (by omega) (by omega) (fun h => ?_) (fun h => ?_)
    · have hin : t = Lv := by omega
      subst hin
      exact kk H locs sh go ls hP hD hS hv hl
    · refine lv_iconst (v := (-1)) hx hb dX1_parts_73 (by decide +kernel) ?_
      refine lv_istore hx hb dX1_parts_74 hl (by decide) rfl (fun ls hl => ?_)
      have hl : lv_has ls 8 [(6, .int (-1)), (0, .ref h1), (1, .int (nI u)), (2, .long (lN (sd_sum w n))), (4, .long (lN (Lv - t)))] := hl
      refine lv_iconst (v := (nI 0)) hx hb dX1_parts_76 (by decide +kernel) ?_
      refine lv_istore hx hb dX1_parts_77 hl (by decide) rfl (fun ls hl => ?_)
      have hl : lv_has ls 8 [(7, .int (nI 0)), (6, .int (-1)), (0, .ref h1), (1, .int (nI u)), (2, .long (lN (sd_sum w n))), (4, .long (lN (Lv - t)))] := hl
      have hl := lv_sub (l' := [(0, .ref h1), (1, .int (nI u)), (2, .long (lN (sd_sum w n))), (4, .long (lN (Lv - t))), (6, .int (-1)), (7, .int (nI 0))]) hl [2, 3, 4, 5, 1, 0] rfl
      refine lp_parts3 hx hb hml hts0 hown hK hP ok hW u hu (lN (Lv - t)) (sd_gs (sd_rs w (sd_sum w n) u) n t) hv.2 (fun ls hl => ?_) n 0 (by omega) ls hl
      obtain ⟨b0, hbb⟩ := sd_gs_pick (r := (sd_rs w (sd_sum w n) u)) (n := n) (t := t) (by rw [(sd_gs_inv (r := (sd_rs w (sd_sum w n) u)) (n := n) (t := t) (by omega)).1]; omega)
      rw [hbb] at hl
      have hl : lv_has ls 8 [(0, .ref h1), (1, .int (nI u)), (2, .long (lN (sd_sum w n))), (4, .long (lN (Lv - t))), (6, .int (nI b0)), (7, .int (nI n))] := hl
      obtain ⟨hb0, hgf, -⟩ := sd_pk_some hbb
      have hgs : (sd_gs (sd_rs w (sd_sum w n) u) n (t + 1)) = fun i => if i = b0 then true else (sd_gs (sd_rs w (sd_sum w n) u) n t) i := by
        show (match sd_pk (sd_rs w (sd_sum w n) u) (sd_gs (sd_rs w (sd_sum w n) u) n t) n with
          | none => (sd_gs (sd_rs w (sd_sum w n) u) n t)
          | some b => fun i => if i = b then true else (sd_gs (sd_rs w (sd_sum w n) u) n t) i) = _
        rw [hbb]
      refine lv_aload_n hx hb dX1_parts_141 rfl (lv_at hl 0 rfl) ?_
      refine va_get (D := (dC, dI)) (ci := 1) (v := .ref a4) (C := RX1) (T := TX1) (N := 6) hx hb hts u_in_X1 hown hK hP 0 rfl rfl 5 (by decide) (hts (.fieldLink RX1 23 "ShareDeskModel" "got" "[Z") k_fieldLink_X1_23) (fun _ h9 => h9) rfl dX1_parts_142 ?_
      refine lv_iload hx hb dX1_parts_145 (lv_at hl 4 rfl) ?_
      refine lv_iconst (v := (nI 1)) hx hb dX1_parts_147 (by decide +kernel) ?_
      refine sd_zast (j := b0) hx hb hK hP hD hS 4 1 rfl rfl (by omega) (by decide) dX1_parts_148 (fun H locs hP hD hS => ?_)
      have hP : va_P (dC, dI) vwCl [(h1, .inr (1, [.int (nI er), .int (nI n), .ref a1, .ref a2, .ref a3, .ref a4])), (a1, .inl (cL, 8, .inr (.inl (fun z => lN (w z))))), (a2, .inl (cL, 8, .inr (.inl sh))), (a3, .inl (cL, 8, .inr (.inl ke))), (a4, .inl (cZ, 8, .inl (upd go b0 (vp_nar .boolean (nI 1)))))] H := hP
      have hD : va_D A [(h1, .inr (1, [.int (nI er), .int (nI n), .ref a1, .ref a2, .ref a3, .ref a4])), (a1, .inl (cL, 8, .inr (.inl (fun z => lN (w z))))), (a2, .inl (cL, 8, .inr (.inl sh))), (a3, .inl (cL, 8, .inr (.inl ke))), (a4, .inl (cZ, 8, .inl (upd go b0 (vp_nar .boolean (nI 1)))))] := hD
      refine lv_aload_n hx hb dX1_parts_149 rfl (lv_at hl 0 rfl) ?_
      refine va_get (D := (dC, dI)) (ci := 1) (v := .ref a2) (C := RX1) (T := TX1) (N := 6) hx hb hts u_in_X1 hown hK hP 0 rfl rfl 3 (by decide) (hts (.fieldLink RX1 17 "ShareDeskModel" "shares" "[J") k_fieldLink_X1_17) (fun _ h9 => h9) rfl dX1_parts_150 ?_
      refine lv_iload hx hb dX1_parts_153 (lv_at hl 4 rfl) ?_
      refine lv_dup2_11 hx hb dX1_parts_155 rfl rfl ?_
      refine sd_lald (j := b0) (v := lN (u * w b0 / sd_sum w n)) hx hb hK hP 2 0 rfl rfl (by omega) (by decide) (by rw [hv.1 b0 hb0, hgf]; rfl) dX1_parts_156 ?_
      refine lv_lconst (v := lN 1) hx hb dX1_parts_157 rfl ?_
      refine sd_ladd (v := lN ((u * w b0 / sd_sum w n) + 1)) hx hb dX1_parts_158 (lN_add _ _) ?_
      refine sd_last (j := b0) hx hb hK hP hD hS 2 0 rfl rfl (by omega) (by decide) dX1_parts_159 (fun H locs hP hD hS => ?_)
      have hP : va_P (dC, dI) vwCl [(h1, .inr (1, [.int (nI er), .int (nI n), .ref a1, .ref a2, .ref a3, .ref a4])), (a1, .inl (cL, 8, .inr (.inl (fun z => lN (w z))))), (a2, .inl (cL, 8, .inr (.inl (vp_updL sh b0 (lN (u * w b0 / sd_sum w n + 1)))))), (a3, .inl (cL, 8, .inr (.inl ke))), (a4, .inl (cZ, 8, .inl (upd go b0 (vp_nar .boolean (nI 1)))))] H := hP
      have hD : va_D A [(h1, .inr (1, [.int (nI er), .int (nI n), .ref a1, .ref a2, .ref a3, .ref a4])), (a1, .inl (cL, 8, .inr (.inl (fun z => lN (w z))))), (a2, .inl (cL, 8, .inr (.inl (vp_updL sh b0 (lN (u * w b0 / sd_sum w n + 1)))))), (a3, .inl (cL, 8, .inr (.inl ke))), (a4, .inl (cZ, 8, .inl (upd go b0 (vp_nar .boolean (nI 1)))))] := hD
      refine lv_lload hx hb dX1_parts_160 (lv_at hl 3 rfl) ?_
      refine lv_lconst (v := lN 1) hx hb dX1_parts_162 rfl ?_
      refine sd_lsub (v := lN ((Lv - t) - 1)) hx hb dX1_parts_163 (lN_sub (by omega)) ?_
      refine lv_lstore hx hb dX1_parts_164 hl (by decide) rfl (fun ls hl => ?_)
      have hl : lv_has ls 8 [(4, .long (lN ((Lv - t) - 1))), (0, .ref h1), (1, .int (nI u)), (2, .long (lN (sd_sum w n))), (6, .int (nI b0)), (7, .int (nI n))] := hl
      refine lv_goto (tgt := 66) hx hb dX1_parts_166 (by decide) ?_
      have hl := lv_sub (l' := [(0, .ref h1), (1, .int (nI u)), (2, .long (lN (sd_sum w n))), (4, .long (lN ((Lv - t) - 1)))]) hl [1, 2, 3, 0] rfl
      have he : Lv - t - 1 = Lv - (t + 1) := by omega
      rw [he] at hl
      refine ih (by omega) H locs _ _ ls hP hD hS ⟨fun j hj => ?_, fun j hj => ?_⟩ hl
      · rw [hgs]
        by_cases e : j = b0
        · rw [e, pk_uLs]; simp
        · rw [pk_uLn e, hv.1 j hj]; simp [e]
      · rw [hgs]
        by_cases e : j = b0
        · rw [e, pk_us]; simp only [if_true]; decide +kernel
        · rw [pk_un e, hv.2 j hj]; simp [e]
set_option maxHeartbeats 4000000 in
set_option maxRecDepth 100000 in
theorem m_parts (l : Launch) (dC : Nat → ClassId) (dI : Nat → Nat → Nat) (cL cZ : ClassId) (h1 a1 a2 a3 a4 er n : Nat) (w : Nat → Nat) (sh ke : Nat → Int64) (go : Nat → Int32) (sz : Nat) (ok : sd_ok n w) (hW : 0 < sd_sum w n) (u : Nat) (hu : u ≤ 10001) : Met l yX1_parts (sd_ws yX1_parts cX1_parts 8 none) (sd_rm 1 0 0) (sd_Pw (dC, dI) vwCl [(cL, .long), (cZ, .boolean)] (sd_M cL cZ h1 a1 a2 a3 a4 er n w sh ke go) sz [.ref h1, .int (nI u)]) (va_Qv (fun (v_ : sd_S) => (∀ j, j < n → v_.1 j = lN (sd_u0 w n u j)) ∧ v_.2.1 = ke) (sd_Bw (dC, dI) vwCl [(cL, .long), (cZ, .boolean)] (sd_M cL cZ h1 a1 a2 a3 a4 er n w sh ke go) sz (fun v_ => (sd_M cL cZ h1 a1 a2 a3 a4 er n w v_.1 v_.2.1 v_.2.2))) (va_A (sd_M cL cZ h1 a1 a2 a3 a4 er n w sh ke go) sz)) 0 0 (va_A (sd_M cL cZ h1 a1 a2 a3 a4 er n w sh ke go) sz) := by
  refine Met.ofW (cc := cX1_parts) (maxL := 8) (ret := none) (by decide) rfl ?_
  intro p e s m args below meth c s₁ B hml hv
  obtain ⟨rfl, hsz, hP, hK, hD0⟩ := hv
  subst hsz
  have hx := B.exec
  have hb := B.bytes
  have hr := B.returns
  have hts0 := atoms_spec (ws := (sd_ws yX1_parts cX1_parts 8 none)) B.pre
  have hts : ∀ w ∈ sd_WS, w.before _ s = true := fun w h => hts0 w (List.mem_cons_of_mem _ h)
  have hown : s.vm.findClass RX1 = some m.cls := findClass_of_methodNamed B.named
  have hlocks := B.notSynchronized
  have hl := lv_entry ([.ref h1, .int (nI u)]) (n := 8) (Nat.le_of_ble_eq_true rfl)
  rw [lg_entry_eq]
  generalize (lg_sl ([.ref h1, .int (nI u)]) ++ List.replicate (8 - (lg_sl ([.ref h1, .int (nI u)])).length) Slot.unset).toArray = ls at hl ⊢
  have hl : lv_has ls 8 [(0, .ref h1), (1, .int (nI u))] := hl
  obtain ⟨A, hAe⟩ : ∃ A, A = va_A (sd_M cL cZ h1 a1 a2 a3 a4 er n w sh ke go) s.heap.size := ⟨_, rfl⟩
  have hD : va_D A (sd_M cL cZ h1 a1 a2 a3 a4 er n w sh ke go) := by rw [hAe]; exact hD0.self
  have hA : ∀ q : Nat, s.heap.size ≤ q → A q := fun q h => by rw [hAe]; exact Or.inr h
  have hS : va_S A s.heap s.heap [] := va_S.rf
  have hP : va_P (dC, dI) vwCl [(h1, .inr (1, [.int (nI er), .int (nI n), .ref a1, .ref a2, .ref a3, .ref a4])), (a1, .inl (cL, 8, .inr (.inl (fun z => lN (w z))))), (a2, .inl (cL, 8, .inr (.inl sh))), (a3, .inl (cL, 8, .inr (.inl ke))), (a4, .inl (cZ, 8, .inl go))] s.heap := hP
  have hD : va_D A [(h1, .inr (1, [.int (nI er), .int (nI n), .ref a1, .ref a2, .ref a3, .ref a4])), (a1, .inl (cL, 8, .inr (.inl (fun z => lN (w z))))), (a2, .inl (cL, 8, .inr (.inl sh))), (a3, .inl (cL, 8, .inr (.inl ke))), (a4, .inl (cZ, 8, .inl go))] := hD
  have hn8 := ok.2.1
  refine lv_aload_n hx hb dX1_parts_0 rfl (lv_at hl 0 rfl) ?_
  refine sd_calll (va_runV (As := []) (rest := []) ⟨hx, hb, hml, hown, hts0⟩ (m_all l dC dI cL cZ h1 a1 a2 a3 a4 er n w sh ke go hn8) (cwV 0 hts0 (sd_gV k_methodLink_X1_48 k_instanceMethod_X1_all k_sel_X1_all k_init_ShareDeskModel k_code_X1_all) rfl rfl rfl (by decide +kernel) ⟨Nat.le_of_ble_eq_true rfl, Nat.le_of_ble_eq_true rfl⟩) (sd_preV hK hP (q0 := 0) (ci := 1) rfl rfl) rfl rfl hl.1 rfl (lv_room (Nat.le_of_ble_eq_true rfl)) dX1_parts_1 ⟨Nat.zero_le _, Nat.zero_le _⟩) ?_
  refine lv_lstore_n hx hb dX1_parts_4 rfl hl (by decide) rfl (fun ls hl => ?_)
  have hl : lv_has ls 8 [(2, .long (lN (sd_sum w n))), (0, .ref h1), (1, .int (nI u))] := hl
  refine lv_iload_n hx hb dX1_parts_5 rfl (lv_at hl 2 rfl) ?_
  refine lv_i2l (v := lN u) hx hb dX1_parts_6 (nI_l (by omega)) ?_
  refine lv_lstore hx hb dX1_parts_7 hl (by decide) rfl (fun ls hl => ?_)
  have hl : lv_has ls 8 [(4, .long (lN u)), (2, .long (lN (sd_sum w n))), (0, .ref h1), (1, .int (nI u))] := hl
  refine lv_iconst (v := (nI 0)) hx hb dX1_parts_9 (by decide +kernel) ?_
  refine lv_istore hx hb dX1_parts_10 hl (by decide) rfl (fun ls hl => ?_)
  have hl : lv_has ls 8 [(6, .int (nI 0)), (4, .long (lN u)), (2, .long (lN (sd_sum w n))), (0, .ref h1), (1, .int (nI u))] := hl
  have hl := lv_sub (l' := [(0, .ref h1), (1, .int (nI u)), (2, .long (lN (sd_sum w n))), (4, .long (lN u)), (6, .int (nI 0))]) hl [3, 4, 2, 1, 0] rfl
  refine lp_parts1 hx hb hml hts0 hown A s.heap hA hK ke ok hW u hu (fun H locs sh go ls hP hD hS hv hl => ?_) n 0 (by omega) s.heap [] sh go ls hP hD hS ⟨fun j hj => absurd hj (Nat.not_lt_zero _), fun j hj => absurd hj (Nat.not_lt_zero _)⟩ hl
  have hl := lv_sub (l' := [(0, .ref h1), (1, .int (nI u)), (2, .long (lN (sd_sum w n))), (4, .long (lN (u - (sd_sum (fun j => u * w j / sd_sum w n) n))))]) hl [0, 1, 2, 3] rfl
  obtain ⟨Lv, hLv⟩ : ∃ Lv, Lv = sd_sum (sd_rs w (sd_sum w n) u) n / sd_sum w n := ⟨_, rfl⟩
  have hLl := sd_left (m := u) hW
  rw [← hLv] at hLl
  have he : u - (sd_sum (fun j => u * w j / sd_sum w n) n) = Lv - 0 := by have := hLl.1; omega
  rw [he] at hl
  refine lp_parts2 hx hb hml hts0 hown A s.heap hA hK ke ok hW u hu Lv hLl.2 (fun H locs sh go ls hP hD hS hv hl => ?_) Lv 0 (by omega) H locs sh go ls hP hD hS ⟨fun j hj => ?_, fun j hj => ?_⟩ hl
  · have hnew : ∀ j, j < n → sh j = lN (sd_u0 w n u j) := fun j hj => by rw [hv.1 j hj, sd_u0_gs hW hj, hLv]
    exact W.vret hx hb hr (fun t ht hW => ⟨⟨(sh, ke, go), rfl, ⟨hnew, rfl⟩, by rw [ht]; exact hP, va_K.moved hW.alike hK, by rw [← hAe]; exact hD⟩, by rw [← hAe]; exact hS.F ht⟩) (fun q hq => by rw [← hAe]; exact hS.2.2 q hq) dX1_parts_169
  · rw [hv.1 j hj]; rfl
  · rw [hv.2 j hj]; rfl
set_option maxHeartbeats 4000000 in
set_option maxRecDepth 100000 in
theorem lp_give1 {p : Program} {l : Launch} {e : Env} {R : Room} {s : State} {m : MethodId} {args : Array Value} {below : List Frame} {meth : Method} {c : Code} {cells slots : Nat} {Q : State → Prop} (hx : p.tables.exec = Jvm.exec) (hb : c.code = cX1_give) (hml : c.maxLocals = 4) (hts0 : ∀ w ∈ (sd_ws yX1_give cX1_give 4 none), w.before args s = true) (hown : s.vm.findClass RX1 = some m.cls) {dC : Nat → ClassId} {dI : Nat → Nat → Nat} {cL cZ : ClassId} {h1 a1 a2 a3 a4 er n : Nat} {w : Nat → Nat} (A : Nat → Prop) (H0 : Heap) (hA : ∀ q, H0.size ≤ q → A q) (hK : va_K (dC, dI) vwCl [(cL, .long), (cZ, .boolean)] s) (ke : Nat → Int64) (ok : sd_ok n w) (y u : Nat)
    (kk : ∀ (H : Heap) (locs : List Loc) (sh : Nat → Int64) (go : Nat → Int32) (ls : Array Slot), va_P (dC, dI) vwCl [(h1, .inr (1, [.int (nI er), .int (nI n), .ref a1, .ref a2, .ref a3, .ref a4])), (a1, .inl (cL, 8, .inr (.inl (fun z => lN (w z))))), (a2, .inl (cL, 8, .inr (.inl sh))), (a3, .inl (cL, 8, .inr (.inl ke))), (a4, .inl (cZ, 8, .inl go))] H → va_D A [(h1, .inr (1, [.int (nI er), .int (nI n), .ref a1, .ref a2, .ref a3, .ref a4])), (a1, .inl (cL, 8, .inr (.inl (fun z => lN (w z))))), (a2, .inl (cL, 8, .inr (.inl sh))), (a3, .inl (cL, 8, .inr (.inl ke))), (a4, .inl (cZ, 8, .inl go))] → va_S A H0 H locs → (∀ j, j < n → sh j = lN 0) → lv_has ls 4 [(0, .ref h1), (1, .int (nI y)), (2, .int (nI u)), (3, .int (nI n))] → W p l e R s m args below meth c H locs cells slots Q (F0 m 33 ls []))
    : ∀ (f i : Nat), i + f = n → ∀ (H : Heap) (locs : List Loc) (sh : Nat → Int64) (go : Nat → Int32) (ls : Array Slot), va_P (dC, dI) vwCl [(h1, .inr (1, [.int (nI er), .int (nI n), .ref a1, .ref a2, .ref a3, .ref a4])), (a1, .inl (cL, 8, .inr (.inl (fun z => lN (w z))))), (a2, .inl (cL, 8, .inr (.inl sh))), (a3, .inl (cL, 8, .inr (.inl ke))), (a4, .inl (cZ, 8, .inl go))] H → va_D A [(h1, .inr (1, [.int (nI er), .int (nI n), .ref a1, .ref a2, .ref a3, .ref a4])), (a1, .inl (cL, 8, .inr (.inl (fun z => lN (w z))))), (a2, .inl (cL, 8, .inr (.inl sh))), (a3, .inl (cL, 8, .inr (.inl ke))), (a4, .inl (cZ, 8, .inl go))] → va_S A H0 H locs → (∀ j, j < i → sh j = lN 0) → lv_has ls 4 [(0, .ref h1), (1, .int (nI y)), (2, .int (nI u)), (3, .int (nI i))] → W p l e R s m args below meth c H locs cells slots Q (F0 m 12 ls []) := by
  have hts : ∀ w ∈ sd_WS, w.before args s = true := fun w h => hts0 w (List.mem_cons_of_mem _ h)
  have hn8 := ok.2.1
  intro f
  induction f using Nat.strongRecOn with
  | ind f ih0 =>
    intro i hi H locs sh go ls hP hD hS hv hl
    have ih : i < n → ∀ (H : Heap) (locs : List Loc) (sh : Nat → Int64) (go : Nat → Int32) (ls : Array Slot), va_P (dC, dI) vwCl [(h1, .inr (1, [.int (nI er), .int (nI n), .ref a1, .ref a2, .ref a3, .ref a4])), (a1, .inl (cL, 8, .inr (.inl (fun z => lN (w z))))), (a2, .inl (cL, 8, .inr (.inl sh))), (a3, .inl (cL, 8, .inr (.inl ke))), (a4, .inl (cZ, 8, .inl go))] H → va_D A [(h1, .inr (1, [.int (nI er), .int (nI n), .ref a1, .ref a2, .ref a3, .ref a4])), (a1, .inl (cL, 8, .inr (.inl (fun z => lN (w z))))), (a2, .inl (cL, 8, .inr (.inl sh))), (a3, .inl (cL, 8, .inr (.inl ke))), (a4, .inl (cZ, 8, .inl go))] → va_S A H0 H locs → (∀ j, j < (i + 1) → sh j = lN 0) → lv_has ls 4 [(0, .ref h1), (1, .int (nI y)), (2, .int (nI u)), (3, .int (nI (i + 1)))] → W p l e R s m args below meth c H locs cells slots Q (F0 m 12 ls []) := fun hlt => ih0 (f - 1) (by omega) (i + 1) (by omega)
    refine lv_iload_n hx hb dX1_give_12 rfl (lv_at hl 3 rfl) ?_
    refine lv_aload_n hx hb dX1_give_13 rfl (lv_at hl 0 rfl) ?_
    refine va_get (D := (dC, dI)) (ci := 1) (v := .int (nI n)) (C := RX1) (T := TX1) (N := 6) hx hb hts u_in_X1 hown hK hP 0 rfl rfl 1 (by decide) (hts (.fieldLink RX1 7 "ShareDeskModel" "parties" "I") k_fieldLink_X1_7) (fun _ h9 => h9) rfl dX1_give_14 ?_
    refine sd_ic_ge (a := i) (b := n) (tgt := 33) hx hb dX1_give_17 (by decide) (by omega) (by omega) (fun h => ?_) (fun h => ?_)
    · have hin : i = n := by omega
      subst hin
      exact kk H locs sh go ls hP hD hS hv hl
    · refine lv_aload_n hx hb dX1_give_20 rfl (lv_at hl 0 rfl) ?_
      refine va_get (D := (dC, dI)) (ci := 1) (v := .ref a2) (C := RX1) (T := TX1) (N := 6) hx hb hts u_in_X1 hown hK hP 0 rfl rfl 3 (by decide) (hts (.fieldLink RX1 17 "ShareDeskModel" "shares" "[J") k_fieldLink_X1_17) (fun _ h9 => h9) rfl dX1_give_21 ?_
      refine lv_iload_n hx hb dX1_give_24 rfl (lv_at hl 3 rfl) ?_
      refine lv_lconst (v := lN 0) hx hb dX1_give_25 rfl ?_
      refine sd_last (j := i) hx hb hK hP hD hS 2 0 rfl rfl (by omega) (by decide) dX1_give_26 (fun H locs hP hD hS => ?_)
      have hP : va_P (dC, dI) vwCl [(h1, .inr (1, [.int (nI er), .int (nI n), .ref a1, .ref a2, .ref a3, .ref a4])), (a1, .inl (cL, 8, .inr (.inl (fun z => lN (w z))))), (a2, .inl (cL, 8, .inr (.inl (vp_updL sh i (lN 0))))), (a3, .inl (cL, 8, .inr (.inl ke))), (a4, .inl (cZ, 8, .inl go))] H := hP
      have hD : va_D A [(h1, .inr (1, [.int (nI er), .int (nI n), .ref a1, .ref a2, .ref a3, .ref a4])), (a1, .inl (cL, 8, .inr (.inl (fun z => lN (w z))))), (a2, .inl (cL, 8, .inr (.inl (vp_updL sh i (lN 0))))), (a3, .inl (cL, 8, .inr (.inl ke))), (a4, .inl (cZ, 8, .inl go))] := hD
      refine lv_iinc (k := 3) (v := nI (i + 1)) hx hb dX1_give_27 hl rfl (nI_add _ 1) (by decide) rfl (fun ls hl => ?_)
      have hl : lv_has ls 4 [(3, .int (nI (i + 1))), (0, .ref h1), (1, .int (nI y)), (2, .int (nI u))] := hl
      refine lv_goto (tgt := 12) hx hb dX1_give_30 (by decide) ?_
      have hl := lv_sub (l' := [(0, .ref h1), (1, .int (nI y)), (2, .int (nI u)), (3, .int (nI (i + 1)))]) hl [1, 2, 3, 0] rfl
      refine ih (by omega) H locs _ _ ls hP hD hS (fun j hj => ?_) hl
      by_cases e : j = i
      · rw [e, pk_uLs]
      · rw [pk_uLn e]; exact hv j (by omega)
set_option maxHeartbeats 4000000 in
set_option maxRecDepth 100000 in
theorem lp_give2 {p : Program} {l : Launch} {e : Env} {R : Room} {s : State} {m : MethodId} {args : Array Value} {below : List Frame} {meth : Method} {c : Code} {cells slots : Nat} {Q : State → Prop} (hx : p.tables.exec = Jvm.exec) (hb : c.code = cX1_give) (hml : c.maxLocals = 4) (hts0 : ∀ w ∈ (sd_ws yX1_give cX1_give 4 none), w.before args s = true) (hown : s.vm.findClass RX1 = some m.cls) {dC : Nat → ClassId} {dI : Nat → Nat → Nat} {cL cZ : ClassId} {h1 a1 a2 a3 a4 er n : Nat} {w : Nat → Nat} (A : Nat → Prop) (H0 : Heap) (hA : ∀ q, H0.size ≤ q → A q) (hK : va_K (dC, dI) vwCl [(cL, .long), (cZ, .boolean)] s) (ke : Nat → Int64) (ok : sd_ok n w) (hW : 0 < sd_sum w n) (y u : Nat) (hy : y ≤ 2) (hu : u ≤ 10000) (hR : (sd_rm 0 0 0).frames + 1 ≤ R.frames ∧ 8 + (4 + 11) + (sd_rm 0 0 0).locals ≤ R.locals) (hf : cells + 0 ≤ R.cells ∧ slots + 0 ≤ R.slots)
    (kk : ∀ (H : Heap) (locs : List Loc) (sh : Nat → Int64) (go : Nat → Int32) (ls : Array Slot), va_P (dC, dI) vwCl [(h1, .inr (1, [.int (nI er), .int (nI n), .ref a1, .ref a2, .ref a3, .ref a4])), (a1, .inl (cL, 8, .inr (.inl (fun z => lN (w z))))), (a2, .inl (cL, 8, .inr (.inl sh))), (a3, .inl (cL, 8, .inr (.inl ke))), (a4, .inl (cZ, 8, .inl go))] H → va_D A [(h1, .inr (1, [.int (nI er), .int (nI n), .ref a1, .ref a2, .ref a3, .ref a4])), (a1, .inl (cL, 8, .inr (.inl (fun z => lN (w z))))), (a2, .inl (cL, 8, .inr (.inl sh))), (a3, .inl (cL, 8, .inr (.inl ke))), (a4, .inl (cZ, 8, .inl go))] → va_S A H0 H locs → (∀ j, j < n → sh j = lN (sd_G y w n u j)) → lv_has ls 4 [(0, .ref h1), (1, .int (nI y)), (2, .int (nI u)), (3, .int (nI u))] → W p l e R s m args below meth c H locs cells slots Q (F0 m 51 ls []))
    : ∀ (f k : Nat), k + f = u → ∀ (H : Heap) (locs : List Loc) (sh : Nat → Int64) (go : Nat → Int32) (ls : Array Slot), va_P (dC, dI) vwCl [(h1, .inr (1, [.int (nI er), .int (nI n), .ref a1, .ref a2, .ref a3, .ref a4])), (a1, .inl (cL, 8, .inr (.inl (fun z => lN (w z))))), (a2, .inl (cL, 8, .inr (.inl sh))), (a3, .inl (cL, 8, .inr (.inl ke))), (a4, .inl (cZ, 8, .inl go))] H → va_D A [(h1, .inr (1, [.int (nI er), .int (nI n), .ref a1, .ref a2, .ref a3, .ref a4])), (a1, .inl (cL, 8, .inr (.inl (fun z => lN (w z))))), (a2, .inl (cL, 8, .inr (.inl sh))), (a3, .inl (cL, 8, .inr (.inl ke))), (a4, .inl (cZ, 8, .inl go))] → va_S A H0 H locs → (∀ j, j < n → sh j = lN (sd_G y w n k j)) → lv_has ls 4 [(0, .ref h1), (1, .int (nI y)), (2, .int (nI u)), (3, .int (nI k))] → W p l e R s m args below meth c H locs cells slots Q (F0 m 35 ls []) := by
  have hts : ∀ w ∈ sd_WS, w.before args s = true := fun w h => hts0 w (List.mem_cons_of_mem _ h)
  have hn8 := ok.2.1
  intro f
  induction f using Nat.strongRecOn with
  | ind f ih0 =>
    intro k hi H locs sh go ls hP hD hS hv hl
    have ih : k < u → ∀ (H : Heap) (locs : List Loc) (sh : Nat → Int64) (go : Nat → Int32) (ls : Array Slot), va_P (dC, dI) vwCl [(h1, .inr (1, [.int (nI er), .int (nI n), .ref a1, .ref a2, .ref a3, .ref a4])), (a1, .inl (cL, 8, .inr (.inl (fun z => lN (w z))))), (a2, .inl (cL, 8, .inr (.inl sh))), (a3, .inl (cL, 8, .inr (.inl ke))), (a4, .inl (cZ, 8, .inl go))] H → va_D A [(h1, .inr (1, [.int (nI er), .int (nI n), .ref a1, .ref a2, .ref a3, .ref a4])), (a1, .inl (cL, 8, .inr (.inl (fun z => lN (w z))))), (a2, .inl (cL, 8, .inr (.inl sh))), (a3, .inl (cL, 8, .inr (.inl ke))), (a4, .inl (cZ, 8, .inl go))] → va_S A H0 H locs → (∀ j, j < n → sh j = lN (sd_G y w n (k + 1) j)) → lv_has ls 4 [(0, .ref h1), (1, .int (nI y)), (2, .int (nI u)), (3, .int (nI (k + 1)))] → W p l e R s m args below meth c H locs cells slots Q (F0 m 35 ls []) := fun hlt => ih0 (f - 1) (by omega) (k + 1) (by omega)
    refine lv_iload_n hx hb dX1_give_35 rfl (lv_at hl 3 rfl) ?_
    refine lv_iload_n hx hb dX1_give_36 rfl (lv_at hl 2 rfl) ?_
    refine sd_ic_ge (a := k) (b := u) (tgt := 51) hx hb dX1_give_37 (by decide) (by omega) (by omega) (fun h => ?_) (fun h => ?_)
    · have hin : k = u := by omega
      subst hin
      exact kk H locs sh go ls hP hD hS hv hl
    · have hGl : ∀ j, j < n → sd_G y w n k j ≤ 10001 := fun j hj => by
        have h1 := sd_sum_ge (f := sd_G y w n k) hj
        rw [(sd_inv_G (sd_sum_pos hW) k).1] at h1
        omega
      refine lv_aload_n hx hb dX1_give_40 rfl (lv_at hl 0 rfl) ?_
      refine lv_iload_n hx hb dX1_give_41 rfl (lv_at hl 1 rfl) ?_
      refine sd_wv (va_runV (As := [.int (nI y)]) (rest := []) ⟨hx, hb, hml, hown, hts0⟩ (m_one l dC dI cL cZ h1 a1 a2 a3 a4 er n w sh ke go H.size ok hW y hy (sd_G y w n k) hv hGl) (cwV 1 hts0 (sd_gV k_methodLink_X1_56 k_instanceMethod_X1_one k_sel_X1_one k_init_ShareDeskModel k_code_X1_one) rfl rfl rfl (by decide +kernel) ⟨hR.1, hR.2⟩) (sd_preVw hK hP hD (q0 := 0) (ci := 1) rfl rfl) rfl rfl hl.1 rfl (lv_room (Nat.le_of_ble_eq_true rfl)) dX1_give_42 hf) hD hS hA (fun u_ H locs hpo hP hD hS => ?_)
      obtain ⟨sh, ke1, go⟩ := u_
      try dsimp only at hpo
      have hP : va_P (dC, dI) vwCl [(h1, .inr (1, [.int (nI er), .int (nI n), .ref a1, .ref a2, .ref a3, .ref a4])), (a1, .inl (cL, 8, .inr (.inl (fun z => lN (w z))))), (a2, .inl (cL, 8, .inr (.inl sh))), (a3, .inl (cL, 8, .inr (.inl ke1))), (a4, .inl (cZ, 8, .inl go))] H := hP
      have hD : va_D A [(h1, .inr (1, [.int (nI er), .int (nI n), .ref a1, .ref a2, .ref a3, .ref a4])), (a1, .inl (cL, 8, .inr (.inl (fun z => lN (w z))))), (a2, .inl (cL, 8, .inr (.inl sh))), (a3, .inl (cL, 8, .inr (.inl ke1))), (a4, .inl (cZ, 8, .inl go))] := hD
      obtain ⟨hpo, hke⟩ := hpo
      rw [hke] at hP hD
      have hP : va_P (dC, dI) vwCl [(h1, .inr (1, [.int (nI er), .int (nI n), .ref a1, .ref a2, .ref a3, .ref a4])), (a1, .inl (cL, 8, .inr (.inl (fun z => lN (w z))))), (a2, .inl (cL, 8, .inr (.inl sh))), (a3, .inl (cL, 8, .inr (.inl ke))), (a4, .inl (cZ, 8, .inl go))] H := hP
      have hD : va_D A [(h1, .inr (1, [.int (nI er), .int (nI n), .ref a1, .ref a2, .ref a3, .ref a4])), (a1, .inl (cL, 8, .inr (.inl (fun z => lN (w z))))), (a2, .inl (cL, 8, .inr (.inl sh))), (a3, .inl (cL, 8, .inr (.inl ke))), (a4, .inl (cZ, 8, .inl go))] := hD
      refine lv_iinc (k := 3) (v := nI (k + 1)) hx hb dX1_give_45 hl rfl (nI_add _ 1) (by decide) rfl (fun ls hl => ?_)
      have hl : lv_has ls 4 [(3, .int (nI (k + 1))), (0, .ref h1), (1, .int (nI y)), (2, .int (nI u))] := hl
      refine lv_goto (tgt := 35) hx hb dX1_give_48 (by decide) ?_
      have hl := lv_sub (l' := [(0, .ref h1), (1, .int (nI y)), (2, .int (nI u)), (3, .int (nI (k + 1)))]) hl [1, 2, 3, 0] rfl
      exact ih (by omega) H locs sh go ls hP hD hS hpo hl
set_option maxHeartbeats 4000000 in
set_option maxRecDepth 100000 in
theorem m_give (l : Launch) (dC : Nat → ClassId) (dI : Nat → Nat → Nat) (cL cZ : ClassId) (h1 a1 a2 a3 a4 er n : Nat) (w : Nat → Nat) (sh ke : Nat → Int64) (go : Nat → Int32) (sz : Nat) (ok : sd_ok n w) (hW : 0 < sd_sum w n) (y u : Nat) (hy : y ≤ 2) (hu : u ≤ 10000) : Met l yX1_give (sd_ws yX1_give cX1_give 4 none) (sd_rm 2 0 0) (sd_Pw (dC, dI) vwCl [(cL, .long), (cZ, .boolean)] (sd_M cL cZ h1 a1 a2 a3 a4 er n w sh ke go) sz [.ref h1, .int (nI y), .int (nI u)]) (va_Qv (fun (v_ : sd_S) => (∀ j, j < n → v_.1 j = lN (sd_U y w n u j)) ∧ v_.2.1 = ke) (sd_Bw (dC, dI) vwCl [(cL, .long), (cZ, .boolean)] (sd_M cL cZ h1 a1 a2 a3 a4 er n w sh ke go) sz (fun v_ => (sd_M cL cZ h1 a1 a2 a3 a4 er n w v_.1 v_.2.1 v_.2.2))) (va_A (sd_M cL cZ h1 a1 a2 a3 a4 er n w sh ke go) sz)) 0 0 (va_A (sd_M cL cZ h1 a1 a2 a3 a4 er n w sh ke go) sz) := by
  refine Met.ofW (cc := cX1_give) (maxL := 4) (ret := none) (by decide) rfl ?_
  intro p e s m args below meth c s₁ B hml hv
  obtain ⟨rfl, hsz, hP, hK, hD0⟩ := hv
  subst hsz
  have hx := B.exec
  have hb := B.bytes
  have hr := B.returns
  have hts0 := atoms_spec (ws := (sd_ws yX1_give cX1_give 4 none)) B.pre
  have hts : ∀ w ∈ sd_WS, w.before _ s = true := fun w h => hts0 w (List.mem_cons_of_mem _ h)
  have hown : s.vm.findClass RX1 = some m.cls := findClass_of_methodNamed B.named
  have hlocks := B.notSynchronized
  have hl := lv_entry ([.ref h1, .int (nI y), .int (nI u)]) (n := 4) (Nat.le_of_ble_eq_true rfl)
  rw [lg_entry_eq]
  generalize (lg_sl ([.ref h1, .int (nI y), .int (nI u)]) ++ List.replicate (4 - (lg_sl ([.ref h1, .int (nI y), .int (nI u)])).length) Slot.unset).toArray = ls at hl ⊢
  have hl : lv_has ls 4 [(0, .ref h1), (1, .int (nI y)), (2, .int (nI u))] := hl
  obtain ⟨A, hAe⟩ : ∃ A, A = va_A (sd_M cL cZ h1 a1 a2 a3 a4 er n w sh ke go) s.heap.size := ⟨_, rfl⟩
  have hD : va_D A (sd_M cL cZ h1 a1 a2 a3 a4 er n w sh ke go) := by rw [hAe]; exact hD0.self
  have hA : ∀ q : Nat, s.heap.size ≤ q → A q := fun q h => by rw [hAe]; exact Or.inr h
  have hS : va_S A s.heap s.heap [] := va_S.rf
  have hP : va_P (dC, dI) vwCl [(h1, .inr (1, [.int (nI er), .int (nI n), .ref a1, .ref a2, .ref a3, .ref a4])), (a1, .inl (cL, 8, .inr (.inl (fun z => lN (w z))))), (a2, .inl (cL, 8, .inr (.inl sh))), (a3, .inl (cL, 8, .inr (.inl ke))), (a4, .inl (cZ, 8, .inl go))] s.heap := hP
  have hD : va_D A [(h1, .inr (1, [.int (nI er), .int (nI n), .ref a1, .ref a2, .ref a3, .ref a4])), (a1, .inl (cL, 8, .inr (.inl (fun z => lN (w z))))), (a2, .inl (cL, 8, .inr (.inl sh))), (a3, .inl (cL, 8, .inr (.inl ke))), (a4, .inl (cZ, 8, .inl go))] := hD
  have hn8 := ok.2.1
  refine lv_iload_n hx hb dX1_give_0 rfl (lv_at hl 1 rfl) ?_
  refine sd_iz_ne (a := y) (tgt := 10) hx hb dX1_give_1 (by decide) (by omega) (fun h => ?_) (fun h => ?_)
  · have hy0 := h
    refine lv_iconst (v := (nI 0)) hx hb dX1_give_10 (by decide +kernel) ?_
    refine lv_istore_n hx hb dX1_give_11 rfl hl (by decide) rfl (fun ls hl => ?_)
    have hl : lv_has ls 4 [(3, .int (nI 0)), (0, .ref h1), (1, .int (nI y)), (2, .int (nI u))] := hl
    have hl := lv_sub (l' := [(0, .ref h1), (1, .int (nI y)), (2, .int (nI u)), (3, .int (nI 0))]) hl [1, 2, 3, 0] rfl
    refine lp_give1 hx hb hml hts0 hown A s.heap hA hK ke ok y u (fun H locs sh go ls hP hD hS hv hl => ?_) n 0 (by omega) s.heap [] sh go ls hP hD hS (fun j hj => absurd hj (Nat.not_lt_zero _)) hl
    refine lv_iconst (v := (nI 0)) hx hb dX1_give_33 (by decide +kernel) ?_
    refine lv_istore_n hx hb dX1_give_34 rfl hl (by decide) rfl (fun ls hl => ?_)
    have hl : lv_has ls 4 [(3, .int (nI 0)), (0, .ref h1), (1, .int (nI y)), (2, .int (nI u))] := hl
    have hl := lv_sub (l' := [(0, .ref h1), (1, .int (nI y)), (2, .int (nI u)), (3, .int (nI 0))]) hl [1, 2, 3, 0] rfl
    refine lp_give2 hx hb hml hts0 hown A s.heap hA hK ke ok hW y u hy hu ⟨Nat.le_of_ble_eq_true rfl, Nat.le_of_ble_eq_true rfl⟩ ⟨Nat.zero_le _, Nat.zero_le _⟩ (fun H locs sh go ls hP hD hS hv hl => ?_) u 0 (by omega) H locs sh go ls hP hD hS hv hl
    have hnew : ∀ j, j < n → sh j = lN (sd_U y w n u j) := fun j hj => by rw [hv j hj]; unfold sd_U; rw [if_neg (by omega)]
    exact W.vret hx hb hr (fun t ht hW => ⟨⟨(sh, ke, go), rfl, ⟨hnew, rfl⟩, by rw [ht]; exact hP, va_K.moved hW.alike hK, by rw [← hAe]; exact hD⟩, by rw [← hAe]; exact hS.F ht⟩) (fun q hq => by rw [← hAe]; exact hS.2.2 q hq) dX1_give_51
  · refine lv_aload_n hx hb dX1_give_4 rfl (lv_at hl 0 rfl) ?_
    refine lv_iload_n hx hb dX1_give_5 rfl (lv_at hl 2 rfl) ?_
    refine sd_wv (va_runV (As := [.int (nI u)]) (rest := []) ⟨hx, hb, hml, hown, hts0⟩ (m_parts l dC dI cL cZ h1 a1 a2 a3 a4 er n w sh ke go s.heap.size ok hW u (by omega)) (cwV 1 hts0 (sd_gV k_methodLink_X1_52 k_instanceMethod_X1_parts k_sel_X1_parts k_init_ShareDeskModel k_code_X1_parts) rfl rfl rfl (by decide +kernel) ⟨Nat.le_of_ble_eq_true rfl, Nat.le_of_ble_eq_true rfl⟩) (sd_preVw hK hP hD (q0 := 0) (ci := 1) rfl rfl) rfl rfl hl.1 rfl (lv_room (Nat.le_of_ble_eq_true rfl)) dX1_give_6 ⟨Nat.zero_le _, Nat.zero_le _⟩) hD hS hA (fun u_ H locs hpo hP hD hS => ?_)
    obtain ⟨sh, ke1, go⟩ := u_
    try dsimp only at hpo
    have hP : va_P (dC, dI) vwCl [(h1, .inr (1, [.int (nI er), .int (nI n), .ref a1, .ref a2, .ref a3, .ref a4])), (a1, .inl (cL, 8, .inr (.inl (fun z => lN (w z))))), (a2, .inl (cL, 8, .inr (.inl sh))), (a3, .inl (cL, 8, .inr (.inl ke1))), (a4, .inl (cZ, 8, .inl go))] H := hP
    have hD : va_D A [(h1, .inr (1, [.int (nI er), .int (nI n), .ref a1, .ref a2, .ref a3, .ref a4])), (a1, .inl (cL, 8, .inr (.inl (fun z => lN (w z))))), (a2, .inl (cL, 8, .inr (.inl sh))), (a3, .inl (cL, 8, .inr (.inl ke1))), (a4, .inl (cZ, 8, .inl go))] := hD
    obtain ⟨hpo, hke⟩ := hpo
    rw [hke] at hP hD
    have hP : va_P (dC, dI) vwCl [(h1, .inr (1, [.int (nI er), .int (nI n), .ref a1, .ref a2, .ref a3, .ref a4])), (a1, .inl (cL, 8, .inr (.inl (fun z => lN (w z))))), (a2, .inl (cL, 8, .inr (.inl sh))), (a3, .inl (cL, 8, .inr (.inl ke))), (a4, .inl (cZ, 8, .inl go))] H := hP
    have hD : va_D A [(h1, .inr (1, [.int (nI er), .int (nI n), .ref a1, .ref a2, .ref a3, .ref a4])), (a1, .inl (cL, 8, .inr (.inl (fun z => lN (w z))))), (a2, .inl (cL, 8, .inr (.inl sh))), (a3, .inl (cL, 8, .inr (.inl ke))), (a4, .inl (cZ, 8, .inl go))] := hD
    have hnew : ∀ j, j < n → sh j = lN (sd_U y w n u j) := fun j hj => by rw [hpo j hj]; unfold sd_U; rw [if_pos h]
    exact W.vret hx hb hr (fun t ht hW => ⟨⟨(sh, ke, go), rfl, ⟨hnew, rfl⟩, by rw [ht]; exact hP, va_K.moved hW.alike hK, by rw [← hAe]; exact hD⟩, by rw [← hAe]; exact hS.F ht⟩) (fun q hq => by rw [← hAe]; exact hS.2.2 q hq) dX1_give_9
