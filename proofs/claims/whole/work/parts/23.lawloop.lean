/-! A call of the script, whatever its arguments are; then the law's loop. -/
theorem sd_ltle {x : Int32} {n : Nat} (hn1 : 1 ≤ n) (hn : n < 2 ^ 31) (h : x < nI 0 ∨ nI (n - 1) < x) : x < 0 ∨ nI n ≤ x := by
  rcases h with h | h
  · left; rw [nI_0] at h; exact h
  · right
    rw [Int32.lt_iff_toInt_lt, nI_toInt (by omega)] at h
    rw [Int32.le_iff_toInt_le, nI_toInt hn]
    omega
theorem sd_lt0 {x : Int32} {b : Nat} (h : x < nI 0 ∨ nI b < x) : x < 0 ∨ nI b < x := by rw [nI_0] at h; exact h
theorem sd_rg_noI {x : Int32} (h : sd_rg x 0 2 = false) : x.toInt < 0 ∨ 2 < x.toInt := by
  rw [sd_rgI (by decide) (by decide), Bool.and_eq_false_iff, decide_eq_false_iff_not, decide_eq_false_iff_not] at h
  rcases h with h | h
  · left; omega
  · right; omega
set_option maxHeartbeats 4000000 in
set_option maxRecDepth 100000 in
theorem step_share {p : Program} {l : Launch} {e : Env} {s : State} {m : MethodId} {below : List Frame} {meth : Method} {c : Code} {Q : State → Prop} {b L : Nat} {xs : Nat → Int32} {dC : Nat → ClassId} {dI : Nat → Nat → Nat} {cA : ClassId} {h0 a0 : Nat} {cL cZ : ClassId} {h1 a1 a2 a3 a4 : Nat} {cO : ClassId} {q0 : Nat} {A : Nat → Prop} (hl9 : l.stackTraces = false) (hx : p.tables.exec = Jvm.exec) (hb : c.code = cL_law) (hml : c.maxLocals = 8) (hts0 : ∀ w ∈ (Cond.initialized RX0 :: sd_WS), w.before #[Value.ref b] s = true) (hown : s.vm.findClass RL = some m.cls) (hX : va_X b L xs s s.heap) (hbl : b < s.heap.size) (hbA : ¬ A b) (hA : ∀ q, s.heap.size ≤ q → A q) (hTH : sd_TH A s s.heap) (hK : va_K (dC, dI) vwCl [(cA, .int), (cL, .long), (cZ, .boolean), (cO, .long)] s) (hL : L ≤ 2048) (i : Nat) (hi : i + 4 ≤ L) (n : Nat) (w : Nat → Nat) (er : Nat) (sh ke : Nat → Int64) (go : Nat → Int32) (ou : Nat → Int64) (ok : sd_ok n w)
    {H : Heap} {locs : List Loc} {ls : Array Slot} {cells slots : Nat} (hcl : cells + 1 ≤ 1040) (hsl : slots + 6 ≤ 8290) (hP : va_P (dC, dI) vwCl (sd_LW cA h0 a0 cL cZ h1 a1 a2 a3 a4 cO q0 n w er sh ke go ou) H) (hD : va_D A (sd_LW cA h0 a0 cL cZ h1 a1 a2 a3 a4 cO q0 n w er sh ke go ou)) (hS : va_S A s.heap H locs) (hl : lv_has ls 8 [(0, .ref b), (1, .ref h0), (2, .ref h1), (3, .ref q0), (4, .int (nI i))])
    (kk : ∀ (n2 : Nat) (w2 : Nat → Nat) (er2 : Nat) (ou2 : Nat → Int64), sd_ok n2 w2 → ∀ (H : Heap) (locs : List Loc) (ls : Array Slot) (sh ke : Nat → Int64) (go : Nat → Int32), va_P (dC, dI) vwCl (sd_LW cA h0 a0 cL cZ h1 a1 a2 a3 a4 cO q0 n2 w2 er2 sh ke go ou2) H → va_D A (sd_LW cA h0 a0 cL cZ h1 a1 a2 a3 a4 cO q0 n2 w2 er2 sh ke go ou2) → va_S A s.heap H locs → lv_has ls 8 [(0, .ref b), (1, .ref h0), (2, .ref h1), (3, .ref q0), (4, .int (nI i))] → W p l e room_1 s m #[Value.ref b] below meth c H locs (cells + 1) (slots + 6) Q (F0 m 547 ls [])) : W p l e room_1 s m #[Value.ref b] below meth c H locs cells slots Q (F0 m 184 ls []) := by
  have hn1 := ok.1
  have hn8 := ok.2.1
  cases hc1 : sd_rg (xs (i + 1)) 0 2 with
  | false =>
    have hb1 := sd_lt0 (sd_rg_no (by omega) (by omega) hc1)
    exact law_share hx hb hml hts0 hown hX hbl hbA hA hTH hK hL i hi n w er sh ke go ou 1 n w ou (nI 0) (by omega) (fun z => absurd z (by omega)) (fun sz => by exact w_share1 l hl9 dC dI cA h0 a0 n w cO q0 ou sz _ _ _ hb1) (fun sz => m_share_bad l dC dI cL cZ h1 a1 a2 a3 a4 er n w sh ke go sz hn1 hn8 (xs (i + 1)) (xs (i + 2)) (xs (i + 3)) (Or.inl hc1)) hcl hsl hP hD hS hl (fun H locs ls sh ke go hP hD hS hl => kk n w 1 ou ok H locs ls sh ke go hP hD hS hl)
  | true =>
    obtain ⟨y, -, hy, e1⟩ := sd_rg_yes (by omega) (by omega) hc1
    cases hc2 : sd_rg (xs (i + 2)) 0 10000 with
    | false =>
      have hb1 := sd_lt0 (sd_rg_no (by omega) (by omega) hc2)
      exact law_share hx hb hml hts0 hown hX hbl hbA hA hTH hK hL i hi n w er sh ke go ou 1 n w ou (nI 0) (by omega) (fun z => absurd z (by omega)) (fun sz => by rw [e1]; exact w_share2 l hl9 dC dI cA h0 a0 n w cO q0 ou sz y hy _ _ hb1) (fun sz => m_share_bad l dC dI cL cZ h1 a1 a2 a3 a4 er n w sh ke go sz hn1 hn8 (xs (i + 1)) (xs (i + 2)) (xs (i + 3)) (Or.inr (Or.inl hc2))) hcl hsl hP hD hS hl (fun H locs ls sh ke go hP hD hS hl => kk n w 1 ou ok H locs ls sh ke go hP hD hS hl)
    | true =>
      obtain ⟨u, -, hu, e2⟩ := sd_rg_yes (by omega) (by omega) hc2
      cases hc3 : sd_rg (xs (i + 3)) 0 (n - 1) with
      | false =>
        have hb1 := sd_ltle hn1 (by omega) (sd_rg_no (by omega) (by omega) hc3)
        exact law_share hx hb hml hts0 hown hX hbl hbA hA hTH hK hL i hi n w er sh ke go ou 1 n w ou (nI 0) (by omega) (fun z => absurd z (by omega)) (fun sz => by rw [e1, e2]; exact w_share3 l hl9 dC dI cA h0 a0 n w cO q0 ou sz y u hy hu _ hb1) (fun sz => m_share_bad l dC dI cL cZ h1 a1 a2 a3 a4 er n w sh ke go sz hn1 hn8 (xs (i + 1)) (xs (i + 2)) (xs (i + 3)) (Or.inr (Or.inr hc3))) hcl hsl hP hD hS hl (fun H locs ls sh ke go hP hD hS hl => kk n w 1 ou ok H locs ls sh ke go hP hD hS hl)
      | true =>
        obtain ⟨q, -, hq, e3⟩ := sd_rg_yes (by omega) (by omega) hc3
        have hq : q < n := by omega
        by_cases hz : sd_sum w n = 0
        · exact law_share hx hb hml hts0 hown hX hbl hbA hA hTH hK hL i hi n w er sh ke go ou 2 n w ou (nI 0) (by omega) (fun z => absurd z (by omega)) (fun sz => by rw [e1, e2, e3]; exact w_share4 l hl9 dC dI cA h0 a0 n w cO q0 ou sz ok y u q hy hu hq hz) (fun sz => by rw [e1, e2, e3]; exact m_share_zero l dC dI cL cZ h1 a1 a2 a3 a4 er n w sh ke go sz hn1 hn8 y u q hy hu hq hz) hcl hsl hP hD hS hl (fun H locs ls sh ke go hP hD hS hl => kk n w 2 ou ok H locs ls sh ke go hP hD hS hl)
        · have hW : 0 < sd_sum w n := Nat.pos_of_ne_zero hz
          exact law_share hx hb hml hts0 hown hX hbl hbA hA hTH hK hL i hi n w er sh ke go ou 0 n w (vp_updL ou 0 ((nI (sd_U y w n u q)).toInt64)) (nI (sd_U y w n u q)) (by omega) (fun _ => pk_uLs) (fun sz => by rw [e1, e2, e3]; exact w_share l hl9 dC dI cA h0 a0 n w cO q0 ou sz ok hW y u q hy hu hq) (fun sz => by rw [e1, e2, e3]; exact m_share l dC dI cL cZ h1 a1 a2 a3 a4 er n w sh ke go sz ok hW y u q hy hu hq) hcl hsl hP hD hS hl (fun H locs ls sh ke go hP hD hS hl => kk n w 0 (vp_updL ou 0 ((nI (sd_U y w n u q)).toInt64)) ok H locs ls sh ke go hP hD hS hl)
set_option maxHeartbeats 4000000 in
set_option maxRecDepth 100000 in
theorem step_over {p : Program} {l : Launch} {e : Env} {s : State} {m : MethodId} {below : List Frame} {meth : Method} {c : Code} {Q : State → Prop} {b L : Nat} {xs : Nat → Int32} {dC : Nat → ClassId} {dI : Nat → Nat → Nat} {cA : ClassId} {h0 a0 : Nat} {cL cZ : ClassId} {h1 a1 a2 a3 a4 : Nat} {cO : ClassId} {q0 : Nat} {A : Nat → Prop} (hl9 : l.stackTraces = false) (hx : p.tables.exec = Jvm.exec) (hb : c.code = cL_law) (hml : c.maxLocals = 8) (hts0 : ∀ w ∈ (Cond.initialized RX0 :: sd_WS), w.before #[Value.ref b] s = true) (hown : s.vm.findClass RL = some m.cls) (hX : va_X b L xs s s.heap) (hbl : b < s.heap.size) (hbA : ¬ A b) (hA : ∀ q, s.heap.size ≤ q → A q) (hTH : sd_TH A s s.heap) (hK : va_K (dC, dI) vwCl [(cA, .int), (cL, .long), (cZ, .boolean), (cO, .long)] s) (hL : L ≤ 2048) (i : Nat) (hi : i + 4 ≤ L) (n : Nat) (w : Nat → Nat) (er : Nat) (sh ke : Nat → Int64) (go : Nat → Int32) (ou : Nat → Int64) (ok : sd_ok n w)
    {H : Heap} {locs : List Loc} {ls : Array Slot} {cells slots : Nat} (hcl : cells + 1 ≤ 1040) (hsl : slots + 6 ≤ 8290) (hP : va_P (dC, dI) vwCl (sd_LW cA h0 a0 cL cZ h1 a1 a2 a3 a4 cO q0 n w er sh ke go ou) H) (hD : va_D A (sd_LW cA h0 a0 cL cZ h1 a1 a2 a3 a4 cO q0 n w er sh ke go ou)) (hS : va_S A s.heap H locs) (hl : lv_has ls 8 [(0, .ref b), (1, .ref h0), (2, .ref h1), (3, .ref q0), (4, .int (nI i))])
    (kk : ∀ (n2 : Nat) (w2 : Nat → Nat) (er2 : Nat) (ou2 : Nat → Int64), sd_ok n2 w2 → ∀ (H : Heap) (locs : List Loc) (ls : Array Slot) (sh ke : Nat → Int64) (go : Nat → Int32), va_P (dC, dI) vwCl (sd_LW cA h0 a0 cL cZ h1 a1 a2 a3 a4 cO q0 n2 w2 er2 sh ke go ou2) H → va_D A (sd_LW cA h0 a0 cL cZ h1 a1 a2 a3 a4 cO q0 n2 w2 er2 sh ke go ou2) → va_S A s.heap H locs → lv_has ls 8 [(0, .ref b), (1, .ref h0), (2, .ref h1), (3, .ref q0), (4, .int (nI i))] → W p l e room_1 s m #[Value.ref b] below meth c H locs (cells + 1) (slots + 6) Q (F0 m 547 ls [])) : W p l e room_1 s m #[Value.ref b] below meth c H locs cells slots Q (F0 m 264 ls []) := by
  have hn1 := ok.1
  have hn8 := ok.2.1
  cases hc1 : sd_rg (xs (i + 1)) 0 2 with
  | false =>
    have hb1 := sd_lt0 (sd_rg_no (by omega) (by omega) hc1)
    exact law_over hx hb hml hts0 hown hX hbl hbA hA hTH hK hL i hi n w er sh ke go ou 1 n w ou (lN 0) (by omega) (fun z => absurd z (by omega)) (fun sz => by exact w_over1 l hl9 dC dI cA h0 a0 n w cO q0 ou sz _ _ _ hb1) (fun sz => m_over_bad l dC dI cL cZ h1 a1 a2 a3 a4 er n w sh ke go sz hn1 hn8 (xs (i + 1)) (xs (i + 2)) (xs (i + 3)) (Or.inl hc1)) hcl hsl hP hD hS hl (fun H locs ls sh ke go hP hD hS hl => kk n w 1 ou ok H locs ls sh ke go hP hD hS hl)
  | true =>
    obtain ⟨y, -, hy, e1⟩ := sd_rg_yes (by omega) (by omega) hc1
    cases hc2 : sd_rg (xs (i + 2)) 0 10000 with
    | false =>
      have hb1 := sd_lt0 (sd_rg_no (by omega) (by omega) hc2)
      exact law_over hx hb hml hts0 hown hX hbl hbA hA hTH hK hL i hi n w er sh ke go ou 1 n w ou (lN 0) (by omega) (fun z => absurd z (by omega)) (fun sz => by rw [e1]; exact w_over2 l hl9 dC dI cA h0 a0 n w cO q0 ou sz y hy _ _ hb1) (fun sz => m_over_bad l dC dI cL cZ h1 a1 a2 a3 a4 er n w sh ke go sz hn1 hn8 (xs (i + 1)) (xs (i + 2)) (xs (i + 3)) (Or.inr (Or.inl hc2))) hcl hsl hP hD hS hl (fun H locs ls sh ke go hP hD hS hl => kk n w 1 ou ok H locs ls sh ke go hP hD hS hl)
    | true =>
      obtain ⟨u, -, hu, e2⟩ := sd_rg_yes (by omega) (by omega) hc2
      cases hc3 : sd_rg (xs (i + 3)) 0 (n - 1) with
      | false =>
        have hb1 := sd_ltle hn1 (by omega) (sd_rg_no (by omega) (by omega) hc3)
        exact law_over hx hb hml hts0 hown hX hbl hbA hA hTH hK hL i hi n w er sh ke go ou 1 n w ou (lN 0) (by omega) (fun z => absurd z (by omega)) (fun sz => by rw [e1, e2]; exact w_over3 l hl9 dC dI cA h0 a0 n w cO q0 ou sz y u hy hu _ hb1) (fun sz => m_over_bad l dC dI cL cZ h1 a1 a2 a3 a4 er n w sh ke go sz hn1 hn8 (xs (i + 1)) (xs (i + 2)) (xs (i + 3)) (Or.inr (Or.inr hc3))) hcl hsl hP hD hS hl (fun H locs ls sh ke go hP hD hS hl => kk n w 1 ou ok H locs ls sh ke go hP hD hS hl)
      | true =>
        obtain ⟨q, -, hq, e3⟩ := sd_rg_yes (by omega) (by omega) hc3
        have hq : q < n := by omega
        by_cases hz : sd_sum w n = 0
        · exact law_over hx hb hml hts0 hown hX hbl hbA hA hTH hK hL i hi n w er sh ke go ou 2 n w ou (lN 0) (by omega) (fun z => absurd z (by omega)) (fun sz => by rw [e1, e2, e3]; exact w_over4 l hl9 dC dI cA h0 a0 n w cO q0 ou sz ok y u q hy hu hq hz) (fun sz => by rw [e1, e2, e3]; exact m_over_zero l dC dI cL cZ h1 a1 a2 a3 a4 er n w sh ke go sz hn1 hn8 y u q hy hu hq hz) hcl hsl hP hD hS hl (fun H locs ls sh ke go hP hD hS hl => kk n w 2 ou ok H locs ls sh ke go hP hD hS hl)
        · have hW : 0 < sd_sum w n := Nat.pos_of_ne_zero hz
          exact law_over hx hb hml hts0 hown hX hbl hbA hA hTH hK hL i hi n w er sh ke go ou 0 n w (vp_updL ou 0 (lN (sd_U y w n u q * sd_sum w n) - lN (u * w q))) (lN (sd_U y w n u q * sd_sum w n) - lN (u * w q)) (by omega) (fun _ => pk_uLs) (fun sz => by rw [e1, e2, e3]; exact w_over l hl9 dC dI cA h0 a0 n w cO q0 ou sz ok hW y u q hy hu hq) (fun sz => by rw [e1, e2, e3]; exact m_over l dC dI cL cZ h1 a1 a2 a3 a4 er n w sh ke go sz ok hW y u q hy hu hq) hcl hsl hP hD hS hl (fun H locs ls sh ke go hP hD hS hl => kk n w 0 (vp_updL ou 0 (lN (sd_U y w n u q * sd_sum w n) - lN (u * w q))) ok H locs ls sh ke go hP hD hS hl)
set_option maxHeartbeats 4000000 in
set_option maxRecDepth 100000 in
theorem step_next {p : Program} {l : Launch} {e : Env} {s : State} {m : MethodId} {below : List Frame} {meth : Method} {c : Code} {Q : State → Prop} {b L : Nat} {xs : Nat → Int32} {dC : Nat → ClassId} {dI : Nat → Nat → Nat} {cA : ClassId} {h0 a0 : Nat} {cL cZ : ClassId} {h1 a1 a2 a3 a4 : Nat} {cO : ClassId} {q0 : Nat} {A : Nat → Prop} (hl9 : l.stackTraces = false) (hx : p.tables.exec = Jvm.exec) (hb : c.code = cL_law) (hml : c.maxLocals = 8) (hts0 : ∀ w ∈ (Cond.initialized RX0 :: sd_WS), w.before #[Value.ref b] s = true) (hown : s.vm.findClass RL = some m.cls) (hX : va_X b L xs s s.heap) (hbl : b < s.heap.size) (hbA : ¬ A b) (hA : ∀ q, s.heap.size ≤ q → A q) (hTH : sd_TH A s s.heap) (hK : va_K (dC, dI) vwCl [(cA, .int), (cL, .long), (cZ, .boolean), (cO, .long)] s) (hL : L ≤ 2048) (i : Nat) (hi : i + 4 ≤ L) (n : Nat) (w : Nat → Nat) (er : Nat) (sh ke : Nat → Int64) (go : Nat → Int32) (ou : Nat → Int64) (ok : sd_ok n w)
    {H : Heap} {locs : List Loc} {ls : Array Slot} {cells slots : Nat} (hcl : cells + 1 ≤ 1040) (hsl : slots + 6 ≤ 8290) (hP : va_P (dC, dI) vwCl (sd_LW cA h0 a0 cL cZ h1 a1 a2 a3 a4 cO q0 n w er sh ke go ou) H) (hD : va_D A (sd_LW cA h0 a0 cL cZ h1 a1 a2 a3 a4 cO q0 n w er sh ke go ou)) (hS : va_S A s.heap H locs) (hl : lv_has ls 8 [(0, .ref b), (1, .ref h0), (2, .ref h1), (3, .ref q0), (4, .int (nI i))])
    (kk : ∀ (n2 : Nat) (w2 : Nat → Nat) (er2 : Nat) (ou2 : Nat → Int64), sd_ok n2 w2 → ∀ (H : Heap) (locs : List Loc) (ls : Array Slot) (sh ke : Nat → Int64) (go : Nat → Int32), va_P (dC, dI) vwCl (sd_LW cA h0 a0 cL cZ h1 a1 a2 a3 a4 cO q0 n2 w2 er2 sh ke go ou2) H → va_D A (sd_LW cA h0 a0 cL cZ h1 a1 a2 a3 a4 cO q0 n2 w2 er2 sh ke go ou2) → va_S A s.heap H locs → lv_has ls 8 [(0, .ref b), (1, .ref h0), (2, .ref h1), (3, .ref q0), (4, .int (nI i))] → W p l e room_1 s m #[Value.ref b] below meth c H locs (cells + 1) (slots + 6) Q (F0 m 547 ls [])) : W p l e room_1 s m #[Value.ref b] below meth c H locs cells slots Q (F0 m 343 ls []) := by
  have hn1 := ok.1
  have hn8 := ok.2.1
  cases hc1 : sd_rg (xs (i + 1)) 0 2 with
  | false =>
    have hb1 := sd_lt0 (sd_rg_no (by omega) (by omega) hc1)
    exact law_next hx hb hml hts0 hown hX hbl hbA hA hTH hK hL i hi n w er sh ke go ou 1 n w ou (nI 0) (by omega) (fun z => absurd z (by omega)) (fun sz => by exact w_next1 l hl9 dC dI cA h0 a0 n w cO q0 ou sz _ _ hb1) (fun sz => m_next_bad l dC dI cL cZ h1 a1 a2 a3 a4 er n w sh ke go sz hn1 hn8 (xs (i + 1)) (xs (i + 2)) (Or.inl hc1)) hcl hsl hP hD hS hl (fun H locs ls sh ke go hP hD hS hl => kk n w 1 ou ok H locs ls sh ke go hP hD hS hl)
  | true =>
    obtain ⟨y, -, hy, e1⟩ := sd_rg_yes (by omega) (by omega) hc1
    cases hc2 : sd_rg (xs (i + 2)) 0 9999 with
    | false =>
      have hb1 := sd_lt0 (sd_rg_no (by omega) (by omega) hc2)
      exact law_next hx hb hml hts0 hown hX hbl hbA hA hTH hK hL i hi n w er sh ke go ou 1 n w ou (nI 0) (by omega) (fun z => absurd z (by omega)) (fun sz => by rw [e1]; exact w_next2 l hl9 dC dI cA h0 a0 n w cO q0 ou sz y hy _ hb1) (fun sz => m_next_bad l dC dI cL cZ h1 a1 a2 a3 a4 er n w sh ke go sz hn1 hn8 (xs (i + 1)) (xs (i + 2)) (Or.inr hc2)) hcl hsl hP hD hS hl (fun H locs ls sh ke go hP hD hS hl => kk n w 1 ou ok H locs ls sh ke go hP hD hS hl)
    | true =>
      obtain ⟨u, -, hu, e2⟩ := sd_rg_yes (by omega) (by omega) hc2
      by_cases hz : sd_sum w n = 0
      · exact law_next hx hb hml hts0 hown hX hbl hbA hA hTH hK hL i hi n w er sh ke go ou 2 n w ou (nI 0) (by omega) (fun z => absurd z (by omega)) (fun sz => by rw [e1, e2]; exact w_next4 l hl9 dC dI cA h0 a0 n w cO q0 ou sz y u hy hu hz) (fun sz => by rw [e1, e2]; exact m_next_zero l dC dI cL cZ h1 a1 a2 a3 a4 er n w sh ke go sz hn1 hn8 y u hy hu hz) hcl hsl hP hD hS hl (fun H locs ls sh ke go hP hD hS hl => kk n w 2 ou ok H locs ls sh ke go hP hD hS hl)
      · have hW : 0 < sd_sum w n := Nat.pos_of_ne_zero hz
        exact law_next hx hb hml hts0 hown hX hbl hbA hA hTH hK hL i hi n w er sh ke go ou 0 n w (vp_updL ou 0 ((sd_oi (sd_na (sd_nc (sd_U y w n u) (sd_U y w n (u + 1)) n))).toInt64)) (sd_oi (sd_na (sd_nc (sd_U y w n u) (sd_U y w n (u + 1)) n))) (by omega) (fun _ => pk_uLs) (fun sz => by rw [e1, e2]; exact w_next l hl9 dC dI cA h0 a0 n w cO q0 ou sz ok hW y u hy hu) (fun sz => by rw [e1, e2]; exact m_next l dC dI cL cZ h1 a1 a2 a3 a4 er n w sh ke go sz ok hW y u hy hu) hcl hsl hP hD hS hl (fun H locs ls sh ke go hP hD hS hl => kk n w 0 (vp_updL ou 0 ((sd_oi (sd_na (sd_nc (sd_U y w n u) (sd_U y w n (u + 1)) n))).toInt64)) ok H locs ls sh ke go hP hD hS hl)
set_option maxHeartbeats 4000000 in
set_option maxRecDepth 100000 in
theorem step_least {p : Program} {l : Launch} {e : Env} {s : State} {m : MethodId} {below : List Frame} {meth : Method} {c : Code} {Q : State → Prop} {b L : Nat} {xs : Nat → Int32} {dC : Nat → ClassId} {dI : Nat → Nat → Nat} {cA : ClassId} {h0 a0 : Nat} {cL cZ : ClassId} {h1 a1 a2 a3 a4 : Nat} {cO : ClassId} {q0 : Nat} {A : Nat → Prop} (hl9 : l.stackTraces = false) (hx : p.tables.exec = Jvm.exec) (hb : c.code = cL_law) (hml : c.maxLocals = 8) (hts0 : ∀ w ∈ (Cond.initialized RX0 :: sd_WS), w.before #[Value.ref b] s = true) (hown : s.vm.findClass RL = some m.cls) (hX : va_X b L xs s s.heap) (hbl : b < s.heap.size) (hbA : ¬ A b) (hA : ∀ q, s.heap.size ≤ q → A q) (hTH : sd_TH A s s.heap) (hK : va_K (dC, dI) vwCl [(cA, .int), (cL, .long), (cZ, .boolean), (cO, .long)] s) (hL : L ≤ 2048) (i : Nat) (hi : i + 4 ≤ L) (n : Nat) (w : Nat → Nat) (er : Nat) (sh ke : Nat → Int64) (go : Nat → Int32) (ou : Nat → Int64) (ok : sd_ok n w)
    {H : Heap} {locs : List Loc} {ls : Array Slot} {cells slots : Nat} (hcl : cells + 1 ≤ 1040) (hsl : slots + 6 ≤ 8290) (hP : va_P (dC, dI) vwCl (sd_LW cA h0 a0 cL cZ h1 a1 a2 a3 a4 cO q0 n w er sh ke go ou) H) (hD : va_D A (sd_LW cA h0 a0 cL cZ h1 a1 a2 a3 a4 cO q0 n w er sh ke go ou)) (hS : va_S A s.heap H locs) (hl : lv_has ls 8 [(0, .ref b), (1, .ref h0), (2, .ref h1), (3, .ref q0), (4, .int (nI i))])
    (kk : ∀ (n2 : Nat) (w2 : Nat → Nat) (er2 : Nat) (ou2 : Nat → Int64), sd_ok n2 w2 → ∀ (H : Heap) (locs : List Loc) (ls : Array Slot) (sh ke : Nat → Int64) (go : Nat → Int32), va_P (dC, dI) vwCl (sd_LW cA h0 a0 cL cZ h1 a1 a2 a3 a4 cO q0 n2 w2 er2 sh ke go ou2) H → va_D A (sd_LW cA h0 a0 cL cZ h1 a1 a2 a3 a4 cO q0 n2 w2 er2 sh ke go ou2) → va_S A s.heap H locs → lv_has ls 8 [(0, .ref b), (1, .ref h0), (2, .ref h1), (3, .ref q0), (4, .int (nI i))] → W p l e room_1 s m #[Value.ref b] below meth c H locs (cells + 1) (slots + 6) Q (F0 m 547 ls [])) : W p l e room_1 s m #[Value.ref b] below meth c H locs cells slots Q (F0 m 411 ls []) := by
  have hn1 := ok.1
  have hn8 := ok.2.1
  cases hc1 : sd_rg (xs (i + 1)) 0 2 with
  | false =>
    have hb1 := sd_lt0 (sd_rg_no (by omega) (by omega) hc1)
    exact law_least hx hb hml hts0 hown hX hbl hbA hA hTH hK hL i hi n w er sh ke go ou 1 n w ou (nI 0) (by omega) (fun z => absurd z (by omega)) (fun sz => by exact w_least1 l hl9 dC dI cA h0 a0 n w cO q0 ou sz _ _ _ hb1) (fun sz => m_least_bad l dC dI cL cZ h1 a1 a2 a3 a4 er n w sh ke go sz hn1 hn8 (xs (i + 1)) (xs (i + 2)) (xs (i + 3)) (Or.inl hc1)) hcl hsl hP hD hS hl (fun H locs ls sh ke go hP hD hS hl => kk n w 1 ou ok H locs ls sh ke go hP hD hS hl)
  | true =>
    obtain ⟨y, -, hy, e1⟩ := sd_rg_yes (by omega) (by omega) hc1
    cases hc3 : sd_rg (xs (i + 3)) 0 (n - 1) with
    | false =>
      have hb1 := sd_ltle hn1 (by omega) (sd_rg_no (by omega) (by omega) hc3)
      exact law_least hx hb hml hts0 hown hX hbl hbA hA hTH hK hL i hi n w er sh ke go ou 1 n w ou (nI 0) (by omega) (fun z => absurd z (by omega)) (fun sz => by rw [e1]; exact w_least2 l hl9 dC dI cA h0 a0 n w cO q0 ou sz y hy _ _ hb1) (fun sz => m_least_bad l dC dI cL cZ h1 a1 a2 a3 a4 er n w sh ke go sz hn1 hn8 (xs (i + 1)) (xs (i + 2)) (xs (i + 3)) (Or.inr (Or.inr hc3))) hcl hsl hP hD hS hl (fun H locs ls sh ke go hP hD hS hl => kk n w 1 ou ok H locs ls sh ke go hP hD hS hl)
    | true =>
      obtain ⟨q, -, hq, e3⟩ := sd_rg_yes (by omega) (by omega) hc3
      have hq : q < n := by omega
      by_cases hneg : (xs (i + 2)) < 0
      · exact law_least hx hb hml hts0 hown hX hbl hbA hA hTH hK hL i hi n w er sh ke go ou 1 n w ou (nI 0) (by omega) (fun z => absurd z (by omega)) (fun sz => by rw [e1, e3]; exact w_least3 l hl9 dC dI cA h0 a0 n w cO q0 ou sz ok y q hy hq _ hneg) (fun sz => m_least_bad l dC dI cL cZ h1 a1 a2 a3 a4 er n w sh ke go sz hn1 hn8 (xs (i + 1)) (xs (i + 2)) (xs (i + 3)) (Or.inr (Or.inl hneg))) hcl hsl hP hD hS hl (fun H locs ls sh ke go hP hD hS hl => kk n w 1 ou ok H locs ls sh ke go hP hD hS hl)
      · obtain ⟨k, hk, e2⟩ := nI_of hneg
        by_cases hz : sd_sum w n = 0
        · exact law_least hx hb hml hts0 hown hX hbl hbA hA hTH hK hL i hi n w er sh ke go ou 2 n w ou (nI 0) (by omega) (fun z => absurd z (by omega)) (fun sz => by rw [e1, e2, e3]; exact w_least4 l hl9 dC dI cA h0 a0 n w cO q0 ou sz ok y k q hy hk hq hz) (fun sz => by rw [e1, e2, e3]; exact m_least_zero l dC dI cL cZ h1 a1 a2 a3 a4 er n w sh ke go sz hn1 hn8 y k q hy hk hq hz) hcl hsl hP hD hS hl (fun H locs ls sh ke go hP hD hS hl => kk n w 2 ou ok H locs ls sh ke go hP hD hS hl)
        · have hW : 0 < sd_sum w n := Nat.pos_of_ne_zero hz
          exact law_least hx hb hml hts0 hown hX hbl hbA hA hTH hK hL i hi n w er sh ke go ou 0 n w (vp_updL ou 0 ((sd_oi (sd_lst (fun j => decide (k ≤ sd_U y w n j q)) 10001)).toInt64)) (sd_oi (sd_lst (fun j => decide (k ≤ sd_U y w n j q)) 10001)) (by omega) (fun _ => pk_uLs) (fun sz => by rw [e1, e2, e3]; exact w_least l hl9 dC dI cA h0 a0 n w cO q0 ou sz ok hW y k q hy hk hq) (fun sz => by rw [e1, e2, e3]; exact m_least l dC dI cL cZ h1 a1 a2 a3 a4 er n w sh ke go sz ok hW y k q hy hk hq) hcl hsl hP hD hS hl (fun H locs ls sh ke go hP hD hS hl => kk n w 0 (vp_updL ou 0 ((sd_oi (sd_lst (fun j => decide (k ≤ sd_U y w n j q)) 10001)).toInt64)) ok H locs ls sh ke go hP hD hS hl)
set_option maxHeartbeats 4000000 in
set_option maxRecDepth 100000 in
theorem step_count {p : Program} {l : Launch} {e : Env} {s : State} {m : MethodId} {below : List Frame} {meth : Method} {c : Code} {Q : State → Prop} {b L : Nat} {xs : Nat → Int32} {dC : Nat → ClassId} {dI : Nat → Nat → Nat} {cA : ClassId} {h0 a0 : Nat} {cL cZ : ClassId} {h1 a1 a2 a3 a4 : Nat} {cO : ClassId} {q0 : Nat} {A : Nat → Prop} (hl9 : l.stackTraces = false) (hx : p.tables.exec = Jvm.exec) (hb : c.code = cL_law) (hml : c.maxLocals = 8) (hts0 : ∀ w ∈ (Cond.initialized RX0 :: sd_WS), w.before #[Value.ref b] s = true) (hown : s.vm.findClass RL = some m.cls) (hX : va_X b L xs s s.heap) (hbl : b < s.heap.size) (hbA : ¬ A b) (hA : ∀ q, s.heap.size ≤ q → A q) (hTH : sd_TH A s s.heap) (hK : va_K (dC, dI) vwCl [(cA, .int), (cL, .long), (cZ, .boolean), (cO, .long)] s) (hL : L ≤ 2048) (i : Nat) (hi : i + 4 ≤ L) (n : Nat) (w : Nat → Nat) (er : Nat) (sh ke : Nat → Int64) (go : Nat → Int32) (ou : Nat → Int64) (ok : sd_ok n w)
    {H : Heap} {locs : List Loc} {ls : Array Slot} {cells slots : Nat} (hcl : cells + 1 ≤ 1040) (hsl : slots + 6 ≤ 8290) (hP : va_P (dC, dI) vwCl (sd_LW cA h0 a0 cL cZ h1 a1 a2 a3 a4 cO q0 n w er sh ke go ou) H) (hD : va_D A (sd_LW cA h0 a0 cL cZ h1 a1 a2 a3 a4 cO q0 n w er sh ke go ou)) (hS : va_S A s.heap H locs) (hl : lv_has ls 8 [(0, .ref b), (1, .ref h0), (2, .ref h1), (3, .ref q0), (4, .int (nI i))])
    (kk : ∀ (n2 : Nat) (w2 : Nat → Nat) (er2 : Nat) (ou2 : Nat → Int64), sd_ok n2 w2 → ∀ (H : Heap) (locs : List Loc) (ls : Array Slot) (sh ke : Nat → Int64) (go : Nat → Int32), va_P (dC, dI) vwCl (sd_LW cA h0 a0 cL cZ h1 a1 a2 a3 a4 cO q0 n2 w2 er2 sh ke go ou2) H → va_D A (sd_LW cA h0 a0 cL cZ h1 a1 a2 a3 a4 cO q0 n2 w2 er2 sh ke go ou2) → va_S A s.heap H locs → lv_has ls 8 [(0, .ref b), (1, .ref h0), (2, .ref h1), (3, .ref q0), (4, .int (nI i))] → W p l e room_1 s m #[Value.ref b] below meth c H locs (cells + 1) (slots + 6) Q (F0 m 547 ls [])) : W p l e room_1 s m #[Value.ref b] below meth c H locs cells slots Q (F0 m 491 ls []) := by
  have hn1 := ok.1
  have hn8 := ok.2.1
  cases hc1 : sd_rg (xs (i + 1)) 0 2 with
  | false =>
    exact law_count hx hb hml hts0 hown hX hbl hbA hA hTH hK hL i hi n w er sh ke go ou 1 n w ou (nI 0) (by omega) (fun z => absurd z (by omega)) (fun sz => by exact w_count1 l hl9 dC dI cA h0 a0 n w cO q0 ou sz _ (sd_rg_noI hc1)) (fun sz => m_count_bad l dC dI cL cZ h1 a1 a2 a3 a4 er n w sh ke go sz hn1 hn8 (xs (i + 1)) hc1) hcl hsl hP hD hS hl (fun H locs ls sh ke go hP hD hS hl => kk n w 1 ou ok H locs ls sh ke go hP hD hS hl)
  | true =>
    obtain ⟨k, -, hk, e1⟩ := sd_rg_yes (by omega) (by omega) hc1
    exact law_count hx hb hml hts0 hown hX hbl hbA hA hTH hK hL i hi n w er sh ke go ou 0 n w (vp_updL ou 0 ((nI (if k = 0 then n else if k = 1 then sd_sum w n else sd_cnt (fun j => decide (0 < w j)) n)).toInt64)) (nI (if k = 0 then n else if k = 1 then sd_sum w n else sd_cnt (fun j => decide (0 < w j)) n)) (by omega) (fun _ => pk_uLs) (fun sz => by rw [e1]; exact w_count l hl9 dC dI cA h0 a0 n w cO q0 ou sz ok k hk) (fun sz => by rw [e1]; exact m_count l dC dI cL cZ h1 a1 a2 a3 a4 er n w sh ke go sz ok k hk) hcl hsl hP hD hS hl (fun H locs ls sh ke go hP hD hS hl => kk n w 0 (vp_updL ou 0 ((nI (if k = 0 then n else if k = 1 then sd_sum w n else sd_cnt (fun j => decide (0 < w j)) n)).toInt64)) ok H locs ls sh ke go hP hD hS hl)
set_option maxHeartbeats 4000000 in
set_option maxRecDepth 100000 in
theorem step_weight {p : Program} {l : Launch} {e : Env} {s : State} {m : MethodId} {below : List Frame} {meth : Method} {c : Code} {Q : State → Prop} {b L : Nat} {xs : Nat → Int32} {dC : Nat → ClassId} {dI : Nat → Nat → Nat} {cA : ClassId} {h0 a0 : Nat} {cL cZ : ClassId} {h1 a1 a2 a3 a4 : Nat} {cO : ClassId} {q0 : Nat} {A : Nat → Prop} (hl9 : l.stackTraces = false) (hx : p.tables.exec = Jvm.exec) (hb : c.code = cL_law) (hml : c.maxLocals = 8) (hts0 : ∀ w ∈ (Cond.initialized RX0 :: sd_WS), w.before #[Value.ref b] s = true) (hown : s.vm.findClass RL = some m.cls) (hX : va_X b L xs s s.heap) (hbl : b < s.heap.size) (hbA : ¬ A b) (hA : ∀ q, s.heap.size ≤ q → A q) (hTH : sd_TH A s s.heap) (hK : va_K (dC, dI) vwCl [(cA, .int), (cL, .long), (cZ, .boolean), (cO, .long)] s) (hL : L ≤ 2048) (i : Nat) (hi : i + 4 ≤ L) (n : Nat) (w : Nat → Nat) (er : Nat) (sh ke : Nat → Int64) (go : Nat → Int32) (ou : Nat → Int64) (ok : sd_ok n w)
    {H : Heap} {locs : List Loc} {ls : Array Slot} {cells slots : Nat} (hcl : cells + 1 ≤ 1040) (hsl : slots + 6 ≤ 8290) (hP : va_P (dC, dI) vwCl (sd_LW cA h0 a0 cL cZ h1 a1 a2 a3 a4 cO q0 n w er sh ke go ou) H) (hD : va_D A (sd_LW cA h0 a0 cL cZ h1 a1 a2 a3 a4 cO q0 n w er sh ke go ou)) (hS : va_S A s.heap H locs) (hl : lv_has ls 8 [(0, .ref b), (1, .ref h0), (2, .ref h1), (3, .ref q0), (4, .int (nI i))])
    (kk : ∀ (n2 : Nat) (w2 : Nat → Nat) (er2 : Nat) (ou2 : Nat → Int64), sd_ok n2 w2 → ∀ (H : Heap) (locs : List Loc) (ls : Array Slot) (sh ke : Nat → Int64) (go : Nat → Int32), va_P (dC, dI) vwCl (sd_LW cA h0 a0 cL cZ h1 a1 a2 a3 a4 cO q0 n2 w2 er2 sh ke go ou2) H → va_D A (sd_LW cA h0 a0 cL cZ h1 a1 a2 a3 a4 cO q0 n2 w2 er2 sh ke go ou2) → va_S A s.heap H locs → lv_has ls 8 [(0, .ref b), (1, .ref h0), (2, .ref h1), (3, .ref q0), (4, .int (nI i))] → W p l e room_1 s m #[Value.ref b] below meth c H locs (cells + 1) (slots + 6) Q (F0 m 547 ls [])) : W p l e room_1 s m #[Value.ref b] below meth c H locs cells slots Q (F0 m 116 ls []) := by
  have hn1 := ok.1
  have hn8 := ok.2.1
  cases hc1 : sd_rg (xs (i + 1)) 0 (n - 1) with
  | false =>
    have hb1 := sd_ltle hn1 (by omega) (sd_rg_no (by omega) (by omega) hc1)
    exact law_weight hx hb hml hts0 hown hX hbl hbA hA hTH hK hL i hi n w er sh ke go ou 1 n w ou (nI 0) (by omega) (fun z => absurd z (by omega)) (fun sz => by exact w_weight1 l hl9 dC dI cA h0 a0 n w cO q0 ou sz _ _ hb1) (fun sz => m_weight_bad l dC dI cL cZ h1 a1 a2 a3 a4 er n w sh ke go sz hn1 hn8 (xs (i + 1)) (xs (i + 2)) (Or.inl hc1)) hcl hsl hP hD hS hl (fun H locs ls sh ke go hP hD hS hl => kk n w 1 ou ok H locs ls sh ke go hP hD hS hl)
  | true =>
    obtain ⟨q, -, hq, e1⟩ := sd_rg_yes (by omega) (by omega) hc1
    have hq : q < n := by omega
    cases hc2 : sd_rg (xs (i + 2)) 0 100000 with
    | false =>
      have hb1 := sd_lt0 (sd_rg_no (by omega) (by omega) hc2)
      exact law_weight hx hb hml hts0 hown hX hbl hbA hA hTH hK hL i hi n w er sh ke go ou 1 n w ou (nI 0) (by omega) (fun z => absurd z (by omega)) (fun sz => by rw [e1]; exact w_weight2 l hl9 dC dI cA h0 a0 n w cO q0 ou sz ok q hq _ hb1) (fun sz => m_weight_bad l dC dI cL cZ h1 a1 a2 a3 a4 er n w sh ke go sz hn1 hn8 (xs (i + 1)) (xs (i + 2)) (Or.inr hc2)) hcl hsl hP hD hS hl (fun H locs ls sh ke go hP hD hS hl => kk n w 1 ou ok H locs ls sh ke go hP hD hS hl)
    | true =>
      obtain ⟨v, -, hv, e2⟩ := sd_rg_yes (by omega) (by omega) hc2
      exact law_weight hx hb hml hts0 hown hX hbl hbA hA hTH hK hL i hi n w er sh ke go ou 0 n (sd_up w q v) (vp_updL ou 0 ((nI (w q)).toInt64)) (nI (w q)) (by omega) (fun _ => pk_uLs) (fun sz => by rw [e1, e2]; exact w_weight l hl9 dC dI cA h0 a0 n w cO q0 ou sz ok q v hq hv) (fun sz => by rw [e1, e2]; exact m_weight l dC dI cL cZ h1 a1 a2 a3 a4 er n w sh ke go sz ok q v hq hv) hcl hsl hP hD hS hl (fun H locs ls sh ke go hP hD hS hl => kk n (sd_up w q v) 0 (vp_updL ou 0 ((nI (w q)).toInt64)) (sd_ok_up ok hq hv) H locs ls sh ke go hP hD hS hl)
set_option maxHeartbeats 4000000 in
set_option maxRecDepth 100000 in
theorem step_begin {p : Program} {l : Launch} {e : Env} {s : State} {m : MethodId} {below : List Frame} {meth : Method} {c : Code} {Q : State → Prop} {b L : Nat} {xs : Nat → Int32} {dC : Nat → ClassId} {dI : Nat → Nat → Nat} {cA : ClassId} {h0 a0 : Nat} {cL cZ : ClassId} {h1 a1 a2 a3 a4 : Nat} {cO : ClassId} {q0 : Nat} {A : Nat → Prop} (hl9 : l.stackTraces = false) (hx : p.tables.exec = Jvm.exec) (hb : c.code = cL_law) (hml : c.maxLocals = 8) (hts0 : ∀ w ∈ (Cond.initialized RX0 :: sd_WS), w.before #[Value.ref b] s = true) (hown : s.vm.findClass RL = some m.cls) (hX : va_X b L xs s s.heap) (hbl : b < s.heap.size) (hbA : ¬ A b) (hA : ∀ q, s.heap.size ≤ q → A q) (hTH : sd_TH A s s.heap) (hK : va_K (dC, dI) vwCl [(cA, .int), (cL, .long), (cZ, .boolean), (cO, .long)] s) (hL : L ≤ 2048) (i : Nat) (hi : i + 4 ≤ L) (n : Nat) (w : Nat → Nat) (er : Nat) (sh ke : Nat → Int64) (go : Nat → Int32) (ou : Nat → Int64) (ok : sd_ok n w)
    {H : Heap} {locs : List Loc} {ls : Array Slot} {cells slots : Nat} (hcl : cells + 1 ≤ 1040) (hsl : slots + 6 ≤ 8290) (hP : va_P (dC, dI) vwCl (sd_LW cA h0 a0 cL cZ h1 a1 a2 a3 a4 cO q0 n w er sh ke go ou) H) (hD : va_D A (sd_LW cA h0 a0 cL cZ h1 a1 a2 a3 a4 cO q0 n w er sh ke go ou)) (hS : va_S A s.heap H locs) (hl : lv_has ls 8 [(0, .ref b), (1, .ref h0), (2, .ref h1), (3, .ref q0), (4, .int (nI i))])
    (kk : ∀ (n2 : Nat) (w2 : Nat → Nat) (er2 : Nat) (ou2 : Nat → Int64), sd_ok n2 w2 → ∀ (H : Heap) (locs : List Loc) (ls : Array Slot) (sh ke : Nat → Int64) (go : Nat → Int32), va_P (dC, dI) vwCl (sd_LW cA h0 a0 cL cZ h1 a1 a2 a3 a4 cO q0 n2 w2 er2 sh ke go ou2) H → va_D A (sd_LW cA h0 a0 cL cZ h1 a1 a2 a3 a4 cO q0 n2 w2 er2 sh ke go ou2) → va_S A s.heap H locs → lv_has ls 8 [(0, .ref b), (1, .ref h0), (2, .ref h1), (3, .ref q0), (4, .int (nI i))] → W p l e room_1 s m #[Value.ref b] below meth c H locs (cells + 1) (slots + 6) Q (F0 m 547 ls [])) : W p l e room_1 s m #[Value.ref b] below meth c H locs cells slots Q (F0 m 80 ls []) := by
  have hn1 := ok.1
  have hn8 := ok.2.1
  cases hc1 : sd_rg (xs (i + 1)) 1 8 with
  | false =>
    have hb1 := sd_rg_no (by omega) (by omega) hc1
    exact law_begin hx hb hml hts0 hown hX hbl hbA hA hTH hK hL i hi n w er sh ke go ou 1 n w ou (by omega) rfl (fun sz => by exact w_begin1 l hl9 dC dI cA h0 a0 n w cO q0 ou sz _ hb1) (fun sz => m_begin_bad l dC dI cL cZ h1 a1 a2 a3 a4 er n w sh ke go sz hn1 hn8 (xs (i + 1)) hc1) hcl hsl hP hD hS hl (fun H locs ls sh ke go hP hD hS hl => kk n w 1 ou ok H locs ls sh ke go hP hD hS hl)
  | true =>
    obtain ⟨j, hj1, hj8, e1⟩ := sd_rg_yes (by omega) (by omega) hc1
    exact law_begin hx hb hml hts0 hown hX hbl hbA hA hTH hK hL i hi n w er sh ke go ou 0 j (fun _ => 0) ou (by omega) rfl (fun sz => by rw [e1]; exact w_begin l hl9 dC dI cA h0 a0 n w cO q0 ou sz ok j hj1 hj8) (fun sz => by rw [e1]; exact m_begin l dC dI cL cZ h1 a1 a2 a3 a4 er n w sh ke go sz ok j hj1 hj8) hcl hsl hP hD hS hl (fun H locs ls sh ke go hP hD hS hl => kk j (fun _ => 0) 0 ou (sd_ok_new hj1 hj8) H locs ls sh ke go hP hD hS hl)
set_option maxHeartbeats 4000000 in
set_option maxRecDepth 100000 in
theorem law_loop {p : Program} {l : Launch} {e : Env} {s : State} {m : MethodId} {below : List Frame} {meth : Method} {c : Code} {Q : State → Prop} {b L : Nat} {xs : Nat → Int32} {dC : Nat → ClassId} {dI : Nat → Nat → Nat} {cA : ClassId} {h0 a0 : Nat} {cL cZ : ClassId} {h1 a1 a2 a3 a4 : Nat} {cO : ClassId} {q0 : Nat} {A : Nat → Prop} (hl9 : l.stackTraces = false) (hx : p.tables.exec = Jvm.exec) (hb : c.code = cL_law) (hml : c.maxLocals = 8) (hts0 : ∀ w ∈ (Cond.initialized RX0 :: sd_WS), w.before #[Value.ref b] s = true) (hown : s.vm.findClass RL = some m.cls) (hX : va_X b L xs s s.heap) (hbl : b < s.heap.size) (hbA : ¬ A b) (hA : ∀ q, s.heap.size ≤ q → A q) (hTH : sd_TH A s s.heap) (hK : va_K (dC, dI) vwCl [(cA, .int), (cL, .long), (cZ, .boolean), (cO, .long)] s) (hL : L ≤ 2048)
    (kend : ∀ (H : Heap) (locs : List Loc) (ls : Array Slot) (cells slots : Nat), cells ≤ 1040 → slots ≤ 8290 → va_S A s.heap H locs → W p l e room_1 s m #[Value.ref b] below meth c H locs cells slots Q (F0 m 554 ls [.int 1]))
    : ∀ (f t : Nat), f + t = 513 → 4 * t ≤ L → ∀ (H : Heap) (locs : List Loc) (ls : Array Slot) (n : Nat) (w : Nat → Nat) (er : Nat) (sh ke : Nat → Int64) (go : Nat → Int32) (ou : Nat → Int64), sd_ok n w → va_P (dC, dI) vwCl (sd_LW cA h0 a0 cL cZ h1 a1 a2 a3 a4 cO q0 n w er sh ke go ou) H → va_D A (sd_LW cA h0 a0 cL cZ h1 a1 a2 a3 a4 cO q0 n w er sh ke go ou) → va_S A s.heap H locs → lv_has ls 8 [(0, .ref b), (1, .ref h0), (2, .ref h1), (3, .ref q0), (4, .int (nI (4 * t)))] → W p l e room_1 s m #[Value.ref b] below meth c H locs (8 + t) (50 + 6 * t) Q (F0 m 23 ls []) := by
  have hts : ∀ w ∈ sd_WS, w.before #[Value.ref b] s = true := fun w h => hts0 w (List.mem_cons_of_mem _ h)
  intro f
  induction f using Nat.strongRecOn with
  | ind f ih0 =>
    intro t hft ht H locs ls n w er sh ke go ou ok hP hD hS hl
    have ih : 4 * t + 4 ≤ L → ∀ (H : Heap) (locs : List Loc) (ls : Array Slot) (n : Nat) (w : Nat → Nat) (er : Nat) (sh ke : Nat → Int64) (go : Nat → Int32) (ou : Nat → Int64), sd_ok n w → va_P (dC, dI) vwCl (sd_LW cA h0 a0 cL cZ h1 a1 a2 a3 a4 cO q0 n w er sh ke go ou) H → va_D A (sd_LW cA h0 a0 cL cZ h1 a1 a2 a3 a4 cO q0 n w er sh ke go ou) → va_S A s.heap H locs → lv_has ls 8 [(0, .ref b), (1, .ref h0), (2, .ref h1), (3, .ref q0), (4, .int (nI (4 * (t + 1))))] → W p l e room_1 s m #[Value.ref b] below meth c H locs (8 + (t + 1)) (50 + 6 * (t + 1)) Q (F0 m 23 ls []) := fun hlt => ih0 (f - 1) (by omega) (t + 1) (by omega) (by omega)
    refine lv_iload hx hb dL_law_23 (lv_at hl 4 rfl) ?_
    refine lv_aload_n hx hb dL_law_25 rfl (lv_at hl 0 rfl) ?_
    refine va_slen hx hb hX hbl hbA hS dL_law_26 ?_
    refine sd_topi (y := nI L) rfl ?_
    refine lv_iconst (v := (nI 4)) hx hb dL_law_27 (by decide +kernel) ?_
    by_cases hL4 : 4 ≤ L
    · refine sd_isub (v := nI (L - 4)) hx hb dL_law_28 (pk_sub (by omega)) ?_
      refine sd_ic_gt (a := 4 * t) (b := L - 4) (tgt := 553) hx hb dL_law_29 (by decide) (by omega) (by omega) (fun h => ?_) (fun h => ?_)
      · refine lv_iconst (v := 1) hx hb dL_law_553 (by decide +kernel) ?_
        exact kend H locs ls _ _ (by omega) (by omega) hS
      · have hi4 : 4 * t + 4 ≤ L := by omega
        refine lv_aload_n hx hb dL_law_32 rfl (lv_at hl 0 rfl) ?_
        refine lv_iload hx hb dL_law_33 (lv_at hl 4 rfl) ?_
        refine sd_sld (j := 4 * t) hx hb hX hbl hbA hS (by omega) (by omega) dL_law_35 ?_
        refine lv_bipush (v := nI 7) hx hb dL_law_36 (by decide +kernel) ?_
        obtain ⟨d, hd, hde⟩ := pk_andE (xs (4 * t)) (m := nI 7) 3 (by decide +kernel)
        refine lv_iand hx hb dL_law_38 ?_
        refine sd_topi (y := nI d) hde ?_
        have tail : ∀ (n : Nat) (w : Nat → Nat) (er : Nat) (ou : Nat → Int64), sd_ok n w → ∀ (H : Heap) (locs : List Loc) (ls : Array Slot) (sh ke : Nat → Int64) (go : Nat → Int32), va_P (dC, dI) vwCl (sd_LW cA h0 a0 cL cZ h1 a1 a2 a3 a4 cO q0 n w er sh ke go ou) H → va_D A (sd_LW cA h0 a0 cL cZ h1 a1 a2 a3 a4 cO q0 n w er sh ke go ou) → va_S A s.heap H locs → lv_has ls 8 [(0, .ref b), (1, .ref h0), (2, .ref h1), (3, .ref q0), (4, .int (nI (4 * t)))] → W p l e room_1 s m #[Value.ref b] below meth c H locs (8 + t + 1) (50 + 6 * t + 6) Q (F0 m 547 ls []) := by
          intro n w er ou ok H locs ls sh ke go hP hD hS hl
          refine lv_iinc (k := 4) (v := nI (4 * t + 4)) hx hb dL_law_547 hl rfl (nI_add _ 4) (by decide) rfl (fun ls hl => ?_)
          have hl : lv_has ls 8 [(4, .int (nI (4 * t + 4))), (0, .ref b), (1, .ref h0), (2, .ref h1), (3, .ref q0)] := hl
          refine lv_goto (tgt := 23) hx hb dL_law_550 (by decide) ?_
          have hl := lv_sub (l' := [(0, .ref b), (1, .ref h0), (2, .ref h1), (3, .ref q0), (4, .int (nI (4 * t + 4)))]) hl [1, 2, 3, 4, 0] rfl
          refine W.cs (cells' := 8 + (t + 1)) (slots' := 50 + 6 * (t + 1)) (by omega) (by omega) ?_
          exact ih (by omega) H locs ls n w er sh ke go ou ok hP hD hS hl
        rcases (show d = 0 ∨ d = 1 ∨ d = 2 ∨ d = 3 ∨ d = 4 ∨ d = 5 ∨ d = 6 ∨ d = 7 by omega) with rfl | rfl | rfl | rfl | rfl | rfl | rfl | rfl
        · refine lv_tableIn (off := 41) (tgt := 80) hx hb dL_law_39 (by decide +kernel) (by decide +kernel) rfl (by decide) ?_
          exact step_begin hl9 hx hb hml hts0 hown hX hbl hbA hA hTH hK hL (4 * t) (by omega) n w er sh ke go ou ok (by omega) (by omega) hP hD hS hl tail
        · refine lv_tableIn (off := 77) (tgt := 116) hx hb dL_law_39 (by decide +kernel) (by decide +kernel) rfl (by decide) ?_
          exact step_weight hl9 hx hb hml hts0 hown hX hbl hbA hA hTH hK hL (4 * t) (by omega) n w er sh ke go ou ok (by omega) (by omega) hP hD hS hl tail
        · refine lv_tableIn (off := 145) (tgt := 184) hx hb dL_law_39 (by decide +kernel) (by decide +kernel) rfl (by decide) ?_
          exact step_share hl9 hx hb hml hts0 hown hX hbl hbA hA hTH hK hL (4 * t) (by omega) n w er sh ke go ou ok (by omega) (by omega) hP hD hS hl tail
        · refine lv_tableIn (off := 225) (tgt := 264) hx hb dL_law_39 (by decide +kernel) (by decide +kernel) rfl (by decide) ?_
          exact step_over hl9 hx hb hml hts0 hown hX hbl hbA hA hTH hK hL (4 * t) (by omega) n w er sh ke go ou ok (by omega) (by omega) hP hD hS hl tail
        · refine lv_tableIn (off := 304) (tgt := 343) hx hb dL_law_39 (by decide +kernel) (by decide +kernel) rfl (by decide) ?_
          exact step_next hl9 hx hb hml hts0 hown hX hbl hbA hA hTH hK hL (4 * t) (by omega) n w er sh ke go ou ok (by omega) (by omega) hP hD hS hl tail
        · refine lv_tableIn (off := 372) (tgt := 411) hx hb dL_law_39 (by decide +kernel) (by decide +kernel) rfl (by decide) ?_
          exact step_least hl9 hx hb hml hts0 hown hX hbl hbA hA hTH hK hL (4 * t) (by omega) n w er sh ke go ou ok (by omega) (by omega) hP hD hS hl tail
        · refine lv_tableIn (off := 452) (tgt := 491) hx hb dL_law_39 (by decide +kernel) (by decide +kernel) rfl (by decide) ?_
          exact step_count hl9 hx hb hml hts0 hown hX hbl hbA hA hTH hK hL (4 * t) (by omega) n w er sh ke go ou ok (by omega) (by omega) hP hD hS hl tail
        · refine lv_tableOut (tgt := 547) hx hb dL_law_39 (Or.inr (by decide +kernel)) (by decide) ?_
          refine W.widen (k := 8 + t + 1) (n := 50 + 6 * t + 6) (by omega) (by omega) ?_
          exact tail n w er ou ok H locs ls sh ke go hP hD hS hl
    · refine sd_isub (v := nI L - nI 4) hx hb dL_law_28 rfl ?_
      refine lv_icmp_gt (tgt := 553) hx hb dL_law_29 (by decide) (fun h => ?_) (fun h => ?_)
      · refine lv_iconst (v := 1) hx hb dL_law_553 (by decide +kernel) ?_
        exact kend H locs ls _ _ (by omega) (by omega) hS
      · have h0t : t = 0 := by omega
        subst h0t
        exact absurd (pk_sneg (by omega) (by omega)) h
