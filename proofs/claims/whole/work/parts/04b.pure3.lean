/-! Pure part, third: a party of weight 0; changes of one weight. -/
theorem sd_sum_cnt {r : Nat → Nat} {W : Nat} (hr : ∀ i, r i < W) : ∀ n : Nat, sd_sum r n ≤ sd_cnt (fun i => decide (0 < r i)) n * (W - 1)
  | 0 => Nat.zero_le _
  | n + 1 => by
    rw [sd_sum_s, sd_cnt_s]
    have ih := sd_sum_cnt hr n
    have h1 := hr n
    by_cases e : 0 < r n
    · rw [decide_eq_true e, if_pos rfl, Nat.add_mul, Nat.one_mul]; omega
    · rw [decide_eq_false e]
      show sd_sum r n + r n ≤ (sd_cnt (fun i => decide (0 < r i)) n + 0) * (W - 1)
      rw [Nat.add_zero]; omega
theorem sd_u0_zero {w : Nat → Nat} {n m q : Nat} (hW : 0 < sd_sum w n) (hq : w q = 0) : sd_u0 w n m q = 0 := by
  unfold sd_u0
  have h0 : sd_rs w (sd_sum w n) m q = 0 := by unfold sd_rs; rw [hq, Nat.mul_zero, Nat.zero_mod]
  have h1 := sd_sum_cnt (r := sd_rs w (sd_sum w n) m) (W := sd_sum w n) (fun i => Nat.mod_lt _ hW) n
  have h2 : sd_cnt (fun i => decide (0 < sd_rs w (sd_sum w n) m i)) n ≤ sd_cnt (sd_ab (sd_rs w (sd_sum w n) m) q) n := sd_cnt_le (fun i _ hp => by
    have := of_decide_eq_true hp
    simp only [sd_ab, h0, this, decide_true, Bool.true_or])
  rw [hq, Nat.mul_zero, Nat.zero_div, Nat.zero_add]
  refine if_neg ?_
  generalize sd_cnt (sd_ab (sd_rs w (sd_sum w n) m) q) n = a at *
  generalize sd_cnt (fun i => decide (0 < sd_rs w (sd_sum w n) m i)) n = b at *
  generalize sd_sum (sd_rs w (sd_sum w n) m) n = t at *
  generalize sd_sum w n = W at *
  intro z
  have h3 : (a + 1) * W ≤ t := (Nat.le_div_iff_mul_le hW).mp z
  have h4 : b * (W - 1) ≤ b * W := Nat.mul_le_mul_left _ (by omega)
  have h5 : b * W ≤ a * W := Nat.mul_le_mul_right _ h2
  rw [Nat.add_mul, Nat.one_mul] at h3
  omega
theorem sd_U_zero {y : Nat} {w : Nat → Nat} {n m q : Nat} (hW : 0 < sd_sum w n) (hqn : q < n) (hq : w q = 0) : sd_U y w n m q = 0 := by
  unfold sd_U
  by_cases e : y = 0
  · rw [if_pos e]; exact sd_u0_zero hW hq
  · rw [if_neg e]; exact (sd_inv_G (sd_sum_pos hW) m).2.1 q hqn hq
theorem sd_ok_up {n : Nat} {w : Nat → Nat} (ok : sd_ok n w) {q v : Nat} (hq : q < n) (hv : v ≤ 100000) : sd_ok n (sd_up w q v) := by
  refine ⟨ok.1, ok.2.1, fun i => ?_, fun i hi => ?_⟩
  · by_cases e : i = q
    · rw [e, sd_up_self]; exact hv
    · rw [sd_up_ne e]; exact ok.2.2.1 i
  · rw [sd_up_ne (by omega)]; exact ok.2.2.2 i hi
theorem sd_ok_new {j : Nat} (h1 : 1 ≤ j) (h2 : j ≤ 8) : sd_ok j (fun _ => 0) := ⟨h1, h2, fun _ => Nat.zero_le _, fun _ _ => rfl⟩
theorem sd_up_sum {w : Nat → Nat} {n q v : Nat} (hq : q < n) : sd_sum (sd_up w q v) n + w q = sd_sum w n + v := by
  have h := sd_sum_upd (f := w) (g := sd_up w q v) hq (fun i _ hi => sd_up_ne hi)
  rw [sd_up_self] at h
  exact h
theorem sd_i32 {a b c d : Nat} (h : d + c = a + b) : nI a + (nI b - nI c) = nI d := by
  have h1 : nI d + nI c = nI a + nI b := by rw [nI_add, nI_add, h]
  have h2 : nI a + (nI b - nI c) = (nI a + nI b) - nI c := by rw [Int32.sub_eq_add_neg, Int32.sub_eq_add_neg, Int32.add_assoc]
  rw [h2, ← h1, Int32.add_sub_cancel]
theorem sd_upd_w (w : Nat → Nat) (q v : Nat) : upd (fun i => nI (w i)) q (nI v) = fun i => nI (sd_up w q v i) := by
  funext i
  by_cases e : i = q
  · subst e; rw [pk_us, sd_up_self]
  · rw [pk_un e, sd_up_ne e]
theorem sd_updL_w (w : Nat → Nat) (q v : Nat) : vp_updL (fun i => lN (w i)) q (lN v) = fun i => lN (sd_up w q v i) := by
  funext i
  by_cases e : i = q
  · subst e; rw [pk_uLs, sd_up_self]
  · rw [pk_uLn e, sd_up_ne e]
/-- below i all is set to 0 -/
def sd_cl (w : Nat → Nat) (i : Nat) : Nat → Nat := fun j => if j < i then 0 else w j
theorem sd_cl0 (w : Nat → Nat) : sd_cl w 0 = w := by funext j; exact if_neg (Nat.not_lt_zero _)
theorem sd_cls (w : Nat → Nat) (i : Nat) : sd_up (sd_cl w i) i 0 = sd_cl w (i + 1) := by
  funext j
  unfold sd_up sd_cl
  by_cases e : j = i
  · subst e; rw [if_pos rfl, if_pos (Nat.lt_succ_self _)]
  · rw [if_neg e]
    by_cases z : j < i
    · rw [if_pos z, if_pos (by omega)]
    · rw [if_neg z, if_neg (by omega)]
theorem sd_cl8 {w : Nat → Nat} {n : Nat} (ok : sd_ok n w) : sd_cl w 8 = fun _ => 0 := by
  funext j
  unfold sd_cl
  by_cases z : j < 8
  · rw [if_pos z]
  · rw [if_neg z]; exact ok.2.2.2 j (by have := ok.2.1; omega)
theorem sd_sum0 (n : Nat) : sd_sum (fun _ => 0) n = 0 := sd_sum_zero (fun _ _ => rfl)
