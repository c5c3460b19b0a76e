/-! Pure part, second half: bounds, the first of many, answers as ints. -/
def sd_oi : Option Nat → Int32
  | none => -1
  | some k => nI k
def sd_lst (Q : Nat → Bool) : Nat → Option Nat
  | 0 => none
  | N + 1 => match sd_lst Q N with
    | some m => some m
    | none => if Q N then some N else none
theorem sd_lst_s (Q : Nat → Bool) (N : Nat) : sd_lst Q (N + 1) = match sd_lst Q N with
    | some m => some m
    | none => if Q N then some N else none := rfl
theorem sd_lst_none {Q : Nat → Bool} : ∀ {N : Nat}, (∀ j, j < N → Q j = false) → sd_lst Q N = none
  | 0, _ => rfl
  | N + 1, h => by rw [sd_lst_s, sd_lst_none (fun j hj => h j (Nat.lt_succ_of_lt hj)), h N (Nat.lt_succ_self N)]; rfl
theorem sd_lst_at {Q : Nat → Bool} {m : Nat} (h : ∀ j, j < m → Q j = false) (hm : Q m = true) : ∀ {N : Nat}, m < N → sd_lst Q N = some m
  | 0, z => absurd z (Nat.not_lt_zero _)
  | N + 1, z => by
    rw [sd_lst_s]
    by_cases e : m = N
    · subst e
      rw [sd_lst_none h, hm]; rfl
    · rw [sd_lst_at h hm (by omega)]
theorem sd_dv_le {y k : Nat} (hy : y ≤ 2) (hk : 1 ≤ k) : sd_dv y k ≤ 2 * k := by
  unfold sd_dv
  have : y * (k - 1) ≤ 2 * (k - 1) := Nat.mul_le_mul_right _ hy
  omega
theorem sd_dv1 {k : Nat} (hk : 1 ≤ k) : sd_dv 1 k = k := by unfold sd_dv; omega
theorem sd_dv2 {k : Nat} (hk : 1 ≤ k) : sd_dv 2 k = 2 * k - 1 := by unfold sd_dv; omega
theorem sd_ub_le {y : Nat} {w : Nat → Nat} {k p i : Nat} : sd_ub y w k p i ≤ sd_dv y k * w i := by
  unfold sd_ub
  have h := Nat.div_le_self (sd_dv y k * w i - (if p < i then 1 else 0)) (w p)
  by_cases e : w i = 0
  · rw [if_pos e]; exact Nat.zero_le _
  · rw [if_neg e]
    generalize (sd_dv y k * w i - (if p < i then 1 else 0)) / w p = g at *
    split <;> omega
theorem sd_dw_le {y k W : Nat} {w : Nat → Nat} {i : Nat} (hy : y ≤ 2) (hk : 1 ≤ k) (hk2 : k ≤ 20000) (hw : w i ≤ W) : sd_dv y k * w i ≤ 40000 * W :=
  Nat.mul_le_mul (Nat.le_trans (sd_dv_le hy hk) (by omega)) hw
theorem sd_turn_le {y : Nat} {w : Nat → Nat} {n k p : Nat} (hy : y ≤ 2) (hk : 1 ≤ k) (hk2 : k ≤ 20000) (hw : ∀ i, w i ≤ 100000) (i : Nat) (hi : i ≤ n) (hn : n ≤ 8) :
    k + sd_sum (fun j => if j = p then 0 else sd_ub y w k p j) i ≤ 20000 + 8 * 4000000000 := by
  have h1 : sd_sum (fun j => if j = p then 0 else sd_ub y w k p j) i ≤ i * 4000000000 := by
    refine sd_sum_bound (fun j _ => ?_)
    by_cases e : j = p
    · rw [if_pos e]; exact Nat.zero_le _
    · rw [if_neg e]
      have h2 := sd_dw_le (W := 100000) hy hk hk2 (hw j)
      have h3 := sd_ub_le (y := y) (w := w) (k := k) (p := p) (i := j)
      omega
  omega
theorem sd_u0_le {w : Nat → Nat} {n m p : Nat} (hW : 0 < sd_sum w n) (hp : p < n) : sd_u0 w n m p ≤ m := by
  have h1 := sd_sum_ge (f := sd_u0 w n m) hp
  rw [sd_u0_sum hW] at h1
  exact h1
theorem sd_mw_le {m M x X : Nat} (h1 : m ≤ M) (h2 : x ≤ X) : m * x ≤ M * X := Nat.mul_le_mul h1 h2
theorem sd_lne0 {a : Nat} (h0 : 0 < a) (h : a < 2 ^ 63) : ¬ lN a = 0 := by
  intro z
  have h1 : lN a = lN 0 := z
  have h2 := (pk_lEQ h (by decide)).mp h1
  omega
theorem sd_W_le {w : Nat → Nat} {n : Nat} (hw : ∀ i, w i ≤ 100000) (hn : n ≤ 8) : sd_sum w n ≤ 800000 := by
  have := sd_sum_bound (n := n) (fun i (_ : i < n) => hw i)
  omega
theorem sd_oi_neg {o : Option Nat} (h : ∀ k, o = some k → k < 2 ^ 31) : (sd_oi o < 0) ↔ o = none := by
  cases o with
  | none => exact ⟨fun _ => rfl, fun _ => by decide +kernel⟩
  | some k => exact ⟨fun z => absurd z (nI_pos (h k rfl)), fun z => by cases z⟩
theorem sd_nc_none {f g : Nat → Nat} {i : Nat} (h : sd_nc f g i = none) : ∀ n, i ≤ n → sd_nc f g n = none := by
  intro n hn
  induction n with
  | zero => rw [show i = 0 by omega] at h; exact h
  | succ n ih =>
    by_cases e : i = n + 1
    · rw [← e]; exact h
    · have := ih (by omega)
      unfold sd_nc
      rw [this]
