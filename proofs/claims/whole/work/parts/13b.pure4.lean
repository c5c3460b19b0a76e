theorem sd_nm_none {f g : Nat → Nat} {i : Nat} (h : sd_nm f g i = none) : ∀ n, i ≤ n → sd_nm f g n = none := by
  intro n hn
  induction n with
  | zero => rw [show i = 0 by omega] at h; exact h
  | succ n ih =>
    by_cases e : i = n + 1
    · rw [← e]; exact h
    · have := ih (by omega)
      unfold sd_nm
      rw [this]
