section
/-- a private method of a class that the tables say can be made, by its rows of tables_1 -/
def lw_okq (q : MethodName × Nat) : Prop := (q.1.cls ≠ "java/lang/invoke/MethodHandle" ∧ q.1.cls ≠ "java/lang/invoke/VarHandle") ∧ Cond.instantiable q.1.cls q.2 ∈ tables_1 ∧ Cond.privateMethod q.1 ∈ tables_1 ∧ Cond.instanceMethod q.1 ∈ tables_1
theorem lw_p0 : lw_okq (⟨"java/lang/Throwable", "fillInStackTrace", "(I)Ljava/lang/Throwable;"⟩, 6) := ⟨⟨by decide +kernel, by decide +kernel⟩, List.mem_of_getElem? (i := 73) (by decide +kernel), List.mem_of_getElem? (i := 71) (by decide +kernel), List.mem_of_getElem? (i := 72) (by decide +kernel)⟩
theorem lw_p1 : lw_okq (⟨"ShareDesk", "checkParty", "(I)V"⟩, 3) := ⟨⟨by decide +kernel, by decide +kernel⟩, List.mem_of_getElem? (i := 9) (by decide +kernel), List.mem_of_getElem? (i := 110) (by decide +kernel), List.mem_of_getElem? (i := 111) (by decide +kernel)⟩
theorem lw_p2 : lw_okq (⟨"ShareDesk", "checkTotal", "()V"⟩, 3) := ⟨⟨by decide +kernel, by decide +kernel⟩, List.mem_of_getElem? (i := 9) (by decide +kernel), List.mem_of_getElem? (i := 133) (by decide +kernel), List.mem_of_getElem? (i := 134) (by decide +kernel)⟩
theorem lw_p3 : lw_okq (⟨"ShareDesk", "unitsOf", "(III)I"⟩, 3) := ⟨⟨by decide +kernel, by decide +kernel⟩, List.mem_of_getElem? (i := 9) (by decide +kernel), List.mem_of_getElem? (i := 153) (by decide +kernel), List.mem_of_getElem? (i := 154) (by decide +kernel)⟩
theorem lw_p4 : lw_okq (⟨"ShareDesk", "unitsByRests", "(II)I"⟩, 3) := ⟨⟨by decide +kernel, by decide +kernel⟩, List.mem_of_getElem? (i := 9) (by decide +kernel), List.mem_of_getElem? (i := 157) (by decide +kernel), List.mem_of_getElem? (i := 158) (by decide +kernel)⟩
theorem lw_p5 : lw_okq (⟨"ShareDesk", "restOf", "(II)J"⟩, 3) := ⟨⟨by decide +kernel, by decide +kernel⟩, List.mem_of_getElem? (i := 9) (by decide +kernel), List.mem_of_getElem? (i := 161) (by decide +kernel), List.mem_of_getElem? (i := 162) (by decide +kernel)⟩
theorem lw_p6 : lw_okq (⟨"ShareDesk", "unitsByTurns", "(III)I"⟩, 3) := ⟨⟨by decide +kernel, by decide +kernel⟩, List.mem_of_getElem? (i := 9) (by decide +kernel), List.mem_of_getElem? (i := 165) (by decide +kernel), List.mem_of_getElem? (i := 166) (by decide +kernel)⟩
theorem lw_p7 : lw_okq (⟨"ShareDesk", "turnOf", "(III)J"⟩, 3) := ⟨⟨by decide +kernel, by decide +kernel⟩, List.mem_of_getElem? (i := 9) (by decide +kernel), List.mem_of_getElem? (i := 169) (by decide +kernel), List.mem_of_getElem? (i := 170) (by decide +kernel)⟩
theorem lw_p8 : lw_okq (⟨"ShareDesk", "unitsBefore", "(IIII)J"⟩, 3) := ⟨⟨by decide +kernel, by decide +kernel⟩, List.mem_of_getElem? (i := 9) (by decide +kernel), List.mem_of_getElem? (i := 173) (by decide +kernel), List.mem_of_getElem? (i := 174) (by decide +kernel)⟩
theorem lw_p9 : lw_okq (⟨"ShareDesk", "leastByRests", "(II)I"⟩, 3) := ⟨⟨by decide +kernel, by decide +kernel⟩, List.mem_of_getElem? (i := 9) (by decide +kernel), List.mem_of_getElem? (i := 203) (by decide +kernel), List.mem_of_getElem? (i := 204) (by decide +kernel)⟩
theorem lw_p10 : lw_okq (⟨"ShareDesk", "partiesWithWeight", "()I"⟩, 3) := ⟨⟨by decide +kernel, by decide +kernel⟩, List.mem_of_getElem? (i := 9) (by decide +kernel), List.mem_of_getElem? (i := 215) (by decide +kernel), List.mem_of_getElem? (i := 216) (by decide +kernel)⟩
theorem lw_p11 : lw_okq (⟨"ShareDeskModel", "fails", "(ZI)Z"⟩, 6) := ⟨⟨by decide +kernel, by decide +kernel⟩, List.mem_of_getElem? (i := 220) (by decide +kernel), List.mem_of_getElem? (i := 259) (by decide +kernel), List.mem_of_getElem? (i := 260) (by decide +kernel)⟩
theorem lw_p12 : lw_okq (⟨"ShareDeskModel", "isParty", "(I)Z"⟩, 6) := ⟨⟨by decide +kernel, by decide +kernel⟩, List.mem_of_getElem? (i := 220) (by decide +kernel), List.mem_of_getElem? (i := 267) (by decide +kernel), List.mem_of_getElem? (i := 268) (by decide +kernel)⟩
theorem lw_p13 : lw_okq (⟨"ShareDeskModel", "all", "()J"⟩, 6) := ⟨⟨by decide +kernel, by decide +kernel⟩, List.mem_of_getElem? (i := 220) (by decide +kernel), List.mem_of_getElem? (i := 281) (by decide +kernel), List.mem_of_getElem? (i := 282) (by decide +kernel)⟩
theorem lw_p14 : lw_okq (⟨"ShareDeskModel", "give", "(II)V"⟩, 6) := ⟨⟨by decide +kernel, by decide +kernel⟩, List.mem_of_getElem? (i := 220) (by decide +kernel), List.mem_of_getElem? (i := 285) (by decide +kernel), List.mem_of_getElem? (i := 286) (by decide +kernel)⟩
theorem lw_p15 : lw_okq (⟨"ShareDeskModel", "parts", "(I)V"⟩, 6) := ⟨⟨by decide +kernel, by decide +kernel⟩, List.mem_of_getElem? (i := 220) (by decide +kernel), List.mem_of_getElem? (i := 289) (by decide +kernel), List.mem_of_getElem? (i := 290) (by decide +kernel)⟩
def lw_privs_1 : List (MethodName × Nat) := [(⟨"java/lang/Throwable", "fillInStackTrace", "(I)Ljava/lang/Throwable;"⟩, 6), (⟨"ShareDesk", "checkParty", "(I)V"⟩, 3), (⟨"ShareDesk", "checkTotal", "()V"⟩, 3), (⟨"ShareDesk", "unitsOf", "(III)I"⟩, 3), (⟨"ShareDesk", "unitsByRests", "(II)I"⟩, 3), (⟨"ShareDesk", "restOf", "(II)J"⟩, 3), (⟨"ShareDesk", "unitsByTurns", "(III)I"⟩, 3), (⟨"ShareDesk", "turnOf", "(III)J"⟩, 3), (⟨"ShareDesk", "unitsBefore", "(IIII)J"⟩, 3), (⟨"ShareDesk", "leastByRests", "(II)I"⟩, 3), (⟨"ShareDesk", "partiesWithWeight", "()I"⟩, 3), (⟨"ShareDeskModel", "fails", "(ZI)Z"⟩, 6), (⟨"ShareDeskModel", "isParty", "(I)Z"⟩, 6), (⟨"ShareDeskModel", "all", "()J"⟩, 6), (⟨"ShareDeskModel", "give", "(II)V"⟩, 6), (⟨"ShareDeskModel", "parts", "(I)V"⟩, 6)]
theorem lw_r1 : ∀ q ∈ lw_privs_1, lw_okq q := List.forall_mem_cons.mpr ⟨lw_p0, List.forall_mem_cons.mpr ⟨lw_p1, List.forall_mem_cons.mpr ⟨lw_p2, List.forall_mem_cons.mpr ⟨lw_p3, List.forall_mem_cons.mpr ⟨lw_p4, List.forall_mem_cons.mpr ⟨lw_p5, List.forall_mem_cons.mpr ⟨lw_p6, List.forall_mem_cons.mpr ⟨lw_p7, List.forall_mem_cons.mpr ⟨lw_p8, List.forall_mem_cons.mpr ⟨lw_p9, List.forall_mem_cons.mpr ⟨lw_p10, List.forall_mem_cons.mpr ⟨lw_p11, List.forall_mem_cons.mpr ⟨lw_p12, List.forall_mem_cons.mpr ⟨lw_p13, List.forall_mem_cons.mpr ⟨lw_p14, List.forall_mem_cons.mpr ⟨lw_p15, fun _ h => absurd h List.not_mem_nil⟩⟩⟩⟩⟩⟩⟩⟩⟩⟩⟩⟩⟩⟩⟩⟩
theorem lw_p16 : lw_okq (⟨"ShareDeskModel", "one", "(I)V"⟩, 6) := ⟨⟨by decide +kernel, by decide +kernel⟩, List.mem_of_getElem? (i := 220) (by decide +kernel), List.mem_of_getElem? (i := 293) (by decide +kernel), List.mem_of_getElem? (i := 294) (by decide +kernel)⟩
def lw_privs_2 : List (MethodName × Nat) := [(⟨"ShareDeskModel", "one", "(I)V"⟩, 6)]
theorem lw_r2 : ∀ q ∈ lw_privs_2, lw_okq q := List.forall_mem_cons.mpr ⟨lw_p16, fun _ h => absurd h List.not_mem_nil⟩
def lw_privs : List (MethodName × Nat) := lw_privs_1 ++ (lw_privs_2)
def lw_tbl : List Cond := k2_sels lw_privs ++ tables_1
theorem lw_privs_ok : ∀ q ∈ lw_privs, lw_okq q := by
  show ∀ q ∈ lw_privs_1 ++ (lw_privs_2), lw_okq q
  exact List.forall_mem_append.mpr ⟨lw_r1, lw_r2⟩
end
section
/-! The pure part: sums, counts, and the three ways, over Nat. No word of the machine. -/
def sd_sum (f : Nat → Nat) : Nat → Nat
  | 0 => 0
  | n + 1 => sd_sum f n + f n
def sd_cnt (P : Nat → Bool) : Nat → Nat
  | 0 => 0
  | n + 1 => sd_cnt P n + (if P n then 1 else 0)
def sd_up (f : Nat → Nat) (p v : Nat) : Nat → Nat := fun i => if i = p then v else f i
theorem sd_sum_s (f : Nat → Nat) (n : Nat) : sd_sum f (n + 1) = sd_sum f n + f n := rfl
theorem sd_cnt_s (P : Nat → Bool) (n : Nat) : sd_cnt P (n + 1) = sd_cnt P n + (if P n then 1 else 0) := rfl
theorem sd_sum_le {f g : Nat → Nat} : ∀ {n : Nat}, (∀ i, i < n → f i ≤ g i) → sd_sum f n ≤ sd_sum g n
  | 0, _ => Nat.le_refl _
  | n + 1, h => Nat.add_le_add (sd_sum_le (fun i hi => h i (Nat.lt_succ_of_lt hi))) (h n (Nat.lt_succ_self n))
theorem sd_sum_congr {f g : Nat → Nat} {n : Nat} (h : ∀ i, i < n → f i = g i) : sd_sum f n = sd_sum g n :=
  Nat.le_antisymm (sd_sum_le (fun i hi => Nat.le_of_eq (h i hi))) (sd_sum_le (fun i hi => Nat.le_of_eq (h i hi).symm))
theorem sd_sum_add (f g : Nat → Nat) : ∀ n : Nat, sd_sum (fun i => f i + g i) n = sd_sum f n + sd_sum g n
  | 0 => rfl
  | n + 1 => by rw [sd_sum_s, sd_sum_s, sd_sum_s, sd_sum_add f g n]; omega
theorem sd_sum_mul (c : Nat) (f : Nat → Nat) : ∀ n : Nat, sd_sum (fun i => c * f i) n = c * sd_sum f n
  | 0 => rfl
  | n + 1 => by rw [sd_sum_s, sd_sum_s, sd_sum_mul c f n, Nat.mul_add]
theorem sd_sum_upd {f g : Nat → Nat} {p : Nat} : ∀ {n : Nat}, p < n → (∀ i, i < n → i ≠ p → g i = f i) → sd_sum g n + f p = sd_sum f n + g p
  | 0, h, _ => absurd h (Nat.not_lt_zero _)
  | n + 1, h, hs => by
    rw [sd_sum_s, sd_sum_s]
    by_cases e : p = n
    · subst e
      have := sd_sum_congr (n := p) (fun i hi => hs i (Nat.lt_succ_of_lt hi) (Nat.ne_of_lt hi))
      omega
    · have h1 : p < n := by omega
      have h2 := sd_sum_upd h1 (fun i hi hn => hs i (Nat.lt_succ_of_lt hi) hn)
      have h3 := hs n (Nat.lt_succ_self n) (fun z => e z.symm)
      omega
theorem sd_sum_split {s : Nat → Nat} {p n : Nat} (hp : p < n) : sd_sum s n = s p + sd_sum (fun i => if i = p then 0 else s i) n := by
  have h := sd_sum_upd (f := fun i => if i = p then 0 else s i) (g := s) hp (fun i _ hn => (if_neg hn).symm)
  simp only [if_true] at h
  omega
theorem sd_sum_zero {f : Nat → Nat} {n : Nat} (h : ∀ i, i < n → f i = 0) : sd_sum f n = 0 := by
  have h1 := sd_sum_congr (g := fun _ => 0) h
  have h2 : ∀ m : Nat, sd_sum (fun _ => 0) m = 0 := by
    intro m
    induction m with
    | zero => rfl
    | succ m ih => rw [sd_sum_s, ih]
  rw [h1, h2]
theorem sd_sum_pos {f : Nat → Nat} : ∀ {n : Nat}, 0 < sd_sum f n → ∃ i, i < n ∧ 0 < f i
  | 0, h => absurd h (Nat.lt_irrefl _)
  | n + 1, h => by
    rw [sd_sum_s] at h
    by_cases e : 0 < f n
    · exact ⟨n, Nat.lt_succ_self n, e⟩
    · obtain ⟨i, h1, h2⟩ := sd_sum_pos (f := f) (n := n) (by omega)
      exact ⟨i, Nat.lt_succ_of_lt h1, h2⟩
theorem sd_sum_ge {f : Nat → Nat} {p n : Nat} (hp : p < n) : f p ≤ sd_sum f n := by
  have := sd_sum_split (s := f) hp
  omega
theorem sd_sum_bound {f : Nat → Nat} {B : Nat} : ∀ {n : Nat}, (∀ i, i < n → f i ≤ B) → sd_sum f n ≤ n * B
  | 0, _ => Nat.zero_le _
  | n + 1, h => by
    rw [sd_sum_s, Nat.succ_mul]
    exact Nat.add_le_add (sd_sum_bound (fun i hi => h i (Nat.lt_succ_of_lt hi))) (h n (Nat.lt_succ_self n))
theorem sd_sum_mono {f : Nat → Nat} {a b : Nat} (h : a ≤ b) : sd_sum f a ≤ sd_sum f b := by
  induction b with
  | zero => rw [Nat.le_zero.mp h]; exact Nat.le_refl _
  | succ b ih =>
    by_cases e : a = b + 1
    · rw [e]; exact Nat.le_refl _
    · have := ih (by omega)
      rw [sd_sum_s]
      omega
theorem sd_cnt_sum (P : Nat → Bool) : ∀ n : Nat, sd_cnt P n = sd_sum (fun i => if P i then 1 else 0) n
  | 0 => rfl
  | n + 1 => by rw [sd_cnt_s, sd_sum_s, sd_cnt_sum P n]
theorem sd_cnt_le {P Q : Nat → Bool} {n : Nat} (h : ∀ i, i < n → P i = true → Q i = true) : sd_cnt P n ≤ sd_cnt Q n := by
  rw [sd_cnt_sum, sd_cnt_sum]
  refine sd_sum_le (fun i hi => ?_)
  cases hp : P i with
  | false => exact Nat.zero_le _
  | true => rw [h i hi hp]; exact Nat.le_refl _
theorem sd_cnt_lt {P Q : Nat → Bool} {n p : Nat} (hp : p < n) (h : ∀ i, i < n → P i = true → Q i = true) (h1 : P p = false) (h2 : Q p = true) : sd_cnt P n < sd_cnt Q n := by
  rw [sd_cnt_sum, sd_cnt_sum]
  rw [sd_sum_split hp, sd_sum_split (s := fun i => if Q i then 1 else 0) hp]
  have h3 : sd_sum (fun i => if i = p then 0 else if P i then 1 else 0) n ≤ sd_sum (fun i => if i = p then 0 else if Q i then 1 else 0) n := by
    refine sd_sum_le (fun i hi => ?_)
    by_cases e : i = p
    · rw [if_pos e, if_pos e]; exact Nat.le_refl _
    · rw [if_neg e, if_neg e]
      cases hq : P i with
      | false => exact Nat.zero_le _
      | true => rw [h i hi hq]; exact Nat.le_refl _
  have h4 : (if P p then 1 else 0) = 0 := by rw [h1]; rfl
  have h5 : (if Q p then 1 else 0) = 1 := by rw [h2]; rfl
  show (if P p then 1 else 0) + _ < (if Q p then 1 else 0) + _
  rw [h4, h5]
  omega
theorem sd_cnt_all {P : Nat → Bool} : ∀ {n : Nat}, (∀ i, i < n → P i = true) → sd_cnt P n = n
  | 0, _ => rfl
  | n + 1, h => by rw [sd_cnt_s, sd_cnt_all (fun i hi => h i (Nat.lt_succ_of_lt hi)), h n (Nat.lt_succ_self n)]; rfl
theorem sd_cnt_lim (P : Nat → Bool) : ∀ n : Nat, sd_cnt P n ≤ n
  | 0 => Nat.le_refl _
  | n + 1 => by
    rw [sd_cnt_s]
    have := sd_cnt_lim P n
    cases P n <;> simp <;> omega
/-! ### ways 1 and 2: one by one -/
/-- the divisor of a party's j-th unit -/
def sd_dv (y j : Nat) : Nat := y * (j - 1) + 1
def sd_bt (y : Nat) (w s : Nat → Nat) (p : Nat) : Option Nat → Bool
  | none => true
  | some b => decide (w b * (y * s p + 1) < w p * (y * s b + 1))
def sd_best (y : Nat) (w s : Nat → Nat) : Nat → Option Nat
  | 0 => none
  | p + 1 => if decide (0 < w p) && sd_bt y w s p (sd_best y w s p) then some p else sd_best y w s p
theorem sd_best_none {y : Nat} {w s : Nat → Nat} : ∀ {n : Nat}, sd_best y w s n = none → ∀ p, p < n → w p = 0
  | 0, _, p, hp => absurd hp (Nat.not_lt_zero _)
  | n + 1, h, p, hp => by
    unfold sd_best at h
    by_cases c : (decide (0 < w n) && sd_bt y w s n (sd_best y w s n)) = true
    · rw [if_pos c] at h; cases h
    · rw [if_neg c] at h
      have ih := sd_best_none h
      by_cases e : p = n
      · subst e
        rw [h] at c
        simp [sd_bt] at c
        omega
      · exact ih p (by omega)
theorem sd_cross {a b c x y z : Nat} (hx : 0 < x) (h1 : a * y ≤ b * x) (h2 : b * z < c * y) : a * z < c * x := by
  have h3 : a * y * z ≤ b * x * z := Nat.mul_le_mul_right z h1
  have h4 : b * z * x < c * y * x := Nat.mul_lt_mul_of_pos_right h2 hx
  have e1 : a * z * y = a * y * z := Nat.mul_right_comm a z y
  have e2 : b * x * z = b * z * x := Nat.mul_right_comm b x z
  have e3 : c * y * x = c * x * y := Nat.mul_right_comm c y x
  have h5 : a * z * y < c * x * y := by omega
  exact Nat.lt_of_mul_lt_mul_right h5
theorem sd_best_some {y : Nat} {w s : Nat → Nat} : ∀ {n b : Nat}, sd_best y w s n = some b →
    b < n ∧ 0 < w b ∧ ∀ p, p < n → 0 < w p → p ≠ b → (w p * (y * s b + 1) < w b * (y * s p + 1) ∨ (w p * (y * s b + 1) = w b * (y * s p + 1) ∧ b < p))
  | 0, b, h => by cases h
  | n + 1, b, h => by
    unfold sd_best at h
    by_cases c : (decide (0 < w n) && sd_bt y w s n (sd_best y w s n)) = true
    · rw [if_pos c] at h
      cases h
      rw [Bool.and_eq_true, decide_eq_true_eq] at c
      refine ⟨Nat.lt_succ_self n, c.1, fun p hp hw hn => Or.inl ?_⟩
      have hp' : p < n := by omega
      cases hb : sd_best y w s n with
      | none => have := sd_best_none hb p hp'; omega
      | some b' =>
        have c2 := c.2
        rw [hb] at c2
        have c3 : w b' * (y * s n + 1) < w n * (y * s b' + 1) := of_decide_eq_true c2
        obtain ⟨-, -, ih⟩ := sd_best_some hb
        by_cases e : p = b'
        · subst e; exact c3
        · refine sd_cross (y := y * s b' + 1) (Nat.succ_pos _) ?_ c3
          rcases ih p hp' hw e with h | h
          · exact Nat.le_of_lt h
          · exact Nat.le_of_eq h.1
    · rw [if_neg c] at h
      obtain ⟨h1, h2, ih⟩ := sd_best_some h
      refine ⟨by omega, h2, fun p hp hw hn => ?_⟩
      by_cases e : p = n
      · subst e
        rw [h, Bool.and_eq_true, decide_eq_true_eq] at c
        have c2 : ¬ (w b * (y * s p + 1) < w p * (y * s b + 1)) := fun z => c ⟨hw, decide_eq_true z⟩
        rcases Nat.lt_or_ge (w p * (y * s b + 1)) (w b * (y * s p + 1)) with z | z
        · exact Or.inl z
        · exact Or.inr ⟨by omega, h1⟩
      · exact ih p (by omega) hw hn
def sd_one (y : Nat) (w : Nat → Nat) (n : Nat) (s : Nat → Nat) : Nat → Nat := match sd_best y w s n with
  | none => s
  | some b => sd_up s b (s b + 1)
def sd_G (y : Nat) (w : Nat → Nat) (n : Nat) : Nat → (Nat → Nat)
  | 0 => fun _ => 0
  | m + 1 => sd_one y w n (sd_G y w n m)
/-- party i's j-th unit goes out before party p's k-th -/
def sd_bf (y : Nat) (w : Nat → Nat) (i j p k : Nat) : Prop := sd_dv y j * w p < sd_dv y k * w i ∨ (sd_dv y j * w p = sd_dv y k * w i ∧ i < p)
def sd_inv (y : Nat) (w : Nat → Nat) (n : Nat) (s : Nat → Nat) (m : Nat) : Prop :=
  sd_sum s n = m ∧ (∀ i, i < n → w i = 0 → s i = 0) ∧ ∀ i j, i < n → j < n → i ≠ j → 1 ≤ s i → 0 < w j → sd_bf y w i (s i) j (s j + 1)
theorem sd_dv_mono {y j k : Nat} (h : j ≤ k) : sd_dv y j ≤ sd_dv y k := by
  unfold sd_dv
  have : y * (j - 1) ≤ y * (k - 1) := Nat.mul_le_mul_left y (by omega)
  omega
theorem sd_dv_pos (y j : Nat) : 0 < sd_dv y j := Nat.succ_pos _
theorem sd_bf_right {y : Nat} {w : Nat → Nat} {i j p k k' : Nat} (hk : k ≤ k') (h : sd_bf y w i j p k) : sd_bf y w i j p k' := by
  have h1 : sd_dv y k * w i ≤ sd_dv y k' * w i := Nat.mul_le_mul_right _ (sd_dv_mono hk)
  unfold sd_bf at *
  rcases h with h | ⟨h, h2⟩
  · left; omega
  · by_cases e : sd_dv y j * w p = sd_dv y k' * w i
    · exact Or.inr ⟨e, h2⟩
    · left; omega
theorem sd_bf_left {y : Nat} {w : Nat → Nat} {i j j' p k : Nat} (hj : j ≤ j') (h : sd_bf y w i j' p k) : sd_bf y w i j p k := by
  have h1 : sd_dv y j * w p ≤ sd_dv y j' * w p := Nat.mul_le_mul_right _ (sd_dv_mono hj)
  unfold sd_bf at *
  rcases h with h | ⟨h, h2⟩
  · left; omega
  · by_cases e : sd_dv y j * w p = sd_dv y k * w i
    · exact Or.inr ⟨e, h2⟩
    · left; omega
theorem sd_bf_anti {y : Nat} {w : Nat → Nat} {i j p k : Nat} (h1 : sd_bf y w i j p k) (h2 : sd_bf y w p k i j) : False := by
  unfold sd_bf at *
  rcases h1 with h1 | ⟨h1, g1⟩ <;> rcases h2 with h2 | ⟨h2, g2⟩ <;> omega
theorem sd_up_self (f : Nat → Nat) (p v : Nat) : sd_up f p v p = v := if_pos rfl
theorem sd_up_ne {f : Nat → Nat} {p v i : Nat} (h : i ≠ p) : sd_up f p v i = f i := if_neg h
theorem sd_inv_one {y : Nat} {w : Nat → Nat} {n : Nat} {s : Nat → Nat} {m : Nat} (hw : ∃ p, p < n ∧ 0 < w p) (h : sd_inv y w n s m) : sd_inv y w n (sd_one y w n s) (m + 1) := by
  obtain ⟨h1, h2, h3⟩ := h
  cases hb : sd_best y w s n with
  | none =>
    obtain ⟨p, hp, hw⟩ := hw
    have := sd_best_none hb p hp
    omega
  | some b =>
    have e0 : sd_one y w n s = sd_up s b (s b + 1) := by unfold sd_one; rw [hb]
    rw [e0]
    obtain ⟨g1, g2, g3⟩ := sd_best_some hb
    have hup := sd_sum_upd (f := s) (g := sd_up s b (s b + 1)) g1 (fun i _ hi => sd_up_ne hi)
    rw [sd_up_self] at hup
    refine ⟨by omega, fun i hi hwi => ?_, fun i j hi hj hij hs hwj => ?_⟩
    · rw [sd_up_ne (by intro e; subst e; omega)]
      exact h2 i hi hwi
    · by_cases e1 : i = b
      · subst e1
        rw [sd_up_self, sd_up_ne (fun z => hij z.symm)]
        have g4 := g3 j hj hwj (fun z => hij z.symm)
        unfold sd_bf sd_dv
        rw [Nat.add_sub_cancel, Nat.add_sub_cancel]
        rw [Nat.mul_comm (y * s i + 1), Nat.mul_comm (y * s j + 1)]
        exact g4
      · rw [sd_up_ne e1] at hs ⊢
        by_cases e2 : j = b
        · subst e2
          rw [sd_up_self]
          exact sd_bf_right (by omega) (h3 i j hi hj hij hs hwj)
        · rw [sd_up_ne e2]
          exact h3 i j hi hj hij hs hwj
theorem sd_inv_G {y : Nat} {w : Nat → Nat} {n : Nat} (hw : ∃ p, p < n ∧ 0 < w p) : ∀ m : Nat, sd_inv y w n (sd_G y w n m) m
  | 0 => ⟨sd_sum_zero (fun _ _ => rfl), fun _ _ _ => rfl, fun i j _ _ _ h => absurd h (Nat.not_succ_le_zero _)⟩
  | m + 1 => sd_inv_one hw (sd_inv_G hw m)
/-- how many units party i gets before party p gets its k-th -/
def sd_ub (y : Nat) (w : Nat → Nat) (k p i : Nat) : Nat := if w i = 0 then 0 else
  if y = 1 then (sd_dv y k * w i - (if p < i then 1 else 0)) / w p else ((sd_dv y k * w i - (if p < i then 1 else 0)) / w p + 1) / 2
theorem sd_ub_iff {y : Nat} {w : Nat → Nat} {i j p k : Nat} (hy : y = 1 ∨ y = 2) (hp : 0 < w p) (hj : 1 ≤ j) (hi : 0 < w i) (hn : i ≠ p) : j ≤ sd_ub y w k p i ↔ sd_bf y w i j p k := by
  have hr : 0 < sd_dv y k * w i := Nat.mul_pos (sd_dv_pos y k) hi
  have h1 : sd_bf y w i j p k ↔ sd_dv y j * w p ≤ sd_dv y k * w i - (if p < i then 1 else 0) := by
    unfold sd_bf
    by_cases e : p < i
    · rw [if_pos e]; omega
    · rw [if_neg e]; omega
  rw [h1, ← Nat.le_div_iff_mul_le hp]
  unfold sd_ub
  rw [if_neg (by omega)]
  generalize (sd_dv y k * w i - (if p < i then 1 else 0)) / w p = g
  rcases hy with rfl | rfl
  · rw [if_pos rfl]
    unfold sd_dv
    omega
  · rw [if_neg (by omega)]
    unfold sd_dv
    omega
/-- which unit, counted from 1, is the k-th of party p -/
def sd_turn (y : Nat) (w : Nat → Nat) (n k p : Nat) : Nat := k + sd_sum (fun i => if i = p then 0 else sd_ub y w k p i) n
theorem sd_turn_iff {y : Nat} {w : Nat → Nat} {n : Nat} {s : Nat → Nat} {m k p : Nat} (hy : y = 1 ∨ y = 2) (h : sd_inv y w n s m) (hpn : p < n) (hp : 0 < w p) (hk : 1 ≤ k) : sd_turn y w n k p ≤ m ↔ k ≤ s p := by
  obtain ⟨h1, h2, h3⟩ := h
  have hs := sd_sum_split (s := s) hpn
  unfold sd_turn
  constructor
  · intro hle
    rcases Nat.lt_or_ge (s p) k with z | z
    · exfalso
      have : sd_sum (fun i => if i = p then 0 else s i) n ≤ sd_sum (fun i => if i = p then 0 else sd_ub y w k p i) n := by
        refine sd_sum_le (fun i hi => ?_)
        by_cases e : i = p
        · rw [if_pos e, if_pos e]; exact Nat.le_refl _
        · rw [if_neg e, if_neg e]
          by_cases e0 : s i = 0
          · rw [e0]; exact Nat.zero_le _
          · have hwi : 0 < w i := Nat.pos_of_ne_zero (fun z => e0 (h2 i hi z))
            rw [sd_ub_iff hy hp (by omega) hwi e]
            exact sd_bf_right z (h3 i p hi hpn e (by omega) hp)
      omega
    · exact z
  · intro hle
    have : sd_sum (fun i => if i = p then 0 else sd_ub y w k p i) n ≤ sd_sum (fun i => if i = p then 0 else s i) n := by
      refine sd_sum_le (fun i hi => ?_)
      by_cases e : i = p
      · rw [if_pos e, if_pos e]; exact Nat.le_refl _
      · rw [if_neg e, if_neg e]
        by_cases hwi : w i = 0
        · unfold sd_ub; rw [if_pos hwi]; exact Nat.zero_le _
        · rcases Nat.lt_or_ge (s i) (sd_ub y w k p i) with z | z
          · exfalso
            have z2 := (sd_ub_iff (j := s i + 1) hy hp (by omega) (Nat.pos_of_ne_zero hwi) e).mp z
            have z3 := h3 p i hpn hi (fun z => e z.symm) (by omega) (Nat.pos_of_ne_zero hwi)
            exact sd_bf_anti z2 (sd_bf_left hle z3)
          · exact z
    omega
/-! ### way 0: the greatest rests -/
def sd_rs (w : Nat → Nat) (W m i : Nat) : Nat := m * w i % W
def sd_ab (r : Nat → Nat) (p i : Nat) : Bool := decide (r p < r i) || (decide (r i = r p) && decide (i < p))
def sd_u0 (w : Nat → Nat) (n m p : Nat) : Nat := m * w p / sd_sum w n + (if sd_cnt (sd_ab (sd_rs w (sd_sum w n) m) p) n < sd_sum (sd_rs w (sd_sum w n) m) n / sd_sum w n then 1 else 0)
def sd_pt (r : Nat → Nat) (p : Nat) : Option Nat → Bool
  | none => true
  | some b => decide (r b < r p)
def sd_pk (r : Nat → Nat) (g : Nat → Bool) : Nat → Option Nat
  | 0 => none
  | p + 1 => if !g p && sd_pt r p (sd_pk r g p) then some p else sd_pk r g p
theorem sd_pk_none {r : Nat → Nat} {g : Nat → Bool} : ∀ {n : Nat}, sd_pk r g n = none → ∀ p, p < n → g p = true
  | 0, _, p, hp => absurd hp (Nat.not_lt_zero _)
  | n + 1, h, p, hp => by
    unfold sd_pk at h
    by_cases c : (!g n && sd_pt r n (sd_pk r g n)) = true
    · rw [if_pos c] at h; cases h
    · rw [if_neg c] at h
      by_cases e : p = n
      · subst e
        rw [h] at c
        cases hg : g p with
        | true => rfl
        | false => exact absurd (by rw [hg]; rfl) c
      · exact sd_pk_none h p (by omega)
theorem sd_pk_some {r : Nat → Nat} {g : Nat → Bool} : ∀ {n b : Nat}, sd_pk r g n = some b → b < n ∧ g b = false ∧ ∀ p, p < n → g p = false → p ≠ b → (r p < r b ∨ (r p = r b ∧ b < p))
  | 0, b, h => by cases h
  | n + 1, b, h => by
    unfold sd_pk at h
    by_cases c : (!g n && sd_pt r n (sd_pk r g n)) = true
    · rw [if_pos c] at h
      cases h
      rw [Bool.and_eq_true] at c
      obtain ⟨c1, c2⟩ := c
      refine ⟨Nat.lt_succ_self n, by simpa using c1, fun p hp hw hn => Or.inl ?_⟩
      have hp' : p < n := by omega
      cases hb : sd_pk r g n with
      | none => have := sd_pk_none hb p hp'; rw [this] at hw; cases hw
      | some b' =>
        rw [hb] at c2
        have c3 : r b' < r n := of_decide_eq_true c2
        obtain ⟨-, -, ih⟩ := sd_pk_some hb
        by_cases e : p = b'
        · subst e; exact c3
        · rcases ih p hp' hw e with h | h <;> omega
    · rw [if_neg c] at h
      obtain ⟨h1, h2, ih⟩ := sd_pk_some h
      refine ⟨by omega, h2, fun p hp hw hn => ?_⟩
      by_cases e : p = n
      · subst e
        rw [h] at c
        have c2 : ¬ (r b < r p) := fun z => c (by rw [hw]; exact decide_eq_true z)
        rcases Nat.lt_or_ge (r p) (r b) with z | z
        · exact Or.inl z
        · exact Or.inr ⟨by omega, h1⟩
      · exact ih p (by omega) hw hn
def sd_gs (r : Nat → Nat) (n : Nat) : Nat → (Nat → Bool)
  | 0 => fun _ => false
  | t + 1 => match sd_pk r (sd_gs r n t) n with
    | none => sd_gs r n t
    | some b => fun i => if i = b then true else sd_gs r n t i
theorem sd_gs_pick {r : Nat → Nat} {n t : Nat} (ht : sd_cnt (sd_gs r n t) n < n) : ∃ b, sd_pk r (sd_gs r n t) n = some b := by
  cases hb : sd_pk r (sd_gs r n t) n with
  | some b => exact ⟨b, rfl⟩
  | none => have := sd_cnt_all (sd_pk_none hb); omega
theorem sd_gs_inv {r : Nat → Nat} {n : Nat} : ∀ {t : Nat}, t ≤ n → sd_cnt (sd_gs r n t) n = t ∧ ∀ g u, g < n → u < n → sd_gs r n t g = true → sd_gs r n t u = false → sd_ab r u g = true
  | 0, _ => ⟨by rw [sd_cnt_sum]; exact sd_sum_zero (fun _ _ => rfl), fun g u _ _ h => by cases h⟩
  | t + 1, ht => by
    obtain ⟨h1, h2⟩ := sd_gs_inv (r := r) (n := n) (t := t) (by omega)
    obtain ⟨b, hb⟩ := sd_gs_pick (r := r) (n := n) (t := t) (by omega)
    obtain ⟨g1, g2, g3⟩ := sd_pk_some hb
    have e : sd_gs r n (t + 1) = fun i => if i = b then true else sd_gs r n t i := by
      show (match sd_pk r (sd_gs r n t) n with
        | none => sd_gs r n t
        | some b => fun i => if i = b then true else sd_gs r n t i) = _
      rw [hb]
    rw [e]
    refine ⟨?_, fun g u hg hu hgt huf => ?_⟩
    · have hx := sd_sum_upd (f := fun i => if sd_gs r n t i then 1 else 0) (g := fun i => if (if i = b then true else sd_gs r n t i) then 1 else 0) g1 (fun i _ hi => by show (if (if i = b then true else sd_gs r n t i) then 1 else 0) = _; rw [if_neg hi])
      rw [← sd_cnt_sum, ← sd_cnt_sum] at hx
      have hf : (if sd_gs r n t b then 1 else 0) = 0 := by rw [g2]; rfl
      have hg : (if (if b = b then true else sd_gs r n t b) then 1 else 0) = 1 := by rw [if_pos (rfl : b = b)]; rfl
      have hx2 : sd_cnt (fun i => if i = b then true else sd_gs r n t i) n + (if sd_gs r n t b then 1 else 0) = sd_cnt (sd_gs r n t) n + (if (if b = b then true else sd_gs r n t b) then 1 else 0) := hx
      rw [hf, hg] at hx2
      omega
    · have hub : u ≠ b := by intro z; subst z; simp at huf
      have huf' : sd_gs r n t u = false := by simpa [hub] using huf
      by_cases z : g = b
      · subst z
        have := g3 u hu huf' hub
        unfold sd_ab
        rcases this with h | ⟨h, h'⟩
        · rw [decide_eq_true h]; rfl
        · rw [decide_eq_true h.symm, decide_eq_true h']; simp
      · have hgt' : sd_gs r n t g = true := by simpa [z] using hgt
        exact h2 g u hg hu hgt' huf'
theorem sd_ab_irr (r : Nat → Nat) (p : Nat) : sd_ab r p p = false := by simp [sd_ab]
theorem sd_ab_anti {r : Nat → Nat} {p i : Nat} (h : sd_ab r p i = true) : sd_ab r i p = false := by
  simp [sd_ab] at *
  omega
theorem sd_gs_iff {r : Nat → Nat} {n t p : Nat} (ht : t ≤ n) (hp : p < n) : sd_gs r n t p = decide (sd_cnt (sd_ab r p) n < t) := by
  obtain ⟨h1, h2⟩ := sd_gs_inv (r := r) ht
  cases hg : sd_gs r n t p with
  | true =>
    refine (decide_eq_true ?_).symm
    have := sd_cnt_lt (P := sd_ab r p) (Q := sd_gs r n t) hp (fun i hi ha => by
      cases hq : sd_gs r n t i with
      | true => rfl
      | false =>
        have h3 := sd_ab_anti (h2 p i hp hi hg hq)
        rw [h3] at ha
        cases ha) (sd_ab_irr r p) hg
    omega
  | false =>
    refine (decide_eq_false ?_).symm
    have := sd_cnt_le (P := sd_gs r n t) (Q := sd_ab r p) (n := n) (fun i hi ha => h2 i p hi hp ha hg)
    omega
/-- the units that are left over are the sum of the rests, divided by the sum of the weights -/
theorem sd_left {w : Nat → Nat} {n m : Nat} (hW : 0 < sd_sum w n) : sd_sum (fun i => m * w i / sd_sum w n) n + sd_sum (sd_rs w (sd_sum w n) m) n / sd_sum w n = m ∧ sd_sum (sd_rs w (sd_sum w n) m) n / sd_sum w n < n := by
  generalize hq : sd_sum w n = W at *
  have h1 : sd_sum (fun i => m * w i) n = W * sd_sum (fun i => m * w i / W) n + sd_sum (sd_rs w W m) n := by
    rw [← sd_sum_mul, ← sd_sum_add]
    exact sd_sum_congr (fun i _ => (Nat.div_add_mod (m * w i) W).symm)
  rw [sd_sum_mul, hq] at h1
  have h2 : sd_sum (sd_rs w W m) n ≤ n * (W - 1) := sd_sum_bound (fun i _ => by
    have := Nat.mod_lt (m * w i) hW
    show m * w i % W ≤ W - 1
    omega)
  have hn : 0 < n := by
    rcases Nat.eq_zero_or_pos n with z | z
    · subst z; rw [← hq] at hW; exact absurd hW (Nat.lt_irrefl _)
    · exact z
  refine ⟨?_, ?_⟩
  · have h3 : W * m = W * sd_sum (fun i => m * w i / W) n + sd_sum (sd_rs w W m) n := by rw [← h1, Nat.mul_comm]
    have h4 : W * m / W = sd_sum (fun i => m * w i / W) n + sd_sum (sd_rs w W m) n / W := by
      rw [h3, Nat.mul_comm W, Nat.add_comm, Nat.add_mul_div_right _ _ hW, Nat.add_comm]
    rw [Nat.mul_div_cancel_left m hW] at h4
    exact h4.symm
  · rw [Nat.div_lt_iff_lt_mul hW]
    have h5 : n * (W - 1) < n * W := Nat.mul_lt_mul_of_pos_left (by omega) hn
    omega
theorem sd_u0_gs {w : Nat → Nat} {n m p : Nat} (hW : 0 < sd_sum w n) (hp : p < n) : sd_u0 w n m p = m * w p / sd_sum w n + (if sd_gs (sd_rs w (sd_sum w n) m) n (sd_sum (sd_rs w (sd_sum w n) m) n / sd_sum w n) p then 1 else 0) := by
  unfold sd_u0
  rw [sd_gs_iff (Nat.le_of_lt (sd_left (m := m) hW).2) hp]
  simp
theorem sd_u0_sum {w : Nat → Nat} {n m : Nat} (hW : 0 < sd_sum w n) : sd_sum (sd_u0 w n m) n = m := by
  rw [sd_sum_congr (fun p hp => sd_u0_gs hW hp), sd_sum_add, ← sd_cnt_sum, (sd_gs_inv (Nat.le_of_lt (sd_left (m := m) hW).2)).1]
  exact (sd_left (m := m) hW).1
theorem sd_u0_early {w : Nat → Nat} {n m p k : Nat} (hW : 0 < sd_sum w n) (hp : 0 < w p) (hk : 1 ≤ k) (h : m < (k - 1) * sd_sum w n / w p) : sd_u0 w n m p < k := by
  have h1 : (m + 1) * w p ≤ (k - 1) * sd_sum w n := (Nat.le_div_iff_mul_le hp).mp h
  have h2 : m * w p < (k - 1) * sd_sum w n := by rw [Nat.succ_mul] at h1; omega
  have h3 : m * w p / sd_sum w n < k - 1 := (Nat.div_lt_iff_lt_mul hW).mpr h2
  unfold sd_u0
  split <;> omega
/-! ### the share, whatever the way; next; least -/
def sd_U (y : Nat) (w : Nat → Nat) (n m p : Nat) : Nat := if y = 0 then sd_u0 w n m p else sd_G y w n m p
theorem sd_U_sum {y : Nat} {w : Nat → Nat} {n m : Nat} (hW : 0 < sd_sum w n) : sd_sum (sd_U y w n m) n = m := by
  by_cases e : y = 0
  · subst e
    exact sd_u0_sum hW
  · have h1 : sd_U y w n m = sd_G y w n m := by funext p; exact if_neg e
    rw [h1]
    exact (sd_inv_G (sd_sum_pos hW) m).1
theorem sd_U_le {y : Nat} {w : Nat → Nat} {n m p : Nat} (hW : 0 < sd_sum w n) (hp : p < n) : sd_U y w n m p ≤ m := by
  have h1 := sd_sum_ge (f := sd_U y w n m) hp
  rw [sd_U_sum hW] at h1
  exact h1
def sd_nc (f g : Nat → Nat) : Nat → Option (Option Nat)
  | 0 => some none
  | i + 1 => match sd_nc f g i with
    | none => none
    | some c => if f i = g i then some c else match c with
      | none => some (some i)
      | some _ => none
def sd_nm (f g : Nat → Nat) : Nat → Option (Option Nat)
  | 0 => some none
  | i + 1 => match sd_nm f g i with
    | none => none
    | some c => if f i = g i then some c else match c with
      | none => if g i = f i + 1 then some (some i) else none
      | some _ => none
def sd_na : Option (Option Nat) → Option Nat
  | some (some i) => some i
  | _ => none
theorem sd_nc_at {f g : Nat → Nat} : ∀ {n : Nat}, (sd_nc f g n = some none → ∀ j, j < n → f j = g j) ∧ ∀ i, sd_nc f g n = some (some i) → i < n ∧ f i ≠ g i ∧ ∀ j, j < n → j ≠ i → f j = g j
  | 0 => ⟨fun _ j hj => absurd hj (Nat.not_lt_zero _), fun i h => by cases h⟩
  | n + 1 => by
    obtain ⟨ih1, ih2⟩ := sd_nc_at (f := f) (g := g) (n := n)
    unfold sd_nc
    cases hc : sd_nc f g n with
    | none => exact ⟨fun h => (by simp at h), fun i h => (by simp at h)⟩
    | some c =>
      by_cases e : f n = g n
      · refine ⟨fun h j hj => ?_, fun i h => ?_⟩
        · simp only [e, if_true] at h
          by_cases z : j = n
          · subst z; exact e
          · exact ih1 (by rw [hc, h]) j (by omega)
        · simp only [e, if_true] at h
          obtain ⟨q1, q2, q3⟩ := ih2 i (by rw [hc, h])
          refine ⟨by omega, q2, fun j hj hn => ?_⟩
          by_cases z : j = n
          · subst z; exact e
          · exact q3 j (by omega) hn
      · cases c with
        | none =>
          refine ⟨fun h => by simp [e] at h, fun i h => ?_⟩
          simp [e] at h
          subst h
          exact ⟨Nat.lt_succ_self _, e, fun j hj hn => ih1 hc j (by omega)⟩
        | some c => exact ⟨fun h => by simp [e] at h, fun i h => by simp [e] at h⟩
theorem sd_nm_nc {f g : Nat → Nat} : ∀ {n : Nat}, sd_nm f g n = sd_nc f g n ∨ (sd_nm f g n = none ∧ (sd_nc f g n = none ∨ ∃ i, sd_nc f g n = some (some i) ∧ g i ≠ f i + 1))
  | 0 => Or.inl rfl
  | n + 1 => by
    have ih := sd_nm_nc (f := f) (g := g) (n := n)
    unfold sd_nm sd_nc
    rcases ih with ih | ⟨ih, ih2⟩
    · rw [ih]
      cases hc : sd_nc f g n with
      | none => exact Or.inl rfl
      | some c =>
        by_cases e : f n = g n
        · left; simp [e]
        · cases c with
          | some c => left; rfl
          | none =>
            by_cases z : g n = f n + 1
            · left; simp [z]
            · right; simp [e, z]
    · right
      rw [ih]
      refine ⟨rfl, ?_⟩
      rcases ih2 with h | ⟨i, h, hi⟩
      · left; rw [h]
      · rw [h]
        by_cases e : f n = g n
        · right; exact ⟨i, by simp [e], hi⟩
        · left; simp [e]
theorem sd_next_eq {f g : Nat → Nat} {n : Nat} (h : sd_sum g n = sd_sum f n + 1) : sd_na (sd_nm f g n) = sd_na (sd_nc f g n) := by
  rcases sd_nm_nc (f := f) (g := g) (n := n) with z | ⟨z, z2⟩
  · rw [z]
  · rw [z]
    rcases z2 with z2 | ⟨i, z2, z3⟩
    · rw [z2]
    · exfalso
      obtain ⟨q1, q2, q3⟩ := (sd_nc_at (f := f) (g := g) (n := n)).2 i z2
      have := sd_sum_upd (f := f) (g := g) q1 (fun j hj hn => (q3 j hj hn).symm)
      omega
end
section
/-! Pure part, second half: bounds, the first of many, answers as ints. -/
def sd_oi : Option Nat → Int32
  | none => -1
  | some k => nI k
def sd_lst (Q : Nat → Bool) : Nat → Option Nat
  | 0 => none
  | N + 1 => match sd_lst Q N with
    | some m => some m
    | none => if Q N then some N else none
theorem sd_lst_s (Q : Nat → Bool) (N : Nat) : sd_lst Q (N + 1) = match sd_lst Q N with
    | some m => some m
    | none => if Q N then some N else none := rfl
theorem sd_lst_none {Q : Nat → Bool} : ∀ {N : Nat}, (∀ j, j < N → Q j = false) → sd_lst Q N = none
  | 0, _ => rfl
  | N + 1, h => by rw [sd_lst_s, sd_lst_none (fun j hj => h j (Nat.lt_succ_of_lt hj)), h N (Nat.lt_succ_self N)]; rfl
theorem sd_lst_at {Q : Nat → Bool} {m : Nat} (h : ∀ j, j < m → Q j = false) (hm : Q m = true) : ∀ {N : Nat}, m < N → sd_lst Q N = some m
  | 0, z => absurd z (Nat.not_lt_zero _)
  | N + 1, z => by
    rw [sd_lst_s]
    by_cases e : m = N
    · subst e
      rw [sd_lst_none h, hm]; rfl
    · rw [sd_lst_at h hm (by omega)]
theorem sd_dv_le {y k : Nat} (hy : y ≤ 2) (hk : 1 ≤ k) : sd_dv y k ≤ 2 * k := by
  unfold sd_dv
  have : y * (k - 1) ≤ 2 * (k - 1) := Nat.mul_le_mul_right _ hy
  omega
theorem sd_dv1 {k : Nat} (hk : 1 ≤ k) : sd_dv 1 k = k := by unfold sd_dv; omega
theorem sd_dv2 {k : Nat} (hk : 1 ≤ k) : sd_dv 2 k = 2 * k - 1 := by unfold sd_dv; omega
theorem sd_ub_le {y : Nat} {w : Nat → Nat} {k p i : Nat} : sd_ub y w k p i ≤ sd_dv y k * w i := by
  unfold sd_ub
  have h := Nat.div_le_self (sd_dv y k * w i - (if p < i then 1 else 0)) (w p)
  by_cases e : w i = 0
  · rw [if_pos e]; exact Nat.zero_le _
  · rw [if_neg e]
    generalize (sd_dv y k * w i - (if p < i then 1 else 0)) / w p = g at *
    split <;> omega
theorem sd_dw_le {y k W : Nat} {w : Nat → Nat} {i : Nat} (hy : y ≤ 2) (hk : 1 ≤ k) (hk2 : k ≤ 20000) (hw : w i ≤ W) : sd_dv y k * w i ≤ 40000 * W :=
  Nat.mul_le_mul (Nat.le_trans (sd_dv_le hy hk) (by omega)) hw
theorem sd_turn_le {y : Nat} {w : Nat → Nat} {n k p : Nat} (hy : y ≤ 2) (hk : 1 ≤ k) (hk2 : k ≤ 20000) (hw : ∀ i, w i ≤ 100000) (i : Nat) (hi : i ≤ n) (hn : n ≤ 8) :
    k + sd_sum (fun j => if j = p then 0 else sd_ub y w k p j) i ≤ 20000 + 8 * 4000000000 := by
  have h1 : sd_sum (fun j => if j = p then 0 else sd_ub y w k p j) i ≤ i * 4000000000 := by
    refine sd_sum_bound (fun j _ => ?_)
    by_cases e : j = p
    · rw [if_pos e]; exact Nat.zero_le _
    · rw [if_neg e]
      have h2 := sd_dw_le (W := 100000) hy hk hk2 (hw j)
      have h3 := sd_ub_le (y := y) (w := w) (k := k) (p := p) (i := j)
      omega
  omega
theorem sd_u0_le {w : Nat → Nat} {n m p : Nat} (hW : 0 < sd_sum w n) (hp : p < n) : sd_u0 w n m p ≤ m := by
  have h1 := sd_sum_ge (f := sd_u0 w n m) hp
  rw [sd_u0_sum hW] at h1
  exact h1
theorem sd_mw_le {m M x X : Nat} (h1 : m ≤ M) (h2 : x ≤ X) : m * x ≤ M * X := Nat.mul_le_mul h1 h2
theorem sd_lne0 {a : Nat} (h0 : 0 < a) (h : a < 2 ^ 63) : ¬ lN a = 0 := by
  intro z
  have h1 : lN a = lN 0 := z
  have h2 := (pk_lEQ h (by decide)).mp h1
  omega
theorem sd_W_le {w : Nat → Nat} {n : Nat} (hw : ∀ i, w i ≤ 100000) (hn : n ≤ 8) : sd_sum w n ≤ 800000 := by
  have := sd_sum_bound (n := n) (fun i (_ : i < n) => hw i)
  omega
theorem sd_oi_neg {o : Option Nat} (h : ∀ k, o = some k → k < 2 ^ 31) : (sd_oi o < 0) ↔ o = none := by
  cases o with
  | none => exact ⟨fun _ => rfl, fun _ => by decide +kernel⟩
  | some k => exact ⟨fun z => absurd z (nI_pos (h k rfl)), fun z => by cases z⟩
theorem sd_nc_none {f g : Nat → Nat} {i : Nat} (h : sd_nc f g i = none) : ∀ n, i ≤ n → sd_nc f g n = none := by
  intro n hn
  induction n with
  | zero => rw [show i = 0 by omega] at h; exact h
  | succ n ih =>
    by_cases e : i = n + 1
    · rw [← e]; exact h
    · have := ih (by omega)
      unfold sd_nc
      rw [this]
end
section
/-! Rows of the kit with an equation for what comes out; comparisons of Nats. -/
section SDR
variable {p : Program} {l : Launch} {e : Env} {R : Room} {s : State} {m : MethodId} {args : Array Value} {below : List Frame} {meth : Method} {c : Code} {H : Heap} {locs : List Loc} {cells slots : Nat} {Q : State → Prop} {cc : ByteArray} {pc : Nat} {ls : Array Slot} {rest : List Value}
theorem sd_iadd (hexec : p.tables.exec = Jvm.exec) (hb : c.code = cc) {x y v : Int32} (hdg : decode cc pc = .ok (.iadd, 1)) (hv : x + y = v) (k : W p l e R s m args below meth c H locs cells slots Q (F0 m (pc + 1) ls (.int v :: rest))) : W p l e R s m args below meth c H locs cells slots Q (F0 m pc ls (.int y :: .int x :: rest)) := by
  subst hv
  exact lv_iadd hexec hb hdg k
theorem sd_isub (hexec : p.tables.exec = Jvm.exec) (hb : c.code = cc) {x y v : Int32} (hdg : decode cc pc = .ok (.isub, 1)) (hv : x - y = v) (k : W p l e R s m args below meth c H locs cells slots Q (F0 m (pc + 1) ls (.int v :: rest))) : W p l e R s m args below meth c H locs cells slots Q (F0 m pc ls (.int y :: .int x :: rest)) := by
  subst hv
  exact lv_isub hexec hb hdg k
theorem sd_imul (hexec : p.tables.exec = Jvm.exec) (hb : c.code = cc) {x y v : Int32} (hdg : decode cc pc = .ok (.imul, 1)) (hv : x * y = v) (k : W p l e R s m args below meth c H locs cells slots Q (F0 m (pc + 1) ls (.int v :: rest))) : W p l e R s m args below meth c H locs cells slots Q (F0 m pc ls (.int y :: .int x :: rest)) := by
  subst hv
  exact lv_imul hexec hb hdg k
theorem sd_idiv (hexec : p.tables.exec = Jvm.exec) (hb : c.code = cc) {x y v : Int32} (hdg : decode cc pc = .ok (.idiv, 1)) (hne : ¬ y = 0) (hv : x / y = v) (k : W p l e R s m args below meth c H locs cells slots Q (F0 m (pc + 1) ls (.int v :: rest))) : W p l e R s m args below meth c H locs cells slots Q (F0 m pc ls (.int y :: .int x :: rest)) := by
  subst hv
  exact lv_idiv hexec hb hdg hne k
theorem sd_irem (hexec : p.tables.exec = Jvm.exec) (hb : c.code = cc) {x y v : Int32} (hdg : decode cc pc = .ok (.irem, 1)) (hne : ¬ y = 0) (hv : x - x / y * y = v) (k : W p l e R s m args below meth c H locs cells slots Q (F0 m (pc + 1) ls (.int v :: rest))) : W p l e R s m args below meth c H locs cells slots Q (F0 m pc ls (.int y :: .int x :: rest)) := by
  subst hv
  exact lv_irem hexec hb hdg hne k
theorem sd_ladd (hexec : p.tables.exec = Jvm.exec) (hb : c.code = cc) {x y v : Int64} (hdg : decode cc pc = .ok (.ladd, 1)) (hv : x + y = v) (k : W p l e R s m args below meth c H locs cells slots Q (F0 m (pc + 1) ls (.long v :: rest))) : W p l e R s m args below meth c H locs cells slots Q (F0 m pc ls (.long y :: .long x :: rest)) := by
  subst hv
  exact lv_ladd hexec hb hdg k
theorem sd_lsub (hexec : p.tables.exec = Jvm.exec) (hb : c.code = cc) {x y v : Int64} (hdg : decode cc pc = .ok (.lsub, 1)) (hv : x - y = v) (k : W p l e R s m args below meth c H locs cells slots Q (F0 m (pc + 1) ls (.long v :: rest))) : W p l e R s m args below meth c H locs cells slots Q (F0 m pc ls (.long y :: .long x :: rest)) := by
  subst hv
  exact lv_lsub hexec hb hdg k
theorem sd_lmul (hexec : p.tables.exec = Jvm.exec) (hb : c.code = cc) {x y v : Int64} (hdg : decode cc pc = .ok (.lmul, 1)) (hv : x * y = v) (k : W p l e R s m args below meth c H locs cells slots Q (F0 m (pc + 1) ls (.long v :: rest))) : W p l e R s m args below meth c H locs cells slots Q (F0 m pc ls (.long y :: .long x :: rest)) := by
  subst hv
  exact lv_lmul hexec hb hdg k
theorem sd_ldiv (hexec : p.tables.exec = Jvm.exec) (hb : c.code = cc) {x y v : Int64} (hdg : decode cc pc = .ok (.ldiv, 1)) (hne : ¬ y = 0) (hv : x / y = v) (k : W p l e R s m args below meth c H locs cells slots Q (F0 m (pc + 1) ls (.long v :: rest))) : W p l e R s m args below meth c H locs cells slots Q (F0 m pc ls (.long y :: .long x :: rest)) := by
  subst hv
  exact lv_ldiv hexec hb hdg hne k
theorem sd_lrem (hexec : p.tables.exec = Jvm.exec) (hb : c.code = cc) {x y v : Int64} (hdg : decode cc pc = .ok (.lrem, 1)) (hne : ¬ y = 0) (hv : x - x / y * y = v) (k : W p l e R s m args below meth c H locs cells slots Q (F0 m (pc + 1) ls (.long v :: rest))) : W p l e R s m args below meth c H locs cells slots Q (F0 m pc ls (.long y :: .long x :: rest)) := by
  subst hv
  exact lv_lrem hexec hb hdg hne k
theorem sd_ic_eq (hexec : p.tables.exec = Jvm.exec) (hb : c.code = cc) {a b : Nat} {off : Int} {tgt : Nat} (hdg : decode cc pc = .ok (.if_icmp .eq off, 3)) (ht : (pc : Int) + off = (tgt : Int)) (ha : a < 2 ^ 31) (hb2 : b < 2 ^ 31) (kt : a = b → W p l e R s m args below meth c H locs cells slots Q (F0 m tgt ls rest)) (kf : ¬ a = b → W p l e R s m args below meth c H locs cells slots Q (F0 m (pc + 3) ls rest)) : W p l e R s m args below meth c H locs cells slots Q (F0 m pc ls (.int (nI b) :: .int (nI a) :: rest)) :=
  lv_icmp_eq hexec hb hdg ht (fun h => kt ((nI_eq ha hb2).mp h)) (fun h => kf (fun z => h ((nI_eq ha hb2).mpr z)))
theorem sd_ic_ne (hexec : p.tables.exec = Jvm.exec) (hb : c.code = cc) {a b : Nat} {off : Int} {tgt : Nat} (hdg : decode cc pc = .ok (.if_icmp .ne off, 3)) (ht : (pc : Int) + off = (tgt : Int)) (ha : a < 2 ^ 31) (hb2 : b < 2 ^ 31) (kt : ¬ a = b → W p l e R s m args below meth c H locs cells slots Q (F0 m tgt ls rest)) (kf : a = b → W p l e R s m args below meth c H locs cells slots Q (F0 m (pc + 3) ls rest)) : W p l e R s m args below meth c H locs cells slots Q (F0 m pc ls (.int (nI b) :: .int (nI a) :: rest)) :=
  lv_icmp_ne hexec hb hdg ht (fun h => kt (fun z => h ((nI_eq ha hb2).mpr z))) (fun h => kf ((nI_eq ha hb2).mp h))
theorem sd_ic_lt (hexec : p.tables.exec = Jvm.exec) (hb : c.code = cc) {a b : Nat} {off : Int} {tgt : Nat} (hdg : decode cc pc = .ok (.if_icmp .lt off, 3)) (ht : (pc : Int) + off = (tgt : Int)) (ha : a < 2 ^ 31) (hb2 : b < 2 ^ 31) (kt : a < b → W p l e R s m args below meth c H locs cells slots Q (F0 m tgt ls rest)) (kf : b ≤ a → W p l e R s m args below meth c H locs cells slots Q (F0 m (pc + 3) ls rest)) : W p l e R s m args below meth c H locs cells slots Q (F0 m pc ls (.int (nI b) :: .int (nI a) :: rest)) :=
  lv_icmp_lt hexec hb hdg ht (fun h => kt ((nI_ltI ha hb2).mp h)) (fun h => kf (Nat.le_of_not_lt (fun z => h ((nI_ltI ha hb2).mpr z))))
theorem sd_ic_ge (hexec : p.tables.exec = Jvm.exec) (hb : c.code = cc) {a b : Nat} {off : Int} {tgt : Nat} (hdg : decode cc pc = .ok (.if_icmp .ge off, 3)) (ht : (pc : Int) + off = (tgt : Int)) (ha : a < 2 ^ 31) (hb2 : b < 2 ^ 31) (kt : b ≤ a → W p l e R s m args below meth c H locs cells slots Q (F0 m tgt ls rest)) (kf : a < b → W p l e R s m args below meth c H locs cells slots Q (F0 m (pc + 3) ls rest)) : W p l e R s m args below meth c H locs cells slots Q (F0 m pc ls (.int (nI b) :: .int (nI a) :: rest)) :=
  lv_icmp_ge hexec hb hdg ht (fun h => kt ((nI_leI hb2 ha).mp h)) (fun h => kf (Nat.lt_of_not_le (fun z => h ((nI_leI hb2 ha).mpr z))))
theorem sd_ic_gt (hexec : p.tables.exec = Jvm.exec) (hb : c.code = cc) {a b : Nat} {off : Int} {tgt : Nat} (hdg : decode cc pc = .ok (.if_icmp .gt off, 3)) (ht : (pc : Int) + off = (tgt : Int)) (ha : a < 2 ^ 31) (hb2 : b < 2 ^ 31) (kt : b < a → W p l e R s m args below meth c H locs cells slots Q (F0 m tgt ls rest)) (kf : a ≤ b → W p l e R s m args below meth c H locs cells slots Q (F0 m (pc + 3) ls rest)) : W p l e R s m args below meth c H locs cells slots Q (F0 m pc ls (.int (nI b) :: .int (nI a) :: rest)) :=
  lv_icmp_gt hexec hb hdg ht (fun h => kt ((nI_ltI hb2 ha).mp h)) (fun h => kf (Nat.le_of_not_lt (fun z => h ((nI_ltI hb2 ha).mpr z))))
theorem sd_ic_le (hexec : p.tables.exec = Jvm.exec) (hb : c.code = cc) {a b : Nat} {off : Int} {tgt : Nat} (hdg : decode cc pc = .ok (.if_icmp .le off, 3)) (ht : (pc : Int) + off = (tgt : Int)) (ha : a < 2 ^ 31) (hb2 : b < 2 ^ 31) (kt : a ≤ b → W p l e R s m args below meth c H locs cells slots Q (F0 m tgt ls rest)) (kf : b < a → W p l e R s m args below meth c H locs cells slots Q (F0 m (pc + 3) ls rest)) : W p l e R s m args below meth c H locs cells slots Q (F0 m pc ls (.int (nI b) :: .int (nI a) :: rest)) :=
  lv_icmp_le hexec hb hdg ht (fun h => kt ((nI_leI ha hb2).mp h)) (fun h => kf (Nat.lt_of_not_le (fun z => h ((nI_leI ha hb2).mpr z))))
theorem sd_lif_eq (hexec : p.tables.exec = Jvm.exec) (hb : c.code = cc) {x y : Int64} {off : Int} {tgt : Nat} (hd1 : decode cc pc = .ok (.lcmp, 1)) (hd2 : decode cc (pc + 1) = .ok (.ifCond .eq off, 3)) (ht : ((pc + 1 : Nat) : Int) + off = (tgt : Int)) (kt : x = y → W p l e R s m args below meth c H locs cells slots Q (F0 m tgt ls rest)) (kf : ¬ x = y → W p l e R s m args below meth c H locs cells slots Q (F0 m (pc + 1 + 3) ls rest)) : W p l e R s m args below meth c H locs cells slots Q (F0 m pc ls (.long y :: .long x :: rest)) :=
  W.lcmp hexec hb hd1 (lv_if_eq hexec hb hd2 ht (fun h => kt ((lg_cmp_eq x y).mp h)) (fun h => kf (fun z => h ((lg_cmp_eq x y).mpr z))))
theorem sd_lif_lt (hexec : p.tables.exec = Jvm.exec) (hb : c.code = cc) {x y : Int64} {off : Int} {tgt : Nat} (hd1 : decode cc pc = .ok (.lcmp, 1)) (hd2 : decode cc (pc + 1) = .ok (.ifCond .lt off, 3)) (ht : ((pc + 1 : Nat) : Int) + off = (tgt : Int)) (kt : x < y → W p l e R s m args below meth c H locs cells slots Q (F0 m tgt ls rest)) (kf : y ≤ x → W p l e R s m args below meth c H locs cells slots Q (F0 m (pc + 1 + 3) ls rest)) : W p l e R s m args below meth c H locs cells slots Q (F0 m pc ls (.long y :: .long x :: rest)) :=
  W.lcmp hexec hb hd1 (lv_if_lt hexec hb hd2 ht (fun h => kt ((lg_cmp_lt x y).mp h)) (fun h => kf (Int64.not_lt.mp (fun z => h ((lg_cmp_lt x y).mpr z)))))
theorem sd_lif_ge (hexec : p.tables.exec = Jvm.exec) (hb : c.code = cc) {x y : Int64} {off : Int} {tgt : Nat} (hd1 : decode cc pc = .ok (.lcmp, 1)) (hd2 : decode cc (pc + 1) = .ok (.ifCond .ge off, 3)) (ht : ((pc + 1 : Nat) : Int) + off = (tgt : Int)) (kt : y ≤ x → W p l e R s m args below meth c H locs cells slots Q (F0 m tgt ls rest)) (kf : x < y → W p l e R s m args below meth c H locs cells slots Q (F0 m (pc + 1 + 3) ls rest)) : W p l e R s m args below meth c H locs cells slots Q (F0 m pc ls (.long y :: .long x :: rest)) :=
  W.lcmp hexec hb hd1 (lv_if_ge hexec hb hd2 ht (fun h => kt ((lg_cmp_ge x y).mp h)) (fun h => kf (Int64.not_le.mp (fun z => h ((lg_cmp_ge x y).mpr z)))))
theorem sd_lif_gt (hexec : p.tables.exec = Jvm.exec) (hb : c.code = cc) {x y : Int64} {off : Int} {tgt : Nat} (hd1 : decode cc pc = .ok (.lcmp, 1)) (hd2 : decode cc (pc + 1) = .ok (.ifCond .gt off, 3)) (ht : ((pc + 1 : Nat) : Int) + off = (tgt : Int)) (kt : y < x → W p l e R s m args below meth c H locs cells slots Q (F0 m tgt ls rest)) (kf : x ≤ y → W p l e R s m args below meth c H locs cells slots Q (F0 m (pc + 1 + 3) ls rest)) : W p l e R s m args below meth c H locs cells slots Q (F0 m pc ls (.long y :: .long x :: rest)) :=
  W.lcmp hexec hb hd1 (lv_if_gt hexec hb hd2 ht (fun h => kt ((lg_cmp_gt x y).mp h)) (fun h => kf (Int64.not_lt.mp (fun z => h ((lg_cmp_gt x y).mpr z)))))
theorem sd_lif_le (hexec : p.tables.exec = Jvm.exec) (hb : c.code = cc) {x y : Int64} {off : Int} {tgt : Nat} (hd1 : decode cc pc = .ok (.lcmp, 1)) (hd2 : decode cc (pc + 1) = .ok (.ifCond .le off, 3)) (ht : ((pc + 1 : Nat) : Int) + off = (tgt : Int)) (kt : x ≤ y → W p l e R s m args below meth c H locs cells slots Q (F0 m tgt ls rest)) (kf : y < x → W p l e R s m args below meth c H locs cells slots Q (F0 m (pc + 1 + 3) ls rest)) : W p l e R s m args below meth c H locs cells slots Q (F0 m pc ls (.long y :: .long x :: rest)) :=
  W.lcmp hexec hb hd1 (lv_if_le hexec hb hd2 ht (fun h => kt ((lg_cmp_le x y).mp h)) (fun h => kf (Int64.not_le.mp (fun z => h ((lg_cmp_le x y).mpr z)))))
theorem sd_lif_ne (hexec : p.tables.exec = Jvm.exec) (hb : c.code = cc) {x y : Int64} {off : Int} {tgt : Nat} (hd1 : decode cc pc = .ok (.lcmp, 1)) (hd2 : decode cc (pc + 1) = .ok (.ifCond .ne off, 3)) (ht : ((pc + 1 : Nat) : Int) + off = (tgt : Int)) (kt : ¬ x = y → W p l e R s m args below meth c H locs cells slots Q (F0 m tgt ls rest)) (kf : x = y → W p l e R s m args below meth c H locs cells slots Q (F0 m (pc + 1 + 3) ls rest)) : W p l e R s m args below meth c H locs cells slots Q (F0 m pc ls (.long y :: .long x :: rest)) :=
  W.lcmp hexec hb hd1 (lv_if_ne hexec hb hd2 ht (fun h => kt (fun z => h ((lg_cmp_eq x y).mpr z))) (fun h => kf ((lg_cmp_eq x y).mp h)))
theorem sd_lc_eq (hexec : p.tables.exec = Jvm.exec) (hb : c.code = cc) {a b : Nat} {off : Int} {tgt : Nat} (hd1 : decode cc pc = .ok (.lcmp, 1)) (hd2 : decode cc (pc + 1) = .ok (.ifCond .eq off, 3)) (ht : ((pc + 1 : Nat) : Int) + off = (tgt : Int)) (ha : a < 2 ^ 63) (hb2 : b < 2 ^ 63) (kt : a = b → W p l e R s m args below meth c H locs cells slots Q (F0 m tgt ls rest)) (kf : ¬ a = b → W p l e R s m args below meth c H locs cells slots Q (F0 m (pc + 1 + 3) ls rest)) : W p l e R s m args below meth c H locs cells slots Q (F0 m pc ls (.long (lN b) :: .long (lN a) :: rest)) :=
  sd_lif_eq hexec hb hd1 hd2 ht (fun h => kt ((pk_lEQ ha hb2).mp h)) (fun h => kf (fun z => h ((pk_lEQ ha hb2).mpr z)))
theorem sd_lc_ne (hexec : p.tables.exec = Jvm.exec) (hb : c.code = cc) {a b : Nat} {off : Int} {tgt : Nat} (hd1 : decode cc pc = .ok (.lcmp, 1)) (hd2 : decode cc (pc + 1) = .ok (.ifCond .ne off, 3)) (ht : ((pc + 1 : Nat) : Int) + off = (tgt : Int)) (ha : a < 2 ^ 63) (hb2 : b < 2 ^ 63) (kt : ¬ a = b → W p l e R s m args below meth c H locs cells slots Q (F0 m tgt ls rest)) (kf : a = b → W p l e R s m args below meth c H locs cells slots Q (F0 m (pc + 1 + 3) ls rest)) : W p l e R s m args below meth c H locs cells slots Q (F0 m pc ls (.long (lN b) :: .long (lN a) :: rest)) :=
  sd_lif_ne hexec hb hd1 hd2 ht (fun h => kt (fun z => h ((pk_lEQ ha hb2).mpr z))) (fun h => kf ((pk_lEQ ha hb2).mp h))
theorem sd_lc_lt (hexec : p.tables.exec = Jvm.exec) (hb : c.code = cc) {a b : Nat} {off : Int} {tgt : Nat} (hd1 : decode cc pc = .ok (.lcmp, 1)) (hd2 : decode cc (pc + 1) = .ok (.ifCond .lt off, 3)) (ht : ((pc + 1 : Nat) : Int) + off = (tgt : Int)) (ha : a < 2 ^ 63) (hb2 : b < 2 ^ 63) (kt : a < b → W p l e R s m args below meth c H locs cells slots Q (F0 m tgt ls rest)) (kf : b ≤ a → W p l e R s m args below meth c H locs cells slots Q (F0 m (pc + 1 + 3) ls rest)) : W p l e R s m args below meth c H locs cells slots Q (F0 m pc ls (.long (lN b) :: .long (lN a) :: rest)) :=
  sd_lif_lt hexec hb hd1 hd2 ht (fun h => kt ((pk_lLT ha hb2).mp h)) (fun h => kf ((pk_lLE hb2 ha).mp h))
theorem sd_lc_ge (hexec : p.tables.exec = Jvm.exec) (hb : c.code = cc) {a b : Nat} {off : Int} {tgt : Nat} (hd1 : decode cc pc = .ok (.lcmp, 1)) (hd2 : decode cc (pc + 1) = .ok (.ifCond .ge off, 3)) (ht : ((pc + 1 : Nat) : Int) + off = (tgt : Int)) (ha : a < 2 ^ 63) (hb2 : b < 2 ^ 63) (kt : b ≤ a → W p l e R s m args below meth c H locs cells slots Q (F0 m tgt ls rest)) (kf : a < b → W p l e R s m args below meth c H locs cells slots Q (F0 m (pc + 1 + 3) ls rest)) : W p l e R s m args below meth c H locs cells slots Q (F0 m pc ls (.long (lN b) :: .long (lN a) :: rest)) :=
  sd_lif_ge hexec hb hd1 hd2 ht (fun h => kt ((pk_lLE hb2 ha).mp h)) (fun h => kf ((pk_lLT ha hb2).mp h))
theorem sd_lc_gt (hexec : p.tables.exec = Jvm.exec) (hb : c.code = cc) {a b : Nat} {off : Int} {tgt : Nat} (hd1 : decode cc pc = .ok (.lcmp, 1)) (hd2 : decode cc (pc + 1) = .ok (.ifCond .gt off, 3)) (ht : ((pc + 1 : Nat) : Int) + off = (tgt : Int)) (ha : a < 2 ^ 63) (hb2 : b < 2 ^ 63) (kt : b < a → W p l e R s m args below meth c H locs cells slots Q (F0 m tgt ls rest)) (kf : a ≤ b → W p l e R s m args below meth c H locs cells slots Q (F0 m (pc + 1 + 3) ls rest)) : W p l e R s m args below meth c H locs cells slots Q (F0 m pc ls (.long (lN b) :: .long (lN a) :: rest)) :=
  sd_lif_gt hexec hb hd1 hd2 ht (fun h => kt ((pk_lLT hb2 ha).mp h)) (fun h => kf ((pk_lLE ha hb2).mp h))
theorem sd_lc_le (hexec : p.tables.exec = Jvm.exec) (hb : c.code = cc) {a b : Nat} {off : Int} {tgt : Nat} (hd1 : decode cc pc = .ok (.lcmp, 1)) (hd2 : decode cc (pc + 1) = .ok (.ifCond .le off, 3)) (ht : ((pc + 1 : Nat) : Int) + off = (tgt : Int)) (ha : a < 2 ^ 63) (hb2 : b < 2 ^ 63) (kt : a ≤ b → W p l e R s m args below meth c H locs cells slots Q (F0 m tgt ls rest)) (kf : b < a → W p l e R s m args below meth c H locs cells slots Q (F0 m (pc + 1 + 3) ls rest)) : W p l e R s m args below meth c H locs cells slots Q (F0 m pc ls (.long (lN b) :: .long (lN a) :: rest)) :=
  sd_lif_le hexec hb hd1 hd2 ht (fun h => kt ((pk_lLE ha hb2).mp h)) (fun h => kf ((pk_lLT hb2 ha).mp h))
theorem sd_iz_eq (hexec : p.tables.exec = Jvm.exec) (hb : c.code = cc) {a : Nat} {off : Int} {tgt : Nat} (hdg : decode cc pc = .ok (.ifCond .eq off, 3)) (ht : (pc : Int) + off = (tgt : Int)) (ha : a < 2 ^ 31) (kt : a = 0 → W p l e R s m args below meth c H locs cells slots Q (F0 m tgt ls rest)) (kf : 0 < a → W p l e R s m args below meth c H locs cells slots Q (F0 m (pc + 3) ls rest)) : W p l e R s m args below meth c H locs cells slots Q (F0 m pc ls (.int (nI a) :: rest)) :=
  lv_if_eq hexec hb hdg ht (fun h => kt (Classical.byContradiction (fun z => nI_ne0 (Nat.pos_of_ne_zero z) ha h))) (fun h => kf (Nat.pos_of_ne_zero (fun z => h (by rw [z]; exact nI_0))))
theorem sd_iz_ne (hexec : p.tables.exec = Jvm.exec) (hb : c.code = cc) {a : Nat} {off : Int} {tgt : Nat} (hdg : decode cc pc = .ok (.ifCond .ne off, 3)) (ht : (pc : Int) + off = (tgt : Int)) (ha : a < 2 ^ 31) (kt : 0 < a → W p l e R s m args below meth c H locs cells slots Q (F0 m tgt ls rest)) (kf : a = 0 → W p l e R s m args below meth c H locs cells slots Q (F0 m (pc + 3) ls rest)) : W p l e R s m args below meth c H locs cells slots Q (F0 m pc ls (.int (nI a) :: rest)) :=
  lv_if_ne hexec hb hdg ht (fun h => kt (Nat.pos_of_ne_zero (fun z => h (by rw [z]; exact nI_0)))) (fun h => kf (Classical.byContradiction (fun z => nI_ne0 (Nat.pos_of_ne_zero z) ha h)))
theorem sd_iz_le (hexec : p.tables.exec = Jvm.exec) (hb : c.code = cc) {a : Nat} {off : Int} {tgt : Nat} (hdg : decode cc pc = .ok (.ifCond .le off, 3)) (ht : (pc : Int) + off = (tgt : Int)) (ha : a < 2 ^ 31) (kt : a = 0 → W p l e R s m args below meth c H locs cells slots Q (F0 m tgt ls rest)) (kf : 0 < a → W p l e R s m args below meth c H locs cells slots Q (F0 m (pc + 3) ls rest)) : W p l e R s m args below meth c H locs cells slots Q (F0 m pc ls (.int (nI a) :: rest)) :=
  lv_if_le hexec hb hdg ht (fun h => kt (Classical.byContradiction (fun z => nI_nle (Nat.pos_of_ne_zero z) ha h))) (fun h => kf (Nat.pos_of_ne_zero (fun z => h (by rw [z, nI_0]; exact Int32.le_refl 0))))
theorem sd_iz_gt (hexec : p.tables.exec = Jvm.exec) (hb : c.code = cc) {a : Nat} {off : Int} {tgt : Nat} (hdg : decode cc pc = .ok (.ifCond .gt off, 3)) (ht : (pc : Int) + off = (tgt : Int)) (ha : a < 2 ^ 31) (kt : 0 < a → W p l e R s m args below meth c H locs cells slots Q (F0 m tgt ls rest)) (kf : a = 0 → W p l e R s m args below meth c H locs cells slots Q (F0 m (pc + 3) ls rest)) : W p l e R s m args below meth c H locs cells slots Q (F0 m pc ls (.int (nI a) :: rest)) :=
  lv_if_gt hexec hb hdg ht (fun h => kt (Nat.pos_of_ne_zero (fun z => by rw [z, nI_0] at h; exact (by decide : ¬ (0 : Int32) < 0) h))) (fun h => kf (Classical.byContradiction (fun z => h (by rw [← nI_0]; exact nI_lt (Nat.pos_of_ne_zero z) ha))))
theorem sd_iz_lt (hexec : p.tables.exec = Jvm.exec) (hb : c.code = cc) {a : Nat} {off : Int} {tgt : Nat} (hdg : decode cc pc = .ok (.ifCond .lt off, 3)) (ht : (pc : Int) + off = (tgt : Int)) (ha : a < 2 ^ 31) (kf : W p l e R s m args below meth c H locs cells slots Q (F0 m (pc + 3) ls rest)) : W p l e R s m args below meth c H locs cells slots Q (F0 m pc ls (.int (nI a) :: rest)) :=
  lv_if_lt hexec hb hdg ht (fun h => absurd h (nI_pos ha)) (fun _ => kf)
theorem sd_iz_ge (hexec : p.tables.exec = Jvm.exec) (hb : c.code = cc) {a : Nat} {off : Int} {tgt : Nat} (hdg : decode cc pc = .ok (.ifCond .ge off, 3)) (ht : (pc : Int) + off = (tgt : Int)) (ha : a < 2 ^ 31) (kt : W p l e R s m args below meth c H locs cells slots Q (F0 m tgt ls rest)) : W p l e R s m args below meth c H locs cells slots Q (F0 m pc ls (.int (nI a) :: rest)) :=
  lv_if_ge hexec hb hdg ht (fun _ => kt) (fun h => absurd (nI_pos' ha) h)
variable {D : va_G} {cl : List vw_C} {A : Nat → Prop} {a : Nat} {tys : List (ClassId × FieldType)} {ws : va_W} {H0 : Heap}
theorem sd_iald (hexec : p.tables.exec = Jvm.exec) (hb : c.code = cc) (hK : va_K D cl tys s) (hP : va_P D cl ws H) (q0 t0 : Nat) {cA : ClassId} {n j : Nat} {f : Nat → Int32} {v : Int32} (ha : ws[q0]? = some (a, .inl (cA, n, .inl f))) (ht : tys[t0]? = some (cA, .int)) (hj : j < n) (hn : n < 2 ^ 31) (hv : f j = v) (hdg : decode cc pc = .ok (.iaload, 1)) (kk : W p l e R s m args below meth c H locs cells slots Q (F0 m (pc + 1) ls (.int v :: rest))) : W p l e R s m args below meth c H locs cells slots Q (F0 m pc ls (.int (nI j) :: .ref a :: rest)) := by
  refine va_iald hexec hb hK hP q0 t0 ha ht (vp_in_nI hj hn) hdg ?_
  rw [nI_clamp (Nat.lt_trans hj hn), hv]
  exact kk
theorem sd_zald (hexec : p.tables.exec = Jvm.exec) (hb : c.code = cc) (hK : va_K D cl tys s) (hP : va_P D cl ws H) (q0 t0 : Nat) {cA : ClassId} {n j : Nat} {f : Nat → Int32} {v : Int32} (ha : ws[q0]? = some (a, .inl (cA, n, .inl f))) (ht : tys[t0]? = some (cA, .boolean)) (hj : j < n) (hn : n < 2 ^ 31) (hv : f j = v) (hdg : decode cc pc = .ok (.baload, 1)) (kk : W p l e R s m args below meth c H locs cells slots Q (F0 m (pc + 1) ls (.int v :: rest))) : W p l e R s m args below meth c H locs cells slots Q (F0 m pc ls (.int (nI j) :: .ref a :: rest)) := by
  refine va_zald hexec hb hK hP q0 t0 ha ht (vp_in_nI hj hn) hdg ?_
  rw [nI_clamp (Nat.lt_trans hj hn), hv]
  exact kk
theorem sd_lald (hexec : p.tables.exec = Jvm.exec) (hb : c.code = cc) (hK : va_K D cl tys s) (hP : va_P D cl ws H) (q0 t0 : Nat) {cA : ClassId} {n j : Nat} {f : Nat → Int64} {v : Int64} (ha : ws[q0]? = some (a, .inl (cA, n, .inr (.inl f)))) (ht : tys[t0]? = some (cA, .long)) (hj : j < n) (hn : n < 2 ^ 31) (hv : f j = v) (hdg : decode cc pc = .ok (.laload, 1)) (kk : W p l e R s m args below meth c H locs cells slots Q (F0 m (pc + 1) ls (.long v :: rest))) : W p l e R s m args below meth c H locs cells slots Q (F0 m pc ls (.int (nI j) :: .ref a :: rest)) := by
  refine va_lald hexec hb hK hP q0 t0 ha ht (vp_in_nI hj hn) hdg ?_
  rw [nI_clamp (Nat.lt_trans hj hn), hv]
  exact kk
theorem sd_iast (hexec : p.tables.exec = Jvm.exec) (hb : c.code = cc) (hK : va_K D cl tys s) (hP : va_P D cl ws H) (hD : va_D A ws) (hS : va_S A H0 H locs) (q0 t0 : Nat) {cA : ClassId} {n j : Nat} {f : Nat → Int32} (ha : ws[q0]? = some (a, .inl (cA, n, .inl f))) (ht : tys[t0]? = some (cA, .int)) {x : Int32} (hj : j < n) (hn : n < 2 ^ 31) (hdg : decode cc pc = .ok (.iastore, 1)) (kk : ∀ (H1 : Heap) (locs1 : List Loc), va_P D cl (ws.set q0 (a, .inl (cA, n, .inl (upd f j x)))) H1 → va_D A (ws.set q0 (a, .inl (cA, n, .inl (upd f j x)))) → va_S A H0 H1 locs1 → W p l e R s m args below meth c H1 locs1 cells slots Q (F0 m (pc + 1) ls rest)) : W p l e R s m args below meth c H locs cells slots Q (F0 m pc ls (.int x :: .int (nI j) :: .ref a :: rest)) := by
  refine va_iast hexec hb hK hP hD hS q0 t0 ha ht (vp_in_nI hj hn) hdg (fun H1 l1 h1 h2 h3 => ?_)
  rw [nI_clamp (Nat.lt_trans hj hn)] at h1 h2
  exact kk H1 l1 h1 h2 h3
theorem sd_last (hexec : p.tables.exec = Jvm.exec) (hb : c.code = cc) (hK : va_K D cl tys s) (hP : va_P D cl ws H) (hD : va_D A ws) (hS : va_S A H0 H locs) (q0 t0 : Nat) {cA : ClassId} {n j : Nat} {f : Nat → Int64} (ha : ws[q0]? = some (a, .inl (cA, n, .inr (.inl f)))) (ht : tys[t0]? = some (cA, .long)) {x : Int64} (hj : j < n) (hn : n < 2 ^ 31) (hdg : decode cc pc = .ok (.lastore, 1)) (kk : ∀ (H1 : Heap) (locs1 : List Loc), va_P D cl (ws.set q0 (a, .inl (cA, n, .inr (.inl (vp_updL f j x))))) H1 → va_D A (ws.set q0 (a, .inl (cA, n, .inr (.inl (vp_updL f j x))))) → va_S A H0 H1 locs1 → W p l e R s m args below meth c H1 locs1 cells slots Q (F0 m (pc + 1) ls rest)) : W p l e R s m args below meth c H locs cells slots Q (F0 m pc ls (.long x :: .int (nI j) :: .ref a :: rest)) := by
  refine va_last hexec hb hK hP hD hS q0 t0 ha ht (vp_in_nI hj hn) hdg (fun H1 l1 h1 h2 h3 => ?_)
  rw [nI_clamp (Nat.lt_trans hj hn)] at h1 h2
  exact kk H1 l1 h1 h2 h3
theorem sd_zast (hexec : p.tables.exec = Jvm.exec) (hb : c.code = cc) (hK : va_K D cl tys s) (hP : va_P D cl ws H) (hD : va_D A ws) (hS : va_S A H0 H locs) (q0 t0 : Nat) {cA : ClassId} {n j : Nat} {f : Nat → Int32} (ha : ws[q0]? = some (a, .inl (cA, n, .inl f))) (ht : tys[t0]? = some (cA, .boolean)) {x : Int32} (hj : j < n) (hn : n < 2 ^ 31) (hdg : decode cc pc = .ok (.bastore, 1)) (kk : ∀ (H1 : Heap) (locs1 : List Loc), va_P D cl (ws.set q0 (a, .inl (cA, n, .inl (upd f j (vp_nar .boolean x))))) H1 → va_D A (ws.set q0 (a, .inl (cA, n, .inl (upd f j (vp_nar .boolean x))))) → va_S A H0 H1 locs1 → W p l e R s m args below meth c H1 locs1 cells slots Q (F0 m (pc + 1) ls rest)) : W p l e R s m args below meth c H locs cells slots Q (F0 m pc ls (.int x :: .int (nI j) :: .ref a :: rest)) := by
  refine va_zast hexec hb hK hP hD hS q0 t0 ha ht (vp_in_nI hj hn) hdg (fun H1 l1 h1 h2 h3 => ?_)
  rw [nI_clamp (Nat.lt_trans hj hn)] at h1 h2
  exact kk H1 l1 h1 h2 h3
theorem sd_calli {v : Int32} {a' : Array Value} {st0 : List Value} (hr : va_Run p l e R s m args below meth c H locs cells slots 0 0 (F0 m pc ls st0) rest (vp_Si (fun r => r = v) a') (fun _ => False)) (kk : W p l e R s m args below meth c H locs cells slots Q (F0 m (pc + 3) ls (.int v :: rest))) : W p l e R s m args below meth c H locs cells slots Q (F0 m pc ls st0) :=
  vp_callSi (va_Run.run hr) (fun r h => by subst h; exact kk)
theorem sd_calll {v : Int64} {a' : Array Value} {st0 : List Value} (hr : va_Run p l e R s m args below meth c H locs cells slots 0 0 (F0 m pc ls st0) rest (vp_Sl (fun r => r = v) a') (fun _ => False)) (kk : W p l e R s m args below meth c H locs cells slots Q (F0 m (pc + 3) ls (.long v :: rest))) : W p l e R s m args below meth c H locs cells slots Q (F0 m pc ls st0) :=
  vp_callSl (va_Run.run hr) (fun r h => by subst h; exact kk)
theorem sd_callv {a' : Array Value} {st0 : List Value} (hr : va_Run p l e R s m args below meth c H locs cells slots 0 0 (F0 m pc ls st0) rest (va_Sv (fun _ => True) a') (fun _ => False)) (kk : W p l e R s m args below meth c H locs cells slots Q (F0 m (pc + 3) ls rest)) : W p l e R s m args below meth c H locs cells slots Q (F0 m pc ls st0) :=
  va_csv (va_Run.run hr) (fun _ => kk)
end SDR
end
section
/-! Worlds in my words; calls that leave the heap alone; calls whose world is the caller's. -/
theorem sd_eqt {α : Type} {l : List α} {i : Nat} {x : α} (h : l[i]? = some x) : x ∈ l := List.mem_of_getElem? h
/-- how much stack a method of depth d has -/
def sd_rm (d c z : Nat) : Room := { frames := d, cells := c, slots := z, locals := 35 * d }
/-- a start that only reads: the world ws, the tables -/
def sd_Pp (D : va_G) (cl : List vw_C) (tys : List (ClassId × FieldType)) (ws : va_W) (av : List Value) : Array Value → State → Prop := va_Pc av (fun U => va_P D cl ws U.heap ∧ va_K D cl tys U)
theorem sd_Pp_blind (D : va_G) (cl : List vw_C) (tys : List (ClassId × FieldType)) (ws : va_W) (av : List Value) : FrameBlind (sd_Pp D cl tys ws av) := by
  intro a U g mk q
  obtain ⟨q0, qP, qK⟩ := q
  exact ⟨q0, qP, va_K.moved (u := U) (U := U.calling g mk a) (Vm.Alike.refl U.vm) qK⟩
theorem sd_preS {s : State} {H : Heap} {D : va_G} {cl : List vw_C} {tys : List (ClassId × FieldType)} {ws : va_W} {As : List Value} (hK : va_K D cl tys s) (hP : va_P D cl ws H) : PreS s H (sd_Pp D cl tys ws As) As :=
  ⟨sd_Pp_blind D cl tys ws As, fun U hU hW => ⟨rfl, by rw [hU]; exact hP, va_K.moved hW.alike hK⟩⟩
theorem sd_preV {s : State} {H : Heap} {D : va_G} {cl : List vw_C} {tys : List (ClassId × FieldType)} {ws : va_W} {As : List Value} {b q0 ci : Nat} {q : vw_C} {fs : List Value} (hK : va_K D cl tys s) (hP : va_P D cl ws H) (hc : cl[ci]? = some q) (he : ws[q0]? = some (b, .inr (ci, fs))) :
    PreV s H q.1 b (sd_Pp D cl tys ws (.ref b :: As)) As :=
  ⟨sd_Pp_blind D cl tys ws (.ref b :: As), va_recv hK hP hc he, fun U hU hW => ⟨rfl, by rw [hU]; exact hP, va_K.moved hW.alike hK⟩⟩
theorem sd_nil (D : va_G) (cl : List vw_C) (H : Heap) : va_P D cl [] H := fun k q h => by simp at h
theorem sd_K0 {D : va_G} {cl : List vw_C} {tys : List (ClassId × FieldType)} {U : State} (h : va_K D cl tys U) : va_K D cl [] U := h.sub [] rfl
section SDW
variable {p : Program} {l : Launch} {e : Env} {R : Room} {s : State} {m : MethodId} {args : Array Value} {below : List Frame} {meth : Method} {c : Code} {H : Heap} {locs : List Loc} {cells slots : Nat} {Q : State → Prop} {cc : ByteArray} {pc : Nat} {ls : Array Slot} {rest : List Value}
theorem sd_topi {x y : Int32} (h : x = y) (k : W p l e R s m args below meth c H locs cells slots Q (F0 m pc ls (.int y :: rest))) : W p l e R s m args below meth c H locs cells slots Q (F0 m pc ls (.int x :: rest)) := by
  subst h
  exact k
theorem sd_topl {x y : Int64} (h : x = y) (k : W p l e R s m args below meth c H locs cells slots Q (F0 m pc ls (.long y :: rest))) : W p l e R s m args below meth c H locs cells slots Q (F0 m pc ls (.long x :: rest)) := by
  subst h
  exact k
variable {D : va_G} {cl : List vw_C} {A : Nat → Prop} {tys : List (ClassId × FieldType)} {ws : va_W} {H0 : Heap} {a' : Array Value} {st0 : List Value}
theorem sd_all (hD : va_D A ws) (hS : va_S A H0 H locs) (hA : ∀ q, H0.size ≤ q → A q) : ∀ q, va_A ws H.size q → A q := by
  intro q h
  rcases h with ⟨k, e, h⟩ | h
  · exact hD.2 k (q, e) h
  · exact hA q (Nat.le_trans hS.1 h)
/-- a world that a method may write, and its end -/
def sd_Pw (D : va_G) (cl : List vw_C) (tys : List (ClassId × FieldType)) (ws : va_W) (sz : Nat) (av : List Value) : Array Value → State → Prop :=
  va_Pc av (fun U => U.heap.size = sz ∧ va_P D cl ws U.heap ∧ va_K D cl tys U ∧ va_D (fun _ => True) ws)
theorem sd_Pw_blind (D : va_G) (cl : List vw_C) (tys : List (ClassId × FieldType)) (ws : va_W) (sz : Nat) (av : List Value) : FrameBlind (sd_Pw D cl tys ws sz av) := by
  intro a U g mk q
  obtain ⟨q0, q1, qP, qK, qD⟩ := q
  exact ⟨q0, q1, qP, va_K.moved (u := U) (U := U.calling g mk a) (Vm.Alike.refl U.vm) qK, qD⟩
def sd_Bw {S : Type} (D : va_G) (cl : List vw_C) (tys : List (ClassId × FieldType)) (ws : va_W) (sz : Nat) (Bw : S → va_W) (u : S) (t : State) : Prop := va_P D cl (Bw u) t.heap ∧ va_K D cl tys t ∧ va_D (va_A ws sz) (Bw u)
theorem sd_preVw {As : List Value} {b q0 ci : Nat} {q : vw_C} {fs : List Value} (hK : va_K D cl tys s) (hP : va_P D cl ws H) (hD : va_D A ws) (hc : cl[ci]? = some q) (he : ws[q0]? = some (b, .inr (ci, fs))) :
    PreV s H q.1 b (sd_Pw D cl tys ws H.size (.ref b :: As)) As :=
  ⟨sd_Pw_blind D cl tys ws H.size (.ref b :: As), va_recv hK hP hc he, fun U hU hW => ⟨rfl, by rw [hU], by rw [hU]; exact hP, va_K.moved hW.alike hK, hD.weaken (fun _ _ _ _ => trivial)⟩⟩
theorem sd_wv {S : Type} {post : S → Prop} {Bw : S → va_W} (hr : va_Run p l e R s m args below meth c H locs cells slots 0 0 (F0 m pc ls st0) rest (va_Qv post (sd_Bw D cl tys ws H.size Bw) (va_A ws H.size) a') (va_A ws H.size))
    (hD : va_D A ws) (hS : va_S A H0 H locs) (hA : ∀ q, H0.size ≤ q → A q)
    (kk : ∀ (u : S) (H1 : Heap) (locs1 : List Loc), post u → va_P D cl (Bw u) H1 → va_D A (Bw u) → va_S A H0 H1 locs1 → W p l e R s m args below meth c H1 locs1 cells slots Q (F0 m (pc + 3) ls rest)) : W p l e R s m args below meth c H locs cells slots Q (F0 m pc ls st0) := by
  have hF := sd_all hD hS hA
  refine va_callv hr hS (fun q _ h => hF q h) hF (fun u t H1 locs1 ht hvm hp hB hz hk hS1 => ?_)
  obtain ⟨hP1, hK1, hD1⟩ := hB
  rw [ht] at hP1
  exact kk u H1 locs1 hp hP1 (hD1.weaken (fun k q _ h => hF q.1 h)) hS1
theorem sd_wi {S : Type} {post : Int32 → S → Prop} {Bw : S → va_W} (hr : va_Run p l e R s m args below meth c H locs cells slots 0 0 (F0 m pc ls st0) rest (va_Qi post (sd_Bw D cl tys ws H.size Bw) (va_A ws H.size) a') (va_A ws H.size))
    (hD : va_D A ws) (hS : va_S A H0 H locs) (hA : ∀ q, H0.size ≤ q → A q)
    (kk : ∀ (r : Int32) (u : S) (H1 : Heap) (locs1 : List Loc), post r u → va_P D cl (Bw u) H1 → va_D A (Bw u) → va_S A H0 H1 locs1 → W p l e R s m args below meth c H1 locs1 cells slots Q (F0 m (pc + 3) ls (.int r :: rest))) : W p l e R s m args below meth c H locs cells slots Q (F0 m pc ls st0) := by
  have hF := sd_all hD hS hA
  refine va_calli hr hS (fun q _ h => hF q h) hF (fun r u t H1 locs1 ht hvm hp hB hz hk hS1 => ?_)
  obtain ⟨hP1, hK1, hD1⟩ := hB
  rw [ht] at hP1
  exact kk r u H1 locs1 hp hP1 (hD1.weaken (fun k q _ h => hF q.1 h)) hS1
end SDW
/-- the words of the tables that stay true in warmer tables -/
def sd_gw (w : Cond) : Bool := (w.onTables && w.keeps) || (match w with | .arrayClass _ => true | _ => false)
theorem sd_gw_ok {w : Cond} (h : sd_gw w = true) : (w.onTables && w.keeps) = true ∨ ∃ ty, w = .arrayClass ty := by
  unfold sd_gw at h
  rw [Bool.or_eq_true] at h
  rcases h with h | h
  · exact Or.inl h
  · right
    cases w <;> first | exact ⟨_, rfl⟩ | cases h
def sd_WS : List Cond := lw_tbl.filter sd_gw
theorem sd_in {w : Cond} (h : w ∈ lw_tbl) (g : sd_gw w = true) : w ∈ sd_WS := List.mem_filter.mpr ⟨h, g⟩
theorem sd_good {w : Cond} (h : w ∈ sd_WS) : (w.onTables && w.keeps) = true ∨ ∃ ty, w = .arrayClass ty := sd_gw_ok (List.mem_filter.mp h).2
/-- a method's words: its code, and all -/
abbrev sd_ws (y : MethodName) (b : ByteArray) (n : Nat) (r : Option FieldType) : List Cond := .code y b n r :: sd_WS
theorem sd_gV {k : Cond} {own C : String} {index : Nat} {z : MethodName} {bz : ByteArray} {nz : Nat} {rz : Option FieldType} (h1 : .methodLink own index z ∈ sd_WS) (h2 : .instanceMethod z ∈ sd_WS) (h3 : .selects C z z ∈ sd_WS) (h4 : .initialized C ∈ sd_WS) (h5 : .code z bz nz rz ∈ sd_WS) :
    GoodIn (k :: sd_WS) (wsV own index C z (sd_ws z bz nz rz)) := by
  intro w hw
  have key : w ∈ sd_WS := by
    unfold wsV at hw
    rcases List.mem_append.mp hw with hw | hw
    · simp only [List.mem_cons, List.not_mem_nil, or_false] at hw
      rcases hw with rfl | rfl | rfl | rfl
      · exact h1
      · exact h2
      · exact h3
      · exact h4
    · rcases List.mem_cons.mp hw with rfl | hw
      · exact h5
      · exact hw
  exact ⟨List.mem_cons_of_mem _ key, sd_good key⟩
theorem sd_gS {k : Cond} {own : String} {index : Nat} {z : MethodName} {bz : ByteArray} {nz : Nat} {rz : Option FieldType} (h1 : .methodLink own index z ∈ sd_WS) (h2 : .static z ∈ sd_WS) (h4 : .initialized own ∈ sd_WS) (h5 : .code z bz nz rz ∈ sd_WS) :
    GoodIn (k :: sd_WS) (wsS own index z (sd_ws z bz nz rz)) := by
  intro w hw
  have key : w ∈ sd_WS := by
    unfold wsS at hw
    rcases List.mem_append.mp hw with hw | hw
    · simp only [List.mem_cons, List.not_mem_nil, or_false] at hw
      rcases hw with rfl | rfl | rfl
      · exact h1
      · exact h2
      · exact h4
    · rcases List.mem_cons.mp hw with rfl | hw
      · exact h5
      · exact hw
  exact ⟨List.mem_cons_of_mem _ key, sd_good key⟩
/-- what a desk's numbers are: n parties, weights w; behind n all weights are 0 -/
def sd_ok (n : Nat) (w : Nat → Nat) : Prop := 1 ≤ n ∧ n ≤ 8 ∧ (∀ i, w i ≤ 100000) ∧ ∀ i, n ≤ i → w i = 0
end
section
/-! Pure part, third: a party of weight 0; changes of one weight. -/
theorem sd_sum_cnt {r : Nat → Nat} {W : Nat} (hr : ∀ i, r i < W) : ∀ n : Nat, sd_sum r n ≤ sd_cnt (fun i => decide (0 < r i)) n * (W - 1)
  | 0 => Nat.zero_le _
  | n + 1 => by
    rw [sd_sum_s, sd_cnt_s]
    have ih := sd_sum_cnt hr n
    have h1 := hr n
    by_cases e : 0 < r n
    · rw [decide_eq_true e, if_pos rfl, Nat.add_mul, Nat.one_mul]; omega
    · rw [decide_eq_false e]
      show sd_sum r n + r n ≤ (sd_cnt (fun i => decide (0 < r i)) n + 0) * (W - 1)
      rw [Nat.add_zero]; omega
theorem sd_u0_zero {w : Nat → Nat} {n m q : Nat} (hW : 0 < sd_sum w n) (hq : w q = 0) : sd_u0 w n m q = 0 := by
  unfold sd_u0
  have h0 : sd_rs w (sd_sum w n) m q = 0 := by unfold sd_rs; rw [hq, Nat.mul_zero, Nat.zero_mod]
  have h1 := sd_sum_cnt (r := sd_rs w (sd_sum w n) m) (W := sd_sum w n) (fun i => Nat.mod_lt _ hW) n
  have h2 : sd_cnt (fun i => decide (0 < sd_rs w (sd_sum w n) m i)) n ≤ sd_cnt (sd_ab (sd_rs w (sd_sum w n) m) q) n := sd_cnt_le (fun i _ hp => by
    have := of_decide_eq_true hp
    simp only [sd_ab, h0, this, decide_true, Bool.true_or])
  rw [hq, Nat.mul_zero, Nat.zero_div, Nat.zero_add]
  refine if_neg ?_
  generalize sd_cnt (sd_ab (sd_rs w (sd_sum w n) m) q) n = a at *
  generalize sd_cnt (fun i => decide (0 < sd_rs w (sd_sum w n) m i)) n = b at *
  generalize sd_sum (sd_rs w (sd_sum w n) m) n = t at *
  generalize sd_sum w n = W at *
  intro z
  have h3 : (a + 1) * W ≤ t := (Nat.le_div_iff_mul_le hW).mp z
  have h4 : b * (W - 1) ≤ b * W := Nat.mul_le_mul_left _ (by omega)
  have h5 : b * W ≤ a * W := Nat.mul_le_mul_right _ h2
  rw [Nat.add_mul, Nat.one_mul] at h3
  omega
theorem sd_U_zero {y : Nat} {w : Nat → Nat} {n m q : Nat} (hW : 0 < sd_sum w n) (hqn : q < n) (hq : w q = 0) : sd_U y w n m q = 0 := by
  unfold sd_U
  by_cases e : y = 0
  · rw [if_pos e]; exact sd_u0_zero hW hq
  · rw [if_neg e]; exact (sd_inv_G (sd_sum_pos hW) m).2.1 q hqn hq
theorem sd_ok_up {n : Nat} {w : Nat → Nat} (ok : sd_ok n w) {q v : Nat} (hq : q < n) (hv : v ≤ 100000) : sd_ok n (sd_up w q v) := by
  refine ⟨ok.1, ok.2.1, fun i => ?_, fun i hi => ?_⟩
  · by_cases e : i = q
    · rw [e, sd_up_self]; exact hv
    · rw [sd_up_ne e]; exact ok.2.2.1 i
  · rw [sd_up_ne (by omega)]; exact ok.2.2.2 i hi
theorem sd_ok_new {j : Nat} (h1 : 1 ≤ j) (h2 : j ≤ 8) : sd_ok j (fun _ => 0) := ⟨h1, h2, fun _ => Nat.zero_le _, fun _ _ => rfl⟩
theorem sd_up_sum {w : Nat → Nat} {n q v : Nat} (hq : q < n) : sd_sum (sd_up w q v) n + w q = sd_sum w n + v := by
  have h := sd_sum_upd (f := w) (g := sd_up w q v) hq (fun i _ hi => sd_up_ne hi)
  rw [sd_up_self] at h
  exact h
theorem sd_i32 {a b c d : Nat} (h : d + c = a + b) : nI a + (nI b - nI c) = nI d := by
  have h1 : nI d + nI c = nI a + nI b := by rw [nI_add, nI_add, h]
  have h2 : nI a + (nI b - nI c) = (nI a + nI b) - nI c := by rw [Int32.sub_eq_add_neg, Int32.sub_eq_add_neg, Int32.add_assoc]
  rw [h2, ← h1, Int32.add_sub_cancel]
theorem sd_upd_w (w : Nat → Nat) (q v : Nat) : upd (fun i => nI (w i)) q (nI v) = fun i => nI (sd_up w q v i) := by
  funext i
  by_cases e : i = q
  · subst e; rw [pk_us, sd_up_self]
  · rw [pk_un e, sd_up_ne e]
theorem sd_updL_w (w : Nat → Nat) (q v : Nat) : vp_updL (fun i => lN (w i)) q (lN v) = fun i => lN (sd_up w q v i) := by
  funext i
  by_cases e : i = q
  · subst e; rw [pk_uLs, sd_up_self]
  · rw [pk_uLn e, sd_up_ne e]
/-- below i all is set to 0 -/
def sd_cl (w : Nat → Nat) (i : Nat) : Nat → Nat := fun j => if j < i then 0 else w j
theorem sd_cl0 (w : Nat → Nat) : sd_cl w 0 = w := by funext j; exact if_neg (Nat.not_lt_zero _)
theorem sd_cls (w : Nat → Nat) (i : Nat) : sd_up (sd_cl w i) i 0 = sd_cl w (i + 1) := by
  funext j
  unfold sd_up sd_cl
  by_cases e : j = i
  · subst e; rw [if_pos rfl, if_pos (Nat.lt_succ_self _)]
  · rw [if_neg e]
    by_cases z : j < i
    · rw [if_pos z, if_pos (by omega)]
    · rw [if_neg z, if_neg (by omega)]
theorem sd_cl8 {w : Nat → Nat} {n : Nat} (ok : sd_ok n w) : sd_cl w 8 = fun _ => 0 := by
  funext j
  unfold sd_cl
  by_cases z : j < 8
  · rw [if_pos z]
  · rw [if_neg z]; exact ok.2.2.2 j (by have := ok.2.1; omega)
theorem sd_sum0 (n : Nat) : sd_sum (fun _ => 0) n = 0 := sd_sum_zero (fun _ _ => rfl)
end
