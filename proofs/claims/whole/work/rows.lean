section
/-- a private method of a class that the tables say can be made, by its rows of tables_1 -/
def lw_okq (q : MethodName × Nat) : Prop := (q.1.cls ≠ "java/lang/invoke/MethodHandle" ∧ q.1.cls ≠ "java/lang/invoke/VarHandle") ∧ Cond.instantiable q.1.cls q.2 ∈ tables_1 ∧ Cond.privateMethod q.1 ∈ tables_1 ∧ Cond.instanceMethod q.1 ∈ tables_1
theorem lw_p0 : lw_okq (⟨"java/lang/Throwable", "fillInStackTrace", "(I)Ljava/lang/Throwable;"⟩, 6) := ⟨⟨by decide +kernel, by decide +kernel⟩, List.mem_of_getElem? (i := 73) (by decide +kernel), List.mem_of_getElem? (i := 71) (by decide +kernel), List.mem_of_getElem? (i := 72) (by decide +kernel)⟩
theorem lw_p1 : lw_okq (⟨"ShareDesk", "checkParty", "(I)V"⟩, 3) := ⟨⟨by decide +kernel, by decide +kernel⟩, List.mem_of_getElem? (i := 9) (by decide +kernel), List.mem_of_getElem? (i := 110) (by decide +kernel), List.mem_of_getElem? (i := 111) (by decide +kernel)⟩
theorem lw_p2 : lw_okq (⟨"ShareDesk", "checkTotal", "()V"⟩, 3) := ⟨⟨by decide +kernel, by decide +kernel⟩, List.mem_of_getElem? (i := 9) (by decide +kernel), List.mem_of_getElem? (i := 133) (by decide +kernel), List.mem_of_getElem? (i := 134) (by decide +kernel)⟩
theorem lw_p3 : lw_okq (⟨"ShareDesk", "unitsOf", "(III)I"⟩, 3) := ⟨⟨by decide +kernel, by decide +kernel⟩, List.mem_of_getElem? (i := 9) (by decide +kernel), List.mem_of_getElem? (i := 153) (by decide +kernel), List.mem_of_getElem? (i := 154) (by decide +kernel)⟩
theorem lw_p4 : lw_okq (⟨"ShareDesk", "unitsByRests", "(II)I"⟩, 3) := ⟨⟨by decide +kernel, by decide +kernel⟩, List.mem_of_getElem? (i := 9) (by decide +kernel), List.mem_of_getElem? (i := 157) (by decide +kernel), List.mem_of_getElem? (i := 158) (by decide +kernel)⟩
theorem lw_p5 : lw_okq (⟨"ShareDesk", "restOf", "(II)J"⟩, 3) := ⟨⟨by decide +kernel, by decide +kernel⟩, List.mem_of_getElem? (i := 9) (by decide +kernel), List.mem_of_getElem? (i := 161) (by decide +kernel), List.mem_of_getElem? (i := 162) (by decide +kernel)⟩
theorem lw_p6 : lw_okq (⟨"ShareDesk", "unitsByTurns", "(III)I"⟩, 3) := ⟨⟨by decide +kernel, by decide +kernel⟩, List.mem_of_getElem? (i := 9) (by decide +kernel), List.mem_of_getElem? (i := 165) (by decide +kernel), List.mem_of_getElem? (i := 166) (by decide +kernel)⟩
theorem lw_p7 : lw_okq (⟨"ShareDesk", "turnOf", "(III)J"⟩, 3) := ⟨⟨by decide +kernel, by decide +kernel⟩, List.mem_of_getElem? (i := 9) (by decide +kernel), List.mem_of_getElem? (i := 169) (by decide +kernel), List.mem_of_getElem? (i := 170) (by decide +kernel)⟩
theorem lw_p8 : lw_okq (⟨"ShareDesk", "unitsBefore", "(IIII)J"⟩, 3) := ⟨⟨by decide +kernel, by decide +kernel⟩, List.mem_of_getElem? (i := 9) (by decide +kernel), List.mem_of_getElem? (i := 173) (by decide +kernel), List.mem_of_getElem? (i := 174) (by decide +kernel)⟩
theorem lw_p9 : lw_okq (⟨"ShareDesk", "leastByRests", "(II)I"⟩, 3) := ⟨⟨by decide +kernel, by decide +kernel⟩, List.mem_of_getElem? (i := 9) (by decide +kernel), List.mem_of_getElem? (i := 203) (by decide +kernel), List.mem_of_getElem? (i := 204) (by decide +kernel)⟩
theorem lw_p10 : lw_okq (⟨"ShareDesk", "partiesWithWeight", "()I"⟩, 3) := ⟨⟨by decide +kernel, by decide +kernel⟩, List.mem_of_getElem? (i := 9) (by decide +kernel), List.mem_of_getElem? (i := 215) (by decide +kernel), List.mem_of_getElem? (i := 216) (by decide +kernel)⟩
theorem lw_p11 : lw_okq (⟨"ShareDeskModel", "fails", "(ZI)Z"⟩, 6) := ⟨⟨by decide +kernel, by decide +kernel⟩, List.mem_of_getElem? (i := 220) (by decide +kernel), List.mem_of_getElem? (i := 259) (by decide +kernel), List.mem_of_getElem? (i := 260) (by decide +kernel)⟩
theorem lw_p12 : lw_okq (⟨"ShareDeskModel", "isParty", "(I)Z"⟩, 6) := ⟨⟨by decide +kernel, by decide +kernel⟩, List.mem_of_getElem? (i := 220) (by decide +kernel), List.mem_of_getElem? (i := 267) (by decide +kernel), List.mem_of_getElem? (i := 268) (by decide +kernel)⟩
theorem lw_p13 : lw_okq (⟨"ShareDeskModel", "all", "()J"⟩, 6) := ⟨⟨by decide +kernel, by decide +kernel⟩, List.mem_of_getElem? (i := 220) (by decide +kernel), List.mem_of_getElem? (i := 281) (by decide +kernel), List.mem_of_getElem? (i := 282) (by decide +kernel)⟩
theorem lw_p14 : lw_okq (⟨"ShareDeskModel", "give", "(II)V"⟩, 6) := ⟨⟨by decide +kernel, by decide +kernel⟩, List.mem_of_getElem? (i := 220) (by decide +kernel), List.mem_of_getElem? (i := 285) (by decide +kernel), List.mem_of_getElem? (i := 286) (by decide +kernel)⟩
theorem lw_p15 : lw_okq (⟨"ShareDeskModel", "parts", "(I)V"⟩, 6) := ⟨⟨by decide +kernel, by decide +kernel⟩, List.mem_of_getElem? (i := 220) (by decide +kernel), List.mem_of_getElem? (i := 289) (by decide +kernel), List.mem_of_getElem? (i := 290) (by decide +kernel)⟩
def lw_privs_1 : List (MethodName × Nat) := [(⟨"java/lang/Throwable", "fillInStackTrace", "(I)Ljava/lang/Throwable;"⟩, 6), (⟨"ShareDesk", "checkParty", "(I)V"⟩, 3), (⟨"ShareDesk", "checkTotal", "()V"⟩, 3), (⟨"ShareDesk", "unitsOf", "(III)I"⟩, 3), (⟨"ShareDesk", "unitsByRests", "(II)I"⟩, 3), (⟨"ShareDesk", "restOf", "(II)J"⟩, 3), (⟨"ShareDesk", "unitsByTurns", "(III)I"⟩, 3), (⟨"ShareDesk", "turnOf", "(III)J"⟩, 3), (⟨"ShareDesk", "unitsBefore", "(IIII)J"⟩, 3), (⟨"ShareDesk", "leastByRests", "(II)I"⟩, 3), (⟨"ShareDesk", "partiesWithWeight", "()I"⟩, 3), (⟨"ShareDeskModel", "fails", "(ZI)Z"⟩, 6), (⟨"ShareDeskModel", "isParty", "(I)Z"⟩, 6), (⟨"ShareDeskModel", "all", "()J"⟩, 6), (⟨"ShareDeskModel", "give", "(II)V"⟩, 6), (⟨"ShareDeskModel", "parts", "(I)V"⟩, 6)]
theorem lw_r1 : ∀ q ∈ lw_privs_1, lw_okq q := List.forall_mem_cons.mpr ⟨lw_p0, List.forall_mem_cons.mpr ⟨lw_p1, List.forall_mem_cons.mpr ⟨lw_p2, List.forall_mem_cons.mpr ⟨lw_p3, List.forall_mem_cons.mpr ⟨lw_p4, List.forall_mem_cons.mpr ⟨lw_p5, List.forall_mem_cons.mpr ⟨lw_p6, List.forall_mem_cons.mpr ⟨lw_p7, List.forall_mem_cons.mpr ⟨lw_p8, List.forall_mem_cons.mpr ⟨lw_p9, List.forall_mem_cons.mpr ⟨lw_p10, List.forall_mem_cons.mpr ⟨lw_p11, List.forall_mem_cons.mpr ⟨lw_p12, List.forall_mem_cons.mpr ⟨lw_p13, List.forall_mem_cons.mpr ⟨lw_p14, List.forall_mem_cons.mpr ⟨lw_p15, fun _ h => absurd h List.not_mem_nil⟩⟩⟩⟩⟩⟩⟩⟩⟩⟩⟩⟩⟩⟩⟩⟩
theorem lw_p16 : lw_okq (⟨"ShareDeskModel", "one", "(I)V"⟩, 6) := ⟨⟨by decide +kernel, by decide +kernel⟩, List.mem_of_getElem? (i := 220) (by decide +kernel), List.mem_of_getElem? (i := 293) (by decide +kernel), List.mem_of_getElem? (i := 294) (by decide +kernel)⟩
def lw_privs_2 : List (MethodName × Nat) := [(⟨"ShareDeskModel", "one", "(I)V"⟩, 6)]
theorem lw_r2 : ∀ q ∈ lw_privs_2, lw_okq q := List.forall_mem_cons.mpr ⟨lw_p16, fun _ h => absurd h List.not_mem_nil⟩
def lw_privs : List (MethodName × Nat) := lw_privs_1 ++ (lw_privs_2)
def lw_tbl : List Cond := k2_sels lw_privs ++ tables_1
theorem lw_privs_ok : ∀ q ∈ lw_privs, lw_okq q := by
  show ∀ q ∈ lw_privs_1 ++ (lw_privs_2), lw_okq q
  exact List.forall_mem_append.mpr ⟨lw_r1, lw_r2⟩
end
section
/-! The pure part: sums, counts, and the three ways, over Nat. No word of the machine. -/
def sd_sum (f : Nat → Nat) : Nat → Nat
  | 0 => 0
  | n + 1 => sd_sum f n + f n
def sd_cnt (P : Nat → Bool) : Nat → Nat
  | 0 => 0
  | n + 1 => sd_cnt P n + (if P n then 1 else 0)
def sd_up (f : Nat → Nat) (p v : Nat) : Nat → Nat := fun i => if i = p then v else f i
theorem sd_sum_s (f : Nat → Nat) (n : Nat) : sd_sum f (n + 1) = sd_sum f n + f n := rfl
theorem sd_cnt_s (P : Nat → Bool) (n : Nat) : sd_cnt P (n + 1) = sd_cnt P n + (if P n then 1 else 0) := rfl
theorem sd_sum_le {f g : Nat → Nat} : ∀ {n : Nat}, (∀ i, i < n → f i ≤ g i) → sd_sum f n ≤ sd_sum g n
  | 0, _ => Nat.le_refl _
  | n + 1, h => Nat.add_le_add (sd_sum_le (fun i hi => h i (Nat.lt_succ_of_lt hi))) (h n (Nat.lt_succ_self n))
theorem sd_sum_congr {f g : Nat → Nat} {n : Nat} (h : ∀ i, i < n → f i = g i) : sd_sum f n = sd_sum g n :=
  Nat.le_antisymm (sd_sum_le (fun i hi => Nat.le_of_eq (h i hi))) (sd_sum_le (fun i hi => Nat.le_of_eq (h i hi).symm))
theorem sd_sum_add (f g : Nat → Nat) : ∀ n : Nat, sd_sum (fun i => f i + g i) n = sd_sum f n + sd_sum g n
  | 0 => rfl
  | n + 1 => by rw [sd_sum_s, sd_sum_s, sd_sum_s, sd_sum_add f g n]; omega
theorem sd_sum_mul (c : Nat) (f : Nat → Nat) : ∀ n : Nat, sd_sum (fun i => c * f i) n = c * sd_sum f n
  | 0 => rfl
  | n + 1 => by rw [sd_sum_s, sd_sum_s, sd_sum_mul c f n, Nat.mul_add]
theorem sd_sum_upd {f g : Nat → Nat} {p : Nat} : ∀ {n : Nat}, p < n → (∀ i, i < n → i ≠ p → g i = f i) → sd_sum g n + f p = sd_sum f n + g p
  | 0, h, _ => absurd h (Nat.not_lt_zero _)
  | n + 1, h, hs => by
    rw [sd_sum_s, sd_sum_s]
    by_cases e : p = n
    · subst e
      have := sd_sum_congr (n := p) (fun i hi => hs i (Nat.lt_succ_of_lt hi) (Nat.ne_of_lt hi))
      omega
    · have h1 : p < n := by omega
      have h2 := sd_sum_upd h1 (fun i hi hn => hs i (Nat.lt_succ_of_lt hi) hn)
      have h3 := hs n (Nat.lt_succ_self n) (fun z => e z.symm)
      omega
theorem sd_sum_split {s : Nat → Nat} {p n : Nat} (hp : p < n) : sd_sum s n = s p + sd_sum (fun i => if i = p then 0 else s i) n := by
  have h := sd_sum_upd (f := fun i => if i = p then 0 else s i) (g := s) hp (fun i _ hn => (if_neg hn).symm)
  simp only [if_true] at h
  omega
theorem sd_sum_zero {f : Nat → Nat} {n : Nat} (h : ∀ i, i < n → f i = 0) : sd_sum f n = 0 := by
  have h1 := sd_sum_congr (g := fun _ => 0) h
  have h2 : ∀ m : Nat, sd_sum (fun _ => 0) m = 0 := by
    intro m
    induction m with
    | zero => rfl
    | succ m ih => rw [sd_sum_s, ih]
  rw [h1, h2]
theorem sd_sum_pos {f : Nat → Nat} : ∀ {n : Nat}, 0 < sd_sum f n → ∃ i, i < n ∧ 0 < f i
  | 0, h => absurd h (Nat.lt_irrefl _)
  | n + 1, h => by
    rw [sd_sum_s] at h
    by_cases e : 0 < f n
    · exact ⟨n, Nat.lt_succ_self n, e⟩
    · obtain ⟨i, h1, h2⟩ := sd_sum_pos (f := f) (n := n) (by omega)
      exact ⟨i, Nat.lt_succ_of_lt h1, h2⟩
theorem sd_sum_ge {f : Nat → Nat} {p n : Nat} (hp : p < n) : f p ≤ sd_sum f n := by
  have := sd_sum_split (s := f) hp
  omega
theorem sd_sum_bound {f : Nat → Nat} {B : Nat} : ∀ {n : Nat}, (∀ i, i < n → f i ≤ B) → sd_sum f n ≤ n * B
  | 0, _ => Nat.zero_le _
  | n + 1, h => by
    rw [sd_sum_s, Nat.succ_mul]
    exact Nat.add_le_add (sd_sum_bound (fun i hi => h i (Nat.lt_succ_of_lt hi))) (h n (Nat.lt_succ_self n))
theorem sd_sum_mono {f : Nat → Nat} {a b : Nat} (h : a ≤ b) : sd_sum f a ≤ sd_sum f b := by
  induction b with
  | zero => rw [Nat.le_zero.mp h]; exact Nat.le_refl _
  | succ b ih =>
    by_cases e : a = b + 1
    · rw [e]; exact Nat.le_refl _
    · have := ih (by omega)
      rw [sd_sum_s]
      omega
theorem sd_cnt_sum (P : Nat → Bool) : ∀ n : Nat, sd_cnt P n = sd_sum (fun i => if P i then 1 else 0) n
  | 0 => rfl
  | n + 1 => by rw [sd_cnt_s, sd_sum_s, sd_cnt_sum P n]
theorem sd_cnt_le {P Q : Nat → Bool} {n : Nat} (h : ∀ i, i < n → P i = true → Q i = true) : sd_cnt P n ≤ sd_cnt Q n := by
  rw [sd_cnt_sum, sd_cnt_sum]
  refine sd_sum_le (fun i hi => ?_)
  cases hp : P i with
  | false => exact Nat.zero_le _
  | true => rw [h i hi hp]; exact Nat.le_refl _
theorem sd_cnt_lt {P Q : Nat → Bool} {n p : Nat} (hp : p < n) (h : ∀ i, i < n → P i = true → Q i = true) (h1 : P p = false) (h2 : Q p = true) : sd_cnt P n < sd_cnt Q n := by
  rw [sd_cnt_sum, sd_cnt_sum]
  rw [sd_sum_split hp, sd_sum_split (s := fun i => if Q i then 1 else 0) hp]
  have h3 : sd_sum (fun i => if i = p then 0 else if P i then 1 else 0) n ≤ sd_sum (fun i => if i = p then 0 else if Q i then 1 else 0) n := by
    refine sd_sum_le (fun i hi => ?_)
    by_cases e : i = p
    · rw [if_pos e, if_pos e]; exact Nat.le_refl _
    · rw [if_neg e, if_neg e]
      cases hq : P i with
      | false => exact Nat.zero_le _
      | true => rw [h i hi hq]; exact Nat.le_refl _
  have h4 : (if P p then 1 else 0) = 0 := by rw [h1]; rfl
  have h5 : (if Q p then 1 else 0) = 1 := by rw [h2]; rfl
  show (if P p then 1 else 0) + _ < (if Q p then 1 else 0) + _
  rw [h4, h5]
  omega
theorem sd_cnt_all {P : Nat → Bool} : ∀ {n : Nat}, (∀ i, i < n → P i = true) → sd_cnt P n = n
  | 0, _ => rfl
  | n + 1, h => by rw [sd_cnt_s, sd_cnt_all (fun i hi => h i (Nat.lt_succ_of_lt hi)), h n (Nat.lt_succ_self n)]; rfl
theorem sd_cnt_lim (P : Nat → Bool) : ∀ n : Nat, sd_cnt P n ≤ n
  | 0 => Nat.le_refl _
  | n + 1 => by
    rw [sd_cnt_s]
    have := sd_cnt_lim P n
    cases P n <;> simp <;> omega
/-! ### ways 1 and 2: one by one -/
/-- the divisor of a party's j-th unit -/
def sd_dv (y j : Nat) : Nat := y * (j - 1) + 1
def sd_bt (y : Nat) (w s : Nat → Nat) (p : Nat) : Option Nat → Bool
  | none => true
  | some b => decide (w b * (y * s p + 1) < w p * (y * s b + 1))
def sd_best (y : Nat) (w s : Nat → Nat) : Nat → Option Nat
  | 0 => none
  | p + 1 => if decide (0 < w p) && sd_bt y w s p (sd_best y w s p) then some p else sd_best y w s p
theorem sd_best_none {y : Nat} {w s : Nat → Nat} : ∀ {n : Nat}, sd_best y w s n = none → ∀ p, p < n → w p = 0
  | 0, _, p, hp => absurd hp (Nat.not_lt_zero _)
  | n + 1, h, p, hp => by
    unfold sd_best at h
    by_cases c : (decide (0 < w n) && sd_bt y w s n (sd_best y w s n)) = true
    · rw [if_pos c] at h; cases h
    · rw [if_neg c] at h
      have ih := sd_best_none h
      by_cases e : p = n
      · subst e
        rw [h] at c
        simp [sd_bt] at c
        omega
      · exact ih p (by omega)
theorem sd_cross {a b c x y z : Nat} (hx : 0 < x) (h1 : a * y ≤ b * x) (h2 : b * z < c * y) : a * z < c * x := by
  have h3 : a * y * z ≤ b * x * z := Nat.mul_le_mul_right z h1
  have h4 : b * z * x < c * y * x := Nat.mul_lt_mul_of_pos_right h2 hx
  have e1 : a * z * y = a * y * z := Nat.mul_right_comm a z y
  have e2 : b * x * z = b * z * x := Nat.mul_right_comm b x z
  have e3 : c * y * x = c * x * y := Nat.mul_right_comm c y x
  have h5 : a * z * y < c * x * y := by omega
  exact Nat.lt_of_mul_lt_mul_right h5
theorem sd_best_some {y : Nat} {w s : Nat → Nat} : ∀ {n b : Nat}, sd_best y w s n = some b →
    b < n ∧ 0 < w b ∧ ∀ p, p < n → 0 < w p → p ≠ b → (w p * (y * s b + 1) < w b * (y * s p + 1) ∨ (w p * (y * s b + 1) = w b * (y * s p + 1) ∧ b < p))
  | 0, b, h => by cases h
  | n + 1, b, h => by
    unfold sd_best at h
    by_cases c : (decide (0 < w n) && sd_bt y w s n (sd_best y w s n)) = true
    · rw [if_pos c] at h
      cases h
      rw [Bool.and_eq_true, decide_eq_true_eq] at c
      refine ⟨Nat.lt_succ_self n, c.1, fun p hp hw hn => Or.inl ?_⟩
      have hp' : p < n := by omega
      cases hb : sd_best y w s n with
      | none => have := sd_best_none hb p hp'; omega
      | some b' =>
        have c2 := c.2
        rw [hb] at c2
        have c3 : w b' * (y * s n + 1) < w n * (y * s b' + 1) := of_decide_eq_true c2
        obtain ⟨-, -, ih⟩ := sd_best_some hb
        by_cases e : p = b'
        · subst e; exact c3
        · refine sd_cross (y := y * s b' + 1) (Nat.succ_pos _) ?_ c3
          rcases ih p hp' hw e with h | h
          · exact Nat.le_of_lt h
          · exact Nat.le_of_eq h.1
    · rw [if_neg c] at h
      obtain ⟨h1, h2, ih⟩ := sd_best_some h
      refine ⟨by omega, h2, fun p hp hw hn => ?_⟩
      by_cases e : p = n
      · subst e
        rw [h, Bool.and_eq_true, decide_eq_true_eq] at c
        have c2 : ¬ (w b * (y * s p + 1) < w p * (y * s b + 1)) := fun z => c ⟨hw, decide_eq_true z⟩
        rcases Nat.lt_or_ge (w p * (y * s b + 1)) (w b * (y * s p + 1)) with z | z
        · exact Or.inl z
        · exact Or.inr ⟨by omega, h1⟩
      · exact ih p (by omega) hw hn
def sd_one (y : Nat) (w : Nat → Nat) (n : Nat) (s : Nat → Nat) : Nat → Nat := match sd_best y w s n with
  | none => s
  | some b => sd_up s b (s b + 1)
def sd_G (y : Nat) (w : Nat → Nat) (n : Nat) : Nat → (Nat → Nat)
  | 0 => fun _ => 0
  | m + 1 => sd_one y w n (sd_G y w n m)
/-- party i's j-th unit goes out before party p's k-th -/
def sd_bf (y : Nat) (w : Nat → Nat) (i j p k : Nat) : Prop := sd_dv y j * w p < sd_dv y k * w i ∨ (sd_dv y j * w p = sd_dv y k * w i ∧ i < p)
def sd_inv (y : Nat) (w : Nat → Nat) (n : Nat) (s : Nat → Nat) (m : Nat) : Prop :=
  sd_sum s n = m ∧ (∀ i, i < n → w i = 0 → s i = 0) ∧ ∀ i j, i < n → j < n → i ≠ j → 1 ≤ s i → 0 < w j → sd_bf y w i (s i) j (s j + 1)
theorem sd_dv_mono {y j k : Nat} (h : j ≤ k) : sd_dv y j ≤ sd_dv y k := by
  unfold sd_dv
  have : y * (j - 1) ≤ y * (k - 1) := Nat.mul_le_mul_left y (by omega)
  omega
theorem sd_dv_pos (y j : Nat) : 0 < sd_dv y j := Nat.succ_pos _
theorem sd_bf_right {y : Nat} {w : Nat → Nat} {i j p k k' : Nat} (hk : k ≤ k') (h : sd_bf y w i j p k) : sd_bf y w i j p k' := by
  have h1 : sd_dv y k * w i ≤ sd_dv y k' * w i := Nat.mul_le_mul_right _ (sd_dv_mono hk)
  unfold sd_bf at *
  rcases h with h | ⟨h, h2⟩
  · left; omega
  · by_cases e : sd_dv y j * w p = sd_dv y k' * w i
    · exact Or.inr ⟨e, h2⟩
    · left; omega
theorem sd_bf_left {y : Nat} {w : Nat → Nat} {i j j' p k : Nat} (hj : j ≤ j') (h : sd_bf y w i j' p k) : sd_bf y w i j p k := by
  have h1 : sd_dv y j * w p ≤ sd_dv y j' * w p := Nat.mul_le_mul_right _ (sd_dv_mono hj)
  unfold sd_bf at *
  rcases h with h | ⟨h, h2⟩
  · left; omega
  · by_cases e : sd_dv y j * w p = sd_dv y k * w i
    · exact Or.inr ⟨e, h2⟩
    · left; omega
theorem sd_bf_anti {y : Nat} {w : Nat → Nat} {i j p k : Nat} (h1 : sd_bf y w i j p k) (h2 : sd_bf y w p k i j) : False := by
  unfold sd_bf at *
  rcases h1 with h1 | ⟨h1, g1⟩ <;> rcases h2 with h2 | ⟨h2, g2⟩ <;> omega
theorem sd_up_self (f : Nat → Nat) (p v : Nat) : sd_up f p v p = v := if_pos rfl
theorem sd_up_ne {f : Nat → Nat} {p v i : Nat} (h : i ≠ p) : sd_up f p v i = f i := if_neg h
theorem sd_inv_one {y : Nat} {w : Nat → Nat} {n : Nat} {s : Nat → Nat} {m : Nat} (hw : ∃ p, p < n ∧ 0 < w p) (h : sd_inv y w n s m) : sd_inv y w n (sd_one y w n s) (m + 1) := by
  obtain ⟨h1, h2, h3⟩ := h
  cases hb : sd_best y w s n with
  | none =>
    obtain ⟨p, hp, hw⟩ := hw
    have := sd_best_none hb p hp
    omega
  | some b =>
    have e0 : sd_one y w n s = sd_up s b (s b + 1) := by unfold sd_one; rw [hb]
    rw [e0]
    obtain ⟨g1, g2, g3⟩ := sd_best_some hb
    have hup := sd_sum_upd (f := s) (g := sd_up s b (s b + 1)) g1 (fun i _ hi => sd_up_ne hi)
    rw [sd_up_self] at hup
    refine ⟨by omega, fun i hi hwi => ?_, fun i j hi hj hij hs hwj => ?_⟩
    · rw [sd_up_ne (by intro e; subst e; omega)]
      exact h2 i hi hwi
    · by_cases e1 : i = b
      · subst e1
        rw [sd_up_self, sd_up_ne (fun z => hij z.symm)]
        have g4 := g3 j hj hwj (fun z => hij z.symm)
        unfold sd_bf sd_dv
        rw [Nat.add_sub_cancel, Nat.add_sub_cancel]
        rw [Nat.mul_comm (y * s i + 1), Nat.mul_comm (y * s j + 1)]
        exact g4
      · rw [sd_up_ne e1] at hs ⊢
        by_cases e2 : j = b
        · subst e2
          rw [sd_up_self]
          exact sd_bf_right (by omega) (h3 i j hi hj hij hs hwj)
        · rw [sd_up_ne e2]
          exact h3 i j hi hj hij hs hwj
theorem sd_inv_G {y : Nat} {w : Nat → Nat} {n : Nat} (hw : ∃ p, p < n ∧ 0 < w p) : ∀ m : Nat, sd_inv y w n (sd_G y w n m) m
  | 0 => ⟨sd_sum_zero (fun _ _ => rfl), fun _ _ _ => rfl, fun i j _ _ _ h => absurd h (Nat.not_succ_le_zero _)⟩
  | m + 1 => sd_inv_one hw (sd_inv_G hw m)
/-- how many units party i gets before party p gets its k-th -/
def sd_ub (y : Nat) (w : Nat → Nat) (k p i : Nat) : Nat := if w i = 0 then 0 else
  if y = 1 then (sd_dv y k * w i - (if p < i then 1 else 0)) / w p else ((sd_dv y k * w i - (if p < i then 1 else 0)) / w p + 1) / 2
theorem sd_ub_iff {y : Nat} {w : Nat → Nat} {i j p k : Nat} (hy : y = 1 ∨ y = 2) (hp : 0 < w p) (hj : 1 ≤ j) (hi : 0 < w i) (hn : i ≠ p) : j ≤ sd_ub y w k p i ↔ sd_bf y w i j p k := by
  have hr : 0 < sd_dv y k * w i := Nat.mul_pos (sd_dv_pos y k) hi
  have h1 : sd_bf y w i j p k ↔ sd_dv y j * w p ≤ sd_dv y k * w i - (if p < i then 1 else 0) := by
    unfold sd_bf
    by_cases e : p < i
    · rw [if_pos e]; omega
    · rw [if_neg e]; omega
  rw [h1, ← Nat.le_div_iff_mul_le hp]
  unfold sd_ub
  rw [if_neg (by omega)]
  generalize (sd_dv y k * w i - (if p < i then 1 else 0)) / w p = g
  rcases hy with rfl | rfl
  · rw [if_pos rfl]
    unfold sd_dv
    omega
  · rw [if_neg (by omega)]
    unfold sd_dv
    omega
/-- which unit, counted from 1, is the k-th of party p -/
def sd_turn (y : Nat) (w : Nat → Nat) (n k p : Nat) : Nat := k + sd_sum (fun i => if i = p then 0 else sd_ub y w k p i) n
theorem sd_turn_iff {y : Nat} {w : Nat → Nat} {n : Nat} {s : Nat → Nat} {m k p : Nat} (hy : y = 1 ∨ y = 2) (h : sd_inv y w n s m) (hpn : p < n) (hp : 0 < w p) (hk : 1 ≤ k) : sd_turn y w n k p ≤ m ↔ k ≤ s p := by
  obtain ⟨h1, h2, h3⟩ := h
  have hs := sd_sum_split (s := s) hpn
  unfold sd_turn
  constructor
  · intro hle
    rcases Nat.lt_or_ge (s p) k with z | z
    · exfalso
      have : sd_sum (fun i => if i = p then 0 else s i) n ≤ sd_sum (fun i => if i = p then 0 else sd_ub y w k p i) n := by
        refine sd_sum_le (fun i hi => ?_)
        by_cases e : i = p
        · rw [if_pos e, if_pos e]; exact Nat.le_refl _
        · rw [if_neg e, if_neg e]
          by_cases e0 : s i = 0
          · rw [e0]; exact Nat.zero_le _
          · have hwi : 0 < w i := Nat.pos_of_ne_zero (fun z => e0 (h2 i hi z))
            rw [sd_ub_iff hy hp (by omega) hwi e]
            exact sd_bf_right z (h3 i p hi hpn e (by omega) hp)
      omega
    · exact z
  · intro hle
    have : sd_sum (fun i => if i = p then 0 else sd_ub y w k p i) n ≤ sd_sum (fun i => if i = p then 0 else s i) n := by
      refine sd_sum_le (fun i hi => ?_)
      by_cases e : i = p
      · rw [if_pos e, if_pos e]; exact Nat.le_refl _
      · rw [if_neg e, if_neg e]
        by_cases hwi : w i = 0
        · unfold sd_ub; rw [if_pos hwi]; exact Nat.zero_le _
        · rcases Nat.lt_or_ge (s i) (sd_ub y w k p i) with z | z
          · exfalso
            have z2 := (sd_ub_iff (j := s i + 1) hy hp (by omega) (Nat.pos_of_ne_zero hwi) e).mp z
            have z3 := h3 p i hpn hi (fun z => e z.symm) (by omega) (Nat.pos_of_ne_zero hwi)
            exact sd_bf_anti z2 (sd_bf_left hle z3)
          · exact z
    omega
/-! ### way 0: the greatest rests -/
def sd_rs (w : Nat → Nat) (W m i : Nat) : Nat := m * w i % W
def sd_ab (r : Nat → Nat) (p i : Nat) : Bool := decide (r p < r i) || (decide (r i = r p) && decide (i < p))
def sd_u0 (w : Nat → Nat) (n m p : Nat) : Nat := m * w p / sd_sum w n + (if sd_cnt (sd_ab (sd_rs w (sd_sum w n) m) p) n < sd_sum (sd_rs w (sd_sum w n) m) n / sd_sum w n then 1 else 0)
def sd_pt (r : Nat → Nat) (p : Nat) : Option Nat → Bool
  | none => true
  | some b => decide (r b < r p)
def sd_pk (r : Nat → Nat) (g : Nat → Bool) : Nat → Option Nat
  | 0 => none
  | p + 1 => if !g p && sd_pt r p (sd_pk r g p) then some p else sd_pk r g p
theorem sd_pk_none {r : Nat → Nat} {g : Nat → Bool} : ∀ {n : Nat}, sd_pk r g n = none → ∀ p, p < n → g p = true
  | 0, _, p, hp => absurd hp (Nat.not_lt_zero _)
  | n + 1, h, p, hp => by
    unfold sd_pk at h
    by_cases c : (!g n && sd_pt r n (sd_pk r g n)) = true
    · rw [if_pos c] at h; cases h
    · rw [if_neg c] at h
      by_cases e : p = n
      · subst e
        rw [h] at c
        cases hg : g p with
        | true => rfl
        | false => exact absurd (by rw [hg]; rfl) c
      · exact sd_pk_none h p (by omega)
theorem sd_pk_some {r : Nat → Nat} {g : Nat → Bool} : ∀ {n b : Nat}, sd_pk r g n = some b → b < n ∧ g b = false ∧ ∀ p, p < n → g p = false → p ≠ b → (r p < r b ∨ (r p = r b ∧ b < p))
  | 0, b, h => by cases h
  | n + 1, b, h => by
    unfold sd_pk at h
    by_cases c : (!g n && sd_pt r n (sd_pk r g n)) = true
    · rw [if_pos c] at h
      cases h
      rw [Bool.and_eq_true] at c
      obtain ⟨c1, c2⟩ := c
      refine ⟨Nat.lt_succ_self n, by simpa using c1, fun p hp hw hn => Or.inl ?_⟩
      have hp' : p < n := by omega
      cases hb : sd_pk r g n with
      | none => have := sd_pk_none hb p hp'; rw [this] at hw; cases hw
      | some b' =>
        rw [hb] at c2
        have c3 : r b' < r n := of_decide_eq_true c2
        obtain ⟨-, -, ih⟩ := sd_pk_some hb
        by_cases e : p = b'
        · subst e; exact c3
        · rcases ih p hp' hw e with h | h <;> omega
    · rw [if_neg c] at h
      obtain ⟨h1, h2, ih⟩ := sd_pk_some h
      refine ⟨by omega, h2, fun p hp hw hn => ?_⟩
      by_cases e : p = n
      · subst e
        rw [h] at c
        have c2 : ¬ (r b < r p) := fun z => c (by rw [hw]; exact decide_eq_true z)
        rcases Nat.lt_or_ge (r p) (r b) with z | z
        · exact Or.inl z
        · exact Or.inr ⟨by omega, h1⟩
      · exact ih p (by omega) hw hn
def sd_gs (r : Nat → Nat) (n : Nat) : Nat → (Nat → Bool)
  | 0 => fun _ => false
  | t + 1 => match sd_pk r (sd_gs r n t) n with
    | none => sd_gs r n t
    | some b => fun i => if i = b then true else sd_gs r n t i
theorem sd_gs_pick {r : Nat → Nat} {n t : Nat} (ht : sd_cnt (sd_gs r n t) n < n) : ∃ b, sd_pk r (sd_gs r n t) n = some b := by
  cases hb : sd_pk r (sd_gs r n t) n with
  | some b => exact ⟨b, rfl⟩
  | none => have := sd_cnt_all (sd_pk_none hb); omega
theorem sd_gs_inv {r : Nat → Nat} {n : Nat} : ∀ {t : Nat}, t ≤ n → sd_cnt (sd_gs r n t) n = t ∧ ∀ g u, g < n → u < n → sd_gs r n t g = true → sd_gs r n t u = false → sd_ab r u g = true
  | 0, _ => ⟨by rw [sd_cnt_sum]; exact sd_sum_zero (fun _ _ => rfl), fun g u _ _ h => by cases h⟩
  | t + 1, ht => by
    obtain ⟨h1, h2⟩ := sd_gs_inv (r := r) (n := n) (t := t) (by omega)
    obtain ⟨b, hb⟩ := sd_gs_pick (r := r) (n := n) (t := t) (by omega)
    obtain ⟨g1, g2, g3⟩ := sd_pk_some hb
    have e : sd_gs r n (t + 1) = fun i => if i = b then true else sd_gs r n t i := by
      show (match sd_pk r (sd_gs r n t) n with
        | none => sd_gs r n t
        | some b => fun i => if i = b then true else sd_gs r n t i) = _
      rw [hb]
    rw [e]
    refine ⟨?_, fun g u hg hu hgt huf => ?_⟩
    · have hx := sd_sum_upd (f := fun i => if sd_gs r n t i then 1 else 0) (g := fun i => if (if i = b then true else sd_gs r n t i) then 1 else 0) g1 (fun i _ hi => by show (if (if i = b then true else sd_gs r n t i) then 1 else 0) = _; rw [if_neg hi])
      rw [← sd_cnt_sum, ← sd_cnt_sum] at hx
      have hf : (if sd_gs r n t b then 1 else 0) = 0 := by rw [g2]; rfl
      have hg : (if (if b = b then true else sd_gs r n t b) then 1 else 0) = 1 := by rw [if_pos (rfl : b = b)]; rfl
      have hx2 : sd_cnt (fun i => if i = b then true else sd_gs r n t i) n + (if sd_gs r n t b then 1 else 0) = sd_cnt (sd_gs r n t) n + (if (if b = b then true else sd_gs r n t b) then 1 else 0) := hx
      rw [hf, hg] at hx2
      omega
    · have hub : u ≠ b := by intro z; subst z; simp at huf
      have huf' : sd_gs r n t u = false := by simpa [hub] using huf
      by_cases z : g = b
      · subst z
        have := g3 u hu huf' hub
        unfold sd_ab
        rcases this with h | ⟨h, h'⟩
        · rw [decide_eq_true h]; rfl
        · rw [decide_eq_true h.symm, decide_eq_true h']; simp
      · have hgt' : sd_gs r n t g = true := by simpa [z] using hgt
        exact h2 g u hg hu hgt' huf'
theorem sd_ab_irr (r : Nat → Nat) (p : Nat) : sd_ab r p p = false := by simp [sd_ab]
theorem sd_ab_anti {r : Nat → Nat} {p i : Nat} (h : sd_ab r p i = true) : sd_ab r i p = false := by
  simp [sd_ab] at *
  omega
theorem sd_gs_iff {r : Nat → Nat} {n t p : Nat} (ht : t ≤ n) (hp : p < n) : sd_gs r n t p = decide (sd_cnt (sd_ab r p) n < t) := by
  obtain ⟨h1, h2⟩ := sd_gs_inv (r := r) ht
  cases hg : sd_gs r n t p with
  | true =>
    refine (decide_eq_true ?_).symm
    have := sd_cnt_lt (P := sd_ab r p) (Q := sd_gs r n t) hp (fun i hi ha => by
      cases hq : sd_gs r n t i with
      | true => rfl
      | false =>
        have h3 := sd_ab_anti (h2 p i hp hi hg hq)
        rw [h3] at ha
        cases ha) (sd_ab_irr r p) hg
    omega
  | false =>
    refine (decide_eq_false ?_).symm
    have := sd_cnt_le (P := sd_gs r n t) (Q := sd_ab r p) (n := n) (fun i hi ha => h2 i p hi hp ha hg)
    omega
/-- the units that are left over are the sum of the rests, divided by the sum of the weights -/
theorem sd_left {w : Nat → Nat} {n m : Nat} (hW : 0 < sd_sum w n) : sd_sum (fun i => m * w i / sd_sum w n) n + sd_sum (sd_rs w (sd_sum w n) m) n / sd_sum w n = m ∧ sd_sum (sd_rs w (sd_sum w n) m) n / sd_sum w n < n := by
  generalize hq : sd_sum w n = W at *
  have h1 : sd_sum (fun i => m * w i) n = W * sd_sum (fun i => m * w i / W) n + sd_sum (sd_rs w W m) n := by
    rw [← sd_sum_mul, ← sd_sum_add]
    exact sd_sum_congr (fun i _ => (Nat.div_add_mod (m * w i) W).symm)
  rw [sd_sum_mul, hq] at h1
  have h2 : sd_sum (sd_rs w W m) n ≤ n * (W - 1) := sd_sum_bound (fun i _ => by
    have := Nat.mod_lt (m * w i) hW
    show m * w i % W ≤ W - 1
    omega)
  have hn : 0 < n := by
    rcases Nat.eq_zero_or_pos n with z | z
    · subst z; rw [← hq] at hW; exact absurd hW (Nat.lt_irrefl _)
    · exact z
  refine ⟨?_, ?_⟩
  · have h3 : W * m = W * sd_sum (fun i => m * w i / W) n + sd_sum (sd_rs w W m) n := by rw [← h1, Nat.mul_comm]
    have h4 : W * m / W = sd_sum (fun i => m * w i / W) n + sd_sum (sd_rs w W m) n / W := by
      rw [h3, Nat.mul_comm W, Nat.add_comm, Nat.add_mul_div_right _ _ hW, Nat.add_comm]
    rw [Nat.mul_div_cancel_left m hW] at h4
    exact h4.symm
  · rw [Nat.div_lt_iff_lt_mul hW]
    have h5 : n * (W - 1) < n * W := Nat.mul_lt_mul_of_pos_left (by omega) hn
    omega
theorem sd_u0_gs {w : Nat → Nat} {n m p : Nat} (hW : 0 < sd_sum w n) (hp : p < n) : sd_u0 w n m p = m * w p / sd_sum w n + (if sd_gs (sd_rs w (sd_sum w n) m) n (sd_sum (sd_rs w (sd_sum w n) m) n / sd_sum w n) p then 1 else 0) := by
  unfold sd_u0
  rw [sd_gs_iff (Nat.le_of_lt (sd_left (m := m) hW).2) hp]
  simp
theorem sd_u0_sum {w : Nat → Nat} {n m : Nat} (hW : 0 < sd_sum w n) : sd_sum (sd_u0 w n m) n = m := by
  rw [sd_sum_congr (fun p hp => sd_u0_gs hW hp), sd_sum_add, ← sd_cnt_sum, (sd_gs_inv (Nat.le_of_lt (sd_left (m := m) hW).2)).1]
  exact (sd_left (m := m) hW).1
theorem sd_u0_early {w : Nat → Nat} {n m p k : Nat} (hW : 0 < sd_sum w n) (hp : 0 < w p) (hk : 1 ≤ k) (h : m < (k - 1) * sd_sum w n / w p) : sd_u0 w n m p < k := by
  have h1 : (m + 1) * w p ≤ (k - 1) * sd_sum w n := (Nat.le_div_iff_mul_le hp).mp h
  have h2 : m * w p < (k - 1) * sd_sum w n := by rw [Nat.succ_mul] at h1; omega
  have h3 : m * w p / sd_sum w n < k - 1 := (Nat.div_lt_iff_lt_mul hW).mpr h2
  unfold sd_u0
  split <;> omega
/-! ### the share, whatever the way; next; least -/
def sd_U (y : Nat) (w : Nat → Nat) (n m p : Nat) : Nat := if y = 0 then sd_u0 w n m p else sd_G y w n m p
theorem sd_U_sum {y : Nat} {w : Nat → Nat} {n m : Nat} (hW : 0 < sd_sum w n) : sd_sum (sd_U y w n m) n = m := by
  by_cases e : y = 0
  · subst e
    exact sd_u0_sum hW
  · have h1 : sd_U y w n m = sd_G y w n m := by funext p; exact if_neg e
    rw [h1]
    exact (sd_inv_G (sd_sum_pos hW) m).1
theorem sd_U_le {y : Nat} {w : Nat → Nat} {n m p : Nat} (hW : 0 < sd_sum w n) (hp : p < n) : sd_U y w n m p ≤ m := by
  have h1 := sd_sum_ge (f := sd_U y w n m) hp
  rw [sd_U_sum hW] at h1
  exact h1
def sd_nc (f g : Nat → Nat) : Nat → Option (Option Nat)
  | 0 => some none
  | i + 1 => match sd_nc f g i with
    | none => none
    | some c => if f i = g i then some c else match c with
      | none => some (some i)
      | some _ => none
def sd_nm (f g : Nat → Nat) : Nat → Option (Option Nat)
  | 0 => some none
  | i + 1 => match sd_nm f g i with
    | none => none
    | some c => if f i = g i then some c else match c with
      | none => if g i = f i + 1 then some (some i) else none
      | some _ => none
def sd_na : Option (Option Nat) → Option Nat
  | some (some i) => some i
  | _ => none
theorem sd_nc_at {f g : Nat → Nat} : ∀ {n : Nat}, (sd_nc f g n = some none → ∀ j, j < n → f j = g j) ∧ ∀ i, sd_nc f g n = some (some i) → i < n ∧ f i ≠ g i ∧ ∀ j, j < n → j ≠ i → f j = g j
  | 0 => ⟨fun _ j hj => absurd hj (Nat.not_lt_zero _), fun i h => by cases h⟩
  | n + 1 => by
    obtain ⟨ih1, ih2⟩ := sd_nc_at (f := f) (g := g) (n := n)
    unfold sd_nc
    cases hc : sd_nc f g n with
    | none => exact ⟨fun h => (by simp at h), fun i h => (by simp at h)⟩
    | some c =>
      by_cases e : f n = g n
      · refine ⟨fun h j hj => ?_, fun i h => ?_⟩
        · simp only [e, if_true] at h
          by_cases z : j = n
          · subst z; exact e
          · exact ih1 (by rw [hc, h]) j (by omega)
        · simp only [e, if_true] at h
          obtain ⟨q1, q2, q3⟩ := ih2 i (by rw [hc, h])
          refine ⟨by omega, q2, fun j hj hn => ?_⟩
          by_cases z : j = n
          · subst z; exact e
          · exact q3 j (by omega) hn
      · cases c with
        | none =>
          refine ⟨fun h => by simp [e] at h, fun i h => ?_⟩
          simp [e] at h
          subst h
          exact ⟨Nat.lt_succ_self _, e, fun j hj hn => ih1 hc j (by omega)⟩
        | some c => exact ⟨fun h => by simp [e] at h, fun i h => by simp [e] at h⟩
theorem sd_nm_nc {f g : Nat → Nat} : ∀ {n : Nat}, sd_nm f g n = sd_nc f g n ∨ (sd_nm f g n = none ∧ (sd_nc f g n = none ∨ ∃ i, sd_nc f g n = some (some i) ∧ g i ≠ f i + 1))
  | 0 => Or.inl rfl
  | n + 1 => by
    have ih := sd_nm_nc (f := f) (g := g) (n := n)
    unfold sd_nm sd_nc
    rcases ih with ih | ⟨ih, ih2⟩
    · rw [ih]
      cases hc : sd_nc f g n with
      | none => exact Or.inl rfl
      | some c =>
        by_cases e : f n = g n
        · left; simp [e]
        · cases c with
          | some c => left; rfl
          | none =>
            by_cases z : g n = f n + 1
            · left; simp [z]
            · right; simp [e, z]
    · right
      rw [ih]
      refine ⟨rfl, ?_⟩
      rcases ih2 with h | ⟨i, h, hi⟩
      · left; rw [h]
      · rw [h]
        by_cases e : f n = g n
        · right; exact ⟨i, by simp [e], hi⟩
        · left; simp [e]
theorem sd_next_eq {f g : Nat → Nat} {n : Nat} (h : sd_sum g n = sd_sum f n + 1) : sd_na (sd_nm f g n) = sd_na (sd_nc f g n) := by
  rcases sd_nm_nc (f := f) (g := g) (n := n) with z | ⟨z, z2⟩
  · rw [z]
  · rw [z]
    rcases z2 with z2 | ⟨i, z2, z3⟩
    · rw [z2]
    · exfalso
      obtain ⟨q1, q2, q3⟩ := (sd_nc_at (f := f) (g := g) (n := n)).2 i z2
      have := sd_sum_upd (f := f) (g := g) q1 (fun j hj hn => (q3 j hj hn).symm)
      omega
end
section
/-! Pure part, second half: bounds, the first of many, answers as ints. -/
def sd_oi : Option Nat → Int32
  | none => -1
  | some k => nI k
def sd_lst (Q : Nat → Bool) : Nat → Option Nat
  | 0 => none
  | N + 1 => match sd_lst Q N with
    | some m => some m
    | none => if Q N then some N else none
theorem sd_lst_s (Q : Nat → Bool) (N : Nat) : sd_lst Q (N + 1) = match sd_lst Q N with
    | some m => some m
    | none => if Q N then some N else none := rfl
theorem sd_lst_none {Q : Nat → Bool} : ∀ {N : Nat}, (∀ j, j < N → Q j = false) → sd_lst Q N = none
  | 0, _ => rfl
  | N + 1, h => by rw [sd_lst_s, sd_lst_none (fun j hj => h j (Nat.lt_succ_of_lt hj)), h N (Nat.lt_succ_self N)]; rfl
theorem sd_lst_at {Q : Nat → Bool} {m : Nat} (h : ∀ j, j < m → Q j = false) (hm : Q m = true) : ∀ {N : Nat}, m < N → sd_lst Q N = some m
  | 0, z => absurd z (Nat.not_lt_zero _)
  | N + 1, z => by
    rw [sd_lst_s]
    by_cases e : m = N
    · subst e
      rw [sd_lst_none h, hm]; rfl
    · rw [sd_lst_at h hm (by omega)]
theorem sd_dv_le {y k : Nat} (hy : y ≤ 2) (hk : 1 ≤ k) : sd_dv y k ≤ 2 * k := by
  unfold sd_dv
  have : y * (k - 1) ≤ 2 * (k - 1) := Nat.mul_le_mul_right _ hy
  omega
theorem sd_dv1 {k : Nat} (hk : 1 ≤ k) : sd_dv 1 k = k := by unfold sd_dv; omega
theorem sd_dv2 {k : Nat} (hk : 1 ≤ k) : sd_dv 2 k = 2 * k - 1 := by unfold sd_dv; omega
theorem sd_ub_le {y : Nat} {w : Nat → Nat} {k p i : Nat} : sd_ub y w k p i ≤ sd_dv y k * w i := by
  unfold sd_ub
  have h := Nat.div_le_self (sd_dv y k * w i - (if p < i then 1 else 0)) (w p)
  by_cases e : w i = 0
  · rw [if_pos e]; exact Nat.zero_le _
  · rw [if_neg e]
    generalize (sd_dv y k * w i - (if p < i then 1 else 0)) / w p = g at *
    split <;> omega
theorem sd_dw_le {y k W : Nat} {w : Nat → Nat} {i : Nat} (hy : y ≤ 2) (hk : 1 ≤ k) (hk2 : k ≤ 20000) (hw : w i ≤ W) : sd_dv y k * w i ≤ 40000 * W :=
  Nat.mul_le_mul (Nat.le_trans (sd_dv_le hy hk) (by omega)) hw
theorem sd_turn_le {y : Nat} {w : Nat → Nat} {n k p : Nat} (hy : y ≤ 2) (hk : 1 ≤ k) (hk2 : k ≤ 20000) (hw : ∀ i, w i ≤ 100000) (i : Nat) (hi : i ≤ n) (hn : n ≤ 8) :
    k + sd_sum (fun j => if j = p then 0 else sd_ub y w k p j) i ≤ 20000 + 8 * 4000000000 := by
  have h1 : sd_sum (fun j => if j = p then 0 else sd_ub y w k p j) i ≤ i * 4000000000 := by
    refine sd_sum_bound (fun j _ => ?_)
    by_cases e : j = p
    · rw [if_pos e]; exact Nat.zero_le _
    · rw [if_neg e]
      have h2 := sd_dw_le (W := 100000) hy hk hk2 (hw j)
      have h3 := sd_ub_le (y := y) (w := w) (k := k) (p := p) (i := j)
      omega
  omega
theorem sd_u0_le {w : Nat → Nat} {n m p : Nat} (hW : 0 < sd_sum w n) (hp : p < n) : sd_u0 w n m p ≤ m := by
  have h1 := sd_sum_ge (f := sd_u0 w n m) hp
  rw [sd_u0_sum hW] at h1
  exact h1
theorem sd_mw_le {m M x X : Nat} (h1 : m ≤ M) (h2 : x ≤ X) : m * x ≤ M * X := Nat.mul_le_mul h1 h2
theorem sd_lne0 {a : Nat} (h0 : 0 < a) (h : a < 2 ^ 63) : ¬ lN a = 0 := by
  intro z
  have h1 : lN a = lN 0 := z
  have h2 := (pk_lEQ h (by decide)).mp h1
  omega
theorem sd_W_le {w : Nat → Nat} {n : Nat} (hw : ∀ i, w i ≤ 100000) (hn : n ≤ 8) : sd_sum w n ≤ 800000 := by
  have := sd_sum_bound (n := n) (fun i (_ : i < n) => hw i)
  omega
theorem sd_oi_neg {o : Option Nat} (h : ∀ k, o = some k → k < 2 ^ 31) : (sd_oi o < 0) ↔ o = none := by
  cases o with
  | none => exact ⟨fun _ => rfl, fun _ => by decide +kernel⟩
  | some k => exact ⟨fun z => absurd z (nI_pos (h k rfl)), fun z => by cases z⟩
theorem sd_nc_none {f g : Nat → Nat} {i : Nat} (h : sd_nc f g i = none) : ∀ n, i ≤ n → sd_nc f g n = none := by
  intro n hn
  induction n with
  | zero => rw [show i = 0 by omega] at h; exact h
  | succ n ih =>
    by_cases e : i = n + 1
    · rw [← e]; exact h
    · have := ih (by omega)
      unfold sd_nc
      rw [this]
end
section
/-! Rows of the kit with an equation for what comes out; comparisons of Nats. -/
section SDR
variable {p : Program} {l : Launch} {e : Env} {R : Room} {s : State} {m : MethodId} {args : Array Value} {below : List Frame} {meth : Method} {c : Code} {H : Heap} {locs : List Loc} {cells slots : Nat} {Q : State → Prop} {cc : ByteArray} {pc : Nat} {ls : Array Slot} {rest : List Value}
theorem sd_iadd (hexec : p.tables.exec = Jvm.exec) (hb : c.code = cc) {x y v : Int32} (hdg : decode cc pc = .ok (.iadd, 1)) (hv : x + y = v) (k : W p l e R s m args below meth c H locs cells slots Q (F0 m (pc + 1) ls (.int v :: rest))) : W p l e R s m args below meth c H locs cells slots Q (F0 m pc ls (.int y :: .int x :: rest)) := by
  subst hv
  exact lv_iadd hexec hb hdg k
theorem sd_isub (hexec : p.tables.exec = Jvm.exec) (hb : c.code = cc) {x y v : Int32} (hdg : decode cc pc = .ok (.isub, 1)) (hv : x - y = v) (k : W p l e R s m args below meth c H locs cells slots Q (F0 m (pc + 1) ls (.int v :: rest))) : W p l e R s m args below meth c H locs cells slots Q (F0 m pc ls (.int y :: .int x :: rest)) := by
  subst hv
  exact lv_isub hexec hb hdg k
theorem sd_imul (hexec : p.tables.exec = Jvm.exec) (hb : c.code = cc) {x y v : Int32} (hdg : decode cc pc = .ok (.imul, 1)) (hv : x * y = v) (k : W p l e R s m args below meth c H locs cells slots Q (F0 m (pc + 1) ls (.int v :: rest))) : W p l e R s m args below meth c H locs cells slots Q (F0 m pc ls (.int y :: .int x :: rest)) := by
  subst hv
  exact lv_imul hexec hb hdg k
theorem sd_idiv (hexec : p.tables.exec = Jvm.exec) (hb : c.code = cc) {x y v : Int32} (hdg : decode cc pc = .ok (.idiv, 1)) (hne : ¬ y = 0) (hv : x / y = v) (k : W p l e R s m args below meth c H locs cells slots Q (F0 m (pc + 1) ls (.int v :: rest))) : W p l e R s m args below meth c H locs cells slots Q (F0 m pc ls (.int y :: .int x :: rest)) := by
  subst hv
  exact lv_idiv hexec hb hdg hne k
theorem sd_irem (hexec : p.tables.exec = Jvm.exec) (hb : c.code = cc) {x y v : Int32} (hdg : decode cc pc = .ok (.irem, 1)) (hne : ¬ y = 0) (hv : x - x / y * y = v) (k : W p l e R s m args below meth c H locs cells slots Q (F0 m (pc + 1) ls (.int v :: rest))) : W p l e R s m args below meth c H locs cells slots Q (F0 m pc ls (.int y :: .int x :: rest)) := by
  subst hv
  exact lv_irem hexec hb hdg hne k
theorem sd_ladd (hexec : p.tables.exec = Jvm.exec) (hb : c.code = cc) {x y v : Int64} (hdg : decode cc pc = .ok (.ladd, 1)) (hv : x + y = v) (k : W p l e R s m args below meth c H locs cells slots Q (F0 m (pc + 1) ls (.long v :: rest))) : W p l e R s m args below meth c H locs cells slots Q (F0 m pc ls (.long y :: .long x :: rest)) := by
  subst hv
  exact lv_ladd hexec hb hdg k
theorem sd_lsub (hexec : p.tables.exec = Jvm.exec) (hb : c.code = cc) {x y v : Int64} (hdg : decode cc pc = .ok (.lsub, 1)) (hv : x - y = v) (k : W p l e R s m args below meth c H locs cells slots Q (F0 m (pc + 1) ls (.long v :: rest))) : W p l e R s m args below meth c H locs cells slots Q (F0 m pc ls (.long y :: .long x :: rest)) := by
  subst hv
  exact lv_lsub hexec hb hdg k
theorem sd_lmul (hexec : p.tables.exec = Jvm.exec) (hb : c.code = cc) {x y v : Int64} (hdg : decode cc pc = .ok (.lmul, 1)) (hv : x * y = v) (k : W p l e R s m args below meth c H locs cells slots Q (F0 m (pc + 1) ls (.long v :: rest))) : W p l e R s m args below meth c H locs cells slots Q (F0 m pc ls (.long y :: .long x :: rest)) := by
  subst hv
  exact lv_lmul hexec hb hdg k
theorem sd_ldiv (hexec : p.tables.exec = Jvm.exec) (hb : c.code = cc) {x y v : Int64} (hdg : decode cc pc = .ok (.ldiv, 1)) (hne : ¬ y = 0) (hv : x / y = v) (k : W p l e R s m args below meth c H locs cells slots Q (F0 m (pc + 1) ls (.long v :: rest))) : W p l e R s m args below meth c H locs cells slots Q (F0 m pc ls (.long y :: .long x :: rest)) := by
  subst hv
  exact lv_ldiv hexec hb hdg hne k
theorem sd_lrem (hexec : p.tables.exec = Jvm.exec) (hb : c.code = cc) {x y v : Int64} (hdg : decode cc pc = .ok (.lrem, 1)) (hne : ¬ y = 0) (hv : x - x / y * y = v) (k : W p l e R s m args below meth c H locs cells slots Q (F0 m (pc + 1) ls (.long v :: rest))) : W p l e R s m args below meth c H locs cells slots Q (F0 m pc ls (.long y :: .long x :: rest)) := by
  subst hv
  exact lv_lrem hexec hb hdg hne k
theorem sd_ic_eq (hexec : p.tables.exec = Jvm.exec) (hb : c.code = cc) {a b : Nat} {off : Int} {tgt : Nat} (hdg : decode cc pc = .ok (.if_icmp .eq off, 3)) (ht : (pc : Int) + off = (tgt : Int)) (ha : a < 2 ^ 31) (hb2 : b < 2 ^ 31) (kt : a = b → W p l e R s m args below meth c H locs cells slots Q (F0 m tgt ls rest)) (kf : ¬ a = b → W p l e R s m args below meth c H locs cells slots Q (F0 m (pc + 3) ls rest)) : W p l e R s m args below meth c H locs cells slots Q (F0 m pc ls (.int (nI b) :: .int (nI a) :: rest)) :=
  lv_icmp_eq hexec hb hdg ht (fun h => kt ((nI_eq ha hb2).mp h)) (fun h => kf (fun z => h ((nI_eq ha hb2).mpr z)))
theorem sd_ic_ne (hexec : p.tables.exec = Jvm.exec) (hb : c.code = cc) {a b : Nat} {off : Int} {tgt : Nat} (hdg : decode cc pc = .ok (.if_icmp .ne off, 3)) (ht : (pc : Int) + off = (tgt : Int)) (ha : a < 2 ^ 31) (hb2 : b < 2 ^ 31) (kt : ¬ a = b → W p l e R s m args below meth c H locs cells slots Q (F0 m tgt ls rest)) (kf : a = b → W p l e R s m args below meth c H locs cells slots Q (F0 m (pc + 3) ls rest)) : W p l e R s m args below meth c H locs cells slots Q (F0 m pc ls (.int (nI b) :: .int (nI a) :: rest)) :=
  lv_icmp_ne hexec hb hdg ht (fun h => kt (fun z => h ((nI_eq ha hb2).mpr z))) (fun h => kf ((nI_eq ha hb2).mp h))
theorem sd_ic_lt (hexec : p.tables.exec = Jvm.exec) (hb : c.code = cc) {a b : Nat} {off : Int} {tgt : Nat} (hdg : decode cc pc = .ok (.if_icmp .lt off, 3)) (ht : (pc : Int) + off = (tgt : Int)) (ha : a < 2 ^ 31) (hb2 : b < 2 ^ 31) (kt : a < b → W p l e R s m args below meth c H locs cells slots Q (F0 m tgt ls rest)) (kf : b ≤ a → W p l e R s m args below meth c H locs cells slots Q (F0 m (pc + 3) ls rest)) : W p l e R s m args below meth c H locs cells slots Q (F0 m pc ls (.int (nI b) :: .int (nI a) :: rest)) :=
  lv_icmp_lt hexec hb hdg ht (fun h => kt ((nI_ltI ha hb2).mp h)) (fun h => kf (Nat.le_of_not_lt (fun z => h ((nI_ltI ha hb2).mpr z))))
theorem sd_ic_ge (hexec : p.tables.exec = Jvm.exec) (hb : c.code = cc) {a b : Nat} {off : Int} {tgt : Nat} (hdg : decode cc pc = .ok (.if_icmp .ge off, 3)) (ht : (pc : Int) + off = (tgt : Int)) (ha : a < 2 ^ 31) (hb2 : b < 2 ^ 31) (kt : b ≤ a → W p l e R s m args below meth c H locs cells slots Q (F0 m tgt ls rest)) (kf : a < b → W p l e R s m args below meth c H locs cells slots Q (F0 m (pc + 3) ls rest)) : W p l e R s m args below meth c H locs cells slots Q (F0 m pc ls (.int (nI b) :: .int (nI a) :: rest)) :=
  lv_icmp_ge hexec hb hdg ht (fun h => kt ((nI_leI hb2 ha).mp h)) (fun h => kf (Nat.lt_of_not_le (fun z => h ((nI_leI hb2 ha).mpr z))))
theorem sd_ic_gt (hexec : p.tables.exec = Jvm.exec) (hb : c.code = cc) {a b : Nat} {off : Int} {tgt : Nat} (hdg : decode cc pc = .ok (.if_icmp .gt off, 3)) (ht : (pc : Int) + off = (tgt : Int)) (ha : a < 2 ^ 31) (hb2 : b < 2 ^ 31) (kt : b < a → W p l e R s m args below meth c H locs cells slots Q (F0 m tgt ls rest)) (kf : a ≤ b → W p l e R s m args below meth c H locs cells slots Q (F0 m (pc + 3) ls rest)) : W p l e R s m args below meth c H locs cells slots Q (F0 m pc ls (.int (nI b) :: .int (nI a) :: rest)) :=
  lv_icmp_gt hexec hb hdg ht (fun h => kt ((nI_ltI hb2 ha).mp h)) (fun h => kf (Nat.le_of_not_lt (fun z => h ((nI_ltI hb2 ha).mpr z))))
theorem sd_ic_le (hexec : p.tables.exec = Jvm.exec) (hb : c.code = cc) {a b : Nat} {off : Int} {tgt : Nat} (hdg : decode cc pc = .ok (.if_icmp .le off, 3)) (ht : (pc : Int) + off = (tgt : Int)) (ha : a < 2 ^ 31) (hb2 : b < 2 ^ 31) (kt : a ≤ b → W p l e R s m args below meth c H locs cells slots Q (F0 m tgt ls rest)) (kf : b < a → W p l e R s m args below meth c H locs cells slots Q (F0 m (pc + 3) ls rest)) : W p l e R s m args below meth c H locs cells slots Q (F0 m pc ls (.int (nI b) :: .int (nI a) :: rest)) :=
  lv_icmp_le hexec hb hdg ht (fun h => kt ((nI_leI ha hb2).mp h)) (fun h => kf (Nat.lt_of_not_le (fun z => h ((nI_leI ha hb2).mpr z))))
theorem sd_lif_eq (hexec : p.tables.exec = Jvm.exec) (hb : c.code = cc) {x y : Int64} {off : Int} {tgt : Nat} (hd1 : decode cc pc = .ok (.lcmp, 1)) (hd2 : decode cc (pc + 1) = .ok (.ifCond .eq off, 3)) (ht : ((pc + 1 : Nat) : Int) + off = (tgt : Int)) (kt : x = y → W p l e R s m args below meth c H locs cells slots Q (F0 m tgt ls rest)) (kf : ¬ x = y → W p l e R s m args below meth c H locs cells slots Q (F0 m (pc + 1 + 3) ls rest)) : W p l e R s m args below meth c H locs cells slots Q (F0 m pc ls (.long y :: .long x :: rest)) :=
  W.lcmp hexec hb hd1 (lv_if_eq hexec hb hd2 ht (fun h => kt ((lg_cmp_eq x y).mp h)) (fun h => kf (fun z => h ((lg_cmp_eq x y).mpr z))))
theorem sd_lif_lt (hexec : p.tables.exec = Jvm.exec) (hb : c.code = cc) {x y : Int64} {off : Int} {tgt : Nat} (hd1 : decode cc pc = .ok (.lcmp, 1)) (hd2 : decode cc (pc + 1) = .ok (.ifCond .lt off, 3)) (ht : ((pc + 1 : Nat) : Int) + off = (tgt : Int)) (kt : x < y → W p l e R s m args below meth c H locs cells slots Q (F0 m tgt ls rest)) (kf : y ≤ x → W p l e R s m args below meth c H locs cells slots Q (F0 m (pc + 1 + 3) ls rest)) : W p l e R s m args below meth c H locs cells slots Q (F0 m pc ls (.long y :: .long x :: rest)) :=
  W.lcmp hexec hb hd1 (lv_if_lt hexec hb hd2 ht (fun h => kt ((lg_cmp_lt x y).mp h)) (fun h => kf (Int64.not_lt.mp (fun z => h ((lg_cmp_lt x y).mpr z)))))
theorem sd_lif_ge (hexec : p.tables.exec = Jvm.exec) (hb : c.code = cc) {x y : Int64} {off : Int} {tgt : Nat} (hd1 : decode cc pc = .ok (.lcmp, 1)) (hd2 : decode cc (pc + 1) = .ok (.ifCond .ge off, 3)) (ht : ((pc + 1 : Nat) : Int) + off = (tgt : Int)) (kt : y ≤ x → W p l e R s m args below meth c H locs cells slots Q (F0 m tgt ls rest)) (kf : x < y → W p l e R s m args below meth c H locs cells slots Q (F0 m (pc + 1 + 3) ls rest)) : W p l e R s m args below meth c H locs cells slots Q (F0 m pc ls (.long y :: .long x :: rest)) :=
  W.lcmp hexec hb hd1 (lv_if_ge hexec hb hd2 ht (fun h => kt ((lg_cmp_ge x y).mp h)) (fun h => kf (Int64.not_le.mp (fun z => h ((lg_cmp_ge x y).mpr z)))))
theorem sd_lif_gt (hexec : p.tables.exec = Jvm.exec) (hb : c.code = cc) {x y : Int64} {off : Int} {tgt : Nat} (hd1 : decode cc pc = .ok (.lcmp, 1)) (hd2 : decode cc (pc + 1) = .ok (.ifCond .gt off, 3)) (ht : ((pc + 1 : Nat) : Int) + off = (tgt : Int)) (kt : y < x → W p l e R s m args below meth c H locs cells slots Q (F0 m tgt ls rest)) (kf : x ≤ y → W p l e R s m args below meth c H locs cells slots Q (F0 m (pc + 1 + 3) ls rest)) : W p l e R s m args below meth c H locs cells slots Q (F0 m pc ls (.long y :: .long x :: rest)) :=
  W.lcmp hexec hb hd1 (lv_if_gt hexec hb hd2 ht (fun h => kt ((lg_cmp_gt x y).mp h)) (fun h => kf (Int64.not_lt.mp (fun z => h ((lg_cmp_gt x y).mpr z)))))
theorem sd_lif_le (hexec : p.tables.exec = Jvm.exec) (hb : c.code = cc) {x y : Int64} {off : Int} {tgt : Nat} (hd1 : decode cc pc = .ok (.lcmp, 1)) (hd2 : decode cc (pc + 1) = .ok (.ifCond .le off, 3)) (ht : ((pc + 1 : Nat) : Int) + off = (tgt : Int)) (kt : x ≤ y → W p l e R s m args below meth c H locs cells slots Q (F0 m tgt ls rest)) (kf : y < x → W p l e R s m args below meth c H locs cells slots Q (F0 m (pc + 1 + 3) ls rest)) : W p l e R s m args below meth c H locs cells slots Q (F0 m pc ls (.long y :: .long x :: rest)) :=
  W.lcmp hexec hb hd1 (lv_if_le hexec hb hd2 ht (fun h => kt ((lg_cmp_le x y).mp h)) (fun h => kf (Int64.not_le.mp (fun z => h ((lg_cmp_le x y).mpr z)))))
theorem sd_lif_ne (hexec : p.tables.exec = Jvm.exec) (hb : c.code = cc) {x y : Int64} {off : Int} {tgt : Nat} (hd1 : decode cc pc = .ok (.lcmp, 1)) (hd2 : decode cc (pc + 1) = .ok (.ifCond .ne off, 3)) (ht : ((pc + 1 : Nat) : Int) + off = (tgt : Int)) (kt : ¬ x = y → W p l e R s m args below meth c H locs cells slots Q (F0 m tgt ls rest)) (kf : x = y → W p l e R s m args below meth c H locs cells slots Q (F0 m (pc + 1 + 3) ls rest)) : W p l e R s m args below meth c H locs cells slots Q (F0 m pc ls (.long y :: .long x :: rest)) :=
  W.lcmp hexec hb hd1 (lv_if_ne hexec hb hd2 ht (fun h => kt (fun z => h ((lg_cmp_eq x y).mpr z))) (fun h => kf ((lg_cmp_eq x y).mp h)))
theorem sd_lc_eq (hexec : p.tables.exec = Jvm.exec) (hb : c.code = cc) {a b : Nat} {off : Int} {tgt : Nat} (hd1 : decode cc pc = .ok (.lcmp, 1)) (hd2 : decode cc (pc + 1) = .ok (.ifCond .eq off, 3)) (ht : ((pc + 1 : Nat) : Int) + off = (tgt : Int)) (ha : a < 2 ^ 63) (hb2 : b < 2 ^ 63) (kt : a = b → W p l e R s m args below meth c H locs cells slots Q (F0 m tgt ls rest)) (kf : ¬ a = b → W p l e R s m args below meth c H locs cells slots Q (F0 m (pc + 1 + 3) ls rest)) : W p l e R s m args below meth c H locs cells slots Q (F0 m pc ls (.long (lN b) :: .long (lN a) :: rest)) :=
  sd_lif_eq hexec hb hd1 hd2 ht (fun h => kt ((pk_lEQ ha hb2).mp h)) (fun h => kf (fun z => h ((pk_lEQ ha hb2).mpr z)))
theorem sd_lc_ne (hexec : p.tables.exec = Jvm.exec) (hb : c.code = cc) {a b : Nat} {off : Int} {tgt : Nat} (hd1 : decode cc pc = .ok (.lcmp, 1)) (hd2 : decode cc (pc + 1) = .ok (.ifCond .ne off, 3)) (ht : ((pc + 1 : Nat) : Int) + off = (tgt : Int)) (ha : a < 2 ^ 63) (hb2 : b < 2 ^ 63) (kt : ¬ a = b → W p l e R s m args below meth c H locs cells slots Q (F0 m tgt ls rest)) (kf : a = b → W p l e R s m args below meth c H locs cells slots Q (F0 m (pc + 1 + 3) ls rest)) : W p l e R s m args below meth c H locs cells slots Q (F0 m pc ls (.long (lN b) :: .long (lN a) :: rest)) :=
  sd_lif_ne hexec hb hd1 hd2 ht (fun h => kt (fun z => h ((pk_lEQ ha hb2).mpr z))) (fun h => kf ((pk_lEQ ha hb2).mp h))
theorem sd_lc_lt (hexec : p.tables.exec = Jvm.exec) (hb : c.code = cc) {a b : Nat} {off : Int} {tgt : Nat} (hd1 : decode cc pc = .ok (.lcmp, 1)) (hd2 : decode cc (pc + 1) = .ok (.ifCond .lt off, 3)) (ht : ((pc + 1 : Nat) : Int) + off = (tgt : Int)) (ha : a < 2 ^ 63) (hb2 : b < 2 ^ 63) (kt : a < b → W p l e R s m args below meth c H locs cells slots Q (F0 m tgt ls rest)) (kf : b ≤ a → W p l e R s m args below meth c H locs cells slots Q (F0 m (pc + 1 + 3) ls rest)) : W p l e R s m args below meth c H locs cells slots Q (F0 m pc ls (.long (lN b) :: .long (lN a) :: rest)) :=
  sd_lif_lt hexec hb hd1 hd2 ht (fun h => kt ((pk_lLT ha hb2).mp h)) (fun h => kf ((pk_lLE hb2 ha).mp h))
theorem sd_lc_ge (hexec : p.tables.exec = Jvm.exec) (hb : c.code = cc) {a b : Nat} {off : Int} {tgt : Nat} (hd1 : decode cc pc = .ok (.lcmp, 1)) (hd2 : decode cc (pc + 1) = .ok (.ifCond .ge off, 3)) (ht : ((pc + 1 : Nat) : Int) + off = (tgt : Int)) (ha : a < 2 ^ 63) (hb2 : b < 2 ^ 63) (kt : b ≤ a → W p l e R s m args below meth c H locs cells slots Q (F0 m tgt ls rest)) (kf : a < b → W p l e R s m args below meth c H locs cells slots Q (F0 m (pc + 1 + 3) ls rest)) : W p l e R s m args below meth c H locs cells slots Q (F0 m pc ls (.long (lN b) :: .long (lN a) :: rest)) :=
  sd_lif_ge hexec hb hd1 hd2 ht (fun h => kt ((pk_lLE hb2 ha).mp h)) (fun h => kf ((pk_lLT ha hb2).mp h))
theorem sd_lc_gt (hexec : p.tables.exec = Jvm.exec) (hb : c.code = cc) {a b : Nat} {off : Int} {tgt : Nat} (hd1 : decode cc pc = .ok (.lcmp, 1)) (hd2 : decode cc (pc + 1) = .ok (.ifCond .gt off, 3)) (ht : ((pc + 1 : Nat) : Int) + off = (tgt : Int)) (ha : a < 2 ^ 63) (hb2 : b < 2 ^ 63) (kt : b < a → W p l e R s m args below meth c H locs cells slots Q (F0 m tgt ls rest)) (kf : a ≤ b → W p l e R s m args below meth c H locs cells slots Q (F0 m (pc + 1 + 3) ls rest)) : W p l e R s m args below meth c H locs cells slots Q (F0 m pc ls (.long (lN b) :: .long (lN a) :: rest)) :=
  sd_lif_gt hexec hb hd1 hd2 ht (fun h => kt ((pk_lLT hb2 ha).mp h)) (fun h => kf ((pk_lLE ha hb2).mp h))
theorem sd_lc_le (hexec : p.tables.exec = Jvm.exec) (hb : c.code = cc) {a b : Nat} {off : Int} {tgt : Nat} (hd1 : decode cc pc = .ok (.lcmp, 1)) (hd2 : decode cc (pc + 1) = .ok (.ifCond .le off, 3)) (ht : ((pc + 1 : Nat) : Int) + off = (tgt : Int)) (ha : a < 2 ^ 63) (hb2 : b < 2 ^ 63) (kt : a ≤ b → W p l e R s m args below meth c H locs cells slots Q (F0 m tgt ls rest)) (kf : b < a → W p l e R s m args below meth c H locs cells slots Q (F0 m (pc + 1 + 3) ls rest)) : W p l e R s m args below meth c H locs cells slots Q (F0 m pc ls (.long (lN b) :: .long (lN a) :: rest)) :=
  sd_lif_le hexec hb hd1 hd2 ht (fun h => kt ((pk_lLE ha hb2).mp h)) (fun h => kf ((pk_lLT hb2 ha).mp h))
theorem sd_iz_eq (hexec : p.tables.exec = Jvm.exec) (hb : c.code = cc) {a : Nat} {off : Int} {tgt : Nat} (hdg : decode cc pc = .ok (.ifCond .eq off, 3)) (ht : (pc : Int) + off = (tgt : Int)) (ha : a < 2 ^ 31) (kt : a = 0 → W p l e R s m args below meth c H locs cells slots Q (F0 m tgt ls rest)) (kf : 0 < a → W p l e R s m args below meth c H locs cells slots Q (F0 m (pc + 3) ls rest)) : W p l e R s m args below meth c H locs cells slots Q (F0 m pc ls (.int (nI a) :: rest)) :=
  lv_if_eq hexec hb hdg ht (fun h => kt (Classical.byContradiction (fun z => nI_ne0 (Nat.pos_of_ne_zero z) ha h))) (fun h => kf (Nat.pos_of_ne_zero (fun z => h (by rw [z]; exact nI_0))))
theorem sd_iz_ne (hexec : p.tables.exec = Jvm.exec) (hb : c.code = cc) {a : Nat} {off : Int} {tgt : Nat} (hdg : decode cc pc = .ok (.ifCond .ne off, 3)) (ht : (pc : Int) + off = (tgt : Int)) (ha : a < 2 ^ 31) (kt : 0 < a → W p l e R s m args below meth c H locs cells slots Q (F0 m tgt ls rest)) (kf : a = 0 → W p l e R s m args below meth c H locs cells slots Q (F0 m (pc + 3) ls rest)) : W p l e R s m args below meth c H locs cells slots Q (F0 m pc ls (.int (nI a) :: rest)) :=
  lv_if_ne hexec hb hdg ht (fun h => kt (Nat.pos_of_ne_zero (fun z => h (by rw [z]; exact nI_0)))) (fun h => kf (Classical.byContradiction (fun z => nI_ne0 (Nat.pos_of_ne_zero z) ha h)))
theorem sd_iz_le (hexec : p.tables.exec = Jvm.exec) (hb : c.code = cc) {a : Nat} {off : Int} {tgt : Nat} (hdg : decode cc pc = .ok (.ifCond .le off, 3)) (ht : (pc : Int) + off = (tgt : Int)) (ha : a < 2 ^ 31) (kt : a = 0 → W p l e R s m args below meth c H locs cells slots Q (F0 m tgt ls rest)) (kf : 0 < a → W p l e R s m args below meth c H locs cells slots Q (F0 m (pc + 3) ls rest)) : W p l e R s m args below meth c H locs cells slots Q (F0 m pc ls (.int (nI a) :: rest)) :=
  lv_if_le hexec hb hdg ht (fun h => kt (Classical.byContradiction (fun z => nI_nle (Nat.pos_of_ne_zero z) ha h))) (fun h => kf (Nat.pos_of_ne_zero (fun z => h (by rw [z, nI_0]; exact Int32.le_refl 0))))
theorem sd_iz_gt (hexec : p.tables.exec = Jvm.exec) (hb : c.code = cc) {a : Nat} {off : Int} {tgt : Nat} (hdg : decode cc pc = .ok (.ifCond .gt off, 3)) (ht : (pc : Int) + off = (tgt : Int)) (ha : a < 2 ^ 31) (kt : 0 < a → W p l e R s m args below meth c H locs cells slots Q (F0 m tgt ls rest)) (kf : a = 0 → W p l e R s m args below meth c H locs cells slots Q (F0 m (pc + 3) ls rest)) : W p l e R s m args below meth c H locs cells slots Q (F0 m pc ls (.int (nI a) :: rest)) :=
  lv_if_gt hexec hb hdg ht (fun h => kt (Nat.pos_of_ne_zero (fun z => by rw [z, nI_0] at h; exact (by decide : ¬ (0 : Int32) < 0) h))) (fun h => kf (Classical.byContradiction (fun z => h (by rw [← nI_0]; exact nI_lt (Nat.pos_of_ne_zero z) ha))))
theorem sd_iz_lt (hexec : p.tables.exec = Jvm.exec) (hb : c.code = cc) {a : Nat} {off : Int} {tgt : Nat} (hdg : decode cc pc = .ok (.ifCond .lt off, 3)) (ht : (pc : Int) + off = (tgt : Int)) (ha : a < 2 ^ 31) (kf : W p l e R s m args below meth c H locs cells slots Q (F0 m (pc + 3) ls rest)) : W p l e R s m args below meth c H locs cells slots Q (F0 m pc ls (.int (nI a) :: rest)) :=
  lv_if_lt hexec hb hdg ht (fun h => absurd h (nI_pos ha)) (fun _ => kf)
theorem sd_iz_ge (hexec : p.tables.exec = Jvm.exec) (hb : c.code = cc) {a : Nat} {off : Int} {tgt : Nat} (hdg : decode cc pc = .ok (.ifCond .ge off, 3)) (ht : (pc : Int) + off = (tgt : Int)) (ha : a < 2 ^ 31) (kt : W p l e R s m args below meth c H locs cells slots Q (F0 m tgt ls rest)) : W p l e R s m args below meth c H locs cells slots Q (F0 m pc ls (.int (nI a) :: rest)) :=
  lv_if_ge hexec hb hdg ht (fun _ => kt) (fun h => absurd (nI_pos' ha) h)
variable {D : va_G} {cl : List vw_C} {A : Nat → Prop} {a : Nat} {tys : List (ClassId × FieldType)} {ws : va_W} {H0 : Heap}
theorem sd_iald (hexec : p.tables.exec = Jvm.exec) (hb : c.code = cc) (hK : va_K D cl tys s) (hP : va_P D cl ws H) (q0 t0 : Nat) {cA : ClassId} {n j : Nat} {f : Nat → Int32} {v : Int32} (ha : ws[q0]? = some (a, .inl (cA, n, .inl f))) (ht : tys[t0]? = some (cA, .int)) (hj : j < n) (hn : n < 2 ^ 31) (hv : f j = v) (hdg : decode cc pc = .ok (.iaload, 1)) (kk : W p l e R s m args below meth c H locs cells slots Q (F0 m (pc + 1) ls (.int v :: rest))) : W p l e R s m args below meth c H locs cells slots Q (F0 m pc ls (.int (nI j) :: .ref a :: rest)) := by
  refine va_iald hexec hb hK hP q0 t0 ha ht (vp_in_nI hj hn) hdg ?_
  rw [nI_clamp (Nat.lt_trans hj hn), hv]
  exact kk
theorem sd_zald (hexec : p.tables.exec = Jvm.exec) (hb : c.code = cc) (hK : va_K D cl tys s) (hP : va_P D cl ws H) (q0 t0 : Nat) {cA : ClassId} {n j : Nat} {f : Nat → Int32} {v : Int32} (ha : ws[q0]? = some (a, .inl (cA, n, .inl f))) (ht : tys[t0]? = some (cA, .boolean)) (hj : j < n) (hn : n < 2 ^ 31) (hv : f j = v) (hdg : decode cc pc = .ok (.baload, 1)) (kk : W p l e R s m args below meth c H locs cells slots Q (F0 m (pc + 1) ls (.int v :: rest))) : W p l e R s m args below meth c H locs cells slots Q (F0 m pc ls (.int (nI j) :: .ref a :: rest)) := by
  refine va_zald hexec hb hK hP q0 t0 ha ht (vp_in_nI hj hn) hdg ?_
  rw [nI_clamp (Nat.lt_trans hj hn), hv]
  exact kk
theorem sd_lald (hexec : p.tables.exec = Jvm.exec) (hb : c.code = cc) (hK : va_K D cl tys s) (hP : va_P D cl ws H) (q0 t0 : Nat) {cA : ClassId} {n j : Nat} {f : Nat → Int64} {v : Int64} (ha : ws[q0]? = some (a, .inl (cA, n, .inr (.inl f)))) (ht : tys[t0]? = some (cA, .long)) (hj : j < n) (hn : n < 2 ^ 31) (hv : f j = v) (hdg : decode cc pc = .ok (.laload, 1)) (kk : W p l e R s m args below meth c H locs cells slots Q (F0 m (pc + 1) ls (.long v :: rest))) : W p l e R s m args below meth c H locs cells slots Q (F0 m pc ls (.int (nI j) :: .ref a :: rest)) := by
  refine va_lald hexec hb hK hP q0 t0 ha ht (vp_in_nI hj hn) hdg ?_
  rw [nI_clamp (Nat.lt_trans hj hn), hv]
  exact kk
theorem sd_iast (hexec : p.tables.exec = Jvm.exec) (hb : c.code = cc) (hK : va_K D cl tys s) (hP : va_P D cl ws H) (hD : va_D A ws) (hS : va_S A H0 H locs) (q0 t0 : Nat) {cA : ClassId} {n j : Nat} {f : Nat → Int32} (ha : ws[q0]? = some (a, .inl (cA, n, .inl f))) (ht : tys[t0]? = some (cA, .int)) {x : Int32} (hj : j < n) (hn : n < 2 ^ 31) (hdg : decode cc pc = .ok (.iastore, 1)) (kk : ∀ (H1 : Heap) (locs1 : List Loc), va_P D cl (ws.set q0 (a, .inl (cA, n, .inl (upd f j x)))) H1 → va_D A (ws.set q0 (a, .inl (cA, n, .inl (upd f j x)))) → va_S A H0 H1 locs1 → W p l e R s m args below meth c H1 locs1 cells slots Q (F0 m (pc + 1) ls rest)) : W p l e R s m args below meth c H locs cells slots Q (F0 m pc ls (.int x :: .int (nI j) :: .ref a :: rest)) := by
  refine va_iast hexec hb hK hP hD hS q0 t0 ha ht (vp_in_nI hj hn) hdg (fun H1 l1 h1 h2 h3 => ?_)
  rw [nI_clamp (Nat.lt_trans hj hn)] at h1 h2
  exact kk H1 l1 h1 h2 h3
theorem sd_last (hexec : p.tables.exec = Jvm.exec) (hb : c.code = cc) (hK : va_K D cl tys s) (hP : va_P D cl ws H) (hD : va_D A ws) (hS : va_S A H0 H locs) (q0 t0 : Nat) {cA : ClassId} {n j : Nat} {f : Nat → Int64} (ha : ws[q0]? = some (a, .inl (cA, n, .inr (.inl f)))) (ht : tys[t0]? = some (cA, .long)) {x : Int64} (hj : j < n) (hn : n < 2 ^ 31) (hdg : decode cc pc = .ok (.lastore, 1)) (kk : ∀ (H1 : Heap) (locs1 : List Loc), va_P D cl (ws.set q0 (a, .inl (cA, n, .inr (.inl (vp_updL f j x))))) H1 → va_D A (ws.set q0 (a, .inl (cA, n, .inr (.inl (vp_updL f j x))))) → va_S A H0 H1 locs1 → W p l e R s m args below meth c H1 locs1 cells slots Q (F0 m (pc + 1) ls rest)) : W p l e R s m args below meth c H locs cells slots Q (F0 m pc ls (.long x :: .int (nI j) :: .ref a :: rest)) := by
  refine va_last hexec hb hK hP hD hS q0 t0 ha ht (vp_in_nI hj hn) hdg (fun H1 l1 h1 h2 h3 => ?_)
  rw [nI_clamp (Nat.lt_trans hj hn)] at h1 h2
  exact kk H1 l1 h1 h2 h3
theorem sd_zast (hexec : p.tables.exec = Jvm.exec) (hb : c.code = cc) (hK : va_K D cl tys s) (hP : va_P D cl ws H) (hD : va_D A ws) (hS : va_S A H0 H locs) (q0 t0 : Nat) {cA : ClassId} {n j : Nat} {f : Nat → Int32} (ha : ws[q0]? = some (a, .inl (cA, n, .inl f))) (ht : tys[t0]? = some (cA, .boolean)) {x : Int32} (hj : j < n) (hn : n < 2 ^ 31) (hdg : decode cc pc = .ok (.bastore, 1)) (kk : ∀ (H1 : Heap) (locs1 : List Loc), va_P D cl (ws.set q0 (a, .inl (cA, n, .inl (upd f j (vp_nar .boolean x))))) H1 → va_D A (ws.set q0 (a, .inl (cA, n, .inl (upd f j (vp_nar .boolean x))))) → va_S A H0 H1 locs1 → W p l e R s m args below meth c H1 locs1 cells slots Q (F0 m (pc + 1) ls rest)) : W p l e R s m args below meth c H locs cells slots Q (F0 m pc ls (.int x :: .int (nI j) :: .ref a :: rest)) := by
  refine va_zast hexec hb hK hP hD hS q0 t0 ha ht (vp_in_nI hj hn) hdg (fun H1 l1 h1 h2 h3 => ?_)
  rw [nI_clamp (Nat.lt_trans hj hn)] at h1 h2
  exact kk H1 l1 h1 h2 h3
theorem sd_calli {v : Int32} {a' : Array Value} {st0 : List Value} (hr : va_Run p l e R s m args below meth c H locs cells slots 0 0 (F0 m pc ls st0) rest (vp_Si (fun r => r = v) a') (fun _ => False)) (kk : W p l e R s m args below meth c H locs cells slots Q (F0 m (pc + 3) ls (.int v :: rest))) : W p l e R s m args below meth c H locs cells slots Q (F0 m pc ls st0) :=
  vp_callSi (va_Run.run hr) (fun r h => by subst h; exact kk)
theorem sd_calll {v : Int64} {a' : Array Value} {st0 : List Value} (hr : va_Run p l e R s m args below meth c H locs cells slots 0 0 (F0 m pc ls st0) rest (vp_Sl (fun r => r = v) a') (fun _ => False)) (kk : W p l e R s m args below meth c H locs cells slots Q (F0 m (pc + 3) ls (.long v :: rest))) : W p l e R s m args below meth c H locs cells slots Q (F0 m pc ls st0) :=
  vp_callSl (va_Run.run hr) (fun r h => by subst h; exact kk)
theorem sd_callv {a' : Array Value} {st0 : List Value} (hr : va_Run p l e R s m args below meth c H locs cells slots 0 0 (F0 m pc ls st0) rest (va_Sv (fun _ => True) a') (fun _ => False)) (kk : W p l e R s m args below meth c H locs cells slots Q (F0 m (pc + 3) ls rest)) : W p l e R s m args below meth c H locs cells slots Q (F0 m pc ls st0) :=
  va_csv (va_Run.run hr) (fun _ => kk)
end SDR
end
section
/-! Worlds in my words; calls that leave the heap alone; calls whose world is the caller's. -/
theorem sd_eqt {α : Type} {l : List α} {i : Nat} {x : α} (h : l[i]? = some x) : x ∈ l := List.mem_of_getElem? h
/-- how much stack a method of depth d has -/
def sd_rm (d c z : Nat) : Room := { frames := d, cells := c, slots := z, locals := 35 * d }
/-- a start that only reads: the world ws, the tables -/
def sd_Pp (D : va_G) (cl : List vw_C) (tys : List (ClassId × FieldType)) (ws : va_W) (av : List Value) : Array Value → State → Prop := va_Pc av (fun U => va_P D cl ws U.heap ∧ va_K D cl tys U)
theorem sd_Pp_blind (D : va_G) (cl : List vw_C) (tys : List (ClassId × FieldType)) (ws : va_W) (av : List Value) : FrameBlind (sd_Pp D cl tys ws av) := by
  intro a U g mk q
  obtain ⟨q0, qP, qK⟩ := q
  exact ⟨q0, qP, va_K.moved (u := U) (U := U.calling g mk a) (Vm.Alike.refl U.vm) qK⟩
theorem sd_preS {s : State} {H : Heap} {D : va_G} {cl : List vw_C} {tys : List (ClassId × FieldType)} {ws : va_W} {As : List Value} (hK : va_K D cl tys s) (hP : va_P D cl ws H) : PreS s H (sd_Pp D cl tys ws As) As :=
  ⟨sd_Pp_blind D cl tys ws As, fun U hU hW => ⟨rfl, by rw [hU]; exact hP, va_K.moved hW.alike hK⟩⟩
theorem sd_preV {s : State} {H : Heap} {D : va_G} {cl : List vw_C} {tys : List (ClassId × FieldType)} {ws : va_W} {As : List Value} {b q0 ci : Nat} {q : vw_C} {fs : List Value} (hK : va_K D cl tys s) (hP : va_P D cl ws H) (hc : cl[ci]? = some q) (he : ws[q0]? = some (b, .inr (ci, fs))) :
    PreV s H q.1 b (sd_Pp D cl tys ws (.ref b :: As)) As :=
  ⟨sd_Pp_blind D cl tys ws (.ref b :: As), va_recv hK hP hc he, fun U hU hW => ⟨rfl, by rw [hU]; exact hP, va_K.moved hW.alike hK⟩⟩
theorem sd_nil (D : va_G) (cl : List vw_C) (H : Heap) : va_P D cl [] H := fun k q h => by simp at h
theorem sd_K0 {D : va_G} {cl : List vw_C} {tys : List (ClassId × FieldType)} {U : State} (h : va_K D cl tys U) : va_K D cl [] U := h.sub [] rfl
section SDW
variable {p : Program} {l : Launch} {e : Env} {R : Room} {s : State} {m : MethodId} {args : Array Value} {below : List Frame} {meth : Method} {c : Code} {H : Heap} {locs : List Loc} {cells slots : Nat} {Q : State → Prop} {cc : ByteArray} {pc : Nat} {ls : Array Slot} {rest : List Value}
theorem sd_topi {x y : Int32} (h : x = y) (k : W p l e R s m args below meth c H locs cells slots Q (F0 m pc ls (.int y :: rest))) : W p l e R s m args below meth c H locs cells slots Q (F0 m pc ls (.int x :: rest)) := by
  subst h
  exact k
theorem sd_topl {x y : Int64} (h : x = y) (k : W p l e R s m args below meth c H locs cells slots Q (F0 m pc ls (.long y :: rest))) : W p l e R s m args below meth c H locs cells slots Q (F0 m pc ls (.long x :: rest)) := by
  subst h
  exact k
variable {D : va_G} {cl : List vw_C} {A : Nat → Prop} {tys : List (ClassId × FieldType)} {ws : va_W} {H0 : Heap} {a' : Array Value} {st0 : List Value}
theorem sd_all (hD : va_D A ws) (hS : va_S A H0 H locs) (hA : ∀ q, H0.size ≤ q → A q) : ∀ q, va_A ws H.size q → A q := by
  intro q h
  rcases h with ⟨k, e, h⟩ | h
  · exact hD.2 k (q, e) h
  · exact hA q (Nat.le_trans hS.1 h)
/-- a world that a method may write, and its end -/
def sd_Pw (D : va_G) (cl : List vw_C) (tys : List (ClassId × FieldType)) (ws : va_W) (sz : Nat) (av : List Value) : Array Value → State → Prop :=
  va_Pc av (fun U => U.heap.size = sz ∧ va_P D cl ws U.heap ∧ va_K D cl tys U ∧ va_D (fun _ => True) ws)
theorem sd_Pw_blind (D : va_G) (cl : List vw_C) (tys : List (ClassId × FieldType)) (ws : va_W) (sz : Nat) (av : List Value) : FrameBlind (sd_Pw D cl tys ws sz av) := by
  intro a U g mk q
  obtain ⟨q0, q1, qP, qK, qD⟩ := q
  exact ⟨q0, q1, qP, va_K.moved (u := U) (U := U.calling g mk a) (Vm.Alike.refl U.vm) qK, qD⟩
def sd_Bw {S : Type} (D : va_G) (cl : List vw_C) (tys : List (ClassId × FieldType)) (ws : va_W) (sz : Nat) (Bw : S → va_W) (u : S) (t : State) : Prop := va_P D cl (Bw u) t.heap ∧ va_K D cl tys t ∧ va_D (va_A ws sz) (Bw u)
theorem sd_preVw {As : List Value} {b q0 ci : Nat} {q : vw_C} {fs : List Value} (hK : va_K D cl tys s) (hP : va_P D cl ws H) (hD : va_D A ws) (hc : cl[ci]? = some q) (he : ws[q0]? = some (b, .inr (ci, fs))) :
    PreV s H q.1 b (sd_Pw D cl tys ws H.size (.ref b :: As)) As :=
  ⟨sd_Pw_blind D cl tys ws H.size (.ref b :: As), va_recv hK hP hc he, fun U hU hW => ⟨rfl, by rw [hU], by rw [hU]; exact hP, va_K.moved hW.alike hK, hD.weaken (fun _ _ _ _ => trivial)⟩⟩
theorem sd_wv {S : Type} {post : S → Prop} {Bw : S → va_W} (hr : va_Run p l e R s m args below meth c H locs cells slots 0 0 (F0 m pc ls st0) rest (va_Qv post (sd_Bw D cl tys ws H.size Bw) (va_A ws H.size) a') (va_A ws H.size))
    (hD : va_D A ws) (hS : va_S A H0 H locs) (hA : ∀ q, H0.size ≤ q → A q)
    (kk : ∀ (u : S) (H1 : Heap) (locs1 : List Loc), post u → va_P D cl (Bw u) H1 → va_D A (Bw u) → va_S A H0 H1 locs1 → W p l e R s m args below meth c H1 locs1 cells slots Q (F0 m (pc + 3) ls rest)) : W p l e R s m args below meth c H locs cells slots Q (F0 m pc ls st0) := by
  have hF := sd_all hD hS hA
  refine va_callv hr hS (fun q _ h => hF q h) hF (fun u t H1 locs1 ht hvm hp hB hz hk hS1 => ?_)
  obtain ⟨hP1, hK1, hD1⟩ := hB
  rw [ht] at hP1
  exact kk u H1 locs1 hp hP1 (hD1.weaken (fun k q _ h => hF q.1 h)) hS1
theorem sd_wi {S : Type} {post : Int32 → S → Prop} {Bw : S → va_W} (hr : va_Run p l e R s m args below meth c H locs cells slots 0 0 (F0 m pc ls st0) rest (va_Qi post (sd_Bw D cl tys ws H.size Bw) (va_A ws H.size) a') (va_A ws H.size))
    (hD : va_D A ws) (hS : va_S A H0 H locs) (hA : ∀ q, H0.size ≤ q → A q)
    (kk : ∀ (r : Int32) (u : S) (H1 : Heap) (locs1 : List Loc), post r u → va_P D cl (Bw u) H1 → va_D A (Bw u) → va_S A H0 H1 locs1 → W p l e R s m args below meth c H1 locs1 cells slots Q (F0 m (pc + 3) ls (.int r :: rest))) : W p l e R s m args below meth c H locs cells slots Q (F0 m pc ls st0) := by
  have hF := sd_all hD hS hA
  refine va_calli hr hS (fun q _ h => hF q h) hF (fun r u t H1 locs1 ht hvm hp hB hz hk hS1 => ?_)
  obtain ⟨hP1, hK1, hD1⟩ := hB
  rw [ht] at hP1
  exact kk r u H1 locs1 hp hP1 (hD1.weaken (fun k q _ h => hF q.1 h)) hS1
end SDW
/-- the words of the tables that stay true in warmer tables -/
def sd_gw (w : Cond) : Bool := (w.onTables && w.keeps) || (match w with | .arrayClass _ => true | _ => false)
theorem sd_gw_ok {w : Cond} (h : sd_gw w = true) : (w.onTables && w.keeps) = true ∨ ∃ ty, w = .arrayClass ty := by
  unfold sd_gw at h
  rw [Bool.or_eq_true] at h
  rcases h with h | h
  · exact Or.inl h
  · right
    cases w <;> first | exact ⟨_, rfl⟩ | cases h
def sd_WS : List Cond := lw_tbl.filter sd_gw
theorem sd_in {w : Cond} (h : w ∈ lw_tbl) (g : sd_gw w = true) : w ∈ sd_WS := List.mem_filter.mpr ⟨h, g⟩
theorem sd_good {w : Cond} (h : w ∈ sd_WS) : (w.onTables && w.keeps) = true ∨ ∃ ty, w = .arrayClass ty := sd_gw_ok (List.mem_filter.mp h).2
/-- a method's words: its code, and all -/
abbrev sd_ws (y : MethodName) (b : ByteArray) (n : Nat) (r : Option FieldType) : List Cond := .code y b n r :: sd_WS
theorem sd_gV {k : Cond} {own C : String} {index : Nat} {z : MethodName} {bz : ByteArray} {nz : Nat} {rz : Option FieldType} (h1 : .methodLink own index z ∈ sd_WS) (h2 : .instanceMethod z ∈ sd_WS) (h3 : .selects C z z ∈ sd_WS) (h4 : .initialized C ∈ sd_WS) (h5 : .code z bz nz rz ∈ sd_WS) :
    GoodIn (k :: sd_WS) (wsV own index C z (sd_ws z bz nz rz)) := by
  intro w hw
  have key : w ∈ sd_WS := by
    unfold wsV at hw
    rcases List.mem_append.mp hw with hw | hw
    · simp only [List.mem_cons, List.not_mem_nil, or_false] at hw
      rcases hw with rfl | rfl | rfl | rfl
      · exact h1
      · exact h2
      · exact h3
      · exact h4
    · rcases List.mem_cons.mp hw with rfl | hw
      · exact h5
      · exact hw
  exact ⟨List.mem_cons_of_mem _ key, sd_good key⟩
theorem sd_gS {k : Cond} {own : String} {index : Nat} {z : MethodName} {bz : ByteArray} {nz : Nat} {rz : Option FieldType} (h1 : .methodLink own index z ∈ sd_WS) (h2 : .static z ∈ sd_WS) (h4 : .initialized own ∈ sd_WS) (h5 : .code z bz nz rz ∈ sd_WS) :
    GoodIn (k :: sd_WS) (wsS own index z (sd_ws z bz nz rz)) := by
  intro w hw
  have key : w ∈ sd_WS := by
    unfold wsS at hw
    rcases List.mem_append.mp hw with hw | hw
    · simp only [List.mem_cons, List.not_mem_nil, or_false] at hw
      rcases hw with rfl | rfl | rfl
      · exact h1
      · exact h2
      · exact h4
    · rcases List.mem_cons.mp hw with rfl | hw
      · exact h5
      · exact hw
  exact ⟨List.mem_cons_of_mem _ key, sd_good key⟩
/-- what a desk's numbers are: n parties, weights w; behind n all weights are 0 -/
def sd_ok (n : Nat) (w : Nat → Nat) : Prop := 1 ≤ n ∧ n ≤ 8 ∧ (∀ i, w i ≤ 100000) ∧ ∀ i, n ≤ i → w i = 0
end
section
/-! Pure part, third: a party of weight 0; changes of one weight. -/
theorem sd_sum_cnt {r : Nat → Nat} {W : Nat} (hr : ∀ i, r i < W) : ∀ n : Nat, sd_sum r n ≤ sd_cnt (fun i => decide (0 < r i)) n * (W - 1)
  | 0 => Nat.zero_le _
  | n + 1 => by
    rw [sd_sum_s, sd_cnt_s]
    have ih := sd_sum_cnt hr n
    have h1 := hr n
    by_cases e : 0 < r n
    · rw [decide_eq_true e, if_pos rfl, Nat.add_mul, Nat.one_mul]; omega
    · rw [decide_eq_false e]
      show sd_sum r n + r n ≤ (sd_cnt (fun i => decide (0 < r i)) n + 0) * (W - 1)
      rw [Nat.add_zero]; omega
theorem sd_u0_zero {w : Nat → Nat} {n m q : Nat} (hW : 0 < sd_sum w n) (hq : w q = 0) : sd_u0 w n m q = 0 := by
  unfold sd_u0
  have h0 : sd_rs w (sd_sum w n) m q = 0 := by unfold sd_rs; rw [hq, Nat.mul_zero, Nat.zero_mod]
  have h1 := sd_sum_cnt (r := sd_rs w (sd_sum w n) m) (W := sd_sum w n) (fun i => Nat.mod_lt _ hW) n
  have h2 : sd_cnt (fun i => decide (0 < sd_rs w (sd_sum w n) m i)) n ≤ sd_cnt (sd_ab (sd_rs w (sd_sum w n) m) q) n := sd_cnt_le (fun i _ hp => by
    have := of_decide_eq_true hp
    simp only [sd_ab, h0, this, decide_true, Bool.true_or])
  rw [hq, Nat.mul_zero, Nat.zero_div, Nat.zero_add]
  refine if_neg ?_
  generalize sd_cnt (sd_ab (sd_rs w (sd_sum w n) m) q) n = a at *
  generalize sd_cnt (fun i => decide (0 < sd_rs w (sd_sum w n) m i)) n = b at *
  generalize sd_sum (sd_rs w (sd_sum w n) m) n = t at *
  generalize sd_sum w n = W at *
  intro z
  have h3 : (a + 1) * W ≤ t := (Nat.le_div_iff_mul_le hW).mp z
  have h4 : b * (W - 1) ≤ b * W := Nat.mul_le_mul_left _ (by omega)
  have h5 : b * W ≤ a * W := Nat.mul_le_mul_right _ h2
  rw [Nat.add_mul, Nat.one_mul] at h3
  omega
theorem sd_U_zero {y : Nat} {w : Nat → Nat} {n m q : Nat} (hW : 0 < sd_sum w n) (hqn : q < n) (hq : w q = 0) : sd_U y w n m q = 0 := by
  unfold sd_U
  by_cases e : y = 0
  · rw [if_pos e]; exact sd_u0_zero hW hq
  · rw [if_neg e]; exact (sd_inv_G (sd_sum_pos hW) m).2.1 q hqn hq
theorem sd_ok_up {n : Nat} {w : Nat → Nat} (ok : sd_ok n w) {q v : Nat} (hq : q < n) (hv : v ≤ 100000) : sd_ok n (sd_up w q v) := by
  refine ⟨ok.1, ok.2.1, fun i => ?_, fun i hi => ?_⟩
  · by_cases e : i = q
    · rw [e, sd_up_self]; exact hv
    · rw [sd_up_ne e]; exact ok.2.2.1 i
  · rw [sd_up_ne (by omega)]; exact ok.2.2.2 i hi
theorem sd_ok_new {j : Nat} (h1 : 1 ≤ j) (h2 : j ≤ 8) : sd_ok j (fun _ => 0) := ⟨h1, h2, fun _ => Nat.zero_le _, fun _ _ => rfl⟩
theorem sd_up_sum {w : Nat → Nat} {n q v : Nat} (hq : q < n) : sd_sum (sd_up w q v) n + w q = sd_sum w n + v := by
  have h := sd_sum_upd (f := w) (g := sd_up w q v) hq (fun i _ hi => sd_up_ne hi)
  rw [sd_up_self] at h
  exact h
theorem sd_i32 {a b c d : Nat} (h : d + c = a + b) : nI a + (nI b - nI c) = nI d := by
  have h1 : nI d + nI c = nI a + nI b := by rw [nI_add, nI_add, h]
  have h2 : nI a + (nI b - nI c) = (nI a + nI b) - nI c := by rw [Int32.sub_eq_add_neg, Int32.sub_eq_add_neg, Int32.add_assoc]
  rw [h2, ← h1, Int32.add_sub_cancel]
theorem sd_upd_w (w : Nat → Nat) (q v : Nat) : upd (fun i => nI (w i)) q (nI v) = fun i => nI (sd_up w q v i) := by
  funext i
  by_cases e : i = q
  · subst e; rw [pk_us, sd_up_self]
  · rw [pk_un e, sd_up_ne e]
theorem sd_updL_w (w : Nat → Nat) (q v : Nat) : vp_updL (fun i => lN (w i)) q (lN v) = fun i => lN (sd_up w q v i) := by
  funext i
  by_cases e : i = q
  · subst e; rw [pk_uLs, sd_up_self]
  · rw [pk_uLn e, sd_up_ne e]
/-- below i all is set to 0 -/
def sd_cl (w : Nat → Nat) (i : Nat) : Nat → Nat := fun j => if j < i then 0 else w j
theorem sd_cl0 (w : Nat → Nat) : sd_cl w 0 = w := by funext j; exact if_neg (Nat.not_lt_zero _)
theorem sd_cls (w : Nat → Nat) (i : Nat) : sd_up (sd_cl w i) i 0 = sd_cl w (i + 1) := by
  funext j
  unfold sd_up sd_cl
  by_cases e : j = i
  · subst e; rw [if_pos rfl, if_pos (Nat.lt_succ_self _)]
  · rw [if_neg e]
    by_cases z : j < i
    · rw [if_pos z, if_pos (by omega)]
    · rw [if_neg z, if_neg (by omega)]
theorem sd_cl8 {w : Nat → Nat} {n : Nat} (ok : sd_ok n w) : sd_cl w 8 = fun _ => 0 := by
  funext j
  unfold sd_cl
  by_cases z : j < 8
  · rw [if_pos z]
  · rw [if_neg z]; exact ok.2.2.2 j (by have := ok.2.1; omega)
theorem sd_sum0 (n : Nat) : sd_sum (fun _ => 0) n = 0 := sd_sum_zero (fun _ _ => rfl)
end
section
/-! Methods that throw: their contracts, a throw's own row, calls of them, and the catch. -/
theorem sd_same {s t : State} {k n : Nat} (h : s.sameButNew t [] k n) : s.heap.size ≤ t.heap.size ∧ ∀ q : Nat, q < s.heap.size → t.heap[q]? = s.heap[q]? := by
  refine ⟨h.2.1, fun q hq => ?_⟩
  obtain ⟨c', h1, h2, h3, h4⟩ := h.2.2.2.2.2 q s.heap[q] (Array.getElem?_eq_getElem hq)
  have h5 : c'.slots = s.heap[q].slots := by
    apply Array.ext_getElem?
    intro i
    exact h4 i (by simp)
  have h6 : c' = s.heap[q] := by rw [h2, h5]
  rw [h1, Array.getElem?_eq_getElem hq, h6]
/-- the end of a method that throws an object of the class cls, which is new; nothing that was there has changed -/
def sd_QT (cls : String) (st : State) (o : Outcome) (t : State) : Prop :=
  ∃ (x : Addr) (ce : Cell), o = .threw x ∧ t.heap[x]? = some ce ∧ st.vm.findClass cls = some ce.cls ∧ ce.vm.isStatics = false ∧ st.WarmedH t.vm ∧ st.sameButNew ({ t with vm := st.vm } : State) [] 1 6
def sd_MT (l : Launch) (y : MethodName) (ws : List Cond) (rm : Room) (Pc : Array Value → State → Prop) (cls : String) : Prop :=
  MetFree l y (headSpec ws rm) Pc (fun _ _ _ _ _ => True) (fun _ st o t => sd_QT cls st o t)
def sd_WT (below : List Frame) (cls : String) (s : State) : State → Prop := fun t => ∃ o, t.status = .running ∧ Ended t below o ∧ sd_QT cls s o t
theorem sd_MT.ofW {l : Launch} {y : MethodName} {ws ws' : List Cond} {rm : Room} {Pc : Array Value → State → Prop} {cls : String} {cc : ByteArray} {maxL : Nat} {ret : Option FieldType}
    (hy : plainName y.cls = true) (hw : ws = Cond.code y cc maxL ret :: ws')
    (body : ∀ p e s m args below meth c s₁, BodyLoose p l y (headSpec ws rm) cc maxL ret e s m args below meth c s₁ → c.maxLocals = maxL → c.exceptionTable.toList = [] → Pc args s →
      W p l e (headSpec ws rm).room s m args below meth c s.heap [] 0 0 (sd_WT below cls s) (entryFrame m args maxL)) : sd_MT l y ws rm Pc cls := by
  refine MetFree.of_bodyS (code := cc) (maxLocals := maxL) (ret := ret) hy ?_ ?_
  · intro args s m h hn
    obtain ⟨meth, c, h1, h2, h3, h4, h5, h6, -, -⟩ := Cond.code_spec hn (atoms_spec (ws := ws) h _ (by rw [hw]; exact List.mem_cons_self))
    exact ⟨meth, c, h1, h2, h3, h4, h5, h6⟩
  · intro p e s m args below meth c s₁ B hml hP _
    have hh0 : s₁.heap = s.heap := by rw [B.state]; rfl
    have X := Stand.of_body B
    obtain ⟨meth', c', q1, q2, -, -, -, -, q3, -⟩ := Cond.code_spec B.named (atoms_spec (ws := ws) B.pre _ (by rw [hw]; exact List.mem_cons_self))
    cases q1.symm.trans X.method
    cases q2.symm.trans X.code
    have h0 : c.exceptionTable.toList = [] := by
      have h1 : c.exceptionTable.size = 0 := by simpa [Array.isEmpty] using q3
      exact List.eq_nil_of_length_eq_zero (by simpa using h1)
    obtain ⟨t, a1, o, b1, b2, b3⟩ := body p e s m args below meth c s₁ B hml h0 hP s₁ hh0 X
    exact ⟨t, o, a1, b1, b2, b3⟩
section SDT
variable {p : Program} {l : Launch} {e : Env} {R : Room} {s : State} {m : MethodId} {args : Array Value} {below : List Frame} {meth : Method} {c : Code} {H : Heap} {locs : List Loc} {cells slots : Nat} {Q : State → Prop} {cc : ByteArray} {pc : Nat} {ls : Array Slot} {rest : List Value}
/-- new, dup, ldc, invokespecial, athrow -/
theorem sd_throw (hexec : p.tables.exec = Jvm.exec) (hb : c.code = cc) (htr : l.stackTraces = false) (hlocks : meth.locks = false) (hout : c.exceptionTable.toList = []) {own cls tx : String} {names : List String} {ia ib ic q : Nat}
    (hown : s.vm.findClass own = some m.cls) (hf1 : Bundle.fit cls = true) (hf2 : ∀ n ∈ names, Bundle.fit n = true) (hT : ∀ a ∈ Bundle.ownAtoms own ic cls names, a.before args s = true)
    (hcl : (Cond.classLink own ia cls).before args s = true) (hini : (Cond.initialized cls).before args s = true) (hZ : vk_R own ib tx q s) (hls : ls.size = c.maxLocals)
    (hd0 : decode cc pc = .ok (.new ia, 3)) (hd3 : decode cc (pc + 3) = .ok (.dup, 1)) (hd4 : decode cc (pc + 4) = .ok (.ldc ib, 2)) (hd6 : decode cc (pc + 6) = .ok (.invokespecial ic, 3)) (hd9 : decode cc (pc + 9) = .ok (.athrow, 1))
    (hR : names.length + 3 < R.frames) (hRl : 13 * (names.length + 1) + 43 ≤ R.locals) (hRc : 1 ≤ R.cells) (hRs : 6 ≤ R.slots) :
    W p l e R s m args below meth c s.heap [] 0 0 (sd_WT below cls s) (F0 m pc ls []) := by
  refine W.newc hexec hb hown hcl (hT (.instantiable cls 6) (by simp [Bundle.ownAtoms])) hini rfl hd0 (by omega) (by omega) (fun cC kC h1 h2 h3 h4 => ?_)
  refine W.eq (g2 := F0 m (pc + 3) ls [.ref s.heap.size]) rfl ?_
  refine lv_dup hexec hb hd3 rfl ?_
  refine va_ldcS hexec hb hown hZ hd4 ?_
  intro T hT' X
  have htr' : e.platform.stackTraces = false := by rw [X.admits.platform]; exact htr
  obtain ⟨U, hsteps, hrun, hend, hW, hsame, ce, hce, K⟩ := X.ctorThrowS hexec htr' (own := own) (cls := cls) (names := names) (ic := ic) hown hf1 hf2 hT (fun y hy => by cases hy) h1 h2 (a := s.heap.size)
    (by rw [hT']; simp) (Nat.le_refl _) (msg := .ref q) rfl (g := F0 m (pc + 3 + 1 + 2) ls [.ref q, .ref s.heap.size, .ref s.heap.size]) rfl hls rfl rfl (rest := []) rfl (by rw [hb]; exact hd6) (by rw [hb]; exact hd9)
    (by rw [hout]; intro x hx; cases hx) hR (by simp [JFrame.monitorRoom, Value.category]; omega) hlocks
  exact ⟨U, hsteps, .threw s.heap.size, hrun, hend, s.heap.size, ce, rfl, hce, K.cls, by rw [K.vm]; rfl, hW, hsame⟩
/-- a call of a method that throws, out of the invoke into the note -/
theorem sd_backT {y : MethodName} {ws : List Cond} {rm : Room} {Pc : Array Value → State → Prop} {cls : String} {bytes : ByteArray} {maxL : Nat} {ret : Option FieldType} (hM : sd_MT l y ws rm Pc cls) (hbl : FrameBlind Pc) (hrc : rm.cells = 1) (hrs : rm.slots = 6)
    (hfr : rm.frames + 1 ≤ R.frames) (hlo : 8 + (maxL + 11) + rm.locals ≤ R.locals) (hws : ∀ w ∈ ws, ∀ (a' : Array Value) (U : State), s.WarmedH U.vm → w.before a' U = true) (hcode : Cond.code y bytes maxL ret ∈ ws) (hini : (Cond.initialized y.cls).before args s = true)
    {T : State} (X : Stand p l e R s m args below meth c T locs cells slots) {g : JFrame} {ig : Instr} {len : Nat} {mk : MethodId} {a : Array Value} (hg : g.method = m) (hsize : g.locals.size = c.maxLocals) (hdg : decode c.code g.pc = .ok (ig, len))
    (hW : 2 * g.monitorRoom + (g.stack.map fun v => v.category).sum ≤ 8) (hn : T.methodNamed? y = some mk) (hc : cells + 1 ≤ R.cells) (hs : slots + 6 ≤ R.slots) (hP : Pc a T) :
    ∃ (x : Addr) (ce : Cell) (T' : State), Stand p l e R s m args below meth c T' locs (cells + 1) (slots + 6) ∧ T'.heap[x]? = some ce ∧ s.vm.findClass cls = some ce.cls ∧ ce.vm.isStatics = false ∧ T.heap.size ≤ T'.heap.size ∧ (∀ q : Nat, q < T.heap.size → T'.heap[q]? = T.heap[q]?) ∧
      Steps p.tables e below (doInvoke e (T.setTop g) [] mk a).1 ((T'.setTop g).pushFrame (.throwing x)) := by
  have hcodeT := hws _ hcode a T X.warmed
  have hiniT : (Cond.initialized y.cls).before a T = true := word_at X.warmed (Or.inl (by first | rfl | simp [Cond.onTables, Cond.keeps, Cond.steady])) hini
  obtain ⟨methY, cY, hmY, hcY, -, hlY, -, -, -, -⟩ := Cond.code_spec hn hcodeT
  obtain ⟨kY, hkY, -⟩ := className_of_methodNamed hn
  have hinitY : kY.init = .initialized := Cond.initialized_spec (findClass_of_methodNamed hn) hkY hiniT
  have h : At T g.method c below := by rw [hg]; exact X.here
  have hroomf : (headSpec ws rm).room.frames + 1 ≤ R.frames := hfr
  have hrooml : 2 * g.monitorRoom + (g.stack.map fun v => v.category).sum + (cY.maxLocals + 11) + (headSpec ws rm).room.locals ≤ R.locals := by
    rw [hlY]
    show 2 * g.monitorRoom + (g.stack.map fun v => v.category).sum + (maxL + 11) + rm.locals ≤ R.locals
    omega
  have happ : (headSpec ws rm).appliesLoose y e.platform (T.calling g mk a) = true :=
    Spec.appliesLoose_calling (g := g) h hdg hn hkY hinitY
      (X.room_calling (g := g) (R' := (headSpec ws rm).room) hsize hmY hcY hroomf hrooml (by show cells + rm.cells ≤ R.cells; omega) (by show slots + rm.slots ≤ R.slots; omega)) (atoms_intro fun w hw => hws w hw _ _ X.warmed)
  obtain ⟨mid, hmid⟩ := h.above
  have hfr2 : (T.setTop g).frames = (.java g :: mid) ++ below := by rw [State.frames_setTop' g h.top, hmid]; rfl
  obtain ⟨o, s₂, hsteps, -, hend, hq⟩ := Steps.callFree hM p X.admits X.cas X.clock (acts := []) hfr2 happ (hbl _ _ _ _ hP) trivial
  have hq : sd_QT cls (T.calling g mk a) o s₂ := hq
  obtain ⟨x, ce, rfl, hx, hcls, hst, hW₂, hsame₂⟩ := hq
  rw [State.frames_setTop' g h.top] at hend
  have hf₂ : s₂.frames = .throwing x :: .java g :: T.frames.tail := hend
  have hW' : T.WarmedH s₂.vm := hW₂
  obtain ⟨g₀, hg0⟩ := Option.isSome_iff_exists.mp h.top
  obtain ⟨r, hr⟩ := State.topJava?_eq_some.mp hg0
  obtain ⟨e2, q2, q3, q4, q5, q6⟩ := id hsame₂
  have e3 : s₂ = ({ (T.calling g mk a).setFrames s₂.frames with heap := s₂.heap, slotsUsed := s₂.slotsUsed } : State).setVm s₂.vm := by
    have : s₂ = ({ s₂ with vm := (T.calling g mk a).vm } : State).setVm s₂.vm := rfl
    rw [e2] at this
    exact this
  have hs₂ : s₂ = ((({ T with heap := s₂.heap, slotsUsed := s₂.slotsUsed } : State).setVm s₂.vm).setTop g).pushFrame (.throwing x) := by
    have hr' : (({ T with heap := s₂.heap, slotsUsed := s₂.slotsUsed } : State).setVm s₂.vm).frames = .java g₀ :: r := hr
    refine e3.trans ?_
    rw [hf₂, State.calling_eq h.top, State.setFrames_setFrames, State.pushFrame, State.frames_setTop _ hr', State.setTop_of_frames _ hr', State.setFrames_setFrames, hr]
    rfl
  have hsame : T.sameButNew ({ T with heap := s₂.heap, slotsUsed := s₂.slotsUsed } : State) [] 1 6 := by
    refine ⟨?_, q2, q3, q4, q5, q6⟩
    obtain ⟨t, ht, -⟩ := State.frames_cons hr
    show ({ T with heap := s₂.heap, slotsUsed := s₂.slotsUsed } : State) = { T.setFrames T.frames with heap := s₂.heap, slotsUsed := s₂.slotsUsed }
    rw [State.setFrames_self ht]
  have hk := sd_same hsame
  subst hg
  refine ⟨x, ce, (({ T with heap := s₂.heap, slotsUsed := s₂.slotsUsed } : State).setVm s₂.vm), ?_, hx, ?_, hst, hk.1, hk.2, ?_⟩
  · have hh := X.same.trans (hsame.setVm s.vm)
    rw [List.append_nil] at hh
    exact ⟨X.admits, X.cas, X.clock, X.frames, X.room, X.hears, X.method, X.code, (X.here.setHeapUsed s₂.heap s₂.slotsUsed).setVm hW'.alike, X.tail, State.WarmedH.trans X.warmed hW', X.limits, X.bytes, hh⟩
  · rw [← X.warmed.alike.findClass]; exact hcls
  · show Steps p.tables e below _ (((({ T with heap := s₂.heap, slotsUsed := s₂.slotsUsed } : State).setVm s₂.vm).setTop g).pushFrame (.throwing x))
    rw [← hs₂]
    exact hsteps
/-- what is owed behind a throwing call: the note lies over the frame -/
abbrev sd_Note (p : Program) (l : Launch) (e : Env) (R : Room) (s : State) (m : MethodId) (args : Array Value) (below : List Frame) (meth : Method) (c : Code) (H : Heap) (locs : List Loc) (cells slots : Nat) (Q : State → Prop) (g : JFrame) (cls : String) : Prop :=
  ∀ (x : Addr) (ce : Cell) (T' : State), Stand p l e R s m args below meth c T' locs (cells + 1) (slots + 6) → T'.heap[x]? = some ce → s.vm.findClass cls = some ce.cls → ce.vm.isStatics = false → H.size ≤ T'.heap.size → (∀ q : Nat, q < H.size → T'.heap[q]? = H[q]?) →
    ∃ t, Steps p.tables e below ((T'.setTop g).pushFrame (.throwing x)) t ∧ Q t
theorem sd_thrS {y : MethodName} {ws : List Cond} {rm : Room} {Pc : Array Value → State → Prop} {cls own : String} {bytes : ByteArray} {maxL nL n index : Nat} {ret : Option FieldType} {Ts : List Cond} {As st0 : List Value} (S : CallFix p m c cc nL s args Ts own) (hM : sd_MT l y ws rm Pc cls)
    (cw : CallB R s args own index y bytes maxL ret ws rm 1 6 n ∧ (Cond.static y).before args s = true) (hp : PreS s H Pc As) (hn : As.length = n) (hsize : ls.size = nL) (hstack : st0 = As.reverse ++ rest) (hW : 2 * (F0 m pc ls st0).monitorRoom + (rest.map fun v => v.category).sum ≤ 8)
    (hdg : decode cc pc = .ok (.invokestatic index, 3)) (hf : cells + 1 ≤ R.cells ∧ slots + 6 ≤ R.slots) (kk : sd_Note p l e R s m args below meth c H locs cells slots Q (F0 m pc ls rest) cls) : W p l e R s m args below meth c H locs cells slots Q (F0 m pc ls st0) := by
  obtain ⟨⟨hrc, hrs, hfr, hlo, hws, hcw, hcode, hini, hy, hlen, hl⟩, hstt⟩ := cw
  obtain ⟨hx, hb, hml, ho, -⟩ := S
  intro T hT X
  obtain ⟨methX, cX, hnX, hmX, hcX, -⟩ : ∃ (mk : MethodId) (methX : Method), s.methodNamed? y = some mk ∧ s.vm.method? mk = some methX ∧ parseMethodDescriptor y.desc = some methX.sig ∧ True := by
    have hcode' := hcode
    cases hm : s.methodNamed? y with
    | none => simp [Cond.before, Cond.holds, Cond.value, hm] at hcode'
    | some mk =>
      obtain ⟨methY, cY, h1, -, -, -, -, -, -, h2⟩ := Cond.code_spec hm hcode'
      exact ⟨mk, methY, rfl, h1, h2, trivial⟩
  have hstatic : cX.isStatic = true := Cond.static_spec hnX hmX hstt
  obtain ⟨kP, hkP, -⟩ := className_of_methodNamed hnX
  have hinitP : kP.init = .initialized := Cond.initialized_spec (findClass_of_methodNamed hnX) hkP hini
  obtain ⟨vm₁, X₁, hstep₁⟩ := X.invokestatic hx ho hl hnX hmX hstatic hkP hinitP hy (g := F0 m pc ls st0) rfl (argsL := As) (rest := rest) (hn.trans (hlen _ hcX)) hstack (by rw [hb]; exact hdg)
  obtain ⟨x, ce, T', X', h1, h2, h3, h4, h5, h6⟩ := sd_backT hM hp.1 hrc hrs hfr hlo hws hcw hini X₁ (g := F0 m pc ls rest) (mk := methX) (a := As.toArray) rfl (hsize.trans hml.symm) (by rw [hb]; exact hdg) hW (X₁.named hnX) hf.1 hf.2 (hp.2 _ hT X₁.warmed)
  have hT1 : (T.setVm vm₁).heap = H := hT
  rw [hT1] at h4 h5
  obtain ⟨t, a1, b1⟩ := kk x ce T' X' h1 h2 h3 h4 h5
  exact ⟨t, hstep₁ _ (fun acts => by rw [doInvoke_state]; exact h6.trans a1), b1⟩
theorem sd_thrV {y : MethodName} {ws : List Cond} {rm : Room} {Pc : Array Value → State → Prop} {cls own C : String} {bytes : ByteArray} {maxL nL n index : Nat} {ret : Option FieldType} {Ts : List Cond} {b : Addr} {As st0 : List Value} (S : CallFix p m c cc nL s args Ts own) (hM : sd_MT l y ws rm Pc cls)
    (cw : CallW R s args own C index y bytes maxL ret ws rm 1 6 n) (hp : PreV s H C b Pc As) (hn : As.length = n) (hsize : ls.size = nL) (hstack : st0 = As.reverse ++ .ref b :: rest) (hW : 2 * (F0 m pc ls st0).monitorRoom + (rest.map fun v => v.category).sum ≤ 8)
    (hdg : decode cc pc = .ok (.invokevirtual index, 3)) (hf : cells + 1 ≤ R.cells ∧ slots + 6 ≤ R.slots) (kk : sd_Note p l e R s m args below meth c H locs cells slots Q (F0 m pc ls rest) cls) : W p l e R s m args below meth c H locs cells slots Q (F0 m pc ls st0) := by
  obtain ⟨⟨hrc, hrs, hfr, hlo, hws, hcw, hcode, hini, hy, hlen, hl⟩, hin, hse⟩ := cw
  obtain ⟨hx, hb, hml, ho, -⟩ := S
  obtain ⟨hbl, ⟨cellB, hcB, hoB, hclB⟩, hPc⟩ := hp
  intro T hT X
  obtain ⟨mk, methM, hnamed, hmethM, hstM, habM⟩ := Cond.instanceMethod_spec hin
  obtain ⟨methY, cY, g1, -, -, -, -, -, -, g2⟩ := Cond.code_spec hnamed hcode
  cases g1.symm.trans hmethM
  obtain ⟨c2, r2, m2, q1, q2, q3, q4, kP, hkP, hkPi⟩ := Cond.selects_spec hse
  cases hclB.symm.trans q1
  cases (State.methodFound?_of_named hnamed hy).symm.trans q2
  cases hnamed.symm.trans q3
  have hselP : selectMethod e.platform s.vm cellB.cls mk = .method mk := by rw [Launch.admits_selectMethod X.admits]; exact q4
  obtain ⟨vm₁, X₁, hstep₁⟩ := X.invokevirtual hx ho hl hnamed hmethM hstM hkP hkPi hy (a := b) (cell := cellB) (by rw [hT]; exact hcB)
    (fun z h => by rw [h] at hoB; cases hoB) hselP hmethM habM hkP hkPi (g := F0 m pc ls st0) rfl (argsL := As) (rest := rest) (hn.trans (hlen _ g2)) hstack (by rw [hb]; exact hdg)
  obtain ⟨x, ce, T', X', h1, h2, h3, h4, h5, h6⟩ := sd_backT hM hbl hrc hrs hfr hlo hws hcw hini X₁ (g := F0 m pc ls rest) (mk := mk) (a := (Value.ref b :: As).toArray) rfl (hsize.trans hml.symm) (by rw [hb]; exact hdg) hW (X₁.named hnamed) hf.1 hf.2 (hPc _ hT X₁.warmed)
  have hT1 : (T.setVm vm₁).heap = H := hT
  rw [hT1] at h4 h5
  obtain ⟨t, a1, b1⟩ := kk x ce T' X' h1 h2 h3 h4 h5
  exact ⟨t, hstep₁ _ (fun acts => by rw [doInvoke_state]; exact h6.trans a1), b1⟩
/-- nothing catches it here: the method ends so too -/
theorem sd_out {cls : String} (hout : c.exceptionTable.toList = []) (hlocks : meth.locks = false) {st : List Value} : sd_Note p l e R s m args below meth c H [] 0 0 (sd_WT below cls s) (F0 m pc ls st) cls := by
  intro x ce T' X' h1 h2 h3 h4 h5
  obtain ⟨g1, g2, g3, g4, g5⟩ := X'.leaveThrown x (g := F0 m pc ls st) rfl rfl rfl (by rw [hout]; intro y hy; cases hy) hlocks
  exact ⟨_, g1, .threw x, g2, g3, x, ce, rfl, h1, h2, h3, g4, g5⟩
end SDT
end
section
/-! The catch: the search through a method's table, its classes resolved or not yet. -/
section SDC
variable {e : Env} {s : State} {f : JFrame} {a : Addr} {Q : Handler → Pre} {E : CtlPost} {d : Bool} {acts : List Action}
theorem sd_goYes {x : ExceptionTableEntry} {t : List ExceptionTableEntry} {k : ClassId} {cell : Cell} (hx : covers x f.pc = true) (h0 : x.catchType ≠ 0) (hl : s.vm.ClassLinks e.platform f.method.cls x.catchType k) (hcell : s.heap[a]? = some cell)
    (hobj : ∀ z, cell.vm ≠ .statics z) (hk1 : ∃ z, s.vm.classes[cell.cls]? = some z) (hk2 : ∃ z, s.vm.classes[k]? = some z) (hfit : s.vm.assignable cell.cls k = true) :
    wp (findHandler.go f a (x :: t)) Q E e d acts s ↔ Q (.found x.handlerPc) d acts (s.setVm (s.vm.noted f.method.cls x.catchType (.cls k))) := by
  simp only [covers] at hx
  obtain ⟨g1, g2⟩ := (resolveClass_links e.toSetting hl).op (op := VmOp.resolveClass f.method.cls x.catchType) rfl
  have hal : s.vm.Alike (s.vm.noted f.method.cls x.catchType (.cls k)) := (Vm.Alike.refl s.vm).noted _ _ _
  obtain ⟨k1, hk1⟩ := hk1
  obtain ⟨k2, hk2⟩ := hk2
  obtain ⟨k1', hk1', -⟩ := hal.2.2 _ _ hk1
  obtain ⟨k2', hk2', -⟩ := hal.2.2 _ _ hk2
  have hfit' : (s.vm.noted f.method.cls x.catchType (.cls k)).assignable cell.cls k = true := by rw [hal.assignable]; exact hfit
  simp [findHandler.go, hx, h0, g1, g2, hcell, hobj, hk1', hk2', hfit', VmOp.dirties, VmOp.acts]
theorem sd_goNo {x : ExceptionTableEntry} {t : List ExceptionTableEntry} {k : ClassId} {cell : Cell} (hx : covers x f.pc = true) (h0 : x.catchType ≠ 0) (hl : s.vm.ClassLinks e.platform f.method.cls x.catchType k) (hcell : s.heap[a]? = some cell)
    (hobj : ∀ z, cell.vm ≠ .statics z) (hk1 : ∃ z, s.vm.classes[cell.cls]? = some z) (hk2 : ∃ z, s.vm.classes[k]? = some z) (hfit : s.vm.assignable cell.cls k = false) :
    wp (findHandler.go f a (x :: t)) Q E e d acts s ↔ wp (findHandler.go f a t) Q E e d acts (s.setVm (s.vm.noted f.method.cls x.catchType (.cls k))) := by
  simp only [covers] at hx
  obtain ⟨g1, g2⟩ := (resolveClass_links e.toSetting hl).op (op := VmOp.resolveClass f.method.cls x.catchType) rfl
  have hal : s.vm.Alike (s.vm.noted f.method.cls x.catchType (.cls k)) := (Vm.Alike.refl s.vm).noted _ _ _
  obtain ⟨k1, hk1⟩ := hk1
  obtain ⟨k2, hk2⟩ := hk2
  obtain ⟨k1', hk1', -⟩ := hal.2.2 _ _ hk1
  obtain ⟨k2', hk2', -⟩ := hal.2.2 _ _ hk2
  have hfit' : (s.vm.noted f.method.cls x.catchType (.cls k)).assignable cell.cls k = false := by rw [hal.assignable]; exact hfit
  simp [findHandler.go, hx, h0, g1, g2, hcell, hobj, hk1', hk2', hfit', VmOp.dirties, VmOp.acts]
end SDC
/-- the search ends so, and leaves these tables -/
def sd_Finds (e : Env) (s : State) (f : JFrame) (a : Addr) (h : Handler) (vm' : Vm) : Prop :=
  ∀ (Q : Handler → Pre) (E : CtlPost) (d : Bool) (acts : List Action), wp (findHandler f a) Q E e d acts s ↔ Q h d acts (s.setVm vm')
theorem sd_stepCatch {e : Env} {s : State} {a : Addr} {f : JFrame} {r : List Frame} {pc : Nat} {vm' : Vm} (hfind : sd_Finds e s f a (.found pc) vm') :
    (stepThrowing e s a (.java f :: r)).Is ((s.setVm vm').setFrames (.java { f with pc := pc, stack := [.ref a] } :: r)) [] := by
  simp only [stepThrowing, searchFrame, vmDo]
  generalize hr : Sem.go _ e false [] s = res
  obtain ⟨as, rfl, ha⟩ := Sem.eq_ok_of hr (a := Handler.found pc) (s' := s.setVm vm') (acts' := []) (by simp [hfind _ _ _ _])
  exact ⟨rfl, ha⟩
theorem sd_caught {tb : Tables} {e : Env} {s target : State} {g : JFrame} {c : Code} {below : List Frame} {a : Addr} (h : At s g.method c below) {pc : Nat} {vm' : Vm}
    (hfind : sd_Finds e ((s.setTop g).pushFrame (.throwing a)) g a (.found pc) vm') (hrest : Steps tb e below ((s.setVm vm').setTop { g with pc := pc, stack := [.ref a] }) target) :
    Steps tb e below ((s.setTop g).pushFrame (.throwing a)) target := by
  obtain ⟨hgo, hw⟩ := h.throwing a
  refine Steps.head hgo hw ?_
  rw [stepThread_throwing (frames_entered h.top _), (sd_stepCatch (s := (s.setTop g).pushFrame (.throwing a)) hfind).1]
  obtain ⟨g₀, hg⟩ := Option.isSome_iff_exists.mp h.top
  obtain ⟨r, hr⟩ := State.topJava?_eq_some.mp hg
  have hr' : (s.setVm vm').frames = .java g₀ :: r := hr
  have key : ∀ (u : State) (F G : List Frame), ((u.setFrames F).setVm vm').setFrames G = (u.setVm vm').setFrames G := by
    intro u F G
    have h1 : (u.setFrames F).setVm vm' = (u.setVm vm').setFrames F := rfl
    rw [h1, State.setFrames_setFrames]
  rw [State.setTop_of_frames _ hr'] at hrest
  rw [hr, List.tail_cons, State.pushFrame, key, State.setTop_of_frames _ hr, key]
  exact hrest
section SDD
variable {p : Program} {l : Launch} {e : Env} {R : Room} {s : State} {m : MethodId} {args : Array Value} {below : List Frame} {meth : Method} {c : Code} {H : Heap} {locs : List Loc} {cells slots : Nat} {Q : State → Prop} {pc : Nat} {ls : Array Slot} {st : List Value}
/-- the first row catches -/
theorem sd_catch1 {own cls : String} {x : ExceptionTableEntry} {t : List ExceptionTableEntry} (htbl : c.exceptionTable.toList = x :: t) (hown : s.vm.findClass own = some m.cls) (hx : covers x pc = true) (h0 : x.catchType ≠ 0)
    (hlink : (Cond.classLink own x.catchType cls).before args s = true) (hcast : (Cond.castable cls cls).before args s = true)
    (kk : ∀ (H1 : Heap) (q : Nat), H.size ≤ H1.size → (∀ a : Nat, a < H.size → H1[a]? = H[a]?) → W p l e R s m args below meth c H1 locs (cells + 1) (slots + 6) Q (F0 m x.handlerPc ls [.ref q])) :
    sd_Note p l e R s m args below meth c H locs cells slots Q (F0 m pc ls st) cls := by
  intro q ce T' X h1 h2 h3 h4 h5
  have hpl : e.platform.magicAccessors = ({} : Platform).magicAccessors := by rw [X.admits.platform]
  obtain ⟨k, hk, hcl⟩ := Cond.classLink_spec hown hlink e.platform hpl
  cases h2.symm.trans hk
  obtain ⟨c3, c4, hc3, hc4, hasg⟩ := Cond.castable_spec hcast
  cases hc3.symm.trans h2
  cases hc4.symm.trans h2
  obtain ⟨dk, _, _, kt, hd, _, _, _, _, hkt, _, hopen⟩ := hcl.here
  have hW' : s.WarmedH (T'.vm.noted m.cls x.catchType (.cls ce.cls)) := X.warmed.noted hd hopen (State.rightAt_cls hcl)
  have hal := X.warmed.alike
  obtain ⟨kt', hkt', -⟩ := hal.2.2 _ _ hkt
  have hfit' : T'.vm.assignable ce.cls ce.cls = true := by rw [hal.assignable]; exact hasg
  obtain ⟨u, a1, b1⟩ := kk T'.heap q h4 h5 (T'.setVm (T'.vm.noted m.cls x.catchType (.cls ce.cls))) rfl (X.noted hW')
  refine ⟨u, sd_caught (g := F0 m pc ls st) (pc := x.handlerPc) (vm' := T'.vm.noted m.cls x.catchType (.cls ce.cls)) X.here ?_ a1, b1⟩
  intro Q' E d acts
  rw [W.findHandler_eq (s := (T'.setTop (F0 m pc ls st)).pushFrame (.throwing q)) (f := F0 m pc ls st) X.method' X.code, htbl]
  exact sd_goYes (s := (T'.setTop (F0 m pc ls st)).pushFrame (.throwing q)) (f := F0 m pc ls st) hx h0 (X.warmed.classLinks hcl) h1 (VmData.ne_statics_of h3) ⟨kt', hkt'⟩ ⟨kt', hkt'⟩ hfit'
/-- the first row passes, the second catches -/
theorem sd_catch2 {own cls other : String} {x y : ExceptionTableEntry} {t : List ExceptionTableEntry} (htbl : c.exceptionTable.toList = x :: y :: t) (hown : s.vm.findClass own = some m.cls) (hx : covers x pc = true) (h0 : x.catchType ≠ 0) (hy : covers y pc = true) (hy0 : y.catchType ≠ 0)
    (hlink : (Cond.classLink own x.catchType other).before args s = true) (hlink2 : (Cond.classLink own y.catchType cls).before args s = true) (hno : va_Nc cls other s) (hcast : (Cond.castable cls cls).before args s = true)
    (kk : ∀ (H1 : Heap) (q : Nat), H.size ≤ H1.size → (∀ a : Nat, a < H.size → H1[a]? = H[a]?) → W p l e R s m args below meth c H1 locs (cells + 1) (slots + 6) Q (F0 m y.handlerPc ls [.ref q])) :
    sd_Note p l e R s m args below meth c H locs cells slots Q (F0 m pc ls st) cls := by
  intro q ce T' X h1 h2 h3 h4 h5
  have hpl : e.platform.magicAccessors = ({} : Platform).magicAccessors := by rw [X.admits.platform]
  obtain ⟨ko, hko, hclo⟩ := Cond.classLink_spec hown hlink e.platform hpl
  obtain ⟨k, hk, hcl⟩ := Cond.classLink_spec hown hlink2 e.platform hpl
  cases h2.symm.trans hk
  obtain ⟨c3, c4, hc3, hc4, hasg⟩ := Cond.castable_spec hcast
  cases hc3.symm.trans h2
  cases hc4.symm.trans h2
  obtain ⟨n1, n2, hn1, hn2, hn3⟩ := hno
  cases hn1.symm.trans h2
  have hkn : n2 = ko := Option.some.inj (hn2.symm.trans hko)
  subst hkn
  obtain ⟨do_, _, _, kto, hdo, _, _, _, _, hkto, _, hopeno⟩ := hclo.here
  obtain ⟨dk, _, _, kt, hd, _, _, _, _, hkt, _, hopen⟩ := hcl.here
  have hWo : s.WarmedH (T'.vm.noted m.cls x.catchType (.cls n2)) := X.warmed.noted hdo hopeno (State.rightAt_cls hclo)
  have hW' : s.WarmedH ((T'.vm.noted m.cls x.catchType (.cls n2)).noted m.cls y.catchType (.cls ce.cls)) := hWo.noted hd hopen (State.rightAt_cls hcl)
  have hal := X.warmed.alike
  have halo := hWo.alike
  obtain ⟨kt', hkt', -⟩ := hal.2.2 _ _ hkt
  obtain ⟨kto', hkto', -⟩ := hal.2.2 _ _ hkto
  obtain ⟨kt2, hkt2, -⟩ := halo.2.2 _ _ hkt
  have hno' : T'.vm.assignable ce.cls n2 = false := by rw [hal.assignable]; exact hn3
  have hfit' : (T'.vm.noted m.cls x.catchType (.cls n2)).assignable ce.cls ce.cls = true := by rw [halo.assignable]; exact hasg
  obtain ⟨u, a1, b1⟩ := kk T'.heap q h4 h5 (T'.setVm ((T'.vm.noted m.cls x.catchType (.cls n2)).noted m.cls y.catchType (.cls ce.cls))) rfl (X.noted hW')
  refine ⟨u, sd_caught (g := F0 m pc ls st) (pc := y.handlerPc) (vm' := (T'.vm.noted m.cls x.catchType (.cls n2)).noted m.cls y.catchType (.cls ce.cls)) X.here ?_ a1, b1⟩
  intro Q' E d acts
  rw [W.findHandler_eq (s := (T'.setTop (F0 m pc ls st)).pushFrame (.throwing q)) (f := F0 m pc ls st) X.method' X.code, htbl]
  rw [sd_goNo (s := (T'.setTop (F0 m pc ls st)).pushFrame (.throwing q)) (f := F0 m pc ls st) hx h0 (X.warmed.classLinks hclo) h1 (VmData.ne_statics_of h3) ⟨kt', hkt'⟩ ⟨kto', hkto'⟩ hno']
  exact sd_goYes (s := ((T'.setTop (F0 m pc ls st)).pushFrame (.throwing q)).setVm (T'.vm.noted m.cls x.catchType (.cls n2))) (f := F0 m pc ls st) hy hy0 (hWo.classLinks hcl) h1 (VmData.ne_statics_of h3) ⟨kt2, hkt2⟩ ⟨kt2, hkt2⟩ hfit'
end SDD
end
section
/-! Names of the three classes, their fields, methods, and a row that decodes each instruction: written by a program out of the listing. -/
def RX0 : String := "ShareDesk"
def TX0 : u_T := fun k => match k with
  | 0 => ("ShareDesk", "weights", "[I", true)
  | 1 => ("ShareDesk", "parties", "I", false)
  | _ => ("ShareDesk", "total", "I", false)
def tyX0 : Nat → FieldType := fun k => match k with
  | 0 => .array .int
  | 1 => .int
  | _ => .int
theorem nmX0 : ∀ a, a < 3 → ∀ b, b < 3 → a ≠ b → (TX0 a).2.1 ≠ (TX0 b).2.1 := by decide +kernel
theorem tyX0_ok : ∀ k, k < 3 → parseFieldDescriptor (TX0 k).2.2.1 = some (tyX0 k) := by decide +kernel
def RX1 : String := "ShareDeskModel"
def TX1 : u_T := fun k => match k with
  | 0 => ("ShareDeskModel", "err", "I", false)
  | 1 => ("ShareDeskModel", "parties", "I", false)
  | 2 => ("ShareDeskModel", "weights", "[J", true)
  | 3 => ("ShareDeskModel", "shares", "[J", true)
  | 4 => ("ShareDeskModel", "kept", "[J", true)
  | _ => ("ShareDeskModel", "got", "[Z", true)
def tyX1 : Nat → FieldType := fun k => match k with
  | 0 => .int
  | 1 => .int
  | 2 => .array .long
  | 3 => .array .long
  | 4 => .array .long
  | _ => .array .boolean
theorem nmX1 : ∀ a, a < 6 → ∀ b, b < 6 → a ≠ b → (TX1 a).2.1 ≠ (TX1 b).2.1 := by decide +kernel
theorem tyX1_ok : ∀ k, k < 6 → parseFieldDescriptor (TX1 k).2.2.1 = some (tyX1 k) := by decide +kernel
def RL : String := "ShareDeskLaw"
abbrev vwCl : List vw_C := [(RX0, TX0, 3), (RX1, TX1, 6)]
abbrev cX0_init : ByteArray := prog_1_method_1_code
def yX0_init : MethodName := ⟨RX0, "<init>", "()V"⟩
abbrev cX0_begin : ByteArray := prog_1_method_2_code
def yX0_begin : MethodName := ⟨RX0, "begin", "(I)V"⟩
abbrev cX0_weight : ByteArray := prog_1_method_3_code
def yX0_weight : MethodName := ⟨RX0, "weight", "(II)I"⟩
abbrev cX0_share : ByteArray := prog_1_method_4_code
def yX0_share : MethodName := ⟨RX0, "share", "(III)I"⟩
abbrev cX0_over : ByteArray := prog_1_method_5_code
def yX0_over : MethodName := ⟨RX0, "over", "(III)J"⟩
abbrev cX0_next : ByteArray := prog_1_method_6_code
def yX0_next : MethodName := ⟨RX0, "next", "(II)I"⟩
abbrev cX0_least : ByteArray := prog_1_method_7_code
def yX0_least : MethodName := ⟨RX0, "least", "(III)I"⟩
abbrev cX0_count : ByteArray := prog_1_method_8_code
def yX0_count : MethodName := ⟨RX0, "count", "(I)I"⟩
abbrev cX0_checkWay : ByteArray := prog_1_method_9_code
def yX0_checkWay : MethodName := ⟨RX0, "checkWay", "(I)V"⟩
abbrev cX0_checkUnits : ByteArray := prog_1_method_10_code
def yX0_checkUnits : MethodName := ⟨RX0, "checkUnits", "(II)V"⟩
abbrev cX0_checkParty : ByteArray := prog_1_method_11_code
def yX0_checkParty : MethodName := ⟨RX0, "checkParty", "(I)V"⟩
abbrev cX0_checkTotal : ByteArray := prog_1_method_12_code
def yX0_checkTotal : MethodName := ⟨RX0, "checkTotal", "()V"⟩
abbrev cX0_partiesWithWeight : ByteArray := prog_1_method_13_code
def yX0_partiesWithWeight : MethodName := ⟨RX0, "partiesWithWeight", "()I"⟩
abbrev cX0_unitsOf : ByteArray := prog_1_method_14_code
def yX0_unitsOf : MethodName := ⟨RX0, "unitsOf", "(III)I"⟩
abbrev cX0_unitsByRests : ByteArray := prog_1_method_15_code
def yX0_unitsByRests : MethodName := ⟨RX0, "unitsByRests", "(II)I"⟩
abbrev cX0_restOf : ByteArray := prog_1_method_16_code
def yX0_restOf : MethodName := ⟨RX0, "restOf", "(II)J"⟩
abbrev cX0_leastByRests : ByteArray := prog_1_method_17_code
def yX0_leastByRests : MethodName := ⟨RX0, "leastByRests", "(II)I"⟩
abbrev cX0_unitsByTurns : ByteArray := prog_1_method_18_code
def yX0_unitsByTurns : MethodName := ⟨RX0, "unitsByTurns", "(III)I"⟩
abbrev cX0_turnOf : ByteArray := prog_1_method_19_code
def yX0_turnOf : MethodName := ⟨RX0, "turnOf", "(III)J"⟩
abbrev cX0_unitsBefore : ByteArray := prog_1_method_20_code
def yX0_unitsBefore : MethodName := ⟨RX0, "unitsBefore", "(IIII)J"⟩
abbrev cX0_divisorOf : ByteArray := prog_1_method_21_code
def yX0_divisorOf : MethodName := ⟨RX0, "divisorOf", "(II)J"⟩
abbrev cX1_init : ByteArray := prog_3_method_1_code
def yX1_init : MethodName := ⟨RX1, "<init>", "()V"⟩
abbrev cX1_thrown : ByteArray := prog_3_method_2_code
def yX1_thrown : MethodName := ⟨RX1, "thrown", "()I"⟩
abbrev cX1_in : ByteArray := prog_3_method_3_code
def yX1_in : MethodName := ⟨RX1, "in", "(JJJ)Z"⟩
abbrev cX1_fails : ByteArray := prog_3_method_4_code
def yX1_fails : MethodName := ⟨RX1, "fails", "(ZI)Z"⟩
abbrev cX1_all : ByteArray := prog_3_method_5_code
def yX1_all : MethodName := ⟨RX1, "all", "()J"⟩
abbrev cX1_isParty : ByteArray := prog_3_method_6_code
def yX1_isParty : MethodName := ⟨RX1, "isParty", "(I)Z"⟩
abbrev cX1_isWay : ByteArray := prog_3_method_7_code
def yX1_isWay : MethodName := ⟨RX1, "isWay", "(I)Z"⟩
abbrev cX1_begin : ByteArray := prog_3_method_8_code
def yX1_begin : MethodName := ⟨RX1, "begin", "(I)V"⟩
abbrev cX1_weight : ByteArray := prog_3_method_9_code
def yX1_weight : MethodName := ⟨RX1, "weight", "(II)I"⟩
abbrev cX1_parts : ByteArray := prog_3_method_10_code
def yX1_parts : MethodName := ⟨RX1, "parts", "(I)V"⟩
abbrev cX1_one : ByteArray := prog_3_method_11_code
def yX1_one : MethodName := ⟨RX1, "one", "(I)V"⟩
abbrev cX1_give : ByteArray := prog_3_method_12_code
def yX1_give : MethodName := ⟨RX1, "give", "(II)V"⟩
abbrev cX1_share : ByteArray := prog_3_method_13_code
def yX1_share : MethodName := ⟨RX1, "share", "(III)I"⟩
abbrev cX1_over : ByteArray := prog_3_method_14_code
def yX1_over : MethodName := ⟨RX1, "over", "(III)J"⟩
abbrev cX1_next : ByteArray := prog_3_method_15_code
def yX1_next : MethodName := ⟨RX1, "next", "(II)I"⟩
abbrev cX1_least : ByteArray := prog_3_method_16_code
def yX1_least : MethodName := ⟨RX1, "least", "(III)I"⟩
abbrev cX1_count : ByteArray := prog_3_method_17_code
def yX1_count : MethodName := ⟨RX1, "count", "(I)I"⟩
abbrev cL_begin : ByteArray := method_3_code
def yL_begin : MethodName := ⟨RL, "begin", "(LShareDesk;I)I"⟩
abbrev cL_weight : ByteArray := method_4_code
def yL_weight : MethodName := ⟨RL, "weight", "(LShareDesk;II[J)I"⟩
abbrev cL_share : ByteArray := method_5_code
def yL_share : MethodName := ⟨RL, "share", "(LShareDesk;III[J)I"⟩
abbrev cL_over : ByteArray := method_6_code
def yL_over : MethodName := ⟨RL, "over", "(LShareDesk;III[J)I"⟩
abbrev cL_next : ByteArray := method_7_code
def yL_next : MethodName := ⟨RL, "next", "(LShareDesk;II[J)I"⟩
abbrev cL_least : ByteArray := method_8_code
def yL_least : MethodName := ⟨RL, "least", "(LShareDesk;III[J)I"⟩
abbrev cL_count : ByteArray := method_9_code
def yL_count : MethodName := ⟨RL, "count", "(LShareDesk;I[J)I"⟩
abbrev cL_law : ByteArray := code
def yL_law : MethodName := ⟨RL, "law", "([I)Z"⟩
end
section
/-! rows that decode each instruction, by program -/
theorem dX0_init_0 : decode cX0_init 0 = .ok (.aload_n 0, 1) := by decide +kernel
theorem dX0_init_1 : decode cX0_init 1 = .ok (.invokespecial 1, 3) := by decide +kernel
theorem dX0_init_4 : decode cX0_init 4 = .ok (.aload_n 0, 1) := by decide +kernel
theorem dX0_init_5 : decode cX0_init 5 = .ok (.bipush 8, 2) := by decide +kernel
theorem dX0_init_7 : decode cX0_init 7 = .ok (.newarray .int, 2) := by decide +kernel
theorem dX0_init_9 : decode cX0_init 9 = .ok (.putfield 9, 3) := by decide +kernel
theorem dX0_init_12 : decode cX0_init 12 = .ok (.aload_n 0, 1) := by decide +kernel
theorem dX0_init_13 : decode cX0_init 13 = .ok (.iconst 2, 1) := by decide +kernel
theorem dX0_init_14 : decode cX0_init 14 = .ok (.putfield 13, 3) := by decide +kernel
theorem dX0_init_17 : decode cX0_init 17 = .ok (.aload_n 0, 1) := by decide +kernel
theorem dX0_init_18 : decode cX0_init 18 = .ok (.iconst 0, 1) := by decide +kernel
theorem dX0_init_19 : decode cX0_init 19 = .ok (.putfield 17, 3) := by decide +kernel
theorem dX0_init_22 : decode cX0_init 22 = .ok (.return_, 1) := by decide +kernel
theorem dX0_begin_0 : decode cX0_begin 0 = .ok (.iload_n 1, 1) := by decide +kernel
theorem dX0_begin_1 : decode cX0_begin 1 = .ok (.iconst 1, 1) := by decide +kernel
theorem dX0_begin_2 : decode cX0_begin 2 = .ok (.if_icmp .lt 9, 3) := by decide +kernel
theorem dX0_begin_5 : decode cX0_begin 5 = .ok (.iload_n 1, 1) := by decide +kernel
theorem dX0_begin_6 : decode cX0_begin 6 = .ok (.bipush 8, 2) := by decide +kernel
theorem dX0_begin_8 : decode cX0_begin 8 = .ok (.if_icmp .le 13, 3) := by decide +kernel
theorem dX0_begin_11 : decode cX0_begin 11 = .ok (.new 20, 3) := by decide +kernel
theorem dX0_begin_14 : decode cX0_begin 14 = .ok (.dup, 1) := by decide +kernel
theorem dX0_begin_15 : decode cX0_begin 15 = .ok (.ldc 22, 2) := by decide +kernel
theorem dX0_begin_17 : decode cX0_begin 17 = .ok (.invokespecial 24, 3) := by decide +kernel
theorem dX0_begin_20 : decode cX0_begin 20 = .ok (.athrow, 1) := by decide +kernel
theorem dX0_begin_21 : decode cX0_begin 21 = .ok (.iconst 0, 1) := by decide +kernel
theorem dX0_begin_22 : decode cX0_begin 22 = .ok (.istore_n 2, 1) := by decide +kernel
theorem dX0_begin_23 : decode cX0_begin 23 = .ok (.iload_n 2, 1) := by decide +kernel
theorem dX0_begin_24 : decode cX0_begin 24 = .ok (.bipush 8, 2) := by decide +kernel
theorem dX0_begin_26 : decode cX0_begin 26 = .ok (.if_icmp .ge 16, 3) := by decide +kernel
theorem dX0_begin_29 : decode cX0_begin 29 = .ok (.aload_n 0, 1) := by decide +kernel
theorem dX0_begin_30 : decode cX0_begin 30 = .ok (.getfield 9, 3) := by decide +kernel
theorem dX0_begin_33 : decode cX0_begin 33 = .ok (.iload_n 2, 1) := by decide +kernel
theorem dX0_begin_34 : decode cX0_begin 34 = .ok (.iconst 0, 1) := by decide +kernel
theorem dX0_begin_35 : decode cX0_begin 35 = .ok (.iastore, 1) := by decide +kernel
theorem dX0_begin_36 : decode cX0_begin 36 = .ok (.iinc 2 1, 3) := by decide +kernel
theorem dX0_begin_39 : decode cX0_begin 39 = .ok (.goto (-16), 3) := by decide +kernel
theorem dX0_begin_42 : decode cX0_begin 42 = .ok (.aload_n 0, 1) := by decide +kernel
theorem dX0_begin_43 : decode cX0_begin 43 = .ok (.iload_n 1, 1) := by decide +kernel
theorem dX0_begin_44 : decode cX0_begin 44 = .ok (.putfield 13, 3) := by decide +kernel
theorem dX0_begin_47 : decode cX0_begin 47 = .ok (.aload_n 0, 1) := by decide +kernel
theorem dX0_begin_48 : decode cX0_begin 48 = .ok (.iconst 0, 1) := by decide +kernel
theorem dX0_begin_49 : decode cX0_begin 49 = .ok (.putfield 17, 3) := by decide +kernel
theorem dX0_begin_52 : decode cX0_begin 52 = .ok (.return_, 1) := by decide +kernel
theorem dX0_weight_0 : decode cX0_weight 0 = .ok (.aload_n 0, 1) := by decide +kernel
theorem dX0_weight_1 : decode cX0_weight 1 = .ok (.iload_n 1, 1) := by decide +kernel
theorem dX0_weight_2 : decode cX0_weight 2 = .ok (.invokevirtual 27, 3) := by decide +kernel
theorem dX0_weight_5 : decode cX0_weight 5 = .ok (.iload_n 2, 1) := by decide +kernel
theorem dX0_weight_6 : decode cX0_weight 6 = .ok (.ifCond .lt 9, 3) := by decide +kernel
theorem dX0_weight_9 : decode cX0_weight 9 = .ok (.iload_n 2, 1) := by decide +kernel
theorem dX0_weight_10 : decode cX0_weight 10 = .ok (.ldc 31, 2) := by decide +kernel
theorem dX0_weight_12 : decode cX0_weight 12 = .ok (.if_icmp .le 13, 3) := by decide +kernel
theorem dX0_weight_15 : decode cX0_weight 15 = .ok (.new 20, 3) := by decide +kernel
theorem dX0_weight_18 : decode cX0_weight 18 = .ok (.dup, 1) := by decide +kernel
theorem dX0_weight_19 : decode cX0_weight 19 = .ok (.ldc 32, 2) := by decide +kernel
theorem dX0_weight_21 : decode cX0_weight 21 = .ok (.invokespecial 24, 3) := by decide +kernel
theorem dX0_weight_24 : decode cX0_weight 24 = .ok (.athrow, 1) := by decide +kernel
theorem dX0_weight_25 : decode cX0_weight 25 = .ok (.aload_n 0, 1) := by decide +kernel
theorem dX0_weight_26 : decode cX0_weight 26 = .ok (.getfield 9, 3) := by decide +kernel
theorem dX0_weight_29 : decode cX0_weight 29 = .ok (.iload_n 1, 1) := by decide +kernel
theorem dX0_weight_30 : decode cX0_weight 30 = .ok (.iaload, 1) := by decide +kernel
theorem dX0_weight_31 : decode cX0_weight 31 = .ok (.istore_n 3, 1) := by decide +kernel
theorem dX0_weight_32 : decode cX0_weight 32 = .ok (.aload_n 0, 1) := by decide +kernel
theorem dX0_weight_33 : decode cX0_weight 33 = .ok (.getfield 9, 3) := by decide +kernel
theorem dX0_weight_36 : decode cX0_weight 36 = .ok (.iload_n 1, 1) := by decide +kernel
theorem dX0_weight_37 : decode cX0_weight 37 = .ok (.iload_n 2, 1) := by decide +kernel
theorem dX0_weight_38 : decode cX0_weight 38 = .ok (.iastore, 1) := by decide +kernel
theorem dX0_weight_39 : decode cX0_weight 39 = .ok (.aload_n 0, 1) := by decide +kernel
theorem dX0_weight_40 : decode cX0_weight 40 = .ok (.dup, 1) := by decide +kernel
theorem dX0_weight_41 : decode cX0_weight 41 = .ok (.getfield 17, 3) := by decide +kernel
theorem dX0_weight_44 : decode cX0_weight 44 = .ok (.iload_n 2, 1) := by decide +kernel
theorem dX0_weight_45 : decode cX0_weight 45 = .ok (.iload_n 3, 1) := by decide +kernel
theorem dX0_weight_46 : decode cX0_weight 46 = .ok (.isub, 1) := by decide +kernel
theorem dX0_weight_47 : decode cX0_weight 47 = .ok (.iadd, 1) := by decide +kernel
theorem dX0_weight_48 : decode cX0_weight 48 = .ok (.putfield 17, 3) := by decide +kernel
theorem dX0_weight_51 : decode cX0_weight 51 = .ok (.iload_n 3, 1) := by decide +kernel
theorem dX0_weight_52 : decode cX0_weight 52 = .ok (.ireturn, 1) := by decide +kernel
theorem dX0_share_0 : decode cX0_share 0 = .ok (.iload_n 1, 1) := by decide +kernel
theorem dX0_share_1 : decode cX0_share 1 = .ok (.invokestatic 34, 3) := by decide +kernel
theorem dX0_share_4 : decode cX0_share 4 = .ok (.iload_n 2, 1) := by decide +kernel
theorem dX0_share_5 : decode cX0_share 5 = .ok (.sipush 10000, 3) := by decide +kernel
theorem dX0_share_8 : decode cX0_share 8 = .ok (.invokestatic 37, 3) := by decide +kernel
theorem dX0_share_11 : decode cX0_share 11 = .ok (.aload_n 0, 1) := by decide +kernel
theorem dX0_share_12 : decode cX0_share 12 = .ok (.iload_n 3, 1) := by decide +kernel
theorem dX0_share_13 : decode cX0_share 13 = .ok (.invokevirtual 27, 3) := by decide +kernel
theorem dX0_share_16 : decode cX0_share 16 = .ok (.aload_n 0, 1) := by decide +kernel
theorem dX0_share_17 : decode cX0_share 17 = .ok (.invokevirtual 41, 3) := by decide +kernel
theorem dX0_share_20 : decode cX0_share 20 = .ok (.aload_n 0, 1) := by decide +kernel
theorem dX0_share_21 : decode cX0_share 21 = .ok (.iload_n 1, 1) := by decide +kernel
theorem dX0_share_22 : decode cX0_share 22 = .ok (.iload_n 2, 1) := by decide +kernel
theorem dX0_share_23 : decode cX0_share 23 = .ok (.iload_n 3, 1) := by decide +kernel
theorem dX0_share_24 : decode cX0_share 24 = .ok (.invokevirtual 44, 3) := by decide +kernel
theorem dX0_share_27 : decode cX0_share 27 = .ok (.ireturn, 1) := by decide +kernel
theorem dX0_over_0 : decode cX0_over 0 = .ok (.iload_n 1, 1) := by decide +kernel
theorem dX0_over_1 : decode cX0_over 1 = .ok (.invokestatic 34, 3) := by decide +kernel
theorem dX0_over_4 : decode cX0_over 4 = .ok (.iload_n 2, 1) := by decide +kernel
theorem dX0_over_5 : decode cX0_over 5 = .ok (.sipush 10000, 3) := by decide +kernel
theorem dX0_over_8 : decode cX0_over 8 = .ok (.invokestatic 37, 3) := by decide +kernel
theorem dX0_over_11 : decode cX0_over 11 = .ok (.aload_n 0, 1) := by decide +kernel
theorem dX0_over_12 : decode cX0_over 12 = .ok (.iload_n 3, 1) := by decide +kernel
theorem dX0_over_13 : decode cX0_over 13 = .ok (.invokevirtual 27, 3) := by decide +kernel
theorem dX0_over_16 : decode cX0_over 16 = .ok (.aload_n 0, 1) := by decide +kernel
theorem dX0_over_17 : decode cX0_over 17 = .ok (.invokevirtual 41, 3) := by decide +kernel
theorem dX0_over_20 : decode cX0_over 20 = .ok (.aload_n 0, 1) := by decide +kernel
theorem dX0_over_21 : decode cX0_over 21 = .ok (.iload_n 1, 1) := by decide +kernel
theorem dX0_over_22 : decode cX0_over 22 = .ok (.iload_n 2, 1) := by decide +kernel
theorem dX0_over_23 : decode cX0_over 23 = .ok (.iload_n 3, 1) := by decide +kernel
theorem dX0_over_24 : decode cX0_over 24 = .ok (.invokevirtual 44, 3) := by decide +kernel
theorem dX0_over_27 : decode cX0_over 27 = .ok (.i2l, 1) := by decide +kernel
theorem dX0_over_28 : decode cX0_over 28 = .ok (.aload_n 0, 1) := by decide +kernel
theorem dX0_over_29 : decode cX0_over 29 = .ok (.getfield 17, 3) := by decide +kernel
theorem dX0_over_32 : decode cX0_over 32 = .ok (.i2l, 1) := by decide +kernel
theorem dX0_over_33 : decode cX0_over 33 = .ok (.lmul, 1) := by decide +kernel
theorem dX0_over_34 : decode cX0_over 34 = .ok (.iload_n 2, 1) := by decide +kernel
theorem dX0_over_35 : decode cX0_over 35 = .ok (.i2l, 1) := by decide +kernel
theorem dX0_over_36 : decode cX0_over 36 = .ok (.aload_n 0, 1) := by decide +kernel
theorem dX0_over_37 : decode cX0_over 37 = .ok (.getfield 9, 3) := by decide +kernel
theorem dX0_over_40 : decode cX0_over 40 = .ok (.iload_n 3, 1) := by decide +kernel
theorem dX0_over_41 : decode cX0_over 41 = .ok (.iaload, 1) := by decide +kernel
theorem dX0_over_42 : decode cX0_over 42 = .ok (.i2l, 1) := by decide +kernel
theorem dX0_over_43 : decode cX0_over 43 = .ok (.lmul, 1) := by decide +kernel
theorem dX0_over_44 : decode cX0_over 44 = .ok (.lsub, 1) := by decide +kernel
theorem dX0_over_45 : decode cX0_over 45 = .ok (.lreturn, 1) := by decide +kernel
theorem dX0_next_0 : decode cX0_next 0 = .ok (.iload_n 1, 1) := by decide +kernel
theorem dX0_next_1 : decode cX0_next 1 = .ok (.invokestatic 34, 3) := by decide +kernel
theorem dX0_next_4 : decode cX0_next 4 = .ok (.iload_n 2, 1) := by decide +kernel
theorem dX0_next_5 : decode cX0_next 5 = .ok (.sipush 9999, 3) := by decide +kernel
theorem dX0_next_8 : decode cX0_next 8 = .ok (.invokestatic 37, 3) := by decide +kernel
theorem dX0_next_11 : decode cX0_next 11 = .ok (.aload_n 0, 1) := by decide +kernel
theorem dX0_next_12 : decode cX0_next 12 = .ok (.invokevirtual 41, 3) := by decide +kernel
theorem dX0_next_15 : decode cX0_next 15 = .ok (.iconst (-1), 1) := by decide +kernel
theorem dX0_next_16 : decode cX0_next 16 = .ok (.istore_n 3, 1) := by decide +kernel
theorem dX0_next_17 : decode cX0_next 17 = .ok (.iconst 0, 1) := by decide +kernel
theorem dX0_next_18 : decode cX0_next 18 = .ok (.istore 4, 2) := by decide +kernel
theorem dX0_next_20 : decode cX0_next 20 = .ok (.iload 4, 2) := by decide +kernel
theorem dX0_next_22 : decode cX0_next 22 = .ok (.aload_n 0, 1) := by decide +kernel
theorem dX0_next_23 : decode cX0_next 23 = .ok (.getfield 13, 3) := by decide +kernel
theorem dX0_next_26 : decode cX0_next 26 = .ok (.if_icmp .ge 39, 3) := by decide +kernel
theorem dX0_next_29 : decode cX0_next 29 = .ok (.aload_n 0, 1) := by decide +kernel
theorem dX0_next_30 : decode cX0_next 30 = .ok (.iload_n 1, 1) := by decide +kernel
theorem dX0_next_31 : decode cX0_next 31 = .ok (.iload_n 2, 1) := by decide +kernel
theorem dX0_next_32 : decode cX0_next 32 = .ok (.iconst 1, 1) := by decide +kernel
theorem dX0_next_33 : decode cX0_next 33 = .ok (.iadd, 1) := by decide +kernel
theorem dX0_next_34 : decode cX0_next 34 = .ok (.iload 4, 2) := by decide +kernel
theorem dX0_next_36 : decode cX0_next 36 = .ok (.invokevirtual 44, 3) := by decide +kernel
theorem dX0_next_39 : decode cX0_next 39 = .ok (.aload_n 0, 1) := by decide +kernel
theorem dX0_next_40 : decode cX0_next 40 = .ok (.iload_n 1, 1) := by decide +kernel
theorem dX0_next_41 : decode cX0_next 41 = .ok (.iload_n 2, 1) := by decide +kernel
theorem dX0_next_42 : decode cX0_next 42 = .ok (.iload 4, 2) := by decide +kernel
theorem dX0_next_44 : decode cX0_next 44 = .ok (.invokevirtual 44, 3) := by decide +kernel
theorem dX0_next_47 : decode cX0_next 47 = .ok (.if_icmp .eq 12, 3) := by decide +kernel
theorem dX0_next_50 : decode cX0_next 50 = .ok (.iload_n 3, 1) := by decide +kernel
theorem dX0_next_51 : decode cX0_next 51 = .ok (.ifCond .lt 5, 3) := by decide +kernel
theorem dX0_next_54 : decode cX0_next 54 = .ok (.iconst (-1), 1) := by decide +kernel
theorem dX0_next_55 : decode cX0_next 55 = .ok (.ireturn, 1) := by decide +kernel
theorem dX0_next_56 : decode cX0_next 56 = .ok (.iload 4, 2) := by decide +kernel
theorem dX0_next_58 : decode cX0_next 58 = .ok (.istore_n 3, 1) := by decide +kernel
theorem dX0_next_59 : decode cX0_next 59 = .ok (.iinc 4 1, 3) := by decide +kernel
theorem dX0_next_62 : decode cX0_next 62 = .ok (.goto (-42), 3) := by decide +kernel
theorem dX0_next_65 : decode cX0_next 65 = .ok (.iload_n 3, 1) := by decide +kernel
theorem dX0_next_66 : decode cX0_next 66 = .ok (.ireturn, 1) := by decide +kernel
theorem dX0_least_0 : decode cX0_least 0 = .ok (.iload_n 1, 1) := by decide +kernel
theorem dX0_least_1 : decode cX0_least 1 = .ok (.invokestatic 34, 3) := by decide +kernel
theorem dX0_least_4 : decode cX0_least 4 = .ok (.aload_n 0, 1) := by decide +kernel
theorem dX0_least_5 : decode cX0_least 5 = .ok (.iload_n 3, 1) := by decide +kernel
theorem dX0_least_6 : decode cX0_least 6 = .ok (.invokevirtual 27, 3) := by decide +kernel
theorem dX0_least_9 : decode cX0_least 9 = .ok (.iload_n 2, 1) := by decide +kernel
theorem dX0_least_10 : decode cX0_least 10 = .ok (.ifCond .ge 13, 3) := by decide +kernel
theorem dX0_least_13 : decode cX0_least 13 = .ok (.new 20, 3) := by decide +kernel
theorem dX0_least_16 : decode cX0_least 16 = .ok (.dup, 1) := by decide +kernel
theorem dX0_least_17 : decode cX0_least 17 = .ok (.ldc 48, 2) := by decide +kernel
theorem dX0_least_19 : decode cX0_least 19 = .ok (.invokespecial 24, 3) := by decide +kernel
theorem dX0_least_22 : decode cX0_least 22 = .ok (.athrow, 1) := by decide +kernel
theorem dX0_least_23 : decode cX0_least 23 = .ok (.aload_n 0, 1) := by decide +kernel
theorem dX0_least_24 : decode cX0_least 24 = .ok (.invokevirtual 41, 3) := by decide +kernel
theorem dX0_least_27 : decode cX0_least 27 = .ok (.iload_n 2, 1) := by decide +kernel
theorem dX0_least_28 : decode cX0_least 28 = .ok (.ifCond .ne 5, 3) := by decide +kernel
theorem dX0_least_31 : decode cX0_least 31 = .ok (.iconst 0, 1) := by decide +kernel
theorem dX0_least_32 : decode cX0_least 32 = .ok (.ireturn, 1) := by decide +kernel
theorem dX0_least_33 : decode cX0_least 33 = .ok (.iload_n 2, 1) := by decide +kernel
theorem dX0_least_34 : decode cX0_least 34 = .ok (.sipush 10000, 3) := by decide +kernel
theorem dX0_least_37 : decode cX0_least 37 = .ok (.if_icmp .gt 12, 3) := by decide +kernel
theorem dX0_least_40 : decode cX0_least 40 = .ok (.aload_n 0, 1) := by decide +kernel
theorem dX0_least_41 : decode cX0_least 41 = .ok (.getfield 9, 3) := by decide +kernel
theorem dX0_least_44 : decode cX0_least 44 = .ok (.iload_n 3, 1) := by decide +kernel
theorem dX0_least_45 : decode cX0_least 45 = .ok (.iaload, 1) := by decide +kernel
theorem dX0_least_46 : decode cX0_least 46 = .ok (.ifCond .ne 5, 3) := by decide +kernel
theorem dX0_least_49 : decode cX0_least 49 = .ok (.iconst (-1), 1) := by decide +kernel
theorem dX0_least_50 : decode cX0_least 50 = .ok (.ireturn, 1) := by decide +kernel
theorem dX0_least_51 : decode cX0_least 51 = .ok (.iload_n 1, 1) := by decide +kernel
theorem dX0_least_52 : decode cX0_least 52 = .ok (.ifCond .ne 10, 3) := by decide +kernel
theorem dX0_least_55 : decode cX0_least 55 = .ok (.aload_n 0, 1) := by decide +kernel
theorem dX0_least_56 : decode cX0_least 56 = .ok (.iload_n 2, 1) := by decide +kernel
theorem dX0_least_57 : decode cX0_least 57 = .ok (.iload_n 3, 1) := by decide +kernel
theorem dX0_least_58 : decode cX0_least 58 = .ok (.invokevirtual 50, 3) := by decide +kernel
theorem dX0_least_61 : decode cX0_least 61 = .ok (.ireturn, 1) := by decide +kernel
theorem dX0_least_62 : decode cX0_least 62 = .ok (.aload_n 0, 1) := by decide +kernel
theorem dX0_least_63 : decode cX0_least 63 = .ok (.iload_n 1, 1) := by decide +kernel
theorem dX0_least_64 : decode cX0_least 64 = .ok (.iload_n 2, 1) := by decide +kernel
theorem dX0_least_65 : decode cX0_least 65 = .ok (.iload_n 3, 1) := by decide +kernel
theorem dX0_least_66 : decode cX0_least 66 = .ok (.invokevirtual 54, 3) := by decide +kernel
theorem dX0_least_69 : decode cX0_least 69 = .ok (.lstore 4, 2) := by decide +kernel
theorem dX0_least_71 : decode cX0_least 71 = .ok (.lload 4, 2) := by decide +kernel
theorem dX0_least_73 : decode cX0_least 73 = .ok (.ldc2_w 58, 3) := by decide +kernel
theorem dX0_least_76 : decode cX0_least 76 = .ok (.lcmp, 1) := by decide +kernel
theorem dX0_least_77 : decode cX0_least 77 = .ok (.ifCond .gt 9, 3) := by decide +kernel
theorem dX0_least_80 : decode cX0_least 80 = .ok (.lload 4, 2) := by decide +kernel
theorem dX0_least_82 : decode cX0_least 82 = .ok (.l2i, 1) := by decide +kernel
theorem dX0_least_83 : decode cX0_least 83 = .ok (.goto 4, 3) := by decide +kernel
theorem dX0_least_86 : decode cX0_least 86 = .ok (.iconst (-1), 1) := by decide +kernel
theorem dX0_least_87 : decode cX0_least 87 = .ok (.ireturn, 1) := by decide +kernel
theorem dX0_count_0 : decode cX0_count 0 = .ok (.iload_n 1, 1) := by decide +kernel
theorem dX0_count_1 : decode cX0_count 1 = .ok (.tableswitch 42 0 2 #[27, 32, 37], 27) := by decide +kernel
theorem dX0_count_28 : decode cX0_count 28 = .ok (.aload_n 0, 1) := by decide +kernel
theorem dX0_count_29 : decode cX0_count 29 = .ok (.getfield 13, 3) := by decide +kernel
theorem dX0_count_32 : decode cX0_count 32 = .ok (.ireturn, 1) := by decide +kernel
theorem dX0_count_33 : decode cX0_count 33 = .ok (.aload_n 0, 1) := by decide +kernel
theorem dX0_count_34 : decode cX0_count 34 = .ok (.getfield 17, 3) := by decide +kernel
theorem dX0_count_37 : decode cX0_count 37 = .ok (.ireturn, 1) := by decide +kernel
theorem dX0_count_38 : decode cX0_count 38 = .ok (.aload_n 0, 1) := by decide +kernel
theorem dX0_count_39 : decode cX0_count 39 = .ok (.invokevirtual 60, 3) := by decide +kernel
theorem dX0_count_42 : decode cX0_count 42 = .ok (.ireturn, 1) := by decide +kernel
theorem dX0_count_43 : decode cX0_count 43 = .ok (.new 20, 3) := by decide +kernel
theorem dX0_count_46 : decode cX0_count 46 = .ok (.dup, 1) := by decide +kernel
theorem dX0_count_47 : decode cX0_count 47 = .ok (.ldc 64, 2) := by decide +kernel
theorem dX0_count_49 : decode cX0_count 49 = .ok (.invokespecial 24, 3) := by decide +kernel
theorem dX0_count_52 : decode cX0_count 52 = .ok (.athrow, 1) := by decide +kernel
theorem dX0_checkWay_0 : decode cX0_checkWay 0 = .ok (.iload_n 0, 1) := by decide +kernel
theorem dX0_checkWay_1 : decode cX0_checkWay 1 = .ok (.ifCond .lt 8, 3) := by decide +kernel
theorem dX0_checkWay_4 : decode cX0_checkWay 4 = .ok (.iload_n 0, 1) := by decide +kernel
theorem dX0_checkWay_5 : decode cX0_checkWay 5 = .ok (.iconst 2, 1) := by decide +kernel
theorem dX0_checkWay_6 : decode cX0_checkWay 6 = .ok (.if_icmp .le 13, 3) := by decide +kernel
theorem dX0_checkWay_9 : decode cX0_checkWay 9 = .ok (.new 20, 3) := by decide +kernel
theorem dX0_checkWay_12 : decode cX0_checkWay 12 = .ok (.dup, 1) := by decide +kernel
theorem dX0_checkWay_13 : decode cX0_checkWay 13 = .ok (.ldc 66, 2) := by decide +kernel
theorem dX0_checkWay_15 : decode cX0_checkWay 15 = .ok (.invokespecial 24, 3) := by decide +kernel
theorem dX0_checkWay_18 : decode cX0_checkWay 18 = .ok (.athrow, 1) := by decide +kernel
theorem dX0_checkWay_19 : decode cX0_checkWay 19 = .ok (.return_, 1) := by decide +kernel
theorem dX0_checkUnits_0 : decode cX0_checkUnits 0 = .ok (.iload_n 0, 1) := by decide +kernel
theorem dX0_checkUnits_1 : decode cX0_checkUnits 1 = .ok (.ifCond .lt 8, 3) := by decide +kernel
theorem dX0_checkUnits_4 : decode cX0_checkUnits 4 = .ok (.iload_n 0, 1) := by decide +kernel
theorem dX0_checkUnits_5 : decode cX0_checkUnits 5 = .ok (.iload_n 1, 1) := by decide +kernel
theorem dX0_checkUnits_6 : decode cX0_checkUnits 6 = .ok (.if_icmp .le 13, 3) := by decide +kernel
theorem dX0_checkUnits_9 : decode cX0_checkUnits 9 = .ok (.new 20, 3) := by decide +kernel
theorem dX0_checkUnits_12 : decode cX0_checkUnits 12 = .ok (.dup, 1) := by decide +kernel
theorem dX0_checkUnits_13 : decode cX0_checkUnits 13 = .ok (.ldc 68, 2) := by decide +kernel
theorem dX0_checkUnits_15 : decode cX0_checkUnits 15 = .ok (.invokespecial 24, 3) := by decide +kernel
theorem dX0_checkUnits_18 : decode cX0_checkUnits 18 = .ok (.athrow, 1) := by decide +kernel
theorem dX0_checkUnits_19 : decode cX0_checkUnits 19 = .ok (.return_, 1) := by decide +kernel
theorem dX0_checkParty_0 : decode cX0_checkParty 0 = .ok (.iload_n 1, 1) := by decide +kernel
theorem dX0_checkParty_1 : decode cX0_checkParty 1 = .ok (.ifCond .lt 11, 3) := by decide +kernel
theorem dX0_checkParty_4 : decode cX0_checkParty 4 = .ok (.iload_n 1, 1) := by decide +kernel
theorem dX0_checkParty_5 : decode cX0_checkParty 5 = .ok (.aload_n 0, 1) := by decide +kernel
theorem dX0_checkParty_6 : decode cX0_checkParty 6 = .ok (.getfield 13, 3) := by decide +kernel
theorem dX0_checkParty_9 : decode cX0_checkParty 9 = .ok (.if_icmp .lt 13, 3) := by decide +kernel
theorem dX0_checkParty_12 : decode cX0_checkParty 12 = .ok (.new 20, 3) := by decide +kernel
theorem dX0_checkParty_15 : decode cX0_checkParty 15 = .ok (.dup, 1) := by decide +kernel
theorem dX0_checkParty_16 : decode cX0_checkParty 16 = .ok (.ldc 70, 2) := by decide +kernel
theorem dX0_checkParty_18 : decode cX0_checkParty 18 = .ok (.invokespecial 24, 3) := by decide +kernel
theorem dX0_checkParty_21 : decode cX0_checkParty 21 = .ok (.athrow, 1) := by decide +kernel
theorem dX0_checkParty_22 : decode cX0_checkParty 22 = .ok (.return_, 1) := by decide +kernel
theorem dX0_checkTotal_0 : decode cX0_checkTotal 0 = .ok (.aload_n 0, 1) := by decide +kernel
theorem dX0_checkTotal_1 : decode cX0_checkTotal 1 = .ok (.getfield 17, 3) := by decide +kernel
theorem dX0_checkTotal_4 : decode cX0_checkTotal 4 = .ok (.ifCond .ne 13, 3) := by decide +kernel
theorem dX0_checkTotal_7 : decode cX0_checkTotal 7 = .ok (.new 72, 3) := by decide +kernel
theorem dX0_checkTotal_10 : decode cX0_checkTotal 10 = .ok (.dup, 1) := by decide +kernel
theorem dX0_checkTotal_11 : decode cX0_checkTotal 11 = .ok (.ldc 74, 2) := by decide +kernel
theorem dX0_checkTotal_13 : decode cX0_checkTotal 13 = .ok (.invokespecial 76, 3) := by decide +kernel
theorem dX0_checkTotal_16 : decode cX0_checkTotal 16 = .ok (.athrow, 1) := by decide +kernel
theorem dX0_checkTotal_17 : decode cX0_checkTotal 17 = .ok (.return_, 1) := by decide +kernel
theorem dX0_partiesWithWeight_0 : decode cX0_partiesWithWeight 0 = .ok (.iconst 0, 1) := by decide +kernel
theorem dX0_partiesWithWeight_1 : decode cX0_partiesWithWeight 1 = .ok (.istore_n 1, 1) := by decide +kernel
theorem dX0_partiesWithWeight_2 : decode cX0_partiesWithWeight 2 = .ok (.iconst 0, 1) := by decide +kernel
theorem dX0_partiesWithWeight_3 : decode cX0_partiesWithWeight 3 = .ok (.istore_n 2, 1) := by decide +kernel
theorem dX0_partiesWithWeight_4 : decode cX0_partiesWithWeight 4 = .ok (.iload_n 2, 1) := by decide +kernel
theorem dX0_partiesWithWeight_5 : decode cX0_partiesWithWeight 5 = .ok (.aload_n 0, 1) := by decide +kernel
theorem dX0_partiesWithWeight_6 : decode cX0_partiesWithWeight 6 = .ok (.getfield 13, 3) := by decide +kernel
theorem dX0_partiesWithWeight_9 : decode cX0_partiesWithWeight 9 = .ok (.if_icmp .ge 21, 3) := by decide +kernel
theorem dX0_partiesWithWeight_12 : decode cX0_partiesWithWeight 12 = .ok (.aload_n 0, 1) := by decide +kernel
theorem dX0_partiesWithWeight_13 : decode cX0_partiesWithWeight 13 = .ok (.getfield 9, 3) := by decide +kernel
theorem dX0_partiesWithWeight_16 : decode cX0_partiesWithWeight 16 = .ok (.iload_n 2, 1) := by decide +kernel
theorem dX0_partiesWithWeight_17 : decode cX0_partiesWithWeight 17 = .ok (.iaload, 1) := by decide +kernel
theorem dX0_partiesWithWeight_18 : decode cX0_partiesWithWeight 18 = .ok (.ifCond .eq 6, 3) := by decide +kernel
theorem dX0_partiesWithWeight_21 : decode cX0_partiesWithWeight 21 = .ok (.iinc 1 1, 3) := by decide +kernel
theorem dX0_partiesWithWeight_24 : decode cX0_partiesWithWeight 24 = .ok (.iinc 2 1, 3) := by decide +kernel
theorem dX0_partiesWithWeight_27 : decode cX0_partiesWithWeight 27 = .ok (.goto (-23), 3) := by decide +kernel
theorem dX0_partiesWithWeight_30 : decode cX0_partiesWithWeight 30 = .ok (.iload_n 1, 1) := by decide +kernel
theorem dX0_partiesWithWeight_31 : decode cX0_partiesWithWeight 31 = .ok (.ireturn, 1) := by decide +kernel
theorem dX0_unitsOf_0 : decode cX0_unitsOf 0 = .ok (.iload_n 1, 1) := by decide +kernel
theorem dX0_unitsOf_1 : decode cX0_unitsOf 1 = .ok (.ifCond .ne 12, 3) := by decide +kernel
theorem dX0_unitsOf_4 : decode cX0_unitsOf 4 = .ok (.aload_n 0, 1) := by decide +kernel
theorem dX0_unitsOf_5 : decode cX0_unitsOf 5 = .ok (.iload_n 2, 1) := by decide +kernel
theorem dX0_unitsOf_6 : decode cX0_unitsOf 6 = .ok (.iload_n 3, 1) := by decide +kernel
theorem dX0_unitsOf_7 : decode cX0_unitsOf 7 = .ok (.invokevirtual 77, 3) := by decide +kernel
theorem dX0_unitsOf_10 : decode cX0_unitsOf 10 = .ok (.goto 10, 3) := by decide +kernel
theorem dX0_unitsOf_13 : decode cX0_unitsOf 13 = .ok (.aload_n 0, 1) := by decide +kernel
theorem dX0_unitsOf_14 : decode cX0_unitsOf 14 = .ok (.iload_n 1, 1) := by decide +kernel
theorem dX0_unitsOf_15 : decode cX0_unitsOf 15 = .ok (.iload_n 2, 1) := by decide +kernel
theorem dX0_unitsOf_16 : decode cX0_unitsOf 16 = .ok (.iload_n 3, 1) := by decide +kernel
theorem dX0_unitsOf_17 : decode cX0_unitsOf 17 = .ok (.invokevirtual 80, 3) := by decide +kernel
theorem dX0_unitsOf_20 : decode cX0_unitsOf 20 = .ok (.ireturn, 1) := by decide +kernel
theorem dX0_unitsByRests_0 : decode cX0_unitsByRests 0 = .ok (.aload_n 0, 1) := by decide +kernel
theorem dX0_unitsByRests_1 : decode cX0_unitsByRests 1 = .ok (.iload_n 1, 1) := by decide +kernel
theorem dX0_unitsByRests_2 : decode cX0_unitsByRests 2 = .ok (.iload_n 2, 1) := by decide +kernel
theorem dX0_unitsByRests_3 : decode cX0_unitsByRests 3 = .ok (.invokevirtual 83, 3) := by decide +kernel
theorem dX0_unitsByRests_6 : decode cX0_unitsByRests 6 = .ok (.lstore_n 3, 1) := by decide +kernel
theorem dX0_unitsByRests_7 : decode cX0_unitsByRests 7 = .ok (.lconst 0, 1) := by decide +kernel
theorem dX0_unitsByRests_8 : decode cX0_unitsByRests 8 = .ok (.lstore 5, 2) := by decide +kernel
theorem dX0_unitsByRests_10 : decode cX0_unitsByRests 10 = .ok (.iconst 0, 1) := by decide +kernel
theorem dX0_unitsByRests_11 : decode cX0_unitsByRests 11 = .ok (.istore 7, 2) := by decide +kernel
theorem dX0_unitsByRests_13 : decode cX0_unitsByRests 13 = .ok (.iconst 0, 1) := by decide +kernel
theorem dX0_unitsByRests_14 : decode cX0_unitsByRests 14 = .ok (.istore 8, 2) := by decide +kernel
theorem dX0_unitsByRests_16 : decode cX0_unitsByRests 16 = .ok (.iload 8, 2) := by decide +kernel
theorem dX0_unitsByRests_18 : decode cX0_unitsByRests 18 = .ok (.aload_n 0, 1) := by decide +kernel
theorem dX0_unitsByRests_19 : decode cX0_unitsByRests 19 = .ok (.getfield 13, 3) := by decide +kernel
theorem dX0_unitsByRests_22 : decode cX0_unitsByRests 22 = .ok (.if_icmp .ge 48, 3) := by decide +kernel
theorem dX0_unitsByRests_25 : decode cX0_unitsByRests 25 = .ok (.aload_n 0, 1) := by decide +kernel
theorem dX0_unitsByRests_26 : decode cX0_unitsByRests 26 = .ok (.iload_n 1, 1) := by decide +kernel
theorem dX0_unitsByRests_27 : decode cX0_unitsByRests 27 = .ok (.iload 8, 2) := by decide +kernel
theorem dX0_unitsByRests_29 : decode cX0_unitsByRests 29 = .ok (.invokevirtual 83, 3) := by decide +kernel
theorem dX0_unitsByRests_32 : decode cX0_unitsByRests 32 = .ok (.lstore 9, 2) := by decide +kernel
theorem dX0_unitsByRests_34 : decode cX0_unitsByRests 34 = .ok (.lload 5, 2) := by decide +kernel
theorem dX0_unitsByRests_36 : decode cX0_unitsByRests 36 = .ok (.lload 9, 2) := by decide +kernel
theorem dX0_unitsByRests_38 : decode cX0_unitsByRests 38 = .ok (.ladd, 1) := by decide +kernel
theorem dX0_unitsByRests_39 : decode cX0_unitsByRests 39 = .ok (.lstore 5, 2) := by decide +kernel
theorem dX0_unitsByRests_41 : decode cX0_unitsByRests 41 = .ok (.lload 9, 2) := by decide +kernel
theorem dX0_unitsByRests_43 : decode cX0_unitsByRests 43 = .ok (.lload_n 3, 1) := by decide +kernel
theorem dX0_unitsByRests_44 : decode cX0_unitsByRests 44 = .ok (.lcmp, 1) := by decide +kernel
theorem dX0_unitsByRests_45 : decode cX0_unitsByRests 45 = .ok (.ifCond .gt 16, 3) := by decide +kernel
theorem dX0_unitsByRests_48 : decode cX0_unitsByRests 48 = .ok (.lload 9, 2) := by decide +kernel
theorem dX0_unitsByRests_50 : decode cX0_unitsByRests 50 = .ok (.lload_n 3, 1) := by decide +kernel
theorem dX0_unitsByRests_51 : decode cX0_unitsByRests 51 = .ok (.lcmp, 1) := by decide +kernel
theorem dX0_unitsByRests_52 : decode cX0_unitsByRests 52 = .ok (.ifCond .ne 12, 3) := by decide +kernel
theorem dX0_unitsByRests_55 : decode cX0_unitsByRests 55 = .ok (.iload 8, 2) := by decide +kernel
theorem dX0_unitsByRests_57 : decode cX0_unitsByRests 57 = .ok (.iload_n 2, 1) := by decide +kernel
theorem dX0_unitsByRests_58 : decode cX0_unitsByRests 58 = .ok (.if_icmp .ge 6, 3) := by decide +kernel
theorem dX0_unitsByRests_61 : decode cX0_unitsByRests 61 = .ok (.iinc 7 1, 3) := by decide +kernel
theorem dX0_unitsByRests_64 : decode cX0_unitsByRests 64 = .ok (.iinc 8 1, 3) := by decide +kernel
theorem dX0_unitsByRests_67 : decode cX0_unitsByRests 67 = .ok (.goto (-51), 3) := by decide +kernel
theorem dX0_unitsByRests_70 : decode cX0_unitsByRests 70 = .ok (.iload_n 1, 1) := by decide +kernel
theorem dX0_unitsByRests_71 : decode cX0_unitsByRests 71 = .ok (.i2l, 1) := by decide +kernel
theorem dX0_unitsByRests_72 : decode cX0_unitsByRests 72 = .ok (.aload_n 0, 1) := by decide +kernel
theorem dX0_unitsByRests_73 : decode cX0_unitsByRests 73 = .ok (.getfield 9, 3) := by decide +kernel
theorem dX0_unitsByRests_76 : decode cX0_unitsByRests 76 = .ok (.iload_n 2, 1) := by decide +kernel
theorem dX0_unitsByRests_77 : decode cX0_unitsByRests 77 = .ok (.iaload, 1) := by decide +kernel
theorem dX0_unitsByRests_78 : decode cX0_unitsByRests 78 = .ok (.i2l, 1) := by decide +kernel
theorem dX0_unitsByRests_79 : decode cX0_unitsByRests 79 = .ok (.lmul, 1) := by decide +kernel
theorem dX0_unitsByRests_80 : decode cX0_unitsByRests 80 = .ok (.aload_n 0, 1) := by decide +kernel
theorem dX0_unitsByRests_81 : decode cX0_unitsByRests 81 = .ok (.getfield 17, 3) := by decide +kernel
theorem dX0_unitsByRests_84 : decode cX0_unitsByRests 84 = .ok (.i2l, 1) := by decide +kernel
theorem dX0_unitsByRests_85 : decode cX0_unitsByRests 85 = .ok (.ldiv, 1) := by decide +kernel
theorem dX0_unitsByRests_86 : decode cX0_unitsByRests 86 = .ok (.l2i, 1) := by decide +kernel
theorem dX0_unitsByRests_87 : decode cX0_unitsByRests 87 = .ok (.istore 8, 2) := by decide +kernel
theorem dX0_unitsByRests_89 : decode cX0_unitsByRests 89 = .ok (.iload 7, 2) := by decide +kernel
theorem dX0_unitsByRests_91 : decode cX0_unitsByRests 91 = .ok (.i2l, 1) := by decide +kernel
theorem dX0_unitsByRests_92 : decode cX0_unitsByRests 92 = .ok (.lload 5, 2) := by decide +kernel
theorem dX0_unitsByRests_94 : decode cX0_unitsByRests 94 = .ok (.aload_n 0, 1) := by decide +kernel
theorem dX0_unitsByRests_95 : decode cX0_unitsByRests 95 = .ok (.getfield 17, 3) := by decide +kernel
theorem dX0_unitsByRests_98 : decode cX0_unitsByRests 98 = .ok (.i2l, 1) := by decide +kernel
theorem dX0_unitsByRests_99 : decode cX0_unitsByRests 99 = .ok (.ldiv, 1) := by decide +kernel
theorem dX0_unitsByRests_100 : decode cX0_unitsByRests 100 = .ok (.lcmp, 1) := by decide +kernel
theorem dX0_unitsByRests_101 : decode cX0_unitsByRests 101 = .ok (.ifCond .ge 10, 3) := by decide +kernel
theorem dX0_unitsByRests_104 : decode cX0_unitsByRests 104 = .ok (.iload 8, 2) := by decide +kernel
theorem dX0_unitsByRests_106 : decode cX0_unitsByRests 106 = .ok (.iconst 1, 1) := by decide +kernel
theorem dX0_unitsByRests_107 : decode cX0_unitsByRests 107 = .ok (.iadd, 1) := by decide +kernel
theorem dX0_unitsByRests_108 : decode cX0_unitsByRests 108 = .ok (.goto 5, 3) := by decide +kernel
theorem dX0_unitsByRests_111 : decode cX0_unitsByRests 111 = .ok (.iload 8, 2) := by decide +kernel
theorem dX0_unitsByRests_113 : decode cX0_unitsByRests 113 = .ok (.ireturn, 1) := by decide +kernel
theorem dX0_restOf_0 : decode cX0_restOf 0 = .ok (.iload_n 1, 1) := by decide +kernel
theorem dX0_restOf_1 : decode cX0_restOf 1 = .ok (.i2l, 1) := by decide +kernel
theorem dX0_restOf_2 : decode cX0_restOf 2 = .ok (.aload_n 0, 1) := by decide +kernel
theorem dX0_restOf_3 : decode cX0_restOf 3 = .ok (.getfield 9, 3) := by decide +kernel
theorem dX0_restOf_6 : decode cX0_restOf 6 = .ok (.iload_n 2, 1) := by decide +kernel
theorem dX0_restOf_7 : decode cX0_restOf 7 = .ok (.iaload, 1) := by decide +kernel
theorem dX0_restOf_8 : decode cX0_restOf 8 = .ok (.i2l, 1) := by decide +kernel
theorem dX0_restOf_9 : decode cX0_restOf 9 = .ok (.lmul, 1) := by decide +kernel
theorem dX0_restOf_10 : decode cX0_restOf 10 = .ok (.aload_n 0, 1) := by decide +kernel
theorem dX0_restOf_11 : decode cX0_restOf 11 = .ok (.getfield 17, 3) := by decide +kernel
theorem dX0_restOf_14 : decode cX0_restOf 14 = .ok (.i2l, 1) := by decide +kernel
theorem dX0_restOf_15 : decode cX0_restOf 15 = .ok (.lrem, 1) := by decide +kernel
theorem dX0_restOf_16 : decode cX0_restOf 16 = .ok (.lreturn, 1) := by decide +kernel
theorem dX0_leastByRests_0 : decode cX0_leastByRests 0 = .ok (.iload_n 1, 1) := by decide +kernel
theorem dX0_leastByRests_1 : decode cX0_leastByRests 1 = .ok (.iconst 1, 1) := by decide +kernel
theorem dX0_leastByRests_2 : decode cX0_leastByRests 2 = .ok (.isub, 1) := by decide +kernel
theorem dX0_leastByRests_3 : decode cX0_leastByRests 3 = .ok (.i2l, 1) := by decide +kernel
theorem dX0_leastByRests_4 : decode cX0_leastByRests 4 = .ok (.aload_n 0, 1) := by decide +kernel
theorem dX0_leastByRests_5 : decode cX0_leastByRests 5 = .ok (.getfield 17, 3) := by decide +kernel
theorem dX0_leastByRests_8 : decode cX0_leastByRests 8 = .ok (.i2l, 1) := by decide +kernel
theorem dX0_leastByRests_9 : decode cX0_leastByRests 9 = .ok (.lmul, 1) := by decide +kernel
theorem dX0_leastByRests_10 : decode cX0_leastByRests 10 = .ok (.aload_n 0, 1) := by decide +kernel
theorem dX0_leastByRests_11 : decode cX0_leastByRests 11 = .ok (.getfield 9, 3) := by decide +kernel
theorem dX0_leastByRests_14 : decode cX0_leastByRests 14 = .ok (.iload_n 2, 1) := by decide +kernel
theorem dX0_leastByRests_15 : decode cX0_leastByRests 15 = .ok (.iaload, 1) := by decide +kernel
theorem dX0_leastByRests_16 : decode cX0_leastByRests 16 = .ok (.i2l, 1) := by decide +kernel
theorem dX0_leastByRests_17 : decode cX0_leastByRests 17 = .ok (.ldiv, 1) := by decide +kernel
theorem dX0_leastByRests_18 : decode cX0_leastByRests 18 = .ok (.lstore_n 3, 1) := by decide +kernel
theorem dX0_leastByRests_19 : decode cX0_leastByRests 19 = .ok (.lload_n 3, 1) := by decide +kernel
theorem dX0_leastByRests_20 : decode cX0_leastByRests 20 = .ok (.lstore 5, 2) := by decide +kernel
theorem dX0_leastByRests_22 : decode cX0_leastByRests 22 = .ok (.lload 5, 2) := by decide +kernel
theorem dX0_leastByRests_24 : decode cX0_leastByRests 24 = .ok (.ldc2_w 58, 3) := by decide +kernel
theorem dX0_leastByRests_27 : decode cX0_leastByRests 27 = .ok (.lcmp, 1) := by decide +kernel
theorem dX0_leastByRests_28 : decode cX0_leastByRests 28 = .ok (.ifCond .gt 28, 3) := by decide +kernel
theorem dX0_leastByRests_31 : decode cX0_leastByRests 31 = .ok (.aload_n 0, 1) := by decide +kernel
theorem dX0_leastByRests_32 : decode cX0_leastByRests 32 = .ok (.lload 5, 2) := by decide +kernel
theorem dX0_leastByRests_34 : decode cX0_leastByRests 34 = .ok (.l2i, 1) := by decide +kernel
theorem dX0_leastByRests_35 : decode cX0_leastByRests 35 = .ok (.iload_n 2, 1) := by decide +kernel
theorem dX0_leastByRests_36 : decode cX0_leastByRests 36 = .ok (.invokevirtual 77, 3) := by decide +kernel
theorem dX0_leastByRests_39 : decode cX0_leastByRests 39 = .ok (.iload_n 1, 1) := by decide +kernel
theorem dX0_leastByRests_40 : decode cX0_leastByRests 40 = .ok (.if_icmp .lt 7, 3) := by decide +kernel
theorem dX0_leastByRests_43 : decode cX0_leastByRests 43 = .ok (.lload 5, 2) := by decide +kernel
theorem dX0_leastByRests_45 : decode cX0_leastByRests 45 = .ok (.l2i, 1) := by decide +kernel
theorem dX0_leastByRests_46 : decode cX0_leastByRests 46 = .ok (.ireturn, 1) := by decide +kernel
theorem dX0_leastByRests_47 : decode cX0_leastByRests 47 = .ok (.lload 5, 2) := by decide +kernel
theorem dX0_leastByRests_49 : decode cX0_leastByRests 49 = .ok (.lconst 1, 1) := by decide +kernel
theorem dX0_leastByRests_50 : decode cX0_leastByRests 50 = .ok (.ladd, 1) := by decide +kernel
theorem dX0_leastByRests_51 : decode cX0_leastByRests 51 = .ok (.lstore 5, 2) := by decide +kernel
theorem dX0_leastByRests_53 : decode cX0_leastByRests 53 = .ok (.goto (-31), 3) := by decide +kernel
theorem dX0_leastByRests_56 : decode cX0_leastByRests 56 = .ok (.iconst (-1), 1) := by decide +kernel
theorem dX0_leastByRests_57 : decode cX0_leastByRests 57 = .ok (.ireturn, 1) := by decide +kernel
theorem dX0_unitsByTurns_0 : decode cX0_unitsByTurns 0 = .ok (.aload_n 0, 1) := by decide +kernel
theorem dX0_unitsByTurns_1 : decode cX0_unitsByTurns 1 = .ok (.getfield 9, 3) := by decide +kernel
theorem dX0_unitsByTurns_4 : decode cX0_unitsByTurns 4 = .ok (.iload_n 3, 1) := by decide +kernel
theorem dX0_unitsByTurns_5 : decode cX0_unitsByTurns 5 = .ok (.iaload, 1) := by decide +kernel
theorem dX0_unitsByTurns_6 : decode cX0_unitsByTurns 6 = .ok (.ifCond .ne 5, 3) := by decide +kernel
theorem dX0_unitsByTurns_9 : decode cX0_unitsByTurns 9 = .ok (.iconst 0, 1) := by decide +kernel
theorem dX0_unitsByTurns_10 : decode cX0_unitsByTurns 10 = .ok (.ireturn, 1) := by decide +kernel
theorem dX0_unitsByTurns_11 : decode cX0_unitsByTurns 11 = .ok (.iconst 0, 1) := by decide +kernel
theorem dX0_unitsByTurns_12 : decode cX0_unitsByTurns 12 = .ok (.istore 4, 2) := by decide +kernel
theorem dX0_unitsByTurns_14 : decode cX0_unitsByTurns 14 = .ok (.sipush 8192, 3) := by decide +kernel
theorem dX0_unitsByTurns_17 : decode cX0_unitsByTurns 17 = .ok (.istore 5, 2) := by decide +kernel
theorem dX0_unitsByTurns_19 : decode cX0_unitsByTurns 19 = .ok (.iload 5, 2) := by decide +kernel
theorem dX0_unitsByTurns_21 : decode cX0_unitsByTurns 21 = .ok (.ifCond .le 36, 3) := by decide +kernel
theorem dX0_unitsByTurns_24 : decode cX0_unitsByTurns 24 = .ok (.aload_n 0, 1) := by decide +kernel
theorem dX0_unitsByTurns_25 : decode cX0_unitsByTurns 25 = .ok (.iload_n 1, 1) := by decide +kernel
theorem dX0_unitsByTurns_26 : decode cX0_unitsByTurns 26 = .ok (.iload 4, 2) := by decide +kernel
theorem dX0_unitsByTurns_28 : decode cX0_unitsByTurns 28 = .ok (.iload 5, 2) := by decide +kernel
theorem dX0_unitsByTurns_30 : decode cX0_unitsByTurns 30 = .ok (.iadd, 1) := by decide +kernel
theorem dX0_unitsByTurns_31 : decode cX0_unitsByTurns 31 = .ok (.iload_n 3, 1) := by decide +kernel
theorem dX0_unitsByTurns_32 : decode cX0_unitsByTurns 32 = .ok (.invokevirtual 54, 3) := by decide +kernel
theorem dX0_unitsByTurns_35 : decode cX0_unitsByTurns 35 = .ok (.iload_n 2, 1) := by decide +kernel
theorem dX0_unitsByTurns_36 : decode cX0_unitsByTurns 36 = .ok (.i2l, 1) := by decide +kernel
theorem dX0_unitsByTurns_37 : decode cX0_unitsByTurns 37 = .ok (.lcmp, 1) := by decide +kernel
theorem dX0_unitsByTurns_38 : decode cX0_unitsByTurns 38 = .ok (.ifCond .gt 10, 3) := by decide +kernel
theorem dX0_unitsByTurns_41 : decode cX0_unitsByTurns 41 = .ok (.iload 4, 2) := by decide +kernel
theorem dX0_unitsByTurns_43 : decode cX0_unitsByTurns 43 = .ok (.iload 5, 2) := by decide +kernel
theorem dX0_unitsByTurns_45 : decode cX0_unitsByTurns 45 = .ok (.iadd, 1) := by decide +kernel
theorem dX0_unitsByTurns_46 : decode cX0_unitsByTurns 46 = .ok (.istore 4, 2) := by decide +kernel
theorem dX0_unitsByTurns_48 : decode cX0_unitsByTurns 48 = .ok (.iload 5, 2) := by decide +kernel
theorem dX0_unitsByTurns_50 : decode cX0_unitsByTurns 50 = .ok (.iconst 2, 1) := by decide +kernel
theorem dX0_unitsByTurns_51 : decode cX0_unitsByTurns 51 = .ok (.idiv, 1) := by decide +kernel
theorem dX0_unitsByTurns_52 : decode cX0_unitsByTurns 52 = .ok (.istore 5, 2) := by decide +kernel
end
section
/-! rows that decode each instruction, by program -/
theorem dX0_unitsByTurns_54 : decode cX0_unitsByTurns 54 = .ok (.goto (-35), 3) := by decide +kernel
theorem dX0_unitsByTurns_57 : decode cX0_unitsByTurns 57 = .ok (.iload 4, 2) := by decide +kernel
theorem dX0_unitsByTurns_59 : decode cX0_unitsByTurns 59 = .ok (.ireturn, 1) := by decide +kernel
theorem dX0_turnOf_0 : decode cX0_turnOf 0 = .ok (.iload_n 2, 1) := by decide +kernel
theorem dX0_turnOf_1 : decode cX0_turnOf 1 = .ok (.i2l, 1) := by decide +kernel
theorem dX0_turnOf_2 : decode cX0_turnOf 2 = .ok (.lstore 4, 2) := by decide +kernel
theorem dX0_turnOf_4 : decode cX0_turnOf 4 = .ok (.iconst 0, 1) := by decide +kernel
theorem dX0_turnOf_5 : decode cX0_turnOf 5 = .ok (.istore 6, 2) := by decide +kernel
theorem dX0_turnOf_7 : decode cX0_turnOf 7 = .ok (.iload 6, 2) := by decide +kernel
theorem dX0_turnOf_9 : decode cX0_turnOf 9 = .ok (.aload_n 0, 1) := by decide +kernel
theorem dX0_turnOf_10 : decode cX0_turnOf 10 = .ok (.getfield 13, 3) := by decide +kernel
theorem dX0_turnOf_13 : decode cX0_turnOf 13 = .ok (.if_icmp .ge 29, 3) := by decide +kernel
theorem dX0_turnOf_16 : decode cX0_turnOf 16 = .ok (.iload 6, 2) := by decide +kernel
theorem dX0_turnOf_18 : decode cX0_turnOf 18 = .ok (.iload_n 3, 1) := by decide +kernel
theorem dX0_turnOf_19 : decode cX0_turnOf 19 = .ok (.if_icmp .eq 17, 3) := by decide +kernel
theorem dX0_turnOf_22 : decode cX0_turnOf 22 = .ok (.lload 4, 2) := by decide +kernel
theorem dX0_turnOf_24 : decode cX0_turnOf 24 = .ok (.aload_n 0, 1) := by decide +kernel
theorem dX0_turnOf_25 : decode cX0_turnOf 25 = .ok (.iload_n 1, 1) := by decide +kernel
theorem dX0_turnOf_26 : decode cX0_turnOf 26 = .ok (.iload_n 2, 1) := by decide +kernel
theorem dX0_turnOf_27 : decode cX0_turnOf 27 = .ok (.iload_n 3, 1) := by decide +kernel
theorem dX0_turnOf_28 : decode cX0_turnOf 28 = .ok (.iload 6, 2) := by decide +kernel
theorem dX0_turnOf_30 : decode cX0_turnOf 30 = .ok (.invokevirtual 87, 3) := by decide +kernel
theorem dX0_turnOf_33 : decode cX0_turnOf 33 = .ok (.ladd, 1) := by decide +kernel
theorem dX0_turnOf_34 : decode cX0_turnOf 34 = .ok (.lstore 4, 2) := by decide +kernel
theorem dX0_turnOf_36 : decode cX0_turnOf 36 = .ok (.iinc 6 1, 3) := by decide +kernel
theorem dX0_turnOf_39 : decode cX0_turnOf 39 = .ok (.goto (-32), 3) := by decide +kernel
theorem dX0_turnOf_42 : decode cX0_turnOf 42 = .ok (.lload 4, 2) := by decide +kernel
theorem dX0_turnOf_44 : decode cX0_turnOf 44 = .ok (.lreturn, 1) := by decide +kernel
theorem dX0_unitsBefore_0 : decode cX0_unitsBefore 0 = .ok (.aload_n 0, 1) := by decide +kernel
theorem dX0_unitsBefore_1 : decode cX0_unitsBefore 1 = .ok (.getfield 9, 3) := by decide +kernel
theorem dX0_unitsBefore_4 : decode cX0_unitsBefore 4 = .ok (.iload 4, 2) := by decide +kernel
theorem dX0_unitsBefore_6 : decode cX0_unitsBefore 6 = .ok (.iaload, 1) := by decide +kernel
theorem dX0_unitsBefore_7 : decode cX0_unitsBefore 7 = .ok (.ifCond .ne 5, 3) := by decide +kernel
theorem dX0_unitsBefore_10 : decode cX0_unitsBefore 10 = .ok (.lconst 0, 1) := by decide +kernel
theorem dX0_unitsBefore_11 : decode cX0_unitsBefore 11 = .ok (.lreturn, 1) := by decide +kernel
theorem dX0_unitsBefore_12 : decode cX0_unitsBefore 12 = .ok (.iload_n 1, 1) := by decide +kernel
theorem dX0_unitsBefore_13 : decode cX0_unitsBefore 13 = .ok (.iload_n 2, 1) := by decide +kernel
theorem dX0_unitsBefore_14 : decode cX0_unitsBefore 14 = .ok (.invokestatic 91, 3) := by decide +kernel
theorem dX0_unitsBefore_17 : decode cX0_unitsBefore 17 = .ok (.aload_n 0, 1) := by decide +kernel
theorem dX0_unitsBefore_18 : decode cX0_unitsBefore 18 = .ok (.getfield 9, 3) := by decide +kernel
theorem dX0_unitsBefore_21 : decode cX0_unitsBefore 21 = .ok (.iload 4, 2) := by decide +kernel
theorem dX0_unitsBefore_23 : decode cX0_unitsBefore 23 = .ok (.iaload, 1) := by decide +kernel
theorem dX0_unitsBefore_24 : decode cX0_unitsBefore 24 = .ok (.i2l, 1) := by decide +kernel
theorem dX0_unitsBefore_25 : decode cX0_unitsBefore 25 = .ok (.lmul, 1) := by decide +kernel
theorem dX0_unitsBefore_26 : decode cX0_unitsBefore 26 = .ok (.lstore 5, 2) := by decide +kernel
theorem dX0_unitsBefore_28 : decode cX0_unitsBefore 28 = .ok (.iload 4, 2) := by decide +kernel
theorem dX0_unitsBefore_30 : decode cX0_unitsBefore 30 = .ok (.iload_n 3, 1) := by decide +kernel
theorem dX0_unitsBefore_31 : decode cX0_unitsBefore 31 = .ok (.if_icmp .le 9, 3) := by decide +kernel
theorem dX0_unitsBefore_34 : decode cX0_unitsBefore 34 = .ok (.lload 5, 2) := by decide +kernel
theorem dX0_unitsBefore_36 : decode cX0_unitsBefore 36 = .ok (.lconst 1, 1) := by decide +kernel
theorem dX0_unitsBefore_37 : decode cX0_unitsBefore 37 = .ok (.lsub, 1) := by decide +kernel
theorem dX0_unitsBefore_38 : decode cX0_unitsBefore 38 = .ok (.lstore 5, 2) := by decide +kernel
theorem dX0_unitsBefore_40 : decode cX0_unitsBefore 40 = .ok (.lload 5, 2) := by decide +kernel
theorem dX0_unitsBefore_42 : decode cX0_unitsBefore 42 = .ok (.aload_n 0, 1) := by decide +kernel
theorem dX0_unitsBefore_43 : decode cX0_unitsBefore 43 = .ok (.getfield 9, 3) := by decide +kernel
theorem dX0_unitsBefore_46 : decode cX0_unitsBefore 46 = .ok (.iload_n 3, 1) := by decide +kernel
theorem dX0_unitsBefore_47 : decode cX0_unitsBefore 47 = .ok (.iaload, 1) := by decide +kernel
theorem dX0_unitsBefore_48 : decode cX0_unitsBefore 48 = .ok (.i2l, 1) := by decide +kernel
theorem dX0_unitsBefore_49 : decode cX0_unitsBefore 49 = .ok (.ldiv, 1) := by decide +kernel
theorem dX0_unitsBefore_50 : decode cX0_unitsBefore 50 = .ok (.lstore 7, 2) := by decide +kernel
theorem dX0_unitsBefore_52 : decode cX0_unitsBefore 52 = .ok (.iload_n 1, 1) := by decide +kernel
theorem dX0_unitsBefore_53 : decode cX0_unitsBefore 53 = .ok (.iconst 1, 1) := by decide +kernel
theorem dX0_unitsBefore_54 : decode cX0_unitsBefore 54 = .ok (.if_icmp .ne 8, 3) := by decide +kernel
theorem dX0_unitsBefore_57 : decode cX0_unitsBefore 57 = .ok (.lload 7, 2) := by decide +kernel
theorem dX0_unitsBefore_59 : decode cX0_unitsBefore 59 = .ok (.goto 11, 3) := by decide +kernel
theorem dX0_unitsBefore_62 : decode cX0_unitsBefore 62 = .ok (.lload 7, 2) := by decide +kernel
theorem dX0_unitsBefore_64 : decode cX0_unitsBefore 64 = .ok (.lconst 1, 1) := by decide +kernel
theorem dX0_unitsBefore_65 : decode cX0_unitsBefore 65 = .ok (.ladd, 1) := by decide +kernel
theorem dX0_unitsBefore_66 : decode cX0_unitsBefore 66 = .ok (.ldc2_w 94, 3) := by decide +kernel
theorem dX0_unitsBefore_69 : decode cX0_unitsBefore 69 = .ok (.ldiv, 1) := by decide +kernel
theorem dX0_unitsBefore_70 : decode cX0_unitsBefore 70 = .ok (.lreturn, 1) := by decide +kernel
theorem dX0_divisorOf_0 : decode cX0_divisorOf 0 = .ok (.iload_n 0, 1) := by decide +kernel
theorem dX0_divisorOf_1 : decode cX0_divisorOf 1 = .ok (.iconst 1, 1) := by decide +kernel
theorem dX0_divisorOf_2 : decode cX0_divisorOf 2 = .ok (.if_icmp .ne 8, 3) := by decide +kernel
theorem dX0_divisorOf_5 : decode cX0_divisorOf 5 = .ok (.iload_n 1, 1) := by decide +kernel
theorem dX0_divisorOf_6 : decode cX0_divisorOf 6 = .ok (.i2l, 1) := by decide +kernel
theorem dX0_divisorOf_7 : decode cX0_divisorOf 7 = .ok (.goto 11, 3) := by decide +kernel
theorem dX0_divisorOf_10 : decode cX0_divisorOf 10 = .ok (.ldc2_w 94, 3) := by decide +kernel
theorem dX0_divisorOf_13 : decode cX0_divisorOf 13 = .ok (.iload_n 1, 1) := by decide +kernel
theorem dX0_divisorOf_14 : decode cX0_divisorOf 14 = .ok (.i2l, 1) := by decide +kernel
theorem dX0_divisorOf_15 : decode cX0_divisorOf 15 = .ok (.lmul, 1) := by decide +kernel
theorem dX0_divisorOf_16 : decode cX0_divisorOf 16 = .ok (.lconst 1, 1) := by decide +kernel
theorem dX0_divisorOf_17 : decode cX0_divisorOf 17 = .ok (.lsub, 1) := by decide +kernel
theorem dX0_divisorOf_18 : decode cX0_divisorOf 18 = .ok (.lreturn, 1) := by decide +kernel
theorem dX1_init_0 : decode cX1_init 0 = .ok (.aload_n 0, 1) := by decide +kernel
theorem dX1_init_1 : decode cX1_init 1 = .ok (.invokespecial 1, 3) := by decide +kernel
theorem dX1_init_4 : decode cX1_init 4 = .ok (.aload_n 0, 1) := by decide +kernel
theorem dX1_init_5 : decode cX1_init 5 = .ok (.iconst 2, 1) := by decide +kernel
theorem dX1_init_6 : decode cX1_init 6 = .ok (.putfield 7, 3) := by decide +kernel
theorem dX1_init_9 : decode cX1_init 9 = .ok (.aload_n 0, 1) := by decide +kernel
theorem dX1_init_10 : decode cX1_init 10 = .ok (.bipush 8, 2) := by decide +kernel
theorem dX1_init_12 : decode cX1_init 12 = .ok (.newarray .long, 2) := by decide +kernel
theorem dX1_init_14 : decode cX1_init 14 = .ok (.putfield 13, 3) := by decide +kernel
theorem dX1_init_17 : decode cX1_init 17 = .ok (.aload_n 0, 1) := by decide +kernel
theorem dX1_init_18 : decode cX1_init 18 = .ok (.bipush 8, 2) := by decide +kernel
theorem dX1_init_20 : decode cX1_init 20 = .ok (.newarray .long, 2) := by decide +kernel
theorem dX1_init_22 : decode cX1_init 22 = .ok (.putfield 17, 3) := by decide +kernel
theorem dX1_init_25 : decode cX1_init 25 = .ok (.aload_n 0, 1) := by decide +kernel
theorem dX1_init_26 : decode cX1_init 26 = .ok (.bipush 8, 2) := by decide +kernel
theorem dX1_init_28 : decode cX1_init 28 = .ok (.newarray .long, 2) := by decide +kernel
theorem dX1_init_30 : decode cX1_init 30 = .ok (.putfield 20, 3) := by decide +kernel
theorem dX1_init_33 : decode cX1_init 33 = .ok (.aload_n 0, 1) := by decide +kernel
theorem dX1_init_34 : decode cX1_init 34 = .ok (.bipush 8, 2) := by decide +kernel
theorem dX1_init_36 : decode cX1_init 36 = .ok (.newarray .boolean, 2) := by decide +kernel
theorem dX1_init_38 : decode cX1_init 38 = .ok (.putfield 23, 3) := by decide +kernel
theorem dX1_init_41 : decode cX1_init 41 = .ok (.return_, 1) := by decide +kernel
theorem dX1_thrown_0 : decode cX1_thrown 0 = .ok (.aload_n 0, 1) := by decide +kernel
theorem dX1_thrown_1 : decode cX1_thrown 1 = .ok (.getfield 27, 3) := by decide +kernel
theorem dX1_thrown_4 : decode cX1_thrown 4 = .ok (.ireturn, 1) := by decide +kernel
theorem dX1_in_0 : decode cX1_in 0 = .ok (.lload_n 0, 1) := by decide +kernel
theorem dX1_in_1 : decode cX1_in 1 = .ok (.lload_n 2, 1) := by decide +kernel
theorem dX1_in_2 : decode cX1_in 2 = .ok (.lcmp, 1) := by decide +kernel
theorem dX1_in_3 : decode cX1_in 3 = .ok (.ifCond .lt 14, 3) := by decide +kernel
theorem dX1_in_6 : decode cX1_in 6 = .ok (.lload_n 0, 1) := by decide +kernel
theorem dX1_in_7 : decode cX1_in 7 = .ok (.lload 4, 2) := by decide +kernel
theorem dX1_in_9 : decode cX1_in 9 = .ok (.lcmp, 1) := by decide +kernel
theorem dX1_in_10 : decode cX1_in 10 = .ok (.ifCond .gt 7, 3) := by decide +kernel
theorem dX1_in_13 : decode cX1_in 13 = .ok (.iconst 1, 1) := by decide +kernel
theorem dX1_in_14 : decode cX1_in 14 = .ok (.goto 4, 3) := by decide +kernel
theorem dX1_in_17 : decode cX1_in 17 = .ok (.iconst 0, 1) := by decide +kernel
theorem dX1_in_18 : decode cX1_in 18 = .ok (.ireturn, 1) := by decide +kernel
theorem dX1_fails_0 : decode cX1_fails 0 = .ok (.iload_n 1, 1) := by decide +kernel
theorem dX1_fails_1 : decode cX1_fails 1 = .ok (.ifCond .eq 15, 3) := by decide +kernel
theorem dX1_fails_4 : decode cX1_fails 4 = .ok (.aload_n 0, 1) := by decide +kernel
theorem dX1_fails_5 : decode cX1_fails 5 = .ok (.getfield 27, 3) := by decide +kernel
theorem dX1_fails_8 : decode cX1_fails 8 = .ok (.ifCond .ne 8, 3) := by decide +kernel
theorem dX1_fails_11 : decode cX1_fails 11 = .ok (.aload_n 0, 1) := by decide +kernel
theorem dX1_fails_12 : decode cX1_fails 12 = .ok (.iload_n 2, 1) := by decide +kernel
theorem dX1_fails_13 : decode cX1_fails 13 = .ok (.putfield 27, 3) := by decide +kernel
theorem dX1_fails_16 : decode cX1_fails 16 = .ok (.aload_n 0, 1) := by decide +kernel
theorem dX1_fails_17 : decode cX1_fails 17 = .ok (.getfield 27, 3) := by decide +kernel
theorem dX1_fails_20 : decode cX1_fails 20 = .ok (.ifCond .eq 7, 3) := by decide +kernel
theorem dX1_fails_23 : decode cX1_fails 23 = .ok (.iconst 1, 1) := by decide +kernel
theorem dX1_fails_24 : decode cX1_fails 24 = .ok (.goto 4, 3) := by decide +kernel
theorem dX1_fails_27 : decode cX1_fails 27 = .ok (.iconst 0, 1) := by decide +kernel
theorem dX1_fails_28 : decode cX1_fails 28 = .ok (.ireturn, 1) := by decide +kernel
theorem dX1_all_0 : decode cX1_all 0 = .ok (.lconst 0, 1) := by decide +kernel
theorem dX1_all_1 : decode cX1_all 1 = .ok (.lstore_n 1, 1) := by decide +kernel
theorem dX1_all_2 : decode cX1_all 2 = .ok (.iconst 0, 1) := by decide +kernel
theorem dX1_all_3 : decode cX1_all 3 = .ok (.istore_n 3, 1) := by decide +kernel
theorem dX1_all_4 : decode cX1_all 4 = .ok (.iload_n 3, 1) := by decide +kernel
theorem dX1_all_5 : decode cX1_all 5 = .ok (.aload_n 0, 1) := by decide +kernel
theorem dX1_all_6 : decode cX1_all 6 = .ok (.getfield 7, 3) := by decide +kernel
theorem dX1_all_9 : decode cX1_all 9 = .ok (.if_icmp .ge 18, 3) := by decide +kernel
theorem dX1_all_12 : decode cX1_all 12 = .ok (.lload_n 1, 1) := by decide +kernel
theorem dX1_all_13 : decode cX1_all 13 = .ok (.aload_n 0, 1) := by decide +kernel
theorem dX1_all_14 : decode cX1_all 14 = .ok (.getfield 13, 3) := by decide +kernel
theorem dX1_all_17 : decode cX1_all 17 = .ok (.iload_n 3, 1) := by decide +kernel
theorem dX1_all_18 : decode cX1_all 18 = .ok (.laload, 1) := by decide +kernel
theorem dX1_all_19 : decode cX1_all 19 = .ok (.ladd, 1) := by decide +kernel
theorem dX1_all_20 : decode cX1_all 20 = .ok (.lstore_n 1, 1) := by decide +kernel
theorem dX1_all_21 : decode cX1_all 21 = .ok (.iinc 3 1, 3) := by decide +kernel
theorem dX1_all_24 : decode cX1_all 24 = .ok (.goto (-20), 3) := by decide +kernel
theorem dX1_all_27 : decode cX1_all 27 = .ok (.lload_n 1, 1) := by decide +kernel
theorem dX1_all_28 : decode cX1_all 28 = .ok (.lreturn, 1) := by decide +kernel
theorem dX1_isParty_0 : decode cX1_isParty 0 = .ok (.iload_n 1, 1) := by decide +kernel
theorem dX1_isParty_1 : decode cX1_isParty 1 = .ok (.i2l, 1) := by decide +kernel
theorem dX1_isParty_2 : decode cX1_isParty 2 = .ok (.lconst 0, 1) := by decide +kernel
theorem dX1_isParty_3 : decode cX1_isParty 3 = .ok (.aload_n 0, 1) := by decide +kernel
theorem dX1_isParty_4 : decode cX1_isParty 4 = .ok (.getfield 7, 3) := by decide +kernel
theorem dX1_isParty_7 : decode cX1_isParty 7 = .ok (.iconst 1, 1) := by decide +kernel
theorem dX1_isParty_8 : decode cX1_isParty 8 = .ok (.isub, 1) := by decide +kernel
theorem dX1_isParty_9 : decode cX1_isParty 9 = .ok (.i2l, 1) := by decide +kernel
theorem dX1_isParty_10 : decode cX1_isParty 10 = .ok (.invokestatic 30, 3) := by decide +kernel
theorem dX1_isParty_13 : decode cX1_isParty 13 = .ok (.ireturn, 1) := by decide +kernel
theorem dX1_isWay_0 : decode cX1_isWay 0 = .ok (.iload_n 0, 1) := by decide +kernel
theorem dX1_isWay_1 : decode cX1_isWay 1 = .ok (.i2l, 1) := by decide +kernel
theorem dX1_isWay_2 : decode cX1_isWay 2 = .ok (.lconst 0, 1) := by decide +kernel
theorem dX1_isWay_3 : decode cX1_isWay 3 = .ok (.ldc2_w 34, 3) := by decide +kernel
theorem dX1_isWay_6 : decode cX1_isWay 6 = .ok (.invokestatic 30, 3) := by decide +kernel
theorem dX1_isWay_9 : decode cX1_isWay 9 = .ok (.ireturn, 1) := by decide +kernel
theorem dX1_begin_0 : decode cX1_begin 0 = .ok (.aload_n 0, 1) := by decide +kernel
theorem dX1_begin_1 : decode cX1_begin 1 = .ok (.iconst 0, 1) := by decide +kernel
theorem dX1_begin_2 : decode cX1_begin 2 = .ok (.putfield 27, 3) := by decide +kernel
theorem dX1_begin_5 : decode cX1_begin 5 = .ok (.aload_n 0, 1) := by decide +kernel
theorem dX1_begin_6 : decode cX1_begin 6 = .ok (.iload_n 1, 1) := by decide +kernel
theorem dX1_begin_7 : decode cX1_begin 7 = .ok (.i2l, 1) := by decide +kernel
theorem dX1_begin_8 : decode cX1_begin 8 = .ok (.lconst 1, 1) := by decide +kernel
theorem dX1_begin_9 : decode cX1_begin 9 = .ok (.ldc2_w 36, 3) := by decide +kernel
theorem dX1_begin_12 : decode cX1_begin 12 = .ok (.invokestatic 30, 3) := by decide +kernel
theorem dX1_begin_15 : decode cX1_begin 15 = .ok (.ifCond .ne 7, 3) := by decide +kernel
theorem dX1_begin_18 : decode cX1_begin 18 = .ok (.iconst 1, 1) := by decide +kernel
theorem dX1_begin_19 : decode cX1_begin 19 = .ok (.goto 4, 3) := by decide +kernel
theorem dX1_begin_22 : decode cX1_begin 22 = .ok (.iconst 0, 1) := by decide +kernel
theorem dX1_begin_23 : decode cX1_begin 23 = .ok (.iconst 1, 1) := by decide +kernel
theorem dX1_begin_24 : decode cX1_begin 24 = .ok (.invokevirtual 38, 3) := by decide +kernel
theorem dX1_begin_27 : decode cX1_begin 27 = .ok (.ifCond .eq 4, 3) := by decide +kernel
theorem dX1_begin_30 : decode cX1_begin 30 = .ok (.return_, 1) := by decide +kernel
theorem dX1_begin_31 : decode cX1_begin 31 = .ok (.aload_n 0, 1) := by decide +kernel
theorem dX1_begin_32 : decode cX1_begin 32 = .ok (.iload_n 1, 1) := by decide +kernel
theorem dX1_begin_33 : decode cX1_begin 33 = .ok (.putfield 7, 3) := by decide +kernel
theorem dX1_begin_36 : decode cX1_begin 36 = .ok (.iconst 0, 1) := by decide +kernel
theorem dX1_begin_37 : decode cX1_begin 37 = .ok (.istore_n 2, 1) := by decide +kernel
theorem dX1_begin_38 : decode cX1_begin 38 = .ok (.iload_n 2, 1) := by decide +kernel
theorem dX1_begin_39 : decode cX1_begin 39 = .ok (.bipush 8, 2) := by decide +kernel
theorem dX1_begin_41 : decode cX1_begin 41 = .ok (.if_icmp .ge 16, 3) := by decide +kernel
theorem dX1_begin_44 : decode cX1_begin 44 = .ok (.aload_n 0, 1) := by decide +kernel
theorem dX1_begin_45 : decode cX1_begin 45 = .ok (.getfield 13, 3) := by decide +kernel
theorem dX1_begin_48 : decode cX1_begin 48 = .ok (.iload_n 2, 1) := by decide +kernel
theorem dX1_begin_49 : decode cX1_begin 49 = .ok (.lconst 0, 1) := by decide +kernel
theorem dX1_begin_50 : decode cX1_begin 50 = .ok (.lastore, 1) := by decide +kernel
theorem dX1_begin_51 : decode cX1_begin 51 = .ok (.iinc 2 1, 3) := by decide +kernel
theorem dX1_begin_54 : decode cX1_begin 54 = .ok (.goto (-16), 3) := by decide +kernel
theorem dX1_begin_57 : decode cX1_begin 57 = .ok (.return_, 1) := by decide +kernel
theorem dX1_weight_0 : decode cX1_weight 0 = .ok (.aload_n 0, 1) := by decide +kernel
theorem dX1_weight_1 : decode cX1_weight 1 = .ok (.iconst 0, 1) := by decide +kernel
theorem dX1_weight_2 : decode cX1_weight 2 = .ok (.putfield 27, 3) := by decide +kernel
theorem dX1_weight_5 : decode cX1_weight 5 = .ok (.aload_n 0, 1) := by decide +kernel
theorem dX1_weight_6 : decode cX1_weight 6 = .ok (.aload_n 0, 1) := by decide +kernel
theorem dX1_weight_7 : decode cX1_weight 7 = .ok (.iload_n 1, 1) := by decide +kernel
theorem dX1_weight_8 : decode cX1_weight 8 = .ok (.invokevirtual 42, 3) := by decide +kernel
theorem dX1_weight_11 : decode cX1_weight 11 = .ok (.ifCond .eq 15, 3) := by decide +kernel
theorem dX1_weight_14 : decode cX1_weight 14 = .ok (.iload_n 2, 1) := by decide +kernel
theorem dX1_weight_15 : decode cX1_weight 15 = .ok (.i2l, 1) := by decide +kernel
theorem dX1_weight_16 : decode cX1_weight 16 = .ok (.lconst 0, 1) := by decide +kernel
theorem dX1_weight_17 : decode cX1_weight 17 = .ok (.ldc2_w 46, 3) := by decide +kernel
theorem dX1_weight_20 : decode cX1_weight 20 = .ok (.invokestatic 30, 3) := by decide +kernel
theorem dX1_weight_23 : decode cX1_weight 23 = .ok (.ifCond .ne 7, 3) := by decide +kernel
theorem dX1_weight_26 : decode cX1_weight 26 = .ok (.iconst 1, 1) := by decide +kernel
theorem dX1_weight_27 : decode cX1_weight 27 = .ok (.goto 4, 3) := by decide +kernel
theorem dX1_weight_30 : decode cX1_weight 30 = .ok (.iconst 0, 1) := by decide +kernel
theorem dX1_weight_31 : decode cX1_weight 31 = .ok (.iconst 1, 1) := by decide +kernel
theorem dX1_weight_32 : decode cX1_weight 32 = .ok (.invokevirtual 38, 3) := by decide +kernel
theorem dX1_weight_35 : decode cX1_weight 35 = .ok (.ifCond .eq 5, 3) := by decide +kernel
theorem dX1_weight_38 : decode cX1_weight 38 = .ok (.iconst 0, 1) := by decide +kernel
theorem dX1_weight_39 : decode cX1_weight 39 = .ok (.ireturn, 1) := by decide +kernel
theorem dX1_weight_40 : decode cX1_weight 40 = .ok (.aload_n 0, 1) := by decide +kernel
theorem dX1_weight_41 : decode cX1_weight 41 = .ok (.getfield 13, 3) := by decide +kernel
theorem dX1_weight_44 : decode cX1_weight 44 = .ok (.iload_n 1, 1) := by decide +kernel
theorem dX1_weight_45 : decode cX1_weight 45 = .ok (.laload, 1) := by decide +kernel
theorem dX1_weight_46 : decode cX1_weight 46 = .ok (.l2i, 1) := by decide +kernel
theorem dX1_weight_47 : decode cX1_weight 47 = .ok (.istore_n 3, 1) := by decide +kernel
theorem dX1_weight_48 : decode cX1_weight 48 = .ok (.aload_n 0, 1) := by decide +kernel
theorem dX1_weight_49 : decode cX1_weight 49 = .ok (.getfield 13, 3) := by decide +kernel
theorem dX1_weight_52 : decode cX1_weight 52 = .ok (.iload_n 1, 1) := by decide +kernel
theorem dX1_weight_53 : decode cX1_weight 53 = .ok (.iload_n 2, 1) := by decide +kernel
theorem dX1_weight_54 : decode cX1_weight 54 = .ok (.i2l, 1) := by decide +kernel
theorem dX1_weight_55 : decode cX1_weight 55 = .ok (.lastore, 1) := by decide +kernel
theorem dX1_weight_56 : decode cX1_weight 56 = .ok (.iload_n 3, 1) := by decide +kernel
theorem dX1_weight_57 : decode cX1_weight 57 = .ok (.ireturn, 1) := by decide +kernel
theorem dX1_parts_0 : decode cX1_parts 0 = .ok (.aload_n 0, 1) := by decide +kernel
theorem dX1_parts_1 : decode cX1_parts 1 = .ok (.invokevirtual 48, 3) := by decide +kernel
theorem dX1_parts_4 : decode cX1_parts 4 = .ok (.lstore_n 2, 1) := by decide +kernel
theorem dX1_parts_5 : decode cX1_parts 5 = .ok (.iload_n 1, 1) := by decide +kernel
theorem dX1_parts_6 : decode cX1_parts 6 = .ok (.i2l, 1) := by decide +kernel
theorem dX1_parts_7 : decode cX1_parts 7 = .ok (.lstore 4, 2) := by decide +kernel
theorem dX1_parts_9 : decode cX1_parts 9 = .ok (.iconst 0, 1) := by decide +kernel
theorem dX1_parts_10 : decode cX1_parts 10 = .ok (.istore 6, 2) := by decide +kernel
theorem dX1_parts_12 : decode cX1_parts 12 = .ok (.iload 6, 2) := by decide +kernel
theorem dX1_parts_14 : decode cX1_parts 14 = .ok (.aload_n 0, 1) := by decide +kernel
theorem dX1_parts_15 : decode cX1_parts 15 = .ok (.getfield 7, 3) := by decide +kernel
theorem dX1_parts_18 : decode cX1_parts 18 = .ok (.if_icmp .ge 48, 3) := by decide +kernel
theorem dX1_parts_21 : decode cX1_parts 21 = .ok (.aload_n 0, 1) := by decide +kernel
theorem dX1_parts_22 : decode cX1_parts 22 = .ok (.getfield 17, 3) := by decide +kernel
theorem dX1_parts_25 : decode cX1_parts 25 = .ok (.iload 6, 2) := by decide +kernel
theorem dX1_parts_27 : decode cX1_parts 27 = .ok (.iload_n 1, 1) := by decide +kernel
theorem dX1_parts_28 : decode cX1_parts 28 = .ok (.i2l, 1) := by decide +kernel
theorem dX1_parts_29 : decode cX1_parts 29 = .ok (.aload_n 0, 1) := by decide +kernel
theorem dX1_parts_30 : decode cX1_parts 30 = .ok (.getfield 13, 3) := by decide +kernel
theorem dX1_parts_33 : decode cX1_parts 33 = .ok (.iload 6, 2) := by decide +kernel
theorem dX1_parts_35 : decode cX1_parts 35 = .ok (.laload, 1) := by decide +kernel
theorem dX1_parts_36 : decode cX1_parts 36 = .ok (.lmul, 1) := by decide +kernel
theorem dX1_parts_37 : decode cX1_parts 37 = .ok (.lload_n 2, 1) := by decide +kernel
theorem dX1_parts_38 : decode cX1_parts 38 = .ok (.ldiv, 1) := by decide +kernel
theorem dX1_parts_39 : decode cX1_parts 39 = .ok (.lastore, 1) := by decide +kernel
theorem dX1_parts_40 : decode cX1_parts 40 = .ok (.lload 4, 2) := by decide +kernel
theorem dX1_parts_42 : decode cX1_parts 42 = .ok (.aload_n 0, 1) := by decide +kernel
theorem dX1_parts_43 : decode cX1_parts 43 = .ok (.getfield 17, 3) := by decide +kernel
theorem dX1_parts_46 : decode cX1_parts 46 = .ok (.iload 6, 2) := by decide +kernel
theorem dX1_parts_48 : decode cX1_parts 48 = .ok (.laload, 1) := by decide +kernel
theorem dX1_parts_49 : decode cX1_parts 49 = .ok (.lsub, 1) := by decide +kernel
theorem dX1_parts_50 : decode cX1_parts 50 = .ok (.lstore 4, 2) := by decide +kernel
theorem dX1_parts_52 : decode cX1_parts 52 = .ok (.aload_n 0, 1) := by decide +kernel
theorem dX1_parts_53 : decode cX1_parts 53 = .ok (.getfield 23, 3) := by decide +kernel
theorem dX1_parts_56 : decode cX1_parts 56 = .ok (.iload 6, 2) := by decide +kernel
theorem dX1_parts_58 : decode cX1_parts 58 = .ok (.iconst 0, 1) := by decide +kernel
theorem dX1_parts_59 : decode cX1_parts 59 = .ok (.bastore, 1) := by decide +kernel
theorem dX1_parts_60 : decode cX1_parts 60 = .ok (.iinc 6 1, 3) := by decide +kernel
theorem dX1_parts_63 : decode cX1_parts 63 = .ok (.goto (-51), 3) := by decide +kernel
theorem dX1_parts_66 : decode cX1_parts 66 = .ok (.lload 4, 2) := by decide +kernel
theorem dX1_parts_68 : decode cX1_parts 68 = .ok (.lconst 0, 1) := by decide +kernel
theorem dX1_parts_69 : decode cX1_parts 69 = .ok (.lcmp, 1) := by decide +kernel
theorem dX1_parts_70 : decode cX1_parts 70 = .ok (.ifCond .le 99, 3) := by decide +kernel
theorem dX1_parts_73 : decode cX1_parts 73 = .ok (.iconst (-1), 1) := by decide +kernel
theorem dX1_parts_74 : decode cX1_parts 74 = .ok (.istore 6, 2) := by decide +kernel
theorem dX1_parts_76 : decode cX1_parts 76 = .ok (.iconst 0, 1) := by decide +kernel
theorem dX1_parts_77 : decode cX1_parts 77 = .ok (.istore 7, 2) := by decide +kernel
theorem dX1_parts_79 : decode cX1_parts 79 = .ok (.iload 7, 2) := by decide +kernel
theorem dX1_parts_81 : decode cX1_parts 81 = .ok (.aload_n 0, 1) := by decide +kernel
theorem dX1_parts_82 : decode cX1_parts 82 = .ok (.getfield 7, 3) := by decide +kernel
theorem dX1_parts_85 : decode cX1_parts 85 = .ok (.if_icmp .ge 56, 3) := by decide +kernel
theorem dX1_parts_88 : decode cX1_parts 88 = .ok (.aload_n 0, 1) := by decide +kernel
theorem dX1_parts_89 : decode cX1_parts 89 = .ok (.getfield 23, 3) := by decide +kernel
theorem dX1_parts_92 : decode cX1_parts 92 = .ok (.iload 7, 2) := by decide +kernel
theorem dX1_parts_94 : decode cX1_parts 94 = .ok (.baload, 1) := by decide +kernel
theorem dX1_parts_95 : decode cX1_parts 95 = .ok (.ifCond .ne 40, 3) := by decide +kernel
theorem dX1_parts_98 : decode cX1_parts 98 = .ok (.iload 6, 2) := by decide +kernel
theorem dX1_parts_100 : decode cX1_parts 100 = .ok (.ifCond .lt 31, 3) := by decide +kernel
theorem dX1_parts_103 : decode cX1_parts 103 = .ok (.iload_n 1, 1) := by decide +kernel
theorem dX1_parts_104 : decode cX1_parts 104 = .ok (.i2l, 1) := by decide +kernel
theorem dX1_parts_105 : decode cX1_parts 105 = .ok (.aload_n 0, 1) := by decide +kernel
theorem dX1_parts_106 : decode cX1_parts 106 = .ok (.getfield 13, 3) := by decide +kernel
theorem dX1_parts_109 : decode cX1_parts 109 = .ok (.iload 7, 2) := by decide +kernel
theorem dX1_parts_111 : decode cX1_parts 111 = .ok (.laload, 1) := by decide +kernel
theorem dX1_parts_112 : decode cX1_parts 112 = .ok (.lmul, 1) := by decide +kernel
theorem dX1_parts_113 : decode cX1_parts 113 = .ok (.lload_n 2, 1) := by decide +kernel
theorem dX1_parts_114 : decode cX1_parts 114 = .ok (.lrem, 1) := by decide +kernel
theorem dX1_parts_115 : decode cX1_parts 115 = .ok (.iload_n 1, 1) := by decide +kernel
theorem dX1_parts_116 : decode cX1_parts 116 = .ok (.i2l, 1) := by decide +kernel
theorem dX1_parts_117 : decode cX1_parts 117 = .ok (.aload_n 0, 1) := by decide +kernel
theorem dX1_parts_118 : decode cX1_parts 118 = .ok (.getfield 13, 3) := by decide +kernel
theorem dX1_parts_121 : decode cX1_parts 121 = .ok (.iload 6, 2) := by decide +kernel
theorem dX1_parts_123 : decode cX1_parts 123 = .ok (.laload, 1) := by decide +kernel
theorem dX1_parts_124 : decode cX1_parts 124 = .ok (.lmul, 1) := by decide +kernel
theorem dX1_parts_125 : decode cX1_parts 125 = .ok (.lload_n 2, 1) := by decide +kernel
theorem dX1_parts_126 : decode cX1_parts 126 = .ok (.lrem, 1) := by decide +kernel
theorem dX1_parts_127 : decode cX1_parts 127 = .ok (.lcmp, 1) := by decide +kernel
theorem dX1_parts_128 : decode cX1_parts 128 = .ok (.ifCond .le 7, 3) := by decide +kernel
theorem dX1_parts_131 : decode cX1_parts 131 = .ok (.iload 7, 2) := by decide +kernel
theorem dX1_parts_133 : decode cX1_parts 133 = .ok (.istore 6, 2) := by decide +kernel
theorem dX1_parts_135 : decode cX1_parts 135 = .ok (.iinc 7 1, 3) := by decide +kernel
theorem dX1_parts_138 : decode cX1_parts 138 = .ok (.goto (-59), 3) := by decide +kernel
theorem dX1_parts_141 : decode cX1_parts 141 = .ok (.aload_n 0, 1) := by decide +kernel
theorem dX1_parts_142 : decode cX1_parts 142 = .ok (.getfield 23, 3) := by decide +kernel
theorem dX1_parts_145 : decode cX1_parts 145 = .ok (.iload 6, 2) := by decide +kernel
theorem dX1_parts_147 : decode cX1_parts 147 = .ok (.iconst 1, 1) := by decide +kernel
theorem dX1_parts_148 : decode cX1_parts 148 = .ok (.bastore, 1) := by decide +kernel
theorem dX1_parts_149 : decode cX1_parts 149 = .ok (.aload_n 0, 1) := by decide +kernel
theorem dX1_parts_150 : decode cX1_parts 150 = .ok (.getfield 17, 3) := by decide +kernel
theorem dX1_parts_153 : decode cX1_parts 153 = .ok (.iload 6, 2) := by decide +kernel
theorem dX1_parts_155 : decode cX1_parts 155 = .ok (.dup2, 1) := by decide +kernel
theorem dX1_parts_156 : decode cX1_parts 156 = .ok (.laload, 1) := by decide +kernel
theorem dX1_parts_157 : decode cX1_parts 157 = .ok (.lconst 1, 1) := by decide +kernel
theorem dX1_parts_158 : decode cX1_parts 158 = .ok (.ladd, 1) := by decide +kernel
theorem dX1_parts_159 : decode cX1_parts 159 = .ok (.lastore, 1) := by decide +kernel
theorem dX1_parts_160 : decode cX1_parts 160 = .ok (.lload 4, 2) := by decide +kernel
theorem dX1_parts_162 : decode cX1_parts 162 = .ok (.lconst 1, 1) := by decide +kernel
theorem dX1_parts_163 : decode cX1_parts 163 = .ok (.lsub, 1) := by decide +kernel
theorem dX1_parts_164 : decode cX1_parts 164 = .ok (.lstore 4, 2) := by decide +kernel
theorem dX1_parts_166 : decode cX1_parts 166 = .ok (.goto (-100), 3) := by decide +kernel
theorem dX1_parts_169 : decode cX1_parts 169 = .ok (.return_, 1) := by decide +kernel
theorem dX1_one_0 : decode cX1_one 0 = .ok (.iconst (-1), 1) := by decide +kernel
theorem dX1_one_1 : decode cX1_one 1 = .ok (.istore_n 2, 1) := by decide +kernel
theorem dX1_one_2 : decode cX1_one 2 = .ok (.iconst 0, 1) := by decide +kernel
theorem dX1_one_3 : decode cX1_one 3 = .ok (.istore_n 3, 1) := by decide +kernel
theorem dX1_one_4 : decode cX1_one 4 = .ok (.iload_n 3, 1) := by decide +kernel
theorem dX1_one_5 : decode cX1_one 5 = .ok (.aload_n 0, 1) := by decide +kernel
theorem dX1_one_6 : decode cX1_one 6 = .ok (.getfield 7, 3) := by decide +kernel
theorem dX1_one_9 : decode cX1_one 9 = .ok (.if_icmp .ge 66, 3) := by decide +kernel
theorem dX1_one_12 : decode cX1_one 12 = .ok (.aload_n 0, 1) := by decide +kernel
theorem dX1_one_13 : decode cX1_one 13 = .ok (.getfield 13, 3) := by decide +kernel
theorem dX1_one_16 : decode cX1_one 16 = .ok (.iload_n 3, 1) := by decide +kernel
theorem dX1_one_17 : decode cX1_one 17 = .ok (.laload, 1) := by decide +kernel
theorem dX1_one_18 : decode cX1_one 18 = .ok (.lconst 0, 1) := by decide +kernel
theorem dX1_one_19 : decode cX1_one 19 = .ok (.lcmp, 1) := by decide +kernel
theorem dX1_one_20 : decode cX1_one 20 = .ok (.ifCond .le 49, 3) := by decide +kernel
theorem dX1_one_23 : decode cX1_one 23 = .ok (.iload_n 2, 1) := by decide +kernel
theorem dX1_one_24 : decode cX1_one 24 = .ok (.ifCond .lt 43, 3) := by decide +kernel
theorem dX1_one_27 : decode cX1_one 27 = .ok (.aload_n 0, 1) := by decide +kernel
theorem dX1_one_28 : decode cX1_one 28 = .ok (.getfield 13, 3) := by decide +kernel
theorem dX1_one_31 : decode cX1_one 31 = .ok (.iload_n 3, 1) := by decide +kernel
theorem dX1_one_32 : decode cX1_one 32 = .ok (.laload, 1) := by decide +kernel
theorem dX1_one_33 : decode cX1_one 33 = .ok (.iload_n 1, 1) := by decide +kernel
theorem dX1_one_34 : decode cX1_one 34 = .ok (.i2l, 1) := by decide +kernel
theorem dX1_one_35 : decode cX1_one 35 = .ok (.aload_n 0, 1) := by decide +kernel
theorem dX1_one_36 : decode cX1_one 36 = .ok (.getfield 17, 3) := by decide +kernel
theorem dX1_one_39 : decode cX1_one 39 = .ok (.iload_n 2, 1) := by decide +kernel
theorem dX1_one_40 : decode cX1_one 40 = .ok (.laload, 1) := by decide +kernel
theorem dX1_one_41 : decode cX1_one 41 = .ok (.lmul, 1) := by decide +kernel
theorem dX1_one_42 : decode cX1_one 42 = .ok (.lconst 1, 1) := by decide +kernel
theorem dX1_one_43 : decode cX1_one 43 = .ok (.ladd, 1) := by decide +kernel
theorem dX1_one_44 : decode cX1_one 44 = .ok (.lmul, 1) := by decide +kernel
theorem dX1_one_45 : decode cX1_one 45 = .ok (.aload_n 0, 1) := by decide +kernel
theorem dX1_one_46 : decode cX1_one 46 = .ok (.getfield 13, 3) := by decide +kernel
theorem dX1_one_49 : decode cX1_one 49 = .ok (.iload_n 2, 1) := by decide +kernel
theorem dX1_one_50 : decode cX1_one 50 = .ok (.laload, 1) := by decide +kernel
theorem dX1_one_51 : decode cX1_one 51 = .ok (.iload_n 1, 1) := by decide +kernel
theorem dX1_one_52 : decode cX1_one 52 = .ok (.i2l, 1) := by decide +kernel
theorem dX1_one_53 : decode cX1_one 53 = .ok (.aload_n 0, 1) := by decide +kernel
theorem dX1_one_54 : decode cX1_one 54 = .ok (.getfield 17, 3) := by decide +kernel
theorem dX1_one_57 : decode cX1_one 57 = .ok (.iload_n 3, 1) := by decide +kernel
theorem dX1_one_58 : decode cX1_one 58 = .ok (.laload, 1) := by decide +kernel
theorem dX1_one_59 : decode cX1_one 59 = .ok (.lmul, 1) := by decide +kernel
theorem dX1_one_60 : decode cX1_one 60 = .ok (.lconst 1, 1) := by decide +kernel
theorem dX1_one_61 : decode cX1_one 61 = .ok (.ladd, 1) := by decide +kernel
theorem dX1_one_62 : decode cX1_one 62 = .ok (.lmul, 1) := by decide +kernel
theorem dX1_one_63 : decode cX1_one 63 = .ok (.lcmp, 1) := by decide +kernel
theorem dX1_one_64 : decode cX1_one 64 = .ok (.ifCond .le 5, 3) := by decide +kernel
theorem dX1_one_67 : decode cX1_one 67 = .ok (.iload_n 3, 1) := by decide +kernel
theorem dX1_one_68 : decode cX1_one 68 = .ok (.istore_n 2, 1) := by decide +kernel
theorem dX1_one_69 : decode cX1_one 69 = .ok (.iinc 3 1, 3) := by decide +kernel
theorem dX1_one_72 : decode cX1_one 72 = .ok (.goto (-68), 3) := by decide +kernel
theorem dX1_one_75 : decode cX1_one 75 = .ok (.aload_n 0, 1) := by decide +kernel
theorem dX1_one_76 : decode cX1_one 76 = .ok (.getfield 17, 3) := by decide +kernel
theorem dX1_one_79 : decode cX1_one 79 = .ok (.iload_n 2, 1) := by decide +kernel
theorem dX1_one_80 : decode cX1_one 80 = .ok (.dup2, 1) := by decide +kernel
theorem dX1_one_81 : decode cX1_one 81 = .ok (.laload, 1) := by decide +kernel
theorem dX1_one_82 : decode cX1_one 82 = .ok (.lconst 1, 1) := by decide +kernel
theorem dX1_one_83 : decode cX1_one 83 = .ok (.ladd, 1) := by decide +kernel
theorem dX1_one_84 : decode cX1_one 84 = .ok (.lastore, 1) := by decide +kernel
theorem dX1_one_85 : decode cX1_one 85 = .ok (.return_, 1) := by decide +kernel
theorem dX1_give_0 : decode cX1_give 0 = .ok (.iload_n 1, 1) := by decide +kernel
theorem dX1_give_1 : decode cX1_give 1 = .ok (.ifCond .ne 9, 3) := by decide +kernel
theorem dX1_give_4 : decode cX1_give 4 = .ok (.aload_n 0, 1) := by decide +kernel
theorem dX1_give_5 : decode cX1_give 5 = .ok (.iload_n 2, 1) := by decide +kernel
theorem dX1_give_6 : decode cX1_give 6 = .ok (.invokevirtual 52, 3) := by decide +kernel
theorem dX1_give_9 : decode cX1_give 9 = .ok (.return_, 1) := by decide +kernel
theorem dX1_give_10 : decode cX1_give 10 = .ok (.iconst 0, 1) := by decide +kernel
theorem dX1_give_11 : decode cX1_give 11 = .ok (.istore_n 3, 1) := by decide +kernel
theorem dX1_give_12 : decode cX1_give 12 = .ok (.iload_n 3, 1) := by decide +kernel
theorem dX1_give_13 : decode cX1_give 13 = .ok (.aload_n 0, 1) := by decide +kernel
theorem dX1_give_14 : decode cX1_give 14 = .ok (.getfield 7, 3) := by decide +kernel
theorem dX1_give_17 : decode cX1_give 17 = .ok (.if_icmp .ge 16, 3) := by decide +kernel
theorem dX1_give_20 : decode cX1_give 20 = .ok (.aload_n 0, 1) := by decide +kernel
theorem dX1_give_21 : decode cX1_give 21 = .ok (.getfield 17, 3) := by decide +kernel
theorem dX1_give_24 : decode cX1_give 24 = .ok (.iload_n 3, 1) := by decide +kernel
theorem dX1_give_25 : decode cX1_give 25 = .ok (.lconst 0, 1) := by decide +kernel
theorem dX1_give_26 : decode cX1_give 26 = .ok (.lastore, 1) := by decide +kernel
theorem dX1_give_27 : decode cX1_give 27 = .ok (.iinc 3 1, 3) := by decide +kernel
theorem dX1_give_30 : decode cX1_give 30 = .ok (.goto (-18), 3) := by decide +kernel
theorem dX1_give_33 : decode cX1_give 33 = .ok (.iconst 0, 1) := by decide +kernel
theorem dX1_give_34 : decode cX1_give 34 = .ok (.istore_n 3, 1) := by decide +kernel
theorem dX1_give_35 : decode cX1_give 35 = .ok (.iload_n 3, 1) := by decide +kernel
theorem dX1_give_36 : decode cX1_give 36 = .ok (.iload_n 2, 1) := by decide +kernel
theorem dX1_give_37 : decode cX1_give 37 = .ok (.if_icmp .ge 14, 3) := by decide +kernel
theorem dX1_give_40 : decode cX1_give 40 = .ok (.aload_n 0, 1) := by decide +kernel
theorem dX1_give_41 : decode cX1_give 41 = .ok (.iload_n 1, 1) := by decide +kernel
theorem dX1_give_42 : decode cX1_give 42 = .ok (.invokevirtual 56, 3) := by decide +kernel
theorem dX1_give_45 : decode cX1_give 45 = .ok (.iinc 3 1, 3) := by decide +kernel
theorem dX1_give_48 : decode cX1_give 48 = .ok (.goto (-13), 3) := by decide +kernel
theorem dX1_give_51 : decode cX1_give 51 = .ok (.return_, 1) := by decide +kernel
theorem dX1_share_0 : decode cX1_share 0 = .ok (.aload_n 0, 1) := by decide +kernel
theorem dX1_share_1 : decode cX1_share 1 = .ok (.iconst 0, 1) := by decide +kernel
theorem dX1_share_2 : decode cX1_share 2 = .ok (.putfield 27, 3) := by decide +kernel
theorem dX1_share_5 : decode cX1_share 5 = .ok (.aload_n 0, 1) := by decide +kernel
theorem dX1_share_6 : decode cX1_share 6 = .ok (.iload_n 1, 1) := by decide +kernel
theorem dX1_share_7 : decode cX1_share 7 = .ok (.invokestatic 59, 3) := by decide +kernel
theorem dX1_share_10 : decode cX1_share 10 = .ok (.ifCond .eq 23, 3) := by decide +kernel
theorem dX1_share_13 : decode cX1_share 13 = .ok (.iload_n 2, 1) := by decide +kernel
theorem dX1_share_14 : decode cX1_share 14 = .ok (.i2l, 1) := by decide +kernel
theorem dX1_share_15 : decode cX1_share 15 = .ok (.lconst 0, 1) := by decide +kernel
theorem dX1_share_16 : decode cX1_share 16 = .ok (.ldc2_w 62, 3) := by decide +kernel
theorem dX1_share_19 : decode cX1_share 19 = .ok (.invokestatic 30, 3) := by decide +kernel
theorem dX1_share_22 : decode cX1_share 22 = .ok (.ifCond .eq 11, 3) := by decide +kernel
theorem dX1_share_25 : decode cX1_share 25 = .ok (.aload_n 0, 1) := by decide +kernel
theorem dX1_share_26 : decode cX1_share 26 = .ok (.iload_n 3, 1) := by decide +kernel
theorem dX1_share_27 : decode cX1_share 27 = .ok (.invokevirtual 42, 3) := by decide +kernel
theorem dX1_share_30 : decode cX1_share 30 = .ok (.ifCond .ne 7, 3) := by decide +kernel
theorem dX1_share_33 : decode cX1_share 33 = .ok (.iconst 1, 1) := by decide +kernel
theorem dX1_share_34 : decode cX1_share 34 = .ok (.goto 4, 3) := by decide +kernel
end
section
/-! rows that decode each instruction, by program -/
theorem dX1_share_37 : decode cX1_share 37 = .ok (.iconst 0, 1) := by decide +kernel
theorem dX1_share_38 : decode cX1_share 38 = .ok (.iconst 1, 1) := by decide +kernel
theorem dX1_share_39 : decode cX1_share 39 = .ok (.invokevirtual 38, 3) := by decide +kernel
theorem dX1_share_42 : decode cX1_share 42 = .ok (.ifCond .ne 25, 3) := by decide +kernel
theorem dX1_share_45 : decode cX1_share 45 = .ok (.aload_n 0, 1) := by decide +kernel
theorem dX1_share_46 : decode cX1_share 46 = .ok (.aload_n 0, 1) := by decide +kernel
theorem dX1_share_47 : decode cX1_share 47 = .ok (.invokevirtual 48, 3) := by decide +kernel
theorem dX1_share_50 : decode cX1_share 50 = .ok (.lconst 0, 1) := by decide +kernel
theorem dX1_share_51 : decode cX1_share 51 = .ok (.lcmp, 1) := by decide +kernel
theorem dX1_share_52 : decode cX1_share 52 = .ok (.ifCond .ne 7, 3) := by decide +kernel
theorem dX1_share_55 : decode cX1_share 55 = .ok (.iconst 1, 1) := by decide +kernel
theorem dX1_share_56 : decode cX1_share 56 = .ok (.goto 4, 3) := by decide +kernel
theorem dX1_share_59 : decode cX1_share 59 = .ok (.iconst 0, 1) := by decide +kernel
theorem dX1_share_60 : decode cX1_share 60 = .ok (.iconst 2, 1) := by decide +kernel
theorem dX1_share_61 : decode cX1_share 61 = .ok (.invokevirtual 38, 3) := by decide +kernel
theorem dX1_share_64 : decode cX1_share 64 = .ok (.ifCond .eq 5, 3) := by decide +kernel
theorem dX1_share_67 : decode cX1_share 67 = .ok (.iconst 0, 1) := by decide +kernel
theorem dX1_share_68 : decode cX1_share 68 = .ok (.ireturn, 1) := by decide +kernel
theorem dX1_share_69 : decode cX1_share 69 = .ok (.aload_n 0, 1) := by decide +kernel
theorem dX1_share_70 : decode cX1_share 70 = .ok (.iload_n 1, 1) := by decide +kernel
theorem dX1_share_71 : decode cX1_share 71 = .ok (.iload_n 2, 1) := by decide +kernel
theorem dX1_share_72 : decode cX1_share 72 = .ok (.invokevirtual 64, 3) := by decide +kernel
theorem dX1_share_75 : decode cX1_share 75 = .ok (.aload_n 0, 1) := by decide +kernel
theorem dX1_share_76 : decode cX1_share 76 = .ok (.getfield 17, 3) := by decide +kernel
theorem dX1_share_79 : decode cX1_share 79 = .ok (.iload_n 3, 1) := by decide +kernel
theorem dX1_share_80 : decode cX1_share 80 = .ok (.laload, 1) := by decide +kernel
theorem dX1_share_81 : decode cX1_share 81 = .ok (.l2i, 1) := by decide +kernel
theorem dX1_share_82 : decode cX1_share 82 = .ok (.ireturn, 1) := by decide +kernel
theorem dX1_over_0 : decode cX1_over 0 = .ok (.aload_n 0, 1) := by decide +kernel
theorem dX1_over_1 : decode cX1_over 1 = .ok (.iconst 0, 1) := by decide +kernel
theorem dX1_over_2 : decode cX1_over 2 = .ok (.putfield 27, 3) := by decide +kernel
theorem dX1_over_5 : decode cX1_over 5 = .ok (.aload_n 0, 1) := by decide +kernel
theorem dX1_over_6 : decode cX1_over 6 = .ok (.iload_n 1, 1) := by decide +kernel
theorem dX1_over_7 : decode cX1_over 7 = .ok (.invokestatic 59, 3) := by decide +kernel
theorem dX1_over_10 : decode cX1_over 10 = .ok (.ifCond .eq 23, 3) := by decide +kernel
theorem dX1_over_13 : decode cX1_over 13 = .ok (.iload_n 2, 1) := by decide +kernel
theorem dX1_over_14 : decode cX1_over 14 = .ok (.i2l, 1) := by decide +kernel
theorem dX1_over_15 : decode cX1_over 15 = .ok (.lconst 0, 1) := by decide +kernel
theorem dX1_over_16 : decode cX1_over 16 = .ok (.ldc2_w 62, 3) := by decide +kernel
theorem dX1_over_19 : decode cX1_over 19 = .ok (.invokestatic 30, 3) := by decide +kernel
theorem dX1_over_22 : decode cX1_over 22 = .ok (.ifCond .eq 11, 3) := by decide +kernel
theorem dX1_over_25 : decode cX1_over 25 = .ok (.aload_n 0, 1) := by decide +kernel
theorem dX1_over_26 : decode cX1_over 26 = .ok (.iload_n 3, 1) := by decide +kernel
theorem dX1_over_27 : decode cX1_over 27 = .ok (.invokevirtual 42, 3) := by decide +kernel
theorem dX1_over_30 : decode cX1_over 30 = .ok (.ifCond .ne 7, 3) := by decide +kernel
theorem dX1_over_33 : decode cX1_over 33 = .ok (.iconst 1, 1) := by decide +kernel
theorem dX1_over_34 : decode cX1_over 34 = .ok (.goto 4, 3) := by decide +kernel
theorem dX1_over_37 : decode cX1_over 37 = .ok (.iconst 0, 1) := by decide +kernel
theorem dX1_over_38 : decode cX1_over 38 = .ok (.iconst 1, 1) := by decide +kernel
theorem dX1_over_39 : decode cX1_over 39 = .ok (.invokevirtual 38, 3) := by decide +kernel
theorem dX1_over_42 : decode cX1_over 42 = .ok (.ifCond .ne 25, 3) := by decide +kernel
theorem dX1_over_45 : decode cX1_over 45 = .ok (.aload_n 0, 1) := by decide +kernel
theorem dX1_over_46 : decode cX1_over 46 = .ok (.aload_n 0, 1) := by decide +kernel
theorem dX1_over_47 : decode cX1_over 47 = .ok (.invokevirtual 48, 3) := by decide +kernel
theorem dX1_over_50 : decode cX1_over 50 = .ok (.lconst 0, 1) := by decide +kernel
theorem dX1_over_51 : decode cX1_over 51 = .ok (.lcmp, 1) := by decide +kernel
theorem dX1_over_52 : decode cX1_over 52 = .ok (.ifCond .ne 7, 3) := by decide +kernel
theorem dX1_over_55 : decode cX1_over 55 = .ok (.iconst 1, 1) := by decide +kernel
theorem dX1_over_56 : decode cX1_over 56 = .ok (.goto 4, 3) := by decide +kernel
theorem dX1_over_59 : decode cX1_over 59 = .ok (.iconst 0, 1) := by decide +kernel
theorem dX1_over_60 : decode cX1_over 60 = .ok (.iconst 2, 1) := by decide +kernel
theorem dX1_over_61 : decode cX1_over 61 = .ok (.invokevirtual 38, 3) := by decide +kernel
theorem dX1_over_64 : decode cX1_over 64 = .ok (.ifCond .eq 5, 3) := by decide +kernel
theorem dX1_over_67 : decode cX1_over 67 = .ok (.lconst 0, 1) := by decide +kernel
theorem dX1_over_68 : decode cX1_over 68 = .ok (.lreturn, 1) := by decide +kernel
theorem dX1_over_69 : decode cX1_over 69 = .ok (.aload_n 0, 1) := by decide +kernel
theorem dX1_over_70 : decode cX1_over 70 = .ok (.iload_n 1, 1) := by decide +kernel
theorem dX1_over_71 : decode cX1_over 71 = .ok (.iload_n 2, 1) := by decide +kernel
theorem dX1_over_72 : decode cX1_over 72 = .ok (.invokevirtual 64, 3) := by decide +kernel
theorem dX1_over_75 : decode cX1_over 75 = .ok (.aload_n 0, 1) := by decide +kernel
theorem dX1_over_76 : decode cX1_over 76 = .ok (.getfield 17, 3) := by decide +kernel
theorem dX1_over_79 : decode cX1_over 79 = .ok (.iload_n 3, 1) := by decide +kernel
theorem dX1_over_80 : decode cX1_over 80 = .ok (.laload, 1) := by decide +kernel
theorem dX1_over_81 : decode cX1_over 81 = .ok (.aload_n 0, 1) := by decide +kernel
theorem dX1_over_82 : decode cX1_over 82 = .ok (.invokevirtual 48, 3) := by decide +kernel
theorem dX1_over_85 : decode cX1_over 85 = .ok (.lmul, 1) := by decide +kernel
theorem dX1_over_86 : decode cX1_over 86 = .ok (.iload_n 2, 1) := by decide +kernel
theorem dX1_over_87 : decode cX1_over 87 = .ok (.i2l, 1) := by decide +kernel
theorem dX1_over_88 : decode cX1_over 88 = .ok (.aload_n 0, 1) := by decide +kernel
theorem dX1_over_89 : decode cX1_over 89 = .ok (.getfield 13, 3) := by decide +kernel
theorem dX1_over_92 : decode cX1_over 92 = .ok (.iload_n 3, 1) := by decide +kernel
theorem dX1_over_93 : decode cX1_over 93 = .ok (.laload, 1) := by decide +kernel
theorem dX1_over_94 : decode cX1_over 94 = .ok (.lmul, 1) := by decide +kernel
theorem dX1_over_95 : decode cX1_over 95 = .ok (.lsub, 1) := by decide +kernel
theorem dX1_over_96 : decode cX1_over 96 = .ok (.lreturn, 1) := by decide +kernel
theorem dX1_next_0 : decode cX1_next 0 = .ok (.aload_n 0, 1) := by decide +kernel
theorem dX1_next_1 : decode cX1_next 1 = .ok (.iconst 0, 1) := by decide +kernel
theorem dX1_next_2 : decode cX1_next 2 = .ok (.putfield 27, 3) := by decide +kernel
theorem dX1_next_5 : decode cX1_next 5 = .ok (.aload_n 0, 1) := by decide +kernel
theorem dX1_next_6 : decode cX1_next 6 = .ok (.iload_n 1, 1) := by decide +kernel
theorem dX1_next_7 : decode cX1_next 7 = .ok (.invokestatic 59, 3) := by decide +kernel
theorem dX1_next_10 : decode cX1_next 10 = .ok (.ifCond .eq 15, 3) := by decide +kernel
theorem dX1_next_13 : decode cX1_next 13 = .ok (.iload_n 2, 1) := by decide +kernel
theorem dX1_next_14 : decode cX1_next 14 = .ok (.i2l, 1) := by decide +kernel
theorem dX1_next_15 : decode cX1_next 15 = .ok (.lconst 0, 1) := by decide +kernel
theorem dX1_next_16 : decode cX1_next 16 = .ok (.ldc2_w 68, 3) := by decide +kernel
theorem dX1_next_19 : decode cX1_next 19 = .ok (.invokestatic 30, 3) := by decide +kernel
theorem dX1_next_22 : decode cX1_next 22 = .ok (.ifCond .ne 7, 3) := by decide +kernel
theorem dX1_next_25 : decode cX1_next 25 = .ok (.iconst 1, 1) := by decide +kernel
theorem dX1_next_26 : decode cX1_next 26 = .ok (.goto 4, 3) := by decide +kernel
theorem dX1_next_29 : decode cX1_next 29 = .ok (.iconst 0, 1) := by decide +kernel
theorem dX1_next_30 : decode cX1_next 30 = .ok (.iconst 1, 1) := by decide +kernel
theorem dX1_next_31 : decode cX1_next 31 = .ok (.invokevirtual 38, 3) := by decide +kernel
theorem dX1_next_34 : decode cX1_next 34 = .ok (.ifCond .ne 25, 3) := by decide +kernel
theorem dX1_next_37 : decode cX1_next 37 = .ok (.aload_n 0, 1) := by decide +kernel
theorem dX1_next_38 : decode cX1_next 38 = .ok (.aload_n 0, 1) := by decide +kernel
theorem dX1_next_39 : decode cX1_next 39 = .ok (.invokevirtual 48, 3) := by decide +kernel
theorem dX1_next_42 : decode cX1_next 42 = .ok (.lconst 0, 1) := by decide +kernel
theorem dX1_next_43 : decode cX1_next 43 = .ok (.lcmp, 1) := by decide +kernel
theorem dX1_next_44 : decode cX1_next 44 = .ok (.ifCond .ne 7, 3) := by decide +kernel
theorem dX1_next_47 : decode cX1_next 47 = .ok (.iconst 1, 1) := by decide +kernel
theorem dX1_next_48 : decode cX1_next 48 = .ok (.goto 4, 3) := by decide +kernel
theorem dX1_next_51 : decode cX1_next 51 = .ok (.iconst 0, 1) := by decide +kernel
theorem dX1_next_52 : decode cX1_next 52 = .ok (.iconst 2, 1) := by decide +kernel
theorem dX1_next_53 : decode cX1_next 53 = .ok (.invokevirtual 38, 3) := by decide +kernel
theorem dX1_next_56 : decode cX1_next 56 = .ok (.ifCond .eq 5, 3) := by decide +kernel
theorem dX1_next_59 : decode cX1_next 59 = .ok (.iconst 0, 1) := by decide +kernel
theorem dX1_next_60 : decode cX1_next 60 = .ok (.ireturn, 1) := by decide +kernel
theorem dX1_next_61 : decode cX1_next 61 = .ok (.aload_n 0, 1) := by decide +kernel
theorem dX1_next_62 : decode cX1_next 62 = .ok (.iload_n 1, 1) := by decide +kernel
theorem dX1_next_63 : decode cX1_next 63 = .ok (.iload_n 2, 1) := by decide +kernel
theorem dX1_next_64 : decode cX1_next 64 = .ok (.invokevirtual 64, 3) := by decide +kernel
theorem dX1_next_67 : decode cX1_next 67 = .ok (.iconst 0, 1) := by decide +kernel
theorem dX1_next_68 : decode cX1_next 68 = .ok (.istore_n 3, 1) := by decide +kernel
theorem dX1_next_69 : decode cX1_next 69 = .ok (.iload_n 3, 1) := by decide +kernel
theorem dX1_next_70 : decode cX1_next 70 = .ok (.aload_n 0, 1) := by decide +kernel
theorem dX1_next_71 : decode cX1_next 71 = .ok (.getfield 7, 3) := by decide +kernel
theorem dX1_next_74 : decode cX1_next 74 = .ok (.if_icmp .ge 21, 3) := by decide +kernel
theorem dX1_next_77 : decode cX1_next 77 = .ok (.aload_n 0, 1) := by decide +kernel
theorem dX1_next_78 : decode cX1_next 78 = .ok (.getfield 20, 3) := by decide +kernel
theorem dX1_next_81 : decode cX1_next 81 = .ok (.iload_n 3, 1) := by decide +kernel
theorem dX1_next_82 : decode cX1_next 82 = .ok (.aload_n 0, 1) := by decide +kernel
theorem dX1_next_83 : decode cX1_next 83 = .ok (.getfield 17, 3) := by decide +kernel
theorem dX1_next_86 : decode cX1_next 86 = .ok (.iload_n 3, 1) := by decide +kernel
theorem dX1_next_87 : decode cX1_next 87 = .ok (.laload, 1) := by decide +kernel
theorem dX1_next_88 : decode cX1_next 88 = .ok (.lastore, 1) := by decide +kernel
theorem dX1_next_89 : decode cX1_next 89 = .ok (.iinc 3 1, 3) := by decide +kernel
theorem dX1_next_92 : decode cX1_next 92 = .ok (.goto (-23), 3) := by decide +kernel
theorem dX1_next_95 : decode cX1_next 95 = .ok (.aload_n 0, 1) := by decide +kernel
theorem dX1_next_96 : decode cX1_next 96 = .ok (.iload_n 1, 1) := by decide +kernel
theorem dX1_next_97 : decode cX1_next 97 = .ok (.iload_n 2, 1) := by decide +kernel
theorem dX1_next_98 : decode cX1_next 98 = .ok (.iconst 1, 1) := by decide +kernel
theorem dX1_next_99 : decode cX1_next 99 = .ok (.iadd, 1) := by decide +kernel
theorem dX1_next_100 : decode cX1_next 100 = .ok (.invokevirtual 64, 3) := by decide +kernel
theorem dX1_next_103 : decode cX1_next 103 = .ok (.iconst (-1), 1) := by decide +kernel
theorem dX1_next_104 : decode cX1_next 104 = .ok (.istore_n 3, 1) := by decide +kernel
theorem dX1_next_105 : decode cX1_next 105 = .ok (.iconst 0, 1) := by decide +kernel
theorem dX1_next_106 : decode cX1_next 106 = .ok (.istore 4, 2) := by decide +kernel
theorem dX1_next_108 : decode cX1_next 108 = .ok (.iload 4, 2) := by decide +kernel
theorem dX1_next_110 : decode cX1_next 110 = .ok (.aload_n 0, 1) := by decide +kernel
theorem dX1_next_111 : decode cX1_next 111 = .ok (.getfield 7, 3) := by decide +kernel
theorem dX1_next_114 : decode cX1_next 114 = .ok (.if_icmp .ge 59, 3) := by decide +kernel
theorem dX1_next_117 : decode cX1_next 117 = .ok (.aload_n 0, 1) := by decide +kernel
theorem dX1_next_118 : decode cX1_next 118 = .ok (.getfield 17, 3) := by decide +kernel
theorem dX1_next_121 : decode cX1_next 121 = .ok (.iload 4, 2) := by decide +kernel
theorem dX1_next_123 : decode cX1_next 123 = .ok (.laload, 1) := by decide +kernel
theorem dX1_next_124 : decode cX1_next 124 = .ok (.aload_n 0, 1) := by decide +kernel
theorem dX1_next_125 : decode cX1_next 125 = .ok (.getfield 20, 3) := by decide +kernel
theorem dX1_next_128 : decode cX1_next 128 = .ok (.iload 4, 2) := by decide +kernel
theorem dX1_next_130 : decode cX1_next 130 = .ok (.laload, 1) := by decide +kernel
theorem dX1_next_131 : decode cX1_next 131 = .ok (.lcmp, 1) := by decide +kernel
theorem dX1_next_132 : decode cX1_next 132 = .ok (.ifCond .ne 6, 3) := by decide +kernel
theorem dX1_next_135 : decode cX1_next 135 = .ok (.goto 32, 3) := by decide +kernel
theorem dX1_next_138 : decode cX1_next 138 = .ok (.iload_n 3, 1) := by decide +kernel
theorem dX1_next_139 : decode cX1_next 139 = .ok (.ifCond .ge 23, 3) := by decide +kernel
theorem dX1_next_142 : decode cX1_next 142 = .ok (.aload_n 0, 1) := by decide +kernel
theorem dX1_next_143 : decode cX1_next 143 = .ok (.getfield 17, 3) := by decide +kernel
theorem dX1_next_146 : decode cX1_next 146 = .ok (.iload 4, 2) := by decide +kernel
theorem dX1_next_148 : decode cX1_next 148 = .ok (.laload, 1) := by decide +kernel
theorem dX1_next_149 : decode cX1_next 149 = .ok (.aload_n 0, 1) := by decide +kernel
theorem dX1_next_150 : decode cX1_next 150 = .ok (.getfield 20, 3) := by decide +kernel
theorem dX1_next_153 : decode cX1_next 153 = .ok (.iload 4, 2) := by decide +kernel
theorem dX1_next_155 : decode cX1_next 155 = .ok (.laload, 1) := by decide +kernel
theorem dX1_next_156 : decode cX1_next 156 = .ok (.lconst 1, 1) := by decide +kernel
theorem dX1_next_157 : decode cX1_next 157 = .ok (.ladd, 1) := by decide +kernel
theorem dX1_next_158 : decode cX1_next 158 = .ok (.lcmp, 1) := by decide +kernel
theorem dX1_next_159 : decode cX1_next 159 = .ok (.ifCond .eq 5, 3) := by decide +kernel
theorem dX1_next_162 : decode cX1_next 162 = .ok (.iconst (-1), 1) := by decide +kernel
theorem dX1_next_163 : decode cX1_next 163 = .ok (.ireturn, 1) := by decide +kernel
theorem dX1_next_164 : decode cX1_next 164 = .ok (.iload 4, 2) := by decide +kernel
theorem dX1_next_166 : decode cX1_next 166 = .ok (.istore_n 3, 1) := by decide +kernel
theorem dX1_next_167 : decode cX1_next 167 = .ok (.iinc 4 1, 3) := by decide +kernel
theorem dX1_next_170 : decode cX1_next 170 = .ok (.goto (-62), 3) := by decide +kernel
theorem dX1_next_173 : decode cX1_next 173 = .ok (.iload_n 3, 1) := by decide +kernel
theorem dX1_next_174 : decode cX1_next 174 = .ok (.ireturn, 1) := by decide +kernel
theorem dX1_least_0 : decode cX1_least 0 = .ok (.aload_n 0, 1) := by decide +kernel
theorem dX1_least_1 : decode cX1_least 1 = .ok (.iconst 0, 1) := by decide +kernel
theorem dX1_least_2 : decode cX1_least 2 = .ok (.putfield 27, 3) := by decide +kernel
theorem dX1_least_5 : decode cX1_least 5 = .ok (.aload_n 0, 1) := by decide +kernel
theorem dX1_least_6 : decode cX1_least 6 = .ok (.iload_n 1, 1) := by decide +kernel
theorem dX1_least_7 : decode cX1_least 7 = .ok (.invokestatic 59, 3) := by decide +kernel
theorem dX1_least_10 : decode cX1_least 10 = .ok (.ifCond .eq 15, 3) := by decide +kernel
theorem dX1_least_13 : decode cX1_least 13 = .ok (.iload_n 2, 1) := by decide +kernel
theorem dX1_least_14 : decode cX1_least 14 = .ok (.ifCond .lt 11, 3) := by decide +kernel
theorem dX1_least_17 : decode cX1_least 17 = .ok (.aload_n 0, 1) := by decide +kernel
theorem dX1_least_18 : decode cX1_least 18 = .ok (.iload_n 3, 1) := by decide +kernel
theorem dX1_least_19 : decode cX1_least 19 = .ok (.invokevirtual 42, 3) := by decide +kernel
theorem dX1_least_22 : decode cX1_least 22 = .ok (.ifCond .ne 7, 3) := by decide +kernel
theorem dX1_least_25 : decode cX1_least 25 = .ok (.iconst 1, 1) := by decide +kernel
theorem dX1_least_26 : decode cX1_least 26 = .ok (.goto 4, 3) := by decide +kernel
theorem dX1_least_29 : decode cX1_least 29 = .ok (.iconst 0, 1) := by decide +kernel
theorem dX1_least_30 : decode cX1_least 30 = .ok (.iconst 1, 1) := by decide +kernel
theorem dX1_least_31 : decode cX1_least 31 = .ok (.invokevirtual 38, 3) := by decide +kernel
theorem dX1_least_34 : decode cX1_least 34 = .ok (.ifCond .ne 25, 3) := by decide +kernel
theorem dX1_least_37 : decode cX1_least 37 = .ok (.aload_n 0, 1) := by decide +kernel
theorem dX1_least_38 : decode cX1_least 38 = .ok (.aload_n 0, 1) := by decide +kernel
theorem dX1_least_39 : decode cX1_least 39 = .ok (.invokevirtual 48, 3) := by decide +kernel
theorem dX1_least_42 : decode cX1_least 42 = .ok (.lconst 0, 1) := by decide +kernel
theorem dX1_least_43 : decode cX1_least 43 = .ok (.lcmp, 1) := by decide +kernel
theorem dX1_least_44 : decode cX1_least 44 = .ok (.ifCond .ne 7, 3) := by decide +kernel
theorem dX1_least_47 : decode cX1_least 47 = .ok (.iconst 1, 1) := by decide +kernel
theorem dX1_least_48 : decode cX1_least 48 = .ok (.goto 4, 3) := by decide +kernel
theorem dX1_least_51 : decode cX1_least 51 = .ok (.iconst 0, 1) := by decide +kernel
theorem dX1_least_52 : decode cX1_least 52 = .ok (.iconst 2, 1) := by decide +kernel
theorem dX1_least_53 : decode cX1_least 53 = .ok (.invokevirtual 38, 3) := by decide +kernel
theorem dX1_least_56 : decode cX1_least 56 = .ok (.ifCond .eq 5, 3) := by decide +kernel
theorem dX1_least_59 : decode cX1_least 59 = .ok (.iconst 0, 1) := by decide +kernel
theorem dX1_least_60 : decode cX1_least 60 = .ok (.ireturn, 1) := by decide +kernel
theorem dX1_least_61 : decode cX1_least 61 = .ok (.aload_n 0, 1) := by decide +kernel
theorem dX1_least_62 : decode cX1_least 62 = .ok (.iload_n 1, 1) := by decide +kernel
theorem dX1_least_63 : decode cX1_least 63 = .ok (.iconst 0, 1) := by decide +kernel
theorem dX1_least_64 : decode cX1_least 64 = .ok (.invokevirtual 64, 3) := by decide +kernel
theorem dX1_least_67 : decode cX1_least 67 = .ok (.iconst 0, 1) := by decide +kernel
theorem dX1_least_68 : decode cX1_least 68 = .ok (.istore 4, 2) := by decide +kernel
theorem dX1_least_70 : decode cX1_least 70 = .ok (.iload 4, 2) := by decide +kernel
theorem dX1_least_72 : decode cX1_least 72 = .ok (.sipush 10000, 3) := by decide +kernel
theorem dX1_least_75 : decode cX1_least 75 = .ok (.if_icmp .gt 43, 3) := by decide +kernel
theorem dX1_least_78 : decode cX1_least 78 = .ok (.iload_n 1, 1) := by decide +kernel
theorem dX1_least_79 : decode cX1_least 79 = .ok (.ifCond .ne 9, 3) := by decide +kernel
theorem dX1_least_82 : decode cX1_least 82 = .ok (.aload_n 0, 1) := by decide +kernel
theorem dX1_least_83 : decode cX1_least 83 = .ok (.iload 4, 2) := by decide +kernel
theorem dX1_least_85 : decode cX1_least 85 = .ok (.invokevirtual 52, 3) := by decide +kernel
theorem dX1_least_88 : decode cX1_least 88 = .ok (.aload_n 0, 1) := by decide +kernel
theorem dX1_least_89 : decode cX1_least 89 = .ok (.getfield 17, 3) := by decide +kernel
theorem dX1_least_92 : decode cX1_least 92 = .ok (.iload_n 3, 1) := by decide +kernel
theorem dX1_least_93 : decode cX1_least 93 = .ok (.laload, 1) := by decide +kernel
theorem dX1_least_94 : decode cX1_least 94 = .ok (.iload_n 2, 1) := by decide +kernel
theorem dX1_least_95 : decode cX1_least 95 = .ok (.i2l, 1) := by decide +kernel
theorem dX1_least_96 : decode cX1_least 96 = .ok (.lcmp, 1) := by decide +kernel
theorem dX1_least_97 : decode cX1_least 97 = .ok (.ifCond .lt 6, 3) := by decide +kernel
theorem dX1_least_100 : decode cX1_least 100 = .ok (.iload 4, 2) := by decide +kernel
theorem dX1_least_102 : decode cX1_least 102 = .ok (.ireturn, 1) := by decide +kernel
theorem dX1_least_103 : decode cX1_least 103 = .ok (.iload_n 1, 1) := by decide +kernel
theorem dX1_least_104 : decode cX1_least 104 = .ok (.ifCond .le 8, 3) := by decide +kernel
theorem dX1_least_107 : decode cX1_least 107 = .ok (.aload_n 0, 1) := by decide +kernel
theorem dX1_least_108 : decode cX1_least 108 = .ok (.iload_n 1, 1) := by decide +kernel
theorem dX1_least_109 : decode cX1_least 109 = .ok (.invokevirtual 56, 3) := by decide +kernel
theorem dX1_least_112 : decode cX1_least 112 = .ok (.iinc 4 1, 3) := by decide +kernel
theorem dX1_least_115 : decode cX1_least 115 = .ok (.goto (-45), 3) := by decide +kernel
theorem dX1_least_118 : decode cX1_least 118 = .ok (.iconst (-1), 1) := by decide +kernel
theorem dX1_least_119 : decode cX1_least 119 = .ok (.ireturn, 1) := by decide +kernel
theorem dX1_count_0 : decode cX1_count 0 = .ok (.aload_n 0, 1) := by decide +kernel
theorem dX1_count_1 : decode cX1_count 1 = .ok (.iconst 0, 1) := by decide +kernel
theorem dX1_count_2 : decode cX1_count 2 = .ok (.putfield 27, 3) := by decide +kernel
theorem dX1_count_5 : decode cX1_count 5 = .ok (.aload_n 0, 1) := by decide +kernel
theorem dX1_count_6 : decode cX1_count 6 = .ok (.iload_n 1, 1) := by decide +kernel
theorem dX1_count_7 : decode cX1_count 7 = .ok (.i2l, 1) := by decide +kernel
theorem dX1_count_8 : decode cX1_count 8 = .ok (.lconst 0, 1) := by decide +kernel
theorem dX1_count_9 : decode cX1_count 9 = .ok (.ldc2_w 34, 3) := by decide +kernel
theorem dX1_count_12 : decode cX1_count 12 = .ok (.invokestatic 30, 3) := by decide +kernel
theorem dX1_count_15 : decode cX1_count 15 = .ok (.ifCond .ne 7, 3) := by decide +kernel
theorem dX1_count_18 : decode cX1_count 18 = .ok (.iconst 1, 1) := by decide +kernel
theorem dX1_count_19 : decode cX1_count 19 = .ok (.goto 4, 3) := by decide +kernel
theorem dX1_count_22 : decode cX1_count 22 = .ok (.iconst 0, 1) := by decide +kernel
theorem dX1_count_23 : decode cX1_count 23 = .ok (.iconst 1, 1) := by decide +kernel
theorem dX1_count_24 : decode cX1_count 24 = .ok (.invokevirtual 38, 3) := by decide +kernel
theorem dX1_count_27 : decode cX1_count 27 = .ok (.ifCond .eq 5, 3) := by decide +kernel
theorem dX1_count_30 : decode cX1_count 30 = .ok (.iconst 0, 1) := by decide +kernel
theorem dX1_count_31 : decode cX1_count 31 = .ok (.ireturn, 1) := by decide +kernel
theorem dX1_count_32 : decode cX1_count 32 = .ok (.iconst 0, 1) := by decide +kernel
theorem dX1_count_33 : decode cX1_count 33 = .ok (.istore_n 2, 1) := by decide +kernel
theorem dX1_count_34 : decode cX1_count 34 = .ok (.iconst 0, 1) := by decide +kernel
theorem dX1_count_35 : decode cX1_count 35 = .ok (.istore_n 3, 1) := by decide +kernel
theorem dX1_count_36 : decode cX1_count 36 = .ok (.iload_n 3, 1) := by decide +kernel
theorem dX1_count_37 : decode cX1_count 37 = .ok (.aload_n 0, 1) := by decide +kernel
theorem dX1_count_38 : decode cX1_count 38 = .ok (.getfield 7, 3) := by decide +kernel
theorem dX1_count_41 : decode cX1_count 41 = .ok (.if_icmp .ge 23, 3) := by decide +kernel
theorem dX1_count_44 : decode cX1_count 44 = .ok (.aload_n 0, 1) := by decide +kernel
theorem dX1_count_45 : decode cX1_count 45 = .ok (.getfield 13, 3) := by decide +kernel
theorem dX1_count_48 : decode cX1_count 48 = .ok (.iload_n 3, 1) := by decide +kernel
theorem dX1_count_49 : decode cX1_count 49 = .ok (.laload, 1) := by decide +kernel
theorem dX1_count_50 : decode cX1_count 50 = .ok (.lconst 0, 1) := by decide +kernel
theorem dX1_count_51 : decode cX1_count 51 = .ok (.lcmp, 1) := by decide +kernel
theorem dX1_count_52 : decode cX1_count 52 = .ok (.ifCond .le 6, 3) := by decide +kernel
theorem dX1_count_55 : decode cX1_count 55 = .ok (.iinc 2 1, 3) := by decide +kernel
theorem dX1_count_58 : decode cX1_count 58 = .ok (.iinc 3 1, 3) := by decide +kernel
theorem dX1_count_61 : decode cX1_count 61 = .ok (.goto (-25), 3) := by decide +kernel
theorem dX1_count_64 : decode cX1_count 64 = .ok (.iload_n 1, 1) := by decide +kernel
theorem dX1_count_65 : decode cX1_count 65 = .ok (.ifCond .ne 10, 3) := by decide +kernel
theorem dX1_count_68 : decode cX1_count 68 = .ok (.aload_n 0, 1) := by decide +kernel
theorem dX1_count_69 : decode cX1_count 69 = .ok (.getfield 7, 3) := by decide +kernel
theorem dX1_count_72 : decode cX1_count 72 = .ok (.goto 17, 3) := by decide +kernel
theorem dX1_count_75 : decode cX1_count 75 = .ok (.iload_n 1, 1) := by decide +kernel
theorem dX1_count_76 : decode cX1_count 76 = .ok (.iconst 1, 1) := by decide +kernel
theorem dX1_count_77 : decode cX1_count 77 = .ok (.if_icmp .ne 11, 3) := by decide +kernel
theorem dX1_count_80 : decode cX1_count 80 = .ok (.aload_n 0, 1) := by decide +kernel
theorem dX1_count_81 : decode cX1_count 81 = .ok (.invokevirtual 48, 3) := by decide +kernel
theorem dX1_count_84 : decode cX1_count 84 = .ok (.l2i, 1) := by decide +kernel
theorem dX1_count_85 : decode cX1_count 85 = .ok (.goto 4, 3) := by decide +kernel
theorem dX1_count_88 : decode cX1_count 88 = .ok (.iload_n 2, 1) := by decide +kernel
theorem dX1_count_89 : decode cX1_count 89 = .ok (.ireturn, 1) := by decide +kernel
theorem dL_begin_0 : decode cL_begin 0 = .ok (.aload_n 0, 1) := by decide +kernel
theorem dL_begin_1 : decode cL_begin 1 = .ok (.iload_n 1, 1) := by decide +kernel
theorem dL_begin_2 : decode cL_begin 2 = .ok (.invokevirtual 7, 3) := by decide +kernel
theorem dL_begin_5 : decode cL_begin 5 = .ok (.goto 6, 3) := by decide +kernel
theorem dL_begin_8 : decode cL_begin 8 = .ok (.astore_n 2, 1) := by decide +kernel
theorem dL_begin_9 : decode cL_begin 9 = .ok (.iconst 1, 1) := by decide +kernel
theorem dL_begin_10 : decode cL_begin 10 = .ok (.ireturn, 1) := by decide +kernel
theorem dL_begin_11 : decode cL_begin 11 = .ok (.iconst 0, 1) := by decide +kernel
theorem dL_begin_12 : decode cL_begin 12 = .ok (.ireturn, 1) := by decide +kernel
theorem dL_weight_0 : decode cL_weight 0 = .ok (.aload_n 3, 1) := by decide +kernel
theorem dL_weight_1 : decode cL_weight 1 = .ok (.iconst 0, 1) := by decide +kernel
theorem dL_weight_2 : decode cL_weight 2 = .ok (.aload_n 0, 1) := by decide +kernel
theorem dL_weight_3 : decode cL_weight 3 = .ok (.iload_n 1, 1) := by decide +kernel
theorem dL_weight_4 : decode cL_weight 4 = .ok (.iload_n 2, 1) := by decide +kernel
theorem dL_weight_5 : decode cL_weight 5 = .ok (.invokevirtual 15, 3) := by decide +kernel
theorem dL_weight_8 : decode cL_weight 8 = .ok (.i2l, 1) := by decide +kernel
theorem dL_weight_9 : decode cL_weight 9 = .ok (.lastore, 1) := by decide +kernel
theorem dL_weight_10 : decode cL_weight 10 = .ok (.goto 7, 3) := by decide +kernel
theorem dL_weight_13 : decode cL_weight 13 = .ok (.astore 4, 2) := by decide +kernel
theorem dL_weight_15 : decode cL_weight 15 = .ok (.iconst 1, 1) := by decide +kernel
theorem dL_weight_16 : decode cL_weight 16 = .ok (.ireturn, 1) := by decide +kernel
theorem dL_weight_17 : decode cL_weight 17 = .ok (.iconst 0, 1) := by decide +kernel
theorem dL_weight_18 : decode cL_weight 18 = .ok (.ireturn, 1) := by decide +kernel
theorem dL_share_0 : decode cL_share 0 = .ok (.aload 4, 2) := by decide +kernel
theorem dL_share_2 : decode cL_share 2 = .ok (.iconst 0, 1) := by decide +kernel
theorem dL_share_3 : decode cL_share 3 = .ok (.aload_n 0, 1) := by decide +kernel
theorem dL_share_4 : decode cL_share 4 = .ok (.iload_n 1, 1) := by decide +kernel
theorem dL_share_5 : decode cL_share 5 = .ok (.iload_n 2, 1) := by decide +kernel
theorem dL_share_6 : decode cL_share 6 = .ok (.iload_n 3, 1) := by decide +kernel
theorem dL_share_7 : decode cL_share 7 = .ok (.invokevirtual 19, 3) := by decide +kernel
theorem dL_share_10 : decode cL_share 10 = .ok (.i2l, 1) := by decide +kernel
theorem dL_share_11 : decode cL_share 11 = .ok (.lastore, 1) := by decide +kernel
theorem dL_share_12 : decode cL_share 12 = .ok (.goto 11, 3) := by decide +kernel
theorem dL_share_15 : decode cL_share 15 = .ok (.astore 5, 2) := by decide +kernel
theorem dL_share_17 : decode cL_share 17 = .ok (.iconst 1, 1) := by decide +kernel
theorem dL_share_18 : decode cL_share 18 = .ok (.ireturn, 1) := by decide +kernel
theorem dL_share_19 : decode cL_share 19 = .ok (.astore 5, 2) := by decide +kernel
theorem dL_share_21 : decode cL_share 21 = .ok (.iconst 2, 1) := by decide +kernel
theorem dL_share_22 : decode cL_share 22 = .ok (.ireturn, 1) := by decide +kernel
theorem dL_share_23 : decode cL_share 23 = .ok (.iconst 0, 1) := by decide +kernel
theorem dL_share_24 : decode cL_share 24 = .ok (.ireturn, 1) := by decide +kernel
theorem dL_over_0 : decode cL_over 0 = .ok (.aload 4, 2) := by decide +kernel
theorem dL_over_2 : decode cL_over 2 = .ok (.iconst 0, 1) := by decide +kernel
theorem dL_over_3 : decode cL_over 3 = .ok (.aload_n 0, 1) := by decide +kernel
theorem dL_over_4 : decode cL_over 4 = .ok (.iload_n 1, 1) := by decide +kernel
theorem dL_over_5 : decode cL_over 5 = .ok (.iload_n 2, 1) := by decide +kernel
theorem dL_over_6 : decode cL_over 6 = .ok (.iload_n 3, 1) := by decide +kernel
theorem dL_over_7 : decode cL_over 7 = .ok (.invokevirtual 25, 3) := by decide +kernel
theorem dL_over_10 : decode cL_over 10 = .ok (.lastore, 1) := by decide +kernel
theorem dL_over_11 : decode cL_over 11 = .ok (.goto 11, 3) := by decide +kernel
theorem dL_over_14 : decode cL_over 14 = .ok (.astore 5, 2) := by decide +kernel
theorem dL_over_16 : decode cL_over 16 = .ok (.iconst 1, 1) := by decide +kernel
theorem dL_over_17 : decode cL_over 17 = .ok (.ireturn, 1) := by decide +kernel
theorem dL_over_18 : decode cL_over 18 = .ok (.astore 5, 2) := by decide +kernel
theorem dL_over_20 : decode cL_over 20 = .ok (.iconst 2, 1) := by decide +kernel
theorem dL_over_21 : decode cL_over 21 = .ok (.ireturn, 1) := by decide +kernel
theorem dL_over_22 : decode cL_over 22 = .ok (.iconst 0, 1) := by decide +kernel
theorem dL_over_23 : decode cL_over 23 = .ok (.ireturn, 1) := by decide +kernel
theorem dL_next_0 : decode cL_next 0 = .ok (.aload_n 3, 1) := by decide +kernel
theorem dL_next_1 : decode cL_next 1 = .ok (.iconst 0, 1) := by decide +kernel
theorem dL_next_2 : decode cL_next 2 = .ok (.aload_n 0, 1) := by decide +kernel
theorem dL_next_3 : decode cL_next 3 = .ok (.iload_n 1, 1) := by decide +kernel
theorem dL_next_4 : decode cL_next 4 = .ok (.iload_n 2, 1) := by decide +kernel
theorem dL_next_5 : decode cL_next 5 = .ok (.invokevirtual 29, 3) := by decide +kernel
theorem dL_next_8 : decode cL_next 8 = .ok (.i2l, 1) := by decide +kernel
theorem dL_next_9 : decode cL_next 9 = .ok (.lastore, 1) := by decide +kernel
theorem dL_next_10 : decode cL_next 10 = .ok (.goto 11, 3) := by decide +kernel
theorem dL_next_13 : decode cL_next 13 = .ok (.astore 4, 2) := by decide +kernel
theorem dL_next_15 : decode cL_next 15 = .ok (.iconst 1, 1) := by decide +kernel
theorem dL_next_16 : decode cL_next 16 = .ok (.ireturn, 1) := by decide +kernel
theorem dL_next_17 : decode cL_next 17 = .ok (.astore 4, 2) := by decide +kernel
theorem dL_next_19 : decode cL_next 19 = .ok (.iconst 2, 1) := by decide +kernel
theorem dL_next_20 : decode cL_next 20 = .ok (.ireturn, 1) := by decide +kernel
theorem dL_next_21 : decode cL_next 21 = .ok (.iconst 0, 1) := by decide +kernel
theorem dL_next_22 : decode cL_next 22 = .ok (.ireturn, 1) := by decide +kernel
theorem dL_least_0 : decode cL_least 0 = .ok (.aload 4, 2) := by decide +kernel
theorem dL_least_2 : decode cL_least 2 = .ok (.iconst 0, 1) := by decide +kernel
theorem dL_least_3 : decode cL_least 3 = .ok (.aload_n 0, 1) := by decide +kernel
theorem dL_least_4 : decode cL_least 4 = .ok (.iload_n 1, 1) := by decide +kernel
theorem dL_least_5 : decode cL_least 5 = .ok (.iload_n 2, 1) := by decide +kernel
theorem dL_least_6 : decode cL_least 6 = .ok (.iload_n 3, 1) := by decide +kernel
theorem dL_least_7 : decode cL_least 7 = .ok (.invokevirtual 32, 3) := by decide +kernel
theorem dL_least_10 : decode cL_least 10 = .ok (.i2l, 1) := by decide +kernel
theorem dL_least_11 : decode cL_least 11 = .ok (.lastore, 1) := by decide +kernel
theorem dL_least_12 : decode cL_least 12 = .ok (.goto 11, 3) := by decide +kernel
theorem dL_least_15 : decode cL_least 15 = .ok (.astore 5, 2) := by decide +kernel
theorem dL_least_17 : decode cL_least 17 = .ok (.iconst 1, 1) := by decide +kernel
theorem dL_least_18 : decode cL_least 18 = .ok (.ireturn, 1) := by decide +kernel
theorem dL_least_19 : decode cL_least 19 = .ok (.astore 5, 2) := by decide +kernel
theorem dL_least_21 : decode cL_least 21 = .ok (.iconst 2, 1) := by decide +kernel
theorem dL_least_22 : decode cL_least 22 = .ok (.ireturn, 1) := by decide +kernel
theorem dL_least_23 : decode cL_least 23 = .ok (.iconst 0, 1) := by decide +kernel
theorem dL_least_24 : decode cL_least 24 = .ok (.ireturn, 1) := by decide +kernel
theorem dL_count_0 : decode cL_count 0 = .ok (.aload_n 2, 1) := by decide +kernel
theorem dL_count_1 : decode cL_count 1 = .ok (.iconst 0, 1) := by decide +kernel
theorem dL_count_2 : decode cL_count 2 = .ok (.aload_n 0, 1) := by decide +kernel
theorem dL_count_3 : decode cL_count 3 = .ok (.iload_n 1, 1) := by decide +kernel
theorem dL_count_4 : decode cL_count 4 = .ok (.invokevirtual 35, 3) := by decide +kernel
theorem dL_count_7 : decode cL_count 7 = .ok (.i2l, 1) := by decide +kernel
theorem dL_count_8 : decode cL_count 8 = .ok (.lastore, 1) := by decide +kernel
theorem dL_count_9 : decode cL_count 9 = .ok (.goto 6, 3) := by decide +kernel
theorem dL_count_12 : decode cL_count 12 = .ok (.astore_n 3, 1) := by decide +kernel
theorem dL_count_13 : decode cL_count 13 = .ok (.iconst 1, 1) := by decide +kernel
theorem dL_count_14 : decode cL_count 14 = .ok (.ireturn, 1) := by decide +kernel
theorem dL_count_15 : decode cL_count 15 = .ok (.iconst 0, 1) := by decide +kernel
theorem dL_count_16 : decode cL_count 16 = .ok (.ireturn, 1) := by decide +kernel
theorem dL_law_0 : decode cL_law 0 = .ok (.new 8, 3) := by decide +kernel
theorem dL_law_3 : decode cL_law 3 = .ok (.dup, 1) := by decide +kernel
theorem dL_law_4 : decode cL_law 4 = .ok (.invokespecial 39, 3) := by decide +kernel
theorem dL_law_7 : decode cL_law 7 = .ok (.astore_n 1, 1) := by decide +kernel
theorem dL_law_8 : decode cL_law 8 = .ok (.new 40, 3) := by decide +kernel
theorem dL_law_11 : decode cL_law 11 = .ok (.dup, 1) := by decide +kernel
theorem dL_law_12 : decode cL_law 12 = .ok (.invokespecial 42, 3) := by decide +kernel
theorem dL_law_15 : decode cL_law 15 = .ok (.astore_n 2, 1) := by decide +kernel
theorem dL_law_16 : decode cL_law 16 = .ok (.iconst 1, 1) := by decide +kernel
theorem dL_law_17 : decode cL_law 17 = .ok (.newarray .long, 2) := by decide +kernel
theorem dL_law_19 : decode cL_law 19 = .ok (.astore_n 3, 1) := by decide +kernel
theorem dL_law_20 : decode cL_law 20 = .ok (.iconst 0, 1) := by decide +kernel
theorem dL_law_21 : decode cL_law 21 = .ok (.istore 4, 2) := by decide +kernel
theorem dL_law_23 : decode cL_law 23 = .ok (.iload 4, 2) := by decide +kernel
theorem dL_law_25 : decode cL_law 25 = .ok (.aload_n 0, 1) := by decide +kernel
theorem dL_law_26 : decode cL_law 26 = .ok (.arraylength, 1) := by decide +kernel
theorem dL_law_27 : decode cL_law 27 = .ok (.iconst 4, 1) := by decide +kernel
theorem dL_law_28 : decode cL_law 28 = .ok (.isub, 1) := by decide +kernel
theorem dL_law_29 : decode cL_law 29 = .ok (.if_icmp .gt 524, 3) := by decide +kernel
theorem dL_law_32 : decode cL_law 32 = .ok (.aload_n 0, 1) := by decide +kernel
theorem dL_law_33 : decode cL_law 33 = .ok (.iload 4, 2) := by decide +kernel
theorem dL_law_35 : decode cL_law 35 = .ok (.iaload, 1) := by decide +kernel
theorem dL_law_36 : decode cL_law 36 = .ok (.bipush 7, 2) := by decide +kernel
theorem dL_law_38 : decode cL_law 38 = .ok (.iand, 1) := by decide +kernel
theorem dL_law_39 : decode cL_law 39 = .ok (.tableswitch 508 0 6 #[41, 77, 145, 225, 304, 372, 452], 41) := by decide +kernel
theorem dL_law_80 : decode cL_law 80 = .ok (.aload_n 1, 1) := by decide +kernel
theorem dL_law_81 : decode cL_law 81 = .ok (.aload_n 0, 1) := by decide +kernel
theorem dL_law_82 : decode cL_law 82 = .ok (.iload 4, 2) := by decide +kernel
theorem dL_law_84 : decode cL_law 84 = .ok (.iconst 1, 1) := by decide +kernel
theorem dL_law_85 : decode cL_law 85 = .ok (.iadd, 1) := by decide +kernel
theorem dL_law_86 : decode cL_law 86 = .ok (.iaload, 1) := by decide +kernel
theorem dL_law_87 : decode cL_law 87 = .ok (.invokestatic 43, 3) := by decide +kernel
theorem dL_law_90 : decode cL_law 90 = .ok (.istore 5, 2) := by decide +kernel
theorem dL_law_92 : decode cL_law 92 = .ok (.aload_n 2, 1) := by decide +kernel
theorem dL_law_93 : decode cL_law 93 = .ok (.aload_n 0, 1) := by decide +kernel
theorem dL_law_94 : decode cL_law 94 = .ok (.iload 4, 2) := by decide +kernel
theorem dL_law_96 : decode cL_law 96 = .ok (.iconst 1, 1) := by decide +kernel
theorem dL_law_97 : decode cL_law 97 = .ok (.iadd, 1) := by decide +kernel
theorem dL_law_98 : decode cL_law 98 = .ok (.iaload, 1) := by decide +kernel
theorem dL_law_99 : decode cL_law 99 = .ok (.invokevirtual 48, 3) := by decide +kernel
theorem dL_law_102 : decode cL_law 102 = .ok (.aload_n 2, 1) := by decide +kernel
theorem dL_law_103 : decode cL_law 103 = .ok (.invokevirtual 49, 3) := by decide +kernel
theorem dL_law_106 : decode cL_law 106 = .ok (.iload 5, 2) := by decide +kernel
end
section
/-! rows that decode each instruction, by program -/
theorem dL_law_108 : decode cL_law 108 = .ok (.if_icmp .eq 5, 3) := by decide +kernel
theorem dL_law_111 : decode cL_law 111 = .ok (.iconst 0, 1) := by decide +kernel
theorem dL_law_112 : decode cL_law 112 = .ok (.ireturn, 1) := by decide +kernel
theorem dL_law_113 : decode cL_law 113 = .ok (.goto 434, 3) := by decide +kernel
theorem dL_law_116 : decode cL_law 116 = .ok (.aload_n 1, 1) := by decide +kernel
theorem dL_law_117 : decode cL_law 117 = .ok (.aload_n 0, 1) := by decide +kernel
theorem dL_law_118 : decode cL_law 118 = .ok (.iload 4, 2) := by decide +kernel
theorem dL_law_120 : decode cL_law 120 = .ok (.iconst 1, 1) := by decide +kernel
theorem dL_law_121 : decode cL_law 121 = .ok (.iadd, 1) := by decide +kernel
theorem dL_law_122 : decode cL_law 122 = .ok (.iaload, 1) := by decide +kernel
theorem dL_law_123 : decode cL_law 123 = .ok (.aload_n 0, 1) := by decide +kernel
theorem dL_law_124 : decode cL_law 124 = .ok (.iload 4, 2) := by decide +kernel
theorem dL_law_126 : decode cL_law 126 = .ok (.iconst 2, 1) := by decide +kernel
theorem dL_law_127 : decode cL_law 127 = .ok (.iadd, 1) := by decide +kernel
theorem dL_law_128 : decode cL_law 128 = .ok (.iaload, 1) := by decide +kernel
theorem dL_law_129 : decode cL_law 129 = .ok (.aload_n 3, 1) := by decide +kernel
theorem dL_law_130 : decode cL_law 130 = .ok (.invokestatic 53, 3) := by decide +kernel
theorem dL_law_133 : decode cL_law 133 = .ok (.istore 5, 2) := by decide +kernel
theorem dL_law_135 : decode cL_law 135 = .ok (.aload_n 2, 1) := by decide +kernel
theorem dL_law_136 : decode cL_law 136 = .ok (.aload_n 0, 1) := by decide +kernel
theorem dL_law_137 : decode cL_law 137 = .ok (.iload 4, 2) := by decide +kernel
theorem dL_law_139 : decode cL_law 139 = .ok (.iconst 1, 1) := by decide +kernel
theorem dL_law_140 : decode cL_law 140 = .ok (.iadd, 1) := by decide +kernel
theorem dL_law_141 : decode cL_law 141 = .ok (.iaload, 1) := by decide +kernel
theorem dL_law_142 : decode cL_law 142 = .ok (.aload_n 0, 1) := by decide +kernel
theorem dL_law_143 : decode cL_law 143 = .ok (.iload 4, 2) := by decide +kernel
theorem dL_law_145 : decode cL_law 145 = .ok (.iconst 2, 1) := by decide +kernel
theorem dL_law_146 : decode cL_law 146 = .ok (.iadd, 1) := by decide +kernel
theorem dL_law_147 : decode cL_law 147 = .ok (.iaload, 1) := by decide +kernel
theorem dL_law_148 : decode cL_law 148 = .ok (.invokevirtual 56, 3) := by decide +kernel
theorem dL_law_151 : decode cL_law 151 = .ok (.istore 6, 2) := by decide +kernel
theorem dL_law_153 : decode cL_law 153 = .ok (.aload_n 2, 1) := by decide +kernel
theorem dL_law_154 : decode cL_law 154 = .ok (.invokevirtual 49, 3) := by decide +kernel
theorem dL_law_157 : decode cL_law 157 = .ok (.iload 5, 2) := by decide +kernel
theorem dL_law_159 : decode cL_law 159 = .ok (.if_icmp .eq 5, 3) := by decide +kernel
theorem dL_law_162 : decode cL_law 162 = .ok (.iconst 0, 1) := by decide +kernel
theorem dL_law_163 : decode cL_law 163 = .ok (.ireturn, 1) := by decide +kernel
theorem dL_law_164 : decode cL_law 164 = .ok (.iload 5, 2) := by decide +kernel
theorem dL_law_166 : decode cL_law 166 = .ok (.ifCond .ne 15, 3) := by decide +kernel
theorem dL_law_169 : decode cL_law 169 = .ok (.aload_n 3, 1) := by decide +kernel
theorem dL_law_170 : decode cL_law 170 = .ok (.iconst 0, 1) := by decide +kernel
theorem dL_law_171 : decode cL_law 171 = .ok (.laload, 1) := by decide +kernel
theorem dL_law_172 : decode cL_law 172 = .ok (.iload 6, 2) := by decide +kernel
theorem dL_law_174 : decode cL_law 174 = .ok (.i2l, 1) := by decide +kernel
theorem dL_law_175 : decode cL_law 175 = .ok (.lcmp, 1) := by decide +kernel
theorem dL_law_176 : decode cL_law 176 = .ok (.ifCond .eq 5, 3) := by decide +kernel
theorem dL_law_179 : decode cL_law 179 = .ok (.iconst 0, 1) := by decide +kernel
theorem dL_law_180 : decode cL_law 180 = .ok (.ireturn, 1) := by decide +kernel
theorem dL_law_181 : decode cL_law 181 = .ok (.goto 366, 3) := by decide +kernel
theorem dL_law_184 : decode cL_law 184 = .ok (.aload_n 1, 1) := by decide +kernel
theorem dL_law_185 : decode cL_law 185 = .ok (.aload_n 0, 1) := by decide +kernel
theorem dL_law_186 : decode cL_law 186 = .ok (.iload 4, 2) := by decide +kernel
theorem dL_law_188 : decode cL_law 188 = .ok (.iconst 1, 1) := by decide +kernel
theorem dL_law_189 : decode cL_law 189 = .ok (.iadd, 1) := by decide +kernel
theorem dL_law_190 : decode cL_law 190 = .ok (.iaload, 1) := by decide +kernel
theorem dL_law_191 : decode cL_law 191 = .ok (.aload_n 0, 1) := by decide +kernel
theorem dL_law_192 : decode cL_law 192 = .ok (.iload 4, 2) := by decide +kernel
theorem dL_law_194 : decode cL_law 194 = .ok (.iconst 2, 1) := by decide +kernel
theorem dL_law_195 : decode cL_law 195 = .ok (.iadd, 1) := by decide +kernel
theorem dL_law_196 : decode cL_law 196 = .ok (.iaload, 1) := by decide +kernel
theorem dL_law_197 : decode cL_law 197 = .ok (.aload_n 0, 1) := by decide +kernel
theorem dL_law_198 : decode cL_law 198 = .ok (.iload 4, 2) := by decide +kernel
theorem dL_law_200 : decode cL_law 200 = .ok (.iconst 3, 1) := by decide +kernel
theorem dL_law_201 : decode cL_law 201 = .ok (.iadd, 1) := by decide +kernel
theorem dL_law_202 : decode cL_law 202 = .ok (.iaload, 1) := by decide +kernel
theorem dL_law_203 : decode cL_law 203 = .ok (.aload_n 3, 1) := by decide +kernel
theorem dL_law_204 : decode cL_law 204 = .ok (.invokestatic 57, 3) := by decide +kernel
theorem dL_law_207 : decode cL_law 207 = .ok (.istore 5, 2) := by decide +kernel
theorem dL_law_209 : decode cL_law 209 = .ok (.aload_n 2, 1) := by decide +kernel
theorem dL_law_210 : decode cL_law 210 = .ok (.aload_n 0, 1) := by decide +kernel
theorem dL_law_211 : decode cL_law 211 = .ok (.iload 4, 2) := by decide +kernel
theorem dL_law_213 : decode cL_law 213 = .ok (.iconst 1, 1) := by decide +kernel
theorem dL_law_214 : decode cL_law 214 = .ok (.iadd, 1) := by decide +kernel
theorem dL_law_215 : decode cL_law 215 = .ok (.iaload, 1) := by decide +kernel
theorem dL_law_216 : decode cL_law 216 = .ok (.aload_n 0, 1) := by decide +kernel
theorem dL_law_217 : decode cL_law 217 = .ok (.iload 4, 2) := by decide +kernel
theorem dL_law_219 : decode cL_law 219 = .ok (.iconst 2, 1) := by decide +kernel
theorem dL_law_220 : decode cL_law 220 = .ok (.iadd, 1) := by decide +kernel
theorem dL_law_221 : decode cL_law 221 = .ok (.iaload, 1) := by decide +kernel
theorem dL_law_222 : decode cL_law 222 = .ok (.aload_n 0, 1) := by decide +kernel
theorem dL_law_223 : decode cL_law 223 = .ok (.iload 4, 2) := by decide +kernel
theorem dL_law_225 : decode cL_law 225 = .ok (.iconst 3, 1) := by decide +kernel
theorem dL_law_226 : decode cL_law 226 = .ok (.iadd, 1) := by decide +kernel
theorem dL_law_227 : decode cL_law 227 = .ok (.iaload, 1) := by decide +kernel
theorem dL_law_228 : decode cL_law 228 = .ok (.invokevirtual 60, 3) := by decide +kernel
theorem dL_law_231 : decode cL_law 231 = .ok (.istore 6, 2) := by decide +kernel
theorem dL_law_233 : decode cL_law 233 = .ok (.aload_n 2, 1) := by decide +kernel
theorem dL_law_234 : decode cL_law 234 = .ok (.invokevirtual 49, 3) := by decide +kernel
theorem dL_law_237 : decode cL_law 237 = .ok (.iload 5, 2) := by decide +kernel
theorem dL_law_239 : decode cL_law 239 = .ok (.if_icmp .eq 5, 3) := by decide +kernel
theorem dL_law_242 : decode cL_law 242 = .ok (.iconst 0, 1) := by decide +kernel
theorem dL_law_243 : decode cL_law 243 = .ok (.ireturn, 1) := by decide +kernel
theorem dL_law_244 : decode cL_law 244 = .ok (.iload 5, 2) := by decide +kernel
theorem dL_law_246 : decode cL_law 246 = .ok (.ifCond .ne 15, 3) := by decide +kernel
theorem dL_law_249 : decode cL_law 249 = .ok (.aload_n 3, 1) := by decide +kernel
theorem dL_law_250 : decode cL_law 250 = .ok (.iconst 0, 1) := by decide +kernel
theorem dL_law_251 : decode cL_law 251 = .ok (.laload, 1) := by decide +kernel
theorem dL_law_252 : decode cL_law 252 = .ok (.iload 6, 2) := by decide +kernel
theorem dL_law_254 : decode cL_law 254 = .ok (.i2l, 1) := by decide +kernel
theorem dL_law_255 : decode cL_law 255 = .ok (.lcmp, 1) := by decide +kernel
theorem dL_law_256 : decode cL_law 256 = .ok (.ifCond .eq 5, 3) := by decide +kernel
theorem dL_law_259 : decode cL_law 259 = .ok (.iconst 0, 1) := by decide +kernel
theorem dL_law_260 : decode cL_law 260 = .ok (.ireturn, 1) := by decide +kernel
theorem dL_law_261 : decode cL_law 261 = .ok (.goto 286, 3) := by decide +kernel
theorem dL_law_264 : decode cL_law 264 = .ok (.aload_n 1, 1) := by decide +kernel
theorem dL_law_265 : decode cL_law 265 = .ok (.aload_n 0, 1) := by decide +kernel
theorem dL_law_266 : decode cL_law 266 = .ok (.iload 4, 2) := by decide +kernel
theorem dL_law_268 : decode cL_law 268 = .ok (.iconst 1, 1) := by decide +kernel
theorem dL_law_269 : decode cL_law 269 = .ok (.iadd, 1) := by decide +kernel
theorem dL_law_270 : decode cL_law 270 = .ok (.iaload, 1) := by decide +kernel
theorem dL_law_271 : decode cL_law 271 = .ok (.aload_n 0, 1) := by decide +kernel
theorem dL_law_272 : decode cL_law 272 = .ok (.iload 4, 2) := by decide +kernel
theorem dL_law_274 : decode cL_law 274 = .ok (.iconst 2, 1) := by decide +kernel
theorem dL_law_275 : decode cL_law 275 = .ok (.iadd, 1) := by decide +kernel
theorem dL_law_276 : decode cL_law 276 = .ok (.iaload, 1) := by decide +kernel
theorem dL_law_277 : decode cL_law 277 = .ok (.aload_n 0, 1) := by decide +kernel
theorem dL_law_278 : decode cL_law 278 = .ok (.iload 4, 2) := by decide +kernel
theorem dL_law_280 : decode cL_law 280 = .ok (.iconst 3, 1) := by decide +kernel
theorem dL_law_281 : decode cL_law 281 = .ok (.iadd, 1) := by decide +kernel
theorem dL_law_282 : decode cL_law 282 = .ok (.iaload, 1) := by decide +kernel
theorem dL_law_283 : decode cL_law 283 = .ok (.aload_n 3, 1) := by decide +kernel
theorem dL_law_284 : decode cL_law 284 = .ok (.invokestatic 61, 3) := by decide +kernel
theorem dL_law_287 : decode cL_law 287 = .ok (.istore 5, 2) := by decide +kernel
theorem dL_law_289 : decode cL_law 289 = .ok (.aload_n 2, 1) := by decide +kernel
theorem dL_law_290 : decode cL_law 290 = .ok (.aload_n 0, 1) := by decide +kernel
theorem dL_law_291 : decode cL_law 291 = .ok (.iload 4, 2) := by decide +kernel
theorem dL_law_293 : decode cL_law 293 = .ok (.iconst 1, 1) := by decide +kernel
theorem dL_law_294 : decode cL_law 294 = .ok (.iadd, 1) := by decide +kernel
theorem dL_law_295 : decode cL_law 295 = .ok (.iaload, 1) := by decide +kernel
theorem dL_law_296 : decode cL_law 296 = .ok (.aload_n 0, 1) := by decide +kernel
theorem dL_law_297 : decode cL_law 297 = .ok (.iload 4, 2) := by decide +kernel
theorem dL_law_299 : decode cL_law 299 = .ok (.iconst 2, 1) := by decide +kernel
theorem dL_law_300 : decode cL_law 300 = .ok (.iadd, 1) := by decide +kernel
theorem dL_law_301 : decode cL_law 301 = .ok (.iaload, 1) := by decide +kernel
theorem dL_law_302 : decode cL_law 302 = .ok (.aload_n 0, 1) := by decide +kernel
theorem dL_law_303 : decode cL_law 303 = .ok (.iload 4, 2) := by decide +kernel
theorem dL_law_305 : decode cL_law 305 = .ok (.iconst 3, 1) := by decide +kernel
theorem dL_law_306 : decode cL_law 306 = .ok (.iadd, 1) := by decide +kernel
theorem dL_law_307 : decode cL_law 307 = .ok (.iaload, 1) := by decide +kernel
theorem dL_law_308 : decode cL_law 308 = .ok (.invokevirtual 63, 3) := by decide +kernel
theorem dL_law_311 : decode cL_law 311 = .ok (.lstore 6, 2) := by decide +kernel
theorem dL_law_313 : decode cL_law 313 = .ok (.aload_n 2, 1) := by decide +kernel
theorem dL_law_314 : decode cL_law 314 = .ok (.invokevirtual 49, 3) := by decide +kernel
theorem dL_law_317 : decode cL_law 317 = .ok (.iload 5, 2) := by decide +kernel
theorem dL_law_319 : decode cL_law 319 = .ok (.if_icmp .eq 5, 3) := by decide +kernel
theorem dL_law_322 : decode cL_law 322 = .ok (.iconst 0, 1) := by decide +kernel
theorem dL_law_323 : decode cL_law 323 = .ok (.ireturn, 1) := by decide +kernel
theorem dL_law_324 : decode cL_law 324 = .ok (.iload 5, 2) := by decide +kernel
theorem dL_law_326 : decode cL_law 326 = .ok (.ifCond .ne 14, 3) := by decide +kernel
theorem dL_law_329 : decode cL_law 329 = .ok (.aload_n 3, 1) := by decide +kernel
theorem dL_law_330 : decode cL_law 330 = .ok (.iconst 0, 1) := by decide +kernel
theorem dL_law_331 : decode cL_law 331 = .ok (.laload, 1) := by decide +kernel
theorem dL_law_332 : decode cL_law 332 = .ok (.lload 6, 2) := by decide +kernel
theorem dL_law_334 : decode cL_law 334 = .ok (.lcmp, 1) := by decide +kernel
theorem dL_law_335 : decode cL_law 335 = .ok (.ifCond .eq 5, 3) := by decide +kernel
theorem dL_law_338 : decode cL_law 338 = .ok (.iconst 0, 1) := by decide +kernel
theorem dL_law_339 : decode cL_law 339 = .ok (.ireturn, 1) := by decide +kernel
theorem dL_law_340 : decode cL_law 340 = .ok (.goto 207, 3) := by decide +kernel
theorem dL_law_343 : decode cL_law 343 = .ok (.aload_n 1, 1) := by decide +kernel
theorem dL_law_344 : decode cL_law 344 = .ok (.aload_n 0, 1) := by decide +kernel
theorem dL_law_345 : decode cL_law 345 = .ok (.iload 4, 2) := by decide +kernel
theorem dL_law_347 : decode cL_law 347 = .ok (.iconst 1, 1) := by decide +kernel
theorem dL_law_348 : decode cL_law 348 = .ok (.iadd, 1) := by decide +kernel
theorem dL_law_349 : decode cL_law 349 = .ok (.iaload, 1) := by decide +kernel
theorem dL_law_350 : decode cL_law 350 = .ok (.aload_n 0, 1) := by decide +kernel
theorem dL_law_351 : decode cL_law 351 = .ok (.iload 4, 2) := by decide +kernel
theorem dL_law_353 : decode cL_law 353 = .ok (.iconst 2, 1) := by decide +kernel
theorem dL_law_354 : decode cL_law 354 = .ok (.iadd, 1) := by decide +kernel
theorem dL_law_355 : decode cL_law 355 = .ok (.iaload, 1) := by decide +kernel
theorem dL_law_356 : decode cL_law 356 = .ok (.aload_n 3, 1) := by decide +kernel
theorem dL_law_357 : decode cL_law 357 = .ok (.invokestatic 64, 3) := by decide +kernel
theorem dL_law_360 : decode cL_law 360 = .ok (.istore 5, 2) := by decide +kernel
theorem dL_law_362 : decode cL_law 362 = .ok (.aload_n 2, 1) := by decide +kernel
theorem dL_law_363 : decode cL_law 363 = .ok (.aload_n 0, 1) := by decide +kernel
theorem dL_law_364 : decode cL_law 364 = .ok (.iload 4, 2) := by decide +kernel
theorem dL_law_366 : decode cL_law 366 = .ok (.iconst 1, 1) := by decide +kernel
theorem dL_law_367 : decode cL_law 367 = .ok (.iadd, 1) := by decide +kernel
theorem dL_law_368 : decode cL_law 368 = .ok (.iaload, 1) := by decide +kernel
theorem dL_law_369 : decode cL_law 369 = .ok (.aload_n 0, 1) := by decide +kernel
theorem dL_law_370 : decode cL_law 370 = .ok (.iload 4, 2) := by decide +kernel
theorem dL_law_372 : decode cL_law 372 = .ok (.iconst 2, 1) := by decide +kernel
theorem dL_law_373 : decode cL_law 373 = .ok (.iadd, 1) := by decide +kernel
theorem dL_law_374 : decode cL_law 374 = .ok (.iaload, 1) := by decide +kernel
theorem dL_law_375 : decode cL_law 375 = .ok (.invokevirtual 66, 3) := by decide +kernel
theorem dL_law_378 : decode cL_law 378 = .ok (.istore 6, 2) := by decide +kernel
theorem dL_law_380 : decode cL_law 380 = .ok (.aload_n 2, 1) := by decide +kernel
theorem dL_law_381 : decode cL_law 381 = .ok (.invokevirtual 49, 3) := by decide +kernel
theorem dL_law_384 : decode cL_law 384 = .ok (.iload 5, 2) := by decide +kernel
theorem dL_law_386 : decode cL_law 386 = .ok (.if_icmp .eq 5, 3) := by decide +kernel
theorem dL_law_389 : decode cL_law 389 = .ok (.iconst 0, 1) := by decide +kernel
theorem dL_law_390 : decode cL_law 390 = .ok (.ireturn, 1) := by decide +kernel
theorem dL_law_391 : decode cL_law 391 = .ok (.iload 5, 2) := by decide +kernel
theorem dL_law_393 : decode cL_law 393 = .ok (.ifCond .ne 15, 3) := by decide +kernel
theorem dL_law_396 : decode cL_law 396 = .ok (.aload_n 3, 1) := by decide +kernel
theorem dL_law_397 : decode cL_law 397 = .ok (.iconst 0, 1) := by decide +kernel
theorem dL_law_398 : decode cL_law 398 = .ok (.laload, 1) := by decide +kernel
theorem dL_law_399 : decode cL_law 399 = .ok (.iload 6, 2) := by decide +kernel
theorem dL_law_401 : decode cL_law 401 = .ok (.i2l, 1) := by decide +kernel
theorem dL_law_402 : decode cL_law 402 = .ok (.lcmp, 1) := by decide +kernel
theorem dL_law_403 : decode cL_law 403 = .ok (.ifCond .eq 5, 3) := by decide +kernel
theorem dL_law_406 : decode cL_law 406 = .ok (.iconst 0, 1) := by decide +kernel
theorem dL_law_407 : decode cL_law 407 = .ok (.ireturn, 1) := by decide +kernel
theorem dL_law_408 : decode cL_law 408 = .ok (.goto 139, 3) := by decide +kernel
theorem dL_law_411 : decode cL_law 411 = .ok (.aload_n 1, 1) := by decide +kernel
theorem dL_law_412 : decode cL_law 412 = .ok (.aload_n 0, 1) := by decide +kernel
theorem dL_law_413 : decode cL_law 413 = .ok (.iload 4, 2) := by decide +kernel
theorem dL_law_415 : decode cL_law 415 = .ok (.iconst 1, 1) := by decide +kernel
theorem dL_law_416 : decode cL_law 416 = .ok (.iadd, 1) := by decide +kernel
theorem dL_law_417 : decode cL_law 417 = .ok (.iaload, 1) := by decide +kernel
theorem dL_law_418 : decode cL_law 418 = .ok (.aload_n 0, 1) := by decide +kernel
theorem dL_law_419 : decode cL_law 419 = .ok (.iload 4, 2) := by decide +kernel
theorem dL_law_421 : decode cL_law 421 = .ok (.iconst 2, 1) := by decide +kernel
theorem dL_law_422 : decode cL_law 422 = .ok (.iadd, 1) := by decide +kernel
theorem dL_law_423 : decode cL_law 423 = .ok (.iaload, 1) := by decide +kernel
theorem dL_law_424 : decode cL_law 424 = .ok (.aload_n 0, 1) := by decide +kernel
theorem dL_law_425 : decode cL_law 425 = .ok (.iload 4, 2) := by decide +kernel
theorem dL_law_427 : decode cL_law 427 = .ok (.iconst 3, 1) := by decide +kernel
theorem dL_law_428 : decode cL_law 428 = .ok (.iadd, 1) := by decide +kernel
theorem dL_law_429 : decode cL_law 429 = .ok (.iaload, 1) := by decide +kernel
theorem dL_law_430 : decode cL_law 430 = .ok (.aload_n 3, 1) := by decide +kernel
theorem dL_law_431 : decode cL_law 431 = .ok (.invokestatic 67, 3) := by decide +kernel
theorem dL_law_434 : decode cL_law 434 = .ok (.istore 5, 2) := by decide +kernel
theorem dL_law_436 : decode cL_law 436 = .ok (.aload_n 2, 1) := by decide +kernel
theorem dL_law_437 : decode cL_law 437 = .ok (.aload_n 0, 1) := by decide +kernel
theorem dL_law_438 : decode cL_law 438 = .ok (.iload 4, 2) := by decide +kernel
theorem dL_law_440 : decode cL_law 440 = .ok (.iconst 1, 1) := by decide +kernel
theorem dL_law_441 : decode cL_law 441 = .ok (.iadd, 1) := by decide +kernel
theorem dL_law_442 : decode cL_law 442 = .ok (.iaload, 1) := by decide +kernel
theorem dL_law_443 : decode cL_law 443 = .ok (.aload_n 0, 1) := by decide +kernel
theorem dL_law_444 : decode cL_law 444 = .ok (.iload 4, 2) := by decide +kernel
theorem dL_law_446 : decode cL_law 446 = .ok (.iconst 2, 1) := by decide +kernel
theorem dL_law_447 : decode cL_law 447 = .ok (.iadd, 1) := by decide +kernel
theorem dL_law_448 : decode cL_law 448 = .ok (.iaload, 1) := by decide +kernel
theorem dL_law_449 : decode cL_law 449 = .ok (.aload_n 0, 1) := by decide +kernel
theorem dL_law_450 : decode cL_law 450 = .ok (.iload 4, 2) := by decide +kernel
theorem dL_law_452 : decode cL_law 452 = .ok (.iconst 3, 1) := by decide +kernel
theorem dL_law_453 : decode cL_law 453 = .ok (.iadd, 1) := by decide +kernel
theorem dL_law_454 : decode cL_law 454 = .ok (.iaload, 1) := by decide +kernel
theorem dL_law_455 : decode cL_law 455 = .ok (.invokevirtual 69, 3) := by decide +kernel
theorem dL_law_458 : decode cL_law 458 = .ok (.istore 6, 2) := by decide +kernel
theorem dL_law_460 : decode cL_law 460 = .ok (.aload_n 2, 1) := by decide +kernel
theorem dL_law_461 : decode cL_law 461 = .ok (.invokevirtual 49, 3) := by decide +kernel
theorem dL_law_464 : decode cL_law 464 = .ok (.iload 5, 2) := by decide +kernel
theorem dL_law_466 : decode cL_law 466 = .ok (.if_icmp .eq 5, 3) := by decide +kernel
theorem dL_law_469 : decode cL_law 469 = .ok (.iconst 0, 1) := by decide +kernel
theorem dL_law_470 : decode cL_law 470 = .ok (.ireturn, 1) := by decide +kernel
theorem dL_law_471 : decode cL_law 471 = .ok (.iload 5, 2) := by decide +kernel
theorem dL_law_473 : decode cL_law 473 = .ok (.ifCond .ne 15, 3) := by decide +kernel
theorem dL_law_476 : decode cL_law 476 = .ok (.aload_n 3, 1) := by decide +kernel
theorem dL_law_477 : decode cL_law 477 = .ok (.iconst 0, 1) := by decide +kernel
theorem dL_law_478 : decode cL_law 478 = .ok (.laload, 1) := by decide +kernel
theorem dL_law_479 : decode cL_law 479 = .ok (.iload 6, 2) := by decide +kernel
theorem dL_law_481 : decode cL_law 481 = .ok (.i2l, 1) := by decide +kernel
theorem dL_law_482 : decode cL_law 482 = .ok (.lcmp, 1) := by decide +kernel
theorem dL_law_483 : decode cL_law 483 = .ok (.ifCond .eq 5, 3) := by decide +kernel
theorem dL_law_486 : decode cL_law 486 = .ok (.iconst 0, 1) := by decide +kernel
theorem dL_law_487 : decode cL_law 487 = .ok (.ireturn, 1) := by decide +kernel
theorem dL_law_488 : decode cL_law 488 = .ok (.goto 59, 3) := by decide +kernel
theorem dL_law_491 : decode cL_law 491 = .ok (.aload_n 1, 1) := by decide +kernel
theorem dL_law_492 : decode cL_law 492 = .ok (.aload_n 0, 1) := by decide +kernel
theorem dL_law_493 : decode cL_law 493 = .ok (.iload 4, 2) := by decide +kernel
theorem dL_law_495 : decode cL_law 495 = .ok (.iconst 1, 1) := by decide +kernel
theorem dL_law_496 : decode cL_law 496 = .ok (.iadd, 1) := by decide +kernel
theorem dL_law_497 : decode cL_law 497 = .ok (.iaload, 1) := by decide +kernel
theorem dL_law_498 : decode cL_law 498 = .ok (.aload_n 3, 1) := by decide +kernel
theorem dL_law_499 : decode cL_law 499 = .ok (.invokestatic 70, 3) := by decide +kernel
theorem dL_law_502 : decode cL_law 502 = .ok (.istore 5, 2) := by decide +kernel
theorem dL_law_504 : decode cL_law 504 = .ok (.aload_n 2, 1) := by decide +kernel
theorem dL_law_505 : decode cL_law 505 = .ok (.aload_n 0, 1) := by decide +kernel
theorem dL_law_506 : decode cL_law 506 = .ok (.iload 4, 2) := by decide +kernel
theorem dL_law_508 : decode cL_law 508 = .ok (.iconst 1, 1) := by decide +kernel
theorem dL_law_509 : decode cL_law 509 = .ok (.iadd, 1) := by decide +kernel
theorem dL_law_510 : decode cL_law 510 = .ok (.iaload, 1) := by decide +kernel
theorem dL_law_511 : decode cL_law 511 = .ok (.invokevirtual 73, 3) := by decide +kernel
theorem dL_law_514 : decode cL_law 514 = .ok (.istore 6, 2) := by decide +kernel
theorem dL_law_516 : decode cL_law 516 = .ok (.aload_n 2, 1) := by decide +kernel
theorem dL_law_517 : decode cL_law 517 = .ok (.invokevirtual 49, 3) := by decide +kernel
theorem dL_law_520 : decode cL_law 520 = .ok (.iload 5, 2) := by decide +kernel
theorem dL_law_522 : decode cL_law 522 = .ok (.if_icmp .eq 5, 3) := by decide +kernel
theorem dL_law_525 : decode cL_law 525 = .ok (.iconst 0, 1) := by decide +kernel
theorem dL_law_526 : decode cL_law 526 = .ok (.ireturn, 1) := by decide +kernel
theorem dL_law_527 : decode cL_law 527 = .ok (.iload 5, 2) := by decide +kernel
theorem dL_law_529 : decode cL_law 529 = .ok (.ifCond .ne 15, 3) := by decide +kernel
theorem dL_law_532 : decode cL_law 532 = .ok (.aload_n 3, 1) := by decide +kernel
theorem dL_law_533 : decode cL_law 533 = .ok (.iconst 0, 1) := by decide +kernel
theorem dL_law_534 : decode cL_law 534 = .ok (.laload, 1) := by decide +kernel
theorem dL_law_535 : decode cL_law 535 = .ok (.iload 6, 2) := by decide +kernel
theorem dL_law_537 : decode cL_law 537 = .ok (.i2l, 1) := by decide +kernel
theorem dL_law_538 : decode cL_law 538 = .ok (.lcmp, 1) := by decide +kernel
theorem dL_law_539 : decode cL_law 539 = .ok (.ifCond .eq 5, 3) := by decide +kernel
theorem dL_law_542 : decode cL_law 542 = .ok (.iconst 0, 1) := by decide +kernel
theorem dL_law_543 : decode cL_law 543 = .ok (.ireturn, 1) := by decide +kernel
theorem dL_law_544 : decode cL_law 544 = .ok (.goto 3, 3) := by decide +kernel
theorem dL_law_547 : decode cL_law 547 = .ok (.iinc 4 4, 3) := by decide +kernel
theorem dL_law_550 : decode cL_law 550 = .ok (.goto (-527), 3) := by decide +kernel
theorem dL_law_553 : decode cL_law 553 = .ok (.iconst 1, 1) := by decide +kernel
theorem dL_law_554 : decode cL_law 554 = .ok (.ireturn, 1) := by decide +kernel
end
section
/-! Words of the tables, by their places: by program. -/
theorem k_arrI : .arrayClass .int ∈ sd_WS := sd_in (List.mem_append_right _ (List.mem_of_getElem? (i := 26) rfl)) (by decide +kernel)
theorem k_classLink_X0_20 : .classLink RX0 20 "java/lang/IllegalArgumentException" ∈ sd_WS := sd_in (List.mem_append_right _ (List.mem_of_getElem? (i := 35) rfl)) (by decide +kernel)
theorem k_classLink_X0_72 : .classLink RX0 72 "java/lang/IllegalStateException" ∈ sd_WS := sd_in (List.mem_append_right _ (List.mem_of_getElem? (i := 136) rfl)) (by decide +kernel)
theorem k_code_X0_checkParty : .code yX0_checkParty cX0_checkParty 2 none ∈ sd_WS := sd_in (List.mem_append_right _ (List.mem_of_getElem? (i := 112) rfl)) (by decide +kernel)
theorem k_code_X0_checkTotal : .code yX0_checkTotal cX0_checkTotal 1 none ∈ sd_WS := sd_in (List.mem_append_right _ (List.mem_of_getElem? (i := 135) rfl)) (by decide +kernel)
theorem k_code_X0_checkUnits : .code yX0_checkUnits cX0_checkUnits 2 none ∈ sd_WS := sd_in (List.mem_append_right _ (List.mem_of_getElem? (i := 130) rfl)) (by decide +kernel)
theorem k_code_X0_checkWay : .code yX0_checkWay cX0_checkWay 1 none ∈ sd_WS := sd_in (List.mem_append_right _ (List.mem_of_getElem? (i := 126) rfl)) (by decide +kernel)
theorem k_code_X0_divisorOf : .code yX0_divisorOf cX0_divisorOf 2 (some .long) ∈ sd_WS := sd_in (List.mem_append_right _ (List.mem_of_getElem? (i := 178) rfl)) (by decide +kernel)
theorem k_code_X0_leastByRests : .code yX0_leastByRests cX0_leastByRests 7 (some .int) ∈ sd_WS := sd_in (List.mem_append_right _ (List.mem_of_getElem? (i := 205) rfl)) (by decide +kernel)
theorem k_code_X0_partiesWithWeight : .code yX0_partiesWithWeight cX0_partiesWithWeight 3 (some .int) ∈ sd_WS := sd_in (List.mem_append_right _ (List.mem_of_getElem? (i := 217) rfl)) (by decide +kernel)
theorem k_code_X0_restOf : .code yX0_restOf cX0_restOf 3 (some .long) ∈ sd_WS := sd_in (List.mem_append_right _ (List.mem_of_getElem? (i := 163) rfl)) (by decide +kernel)
theorem k_code_X0_turnOf : .code yX0_turnOf cX0_turnOf 7 (some .long) ∈ sd_WS := sd_in (List.mem_append_right _ (List.mem_of_getElem? (i := 171) rfl)) (by decide +kernel)
theorem k_code_X0_unitsBefore : .code yX0_unitsBefore cX0_unitsBefore 9 (some .long) ∈ sd_WS := sd_in (List.mem_append_right _ (List.mem_of_getElem? (i := 175) rfl)) (by decide +kernel)
theorem k_code_X0_unitsByRests : .code yX0_unitsByRests cX0_unitsByRests 11 (some .int) ∈ sd_WS := sd_in (List.mem_append_right _ (List.mem_of_getElem? (i := 159) rfl)) (by decide +kernel)
theorem k_code_X0_unitsByTurns : .code yX0_unitsByTurns cX0_unitsByTurns 6 (some .int) ∈ sd_WS := sd_in (List.mem_append_right _ (List.mem_of_getElem? (i := 167) rfl)) (by decide +kernel)
theorem k_code_X0_unitsOf : .code yX0_unitsOf cX0_unitsOf 4 (some .int) ∈ sd_WS := sd_in (List.mem_append_right _ (List.mem_of_getElem? (i := 155) rfl)) (by decide +kernel)
theorem k_constantLong_X0_58 : .constantLong RX0 58 10000 ∈ sd_WS := sd_in (List.mem_append_right _ (List.mem_of_getElem? (i := 206) rfl)) (by decide +kernel)
theorem k_constantLong_X0_94 : .constantLong RX0 94 2 ∈ sd_WS := sd_in (List.mem_append_right _ (List.mem_of_getElem? (i := 179) rfl)) (by decide +kernel)
theorem k_constant_X0_31 : .constant RX0 31 100000 ∈ sd_WS := sd_in (List.mem_append_right _ (List.mem_of_getElem? (i := 114) rfl)) (by decide +kernel)
theorem k_fieldLink_X0_13 : .fieldLink RX0 13 "ShareDesk" "parties" "I" ∈ sd_WS := sd_in (List.mem_append_right _ (List.mem_of_getElem? (i := 17) rfl)) (by decide +kernel)
theorem k_fieldLink_X0_17 : .fieldLink RX0 17 "ShareDesk" "total" "I" ∈ sd_WS := sd_in (List.mem_append_right _ (List.mem_of_getElem? (i := 18) rfl)) (by decide +kernel)
theorem k_fieldLink_X0_9 : .fieldLink RX0 9 "ShareDesk" "weights" "[I" ∈ sd_WS := sd_in (List.mem_append_right _ (List.mem_of_getElem? (i := 16) rfl)) (by decide +kernel)
theorem k_init_ShareDesk : .initialized RX0 ∈ sd_WS := sd_in (List.mem_append_right _ (List.mem_of_getElem? (i := 1) rfl)) (by decide +kernel)
theorem k_init_java_lang_IllegalArgumentException : .initialized "java/lang/IllegalArgumentException" ∈ sd_WS := sd_in (List.mem_append_right _ (List.mem_of_getElem? (i := 6) rfl)) (by decide +kernel)
theorem k_init_java_lang_IllegalStateException : .initialized "java/lang/IllegalStateException" ∈ sd_WS := sd_in (List.mem_append_right _ (List.mem_of_getElem? (i := 7) rfl)) (by decide +kernel)
theorem k_instanceMethod_X0_checkParty : .instanceMethod yX0_checkParty ∈ sd_WS := sd_in (List.mem_append_right _ (List.mem_of_getElem? (i := 111) rfl)) (by decide +kernel)
theorem k_instanceMethod_X0_checkTotal : .instanceMethod yX0_checkTotal ∈ sd_WS := sd_in (List.mem_append_right _ (List.mem_of_getElem? (i := 134) rfl)) (by decide +kernel)
theorem k_instanceMethod_X0_leastByRests : .instanceMethod yX0_leastByRests ∈ sd_WS := sd_in (List.mem_append_right _ (List.mem_of_getElem? (i := 204) rfl)) (by decide +kernel)
theorem k_instanceMethod_X0_partiesWithWeight : .instanceMethod yX0_partiesWithWeight ∈ sd_WS := sd_in (List.mem_append_right _ (List.mem_of_getElem? (i := 216) rfl)) (by decide +kernel)
theorem k_instanceMethod_X0_restOf : .instanceMethod yX0_restOf ∈ sd_WS := sd_in (List.mem_append_right _ (List.mem_of_getElem? (i := 162) rfl)) (by decide +kernel)
theorem k_instanceMethod_X0_turnOf : .instanceMethod yX0_turnOf ∈ sd_WS := sd_in (List.mem_append_right _ (List.mem_of_getElem? (i := 170) rfl)) (by decide +kernel)
theorem k_instanceMethod_X0_unitsBefore : .instanceMethod yX0_unitsBefore ∈ sd_WS := sd_in (List.mem_append_right _ (List.mem_of_getElem? (i := 174) rfl)) (by decide +kernel)
theorem k_instanceMethod_X0_unitsByRests : .instanceMethod yX0_unitsByRests ∈ sd_WS := sd_in (List.mem_append_right _ (List.mem_of_getElem? (i := 158) rfl)) (by decide +kernel)
theorem k_instanceMethod_X0_unitsByTurns : .instanceMethod yX0_unitsByTurns ∈ sd_WS := sd_in (List.mem_append_right _ (List.mem_of_getElem? (i := 166) rfl)) (by decide +kernel)
theorem k_instanceMethod_X0_unitsOf : .instanceMethod yX0_unitsOf ∈ sd_WS := sd_in (List.mem_append_right _ (List.mem_of_getElem? (i := 154) rfl)) (by decide +kernel)
theorem k_lays_X0_parties : .lays RX0 "ShareDesk" "parties" "I" ∈ sd_WS := sd_in (List.mem_append_right _ (List.mem_of_getElem? (i := 21) rfl)) (by decide +kernel)
theorem k_lays_X0_total : .lays RX0 "ShareDesk" "total" "I" ∈ sd_WS := sd_in (List.mem_append_right _ (List.mem_of_getElem? (i := 23) rfl)) (by decide +kernel)
theorem k_lays_X0_weights : .laysFinal RX0 "ShareDesk" "weights" "[I" ∈ sd_WS := sd_in (List.mem_append_right _ (List.mem_of_getElem? (i := 19) rfl)) (by decide +kernel)
theorem k_lays_X1_err : .lays RX1 "ShareDeskModel" "err" "I" ∈ sd_WS := sd_in (List.mem_append_right _ (List.mem_of_getElem? (i := 231) rfl)) (by decide +kernel)
theorem k_lays_X1_got : .laysFinal RX1 "ShareDeskModel" "got" "[Z" ∈ sd_WS := sd_in (List.mem_append_right _ (List.mem_of_getElem? (i := 241) rfl)) (by decide +kernel)
theorem k_lays_X1_kept : .laysFinal RX1 "ShareDeskModel" "kept" "[J" ∈ sd_WS := sd_in (List.mem_append_right _ (List.mem_of_getElem? (i := 239) rfl)) (by decide +kernel)
theorem k_lays_X1_parties : .lays RX1 "ShareDeskModel" "parties" "I" ∈ sd_WS := sd_in (List.mem_append_right _ (List.mem_of_getElem? (i := 233) rfl)) (by decide +kernel)
theorem k_lays_X1_shares : .laysFinal RX1 "ShareDeskModel" "shares" "[J" ∈ sd_WS := sd_in (List.mem_append_right _ (List.mem_of_getElem? (i := 237) rfl)) (by decide +kernel)
theorem k_lays_X1_weights : .laysFinal RX1 "ShareDeskModel" "weights" "[J" ∈ sd_WS := sd_in (List.mem_append_right _ (List.mem_of_getElem? (i := 235) rfl)) (by decide +kernel)
theorem k_methodLink_X0_1 : .methodLink RX0 1 objectInit ∈ sd_WS := sd_in (List.mem_append_right _ (List.mem_of_getElem? (i := 13) rfl)) (by decide +kernel)
theorem k_methodLink_X0_27 : .methodLink RX0 27 yX0_checkParty ∈ sd_WS := sd_in (List.mem_append_right _ (List.mem_of_getElem? (i := 109) rfl)) (by decide +kernel)
theorem k_methodLink_X0_34 : .methodLink RX0 34 yX0_checkWay ∈ sd_WS := sd_in (List.mem_append_right _ (List.mem_of_getElem? (i := 124) rfl)) (by decide +kernel)
theorem k_methodLink_X0_37 : .methodLink RX0 37 yX0_checkUnits ∈ sd_WS := sd_in (List.mem_append_right _ (List.mem_of_getElem? (i := 128) rfl)) (by decide +kernel)
theorem k_methodLink_X0_41 : .methodLink RX0 41 yX0_checkTotal ∈ sd_WS := sd_in (List.mem_append_right _ (List.mem_of_getElem? (i := 132) rfl)) (by decide +kernel)
theorem k_methodLink_X0_44 : .methodLink RX0 44 yX0_unitsOf ∈ sd_WS := sd_in (List.mem_append_right _ (List.mem_of_getElem? (i := 152) rfl)) (by decide +kernel)
theorem k_methodLink_X0_50 : .methodLink RX0 50 yX0_leastByRests ∈ sd_WS := sd_in (List.mem_append_right _ (List.mem_of_getElem? (i := 202) rfl)) (by decide +kernel)
theorem k_methodLink_X0_54 : .methodLink RX0 54 yX0_turnOf ∈ sd_WS := sd_in (List.mem_append_right _ (List.mem_of_getElem? (i := 168) rfl)) (by decide +kernel)
theorem k_methodLink_X0_60 : .methodLink RX0 60 yX0_partiesWithWeight ∈ sd_WS := sd_in (List.mem_append_right _ (List.mem_of_getElem? (i := 214) rfl)) (by decide +kernel)
theorem k_methodLink_X0_77 : .methodLink RX0 77 yX0_unitsByRests ∈ sd_WS := sd_in (List.mem_append_right _ (List.mem_of_getElem? (i := 156) rfl)) (by decide +kernel)
theorem k_methodLink_X0_80 : .methodLink RX0 80 yX0_unitsByTurns ∈ sd_WS := sd_in (List.mem_append_right _ (List.mem_of_getElem? (i := 164) rfl)) (by decide +kernel)
theorem k_methodLink_X0_83 : .methodLink RX0 83 yX0_restOf ∈ sd_WS := sd_in (List.mem_append_right _ (List.mem_of_getElem? (i := 160) rfl)) (by decide +kernel)
theorem k_methodLink_X0_87 : .methodLink RX0 87 yX0_unitsBefore ∈ sd_WS := sd_in (List.mem_append_right _ (List.mem_of_getElem? (i := 172) rfl)) (by decide +kernel)
theorem k_methodLink_X0_91 : .methodLink RX0 91 yX0_divisorOf ∈ sd_WS := sd_in (List.mem_append_right _ (List.mem_of_getElem? (i := 176) rfl)) (by decide +kernel)
theorem k_objC : .code objectInit ⟨#[0xb1]⟩ 1 none ∈ sd_WS := sd_in (List.mem_append_right _ (List.mem_of_getElem? (i := 15) rfl)) (by decide +kernel)
theorem k_objI : .instanceMethod objectInit ∈ sd_WS := sd_in (List.mem_append_right _ (List.mem_of_getElem? (i := 14) rfl)) (by decide +kernel)
theorem k_sel_X0_checkParty : .selects RX0 yX0_checkParty yX0_checkParty ∈ sd_WS := sd_in (List.mem_append_left _ (List.mem_of_getElem? (i := 1) rfl)) (by decide +kernel)
theorem k_sel_X0_checkTotal : .selects RX0 yX0_checkTotal yX0_checkTotal ∈ sd_WS := sd_in (List.mem_append_left _ (List.mem_of_getElem? (i := 2) rfl)) (by decide +kernel)
theorem k_sel_X0_leastByRests : .selects RX0 yX0_leastByRests yX0_leastByRests ∈ sd_WS := sd_in (List.mem_append_left _ (List.mem_of_getElem? (i := 9) rfl)) (by decide +kernel)
theorem k_sel_X0_partiesWithWeight : .selects RX0 yX0_partiesWithWeight yX0_partiesWithWeight ∈ sd_WS := sd_in (List.mem_append_left _ (List.mem_of_getElem? (i := 10) rfl)) (by decide +kernel)
theorem k_sel_X0_restOf : .selects RX0 yX0_restOf yX0_restOf ∈ sd_WS := sd_in (List.mem_append_left _ (List.mem_of_getElem? (i := 5) rfl)) (by decide +kernel)
theorem k_sel_X0_turnOf : .selects RX0 yX0_turnOf yX0_turnOf ∈ sd_WS := sd_in (List.mem_append_left _ (List.mem_of_getElem? (i := 7) rfl)) (by decide +kernel)
theorem k_sel_X0_unitsBefore : .selects RX0 yX0_unitsBefore yX0_unitsBefore ∈ sd_WS := sd_in (List.mem_append_left _ (List.mem_of_getElem? (i := 8) rfl)) (by decide +kernel)
theorem k_sel_X0_unitsByRests : .selects RX0 yX0_unitsByRests yX0_unitsByRests ∈ sd_WS := sd_in (List.mem_append_left _ (List.mem_of_getElem? (i := 4) rfl)) (by decide +kernel)
theorem k_sel_X0_unitsByTurns : .selects RX0 yX0_unitsByTurns yX0_unitsByTurns ∈ sd_WS := sd_in (List.mem_append_left _ (List.mem_of_getElem? (i := 6) rfl)) (by decide +kernel)
theorem k_sel_X0_unitsOf : .selects RX0 yX0_unitsOf yX0_unitsOf ∈ sd_WS := sd_in (List.mem_append_left _ (List.mem_of_getElem? (i := 3) rfl)) (by decide +kernel)
theorem k_static_X0_checkUnits : .static yX0_checkUnits ∈ sd_WS := sd_in (List.mem_append_right _ (List.mem_of_getElem? (i := 129) rfl)) (by decide +kernel)
theorem k_static_X0_checkWay : .static yX0_checkWay ∈ sd_WS := sd_in (List.mem_append_right _ (List.mem_of_getElem? (i := 125) rfl)) (by decide +kernel)
theorem k_static_X0_divisorOf : .static yX0_divisorOf ∈ sd_WS := sd_in (List.mem_append_right _ (List.mem_of_getElem? (i := 177) rfl)) (by decide +kernel)
theorem u_in_X0 : ∀ w ∈ u_ws RX0 TX0 3, w ∈ sd_WS := by
  intro w hw
  have h : u_ws RX0 TX0 3 = [.laysFinal RX0 "ShareDesk" "weights" "[I", .lays RX0 "ShareDesk" "parties" "I", .lays RX0 "ShareDesk" "total" "I"] := rfl
  rw [h] at hw
  simp only [List.mem_cons, List.not_mem_nil, or_false] at hw
  rcases hw with rfl | rfl | rfl
  · exact k_lays_X0_weights
  · exact k_lays_X0_parties
  · exact k_lays_X0_total
theorem u_in_X1 : ∀ w ∈ u_ws RX1 TX1 6, w ∈ sd_WS := by
  intro w hw
  have h : u_ws RX1 TX1 6 = [.lays RX1 "ShareDeskModel" "err" "I", .lays RX1 "ShareDeskModel" "parties" "I", .laysFinal RX1 "ShareDeskModel" "weights" "[J", .laysFinal RX1 "ShareDeskModel" "shares" "[J", .laysFinal RX1 "ShareDeskModel" "kept" "[J", .laysFinal RX1 "ShareDeskModel" "got" "[Z"] := rfl
  rw [h] at hw
  simp only [List.mem_cons, List.not_mem_nil, or_false] at hw
  rcases hw with rfl | rfl | rfl | rfl | rfl | rfl
  · exact k_lays_X1_err
  · exact k_lays_X1_parties
  · exact k_lays_X1_weights
  · exact k_lays_X1_shares
  · exact k_lays_X1_kept
  · exact k_lays_X1_got
/-- the desk, as cells -/
def sd_O (cA : ClassId) (h0 a0 n : Nat) (w : Nat → Nat) : va_W := [(h0, .inr (0, [.ref a0, .int (nI n), .int (nI (sd_sum w n))])), (a0, .inl (cA, 8, .inl (fun i => nI (w i))))]
end
section
/-! What a throw needs of the start: words on Throwable's classes, two statics, the texts. -/
def sd_IA : String := "java/lang/IllegalArgumentException"
def sd_IS : String := "java/lang/IllegalStateException"
def sd_up2 : List String := ["java/lang/RuntimeException", "java/lang/Exception"]
/-- a static of Throwable's: where it lies; it holds a reference or null -/
def sd_St (n d : String) (A : Nat → Prop) (U : State) (H : Heap) : Prop := ∃ (c : ClassId) (k : Class) (i : Nat) (f : Field) (a : Nat) (cell : Cell) (v : Value), U.vm.findClass Bundle.tN = some c ∧ U.fieldFound? Bundle.tN n d = some (c, k, i, f) ∧ f.isStatic = true ∧ k.statics = some a ∧ H[a]? = some cell ∧ cell.vm.isStatics = true ∧ cell.cls = c ∧ f.slot < cell.slots.size ∧ k.staticTypes[f.slot]? = some f.type ∧ cell.slots[f.slot]? = some v ∧ v.isRef = true ∧ ¬ A a
theorem sd_St.moved {n d : String} {A : Nat → Prop} {u U : State} {H : Heap} (hvm : u.vm.Alike U.vm) (h : sd_St n d A u H) : sd_St n d A U H := by
  obtain ⟨c, k, i, f, a, cell, v, h1, h2, h3, h4, h5, h6, h7, h8, h9, h10⟩ := h
  obtain ⟨k', hi', he⟩ := State.fieldFound?_setVm hvm h2
  exact ⟨c, k', i, f, a, cell, v, by rw [hvm.findClass]; exact h1, hi', h3, by rw [he]; exact h4, h5, h6, h7, h8, by rw [he]; exact h9, h10⟩
theorem sd_St.kept {n d : String} {A : Nat → Prop} {U : State} {H H1 : Heap} (h : sd_St n d A U H) (hq : ∀ a : Nat, a < H.size → ¬ A a → H1[a]? = H[a]?) : sd_St n d A U H1 := by
  obtain ⟨c, k, i, f, a, cell, v, h1, h2, h3, h4, h5, h6, h7, h8, h9, h10, h11, h12⟩ := h
  exact ⟨c, k, i, f, a, cell, v, h1, h2, h3, h4, by rw [hq a (Array.getElem?_eq_some_iff.mp h5).1 h12]; exact h5, h6, h7, h8, h9, h10, h11, h12⟩
theorem sd_St.narrow {n d : String} {A B : Nat → Prop} {U : State} {H : Heap} (h : sd_St n d A U H) (hAB : ∀ q, B q → A q) : sd_St n d B U H := by
  obtain ⟨c, k, i, f, a, cell, v, h1, h2, h3, h4, h5, h6, h7, h8, h9, h10, h11, h12⟩ := h
  exact ⟨c, k, i, f, a, cell, v, h1, h2, h3, h4, h5, h6, h7, h8, h9, h10, h11, fun z => h12 (hAB _ z)⟩
theorem sd_St.lays {n d : String} {A : Nat → Prop} {s : State} {args : Array Value} (h : sd_St n d A s s.heap) : (Cond.laysStatic Bundle.tN n d).before args s = true := by
  obtain ⟨c, k, i, f, a, cell, v, h1, h2, h3, h4, h5, h6, h7, h8, h9, -⟩ := h
  show (Cond.laysStatic Bundle.tN n d).holds args s none s [] = true
  exact Cond.laysStatic_of h1 h2 h3 h4 h5 h6 h7 h8 h9
theorem sd_St.ref {n d : String} {A : Nat → Prop} {s : State} {args : Array Value} (h : sd_St n d A s s.heap) : (Cond.isRef (.static Bundle.tN n d)).before args s = true := by
  obtain ⟨c, k, i, f, a, cell, v, h1, h2, h3, h4, h5, h6, h7, h8, h9, h10, h11, -⟩ := h
  have he : (Term.static Bundle.tN n d).eval args s none [] s = some v := by
    simp [Term.eval, State.fieldNamed?, h2, h3, h4, h5, h6, h10]
  simp only [Cond.before, Cond.holds, Cond.value, he]
  cases v <;> simp_all [Value.isRef]
theorem sd_St.of {n d : String} {A : Nat → Prop} {s : State} {args : Array Value} (hl : (Cond.laysStatic Bundle.tN n d).before args s = true) (hr : (Cond.isRef (.static Bundle.tN n d)).before args s = true) (hA : ∀ a : Nat, a < s.heap.size → ¬ A a) : sd_St n d A s s.heap := by
  obtain ⟨c, k, i, f, a, cell, h1, h2, h3, h4, h5, h6, h7, h8, h9⟩ := Cond.laysStatic_spec hl
  cases hv : (Term.static Bundle.tN n d).eval args s none [] s with
  | none => simp [Cond.before, Cond.holds, Cond.value, hv] at hr
  | some v =>
    obtain ⟨-, a', cell', ha', hcell', -, hslot⟩ := Term.static_spec h2 hv
    cases h4.symm.trans ha'
    cases h5.symm.trans hcell'
    have hvr : v.isRef = true := by
      simp only [Cond.before, Cond.holds, Cond.value, hv] at hr
      cases v <;> simp_all [Value.isRef]
    exact ⟨c, k, i, f, a, cell, v, h1, h2, h3, h4, h5, h6, h7, h8, h9, hslot, hvr, hA a (Array.getElem?_eq_some_iff.mp h5).1⟩
theorem sd_castMoved {C T : String} {s U : State} (hvm : s.vm.Alike U.vm) (h : va_Nw (.castable C T) s) : va_Nw (.castable C T) U := va_tabs rfl (rfl : (s.setVm U.vm).vm = U.vm) (by rw [Cond.castable_setVm hvm]; exact h)
theorem sd_declMoved {x : MethodName} {s U : State} (hvm : s.vm.Alike U.vm) (h : va_Nw (.declares x) s) : va_Nw (.declares x) U := va_tabs rfl (rfl : (s.setVm U.vm).vm = U.vm) (by rw [Cond.declares_setVm hvm]; exact h)
def sd_D1 : Cond := .declares (Bundle.initS "java/lang/RuntimeException")
def sd_D2 : Cond := .declares (Bundle.initS "java/lang/Exception")
def sd_D3 : Cond := .declares (Bundle.initS Bundle.tN)
def sd_SL : List (Nat × String) := [(22, "the number of parties is not 1..8"), (32, "the weight is not 0..100000"), (48, "the share is below 0"), (64, "there is no such count"), (66, "there is no such way"), (68, "the number of units is out of range"), (70, "there is no such party"), (74, "all weights are 0")]
/-- all that a throw of the desk's needs beside the tables' words -/
def sd_TH (A : Nat → Prop) (U : State) (H : Heap) : Prop :=
  va_Nw sd_D1 U ∧ va_Nw sd_D2 U ∧ va_Nw sd_D3 U ∧ va_Nw (.castable sd_IA sd_IA) U ∧ va_Nw (.castable sd_IS sd_IS) U ∧ va_Nc sd_IS sd_IA U ∧
  sd_St "UNASSIGNED_STACK" Bundle.steD A U H ∧ sd_St "SUPPRESSED_SENTINEL" Bundle.listD A U H ∧ ∀ x ∈ sd_SL, ∃ q, vk_R RX0 x.1 x.2 q U
theorem sd_TH.moved {A : Nat → Prop} {s U : State} {H : Heap} (hW : s.WarmedH U.vm) (h : sd_TH A s H) : sd_TH A U H := by
  obtain ⟨h1, h2, h3, h4, h5, h6, h7, h8, h9⟩ := h
  exact ⟨sd_declMoved hW.alike h1, sd_declMoved hW.alike h2, sd_declMoved hW.alike h3, sd_castMoved hW.alike h4, sd_castMoved hW.alike h5, h6.moved hW.alike, h7.moved hW.alike, h8.moved hW.alike, fun x hx => by
    obtain ⟨q, hq⟩ := h9 x hx
    exact ⟨q, hq.warm hW⟩⟩
theorem sd_TH.kept {A : Nat → Prop} {U : State} {H H1 : Heap} (h : sd_TH A U H) (hq : ∀ a : Nat, a < H.size → ¬ A a → H1[a]? = H[a]?) : sd_TH A U H1 := by
  obtain ⟨h1, h2, h3, h4, h5, h6, h7, h8, h9⟩ := h
  exact ⟨h1, h2, h3, h4, h5, h6, h7.kept hq, h8.kept hq, h9⟩
theorem sd_TH.narrow {A B : Nat → Prop} {U : State} {H : Heap} (h : sd_TH A U H) (hAB : ∀ q, B q → A q) : sd_TH B U H := by
  obtain ⟨h1, h2, h3, h4, h5, h6, h7, h8, h9⟩ := h
  exact ⟨h1, h2, h3, h4, h5, h6, h7.narrow hAB, h8.narrow hAB, h9⟩
def sd_TB : List Cond := [sd_D1, sd_D2, sd_D3, .castable sd_IA sd_IA, .castable sd_IS sd_IS, .laysStatic Bundle.tN "UNASSIGNED_STACK" Bundle.steD, .laysStatic Bundle.tN "SUPPRESSED_SENTINEL" Bundle.listD, .isRef (.static Bundle.tN "UNASSIGNED_STACK" Bundle.steD), .isRef (.static Bundle.tN "SUPPRESSED_SENTINEL" Bundle.listD)]
theorem sd_TB_ok {A : Nat → Prop} {s : State} {args : Array Value} (h : sd_TH A s s.heap) : ∀ w ∈ sd_TB, w.before args s = true := by
  obtain ⟨h1, h2, h3, h4, h5, h6, h7, h8, h9⟩ := h
  intro w hw
  simp only [sd_TB, List.mem_cons, List.not_mem_nil, or_false] at hw
  rcases hw with rfl | rfl | rfl | rfl | rfl | rfl | rfl | rfl | rfl
  · exact va_any rfl h1
  · exact va_any rfl h2
  · exact va_any rfl h3
  · exact va_any rfl h4
  · exact va_any rfl h5
  · exact h7.lays
  · exact h8.lays
  · exact h7.ref
  · exact h8.ref
set_option maxRecDepth 100000 in
theorem sd_ownIA : ∀ w ∈ Bundle.ownAtoms RX0 24 sd_IA sd_up2, (sd_gw w = true ∧ w ∈ lw_tbl) ∨ w ∈ sd_TB := by decide +kernel
set_option maxRecDepth 100000 in
theorem sd_ownIS : ∀ w ∈ Bundle.ownAtoms RX0 76 sd_IS sd_up2, (sd_gw w = true ∧ w ∈ lw_tbl) ∨ w ∈ sd_TB := by decide +kernel
theorem sd_own {A : Nat → Prop} {s : State} {args : Array Value} {L : List Cond} (hL : ∀ w ∈ L, (sd_gw w = true ∧ w ∈ lw_tbl) ∨ w ∈ sd_TB) (hts : ∀ w ∈ sd_WS, w.before args s = true) (h : sd_TH A s s.heap) : ∀ w ∈ L, w.before args s = true := by
  intro w hw
  rcases hL w hw with ⟨h1, h2⟩ | h1
  · exact hts w (sd_in h2 h1)
  · exact sd_TB_ok h w h1
/-- a start that may throw -/
def sd_Pt (D : va_G) (cl : List vw_C) (tys : List (ClassId × FieldType)) (ws : va_W) (av : List Value) : Array Value → State → Prop := va_Pc av (fun U => va_P D cl ws U.heap ∧ va_K D cl tys U ∧ sd_TH (fun _ => False) U U.heap)
theorem sd_calling_W (U : State) (g : JFrame) (mk : MethodId) (a : Array Value) : U.WarmedH (U.calling g mk a).vm := State.WarmedH.refl U
theorem sd_Pt_blind (D : va_G) (cl : List vw_C) (tys : List (ClassId × FieldType)) (ws : va_W) (av : List Value) : FrameBlind (sd_Pt D cl tys ws av) := by
  intro a U g mk q
  obtain ⟨q0, qP, qK, qT⟩ := q
  exact ⟨q0, qP, va_K.moved (u := U) (U := U.calling g mk a) (Vm.Alike.refl U.vm) qK, sd_TH.moved (U := U.calling g mk a) (sd_calling_W U g mk a) qT⟩
theorem sd_preSt {s : State} {H : Heap} {D : va_G} {cl : List vw_C} {tys : List (ClassId × FieldType)} {ws : va_W} {As : List Value} (hK : va_K D cl tys s) (hP : va_P D cl ws H) (hT : sd_TH (fun _ => False) s H) : PreS s H (sd_Pt D cl tys ws As) As :=
  ⟨sd_Pt_blind D cl tys ws As, fun U hU hW => ⟨rfl, by rw [hU]; exact hP, va_K.moved hW.alike hK, by rw [hU]; exact hT.moved hW⟩⟩
theorem sd_preVt {s : State} {H : Heap} {D : va_G} {cl : List vw_C} {tys : List (ClassId × FieldType)} {ws : va_W} {As : List Value} {b q0 ci : Nat} {q : vw_C} {fs : List Value} (hK : va_K D cl tys s) (hP : va_P D cl ws H) (hT : sd_TH (fun _ => False) s H) (hc : cl[ci]? = some q) (he : ws[q0]? = some (b, .inr (ci, fs))) :
    PreV s H q.1 b (sd_Pt D cl tys ws (.ref b :: As)) As :=
  ⟨sd_Pt_blind D cl tys ws (.ref b :: As), va_recv hK hP hc he, fun U hU hW => ⟨rfl, by rw [hU]; exact hP, va_K.moved hW.alike hK, by rw [hU]; exact hT.moved hW⟩⟩
end
section
set_option maxHeartbeats 4000000 in
set_option maxRecDepth 100000 in
theorem c_divisorOf (l : Launch) (dC : Nat → ClassId) (dI : Nat → Nat → Nat) (y k : Nat) (hy : y = 1 ∨ y = 2) (hk : 1 ≤ k) (hk2 : k ≤ 20000) : Met l yX0_divisorOf (sd_ws yX0_divisorOf cX0_divisorOf 2 (some .long)) (sd_rm 0 0 0) (sd_Pp (dC, dI) vwCl [] [] [.int (nI y), .int (nI k)]) (vp_Sl (fun r => r = lN (sd_dv y k))) 0 0 (fun _ => False) := by
  refine Met.ofW (cc := cX0_divisorOf) (maxL := 2) (ret := (some .long)) (by decide) rfl ?_
  intro p e s m args below meth c s₁ B hml hv
  obtain ⟨rfl, hP, hK⟩ := hv
  have hx := B.exec
  have hb := B.bytes
  have hr := B.returns
  have hts0 := atoms_spec (ws := (sd_ws yX0_divisorOf cX0_divisorOf 2 (some .long))) B.pre
  have hts : ∀ w ∈ sd_WS, w.before _ s = true := fun w h => hts0 w (List.mem_cons_of_mem _ h)
  have hown : s.vm.findClass RX0 = some m.cls := findClass_of_methodNamed B.named
  have hlocks := B.notSynchronized
  have hl := lv_entry ([.int (nI y), .int (nI k)]) (n := 2) (Nat.le_of_ble_eq_true rfl)
  rw [lg_entry_eq]
  generalize (lg_sl ([.int (nI y), .int (nI k)]) ++ List.replicate (2 - (lg_sl ([.int (nI y), .int (nI k)])).length) Slot.unset).toArray = ls at hl ⊢
  have hl : lv_has ls 2 [(0, .int (nI y)), (1, .int (nI k))] := hl
  refine lv_iload_n hx hb dX0_divisorOf_0 rfl (lv_at hl 0 rfl) ?_
  refine lv_iconst (v := (nI 1)) hx hb dX0_divisorOf_1 (by decide +kernel) ?_
  refine sd_ic_ne (a := y) (b := 1) (tgt := 10) hx hb dX0_divisorOf_2 (by decide) (by omega) (by omega) (fun h => ?_) (fun h => ?_)
  · have hy2 : y = 2 := by omega
    subst hy2
    refine lv_ldc2 (v := 2) hx hb hown (hts (.constantLong RX0 94 2) k_constantLong_X0_94) dX0_divisorOf_10 ?_
    refine sd_topl (y := lN 2) (by decide +kernel) ?_
    refine lv_iload_n hx hb dX0_divisorOf_13 rfl (lv_at hl 1 rfl) ?_
    refine lv_i2l (v := lN k) hx hb dX0_divisorOf_14 (nI_l (by omega)) ?_
    refine sd_lmul (v := lN (2 * k)) hx hb dX0_divisorOf_15 (lN_mul _ _) ?_
    refine lv_lconst (v := lN 1) hx hb dX0_divisorOf_16 rfl ?_
    refine sd_lsub (v := lN ((2 * k) - 1)) hx hb dX0_divisorOf_17 (lN_sub (by omega)) ?_
    refine sd_topl (y := lN (sd_dv 2 k)) (by rw [sd_dv2 hk]) ?_
    exact W.lret hx hb hr (fun t ht hW => ⟨_, rfl, rfl, ht⟩) (fun q hq => nomatch hq) dX0_divisorOf_18
  · subst h
    refine lv_iload_n hx hb dX0_divisorOf_5 rfl (lv_at hl 1 rfl) ?_
    refine lv_i2l (v := lN k) hx hb dX0_divisorOf_6 (nI_l (by omega)) ?_
    refine lv_goto (tgt := 18) hx hb dX0_divisorOf_7 (by decide) ?_
    refine sd_topl (y := lN (sd_dv 1 k)) (by rw [sd_dv1 hk]) ?_
    exact W.lret hx hb hr (fun t ht hW => ⟨_, rfl, rfl, ht⟩) (fun q hq => nomatch hq) dX0_divisorOf_18
set_option maxHeartbeats 4000000 in
set_option maxRecDepth 100000 in
theorem c_restOf (l : Launch) (dC : Nat → ClassId) (dI : Nat → Nat → Nat) (cA : ClassId) (h0 a0 n : Nat) (w : Nat → Nat) (ok : sd_ok n w) (hW : 0 < sd_sum w n) (u q : Nat) (hu : u ≤ 10001) (hq : q < n) : Met l yX0_restOf (sd_ws yX0_restOf cX0_restOf 3 (some .long)) (sd_rm 0 0 0) (sd_Pp (dC, dI) vwCl [(cA, .int)] (sd_O cA h0 a0 n w) [.ref h0, .int (nI u), .int (nI q)]) (vp_Sl (fun r => r = lN (sd_rs w (sd_sum w n) u q))) 0 0 (fun _ => False) := by
  refine Met.ofW (cc := cX0_restOf) (maxL := 3) (ret := (some .long)) (by decide) rfl ?_
  intro p e s m args below meth c s₁ B hml hv
  obtain ⟨rfl, hP, hK⟩ := hv
  have hx := B.exec
  have hb := B.bytes
  have hr := B.returns
  have hts0 := atoms_spec (ws := (sd_ws yX0_restOf cX0_restOf 3 (some .long))) B.pre
  have hts : ∀ w ∈ sd_WS, w.before _ s = true := fun w h => hts0 w (List.mem_cons_of_mem _ h)
  have hown : s.vm.findClass RX0 = some m.cls := findClass_of_methodNamed B.named
  have hlocks := B.notSynchronized
  have hl := lv_entry ([.ref h0, .int (nI u), .int (nI q)]) (n := 3) (Nat.le_of_ble_eq_true rfl)
  rw [lg_entry_eq]
  generalize (lg_sl ([.ref h0, .int (nI u), .int (nI q)]) ++ List.replicate (3 - (lg_sl ([.ref h0, .int (nI u), .int (nI q)])).length) Slot.unset).toArray = ls at hl ⊢
  have hl : lv_has ls 3 [(0, .ref h0), (1, .int (nI u)), (2, .int (nI q))] := hl
  have hP : va_P (dC, dI) vwCl [(h0, .inr (0, [.ref a0, .int (nI n), .int (nI (sd_sum w n))])), (a0, .inl (cA, 8, .inl (fun i => nI (w i))))] s.heap := hP
  have hwq := ok.2.2.1 q
  have hbm : u * w q ≤ 10001 * 100000 := sd_mw_le hu hwq
  have hWl := sd_W_le ok.2.2.1 ok.2.1
  have hn8 := ok.2.1
  refine lv_iload_n hx hb dX0_restOf_0 rfl (lv_at hl 1 rfl) ?_
  refine lv_i2l (v := lN u) hx hb dX0_restOf_1 (nI_l (by omega)) ?_
  refine lv_aload_n hx hb dX0_restOf_2 rfl (lv_at hl 0 rfl) ?_
  refine va_get (D := (dC, dI)) (ci := 0) (v := .ref a0) (C := RX0) (T := TX0) (N := 3) hx hb hts u_in_X0 hown hK hP 0 rfl rfl 0 (by decide) (hts (.fieldLink RX0 9 "ShareDesk" "weights" "[I") k_fieldLink_X0_9) (fun _ h9 => h9) rfl dX0_restOf_3 ?_
  refine lv_iload_n hx hb dX0_restOf_6 rfl (lv_at hl 2 rfl) ?_
  refine sd_iald (j := q) (v := nI (w q)) hx hb hK hP 1 0 rfl rfl (by omega) (by decide) rfl dX0_restOf_7 ?_
  refine lv_i2l (v := lN (w q)) hx hb dX0_restOf_8 (nI_l (by omega)) ?_
  refine sd_lmul (v := lN (u * (w q))) hx hb dX0_restOf_9 (lN_mul _ _) ?_
  refine lv_aload_n hx hb dX0_restOf_10 rfl (lv_at hl 0 rfl) ?_
  refine va_get (D := (dC, dI)) (ci := 0) (v := .int (nI (sd_sum w n))) (C := RX0) (T := TX0) (N := 3) hx hb hts u_in_X0 hown hK hP 0 rfl rfl 2 (by decide) (hts (.fieldLink RX0 17 "ShareDesk" "total" "I") k_fieldLink_X0_17) (fun _ h9 => h9) rfl dX0_restOf_11 ?_
  refine lv_i2l (v := lN (sd_sum w n)) hx hb dX0_restOf_14 (nI_l (by omega)) ?_
  refine sd_lrem (v := lN ((u * (w q)) % (sd_sum w n))) hx hb dX0_restOf_15 (sd_lne0 (by omega) (by omega)) (pk_lRem (by omega) (by omega) (by omega)) ?_
  exact W.lret hx hb hr (fun t ht hW => ⟨_, rfl, rfl, ht⟩) (fun q hq => nomatch hq) dX0_restOf_16
set_option maxHeartbeats 4000000 in
set_option maxRecDepth 100000 in
theorem c_unitsBefore (l : Launch) (dC : Nat → ClassId) (dI : Nat → Nat → Nat) (cA : ClassId) (h0 a0 n : Nat) (w : Nat → Nat) (ok : sd_ok n w) (y k q i : Nat) (hy : y = 1 ∨ y = 2) (hk : 1 ≤ k) (hk2 : k ≤ 20000) (hq : q < n) (hpos : 0 < w q) (hi : i < n) : Met l yX0_unitsBefore (sd_ws yX0_unitsBefore cX0_unitsBefore 9 (some .long)) (sd_rm 1 0 0) (sd_Pp (dC, dI) vwCl [(cA, .int)] (sd_O cA h0 a0 n w) [.ref h0, .int (nI y), .int (nI k), .int (nI q), .int (nI i)]) (vp_Sl (fun r => r = lN (sd_ub y w k q i))) 0 0 (fun _ => False) := by
  refine Met.ofW (cc := cX0_unitsBefore) (maxL := 9) (ret := (some .long)) (by decide) rfl ?_
  intro p e s m args below meth c s₁ B hml hv
  obtain ⟨rfl, hP, hK⟩ := hv
  have hx := B.exec
  have hb := B.bytes
  have hr := B.returns
  have hts0 := atoms_spec (ws := (sd_ws yX0_unitsBefore cX0_unitsBefore 9 (some .long))) B.pre
  have hts : ∀ w ∈ sd_WS, w.before _ s = true := fun w h => hts0 w (List.mem_cons_of_mem _ h)
  have hown : s.vm.findClass RX0 = some m.cls := findClass_of_methodNamed B.named
  have hlocks := B.notSynchronized
  have hl := lv_entry ([.ref h0, .int (nI y), .int (nI k), .int (nI q), .int (nI i)]) (n := 9) (Nat.le_of_ble_eq_true rfl)
  rw [lg_entry_eq]
  generalize (lg_sl ([.ref h0, .int (nI y), .int (nI k), .int (nI q), .int (nI i)]) ++ List.replicate (9 - (lg_sl ([.ref h0, .int (nI y), .int (nI k), .int (nI q), .int (nI i)])).length) Slot.unset).toArray = ls at hl ⊢
  have hl : lv_has ls 9 [(0, .ref h0), (1, .int (nI y)), (2, .int (nI k)), (3, .int (nI q)), (4, .int (nI i))] := hl
  have hP : va_P (dC, dI) vwCl [(h0, .inr (0, [.ref a0, .int (nI n), .int (nI (sd_sum w n))])), (a0, .inl (cA, 8, .inl (fun i => nI (w i))))] s.heap := hP
  have hwq := ok.2.2.1 q
  have hwi := ok.2.2.1 i
  have hn8 := ok.2.1
  have hy2 : y ≤ 2 := by omega
  have hdw := sd_dw_le (W := 100000) hy2 hk hk2 hwi
  refine lv_aload_n hx hb dX0_unitsBefore_0 rfl (lv_at hl 0 rfl) ?_
  refine va_get (D := (dC, dI)) (ci := 0) (v := .ref a0) (C := RX0) (T := TX0) (N := 3) hx hb hts u_in_X0 hown hK hP 0 rfl rfl 0 (by decide) (hts (.fieldLink RX0 9 "ShareDesk" "weights" "[I") k_fieldLink_X0_9) (fun _ h9 => h9) rfl dX0_unitsBefore_1 ?_
  refine lv_iload hx hb dX0_unitsBefore_4 (lv_at hl 4 rfl) ?_
  refine sd_iald (j := i) (v := nI (w i)) hx hb hK hP 1 0 rfl rfl (by omega) (by decide) rfl dX0_unitsBefore_6 ?_
  refine sd_iz_ne (a := w i) (tgt := 12) hx hb dX0_unitsBefore_7 (by decide) (by omega) (fun h => ?_) (fun h => ?_)
  · have hr1 : 0 < sd_dv y k * w i := Nat.mul_pos (sd_dv_pos y k) h
    refine lv_iload_n hx hb dX0_unitsBefore_12 rfl (lv_at hl 1 rfl) ?_
    refine lv_iload_n hx hb dX0_unitsBefore_13 rfl (lv_at hl 2 rfl) ?_
    refine sd_calll (va_runS (As := [.int (nI y), .int (nI k)]) (rest := []) ⟨hx, hb, hml, hown, hts0⟩ (c_divisorOf l dC dI y k hy hk hk2) (cwS 2 hts0 (sd_gS k_methodLink_X0_91 k_static_X0_divisorOf k_init_ShareDesk k_code_X0_divisorOf) rfl rfl rfl (by decide +kernel) ⟨Nat.le_of_ble_eq_true rfl, Nat.le_of_ble_eq_true rfl⟩) (sd_preS (sd_K0 hK) (sd_nil _ _ _)) rfl rfl hl.1 rfl (lv_room (Nat.le_of_ble_eq_true rfl)) dX0_unitsBefore_14 ⟨Nat.zero_le _, Nat.zero_le _⟩) ?_
    refine lv_aload_n hx hb dX0_unitsBefore_17 rfl (lv_at hl 0 rfl) ?_
    refine va_get (D := (dC, dI)) (ci := 0) (v := .ref a0) (C := RX0) (T := TX0) (N := 3) hx hb hts u_in_X0 hown hK hP 0 rfl rfl 0 (by decide) (hts (.fieldLink RX0 9 "ShareDesk" "weights" "[I") k_fieldLink_X0_9) (fun _ h9 => h9) rfl dX0_unitsBefore_18 ?_
    refine lv_iload hx hb dX0_unitsBefore_21 (lv_at hl 4 rfl) ?_
    refine sd_iald (j := i) (v := nI (w i)) hx hb hK hP 1 0 rfl rfl (by omega) (by decide) rfl dX0_unitsBefore_23 ?_
    refine lv_i2l (v := lN (w i)) hx hb dX0_unitsBefore_24 (nI_l (by omega)) ?_
    refine sd_lmul (v := lN ((sd_dv y k) * (w i))) hx hb dX0_unitsBefore_25 (lN_mul _ _) ?_
    refine lv_lstore hx hb dX0_unitsBefore_26 hl (by decide) rfl (fun ls hl => ?_)
    have hl : lv_has ls 9 [(5, .long (lN ((sd_dv y k) * (w i)))), (0, .ref h0), (1, .int (nI y)), (2, .int (nI k)), (3, .int (nI q)), (4, .int (nI i))] := hl
    refine lv_iload hx hb dX0_unitsBefore_28 (lv_at hl 5 rfl) ?_
    refine lv_iload_n hx hb dX0_unitsBefore_30 rfl (lv_at hl 4 rfl) ?_
    refine sd_ic_le (a := i) (b := q) (tgt := 40) hx hb dX0_unitsBefore_31 (by decide) (by omega) (by omega) (fun h => ?_) (fun h => ?_)
    · have hiq := h
      refine lv_lload hx hb dX0_unitsBefore_40 (lv_at hl 0 rfl) ?_
      refine lv_aload_n hx hb dX0_unitsBefore_42 rfl (lv_at hl 1 rfl) ?_
      refine va_get (D := (dC, dI)) (ci := 0) (v := .ref a0) (C := RX0) (T := TX0) (N := 3) hx hb hts u_in_X0 hown hK hP 0 rfl rfl 0 (by decide) (hts (.fieldLink RX0 9 "ShareDesk" "weights" "[I") k_fieldLink_X0_9) (fun _ h9 => h9) rfl dX0_unitsBefore_43 ?_
      refine lv_iload_n hx hb dX0_unitsBefore_46 rfl (lv_at hl 4 rfl) ?_
      refine sd_iald (j := q) (v := nI (w q)) hx hb hK hP 1 0 rfl rfl (by omega) (by decide) rfl dX0_unitsBefore_47 ?_
      refine lv_i2l (v := lN (w q)) hx hb dX0_unitsBefore_48 (nI_l (by omega)) ?_
      refine sd_ldiv (v := lN (((sd_dv y k) * (w i)) / (w q))) hx hb dX0_unitsBefore_49 (sd_lne0 (by omega) (by omega)) (pk_lDiv (by omega) (by omega) (by omega)) ?_
      refine lv_lstore hx hb dX0_unitsBefore_50 hl (by decide) rfl (fun ls hl => ?_)
      have hl : lv_has ls 9 [(7, .long (lN (((sd_dv y k) * (w i)) / (w q)))), (5, .long (lN ((sd_dv y k) * (w i)))), (0, .ref h0), (1, .int (nI y)), (2, .int (nI k)), (3, .int (nI q)), (4, .int (nI i))] := hl
      refine lv_iload_n hx hb dX0_unitsBefore_52 rfl (lv_at hl 3 rfl) ?_
      refine lv_iconst (v := (nI 1)) hx hb dX0_unitsBefore_53 (by decide +kernel) ?_
      refine sd_ic_ne (a := y) (b := 1) (tgt := 62) hx hb dX0_unitsBefore_54 (by decide) (by omega) (by omega) (fun h => ?_) (fun h => ?_)
      · have hy3 : y = 2 := by omega
        have hgd := Nat.div_le_self (sd_dv y k * w i) (w q)
        refine lv_lload hx hb dX0_unitsBefore_62 (lv_at hl 0 rfl) ?_
        refine lv_lconst (v := lN 1) hx hb dX0_unitsBefore_64 rfl ?_
        refine sd_ladd (v := lN ((((sd_dv y k) * (w i)) / (w q)) + 1)) hx hb dX0_unitsBefore_65 (lN_add _ _) ?_
        refine lv_ldc2 (v := 2) hx hb hown (hts (.constantLong RX0 94 2) k_constantLong_X0_94) dX0_unitsBefore_66 ?_
        refine sd_topl (y := lN 2) (by decide +kernel) ?_
        refine sd_ldiv (v := lN (((((sd_dv y k) * (w i)) / (w q)) + 1) / 2)) hx hb dX0_unitsBefore_69 (sd_lne0 (by omega) (by omega)) (pk_lDiv (by omega) (by omega) (by omega)) ?_
        refine sd_topl (y := lN (sd_ub y w k q i)) (by unfold sd_ub; rw [if_neg (by omega), if_neg h, if_neg (by omega), Nat.sub_zero]) ?_
        exact W.lret hx hb hr (fun t ht hW => ⟨_, rfl, rfl, ht⟩) (fun q hq => nomatch hq) dX0_unitsBefore_70
      · refine lv_lload hx hb dX0_unitsBefore_57 (lv_at hl 0 rfl) ?_
        refine lv_goto (tgt := 70) hx hb dX0_unitsBefore_59 (by decide) ?_
        refine sd_topl (y := lN (sd_ub y w k q i)) (by unfold sd_ub; rw [if_neg (by omega), if_pos h, if_neg (by omega), Nat.sub_zero]) ?_
        exact W.lret hx hb hr (fun t ht hW => ⟨_, rfl, rfl, ht⟩) (fun q hq => nomatch hq) dX0_unitsBefore_70
    · have hiq := h
      refine lv_lload hx hb dX0_unitsBefore_34 (lv_at hl 0 rfl) ?_
      refine lv_lconst (v := lN 1) hx hb dX0_unitsBefore_36 rfl ?_
      refine sd_lsub (v := lN (((sd_dv y k) * (w i)) - 1)) hx hb dX0_unitsBefore_37 (lN_sub (by omega)) ?_
      refine lv_lstore hx hb dX0_unitsBefore_38 hl (by decide) rfl (fun ls hl => ?_)
      have hl : lv_has ls 9 [(5, .long (lN (((sd_dv y k) * (w i)) - 1))), (0, .ref h0), (1, .int (nI y)), (2, .int (nI k)), (3, .int (nI q)), (4, .int (nI i))] := hl
      refine lv_lload hx hb dX0_unitsBefore_40 (lv_at hl 0 rfl) ?_
      refine lv_aload_n hx hb dX0_unitsBefore_42 rfl (lv_at hl 1 rfl) ?_
      refine va_get (D := (dC, dI)) (ci := 0) (v := .ref a0) (C := RX0) (T := TX0) (N := 3) hx hb hts u_in_X0 hown hK hP 0 rfl rfl 0 (by decide) (hts (.fieldLink RX0 9 "ShareDesk" "weights" "[I") k_fieldLink_X0_9) (fun _ h9 => h9) rfl dX0_unitsBefore_43 ?_
      refine lv_iload_n hx hb dX0_unitsBefore_46 rfl (lv_at hl 4 rfl) ?_
      refine sd_iald (j := q) (v := nI (w q)) hx hb hK hP 1 0 rfl rfl (by omega) (by decide) rfl dX0_unitsBefore_47 ?_
      refine lv_i2l (v := lN (w q)) hx hb dX0_unitsBefore_48 (nI_l (by omega)) ?_
      refine sd_ldiv (v := lN ((((sd_dv y k) * (w i)) - 1) / (w q))) hx hb dX0_unitsBefore_49 (sd_lne0 (by omega) (by omega)) (pk_lDiv (by omega) (by omega) (by omega)) ?_
      refine lv_lstore hx hb dX0_unitsBefore_50 hl (by decide) rfl (fun ls hl => ?_)
      have hl : lv_has ls 9 [(7, .long (lN ((((sd_dv y k) * (w i)) - 1) / (w q)))), (5, .long (lN (((sd_dv y k) * (w i)) - 1))), (0, .ref h0), (1, .int (nI y)), (2, .int (nI k)), (3, .int (nI q)), (4, .int (nI i))] := hl
      refine lv_iload_n hx hb dX0_unitsBefore_52 rfl (lv_at hl 3 rfl) ?_
      refine lv_iconst (v := (nI 1)) hx hb dX0_unitsBefore_53 (by decide +kernel) ?_
      refine sd_ic_ne (a := y) (b := 1) (tgt := 62) hx hb dX0_unitsBefore_54 (by decide) (by omega) (by omega) (fun h => ?_) (fun h => ?_)
      · have hy3 : y = 2 := by omega
        have hgd := Nat.div_le_self (sd_dv y k * w i - 1) (w q)
        refine lv_lload hx hb dX0_unitsBefore_62 (lv_at hl 0 rfl) ?_
        refine lv_lconst (v := lN 1) hx hb dX0_unitsBefore_64 rfl ?_
        refine sd_ladd (v := lN (((((sd_dv y k) * (w i)) - 1) / (w q)) + 1)) hx hb dX0_unitsBefore_65 (lN_add _ _) ?_
        refine lv_ldc2 (v := 2) hx hb hown (hts (.constantLong RX0 94 2) k_constantLong_X0_94) dX0_unitsBefore_66 ?_
        refine sd_topl (y := lN 2) (by decide +kernel) ?_
        refine sd_ldiv (v := lN ((((((sd_dv y k) * (w i)) - 1) / (w q)) + 1) / 2)) hx hb dX0_unitsBefore_69 (sd_lne0 (by omega) (by omega)) (pk_lDiv (by omega) (by omega) (by omega)) ?_
        refine sd_topl (y := lN (sd_ub y w k q i)) (by unfold sd_ub; rw [if_neg (by omega), if_neg h, if_pos (by omega)]) ?_
        exact W.lret hx hb hr (fun t ht hW => ⟨_, rfl, rfl, ht⟩) (fun q hq => nomatch hq) dX0_unitsBefore_70
      · refine lv_lload hx hb dX0_unitsBefore_57 (lv_at hl 0 rfl) ?_
        refine lv_goto (tgt := 70) hx hb dX0_unitsBefore_59 (by decide) ?_
        refine sd_topl (y := lN (sd_ub y w k q i)) (by unfold sd_ub; rw [if_neg (by omega), if_pos h, if_pos (by omega)]) ?_
        exact W.lret hx hb hr (fun t ht hW => ⟨_, rfl, rfl, ht⟩) (fun q hq => nomatch hq) dX0_unitsBefore_70
  · refine lv_lconst (v := lN 0) hx hb dX0_unitsBefore_10 rfl ?_
    refine sd_topl (y := lN (sd_ub y w k q i)) (by unfold sd_ub; rw [if_pos h]) ?_
    exact W.lret hx hb hr (fun t ht hW => ⟨_, rfl, rfl, ht⟩) (fun q hq => nomatch hq) dX0_unitsBefore_11
set_option maxHeartbeats 4000000 in
set_option maxRecDepth 100000 in
theorem lp_turnOf {p : Program} {l : Launch} {e : Env} {R : Room} {s : State} {m : MethodId} {args : Array Value} {below : List Frame} {meth : Method} {c : Code} {H : Heap} {locs : List Loc} {cells slots : Nat} {Q : State → Prop} (hx : p.tables.exec = Jvm.exec) (hb : c.code = cX0_turnOf) (hml : c.maxLocals = 7) (hts0 : ∀ w ∈ (sd_ws yX0_turnOf cX0_turnOf 7 (some .long)), w.before args s = true) (hown : s.vm.findClass RX0 = some m.cls) {dC : Nat → ClassId} {dI : Nat → Nat → Nat} {cA : ClassId} {h0 a0 n : Nat} {w : Nat → Nat} (hK : va_K (dC, dI) vwCl [(cA, .int)] s) (hP : va_P (dC, dI) vwCl (sd_O cA h0 a0 n w) H) (ok : sd_ok n w) (y k q : Nat) (hy : y = 1 ∨ y = 2) (hk : 1 ≤ k) (hk2 : k ≤ 20000) (hq : q < n) (hpos : 0 < w q) (hR : (sd_rm 1 0 0).frames + 1 ≤ R.frames ∧ 8 + (9 + 11) + (sd_rm 1 0 0).locals ≤ R.locals) (hf : cells + 0 ≤ R.cells ∧ slots + 0 ≤ R.slots)
    (kk : ∀ ls : Array Slot, lv_has ls 7 [(0, .ref h0), (1, .int (nI y)), (2, .int (nI k)), (3, .int (nI q)), (4, .long (lN (k + sd_sum (fun j => if j = q then 0 else sd_ub y w k q j) n))), (6, .int (nI n))] → W p l e R s m args below meth c H locs cells slots Q (F0 m 42 ls []))
    : ∀ (f i : Nat), i + f = n → ∀ ls : Array Slot, lv_has ls 7 [(0, .ref h0), (1, .int (nI y)), (2, .int (nI k)), (3, .int (nI q)), (4, .long (lN (k + sd_sum (fun j => if j = q then 0 else sd_ub y w k q j) i))), (6, .int (nI i))] → W p l e R s m args below meth c H locs cells slots Q (F0 m 7 ls []) := by
  have hts : ∀ w ∈ sd_WS, w.before args s = true := fun w h => hts0 w (List.mem_cons_of_mem _ h)
  have hP : va_P (dC, dI) vwCl [(h0, .inr (0, [.ref a0, .int (nI n), .int (nI (sd_sum w n))])), (a0, .inl (cA, 8, .inl (fun i => nI (w i))))] H := hP
  have hy2 : y ≤ 2 := by omega
  have hn8 := ok.2.1
  intro f
  induction f using Nat.strongRecOn with
  | ind f ih0 =>
    intro i hi ls hl
    have ih : i < n → ∀ ls : Array Slot, lv_has ls 7 [(0, .ref h0), (1, .int (nI y)), (2, .int (nI k)), (3, .int (nI q)), (4, .long (lN (k + sd_sum (fun j => if j = q then 0 else sd_ub y w k q j) (i + 1)))), (6, .int (nI (i + 1)))] → W p l e R s m args below meth c H locs cells slots Q (F0 m 7 ls []) := fun hlt => ih0 (f - 1) (by omega) (i + 1) (by omega)
    refine lv_iload hx hb dX0_turnOf_7 (lv_at hl 5 rfl) ?_
    refine lv_aload_n hx hb dX0_turnOf_9 rfl (lv_at hl 0 rfl) ?_
    refine va_get (D := (dC, dI)) (ci := 0) (v := .int (nI n)) (C := RX0) (T := TX0) (N := 3) hx hb hts u_in_X0 hown hK hP 0 rfl rfl 1 (by decide) (hts (.fieldLink RX0 13 "ShareDesk" "parties" "I") k_fieldLink_X0_13) (fun _ h9 => h9) rfl dX0_turnOf_10 ?_
    refine sd_ic_ge (a := i) (b := n) (tgt := 42) hx hb dX0_turnOf_13 (by decide) (by omega) (by omega) (fun h => ?_) (fun h => ?_)
    · have hin : i = n := by omega
      subst hin
      exact kk ls hl
    · have hbd := sd_turn_le (p := q) (n := n) hy2 hk hk2 ok.2.2.1 i (by omega) ok.2.1
      refine lv_iload hx hb dX0_turnOf_16 (lv_at hl 5 rfl) ?_
      refine lv_iload_n hx hb dX0_turnOf_18 rfl (lv_at hl 3 rfl) ?_
      refine sd_ic_eq (a := i) (b := q) (tgt := 36) hx hb dX0_turnOf_19 (by decide) (by omega) (by omega) (fun h => ?_) (fun h => ?_)
      · have e1 : (k + sd_sum (fun j => if j = q then 0 else sd_ub y w k q j) (i + 1)) = (k + sd_sum (fun j => if j = q then 0 else sd_ub y w k q j) i) := by rw [sd_sum_s, if_pos h]; rfl
        refine lv_iinc (k := 5) (v := nI (i + 1)) hx hb dX0_turnOf_36 hl rfl (nI_add _ 1) (by decide) rfl (fun ls hl => ?_)
        have hl : lv_has ls 7 [(6, .int (nI (i + 1))), (0, .ref h0), (1, .int (nI y)), (2, .int (nI k)), (3, .int (nI q)), (4, .long (lN (k + sd_sum (fun j => if j = q then 0 else sd_ub y w k q j) i)))] := hl
        refine lv_goto (tgt := 7) hx hb dX0_turnOf_39 (by decide) ?_
        have hl := lv_sub (l' := [(0, .ref h0), (1, .int (nI y)), (2, .int (nI k)), (3, .int (nI q)), (4, .long (lN (k + sd_sum (fun j => if j = q then 0 else sd_ub y w k q j) i))), (6, .int (nI (i + 1)))]) hl [1, 2, 3, 4, 5, 0] rfl
        rw [← e1] at hl
        exact ih (by omega) ls hl
      · refine lv_lload hx hb dX0_turnOf_22 (lv_at hl 4 rfl) ?_
        refine lv_aload_n hx hb dX0_turnOf_24 rfl (lv_at hl 0 rfl) ?_
        refine lv_iload_n hx hb dX0_turnOf_25 rfl (lv_at hl 1 rfl) ?_
        refine lv_iload_n hx hb dX0_turnOf_26 rfl (lv_at hl 2 rfl) ?_
        refine lv_iload_n hx hb dX0_turnOf_27 rfl (lv_at hl 3 rfl) ?_
        refine lv_iload hx hb dX0_turnOf_28 (lv_at hl 5 rfl) ?_
        refine sd_calll (va_runV (As := [.int (nI y), .int (nI k), .int (nI q), .int (nI i)]) (rest := [.long (lN (k + sd_sum (fun j => if j = q then 0 else sd_ub y w k q j) i))]) ⟨hx, hb, hml, hown, hts0⟩ (c_unitsBefore l dC dI cA h0 a0 n w ok y k q i hy hk hk2 hq hpos (by omega)) (cwV 4 hts0 (sd_gV k_methodLink_X0_87 k_instanceMethod_X0_unitsBefore k_sel_X0_unitsBefore k_init_ShareDesk k_code_X0_unitsBefore) rfl rfl rfl (by decide +kernel) ⟨hR.1, hR.2⟩) (sd_preV hK hP (q0 := 0) (ci := 0) rfl rfl) rfl rfl hl.1 rfl (lv_room (Nat.le_of_ble_eq_true rfl)) dX0_turnOf_30 hf) ?_
        refine sd_ladd (v := lN ((k + sd_sum (fun j => if j = q then 0 else sd_ub y w k q j) i) + (sd_ub y w k q i))) hx hb dX0_turnOf_33 (lN_add _ _) ?_
        refine lv_lstore hx hb dX0_turnOf_34 hl (by decide) rfl (fun ls hl => ?_)
        have hl : lv_has ls 7 [(4, .long (lN ((k + sd_sum (fun j => if j = q then 0 else sd_ub y w k q j) i) + (sd_ub y w k q i)))), (0, .ref h0), (1, .int (nI y)), (2, .int (nI k)), (3, .int (nI q)), (6, .int (nI i))] := hl
        have e1 : (k + sd_sum (fun j => if j = q then 0 else sd_ub y w k q j) (i + 1)) = (k + sd_sum (fun j => if j = q then 0 else sd_ub y w k q j) i) + sd_ub y w k q i := by rw [sd_sum_s, if_neg h]; omega
        refine lv_iinc (k := 5) (v := nI (i + 1)) hx hb dX0_turnOf_36 hl rfl (nI_add _ 1) (by decide) rfl (fun ls hl => ?_)
        have hl : lv_has ls 7 [(6, .int (nI (i + 1))), (4, .long (lN ((k + sd_sum (fun j => if j = q then 0 else sd_ub y w k q j) i) + (sd_ub y w k q i)))), (0, .ref h0), (1, .int (nI y)), (2, .int (nI k)), (3, .int (nI q))] := hl
        refine lv_goto (tgt := 7) hx hb dX0_turnOf_39 (by decide) ?_
        have hl := lv_sub (l' := [(0, .ref h0), (1, .int (nI y)), (2, .int (nI k)), (3, .int (nI q)), (4, .long (lN ((k + sd_sum (fun j => if j = q then 0 else sd_ub y w k q j) i) + (sd_ub y w k q i)))), (6, .int (nI (i + 1)))]) hl [2, 3, 4, 5, 1, 0] rfl
        rw [← e1] at hl
        exact ih (by omega) ls hl
set_option maxHeartbeats 4000000 in
set_option maxRecDepth 100000 in
theorem c_turnOf (l : Launch) (dC : Nat → ClassId) (dI : Nat → Nat → Nat) (cA : ClassId) (h0 a0 n : Nat) (w : Nat → Nat) (ok : sd_ok n w) (y k q : Nat) (hy : y = 1 ∨ y = 2) (hk : 1 ≤ k) (hk2 : k ≤ 20000) (hq : q < n) (hpos : 0 < w q) : Met l yX0_turnOf (sd_ws yX0_turnOf cX0_turnOf 7 (some .long)) (sd_rm 2 0 0) (sd_Pp (dC, dI) vwCl [(cA, .int)] (sd_O cA h0 a0 n w) [.ref h0, .int (nI y), .int (nI k), .int (nI q)]) (vp_Sl (fun r => r = lN (sd_turn y w n k q))) 0 0 (fun _ => False) := by
  refine Met.ofW (cc := cX0_turnOf) (maxL := 7) (ret := (some .long)) (by decide) rfl ?_
  intro p e s m args below meth c s₁ B hml hv
  obtain ⟨rfl, hP, hK⟩ := hv
  have hx := B.exec
  have hb := B.bytes
  have hr := B.returns
  have hts0 := atoms_spec (ws := (sd_ws yX0_turnOf cX0_turnOf 7 (some .long))) B.pre
  have hts : ∀ w ∈ sd_WS, w.before _ s = true := fun w h => hts0 w (List.mem_cons_of_mem _ h)
  have hown : s.vm.findClass RX0 = some m.cls := findClass_of_methodNamed B.named
  have hlocks := B.notSynchronized
  have hl := lv_entry ([.ref h0, .int (nI y), .int (nI k), .int (nI q)]) (n := 7) (Nat.le_of_ble_eq_true rfl)
  rw [lg_entry_eq]
  generalize (lg_sl ([.ref h0, .int (nI y), .int (nI k), .int (nI q)]) ++ List.replicate (7 - (lg_sl ([.ref h0, .int (nI y), .int (nI k), .int (nI q)])).length) Slot.unset).toArray = ls at hl ⊢
  have hl : lv_has ls 7 [(0, .ref h0), (1, .int (nI y)), (2, .int (nI k)), (3, .int (nI q))] := hl
  have hP : va_P (dC, dI) vwCl [(h0, .inr (0, [.ref a0, .int (nI n), .int (nI (sd_sum w n))])), (a0, .inl (cA, 8, .inl (fun i => nI (w i))))] s.heap := hP
  have hn8 := ok.2.1
  refine lv_iload_n hx hb dX0_turnOf_0 rfl (lv_at hl 2 rfl) ?_
  refine lv_i2l (v := lN k) hx hb dX0_turnOf_1 (nI_l (by omega)) ?_
  refine lv_lstore hx hb dX0_turnOf_2 hl (by decide) rfl (fun ls hl => ?_)
  have hl : lv_has ls 7 [(4, .long (lN k)), (0, .ref h0), (1, .int (nI y)), (2, .int (nI k)), (3, .int (nI q))] := hl
  refine lv_iconst (v := (nI 0)) hx hb dX0_turnOf_4 (by decide +kernel) ?_
  refine lv_istore hx hb dX0_turnOf_5 hl (by decide) rfl (fun ls hl => ?_)
  have hl : lv_has ls 7 [(6, .int (nI 0)), (4, .long (lN k)), (0, .ref h0), (1, .int (nI y)), (2, .int (nI k)), (3, .int (nI q))] := hl
  have hl := lv_sub (l' := [(0, .ref h0), (1, .int (nI y)), (2, .int (nI k)), (3, .int (nI q)), (4, .long (lN k)), (6, .int (nI 0))]) hl [2, 3, 4, 5, 1, 0] rfl
  refine lp_turnOf hx hb hml hts0 hown hK hP ok y k q hy hk hk2 hq hpos ⟨Nat.le_of_ble_eq_true rfl, Nat.le_of_ble_eq_true rfl⟩ ⟨Nat.zero_le _, Nat.zero_le _⟩ (fun ls hl => ?_) n 0 (by omega) ls hl
  refine lv_lload hx hb dX0_turnOf_42 (lv_at hl 4 rfl) ?_
  exact W.lret hx hb hr (fun t ht hW => ⟨_, rfl, rfl, ht⟩) (fun q hq => nomatch hq) dX0_turnOf_44
set_option maxHeartbeats 4000000 in
set_option maxRecDepth 100000 in
theorem lp_ubt {p : Program} {l : Launch} {e : Env} {R : Room} {s : State} {m : MethodId} {args : Array Value} {below : List Frame} {meth : Method} {c : Code} {H : Heap} {locs : List Loc} {cells slots : Nat} {Q : State → Prop} (hx : p.tables.exec = Jvm.exec) (hb : c.code = cX0_unitsByTurns) (hml : c.maxLocals = 6) (hts0 : ∀ w ∈ (sd_ws yX0_unitsByTurns cX0_unitsByTurns 6 (some .int)), w.before args s = true) (hown : s.vm.findClass RX0 = some m.cls) {dC : Nat → ClassId} {dI : Nat → Nat → Nat} {cA : ClassId} {h0 a0 n : Nat} {w : Nat → Nat} (hK : va_K (dC, dI) vwCl [(cA, .int)] s) (hP : va_P (dC, dI) vwCl (sd_O cA h0 a0 n w) H) (ok : sd_ok n w) (y u q K : Nat) (hy : y = 1 ∨ y = 2) (hu : u ≤ 10000) (hq : q < n) (hpos : 0 < w q) (hT : ∀ j, 1 ≤ j → (sd_turn y w n j q ≤ u ↔ j ≤ K)) (hKu : K ≤ 10000)
    (hR : (sd_rm 2 0 0).frames + 1 ≤ R.frames ∧ 8 + (7 + 11) + (sd_rm 2 0 0).locals ≤ R.locals) (hf : cells + 0 ≤ R.cells ∧ slots + 0 ≤ R.slots)
    (kk : ∀ ls : Array Slot, lv_has ls 6 [(0, .ref h0), (1, .int (nI y)), (2, .int (nI u)), (3, .int (nI q)), (4, .int (nI K)), (5, .int (nI 0))] → W p l e R s m args below meth c H locs cells slots Q (F0 m 57 ls []))
    : ∀ (st k : Nat), k ≤ K → (st = 0 → K = k) → (0 < st → K < k + 2 * st) → st ≤ 8192 → (st = 0 ∨ ∃ e, st = 2 ^ e) → ∀ ls : Array Slot, lv_has ls 6 [(0, .ref h0), (1, .int (nI y)), (2, .int (nI u)), (3, .int (nI q)), (4, .int (nI k)), (5, .int (nI st))] → W p l e R s m args below meth c H locs cells slots Q (F0 m 19 ls []) := by
  have hts : ∀ w ∈ sd_WS, w.before args s = true := fun w h => hts0 w (List.mem_cons_of_mem _ h)
  have hP : va_P (dC, dI) vwCl [(h0, .inr (0, [.ref a0, .int (nI n), .int (nI (sd_sum w n))])), (a0, .inl (cA, 8, .inl (fun i => nI (w i))))] H := hP
  have hy2 : y ≤ 2 := by omega
  have hn8 := ok.2.1
  intro st
  induction st using Nat.strongRecOn with
  | ind st ih0 =>
    intro k h1 h2 h3 h4 h5 ls hl
    refine lv_iload hx hb dX0_unitsByTurns_19 (lv_at hl 5 rfl) ?_
    refine sd_iz_le (a := st) (tgt := 57) hx hb dX0_unitsByTurns_21 (by decide) (by omega) (fun h => ?_) (fun h => ?_)
    · subst h
      have hKk := h2 rfl
      subst hKk
      exact kk ls hl
    · have hKs := h3 h
      have hbt : sd_turn y w n (k + st) q ≤ 20000 + 8 * 4000000000 := sd_turn_le (n := n) hy2 (by omega) (by omega) ok.2.2.1 n (Nat.le_refl _) ok.2.1
      have hTk := hT (k + st) (by omega)
      have hst2 : 0 < st / 2 → ∃ e, st / 2 = 2 ^ e := by
        intro hp
        rcases h5 with z | ⟨e, z⟩
        · omega
        · cases e with
          | zero => rw [Nat.pow_zero] at z; omega
          | succ e => exact ⟨e, by rw [Nat.pow_succ] at z; omega⟩
      have hst3 : 0 < st / 2 → 2 * (st / 2) = st := by
        intro hp
        rcases h5 with z | ⟨e, z⟩
        · omega
        · cases e with
          | zero => rw [Nat.pow_zero] at z; omega
          | succ e => rw [Nat.pow_succ] at z; omega
      have hst4 : st / 2 = 0 → st = 1 := by omega
      have hst5 : st / 2 = 0 ∨ ∃ e, st / 2 = 2 ^ e := by
        by_cases z : st / 2 = 0
        · exact Or.inl z
        · exact Or.inr (hst2 (by omega))
      refine lv_aload_n hx hb dX0_unitsByTurns_24 rfl (lv_at hl 0 rfl) ?_
      refine lv_iload_n hx hb dX0_unitsByTurns_25 rfl (lv_at hl 1 rfl) ?_
      refine lv_iload hx hb dX0_unitsByTurns_26 (lv_at hl 4 rfl) ?_
      refine lv_iload hx hb dX0_unitsByTurns_28 (lv_at hl 5 rfl) ?_
      refine sd_iadd (v := nI (k + st)) hx hb dX0_unitsByTurns_30 (nI_add _ _) ?_
      refine lv_iload_n hx hb dX0_unitsByTurns_31 rfl (lv_at hl 3 rfl) ?_
      refine sd_calll (va_runV (As := [.int (nI y), .int (nI (k + st)), .int (nI q)]) (rest := []) ⟨hx, hb, hml, hown, hts0⟩ (c_turnOf l dC dI cA h0 a0 n w ok y (k + st) q hy (by omega) (by omega) hq hpos) (cwV 3 hts0 (sd_gV k_methodLink_X0_54 k_instanceMethod_X0_turnOf k_sel_X0_turnOf k_init_ShareDesk k_code_X0_turnOf) rfl rfl rfl (by decide +kernel) ⟨hR.1, hR.2⟩) (sd_preV hK hP (q0 := 0) (ci := 0) rfl rfl) rfl rfl hl.1 rfl (lv_room (Nat.le_of_ble_eq_true rfl)) dX0_unitsByTurns_32 hf) ?_
      refine lv_iload_n hx hb dX0_unitsByTurns_35 rfl (lv_at hl 2 rfl) ?_
      refine lv_i2l (v := lN u) hx hb dX0_unitsByTurns_36 (nI_l (by omega)) ?_
      refine sd_lc_gt (a := sd_turn y w n (k + st) q) (b := u) (tgt := 48) hx hb dX0_unitsByTurns_37 dX0_unitsByTurns_38 (by decide) (by omega) (by omega) (fun h => ?_) (fun h => ?_)
      · have hno : ¬ k + st ≤ K := fun z => absurd (hTk.mpr z) (by omega)
        refine lv_iload hx hb dX0_unitsByTurns_48 (lv_at hl 5 rfl) ?_
        refine lv_iconst (v := (nI 2)) hx hb dX0_unitsByTurns_50 (by decide +kernel) ?_
        refine sd_idiv (v := nI (st / 2)) hx hb dX0_unitsByTurns_51 (nI_ne0 (by omega) (by omega)) (pk_div (by omega) (by omega) (by omega)) ?_
        refine lv_istore hx hb dX0_unitsByTurns_52 hl (by decide) rfl (fun ls hl => ?_)
        have hl : lv_has ls 6 [(5, .int (nI (st / 2))), (0, .ref h0), (1, .int (nI y)), (2, .int (nI u)), (3, .int (nI q)), (4, .int (nI k))] := hl
        refine lv_goto (tgt := 19) hx hb dX0_unitsByTurns_54 (by decide) ?_
        have hl := lv_sub (l' := [(0, .ref h0), (1, .int (nI y)), (2, .int (nI u)), (3, .int (nI q)), (4, .int (nI k)), (5, .int (nI (st / 2)))]) hl [1, 2, 3, 4, 5, 0] rfl
        refine ih0 (st / 2) (by omega) (k) (by omega) (fun z => ?_) (fun z => ?_) (by omega) hst5 ls hl
        · have := hst4 z; omega
        · have := hst3 z; omega
      · have hyes : k + st ≤ K := hTk.mp h
        refine lv_iload hx hb dX0_unitsByTurns_41 (lv_at hl 4 rfl) ?_
        refine lv_iload hx hb dX0_unitsByTurns_43 (lv_at hl 5 rfl) ?_
        refine sd_iadd (v := nI (k + st)) hx hb dX0_unitsByTurns_45 (nI_add _ _) ?_
        refine lv_istore hx hb dX0_unitsByTurns_46 hl (by decide) rfl (fun ls hl => ?_)
        have hl : lv_has ls 6 [(4, .int (nI (k + st))), (0, .ref h0), (1, .int (nI y)), (2, .int (nI u)), (3, .int (nI q)), (5, .int (nI st))] := hl
        refine lv_iload hx hb dX0_unitsByTurns_48 (lv_at hl 5 rfl) ?_
        refine lv_iconst (v := (nI 2)) hx hb dX0_unitsByTurns_50 (by decide +kernel) ?_
        refine sd_idiv (v := nI (st / 2)) hx hb dX0_unitsByTurns_51 (nI_ne0 (by omega) (by omega)) (pk_div (by omega) (by omega) (by omega)) ?_
        refine lv_istore hx hb dX0_unitsByTurns_52 hl (by decide) rfl (fun ls hl => ?_)
        have hl : lv_has ls 6 [(5, .int (nI (st / 2))), (4, .int (nI (k + st))), (0, .ref h0), (1, .int (nI y)), (2, .int (nI u)), (3, .int (nI q))] := hl
        refine lv_goto (tgt := 19) hx hb dX0_unitsByTurns_54 (by decide) ?_
        have hl := lv_sub (l' := [(0, .ref h0), (1, .int (nI y)), (2, .int (nI u)), (3, .int (nI q)), (4, .int (nI (k + st))), (5, .int (nI (st / 2)))]) hl [2, 3, 4, 5, 1, 0] rfl
        refine ih0 (st / 2) (by omega) (k + st) (by omega) (fun z => ?_) (fun z => ?_) (by omega) hst5 ls hl
        · have := hst4 z; omega
        · have := hst3 z; omega
set_option maxHeartbeats 4000000 in
set_option maxRecDepth 100000 in
theorem c_unitsByTurns (l : Launch) (dC : Nat → ClassId) (dI : Nat → Nat → Nat) (cA : ClassId) (h0 a0 n : Nat) (w : Nat → Nat) (ok : sd_ok n w) (hW : 0 < sd_sum w n) (y u q : Nat) (hy : y = 1 ∨ y = 2) (hu : u ≤ 10000) (hq : q < n) : Met l yX0_unitsByTurns (sd_ws yX0_unitsByTurns cX0_unitsByTurns 6 (some .int)) (sd_rm 3 0 0) (sd_Pp (dC, dI) vwCl [(cA, .int)] (sd_O cA h0 a0 n w) [.ref h0, .int (nI y), .int (nI u), .int (nI q)]) (vp_Si (fun r => r = nI (sd_G y w n u q))) 0 0 (fun _ => False) := by
  refine Met.ofW (cc := cX0_unitsByTurns) (maxL := 6) (ret := (some .int)) (by decide) rfl ?_
  intro p e s m args below meth c s₁ B hml hv
  obtain ⟨rfl, hP, hK⟩ := hv
  have hx := B.exec
  have hb := B.bytes
  have hr := B.returns
  have hts0 := atoms_spec (ws := (sd_ws yX0_unitsByTurns cX0_unitsByTurns 6 (some .int))) B.pre
  have hts : ∀ w ∈ sd_WS, w.before _ s = true := fun w h => hts0 w (List.mem_cons_of_mem _ h)
  have hown : s.vm.findClass RX0 = some m.cls := findClass_of_methodNamed B.named
  have hlocks := B.notSynchronized
  have hl := lv_entry ([.ref h0, .int (nI y), .int (nI u), .int (nI q)]) (n := 6) (Nat.le_of_ble_eq_true rfl)
  rw [lg_entry_eq]
  generalize (lg_sl ([.ref h0, .int (nI y), .int (nI u), .int (nI q)]) ++ List.replicate (6 - (lg_sl ([.ref h0, .int (nI y), .int (nI u), .int (nI q)])).length) Slot.unset).toArray = ls at hl ⊢
  have hl : lv_has ls 6 [(0, .ref h0), (1, .int (nI y)), (2, .int (nI u)), (3, .int (nI q))] := hl
  have hP : va_P (dC, dI) vwCl [(h0, .inr (0, [.ref a0, .int (nI n), .int (nI (sd_sum w n))])), (a0, .inl (cA, 8, .inl (fun i => nI (w i))))] s.heap := hP
  have hwq := ok.2.2.1 q
  have hn8 := ok.2.1
  have hI := sd_inv_G (y := y) (sd_sum_pos hW) u
  refine lv_aload_n hx hb dX0_unitsByTurns_0 rfl (lv_at hl 0 rfl) ?_
  refine va_get (D := (dC, dI)) (ci := 0) (v := .ref a0) (C := RX0) (T := TX0) (N := 3) hx hb hts u_in_X0 hown hK hP 0 rfl rfl 0 (by decide) (hts (.fieldLink RX0 9 "ShareDesk" "weights" "[I") k_fieldLink_X0_9) (fun _ h9 => h9) rfl dX0_unitsByTurns_1 ?_
  refine lv_iload_n hx hb dX0_unitsByTurns_4 rfl (lv_at hl 3 rfl) ?_
  refine sd_iald (j := q) (v := nI (w q)) hx hb hK hP 1 0 rfl rfl (by omega) (by decide) rfl dX0_unitsByTurns_5 ?_
  refine sd_iz_ne (a := w q) (tgt := 11) hx hb dX0_unitsByTurns_6 (by decide) (by omega) (fun h => ?_) (fun h => ?_)
  · have hKu : sd_G y w n u q ≤ 10000 := by
      have h1 := sd_sum_ge (f := sd_G y w n u) hq
      rw [hI.1] at h1
      omega
    refine lv_iconst (v := (nI 0)) hx hb dX0_unitsByTurns_11 (by decide +kernel) ?_
    refine lv_istore hx hb dX0_unitsByTurns_12 hl (by decide) rfl (fun ls hl => ?_)
    have hl : lv_has ls 6 [(4, .int (nI 0)), (0, .ref h0), (1, .int (nI y)), (2, .int (nI u)), (3, .int (nI q))] := hl
    refine lv_sipush (v := nI 8192) hx hb dX0_unitsByTurns_14 (by decide +kernel) ?_
    refine lv_istore hx hb dX0_unitsByTurns_17 hl (by decide) rfl (fun ls hl => ?_)
    have hl : lv_has ls 6 [(5, .int (nI 8192)), (4, .int (nI 0)), (0, .ref h0), (1, .int (nI y)), (2, .int (nI u)), (3, .int (nI q))] := hl
    have hl := lv_sub (l' := [(0, .ref h0), (1, .int (nI y)), (2, .int (nI u)), (3, .int (nI q)), (4, .int (nI 0)), (5, .int (nI 8192))]) hl [2, 3, 4, 5, 1, 0] rfl
    refine lp_ubt hx hb hml hts0 hown hK hP ok y u q (sd_G y w n u q) hy hu hq h (fun j hj => sd_turn_iff hy hI hq h hj) hKu ⟨Nat.le_of_ble_eq_true rfl, Nat.le_of_ble_eq_true rfl⟩ ⟨Nat.zero_le _, Nat.zero_le _⟩ (fun ls hl => ?_) 8192 0 (by omega) (by omega) (by omega) (by omega) (Or.inr ⟨13, rfl⟩) ls hl
    refine lv_iload hx hb dX0_unitsByTurns_57 (lv_at hl 4 rfl) ?_
    exact W.iret hx hb hr (fun t ht hW => ⟨_, rfl, rfl, ht⟩) (fun q hq => nomatch hq) dX0_unitsByTurns_59
  · refine lv_iconst (v := (nI 0)) hx hb dX0_unitsByTurns_9 (by decide +kernel) ?_
    refine sd_topi (y := nI (sd_G y w n u q)) (by rw [hI.2.1 q hq h]) ?_
    exact W.iret hx hb hr (fun t ht hW => ⟨_, rfl, rfl, ht⟩) (fun q hq => nomatch hq) dX0_unitsByTurns_10
set_option maxHeartbeats 4000000 in
set_option maxRecDepth 100000 in
theorem lp_ubr {p : Program} {l : Launch} {e : Env} {R : Room} {s : State} {m : MethodId} {args : Array Value} {below : List Frame} {meth : Method} {c : Code} {H : Heap} {locs : List Loc} {cells slots : Nat} {Q : State → Prop} (hx : p.tables.exec = Jvm.exec) (hb : c.code = cX0_unitsByRests) (hml : c.maxLocals = 11) (hts0 : ∀ w ∈ (sd_ws yX0_unitsByRests cX0_unitsByRests 11 (some .int)), w.before args s = true) (hown : s.vm.findClass RX0 = some m.cls) {dC : Nat → ClassId} {dI : Nat → Nat → Nat} {cA : ClassId} {h0 a0 n : Nat} {w : Nat → Nat} (hK : va_K (dC, dI) vwCl [(cA, .int)] s) (hP : va_P (dC, dI) vwCl (sd_O cA h0 a0 n w) H) (ok : sd_ok n w) (hW : 0 < sd_sum w n) (u q : Nat) (hu : u ≤ 10001) (hq : q < n) (hR : (sd_rm 0 0 0).frames + 1 ≤ R.frames ∧ 8 + (3 + 11) + (sd_rm 0 0 0).locals ≤ R.locals) (hf : cells + 0 ≤ R.cells ∧ slots + 0 ≤ R.slots)
    (kk : ∀ ls : Array Slot, lv_has ls 11 [(0, .ref h0), (1, .int (nI u)), (2, .int (nI q)), (3, .long (lN (sd_rs w (sd_sum w n) u q))), (5, .long (lN (sd_sum (sd_rs w (sd_sum w n) u) n))), (7, .int (nI (sd_cnt (sd_ab (sd_rs w (sd_sum w n) u) q) n))), (8, .int (nI n))] → W p l e R s m args below meth c H locs cells slots Q (F0 m 70 ls []))
    : ∀ (f i : Nat), i + f = n → ∀ ls : Array Slot, lv_has ls 11 [(0, .ref h0), (1, .int (nI u)), (2, .int (nI q)), (3, .long (lN (sd_rs w (sd_sum w n) u q))), (5, .long (lN (sd_sum (sd_rs w (sd_sum w n) u) i))), (7, .int (nI (sd_cnt (sd_ab (sd_rs w (sd_sum w n) u) q) i))), (8, .int (nI i))] → W p l e R s m args below meth c H locs cells slots Q (F0 m 16 ls []) := by
  have hts : ∀ w ∈ sd_WS, w.before args s = true := fun w h => hts0 w (List.mem_cons_of_mem _ h)
  have hP : va_P (dC, dI) vwCl [(h0, .inr (0, [.ref a0, .int (nI n), .int (nI (sd_sum w n))])), (a0, .inl (cA, 8, .inl (fun i => nI (w i))))] H := hP
  have hWl := sd_W_le ok.2.2.1 ok.2.1
  have hn8 := ok.2.1
  intro f
  induction f using Nat.strongRecOn with
  | ind f ih0 =>
    intro i hi ls hl
    have ih : i < n → ∀ ls : Array Slot, lv_has ls 11 [(0, .ref h0), (1, .int (nI u)), (2, .int (nI q)), (3, .long (lN (sd_rs w (sd_sum w n) u q))), (5, .long (lN (sd_sum (sd_rs w (sd_sum w n) u) (i + 1)))), (7, .int (nI (sd_cnt (sd_ab (sd_rs w (sd_sum w n) u) q) (i + 1)))), (8, .int (nI (i + 1)))] → W p l e R s m args below meth c H locs cells slots Q (F0 m 16 ls []) := fun hlt => ih0 (f - 1) (by omega) (i + 1) (by omega)
    refine lv_iload hx hb dX0_unitsByRests_16 (lv_at hl 6 rfl) ?_
    refine lv_aload_n hx hb dX0_unitsByRests_18 rfl (lv_at hl 0 rfl) ?_
    refine va_get (D := (dC, dI)) (ci := 0) (v := .int (nI n)) (C := RX0) (T := TX0) (N := 3) hx hb hts u_in_X0 hown hK hP 0 rfl rfl 1 (by decide) (hts (.fieldLink RX0 13 "ShareDesk" "parties" "I") k_fieldLink_X0_13) (fun _ h9 => h9) rfl dX0_unitsByRests_19 ?_
    refine sd_ic_ge (a := i) (b := n) (tgt := 70) hx hb dX0_unitsByRests_22 (by decide) (by omega) (by omega) (fun h => ?_) (fun h => ?_)
    · have hin : i = n := by omega
      subst hin
      exact kk ls hl
    · have hri : sd_rs w (sd_sum w n) u i < sd_sum w n := Nat.mod_lt _ hW
      have hrq : sd_rs w (sd_sum w n) u q < sd_sum w n := Nat.mod_lt _ hW
      have hsb : (sd_sum (sd_rs w (sd_sum w n) u) i) ≤ i * 800000 := sd_sum_bound (fun j _ => Nat.le_trans (Nat.le_of_lt (Nat.mod_lt _ hW)) hWl)
      have hcb := sd_cnt_lim (sd_ab (sd_rs w (sd_sum w n) u) q) i
      have e0 : (sd_sum (sd_rs w (sd_sum w n) u) (i + 1)) = (sd_sum (sd_rs w (sd_sum w n) u) i) + sd_rs w (sd_sum w n) u i := rfl
      refine lv_aload_n hx hb dX0_unitsByRests_25 rfl (lv_at hl 0 rfl) ?_
      refine lv_iload_n hx hb dX0_unitsByRests_26 rfl (lv_at hl 1 rfl) ?_
      refine lv_iload hx hb dX0_unitsByRests_27 (lv_at hl 6 rfl) ?_
      refine sd_calll (va_runV (As := [.int (nI u), .int (nI i)]) (rest := []) ⟨hx, hb, hml, hown, hts0⟩ (c_restOf l dC dI cA h0 a0 n w ok hW u i hu (by omega)) (cwV 2 hts0 (sd_gV k_methodLink_X0_83 k_instanceMethod_X0_restOf k_sel_X0_restOf k_init_ShareDesk k_code_X0_restOf) rfl rfl rfl (by decide +kernel) ⟨hR.1, hR.2⟩) (sd_preV hK hP (q0 := 0) (ci := 0) rfl rfl) rfl rfl hl.1 rfl (lv_room (Nat.le_of_ble_eq_true rfl)) dX0_unitsByRests_29 hf) ?_
      refine lv_lstore hx hb dX0_unitsByRests_32 hl (by decide) rfl (fun ls hl => ?_)
      have hl : lv_has ls 11 [(9, .long (lN (sd_rs w (sd_sum w n) u i))), (0, .ref h0), (1, .int (nI u)), (2, .int (nI q)), (3, .long (lN (sd_rs w (sd_sum w n) u q))), (5, .long (lN (sd_sum (sd_rs w (sd_sum w n) u) i))), (7, .int (nI (sd_cnt (sd_ab (sd_rs w (sd_sum w n) u) q) i))), (8, .int (nI i))] := hl
      refine lv_lload hx hb dX0_unitsByRests_34 (lv_at hl 5 rfl) ?_
      refine lv_lload hx hb dX0_unitsByRests_36 (lv_at hl 0 rfl) ?_
      refine sd_ladd (v := lN ((sd_sum (sd_rs w (sd_sum w n) u) i) + (sd_rs w (sd_sum w n) u i))) hx hb dX0_unitsByRests_38 (lN_add _ _) ?_
      refine lv_lstore hx hb dX0_unitsByRests_39 hl (by decide) rfl (fun ls hl => ?_)
      have hl : lv_has ls 11 [(5, .long (lN ((sd_sum (sd_rs w (sd_sum w n) u) i) + (sd_rs w (sd_sum w n) u i)))), (9, .long (lN (sd_rs w (sd_sum w n) u i))), (0, .ref h0), (1, .int (nI u)), (2, .int (nI q)), (3, .long (lN (sd_rs w (sd_sum w n) u q))), (7, .int (nI (sd_cnt (sd_ab (sd_rs w (sd_sum w n) u) q) i))), (8, .int (nI i))] := hl
      refine lv_lload hx hb dX0_unitsByRests_41 (lv_at hl 1 rfl) ?_
      refine lv_lload_n hx hb dX0_unitsByRests_43 rfl (lv_at hl 5 rfl) ?_
      refine sd_lc_gt (a := sd_rs w (sd_sum w n) u i) (b := sd_rs w (sd_sum w n) u q) (tgt := 61) hx hb dX0_unitsByRests_44 dX0_unitsByRests_45 (by decide) (by omega) (by omega) (fun h => ?_) (fun h => ?_)
      · have e1 : (sd_cnt (sd_ab (sd_rs w (sd_sum w n) u) q) (i + 1)) = (sd_cnt (sd_ab (sd_rs w (sd_sum w n) u) q) i) + 1 := by rw [sd_cnt_s, (show sd_ab (sd_rs w (sd_sum w n) u) q i = true by simp [sd_ab]; omega)]; rfl
        refine lv_iinc (k := 6) (v := nI (sd_cnt (sd_ab (sd_rs w (sd_sum w n) u) q) i + 1)) hx hb dX0_unitsByRests_61 hl rfl (nI_add _ 1) (by decide) rfl (fun ls hl => ?_)
        have hl : lv_has ls 11 [(7, .int (nI (sd_cnt (sd_ab (sd_rs w (sd_sum w n) u) q) i + 1))), (5, .long (lN ((sd_sum (sd_rs w (sd_sum w n) u) i) + (sd_rs w (sd_sum w n) u i)))), (9, .long (lN (sd_rs w (sd_sum w n) u i))), (0, .ref h0), (1, .int (nI u)), (2, .int (nI q)), (3, .long (lN (sd_rs w (sd_sum w n) u q))), (8, .int (nI i))] := hl
        refine lv_iinc (k := 7) (v := nI (i + 1)) hx hb dX0_unitsByRests_64 hl rfl (nI_add _ 1) (by decide) rfl (fun ls hl => ?_)
        have hl : lv_has ls 11 [(8, .int (nI (i + 1))), (7, .int (nI (sd_cnt (sd_ab (sd_rs w (sd_sum w n) u) q) i + 1))), (5, .long (lN ((sd_sum (sd_rs w (sd_sum w n) u) i) + (sd_rs w (sd_sum w n) u i)))), (9, .long (lN (sd_rs w (sd_sum w n) u i))), (0, .ref h0), (1, .int (nI u)), (2, .int (nI q)), (3, .long (lN (sd_rs w (sd_sum w n) u q)))] := hl
        refine lv_goto (tgt := 16) hx hb dX0_unitsByRests_67 (by decide) ?_
        have hl := lv_sub (l' := [(0, .ref h0), (1, .int (nI u)), (2, .int (nI q)), (3, .long (lN (sd_rs w (sd_sum w n) u q))), (5, .long (lN ((sd_sum (sd_rs w (sd_sum w n) u) i) + (sd_rs w (sd_sum w n) u i)))), (7, .int (nI (sd_cnt (sd_ab (sd_rs w (sd_sum w n) u) q) i + 1))), (8, .int (nI (i + 1)))]) hl [4, 5, 6, 7, 2, 1, 0] rfl
        rw [← e0, ← e1] at hl
        exact ih (by omega) ls hl
      · have hle := h
        refine lv_lload hx hb dX0_unitsByRests_48 (lv_at hl 1 rfl) ?_
        refine lv_lload_n hx hb dX0_unitsByRests_50 rfl (lv_at hl 5 rfl) ?_
        refine sd_lc_ne (a := sd_rs w (sd_sum w n) u i) (b := sd_rs w (sd_sum w n) u q) (tgt := 64) hx hb dX0_unitsByRests_51 dX0_unitsByRests_52 (by decide) (by omega) (by omega) (fun h => ?_) (fun h => ?_)
        · have e1 : (sd_cnt (sd_ab (sd_rs w (sd_sum w n) u) q) (i + 1)) = (sd_cnt (sd_ab (sd_rs w (sd_sum w n) u) q) i) := by rw [sd_cnt_s, (show sd_ab (sd_rs w (sd_sum w n) u) q i = false by simp [sd_ab]; omega)]; rfl
          refine lv_iinc (k := 7) (v := nI (i + 1)) hx hb dX0_unitsByRests_64 hl rfl (nI_add _ 1) (by decide) rfl (fun ls hl => ?_)
          have hl : lv_has ls 11 [(8, .int (nI (i + 1))), (5, .long (lN ((sd_sum (sd_rs w (sd_sum w n) u) i) + (sd_rs w (sd_sum w n) u i)))), (9, .long (lN (sd_rs w (sd_sum w n) u i))), (0, .ref h0), (1, .int (nI u)), (2, .int (nI q)), (3, .long (lN (sd_rs w (sd_sum w n) u q))), (7, .int (nI (sd_cnt (sd_ab (sd_rs w (sd_sum w n) u) q) i)))] := hl
          refine lv_goto (tgt := 16) hx hb dX0_unitsByRests_67 (by decide) ?_
          have hl := lv_sub (l' := [(0, .ref h0), (1, .int (nI u)), (2, .int (nI q)), (3, .long (lN (sd_rs w (sd_sum w n) u q))), (5, .long (lN ((sd_sum (sd_rs w (sd_sum w n) u) i) + (sd_rs w (sd_sum w n) u i)))), (7, .int (nI (sd_cnt (sd_ab (sd_rs w (sd_sum w n) u) q) i))), (8, .int (nI (i + 1)))]) hl [3, 4, 5, 6, 1, 7, 0] rfl
          rw [← e0, ← e1] at hl
          exact ih (by omega) ls hl
        · have heq := h
          refine lv_iload hx hb dX0_unitsByRests_55 (lv_at hl 7 rfl) ?_
          refine lv_iload_n hx hb dX0_unitsByRests_57 rfl (lv_at hl 4 rfl) ?_
          refine sd_ic_ge (a := i) (b := q) (tgt := 64) hx hb dX0_unitsByRests_58 (by decide) (by omega) (by omega) (fun h => ?_) (fun h => ?_)
          · have e1 : (sd_cnt (sd_ab (sd_rs w (sd_sum w n) u) q) (i + 1)) = (sd_cnt (sd_ab (sd_rs w (sd_sum w n) u) q) i) := by rw [sd_cnt_s, (show sd_ab (sd_rs w (sd_sum w n) u) q i = false by simp [sd_ab]; omega)]; rfl
            refine lv_iinc (k := 7) (v := nI (i + 1)) hx hb dX0_unitsByRests_64 hl rfl (nI_add _ 1) (by decide) rfl (fun ls hl => ?_)
            have hl : lv_has ls 11 [(8, .int (nI (i + 1))), (5, .long (lN ((sd_sum (sd_rs w (sd_sum w n) u) i) + (sd_rs w (sd_sum w n) u i)))), (9, .long (lN (sd_rs w (sd_sum w n) u i))), (0, .ref h0), (1, .int (nI u)), (2, .int (nI q)), (3, .long (lN (sd_rs w (sd_sum w n) u q))), (7, .int (nI (sd_cnt (sd_ab (sd_rs w (sd_sum w n) u) q) i)))] := hl
            refine lv_goto (tgt := 16) hx hb dX0_unitsByRests_67 (by decide) ?_
            have hl := lv_sub (l' := [(0, .ref h0), (1, .int (nI u)), (2, .int (nI q)), (3, .long (lN (sd_rs w (sd_sum w n) u q))), (5, .long (lN ((sd_sum (sd_rs w (sd_sum w n) u) i) + (sd_rs w (sd_sum w n) u i)))), (7, .int (nI (sd_cnt (sd_ab (sd_rs w (sd_sum w n) u) q) i))), (8, .int (nI (i + 1)))]) hl [3, 4, 5, 6, 1, 7, 0] rfl
            rw [← e0, ← e1] at hl
            exact ih (by omega) ls hl
          · have e1 : (sd_cnt (sd_ab (sd_rs w (sd_sum w n) u) q) (i + 1)) = (sd_cnt (sd_ab (sd_rs w (sd_sum w n) u) q) i) + 1 := by rw [sd_cnt_s, (show sd_ab (sd_rs w (sd_sum w n) u) q i = true by simp [sd_ab]; omega)]; rfl
            refine lv_iinc (k := 6) (v := nI (sd_cnt (sd_ab (sd_rs w (sd_sum w n) u) q) i + 1)) hx hb dX0_unitsByRests_61 hl rfl (nI_add _ 1) (by decide) rfl (fun ls hl => ?_)
            have hl : lv_has ls 11 [(7, .int (nI (sd_cnt (sd_ab (sd_rs w (sd_sum w n) u) q) i + 1))), (5, .long (lN ((sd_sum (sd_rs w (sd_sum w n) u) i) + (sd_rs w (sd_sum w n) u i)))), (9, .long (lN (sd_rs w (sd_sum w n) u i))), (0, .ref h0), (1, .int (nI u)), (2, .int (nI q)), (3, .long (lN (sd_rs w (sd_sum w n) u q))), (8, .int (nI i))] := hl
            refine lv_iinc (k := 7) (v := nI (i + 1)) hx hb dX0_unitsByRests_64 hl rfl (nI_add _ 1) (by decide) rfl (fun ls hl => ?_)
            have hl : lv_has ls 11 [(8, .int (nI (i + 1))), (7, .int (nI (sd_cnt (sd_ab (sd_rs w (sd_sum w n) u) q) i + 1))), (5, .long (lN ((sd_sum (sd_rs w (sd_sum w n) u) i) + (sd_rs w (sd_sum w n) u i)))), (9, .long (lN (sd_rs w (sd_sum w n) u i))), (0, .ref h0), (1, .int (nI u)), (2, .int (nI q)), (3, .long (lN (sd_rs w (sd_sum w n) u q)))] := hl
            refine lv_goto (tgt := 16) hx hb dX0_unitsByRests_67 (by decide) ?_
            have hl := lv_sub (l' := [(0, .ref h0), (1, .int (nI u)), (2, .int (nI q)), (3, .long (lN (sd_rs w (sd_sum w n) u q))), (5, .long (lN ((sd_sum (sd_rs w (sd_sum w n) u) i) + (sd_rs w (sd_sum w n) u i)))), (7, .int (nI (sd_cnt (sd_ab (sd_rs w (sd_sum w n) u) q) i + 1))), (8, .int (nI (i + 1)))]) hl [4, 5, 6, 7, 2, 1, 0] rfl
            rw [← e0, ← e1] at hl
            exact ih (by omega) ls hl
set_option maxHeartbeats 4000000 in
set_option maxRecDepth 100000 in
theorem c_unitsByRests (l : Launch) (dC : Nat → ClassId) (dI : Nat → Nat → Nat) (cA : ClassId) (h0 a0 n : Nat) (w : Nat → Nat) (ok : sd_ok n w) (hW : 0 < sd_sum w n) (u q : Nat) (hu : u ≤ 10001) (hq : q < n) : Met l yX0_unitsByRests (sd_ws yX0_unitsByRests cX0_unitsByRests 11 (some .int)) (sd_rm 1 0 0) (sd_Pp (dC, dI) vwCl [(cA, .int)] (sd_O cA h0 a0 n w) [.ref h0, .int (nI u), .int (nI q)]) (vp_Si (fun r => r = nI (sd_u0 w n u q))) 0 0 (fun _ => False) := by
  refine Met.ofW (cc := cX0_unitsByRests) (maxL := 11) (ret := (some .int)) (by decide) rfl ?_
  intro p e s m args below meth c s₁ B hml hv
  obtain ⟨rfl, hP, hK⟩ := hv
  have hx := B.exec
  have hb := B.bytes
  have hr := B.returns
  have hts0 := atoms_spec (ws := (sd_ws yX0_unitsByRests cX0_unitsByRests 11 (some .int))) B.pre
  have hts : ∀ w ∈ sd_WS, w.before _ s = true := fun w h => hts0 w (List.mem_cons_of_mem _ h)
  have hown : s.vm.findClass RX0 = some m.cls := findClass_of_methodNamed B.named
  have hlocks := B.notSynchronized
  have hl := lv_entry ([.ref h0, .int (nI u), .int (nI q)]) (n := 11) (Nat.le_of_ble_eq_true rfl)
  rw [lg_entry_eq]
  generalize (lg_sl ([.ref h0, .int (nI u), .int (nI q)]) ++ List.replicate (11 - (lg_sl ([.ref h0, .int (nI u), .int (nI q)])).length) Slot.unset).toArray = ls at hl ⊢
  have hl : lv_has ls 11 [(0, .ref h0), (1, .int (nI u)), (2, .int (nI q))] := hl
  have hP : va_P (dC, dI) vwCl [(h0, .inr (0, [.ref a0, .int (nI n), .int (nI (sd_sum w n))])), (a0, .inl (cA, 8, .inl (fun i => nI (w i))))] s.heap := hP
  have hwq := ok.2.2.1 q
  have hbm : u * w q ≤ 10001 * 100000 := sd_mw_le hu hwq
  have hWl := sd_W_le ok.2.2.1 ok.2.1
  have hn8 := ok.2.1
  have hsb : (sd_sum (sd_rs w (sd_sum w n) u) n) ≤ n * 800000 := sd_sum_bound (fun j _ => Nat.le_trans (Nat.le_of_lt (Nat.mod_lt _ hW)) hWl)
  have hcb := sd_cnt_lim (sd_ab (sd_rs w (sd_sum w n) u) q) n
  have hd1 := Nat.div_le_self (u * w q) (sd_sum w n)
  have hd2 := Nat.div_le_self (sd_sum (sd_rs w (sd_sum w n) u) n) (sd_sum w n)
  refine lv_aload_n hx hb dX0_unitsByRests_0 rfl (lv_at hl 0 rfl) ?_
  refine lv_iload_n hx hb dX0_unitsByRests_1 rfl (lv_at hl 1 rfl) ?_
  refine lv_iload_n hx hb dX0_unitsByRests_2 rfl (lv_at hl 2 rfl) ?_
  refine sd_calll (va_runV (As := [.int (nI u), .int (nI q)]) (rest := []) ⟨hx, hb, hml, hown, hts0⟩ (c_restOf l dC dI cA h0 a0 n w ok hW u q hu hq) (cwV 2 hts0 (sd_gV k_methodLink_X0_83 k_instanceMethod_X0_restOf k_sel_X0_restOf k_init_ShareDesk k_code_X0_restOf) rfl rfl rfl (by decide +kernel) ⟨Nat.le_of_ble_eq_true rfl, Nat.le_of_ble_eq_true rfl⟩) (sd_preV hK hP (q0 := 0) (ci := 0) rfl rfl) rfl rfl hl.1 rfl (lv_room (Nat.le_of_ble_eq_true rfl)) dX0_unitsByRests_3 ⟨Nat.zero_le _, Nat.zero_le _⟩) ?_
  refine lv_lstore_n hx hb dX0_unitsByRests_6 rfl hl (by decide) rfl (fun ls hl => ?_)
  have hl : lv_has ls 11 [(3, .long (lN (sd_rs w (sd_sum w n) u q))), (0, .ref h0), (1, .int (nI u)), (2, .int (nI q))] := hl
  refine lv_lconst (v := lN 0) hx hb dX0_unitsByRests_7 rfl ?_
  refine lv_lstore hx hb dX0_unitsByRests_8 hl (by decide) rfl (fun ls hl => ?_)
  have hl : lv_has ls 11 [(5, .long (lN 0)), (3, .long (lN (sd_rs w (sd_sum w n) u q))), (0, .ref h0), (1, .int (nI u)), (2, .int (nI q))] := hl
  refine lv_iconst (v := (nI 0)) hx hb dX0_unitsByRests_10 (by decide +kernel) ?_
  refine lv_istore hx hb dX0_unitsByRests_11 hl (by decide) rfl (fun ls hl => ?_)
  have hl : lv_has ls 11 [(7, .int (nI 0)), (5, .long (lN 0)), (3, .long (lN (sd_rs w (sd_sum w n) u q))), (0, .ref h0), (1, .int (nI u)), (2, .int (nI q))] := hl
  refine lv_iconst (v := (nI 0)) hx hb dX0_unitsByRests_13 (by decide +kernel) ?_
  refine lv_istore hx hb dX0_unitsByRests_14 hl (by decide) rfl (fun ls hl => ?_)
  have hl : lv_has ls 11 [(8, .int (nI 0)), (7, .int (nI 0)), (5, .long (lN 0)), (3, .long (lN (sd_rs w (sd_sum w n) u q))), (0, .ref h0), (1, .int (nI u)), (2, .int (nI q))] := hl
  have hl := lv_sub (l' := [(0, .ref h0), (1, .int (nI u)), (2, .int (nI q)), (3, .long (lN (sd_rs w (sd_sum w n) u q))), (5, .long (lN 0)), (7, .int (nI 0)), (8, .int (nI 0))]) hl [4, 5, 6, 3, 2, 1, 0] rfl
  refine lp_ubr hx hb hml hts0 hown hK hP ok hW u q hu hq ⟨Nat.le_of_ble_eq_true rfl, Nat.le_of_ble_eq_true rfl⟩ ⟨Nat.zero_le _, Nat.zero_le _⟩ (fun ls hl => ?_) n 0 (by omega) ls hl
  refine lv_iload_n hx hb dX0_unitsByRests_70 rfl (lv_at hl 1 rfl) ?_
  refine lv_i2l (v := lN u) hx hb dX0_unitsByRests_71 (nI_l (by omega)) ?_
  refine lv_aload_n hx hb dX0_unitsByRests_72 rfl (lv_at hl 0 rfl) ?_
  refine va_get (D := (dC, dI)) (ci := 0) (v := .ref a0) (C := RX0) (T := TX0) (N := 3) hx hb hts u_in_X0 hown hK hP 0 rfl rfl 0 (by decide) (hts (.fieldLink RX0 9 "ShareDesk" "weights" "[I") k_fieldLink_X0_9) (fun _ h9 => h9) rfl dX0_unitsByRests_73 ?_
  refine lv_iload_n hx hb dX0_unitsByRests_76 rfl (lv_at hl 2 rfl) ?_
  refine sd_iald (j := q) (v := nI (w q)) hx hb hK hP 1 0 rfl rfl (by omega) (by decide) rfl dX0_unitsByRests_77 ?_
  refine lv_i2l (v := lN (w q)) hx hb dX0_unitsByRests_78 (nI_l (by omega)) ?_
  refine sd_lmul (v := lN (u * (w q))) hx hb dX0_unitsByRests_79 (lN_mul _ _) ?_
  refine lv_aload_n hx hb dX0_unitsByRests_80 rfl (lv_at hl 0 rfl) ?_
  refine va_get (D := (dC, dI)) (ci := 0) (v := .int (nI (sd_sum w n))) (C := RX0) (T := TX0) (N := 3) hx hb hts u_in_X0 hown hK hP 0 rfl rfl 2 (by decide) (hts (.fieldLink RX0 17 "ShareDesk" "total" "I") k_fieldLink_X0_17) (fun _ h9 => h9) rfl dX0_unitsByRests_81 ?_
  refine lv_i2l (v := lN (sd_sum w n)) hx hb dX0_unitsByRests_84 (nI_l (by omega)) ?_
  refine sd_ldiv (v := lN ((u * (w q)) / (sd_sum w n))) hx hb dX0_unitsByRests_85 (sd_lne0 (by omega) (by omega)) (pk_lDiv (by omega) (by omega) (by omega)) ?_
  refine lv_l2i (v := nI ((u * (w q)) / (sd_sum w n))) hx hb dX0_unitsByRests_86 (lN_i _) ?_
  refine lv_istore hx hb dX0_unitsByRests_87 hl (by decide) rfl (fun ls hl => ?_)
  have hl : lv_has ls 11 [(8, .int (nI ((u * (w q)) / (sd_sum w n)))), (0, .ref h0), (1, .int (nI u)), (2, .int (nI q)), (3, .long (lN (sd_rs w (sd_sum w n) u q))), (5, .long (lN (sd_sum (sd_rs w (sd_sum w n) u) n))), (7, .int (nI (sd_cnt (sd_ab (sd_rs w (sd_sum w n) u) q) n)))] := hl
  refine lv_iload hx hb dX0_unitsByRests_89 (lv_at hl 6 rfl) ?_
  refine lv_i2l (v := lN (sd_cnt (sd_ab (sd_rs w (sd_sum w n) u) q) n)) hx hb dX0_unitsByRests_91 (nI_l (by omega)) ?_
  refine lv_lload hx hb dX0_unitsByRests_92 (lv_at hl 5 rfl) ?_
  refine lv_aload_n hx hb dX0_unitsByRests_94 rfl (lv_at hl 1 rfl) ?_
  refine va_get (D := (dC, dI)) (ci := 0) (v := .int (nI (sd_sum w n))) (C := RX0) (T := TX0) (N := 3) hx hb hts u_in_X0 hown hK hP 0 rfl rfl 2 (by decide) (hts (.fieldLink RX0 17 "ShareDesk" "total" "I") k_fieldLink_X0_17) (fun _ h9 => h9) rfl dX0_unitsByRests_95 ?_
  refine lv_i2l (v := lN (sd_sum w n)) hx hb dX0_unitsByRests_98 (nI_l (by omega)) ?_
  refine sd_ldiv (v := lN ((sd_sum (sd_rs w (sd_sum w n) u) n) / (sd_sum w n))) hx hb dX0_unitsByRests_99 (sd_lne0 (by omega) (by omega)) (pk_lDiv (by omega) (by omega) (by omega)) ?_
  refine sd_lc_ge (a := sd_cnt (sd_ab (sd_rs w (sd_sum w n) u) q) n) (b := (sd_sum (sd_rs w (sd_sum w n) u) n) / (sd_sum w n)) (tgt := 111) hx hb dX0_unitsByRests_100 dX0_unitsByRests_101 (by decide) (by omega) (by omega) (fun h => ?_) (fun h => ?_)
  · refine lv_iload hx hb dX0_unitsByRests_111 (lv_at hl 0 rfl) ?_
    refine sd_topi (y := nI (sd_u0 w n u q)) (by unfold sd_u0; rw [if_neg (Nat.not_lt.mpr h)]; rfl) ?_
    exact W.iret hx hb hr (fun t ht hW => ⟨_, rfl, rfl, ht⟩) (fun q hq => nomatch hq) dX0_unitsByRests_113
  · refine lv_iload hx hb dX0_unitsByRests_104 (lv_at hl 0 rfl) ?_
    refine lv_iconst (v := (nI 1)) hx hb dX0_unitsByRests_106 (by decide +kernel) ?_
    refine sd_iadd (v := nI (((u * (w q)) / (sd_sum w n)) + 1)) hx hb dX0_unitsByRests_107 (nI_add _ _) ?_
    refine lv_goto (tgt := 113) hx hb dX0_unitsByRests_108 (by decide) ?_
    refine sd_topi (y := nI (sd_u0 w n u q)) (by unfold sd_u0; rw [if_pos h]) ?_
    exact W.iret hx hb hr (fun t ht hW => ⟨_, rfl, rfl, ht⟩) (fun q hq => nomatch hq) dX0_unitsByRests_113
set_option maxHeartbeats 4000000 in
set_option maxRecDepth 100000 in
theorem c_unitsOf (l : Launch) (dC : Nat → ClassId) (dI : Nat → Nat → Nat) (cA : ClassId) (h0 a0 n : Nat) (w : Nat → Nat) (ok : sd_ok n w) (hW : 0 < sd_sum w n) (y u q : Nat) (hy : y ≤ 2) (hu : u ≤ 10000) (hq : q < n) : Met l yX0_unitsOf (sd_ws yX0_unitsOf cX0_unitsOf 4 (some .int)) (sd_rm 4 0 0) (sd_Pp (dC, dI) vwCl [(cA, .int)] (sd_O cA h0 a0 n w) [.ref h0, .int (nI y), .int (nI u), .int (nI q)]) (vp_Si (fun r => r = nI (sd_U y w n u q))) 0 0 (fun _ => False) := by
  refine Met.ofW (cc := cX0_unitsOf) (maxL := 4) (ret := (some .int)) (by decide) rfl ?_
  intro p e s m args below meth c s₁ B hml hv
  obtain ⟨rfl, hP, hK⟩ := hv
  have hx := B.exec
  have hb := B.bytes
  have hr := B.returns
  have hts0 := atoms_spec (ws := (sd_ws yX0_unitsOf cX0_unitsOf 4 (some .int))) B.pre
  have hts : ∀ w ∈ sd_WS, w.before _ s = true := fun w h => hts0 w (List.mem_cons_of_mem _ h)
  have hown : s.vm.findClass RX0 = some m.cls := findClass_of_methodNamed B.named
  have hlocks := B.notSynchronized
  have hl := lv_entry ([.ref h0, .int (nI y), .int (nI u), .int (nI q)]) (n := 4) (Nat.le_of_ble_eq_true rfl)
  rw [lg_entry_eq]
  generalize (lg_sl ([.ref h0, .int (nI y), .int (nI u), .int (nI q)]) ++ List.replicate (4 - (lg_sl ([.ref h0, .int (nI y), .int (nI u), .int (nI q)])).length) Slot.unset).toArray = ls at hl ⊢
  have hl : lv_has ls 4 [(0, .ref h0), (1, .int (nI y)), (2, .int (nI u)), (3, .int (nI q))] := hl
  have hP : va_P (dC, dI) vwCl [(h0, .inr (0, [.ref a0, .int (nI n), .int (nI (sd_sum w n))])), (a0, .inl (cA, 8, .inl (fun i => nI (w i))))] s.heap := hP
  refine lv_iload_n hx hb dX0_unitsOf_0 rfl (lv_at hl 1 rfl) ?_
  refine sd_iz_ne (a := y) (tgt := 13) hx hb dX0_unitsOf_1 (by decide) (by omega) (fun h => ?_) (fun h => ?_)
  · refine lv_aload_n hx hb dX0_unitsOf_13 rfl (lv_at hl 0 rfl) ?_
    refine lv_iload_n hx hb dX0_unitsOf_14 rfl (lv_at hl 1 rfl) ?_
    refine lv_iload_n hx hb dX0_unitsOf_15 rfl (lv_at hl 2 rfl) ?_
    refine lv_iload_n hx hb dX0_unitsOf_16 rfl (lv_at hl 3 rfl) ?_
    refine sd_calli (va_runV (As := [.int (nI y), .int (nI u), .int (nI q)]) (rest := []) ⟨hx, hb, hml, hown, hts0⟩ (c_unitsByTurns l dC dI cA h0 a0 n w ok hW y u q (by omega) hu hq) (cwV 3 hts0 (sd_gV k_methodLink_X0_80 k_instanceMethod_X0_unitsByTurns k_sel_X0_unitsByTurns k_init_ShareDesk k_code_X0_unitsByTurns) rfl rfl rfl (by decide +kernel) ⟨Nat.le_of_ble_eq_true rfl, Nat.le_of_ble_eq_true rfl⟩) (sd_preV hK hP (q0 := 0) (ci := 0) rfl rfl) rfl rfl hl.1 rfl (lv_room (Nat.le_of_ble_eq_true rfl)) dX0_unitsOf_17 ⟨Nat.zero_le _, Nat.zero_le _⟩) ?_
    refine sd_topi (y := nI (sd_U y w n u q)) (by unfold sd_U; rw [if_neg (by omega)]) ?_
    exact W.iret hx hb hr (fun t ht hW => ⟨_, rfl, rfl, ht⟩) (fun q hq => nomatch hq) dX0_unitsOf_20
  · refine lv_aload_n hx hb dX0_unitsOf_4 rfl (lv_at hl 0 rfl) ?_
    refine lv_iload_n hx hb dX0_unitsOf_5 rfl (lv_at hl 2 rfl) ?_
    refine lv_iload_n hx hb dX0_unitsOf_6 rfl (lv_at hl 3 rfl) ?_
    refine sd_calli (va_runV (As := [.int (nI u), .int (nI q)]) (rest := []) ⟨hx, hb, hml, hown, hts0⟩ (c_unitsByRests l dC dI cA h0 a0 n w ok hW u q (by omega) hq) (cwV 2 hts0 (sd_gV k_methodLink_X0_77 k_instanceMethod_X0_unitsByRests k_sel_X0_unitsByRests k_init_ShareDesk k_code_X0_unitsByRests) rfl rfl rfl (by decide +kernel) ⟨Nat.le_of_ble_eq_true rfl, Nat.le_of_ble_eq_true rfl⟩) (sd_preV hK hP (q0 := 0) (ci := 0) rfl rfl) rfl rfl hl.1 rfl (lv_room (Nat.le_of_ble_eq_true rfl)) dX0_unitsOf_7 ⟨Nat.zero_le _, Nat.zero_le _⟩) ?_
    refine lv_goto (tgt := 20) hx hb dX0_unitsOf_10 (by decide) ?_
    refine sd_topi (y := nI (sd_U y w n u q)) (by unfold sd_U; rw [if_pos h]) ?_
    exact W.iret hx hb hr (fun t ht hW => ⟨_, rfl, rfl, ht⟩) (fun q hq => nomatch hq) dX0_unitsOf_20
set_option maxHeartbeats 4000000 in
set_option maxRecDepth 100000 in
theorem lp_lbr {p : Program} {l : Launch} {e : Env} {R : Room} {s : State} {m : MethodId} {args : Array Value} {below : List Frame} {meth : Method} {c : Code} {H : Heap} {locs : List Loc} {cells slots : Nat} {Q : State → Prop} (hx : p.tables.exec = Jvm.exec) (hb : c.code = cX0_leastByRests) (hml : c.maxLocals = 7) (hts0 : ∀ w ∈ (sd_ws yX0_leastByRests cX0_leastByRests 7 (some .int)), w.before args s = true) (hown : s.vm.findClass RX0 = some m.cls) {dC : Nat → ClassId} {dI : Nat → Nat → Nat} {cA : ClassId} {h0 a0 n : Nat} {w : Nat → Nat} (hK : va_K (dC, dI) vwCl [(cA, .int)] s) (hP : va_P (dC, dI) vwCl (sd_O cA h0 a0 n w) H) (ok : sd_ok n w) (hW : 0 < sd_sum w n) (k q : Nat) (hk2 : k ≤ 10000) (hq : q < n) (hR : (sd_rm 1 0 0).frames + 1 ≤ R.frames ∧ 8 + (11 + 11) + (sd_rm 1 0 0).locals ≤ R.locals) (hf : cells + 0 ≤ R.cells ∧ slots + 0 ≤ R.slots)
    (kk1 : sd_lst (fun j => decide (k ≤ sd_u0 w n j q)) 10001 = none → ∀ ls : Array Slot, W p l e R s m args below meth c H locs cells slots Q (F0 m 57 ls [.int (-1)]))
    (kk2 : ∀ i : Nat, i ≤ 10000 → sd_lst (fun j => decide (k ≤ sd_u0 w n j q)) 10001 = some i → ∀ ls : Array Slot, W p l e R s m args below meth c H locs cells slots Q (F0 m 46 ls [.int (nI i)]))
    : ∀ (f i : Nat), i + f = 10001 → (∀ j, j < i → sd_u0 w n j q < k) → ∀ ls : Array Slot, lv_has ls 7 [(0, .ref h0), (1, .int (nI k)), (2, .int (nI q)), (5, .long (lN i))] → W p l e R s m args below meth c H locs cells slots Q (F0 m 22 ls []) := by
  have hts : ∀ w ∈ sd_WS, w.before args s = true := fun w h => hts0 w (List.mem_cons_of_mem _ h)
  have hP : va_P (dC, dI) vwCl [(h0, .inr (0, [.ref a0, .int (nI n), .int (nI (sd_sum w n))])), (a0, .inl (cA, 8, .inl (fun i => nI (w i))))] H := hP
  have hn8 := ok.2.1
  intro f
  induction f using Nat.strongRecOn with
  | ind f ih0 =>
    intro i hi hv ls hl
    have ih : i < 10001 → (∀ j, j < i + 1 → sd_u0 w n j q < k) → ∀ ls : Array Slot, lv_has ls 7 [(0, .ref h0), (1, .int (nI k)), (2, .int (nI q)), (5, .long (lN (i + 1)))] → W p l e R s m args below meth c H locs cells slots Q (F0 m 22 ls []) := fun hlt => ih0 (f - 1) (by omega) (i + 1) (by omega)
    refine lv_lload hx hb dX0_leastByRests_22 (lv_at hl 3 rfl) ?_
    refine lv_ldc2 (v := 10000) hx hb hown (hts (.constantLong RX0 58 10000) k_constantLong_X0_58) dX0_leastByRests_24 ?_
    refine sd_topl (y := lN 10000) (by decide +kernel) ?_
    refine sd_lc_gt (a := i) (b := 10000) (tgt := 56) hx hb dX0_leastByRests_27 dX0_leastByRests_28 (by decide) (by omega) (by omega) (fun h => ?_) (fun h => ?_)
    · refine lv_iconst (v := (-1)) hx hb dX0_leastByRests_56 (by decide +kernel) ?_
      exact kk1 (sd_lst_none (fun j hj => decide_eq_false (by have := hv j (by omega); omega))) ls
    · have hu0 := sd_u0_le (w := w) (n := n) (m := i) hW hq
      refine lv_aload_n hx hb dX0_leastByRests_31 rfl (lv_at hl 0 rfl) ?_
      refine lv_lload hx hb dX0_leastByRests_32 (lv_at hl 3 rfl) ?_
      refine lv_l2i (v := nI i) hx hb dX0_leastByRests_34 (lN_i _) ?_
      refine lv_iload_n hx hb dX0_leastByRests_35 rfl (lv_at hl 2 rfl) ?_
      refine sd_calli (va_runV (As := [.int (nI i), .int (nI q)]) (rest := []) ⟨hx, hb, hml, hown, hts0⟩ (c_unitsByRests l dC dI cA h0 a0 n w ok hW i q (by omega) hq) (cwV 2 hts0 (sd_gV k_methodLink_X0_77 k_instanceMethod_X0_unitsByRests k_sel_X0_unitsByRests k_init_ShareDesk k_code_X0_unitsByRests) rfl rfl rfl (by decide +kernel) ⟨hR.1, hR.2⟩) (sd_preV hK hP (q0 := 0) (ci := 0) rfl rfl) rfl rfl hl.1 rfl (lv_room (Nat.le_of_ble_eq_true rfl)) dX0_leastByRests_36 hf) ?_
      refine lv_iload_n hx hb dX0_leastByRests_39 rfl (lv_at hl 1 rfl) ?_
      refine sd_ic_lt (a := sd_u0 w n i q) (b := k) (tgt := 47) hx hb dX0_leastByRests_40 (by decide) (by omega) (by omega) (fun h => ?_) (fun h => ?_)
      · refine lv_lload hx hb dX0_leastByRests_47 (lv_at hl 3 rfl) ?_
        refine lv_lconst (v := lN 1) hx hb dX0_leastByRests_49 rfl ?_
        refine sd_ladd (v := lN (i + 1)) hx hb dX0_leastByRests_50 (lN_add _ _) ?_
        refine lv_lstore hx hb dX0_leastByRests_51 hl (by decide) rfl (fun ls hl => ?_)
        have hl : lv_has ls 7 [(5, .long (lN (i + 1))), (0, .ref h0), (1, .int (nI k)), (2, .int (nI q))] := hl
        refine lv_goto (tgt := 22) hx hb dX0_leastByRests_53 (by decide) ?_
        have hl := lv_sub (l' := [(0, .ref h0), (1, .int (nI k)), (2, .int (nI q)), (5, .long (lN (i + 1)))]) hl [1, 2, 3, 0] rfl
        exact ih (by omega) (fun j hj => by
          by_cases z : j = i
          · rw [z]; exact h
          · exact hv j (by omega)) ls hl
      · refine lv_lload hx hb dX0_leastByRests_43 (lv_at hl 3 rfl) ?_
        refine lv_l2i (v := nI i) hx hb dX0_leastByRests_45 (lN_i _) ?_
        exact kk2 i (by omega) (sd_lst_at (Q := (fun j => decide (k ≤ sd_u0 w n j q))) (m := i) (fun j hj => decide_eq_false (by have := hv j hj; omega)) (decide_eq_true h) (by omega)) ls
set_option maxHeartbeats 4000000 in
set_option maxRecDepth 100000 in
theorem c_leastByRests (l : Launch) (dC : Nat → ClassId) (dI : Nat → Nat → Nat) (cA : ClassId) (h0 a0 n : Nat) (w : Nat → Nat) (ok : sd_ok n w) (hW : 0 < sd_sum w n) (k q : Nat) (hk : 1 ≤ k) (hk2 : k ≤ 10000) (hq : q < n) (hpos : 0 < w q) : Met l yX0_leastByRests (sd_ws yX0_leastByRests cX0_leastByRests 7 (some .int)) (sd_rm 2 0 0) (sd_Pp (dC, dI) vwCl [(cA, .int)] (sd_O cA h0 a0 n w) [.ref h0, .int (nI k), .int (nI q)]) (vp_Si (fun r => r = sd_oi (sd_lst (fun j => decide (k ≤ sd_u0 w n j q)) 10001))) 0 0 (fun _ => False) := by
  refine Met.ofW (cc := cX0_leastByRests) (maxL := 7) (ret := (some .int)) (by decide) rfl ?_
  intro p e s m args below meth c s₁ B hml hv
  obtain ⟨rfl, hP, hK⟩ := hv
  have hx := B.exec
  have hb := B.bytes
  have hr := B.returns
  have hts0 := atoms_spec (ws := (sd_ws yX0_leastByRests cX0_leastByRests 7 (some .int))) B.pre
  have hts : ∀ w ∈ sd_WS, w.before _ s = true := fun w h => hts0 w (List.mem_cons_of_mem _ h)
  have hown : s.vm.findClass RX0 = some m.cls := findClass_of_methodNamed B.named
  have hlocks := B.notSynchronized
  have hl := lv_entry ([.ref h0, .int (nI k), .int (nI q)]) (n := 7) (Nat.le_of_ble_eq_true rfl)
  rw [lg_entry_eq]
  generalize (lg_sl ([.ref h0, .int (nI k), .int (nI q)]) ++ List.replicate (7 - (lg_sl ([.ref h0, .int (nI k), .int (nI q)])).length) Slot.unset).toArray = ls at hl ⊢
  have hl : lv_has ls 7 [(0, .ref h0), (1, .int (nI k)), (2, .int (nI q))] := hl
  have hP : va_P (dC, dI) vwCl [(h0, .inr (0, [.ref a0, .int (nI n), .int (nI (sd_sum w n))])), (a0, .inl (cA, 8, .inl (fun i => nI (w i))))] s.heap := hP
  have hwq := ok.2.2.1 q
  have hWl := sd_W_le ok.2.2.1 ok.2.1
  have hn8 := ok.2.1
  have hbm : (k - 1) * sd_sum w n ≤ 10000 * 800000 := sd_mw_le (by omega) hWl
  have hdl := Nat.div_le_self ((k - 1) * sd_sum w n) (w q)
  refine lv_iload_n hx hb dX0_leastByRests_0 rfl (lv_at hl 1 rfl) ?_
  refine lv_iconst (v := (nI 1)) hx hb dX0_leastByRests_1 (by decide +kernel) ?_
  refine sd_isub (v := nI (k - 1)) hx hb dX0_leastByRests_2 (pk_sub (by omega)) ?_
  refine lv_i2l (v := lN (k - 1)) hx hb dX0_leastByRests_3 (nI_l (by omega)) ?_
  refine lv_aload_n hx hb dX0_leastByRests_4 rfl (lv_at hl 0 rfl) ?_
  refine va_get (D := (dC, dI)) (ci := 0) (v := .int (nI (sd_sum w n))) (C := RX0) (T := TX0) (N := 3) hx hb hts u_in_X0 hown hK hP 0 rfl rfl 2 (by decide) (hts (.fieldLink RX0 17 "ShareDesk" "total" "I") k_fieldLink_X0_17) (fun _ h9 => h9) rfl dX0_leastByRests_5 ?_
  refine lv_i2l (v := lN (sd_sum w n)) hx hb dX0_leastByRests_8 (nI_l (by omega)) ?_
  refine sd_lmul (v := lN ((k - 1) * (sd_sum w n))) hx hb dX0_leastByRests_9 (lN_mul _ _) ?_
  refine lv_aload_n hx hb dX0_leastByRests_10 rfl (lv_at hl 0 rfl) ?_
  refine va_get (D := (dC, dI)) (ci := 0) (v := .ref a0) (C := RX0) (T := TX0) (N := 3) hx hb hts u_in_X0 hown hK hP 0 rfl rfl 0 (by decide) (hts (.fieldLink RX0 9 "ShareDesk" "weights" "[I") k_fieldLink_X0_9) (fun _ h9 => h9) rfl dX0_leastByRests_11 ?_
  refine lv_iload_n hx hb dX0_leastByRests_14 rfl (lv_at hl 2 rfl) ?_
  refine sd_iald (j := q) (v := nI (w q)) hx hb hK hP 1 0 rfl rfl (by omega) (by decide) rfl dX0_leastByRests_15 ?_
  refine lv_i2l (v := lN (w q)) hx hb dX0_leastByRests_16 (nI_l (by omega)) ?_
  refine sd_ldiv (v := lN (((k - 1) * (sd_sum w n)) / (w q))) hx hb dX0_leastByRests_17 (sd_lne0 (by omega) (by omega)) (pk_lDiv (by omega) (by omega) (by omega)) ?_
  refine lv_lstore_n hx hb dX0_leastByRests_18 rfl hl (by decide) rfl (fun ls hl => ?_)
  have hl : lv_has ls 7 [(3, .long (lN (((k - 1) * (sd_sum w n)) / (w q)))), (0, .ref h0), (1, .int (nI k)), (2, .int (nI q))] := hl
  refine lv_lload_n hx hb dX0_leastByRests_19 rfl (lv_at hl 0 rfl) ?_
  refine lv_lstore hx hb dX0_leastByRests_20 hl (by decide) rfl (fun ls hl => ?_)
  have hl : lv_has ls 7 [(5, .long (lN (((k - 1) * (sd_sum w n)) / (w q)))), (3, .long (lN (((k - 1) * (sd_sum w n)) / (w q)))), (0, .ref h0), (1, .int (nI k)), (2, .int (nI q))] := hl
  have hear : ∀ j, j < (k - 1) * sd_sum w n / w q → sd_u0 w n j q < k := fun j hj => sd_u0_early hW hpos hk hj
  generalize (k - 1) * sd_sum w n / w q = fs at hl hdl hear
  by_cases hfs : fs ≤ 10001
  · have hl := lv_sub (l' := [(0, .ref h0), (1, .int (nI k)), (2, .int (nI q)), (5, .long (lN (fs)))]) hl [2, 3, 4, 0] rfl
    refine lp_lbr hx hb hml hts0 hown hK hP ok hW k q hk2 hq ⟨Nat.le_of_ble_eq_true rfl, Nat.le_of_ble_eq_true rfl⟩ ⟨Nat.zero_le _, Nat.zero_le _⟩ (fun hz ls => ?_) (fun i hi hz ls => ?_) (10001 - fs) fs (by omega) hear ls hl
    · refine sd_topi (y := sd_oi (sd_lst (fun j => decide (k ≤ sd_u0 w n j q)) 10001)) (by rw [hz]; rfl) ?_
      exact W.iret hx hb hr (fun t ht hW => ⟨_, rfl, rfl, ht⟩) (fun q hq => nomatch hq) dX0_leastByRests_57
    · refine sd_topi (y := sd_oi (sd_lst (fun j => decide (k ≤ sd_u0 w n j q)) 10001)) (by rw [hz]; rfl) ?_
      exact W.iret hx hb hr (fun t ht hW => ⟨_, rfl, rfl, ht⟩) (fun q hq => nomatch hq) dX0_leastByRests_46
  · refine lv_lload hx hb dX0_leastByRests_22 (lv_at hl 0 rfl) ?_
    refine lv_ldc2 (v := 10000) hx hb hown (hts (.constantLong RX0 58 10000) k_constantLong_X0_58) dX0_leastByRests_24 ?_
    refine sd_topl (y := lN 10000) (by decide +kernel) ?_
    refine sd_lc_gt (a := fs) (b := 10000) (tgt := 56) hx hb dX0_leastByRests_27 dX0_leastByRests_28 (by decide) (by omega) (by omega) (fun h => ?_) (fun h => ?_)
    · refine lv_iconst (v := (-1)) hx hb dX0_leastByRests_56 (by decide +kernel) ?_
      refine sd_topi (y := sd_oi (sd_lst (fun j => decide (k ≤ sd_u0 w n j q)) 10001)) (by rw [sd_lst_none (fun j hj => decide_eq_false (by have := hear j (by omega); omega))]; rfl) ?_
      exact W.iret hx hb hr (fun t ht hW => ⟨_, rfl, rfl, ht⟩) (fun q hq => nomatch hq) dX0_leastByRests_57
    · exact absurd h (by omega)
set_option maxHeartbeats 4000000 in
set_option maxRecDepth 100000 in
theorem lp_pww {p : Program} {l : Launch} {e : Env} {R : Room} {s : State} {m : MethodId} {args : Array Value} {below : List Frame} {meth : Method} {c : Code} {H : Heap} {locs : List Loc} {cells slots : Nat} {Q : State → Prop} (hx : p.tables.exec = Jvm.exec) (hb : c.code = cX0_partiesWithWeight) (hml : c.maxLocals = 3) (hts0 : ∀ w ∈ (sd_ws yX0_partiesWithWeight cX0_partiesWithWeight 3 (some .int)), w.before args s = true) (hown : s.vm.findClass RX0 = some m.cls) {dC : Nat → ClassId} {dI : Nat → Nat → Nat} {cA : ClassId} {h0 a0 n : Nat} {w : Nat → Nat} (hK : va_K (dC, dI) vwCl [(cA, .int)] s) (hP : va_P (dC, dI) vwCl (sd_O cA h0 a0 n w) H) (ok : sd_ok n w)
    (kk : ∀ ls : Array Slot, lv_has ls 3 [(0, .ref h0), (1, .int (nI (sd_cnt (fun j => decide (0 < w j)) n))), (2, .int (nI n))] → W p l e R s m args below meth c H locs cells slots Q (F0 m 30 ls []))
    : ∀ (f i : Nat), i + f = n → ∀ ls : Array Slot, lv_has ls 3 [(0, .ref h0), (1, .int (nI (sd_cnt (fun j => decide (0 < w j)) i))), (2, .int (nI i))] → W p l e R s m args below meth c H locs cells slots Q (F0 m 4 ls []) := by
  have hts : ∀ w ∈ sd_WS, w.before args s = true := fun w h => hts0 w (List.mem_cons_of_mem _ h)
  have hP : va_P (dC, dI) vwCl [(h0, .inr (0, [.ref a0, .int (nI n), .int (nI (sd_sum w n))])), (a0, .inl (cA, 8, .inl (fun i => nI (w i))))] H := hP
  have hn8 := ok.2.1
  intro f
  induction f using Nat.strongRecOn with
  | ind f ih0 =>
    intro i hi ls hl
    have ih : i < n → ∀ ls : Array Slot, lv_has ls 3 [(0, .ref h0), (1, .int (nI (sd_cnt (fun j => decide (0 < w j)) (i + 1)))), (2, .int (nI (i + 1)))] → W p l e R s m args below meth c H locs cells slots Q (F0 m 4 ls []) := fun hlt => ih0 (f - 1) (by omega) (i + 1) (by omega)
    have hcb := sd_cnt_lim (fun j => decide (0 < w j)) i
    have hwi := ok.2.2.1 i
    refine lv_iload_n hx hb dX0_partiesWithWeight_4 rfl (lv_at hl 2 rfl) ?_
    refine lv_aload_n hx hb dX0_partiesWithWeight_5 rfl (lv_at hl 0 rfl) ?_
    refine va_get (D := (dC, dI)) (ci := 0) (v := .int (nI n)) (C := RX0) (T := TX0) (N := 3) hx hb hts u_in_X0 hown hK hP 0 rfl rfl 1 (by decide) (hts (.fieldLink RX0 13 "ShareDesk" "parties" "I") k_fieldLink_X0_13) (fun _ h9 => h9) rfl dX0_partiesWithWeight_6 ?_
    refine sd_ic_ge (a := i) (b := n) (tgt := 30) hx hb dX0_partiesWithWeight_9 (by decide) (by omega) (by omega) (fun h => ?_) (fun h => ?_)
    · have hin : i = n := by omega
      subst hin
      exact kk ls hl
    · refine lv_aload_n hx hb dX0_partiesWithWeight_12 rfl (lv_at hl 0 rfl) ?_
      refine va_get (D := (dC, dI)) (ci := 0) (v := .ref a0) (C := RX0) (T := TX0) (N := 3) hx hb hts u_in_X0 hown hK hP 0 rfl rfl 0 (by decide) (hts (.fieldLink RX0 9 "ShareDesk" "weights" "[I") k_fieldLink_X0_9) (fun _ h9 => h9) rfl dX0_partiesWithWeight_13 ?_
      refine lv_iload_n hx hb dX0_partiesWithWeight_16 rfl (lv_at hl 2 rfl) ?_
      refine sd_iald (j := i) (v := nI (w i)) hx hb hK hP 1 0 rfl rfl (by omega) (by decide) rfl dX0_partiesWithWeight_17 ?_
      refine sd_iz_eq (a := w i) (tgt := 24) hx hb dX0_partiesWithWeight_18 (by decide) (by omega) (fun h => ?_) (fun h => ?_)
      · have e1 : sd_cnt (fun j => decide (0 < w j)) (i + 1) = sd_cnt (fun j => decide (0 < w j)) i := by rw [sd_cnt_s, decide_eq_false (by omega)]; rfl
        refine lv_iinc (k := 2) (v := nI (i + 1)) hx hb dX0_partiesWithWeight_24 hl rfl (nI_add _ 1) (by decide) rfl (fun ls hl => ?_)
        have hl : lv_has ls 3 [(2, .int (nI (i + 1))), (0, .ref h0), (1, .int (nI (sd_cnt (fun j => decide (0 < w j)) i)))] := hl
        refine lv_goto (tgt := 4) hx hb dX0_partiesWithWeight_27 (by decide) ?_
        have hl := lv_sub (l' := [(0, .ref h0), (1, .int (nI (sd_cnt (fun j => decide (0 < w j)) i))), (2, .int (nI (i + 1)))]) hl [1, 2, 0] rfl
        rw [← e1] at hl
        exact ih (by omega) ls hl
      · have e1 : sd_cnt (fun j => decide (0 < w j)) (i + 1) = sd_cnt (fun j => decide (0 < w j)) i + 1 := by rw [sd_cnt_s, decide_eq_true h]; rfl
        refine lv_iinc (k := 1) (v := nI (sd_cnt (fun j => decide (0 < w j)) i + 1)) hx hb dX0_partiesWithWeight_21 hl rfl (nI_add _ 1) (by decide) rfl (fun ls hl => ?_)
        have hl : lv_has ls 3 [(1, .int (nI (sd_cnt (fun j => decide (0 < w j)) i + 1))), (0, .ref h0), (2, .int (nI i))] := hl
        refine lv_iinc (k := 2) (v := nI (i + 1)) hx hb dX0_partiesWithWeight_24 hl rfl (nI_add _ 1) (by decide) rfl (fun ls hl => ?_)
        have hl : lv_has ls 3 [(2, .int (nI (i + 1))), (1, .int (nI (sd_cnt (fun j => decide (0 < w j)) i + 1))), (0, .ref h0)] := hl
        refine lv_goto (tgt := 4) hx hb dX0_partiesWithWeight_27 (by decide) ?_
        have hl := lv_sub (l' := [(0, .ref h0), (1, .int (nI (sd_cnt (fun j => decide (0 < w j)) i + 1))), (2, .int (nI (i + 1)))]) hl [2, 1, 0] rfl
        rw [← e1] at hl
        exact ih (by omega) ls hl
set_option maxHeartbeats 4000000 in
set_option maxRecDepth 100000 in
theorem c_partiesWithWeight (l : Launch) (dC : Nat → ClassId) (dI : Nat → Nat → Nat) (cA : ClassId) (h0 a0 n : Nat) (w : Nat → Nat) (ok : sd_ok n w) : Met l yX0_partiesWithWeight (sd_ws yX0_partiesWithWeight cX0_partiesWithWeight 3 (some .int)) (sd_rm 0 0 0) (sd_Pp (dC, dI) vwCl [(cA, .int)] (sd_O cA h0 a0 n w) [.ref h0]) (vp_Si (fun r => r = nI (sd_cnt (fun j => decide (0 < w j)) n))) 0 0 (fun _ => False) := by
  refine Met.ofW (cc := cX0_partiesWithWeight) (maxL := 3) (ret := (some .int)) (by decide) rfl ?_
  intro p e s m args below meth c s₁ B hml hv
  obtain ⟨rfl, hP, hK⟩ := hv
  have hx := B.exec
  have hb := B.bytes
  have hr := B.returns
  have hts0 := atoms_spec (ws := (sd_ws yX0_partiesWithWeight cX0_partiesWithWeight 3 (some .int))) B.pre
  have hts : ∀ w ∈ sd_WS, w.before _ s = true := fun w h => hts0 w (List.mem_cons_of_mem _ h)
  have hown : s.vm.findClass RX0 = some m.cls := findClass_of_methodNamed B.named
  have hlocks := B.notSynchronized
  have hl := lv_entry ([.ref h0]) (n := 3) (Nat.le_of_ble_eq_true rfl)
  rw [lg_entry_eq]
  generalize (lg_sl ([.ref h0]) ++ List.replicate (3 - (lg_sl ([.ref h0])).length) Slot.unset).toArray = ls at hl ⊢
  have hl : lv_has ls 3 [(0, .ref h0)] := hl
  have hP : va_P (dC, dI) vwCl [(h0, .inr (0, [.ref a0, .int (nI n), .int (nI (sd_sum w n))])), (a0, .inl (cA, 8, .inl (fun i => nI (w i))))] s.heap := hP
  refine lv_iconst (v := (nI 0)) hx hb dX0_partiesWithWeight_0 (by decide +kernel) ?_
  refine lv_istore_n hx hb dX0_partiesWithWeight_1 rfl hl (by decide) rfl (fun ls hl => ?_)
  have hl : lv_has ls 3 [(1, .int (nI 0)), (0, .ref h0)] := hl
  refine lv_iconst (v := (nI 0)) hx hb dX0_partiesWithWeight_2 (by decide +kernel) ?_
  refine lv_istore_n hx hb dX0_partiesWithWeight_3 rfl hl (by decide) rfl (fun ls hl => ?_)
  have hl : lv_has ls 3 [(2, .int (nI 0)), (1, .int (nI 0)), (0, .ref h0)] := hl
  have hl := lv_sub (l' := [(0, .ref h0), (1, .int (nI 0)), (2, .int (nI 0))]) hl [2, 1, 0] rfl
  refine lp_pww hx hb hml hts0 hown hK hP ok (fun ls hl => ?_) n 0 (by omega) ls hl
  refine lv_iload_n hx hb dX0_partiesWithWeight_30 rfl (lv_at hl 1 rfl) ?_
  exact W.iret hx hb hr (fun t ht hW => ⟨_, rfl, rfl, ht⟩) (fun q hq => nomatch hq) dX0_partiesWithWeight_31
set_option maxHeartbeats 4000000 in
set_option maxRecDepth 100000 in
theorem c_checkWay (l : Launch) (dC : Nat → ClassId) (dI : Nat → Nat → Nat) (y : Nat) (hy : y ≤ 2) : Met l yX0_checkWay (sd_ws yX0_checkWay cX0_checkWay 1 none) (sd_rm 0 0 0) (sd_Pp (dC, dI) vwCl [] [] [.int (nI y)]) (va_Sv (fun _ => True)) 0 0 (fun _ => False) := by
  refine Met.ofW (cc := cX0_checkWay) (maxL := 1) (ret := none) (by decide) rfl ?_
  intro p e s m args below meth c s₁ B hml hv
  obtain ⟨rfl, hP, hK⟩ := hv
  have hx := B.exec
  have hb := B.bytes
  have hr := B.returns
  have hts0 := atoms_spec (ws := (sd_ws yX0_checkWay cX0_checkWay 1 none)) B.pre
  have hts : ∀ w ∈ sd_WS, w.before _ s = true := fun w h => hts0 w (List.mem_cons_of_mem _ h)
  have hown : s.vm.findClass RX0 = some m.cls := findClass_of_methodNamed B.named
  have hlocks := B.notSynchronized
  have hl := lv_entry ([.int (nI y)]) (n := 1) (Nat.le_of_ble_eq_true rfl)
  rw [lg_entry_eq]
  generalize (lg_sl ([.int (nI y)]) ++ List.replicate (1 - (lg_sl ([.int (nI y)])).length) Slot.unset).toArray = ls at hl ⊢
  have hl : lv_has ls 1 [(0, .int (nI y))] := hl
  refine lv_iload_n hx hb dX0_checkWay_0 rfl (lv_at hl 0 rfl) ?_
  refine sd_iz_lt (a := y) (tgt := 9) hx hb dX0_checkWay_1 (by decide) (by omega) ?_
  refine lv_iload_n hx hb dX0_checkWay_4 rfl (lv_at hl 0 rfl) ?_
  refine lv_iconst (v := (nI 2)) hx hb dX0_checkWay_5 (by decide +kernel) ?_
  refine sd_ic_le (a := y) (b := 2) (tgt := 19) hx hb dX0_checkWay_6 (by decide) (by omega) (by omega) (fun h => ?_) (fun h => ?_)
  · exact W.vret hx hb hr (fun t ht hW => ⟨rfl, trivial, ht⟩) (fun q hq => nomatch hq) dX0_checkWay_19
  · exact absurd h (by omega)
set_option maxHeartbeats 4000000 in
set_option maxRecDepth 100000 in
theorem c_checkUnits (l : Launch) (dC : Nat → ClassId) (dI : Nat → Nat → Nat) (u M : Nat) (hu : u ≤ M) (hM : M ≤ 10000) : Met l yX0_checkUnits (sd_ws yX0_checkUnits cX0_checkUnits 2 none) (sd_rm 0 0 0) (sd_Pp (dC, dI) vwCl [] [] [.int (nI u), .int (nI M)]) (va_Sv (fun _ => True)) 0 0 (fun _ => False) := by
  refine Met.ofW (cc := cX0_checkUnits) (maxL := 2) (ret := none) (by decide) rfl ?_
  intro p e s m args below meth c s₁ B hml hv
  obtain ⟨rfl, hP, hK⟩ := hv
  have hx := B.exec
  have hb := B.bytes
  have hr := B.returns
  have hts0 := atoms_spec (ws := (sd_ws yX0_checkUnits cX0_checkUnits 2 none)) B.pre
  have hts : ∀ w ∈ sd_WS, w.before _ s = true := fun w h => hts0 w (List.mem_cons_of_mem _ h)
  have hown : s.vm.findClass RX0 = some m.cls := findClass_of_methodNamed B.named
  have hlocks := B.notSynchronized
  have hl := lv_entry ([.int (nI u), .int (nI M)]) (n := 2) (Nat.le_of_ble_eq_true rfl)
  rw [lg_entry_eq]
  generalize (lg_sl ([.int (nI u), .int (nI M)]) ++ List.replicate (2 - (lg_sl ([.int (nI u), .int (nI M)])).length) Slot.unset).toArray = ls at hl ⊢
  have hl : lv_has ls 2 [(0, .int (nI u)), (1, .int (nI M))] := hl
  refine lv_iload_n hx hb dX0_checkUnits_0 rfl (lv_at hl 0 rfl) ?_
  refine sd_iz_lt (a := u) (tgt := 9) hx hb dX0_checkUnits_1 (by decide) (by omega) ?_
  refine lv_iload_n hx hb dX0_checkUnits_4 rfl (lv_at hl 0 rfl) ?_
  refine lv_iload_n hx hb dX0_checkUnits_5 rfl (lv_at hl 1 rfl) ?_
  refine sd_ic_le (a := u) (b := M) (tgt := 19) hx hb dX0_checkUnits_6 (by decide) (by omega) (by omega) (fun h => ?_) (fun h => ?_)
  · exact W.vret hx hb hr (fun t ht hW => ⟨rfl, trivial, ht⟩) (fun q hq => nomatch hq) dX0_checkUnits_19
  · exact absurd h (by omega)
set_option maxHeartbeats 4000000 in
set_option maxRecDepth 100000 in
theorem c_checkParty (l : Launch) (dC : Nat → ClassId) (dI : Nat → Nat → Nat) (cA : ClassId) (h0 a0 n : Nat) (w : Nat → Nat) (ok : sd_ok n w) (q : Nat) (hq : q < n) : Met l yX0_checkParty (sd_ws yX0_checkParty cX0_checkParty 2 none) (sd_rm 0 0 0) (sd_Pp (dC, dI) vwCl [(cA, .int)] (sd_O cA h0 a0 n w) [.ref h0, .int (nI q)]) (va_Sv (fun _ => True)) 0 0 (fun _ => False) := by
  refine Met.ofW (cc := cX0_checkParty) (maxL := 2) (ret := none) (by decide) rfl ?_
  intro p e s m args below meth c s₁ B hml hv
  obtain ⟨rfl, hP, hK⟩ := hv
  have hx := B.exec
  have hb := B.bytes
  have hr := B.returns
  have hts0 := atoms_spec (ws := (sd_ws yX0_checkParty cX0_checkParty 2 none)) B.pre
  have hts : ∀ w ∈ sd_WS, w.before _ s = true := fun w h => hts0 w (List.mem_cons_of_mem _ h)
  have hown : s.vm.findClass RX0 = some m.cls := findClass_of_methodNamed B.named
  have hlocks := B.notSynchronized
  have hl := lv_entry ([.ref h0, .int (nI q)]) (n := 2) (Nat.le_of_ble_eq_true rfl)
  rw [lg_entry_eq]
  generalize (lg_sl ([.ref h0, .int (nI q)]) ++ List.replicate (2 - (lg_sl ([.ref h0, .int (nI q)])).length) Slot.unset).toArray = ls at hl ⊢
  have hl : lv_has ls 2 [(0, .ref h0), (1, .int (nI q))] := hl
  have hP : va_P (dC, dI) vwCl [(h0, .inr (0, [.ref a0, .int (nI n), .int (nI (sd_sum w n))])), (a0, .inl (cA, 8, .inl (fun i => nI (w i))))] s.heap := hP
  have hn8 := ok.2.1
  refine lv_iload_n hx hb dX0_checkParty_0 rfl (lv_at hl 1 rfl) ?_
  refine sd_iz_lt (a := q) (tgt := 12) hx hb dX0_checkParty_1 (by decide) (by omega) ?_
  refine lv_iload_n hx hb dX0_checkParty_4 rfl (lv_at hl 1 rfl) ?_
  refine lv_aload_n hx hb dX0_checkParty_5 rfl (lv_at hl 0 rfl) ?_
  refine va_get (D := (dC, dI)) (ci := 0) (v := .int (nI n)) (C := RX0) (T := TX0) (N := 3) hx hb hts u_in_X0 hown hK hP 0 rfl rfl 1 (by decide) (hts (.fieldLink RX0 13 "ShareDesk" "parties" "I") k_fieldLink_X0_13) (fun _ h9 => h9) rfl dX0_checkParty_6 ?_
  refine sd_ic_lt (a := q) (b := n) (tgt := 22) hx hb dX0_checkParty_9 (by decide) (by omega) (by omega) (fun h => ?_) (fun h => ?_)
  · exact W.vret hx hb hr (fun t ht hW => ⟨rfl, trivial, ht⟩) (fun q hq => nomatch hq) dX0_checkParty_22
  · exact absurd h (by omega)
set_option maxHeartbeats 4000000 in
set_option maxRecDepth 100000 in
theorem c_checkTotal (l : Launch) (dC : Nat → ClassId) (dI : Nat → Nat → Nat) (cA : ClassId) (h0 a0 n : Nat) (w : Nat → Nat) (ok : sd_ok n w) (hW : 0 < sd_sum w n) : Met l yX0_checkTotal (sd_ws yX0_checkTotal cX0_checkTotal 1 none) (sd_rm 0 0 0) (sd_Pp (dC, dI) vwCl [(cA, .int)] (sd_O cA h0 a0 n w) [.ref h0]) (va_Sv (fun _ => True)) 0 0 (fun _ => False) := by
  refine Met.ofW (cc := cX0_checkTotal) (maxL := 1) (ret := none) (by decide) rfl ?_
  intro p e s m args below meth c s₁ B hml hv
  obtain ⟨rfl, hP, hK⟩ := hv
  have hx := B.exec
  have hb := B.bytes
  have hr := B.returns
  have hts0 := atoms_spec (ws := (sd_ws yX0_checkTotal cX0_checkTotal 1 none)) B.pre
  have hts : ∀ w ∈ sd_WS, w.before _ s = true := fun w h => hts0 w (List.mem_cons_of_mem _ h)
  have hown : s.vm.findClass RX0 = some m.cls := findClass_of_methodNamed B.named
  have hlocks := B.notSynchronized
  have hl := lv_entry ([.ref h0]) (n := 1) (Nat.le_of_ble_eq_true rfl)
  rw [lg_entry_eq]
  generalize (lg_sl ([.ref h0]) ++ List.replicate (1 - (lg_sl ([.ref h0])).length) Slot.unset).toArray = ls at hl ⊢
  have hl : lv_has ls 1 [(0, .ref h0)] := hl
  have hP : va_P (dC, dI) vwCl [(h0, .inr (0, [.ref a0, .int (nI n), .int (nI (sd_sum w n))])), (a0, .inl (cA, 8, .inl (fun i => nI (w i))))] s.heap := hP
  have hWl := sd_W_le ok.2.2.1 ok.2.1
  refine lv_aload_n hx hb dX0_checkTotal_0 rfl (lv_at hl 0 rfl) ?_
  refine va_get (D := (dC, dI)) (ci := 0) (v := .int (nI (sd_sum w n))) (C := RX0) (T := TX0) (N := 3) hx hb hts u_in_X0 hown hK hP 0 rfl rfl 2 (by decide) (hts (.fieldLink RX0 17 "ShareDesk" "total" "I") k_fieldLink_X0_17) (fun _ h9 => h9) rfl dX0_checkTotal_1 ?_
  refine sd_iz_ne (a := sd_sum w n) (tgt := 17) hx hb dX0_checkTotal_4 (by decide) (by omega) (fun h => ?_) (fun h => ?_)
  · exact W.vret hx hb hr (fun t ht hW => ⟨rfl, trivial, ht⟩) (fun q hq => nomatch hq) dX0_checkTotal_17
  · exact absurd h (by omega)
set_option maxHeartbeats 4000000 in
set_option maxRecDepth 100000 in
theorem c_share (l : Launch) (dC : Nat → ClassId) (dI : Nat → Nat → Nat) (cA : ClassId) (h0 a0 n : Nat) (w : Nat → Nat) (ok : sd_ok n w) (hW : 0 < sd_sum w n) (y u q : Nat) (hy : y ≤ 2) (hu : u ≤ 10000) (hq : q < n) : Met l yX0_share (sd_ws yX0_share cX0_share 4 (some .int)) (sd_rm 5 0 0) (sd_Pp (dC, dI) vwCl [(cA, .int)] (sd_O cA h0 a0 n w) [.ref h0, .int (nI y), .int (nI u), .int (nI q)]) (vp_Si (fun r => r = nI (sd_U y w n u q))) 0 0 (fun _ => False) := by
  refine Met.ofW (cc := cX0_share) (maxL := 4) (ret := (some .int)) (by decide) rfl ?_
  intro p e s m args below meth c s₁ B hml hv
  obtain ⟨rfl, hP, hK⟩ := hv
  have hx := B.exec
  have hb := B.bytes
  have hr := B.returns
  have hts0 := atoms_spec (ws := (sd_ws yX0_share cX0_share 4 (some .int))) B.pre
  have hts : ∀ w ∈ sd_WS, w.before _ s = true := fun w h => hts0 w (List.mem_cons_of_mem _ h)
  have hown : s.vm.findClass RX0 = some m.cls := findClass_of_methodNamed B.named
  have hlocks := B.notSynchronized
  have hl := lv_entry ([.ref h0, .int (nI y), .int (nI u), .int (nI q)]) (n := 4) (Nat.le_of_ble_eq_true rfl)
  rw [lg_entry_eq]
  generalize (lg_sl ([.ref h0, .int (nI y), .int (nI u), .int (nI q)]) ++ List.replicate (4 - (lg_sl ([.ref h0, .int (nI y), .int (nI u), .int (nI q)])).length) Slot.unset).toArray = ls at hl ⊢
  have hl : lv_has ls 4 [(0, .ref h0), (1, .int (nI y)), (2, .int (nI u)), (3, .int (nI q))] := hl
  have hP : va_P (dC, dI) vwCl [(h0, .inr (0, [.ref a0, .int (nI n), .int (nI (sd_sum w n))])), (a0, .inl (cA, 8, .inl (fun i => nI (w i))))] s.heap := hP
  refine lv_iload_n hx hb dX0_share_0 rfl (lv_at hl 1 rfl) ?_
  refine sd_callv (va_runS (As := [.int (nI y)]) (rest := []) ⟨hx, hb, hml, hown, hts0⟩ (c_checkWay l dC dI y hy) (cwS 1 hts0 (sd_gS k_methodLink_X0_34 k_static_X0_checkWay k_init_ShareDesk k_code_X0_checkWay) rfl rfl rfl (by decide +kernel) ⟨Nat.le_of_ble_eq_true rfl, Nat.le_of_ble_eq_true rfl⟩) (sd_preS (sd_K0 hK) (sd_nil _ _ _)) rfl rfl hl.1 rfl (lv_room (Nat.le_of_ble_eq_true rfl)) dX0_share_1 ⟨Nat.zero_le _, Nat.zero_le _⟩) ?_
  refine lv_iload_n hx hb dX0_share_4 rfl (lv_at hl 2 rfl) ?_
  refine lv_sipush (v := nI 10000) hx hb dX0_share_5 (by decide +kernel) ?_
  refine sd_callv (va_runS (As := [.int (nI u), .int (nI 10000)]) (rest := []) ⟨hx, hb, hml, hown, hts0⟩ (c_checkUnits l dC dI u 10000 hu (by omega)) (cwS 2 hts0 (sd_gS k_methodLink_X0_37 k_static_X0_checkUnits k_init_ShareDesk k_code_X0_checkUnits) rfl rfl rfl (by decide +kernel) ⟨Nat.le_of_ble_eq_true rfl, Nat.le_of_ble_eq_true rfl⟩) (sd_preS (sd_K0 hK) (sd_nil _ _ _)) rfl rfl hl.1 rfl (lv_room (Nat.le_of_ble_eq_true rfl)) dX0_share_8 ⟨Nat.zero_le _, Nat.zero_le _⟩) ?_
  refine lv_aload_n hx hb dX0_share_11 rfl (lv_at hl 0 rfl) ?_
  refine lv_iload_n hx hb dX0_share_12 rfl (lv_at hl 3 rfl) ?_
  refine sd_callv (va_runV (As := [.int (nI q)]) (rest := []) ⟨hx, hb, hml, hown, hts0⟩ (c_checkParty l dC dI cA h0 a0 n w ok q hq) (cwV 1 hts0 (sd_gV k_methodLink_X0_27 k_instanceMethod_X0_checkParty k_sel_X0_checkParty k_init_ShareDesk k_code_X0_checkParty) rfl rfl rfl (by decide +kernel) ⟨Nat.le_of_ble_eq_true rfl, Nat.le_of_ble_eq_true rfl⟩) (sd_preV hK hP (q0 := 0) (ci := 0) rfl rfl) rfl rfl hl.1 rfl (lv_room (Nat.le_of_ble_eq_true rfl)) dX0_share_13 ⟨Nat.zero_le _, Nat.zero_le _⟩) ?_
  refine lv_aload_n hx hb dX0_share_16 rfl (lv_at hl 0 rfl) ?_
  refine sd_callv (va_runV (As := []) (rest := []) ⟨hx, hb, hml, hown, hts0⟩ (c_checkTotal l dC dI cA h0 a0 n w ok hW) (cwV 0 hts0 (sd_gV k_methodLink_X0_41 k_instanceMethod_X0_checkTotal k_sel_X0_checkTotal k_init_ShareDesk k_code_X0_checkTotal) rfl rfl rfl (by decide +kernel) ⟨Nat.le_of_ble_eq_true rfl, Nat.le_of_ble_eq_true rfl⟩) (sd_preV hK hP (q0 := 0) (ci := 0) rfl rfl) rfl rfl hl.1 rfl (lv_room (Nat.le_of_ble_eq_true rfl)) dX0_share_17 ⟨Nat.zero_le _, Nat.zero_le _⟩) ?_
  refine lv_aload_n hx hb dX0_share_20 rfl (lv_at hl 0 rfl) ?_
  refine lv_iload_n hx hb dX0_share_21 rfl (lv_at hl 1 rfl) ?_
  refine lv_iload_n hx hb dX0_share_22 rfl (lv_at hl 2 rfl) ?_
  refine lv_iload_n hx hb dX0_share_23 rfl (lv_at hl 3 rfl) ?_
  refine sd_calli (va_runV (As := [.int (nI y), .int (nI u), .int (nI q)]) (rest := []) ⟨hx, hb, hml, hown, hts0⟩ (c_unitsOf l dC dI cA h0 a0 n w ok hW y u q hy hu hq) (cwV 3 hts0 (sd_gV k_methodLink_X0_44 k_instanceMethod_X0_unitsOf k_sel_X0_unitsOf k_init_ShareDesk k_code_X0_unitsOf) rfl rfl rfl (by decide +kernel) ⟨Nat.le_of_ble_eq_true rfl, Nat.le_of_ble_eq_true rfl⟩) (sd_preV hK hP (q0 := 0) (ci := 0) rfl rfl) rfl rfl hl.1 rfl (lv_room (Nat.le_of_ble_eq_true rfl)) dX0_share_24 ⟨Nat.zero_le _, Nat.zero_le _⟩) ?_
  exact W.iret hx hb hr (fun t ht hW => ⟨_, rfl, rfl, ht⟩) (fun q hq => nomatch hq) dX0_share_27
set_option maxHeartbeats 4000000 in
set_option maxRecDepth 100000 in
theorem c_over (l : Launch) (dC : Nat → ClassId) (dI : Nat → Nat → Nat) (cA : ClassId) (h0 a0 n : Nat) (w : Nat → Nat) (ok : sd_ok n w) (hW : 0 < sd_sum w n) (y u q : Nat) (hy : y ≤ 2) (hu : u ≤ 10000) (hq : q < n) : Met l yX0_over (sd_ws yX0_over cX0_over 4 (some .long)) (sd_rm 5 0 0) (sd_Pp (dC, dI) vwCl [(cA, .int)] (sd_O cA h0 a0 n w) [.ref h0, .int (nI y), .int (nI u), .int (nI q)]) (vp_Sl (fun r => r = lN (sd_U y w n u q * sd_sum w n) - lN (u * w q))) 0 0 (fun _ => False) := by
  refine Met.ofW (cc := cX0_over) (maxL := 4) (ret := (some .long)) (by decide) rfl ?_
  intro p e s m args below meth c s₁ B hml hv
  obtain ⟨rfl, hP, hK⟩ := hv
  have hx := B.exec
  have hb := B.bytes
  have hr := B.returns
  have hts0 := atoms_spec (ws := (sd_ws yX0_over cX0_over 4 (some .long))) B.pre
  have hts : ∀ w ∈ sd_WS, w.before _ s = true := fun w h => hts0 w (List.mem_cons_of_mem _ h)
  have hown : s.vm.findClass RX0 = some m.cls := findClass_of_methodNamed B.named
  have hlocks := B.notSynchronized
  have hl := lv_entry ([.ref h0, .int (nI y), .int (nI u), .int (nI q)]) (n := 4) (Nat.le_of_ble_eq_true rfl)
  rw [lg_entry_eq]
  generalize (lg_sl ([.ref h0, .int (nI y), .int (nI u), .int (nI q)]) ++ List.replicate (4 - (lg_sl ([.ref h0, .int (nI y), .int (nI u), .int (nI q)])).length) Slot.unset).toArray = ls at hl ⊢
  have hl : lv_has ls 4 [(0, .ref h0), (1, .int (nI y)), (2, .int (nI u)), (3, .int (nI q))] := hl
  have hP : va_P (dC, dI) vwCl [(h0, .inr (0, [.ref a0, .int (nI n), .int (nI (sd_sum w n))])), (a0, .inl (cA, 8, .inl (fun i => nI (w i))))] s.heap := hP
  have hwq := ok.2.2.1 q
  have hWl := sd_W_le ok.2.2.1 ok.2.1
  have hn8 := ok.2.1
  have hUl := sd_U_le (y := y) (w := w) (m := u) hW hq
  refine lv_iload_n hx hb dX0_over_0 rfl (lv_at hl 1 rfl) ?_
  refine sd_callv (va_runS (As := [.int (nI y)]) (rest := []) ⟨hx, hb, hml, hown, hts0⟩ (c_checkWay l dC dI y hy) (cwS 1 hts0 (sd_gS k_methodLink_X0_34 k_static_X0_checkWay k_init_ShareDesk k_code_X0_checkWay) rfl rfl rfl (by decide +kernel) ⟨Nat.le_of_ble_eq_true rfl, Nat.le_of_ble_eq_true rfl⟩) (sd_preS (sd_K0 hK) (sd_nil _ _ _)) rfl rfl hl.1 rfl (lv_room (Nat.le_of_ble_eq_true rfl)) dX0_over_1 ⟨Nat.zero_le _, Nat.zero_le _⟩) ?_
  refine lv_iload_n hx hb dX0_over_4 rfl (lv_at hl 2 rfl) ?_
  refine lv_sipush (v := nI 10000) hx hb dX0_over_5 (by decide +kernel) ?_
  refine sd_callv (va_runS (As := [.int (nI u), .int (nI 10000)]) (rest := []) ⟨hx, hb, hml, hown, hts0⟩ (c_checkUnits l dC dI u 10000 hu (by omega)) (cwS 2 hts0 (sd_gS k_methodLink_X0_37 k_static_X0_checkUnits k_init_ShareDesk k_code_X0_checkUnits) rfl rfl rfl (by decide +kernel) ⟨Nat.le_of_ble_eq_true rfl, Nat.le_of_ble_eq_true rfl⟩) (sd_preS (sd_K0 hK) (sd_nil _ _ _)) rfl rfl hl.1 rfl (lv_room (Nat.le_of_ble_eq_true rfl)) dX0_over_8 ⟨Nat.zero_le _, Nat.zero_le _⟩) ?_
  refine lv_aload_n hx hb dX0_over_11 rfl (lv_at hl 0 rfl) ?_
  refine lv_iload_n hx hb dX0_over_12 rfl (lv_at hl 3 rfl) ?_
  refine sd_callv (va_runV (As := [.int (nI q)]) (rest := []) ⟨hx, hb, hml, hown, hts0⟩ (c_checkParty l dC dI cA h0 a0 n w ok q hq) (cwV 1 hts0 (sd_gV k_methodLink_X0_27 k_instanceMethod_X0_checkParty k_sel_X0_checkParty k_init_ShareDesk k_code_X0_checkParty) rfl rfl rfl (by decide +kernel) ⟨Nat.le_of_ble_eq_true rfl, Nat.le_of_ble_eq_true rfl⟩) (sd_preV hK hP (q0 := 0) (ci := 0) rfl rfl) rfl rfl hl.1 rfl (lv_room (Nat.le_of_ble_eq_true rfl)) dX0_over_13 ⟨Nat.zero_le _, Nat.zero_le _⟩) ?_
  refine lv_aload_n hx hb dX0_over_16 rfl (lv_at hl 0 rfl) ?_
  refine sd_callv (va_runV (As := []) (rest := []) ⟨hx, hb, hml, hown, hts0⟩ (c_checkTotal l dC dI cA h0 a0 n w ok hW) (cwV 0 hts0 (sd_gV k_methodLink_X0_41 k_instanceMethod_X0_checkTotal k_sel_X0_checkTotal k_init_ShareDesk k_code_X0_checkTotal) rfl rfl rfl (by decide +kernel) ⟨Nat.le_of_ble_eq_true rfl, Nat.le_of_ble_eq_true rfl⟩) (sd_preV hK hP (q0 := 0) (ci := 0) rfl rfl) rfl rfl hl.1 rfl (lv_room (Nat.le_of_ble_eq_true rfl)) dX0_over_17 ⟨Nat.zero_le _, Nat.zero_le _⟩) ?_
  refine lv_aload_n hx hb dX0_over_20 rfl (lv_at hl 0 rfl) ?_
  refine lv_iload_n hx hb dX0_over_21 rfl (lv_at hl 1 rfl) ?_
  refine lv_iload_n hx hb dX0_over_22 rfl (lv_at hl 2 rfl) ?_
  refine lv_iload_n hx hb dX0_over_23 rfl (lv_at hl 3 rfl) ?_
  refine sd_calli (va_runV (As := [.int (nI y), .int (nI u), .int (nI q)]) (rest := []) ⟨hx, hb, hml, hown, hts0⟩ (c_unitsOf l dC dI cA h0 a0 n w ok hW y u q hy hu hq) (cwV 3 hts0 (sd_gV k_methodLink_X0_44 k_instanceMethod_X0_unitsOf k_sel_X0_unitsOf k_init_ShareDesk k_code_X0_unitsOf) rfl rfl rfl (by decide +kernel) ⟨Nat.le_of_ble_eq_true rfl, Nat.le_of_ble_eq_true rfl⟩) (sd_preV hK hP (q0 := 0) (ci := 0) rfl rfl) rfl rfl hl.1 rfl (lv_room (Nat.le_of_ble_eq_true rfl)) dX0_over_24 ⟨Nat.zero_le _, Nat.zero_le _⟩) ?_
  refine lv_i2l (v := lN (sd_U y w n u q)) hx hb dX0_over_27 (nI_l (by omega)) ?_
  refine lv_aload_n hx hb dX0_over_28 rfl (lv_at hl 0 rfl) ?_
  refine va_get (D := (dC, dI)) (ci := 0) (v := .int (nI (sd_sum w n))) (C := RX0) (T := TX0) (N := 3) hx hb hts u_in_X0 hown hK hP 0 rfl rfl 2 (by decide) (hts (.fieldLink RX0 17 "ShareDesk" "total" "I") k_fieldLink_X0_17) (fun _ h9 => h9) rfl dX0_over_29 ?_
  refine lv_i2l (v := lN (sd_sum w n)) hx hb dX0_over_32 (nI_l (by omega)) ?_
  refine sd_lmul (v := lN ((sd_U y w n u q) * (sd_sum w n))) hx hb dX0_over_33 (lN_mul _ _) ?_
  refine lv_iload_n hx hb dX0_over_34 rfl (lv_at hl 2 rfl) ?_
  refine lv_i2l (v := lN u) hx hb dX0_over_35 (nI_l (by omega)) ?_
  refine lv_aload_n hx hb dX0_over_36 rfl (lv_at hl 0 rfl) ?_
  refine va_get (D := (dC, dI)) (ci := 0) (v := .ref a0) (C := RX0) (T := TX0) (N := 3) hx hb hts u_in_X0 hown hK hP 0 rfl rfl 0 (by decide) (hts (.fieldLink RX0 9 "ShareDesk" "weights" "[I") k_fieldLink_X0_9) (fun _ h9 => h9) rfl dX0_over_37 ?_
  refine lv_iload_n hx hb dX0_over_40 rfl (lv_at hl 3 rfl) ?_
  refine sd_iald (j := q) (v := nI (w q)) hx hb hK hP 1 0 rfl rfl (by omega) (by decide) rfl dX0_over_41 ?_
  refine lv_i2l (v := lN (w q)) hx hb dX0_over_42 (nI_l (by omega)) ?_
  refine sd_lmul (v := lN (u * (w q))) hx hb dX0_over_43 (lN_mul _ _) ?_
  refine sd_lsub (v := lN (sd_U y w n u q * sd_sum w n) - lN (u * w q)) hx hb dX0_over_44 rfl ?_
  exact W.lret hx hb hr (fun t ht hW => ⟨_, rfl, rfl, ht⟩) (fun q hq => nomatch hq) dX0_over_45
set_option maxHeartbeats 4000000 in
set_option maxRecDepth 100000 in
theorem lp_next {p : Program} {l : Launch} {e : Env} {R : Room} {s : State} {m : MethodId} {args : Array Value} {below : List Frame} {meth : Method} {c : Code} {H : Heap} {locs : List Loc} {cells slots : Nat} {Q : State → Prop} (hx : p.tables.exec = Jvm.exec) (hb : c.code = cX0_next) (hml : c.maxLocals = 5) (hts0 : ∀ w ∈ (sd_ws yX0_next cX0_next 5 (some .int)), w.before args s = true) (hown : s.vm.findClass RX0 = some m.cls) {dC : Nat → ClassId} {dI : Nat → Nat → Nat} {cA : ClassId} {h0 a0 n : Nat} {w : Nat → Nat} (hK : va_K (dC, dI) vwCl [(cA, .int)] s) (hP : va_P (dC, dI) vwCl (sd_O cA h0 a0 n w) H) (ok : sd_ok n w) (hW : 0 < sd_sum w n) (y u : Nat) (hy : y ≤ 2) (hu : u ≤ 9999) (hR : (sd_rm 4 0 0).frames + 1 ≤ R.frames ∧ 8 + (4 + 11) + (sd_rm 4 0 0).locals ≤ R.locals) (hf : cells + 0 ≤ R.cells ∧ slots + 0 ≤ R.slots)
    (kk1 : sd_na (sd_nc (sd_U y w n u) (sd_U y w n (u + 1)) n) = none → ∀ ls : Array Slot, W p l e R s m args below meth c H locs cells slots Q (F0 m 55 ls [.int (-1)])) (kk2 : ∀ ls : Array Slot, W p l e R s m args below meth c H locs cells slots Q (F0 m 66 ls [.int (sd_oi (sd_na (sd_nc (sd_U y w n u) (sd_U y w n (u + 1)) n)))]))
    : ∀ (f i : Nat) (ch : Option Nat), i + f = n → sd_nc (sd_U y w n u) (sd_U y w n (u + 1)) i = some ch → (∀ k, ch = some k → k < 2 ^ 31) → ∀ ls : Array Slot, lv_has ls 5 [(0, .ref h0), (1, .int (nI y)), (2, .int (nI u)), (3, .int (sd_oi ch)), (4, .int (nI i))] → W p l e R s m args below meth c H locs cells slots Q (F0 m 20 ls []) := by
  have hts : ∀ w ∈ sd_WS, w.before args s = true := fun w h => hts0 w (List.mem_cons_of_mem _ h)
  have hP : va_P (dC, dI) vwCl [(h0, .inr (0, [.ref a0, .int (nI n), .int (nI (sd_sum w n))])), (a0, .inl (cA, 8, .inl (fun i => nI (w i))))] H := hP
  have hn8 := ok.2.1
  intro f
  induction f with
  | zero =>
    intro i ch hi hc hs ls hl
    have hin : i = n := by omega
    refine lv_iload hx hb dX0_next_20 (lv_at hl 4 rfl) ?_
    refine lv_aload_n hx hb dX0_next_22 rfl (lv_at hl 0 rfl) ?_
    refine va_get (D := (dC, dI)) (ci := 0) (v := .int (nI n)) (C := RX0) (T := TX0) (N := 3) hx hb hts u_in_X0 hown hK hP 0 rfl rfl 1 (by decide) (hts (.fieldLink RX0 13 "ShareDesk" "parties" "I") k_fieldLink_X0_13) (fun _ h9 => h9) rfl dX0_next_23 ?_
    refine sd_ic_ge (a := i) (b := n) (tgt := 65) hx hb dX0_next_26 (by decide) (by omega) (by omega) (fun h => ?_) (fun h => ?_)
    · refine lv_iload_n hx hb dX0_next_65 rfl (lv_at hl 3 rfl) ?_
      refine sd_topi (y := sd_oi (sd_na (sd_nc (sd_U y w n u) (sd_U y w n (u + 1)) n))) (by have hc2 := hc; rw [hin] at hc2; rw [hc2]; cases ch <;> rfl) ?_
      exact kk2 ls
    · exact absurd h (by omega)
  | succ f ih =>
    intro i ch hi hc hs ls hl
    have hnx : ∀ j, i < j → sd_nc (sd_U y w n u) (sd_U y w n (u + 1)) i = none ∨ True := fun _ _ => Or.inr trivial
    refine lv_iload hx hb dX0_next_20 (lv_at hl 4 rfl) ?_
    refine lv_aload_n hx hb dX0_next_22 rfl (lv_at hl 0 rfl) ?_
    refine va_get (D := (dC, dI)) (ci := 0) (v := .int (nI n)) (C := RX0) (T := TX0) (N := 3) hx hb hts u_in_X0 hown hK hP 0 rfl rfl 1 (by decide) (hts (.fieldLink RX0 13 "ShareDesk" "parties" "I") k_fieldLink_X0_13) (fun _ h9 => h9) rfl dX0_next_23 ?_
    refine sd_ic_ge (a := i) (b := n) (tgt := 65) hx hb dX0_next_26 (by decide) (by omega) (by omega) (fun h => ?_) (fun h => ?_)
    · exact absurd h (by omega)
    · have hu1 := sd_U_le (y := y) (w := w) (m := u) (p := i) hW (by omega)
      have hu2 := sd_U_le (y := y) (w := w) (m := u + 1) (p := i) hW (by omega)
      refine lv_aload_n hx hb dX0_next_29 rfl (lv_at hl 0 rfl) ?_
      refine lv_iload_n hx hb dX0_next_30 rfl (lv_at hl 1 rfl) ?_
      refine lv_iload_n hx hb dX0_next_31 rfl (lv_at hl 2 rfl) ?_
      refine lv_iconst (v := (nI 1)) hx hb dX0_next_32 (by decide +kernel) ?_
      refine sd_iadd (v := nI (u + 1)) hx hb dX0_next_33 (nI_add _ _) ?_
      refine lv_iload hx hb dX0_next_34 (lv_at hl 4 rfl) ?_
      refine sd_calli (va_runV (As := [.int (nI y), .int (nI (u + 1)), .int (nI i)]) (rest := []) ⟨hx, hb, hml, hown, hts0⟩ (c_unitsOf l dC dI cA h0 a0 n w ok hW y (u + 1) i hy (by omega) (by omega)) (cwV 3 hts0 (sd_gV k_methodLink_X0_44 k_instanceMethod_X0_unitsOf k_sel_X0_unitsOf k_init_ShareDesk k_code_X0_unitsOf) rfl rfl rfl (by decide +kernel) ⟨hR.1, hR.2⟩) (sd_preV hK hP (q0 := 0) (ci := 0) rfl rfl) rfl rfl hl.1 rfl (lv_room (Nat.le_of_ble_eq_true rfl)) dX0_next_36 hf) ?_
      refine lv_aload_n hx hb dX0_next_39 rfl (lv_at hl 0 rfl) ?_
      refine lv_iload_n hx hb dX0_next_40 rfl (lv_at hl 1 rfl) ?_
      refine lv_iload_n hx hb dX0_next_41 rfl (lv_at hl 2 rfl) ?_
      refine lv_iload hx hb dX0_next_42 (lv_at hl 4 rfl) ?_
      refine sd_calli (va_runV (As := [.int (nI y), .int (nI u), .int (nI i)]) (rest := [.int (nI (sd_U y w n (u + 1) i))]) ⟨hx, hb, hml, hown, hts0⟩ (c_unitsOf l dC dI cA h0 a0 n w ok hW y u i hy (by omega) (by omega)) (cwV 3 hts0 (sd_gV k_methodLink_X0_44 k_instanceMethod_X0_unitsOf k_sel_X0_unitsOf k_init_ShareDesk k_code_X0_unitsOf) rfl rfl rfl (by decide +kernel) ⟨hR.1, hR.2⟩) (sd_preV hK hP (q0 := 0) (ci := 0) rfl rfl) rfl rfl hl.1 rfl (lv_room (Nat.le_of_ble_eq_true rfl)) dX0_next_44 hf) ?_
      refine sd_ic_eq (a := sd_U y w n (u + 1) i) (b := sd_U y w n u i) (tgt := 59) hx hb dX0_next_47 (by decide) (by omega) (by omega) (fun h => ?_) (fun h => ?_)
      · have e1 : sd_nc (sd_U y w n u) (sd_U y w n (u + 1)) (i + 1) = some ch := by unfold sd_nc; rw [hc]; simp [h]
        refine lv_iinc (k := 4) (v := nI (i + 1)) hx hb dX0_next_59 hl rfl (nI_add _ 1) (by decide) rfl (fun ls hl => ?_)
        have hl : lv_has ls 5 [(4, .int (nI (i + 1))), (0, .ref h0), (1, .int (nI y)), (2, .int (nI u)), (3, .int (sd_oi ch))] := hl
        refine lv_goto (tgt := 20) hx hb dX0_next_62 (by decide) ?_
        have hl := lv_sub (l' := [(0, .ref h0), (1, .int (nI y)), (2, .int (nI u)), (3, .int (sd_oi ch)), (4, .int (nI (i + 1)))]) hl [1, 2, 3, 4, 0] rfl
        exact ih (i + 1) ch (by omega) e1 hs ls hl
      · have hne := h
        have hne2 : ¬ sd_U y w n u i = sd_U y w n (u + 1) i := fun z => hne z.symm
        refine lv_iload_n hx hb dX0_next_50 rfl (lv_at hl 3 rfl) ?_
        refine lv_if_lt (tgt := 56) hx hb dX0_next_51 (by decide) (fun h => ?_) (fun h => ?_)
        · have hcn : ch = none := (sd_oi_neg hs).mp h
          subst hcn
          have e1 : sd_nc (sd_U y w n u) (sd_U y w n (u + 1)) (i + 1) = some (some i) := by unfold sd_nc; rw [hc]; simp [hne2]
          refine lv_iload hx hb dX0_next_56 (lv_at hl 4 rfl) ?_
          refine lv_istore_n hx hb dX0_next_58 rfl hl (by decide) rfl (fun ls hl => ?_)
          have hl : lv_has ls 5 [(3, .int (nI i)), (0, .ref h0), (1, .int (nI y)), (2, .int (nI u)), (4, .int (nI i))] := hl
          refine lv_iinc (k := 4) (v := nI (i + 1)) hx hb dX0_next_59 hl rfl (nI_add _ 1) (by decide) rfl (fun ls hl => ?_)
          have hl : lv_has ls 5 [(4, .int (nI (i + 1))), (3, .int (nI i)), (0, .ref h0), (1, .int (nI y)), (2, .int (nI u))] := hl
          refine lv_goto (tgt := 20) hx hb dX0_next_62 (by decide) ?_
          have hl := lv_sub (l' := [(0, .ref h0), (1, .int (nI y)), (2, .int (nI u)), (3, .int (nI i)), (4, .int (nI (i + 1)))]) hl [2, 3, 4, 1, 0] rfl
          exact ih (i + 1) (some i) (by omega) e1 (fun k hk => by cases hk; omega) ls hl
        · have hcs : sd_na (sd_nc (sd_U y w n u) (sd_U y w n (u + 1)) n) = none := by
            have e1 : sd_nc (sd_U y w n u) (sd_U y w n (u + 1)) (i + 1) = none := by
              cases ch with
              | none => exact absurd (by decide +kernel) h
              | some c0 => unfold sd_nc; rw [hc]; simp [hne2]
            rw [sd_nc_none e1 n (by omega)]; rfl
          refine lv_iconst (v := (-1)) hx hb dX0_next_54 (by decide +kernel) ?_
          exact kk1 hcs ls
set_option maxHeartbeats 4000000 in
set_option maxRecDepth 100000 in
theorem c_next (l : Launch) (dC : Nat → ClassId) (dI : Nat → Nat → Nat) (cA : ClassId) (h0 a0 n : Nat) (w : Nat → Nat) (ok : sd_ok n w) (hW : 0 < sd_sum w n) (y u : Nat) (hy : y ≤ 2) (hu : u ≤ 9999) : Met l yX0_next (sd_ws yX0_next cX0_next 5 (some .int)) (sd_rm 5 0 0) (sd_Pp (dC, dI) vwCl [(cA, .int)] (sd_O cA h0 a0 n w) [.ref h0, .int (nI y), .int (nI u)]) (vp_Si (fun r => r = sd_oi (sd_na (sd_nc (sd_U y w n u) (sd_U y w n (u + 1)) n)))) 0 0 (fun _ => False) := by
  refine Met.ofW (cc := cX0_next) (maxL := 5) (ret := (some .int)) (by decide) rfl ?_
  intro p e s m args below meth c s₁ B hml hv
  obtain ⟨rfl, hP, hK⟩ := hv
  have hx := B.exec
  have hb := B.bytes
  have hr := B.returns
  have hts0 := atoms_spec (ws := (sd_ws yX0_next cX0_next 5 (some .int))) B.pre
  have hts : ∀ w ∈ sd_WS, w.before _ s = true := fun w h => hts0 w (List.mem_cons_of_mem _ h)
  have hown : s.vm.findClass RX0 = some m.cls := findClass_of_methodNamed B.named
  have hlocks := B.notSynchronized
  have hl := lv_entry ([.ref h0, .int (nI y), .int (nI u)]) (n := 5) (Nat.le_of_ble_eq_true rfl)
  rw [lg_entry_eq]
  generalize (lg_sl ([.ref h0, .int (nI y), .int (nI u)]) ++ List.replicate (5 - (lg_sl ([.ref h0, .int (nI y), .int (nI u)])).length) Slot.unset).toArray = ls at hl ⊢
  have hl : lv_has ls 5 [(0, .ref h0), (1, .int (nI y)), (2, .int (nI u))] := hl
  have hP : va_P (dC, dI) vwCl [(h0, .inr (0, [.ref a0, .int (nI n), .int (nI (sd_sum w n))])), (a0, .inl (cA, 8, .inl (fun i => nI (w i))))] s.heap := hP
  have hn8 := ok.2.1
  refine lv_iload_n hx hb dX0_next_0 rfl (lv_at hl 1 rfl) ?_
  refine sd_callv (va_runS (As := [.int (nI y)]) (rest := []) ⟨hx, hb, hml, hown, hts0⟩ (c_checkWay l dC dI y hy) (cwS 1 hts0 (sd_gS k_methodLink_X0_34 k_static_X0_checkWay k_init_ShareDesk k_code_X0_checkWay) rfl rfl rfl (by decide +kernel) ⟨Nat.le_of_ble_eq_true rfl, Nat.le_of_ble_eq_true rfl⟩) (sd_preS (sd_K0 hK) (sd_nil _ _ _)) rfl rfl hl.1 rfl (lv_room (Nat.le_of_ble_eq_true rfl)) dX0_next_1 ⟨Nat.zero_le _, Nat.zero_le _⟩) ?_
  refine lv_iload_n hx hb dX0_next_4 rfl (lv_at hl 2 rfl) ?_
  refine lv_sipush (v := nI 9999) hx hb dX0_next_5 (by decide +kernel) ?_
  refine sd_callv (va_runS (As := [.int (nI u), .int (nI 9999)]) (rest := []) ⟨hx, hb, hml, hown, hts0⟩ (c_checkUnits l dC dI u 9999 hu (by omega)) (cwS 2 hts0 (sd_gS k_methodLink_X0_37 k_static_X0_checkUnits k_init_ShareDesk k_code_X0_checkUnits) rfl rfl rfl (by decide +kernel) ⟨Nat.le_of_ble_eq_true rfl, Nat.le_of_ble_eq_true rfl⟩) (sd_preS (sd_K0 hK) (sd_nil _ _ _)) rfl rfl hl.1 rfl (lv_room (Nat.le_of_ble_eq_true rfl)) dX0_next_8 ⟨Nat.zero_le _, Nat.zero_le _⟩) ?_
  refine lv_aload_n hx hb dX0_next_11 rfl (lv_at hl 0 rfl) ?_
  refine sd_callv (va_runV (As := []) (rest := []) ⟨hx, hb, hml, hown, hts0⟩ (c_checkTotal l dC dI cA h0 a0 n w ok hW) (cwV 0 hts0 (sd_gV k_methodLink_X0_41 k_instanceMethod_X0_checkTotal k_sel_X0_checkTotal k_init_ShareDesk k_code_X0_checkTotal) rfl rfl rfl (by decide +kernel) ⟨Nat.le_of_ble_eq_true rfl, Nat.le_of_ble_eq_true rfl⟩) (sd_preV hK hP (q0 := 0) (ci := 0) rfl rfl) rfl rfl hl.1 rfl (lv_room (Nat.le_of_ble_eq_true rfl)) dX0_next_12 ⟨Nat.zero_le _, Nat.zero_le _⟩) ?_
  refine lv_iconst (v := (-1)) hx hb dX0_next_15 (by decide +kernel) ?_
  refine lv_istore_n hx hb dX0_next_16 rfl hl (by decide) rfl (fun ls hl => ?_)
  have hl : lv_has ls 5 [(3, .int (-1)), (0, .ref h0), (1, .int (nI y)), (2, .int (nI u))] := hl
  refine lv_iconst (v := (nI 0)) hx hb dX0_next_17 (by decide +kernel) ?_
  refine lv_istore hx hb dX0_next_18 hl (by decide) rfl (fun ls hl => ?_)
  have hl : lv_has ls 5 [(4, .int (nI 0)), (3, .int (-1)), (0, .ref h0), (1, .int (nI y)), (2, .int (nI u))] := hl
  have hl := lv_sub (l' := [(0, .ref h0), (1, .int (nI y)), (2, .int (nI u)), (3, .int (-1)), (4, .int (nI 0))]) hl [2, 3, 4, 1, 0] rfl
  refine lp_next hx hb hml hts0 hown hK hP ok hW y u hy hu ⟨Nat.le_of_ble_eq_true rfl, Nat.le_of_ble_eq_true rfl⟩ ⟨Nat.zero_le _, Nat.zero_le _⟩ (fun hz ls => ?_) (fun ls => ?_) n 0 none (by omega) rfl (fun k hk => nomatch hk) ls hl
  · refine sd_topi (y := sd_oi (sd_na (sd_nc (sd_U y w n u) (sd_U y w n (u + 1)) n))) (by rw [hz]; rfl) ?_
    exact W.iret hx hb hr (fun t ht hW => ⟨_, rfl, rfl, ht⟩) (fun q hq => nomatch hq) dX0_next_55
  · exact W.iret hx hb hr (fun t ht hW => ⟨_, rfl, rfl, ht⟩) (fun q hq => nomatch hq) dX0_next_66
set_option maxHeartbeats 4000000 in
set_option maxRecDepth 100000 in
theorem c_count (l : Launch) (dC : Nat → ClassId) (dI : Nat → Nat → Nat) (cA : ClassId) (h0 a0 n : Nat) (w : Nat → Nat) (ok : sd_ok n w) (k : Nat) (hk : k ≤ 2) : Met l yX0_count (sd_ws yX0_count cX0_count 2 (some .int)) (sd_rm 1 0 0) (sd_Pp (dC, dI) vwCl [(cA, .int)] (sd_O cA h0 a0 n w) [.ref h0, .int (nI k)]) (vp_Si (fun r => r = nI (if k = 0 then n else if k = 1 then sd_sum w n else sd_cnt (fun j => decide (0 < w j)) n))) 0 0 (fun _ => False) := by
  refine Met.ofW (cc := cX0_count) (maxL := 2) (ret := (some .int)) (by decide) rfl ?_
  intro p e s m args below meth c s₁ B hml hv
  obtain ⟨rfl, hP, hK⟩ := hv
  have hx := B.exec
  have hb := B.bytes
  have hr := B.returns
  have hts0 := atoms_spec (ws := (sd_ws yX0_count cX0_count 2 (some .int))) B.pre
  have hts : ∀ w ∈ sd_WS, w.before _ s = true := fun w h => hts0 w (List.mem_cons_of_mem _ h)
  have hown : s.vm.findClass RX0 = some m.cls := findClass_of_methodNamed B.named
  have hlocks := B.notSynchronized
  have hl := lv_entry ([.ref h0, .int (nI k)]) (n := 2) (Nat.le_of_ble_eq_true rfl)
  rw [lg_entry_eq]
  generalize (lg_sl ([.ref h0, .int (nI k)]) ++ List.replicate (2 - (lg_sl ([.ref h0, .int (nI k)])).length) Slot.unset).toArray = ls at hl ⊢
  have hl : lv_has ls 2 [(0, .ref h0), (1, .int (nI k))] := hl
  have hP : va_P (dC, dI) vwCl [(h0, .inr (0, [.ref a0, .int (nI n), .int (nI (sd_sum w n))])), (a0, .inl (cA, 8, .inl (fun i => nI (w i))))] s.heap := hP
  have hn8 := ok.2.1
  have hWl := sd_W_le ok.2.2.1 ok.2.1
  refine lv_iload_n hx hb dX0_count_0 rfl (lv_at hl 1 rfl) ?_
  rcases (show k = 0 ∨ k = 1 ∨ k = 2 by omega) with rfl | rfl | rfl
  · refine lv_tableIn (off := 27) (tgt := 28) hx hb dX0_count_1 (by decide +kernel) (by decide +kernel) rfl (by decide) ?_
    refine lv_aload_n hx hb dX0_count_28 rfl (lv_at hl 0 rfl) ?_
    refine va_get (D := (dC, dI)) (ci := 0) (v := .int (nI n)) (C := RX0) (T := TX0) (N := 3) hx hb hts u_in_X0 hown hK hP 0 rfl rfl 1 (by decide) (hts (.fieldLink RX0 13 "ShareDesk" "parties" "I") k_fieldLink_X0_13) (fun _ h9 => h9) rfl dX0_count_29 ?_
    exact W.iret hx hb hr (fun t ht hW => ⟨_, rfl, rfl, ht⟩) (fun q hq => nomatch hq) dX0_count_32
  · refine lv_tableIn (off := 32) (tgt := 33) hx hb dX0_count_1 (by decide +kernel) (by decide +kernel) rfl (by decide) ?_
    refine lv_aload_n hx hb dX0_count_33 rfl (lv_at hl 0 rfl) ?_
    refine va_get (D := (dC, dI)) (ci := 0) (v := .int (nI (sd_sum w n))) (C := RX0) (T := TX0) (N := 3) hx hb hts u_in_X0 hown hK hP 0 rfl rfl 2 (by decide) (hts (.fieldLink RX0 17 "ShareDesk" "total" "I") k_fieldLink_X0_17) (fun _ h9 => h9) rfl dX0_count_34 ?_
    exact W.iret hx hb hr (fun t ht hW => ⟨_, rfl, rfl, ht⟩) (fun q hq => nomatch hq) dX0_count_37
  · refine lv_tableIn (off := 37) (tgt := 38) hx hb dX0_count_1 (by decide +kernel) (by decide +kernel) rfl (by decide) ?_
    refine lv_aload_n hx hb dX0_count_38 rfl (lv_at hl 0 rfl) ?_
    refine sd_calli (va_runV (As := []) (rest := []) ⟨hx, hb, hml, hown, hts0⟩ (c_partiesWithWeight l dC dI cA h0 a0 n w ok) (cwV 0 hts0 (sd_gV k_methodLink_X0_60 k_instanceMethod_X0_partiesWithWeight k_sel_X0_partiesWithWeight k_init_ShareDesk k_code_X0_partiesWithWeight) rfl rfl rfl (by decide +kernel) ⟨Nat.le_of_ble_eq_true rfl, Nat.le_of_ble_eq_true rfl⟩) (sd_preV hK hP (q0 := 0) (ci := 0) rfl rfl) rfl rfl hl.1 rfl (lv_room (Nat.le_of_ble_eq_true rfl)) dX0_count_39 ⟨Nat.zero_le _, Nat.zero_le _⟩) ?_
    exact W.iret hx hb hr (fun t ht hW => ⟨_, rfl, rfl, ht⟩) (fun q hq => nomatch hq) dX0_count_42
end
section
set_option maxHeartbeats 4000000 in
set_option maxRecDepth 100000 in
theorem t_checkWay (l : Launch) (hl9 : l.stackTraces = false) (dC : Nat → ClassId) (dI : Nat → Nat → Nat) (x : Int32) (hbad : x < 0 ∨ nI 2 < x) : sd_MT l yX0_checkWay (sd_ws yX0_checkWay cX0_checkWay 1 none) (sd_rm 6 1 6) (sd_Pt (dC, dI) vwCl [] [] [.int x]) sd_IA := by
  refine sd_MT.ofW (cc := cX0_checkWay) (maxL := 1) (ret := none) (by decide) rfl ?_
  intro p e s m args below meth c s₁ B hml hout hv
  obtain ⟨rfl, hP, hK, hTH⟩ := hv
  have hx := B.exec
  have hb := B.bytes
  have hr := B.returns
  have hts0 := atoms_spec (ws := (sd_ws yX0_checkWay cX0_checkWay 1 none)) B.pre
  have hts : ∀ w ∈ sd_WS, w.before _ s = true := fun w h => hts0 w (List.mem_cons_of_mem _ h)
  have hown : s.vm.findClass RX0 = some m.cls := findClass_of_methodNamed B.named
  have hlocks := B.notSynchronized
  have hl := lv_entry ([.int x]) (n := 1) (Nat.le_of_ble_eq_true rfl)
  rw [lg_entry_eq]
  generalize (lg_sl ([.int x]) ++ List.replicate (1 - (lg_sl ([.int x])).length) Slot.unset).toArray = ls at hl ⊢
  have hl : lv_has ls 1 [(0, .int x)] := hl
  refine lv_iload_n hx hb dX0_checkWay_0 rfl (lv_at hl 0 rfl) ?_
  refine lv_if_lt (tgt := 9) hx hb dX0_checkWay_1 (by decide) (fun h => ?_) (fun h => ?_)
  · obtain ⟨qs, hZ⟩ := hTH.2.2.2.2.2.2.2.2 (66, "there is no such way") (by decide)
    exact sd_throw hx hb hl9 hlocks hout (own := RX0) (cls := sd_IA) (names := sd_up2) (tx := "there is no such way") hown (by decide) (by decide) (sd_own sd_ownIA hts hTH) (hts (.classLink RX0 20 sd_IA) k_classLink_X0_20) (hts (.initialized sd_IA) k_init_java_lang_IllegalArgumentException) hZ (hl.1.trans hml.symm) dX0_checkWay_9 dX0_checkWay_12 dX0_checkWay_13 dX0_checkWay_15 dX0_checkWay_18 (by decide) (by decide) (by decide) (by decide)
  · have hn := h
    refine lv_iload_n hx hb dX0_checkWay_4 rfl (lv_at hl 0 rfl) ?_
    refine lv_iconst (v := (nI 2)) hx hb dX0_checkWay_5 (by decide +kernel) ?_
    refine lv_icmp_le (tgt := 19) hx hb dX0_checkWay_6 (by decide) (fun h => ?_) (fun h => ?_)
    · exact absurd hbad (fun z => z.elim hn (fun z2 => absurd h (Int32.not_le.mpr z2)))
    · obtain ⟨qs, hZ⟩ := hTH.2.2.2.2.2.2.2.2 (66, "there is no such way") (by decide)
      exact sd_throw hx hb hl9 hlocks hout (own := RX0) (cls := sd_IA) (names := sd_up2) (tx := "there is no such way") hown (by decide) (by decide) (sd_own sd_ownIA hts hTH) (hts (.classLink RX0 20 sd_IA) k_classLink_X0_20) (hts (.initialized sd_IA) k_init_java_lang_IllegalArgumentException) hZ (hl.1.trans hml.symm) dX0_checkWay_9 dX0_checkWay_12 dX0_checkWay_13 dX0_checkWay_15 dX0_checkWay_18 (by decide) (by decide) (by decide) (by decide)
set_option maxHeartbeats 4000000 in
set_option maxRecDepth 100000 in
theorem t_checkUnits (l : Launch) (hl9 : l.stackTraces = false) (dC : Nat → ClassId) (dI : Nat → Nat → Nat) (x : Int32) (M : Nat) (hbad : x < 0 ∨ nI M < x) : sd_MT l yX0_checkUnits (sd_ws yX0_checkUnits cX0_checkUnits 2 none) (sd_rm 6 1 6) (sd_Pt (dC, dI) vwCl [] [] [.int x, .int (nI M)]) sd_IA := by
  refine sd_MT.ofW (cc := cX0_checkUnits) (maxL := 2) (ret := none) (by decide) rfl ?_
  intro p e s m args below meth c s₁ B hml hout hv
  obtain ⟨rfl, hP, hK, hTH⟩ := hv
  have hx := B.exec
  have hb := B.bytes
  have hr := B.returns
  have hts0 := atoms_spec (ws := (sd_ws yX0_checkUnits cX0_checkUnits 2 none)) B.pre
  have hts : ∀ w ∈ sd_WS, w.before _ s = true := fun w h => hts0 w (List.mem_cons_of_mem _ h)
  have hown : s.vm.findClass RX0 = some m.cls := findClass_of_methodNamed B.named
  have hlocks := B.notSynchronized
  have hl := lv_entry ([.int x, .int (nI M)]) (n := 2) (Nat.le_of_ble_eq_true rfl)
  rw [lg_entry_eq]
  generalize (lg_sl ([.int x, .int (nI M)]) ++ List.replicate (2 - (lg_sl ([.int x, .int (nI M)])).length) Slot.unset).toArray = ls at hl ⊢
  have hl : lv_has ls 2 [(0, .int x), (1, .int (nI M))] := hl
  refine lv_iload_n hx hb dX0_checkUnits_0 rfl (lv_at hl 0 rfl) ?_
  refine lv_if_lt (tgt := 9) hx hb dX0_checkUnits_1 (by decide) (fun h => ?_) (fun h => ?_)
  · obtain ⟨qs, hZ⟩ := hTH.2.2.2.2.2.2.2.2 (68, "the number of units is out of range") (by decide)
    exact sd_throw hx hb hl9 hlocks hout (own := RX0) (cls := sd_IA) (names := sd_up2) (tx := "the number of units is out of range") hown (by decide) (by decide) (sd_own sd_ownIA hts hTH) (hts (.classLink RX0 20 sd_IA) k_classLink_X0_20) (hts (.initialized sd_IA) k_init_java_lang_IllegalArgumentException) hZ (hl.1.trans hml.symm) dX0_checkUnits_9 dX0_checkUnits_12 dX0_checkUnits_13 dX0_checkUnits_15 dX0_checkUnits_18 (by decide) (by decide) (by decide) (by decide)
  · have hn := h
    refine lv_iload_n hx hb dX0_checkUnits_4 rfl (lv_at hl 0 rfl) ?_
    refine lv_iload_n hx hb dX0_checkUnits_5 rfl (lv_at hl 1 rfl) ?_
    refine lv_icmp_le (tgt := 19) hx hb dX0_checkUnits_6 (by decide) (fun h => ?_) (fun h => ?_)
    · exact absurd hbad (fun z => z.elim hn (fun z2 => absurd h (Int32.not_le.mpr z2)))
    · obtain ⟨qs, hZ⟩ := hTH.2.2.2.2.2.2.2.2 (68, "the number of units is out of range") (by decide)
      exact sd_throw hx hb hl9 hlocks hout (own := RX0) (cls := sd_IA) (names := sd_up2) (tx := "the number of units is out of range") hown (by decide) (by decide) (sd_own sd_ownIA hts hTH) (hts (.classLink RX0 20 sd_IA) k_classLink_X0_20) (hts (.initialized sd_IA) k_init_java_lang_IllegalArgumentException) hZ (hl.1.trans hml.symm) dX0_checkUnits_9 dX0_checkUnits_12 dX0_checkUnits_13 dX0_checkUnits_15 dX0_checkUnits_18 (by decide) (by decide) (by decide) (by decide)
set_option maxHeartbeats 4000000 in
set_option maxRecDepth 100000 in
theorem t_checkParty (l : Launch) (hl9 : l.stackTraces = false) (dC : Nat → ClassId) (dI : Nat → Nat → Nat) (cA : ClassId) (h0 a0 n : Nat) (w : Nat → Nat) (x : Int32) (hbad : x < 0 ∨ nI n ≤ x) : sd_MT l yX0_checkParty (sd_ws yX0_checkParty cX0_checkParty 2 none) (sd_rm 6 1 6) (sd_Pt (dC, dI) vwCl [(cA, .int)] (sd_O cA h0 a0 n w) [.ref h0, .int x]) sd_IA := by
  refine sd_MT.ofW (cc := cX0_checkParty) (maxL := 2) (ret := none) (by decide) rfl ?_
  intro p e s m args below meth c s₁ B hml hout hv
  obtain ⟨rfl, hP, hK, hTH⟩ := hv
  have hx := B.exec
  have hb := B.bytes
  have hr := B.returns
  have hts0 := atoms_spec (ws := (sd_ws yX0_checkParty cX0_checkParty 2 none)) B.pre
  have hts : ∀ w ∈ sd_WS, w.before _ s = true := fun w h => hts0 w (List.mem_cons_of_mem _ h)
  have hown : s.vm.findClass RX0 = some m.cls := findClass_of_methodNamed B.named
  have hlocks := B.notSynchronized
  have hl := lv_entry ([.ref h0, .int x]) (n := 2) (Nat.le_of_ble_eq_true rfl)
  rw [lg_entry_eq]
  generalize (lg_sl ([.ref h0, .int x]) ++ List.replicate (2 - (lg_sl ([.ref h0, .int x])).length) Slot.unset).toArray = ls at hl ⊢
  have hl : lv_has ls 2 [(0, .ref h0), (1, .int x)] := hl
  have hP : va_P (dC, dI) vwCl [(h0, .inr (0, [.ref a0, .int (nI n), .int (nI (sd_sum w n))])), (a0, .inl (cA, 8, .inl (fun i => nI (w i))))] s.heap := hP
  refine lv_iload_n hx hb dX0_checkParty_0 rfl (lv_at hl 1 rfl) ?_
  refine lv_if_lt (tgt := 12) hx hb dX0_checkParty_1 (by decide) (fun h => ?_) (fun h => ?_)
  · obtain ⟨qs, hZ⟩ := hTH.2.2.2.2.2.2.2.2 (70, "there is no such party") (by decide)
    exact sd_throw hx hb hl9 hlocks hout (own := RX0) (cls := sd_IA) (names := sd_up2) (tx := "there is no such party") hown (by decide) (by decide) (sd_own sd_ownIA hts hTH) (hts (.classLink RX0 20 sd_IA) k_classLink_X0_20) (hts (.initialized sd_IA) k_init_java_lang_IllegalArgumentException) hZ (hl.1.trans hml.symm) dX0_checkParty_12 dX0_checkParty_15 dX0_checkParty_16 dX0_checkParty_18 dX0_checkParty_21 (by decide) (by decide) (by decide) (by decide)
  · have hn := h
    refine lv_iload_n hx hb dX0_checkParty_4 rfl (lv_at hl 1 rfl) ?_
    refine lv_aload_n hx hb dX0_checkParty_5 rfl (lv_at hl 0 rfl) ?_
    refine va_get (D := (dC, dI)) (ci := 0) (v := .int (nI n)) (C := RX0) (T := TX0) (N := 3) hx hb hts u_in_X0 hown hK hP 0 rfl rfl 1 (by decide) (hts (.fieldLink RX0 13 "ShareDesk" "parties" "I") k_fieldLink_X0_13) (fun _ h9 => h9) rfl dX0_checkParty_6 ?_
    refine lv_icmp_lt (tgt := 22) hx hb dX0_checkParty_9 (by decide) (fun h => ?_) (fun h => ?_)
    · exact absurd hbad (fun z => z.elim hn (fun z2 => absurd h (Int32.not_lt.mpr z2)))
    · obtain ⟨qs, hZ⟩ := hTH.2.2.2.2.2.2.2.2 (70, "there is no such party") (by decide)
      exact sd_throw hx hb hl9 hlocks hout (own := RX0) (cls := sd_IA) (names := sd_up2) (tx := "there is no such party") hown (by decide) (by decide) (sd_own sd_ownIA hts hTH) (hts (.classLink RX0 20 sd_IA) k_classLink_X0_20) (hts (.initialized sd_IA) k_init_java_lang_IllegalArgumentException) hZ (hl.1.trans hml.symm) dX0_checkParty_12 dX0_checkParty_15 dX0_checkParty_16 dX0_checkParty_18 dX0_checkParty_21 (by decide) (by decide) (by decide) (by decide)
set_option maxHeartbeats 4000000 in
set_option maxRecDepth 100000 in
theorem t_checkTotal (l : Launch) (hl9 : l.stackTraces = false) (dC : Nat → ClassId) (dI : Nat → Nat → Nat) (cA : ClassId) (h0 a0 n : Nat) (w : Nat → Nat) (hz : sd_sum w n = 0) : sd_MT l yX0_checkTotal (sd_ws yX0_checkTotal cX0_checkTotal 1 none) (sd_rm 6 1 6) (sd_Pt (dC, dI) vwCl [(cA, .int)] (sd_O cA h0 a0 n w) [.ref h0]) sd_IS := by
  refine sd_MT.ofW (cc := cX0_checkTotal) (maxL := 1) (ret := none) (by decide) rfl ?_
  intro p e s m args below meth c s₁ B hml hout hv
  obtain ⟨rfl, hP, hK, hTH⟩ := hv
  have hx := B.exec
  have hb := B.bytes
  have hr := B.returns
  have hts0 := atoms_spec (ws := (sd_ws yX0_checkTotal cX0_checkTotal 1 none)) B.pre
  have hts : ∀ w ∈ sd_WS, w.before _ s = true := fun w h => hts0 w (List.mem_cons_of_mem _ h)
  have hown : s.vm.findClass RX0 = some m.cls := findClass_of_methodNamed B.named
  have hlocks := B.notSynchronized
  have hl := lv_entry ([.ref h0]) (n := 1) (Nat.le_of_ble_eq_true rfl)
  rw [lg_entry_eq]
  generalize (lg_sl ([.ref h0]) ++ List.replicate (1 - (lg_sl ([.ref h0])).length) Slot.unset).toArray = ls at hl ⊢
  have hl : lv_has ls 1 [(0, .ref h0)] := hl
  have hP : va_P (dC, dI) vwCl [(h0, .inr (0, [.ref a0, .int (nI n), .int (nI (sd_sum w n))])), (a0, .inl (cA, 8, .inl (fun i => nI (w i))))] s.heap := hP
  refine lv_aload_n hx hb dX0_checkTotal_0 rfl (lv_at hl 0 rfl) ?_
  refine va_get (D := (dC, dI)) (ci := 0) (v := .int (nI (sd_sum w n))) (C := RX0) (T := TX0) (N := 3) hx hb hts u_in_X0 hown hK hP 0 rfl rfl 2 (by decide) (hts (.fieldLink RX0 17 "ShareDesk" "total" "I") k_fieldLink_X0_17) (fun _ h9 => h9) rfl dX0_checkTotal_1 ?_
  refine sd_iz_ne (a := sd_sum w n) (tgt := 17) hx hb dX0_checkTotal_4 (by decide) (by omega) (fun h => ?_) (fun h => ?_)
  · exact absurd h (by omega)
  · obtain ⟨qs, hZ⟩ := hTH.2.2.2.2.2.2.2.2 (74, "all weights are 0") (by decide)
    exact sd_throw hx hb hl9 hlocks hout (own := RX0) (cls := sd_IS) (names := sd_up2) (tx := "all weights are 0") hown (by decide) (by decide) (sd_own sd_ownIS hts hTH) (hts (.classLink RX0 72 sd_IS) k_classLink_X0_72) (hts (.initialized sd_IS) k_init_java_lang_IllegalStateException) hZ (hl.1.trans hml.symm) dX0_checkTotal_7 dX0_checkTotal_10 dX0_checkTotal_11 dX0_checkTotal_13 dX0_checkTotal_16 (by decide) (by decide) (by decide) (by decide)
set_option maxHeartbeats 4000000 in
set_option maxRecDepth 100000 in
theorem t_begin (l : Launch) (hl9 : l.stackTraces = false) (dC : Nat → ClassId) (dI : Nat → Nat → Nat) (cA : ClassId) (h0 a0 n : Nat) (w : Nat → Nat) (x : Int32) (hbad : x < nI 1 ∨ nI 8 < x) : sd_MT l yX0_begin (sd_ws yX0_begin cX0_begin 3 none) (sd_rm 6 1 6) (sd_Pt (dC, dI) vwCl [(cA, .int)] (sd_O cA h0 a0 n w) [.ref h0, .int x]) sd_IA := by
  refine sd_MT.ofW (cc := cX0_begin) (maxL := 3) (ret := none) (by decide) rfl ?_
  intro p e s m args below meth c s₁ B hml hout hv
  obtain ⟨rfl, hP, hK, hTH⟩ := hv
  have hx := B.exec
  have hb := B.bytes
  have hr := B.returns
  have hts0 := atoms_spec (ws := (sd_ws yX0_begin cX0_begin 3 none)) B.pre
  have hts : ∀ w ∈ sd_WS, w.before _ s = true := fun w h => hts0 w (List.mem_cons_of_mem _ h)
  have hown : s.vm.findClass RX0 = some m.cls := findClass_of_methodNamed B.named
  have hlocks := B.notSynchronized
  have hl := lv_entry ([.ref h0, .int x]) (n := 3) (Nat.le_of_ble_eq_true rfl)
  rw [lg_entry_eq]
  generalize (lg_sl ([.ref h0, .int x]) ++ List.replicate (3 - (lg_sl ([.ref h0, .int x])).length) Slot.unset).toArray = ls at hl ⊢
  have hl : lv_has ls 3 [(0, .ref h0), (1, .int x)] := hl
  have hP : va_P (dC, dI) vwCl [(h0, .inr (0, [.ref a0, .int (nI n), .int (nI (sd_sum w n))])), (a0, .inl (cA, 8, .inl (fun i => nI (w i))))] s.heap := hP
  refine lv_iload_n hx hb dX0_begin_0 rfl (lv_at hl 1 rfl) ?_
  refine lv_iconst (v := (nI 1)) hx hb dX0_begin_1 (by decide +kernel) ?_
  refine lv_icmp_lt (tgt := 11) hx hb dX0_begin_2 (by decide) (fun h => ?_) (fun h => ?_)
  · obtain ⟨qs, hZ⟩ := hTH.2.2.2.2.2.2.2.2 (22, "the number of parties is not 1..8") (by decide)
    exact sd_throw hx hb hl9 hlocks hout (own := RX0) (cls := sd_IA) (names := sd_up2) (tx := "the number of parties is not 1..8") hown (by decide) (by decide) (sd_own sd_ownIA hts hTH) (hts (.classLink RX0 20 sd_IA) k_classLink_X0_20) (hts (.initialized sd_IA) k_init_java_lang_IllegalArgumentException) hZ (hl.1.trans hml.symm) dX0_begin_11 dX0_begin_14 dX0_begin_15 dX0_begin_17 dX0_begin_20 (by decide) (by decide) (by decide) (by decide)
  · have hn := h
    refine lv_iload_n hx hb dX0_begin_5 rfl (lv_at hl 1 rfl) ?_
    refine lv_bipush (v := nI 8) hx hb dX0_begin_6 (by decide +kernel) ?_
    refine lv_icmp_le (tgt := 21) hx hb dX0_begin_8 (by decide) (fun h => ?_) (fun h => ?_)
    · exact absurd hbad (fun z => z.elim hn (fun z2 => absurd h (Int32.not_le.mpr z2)))
    · obtain ⟨qs, hZ⟩ := hTH.2.2.2.2.2.2.2.2 (22, "the number of parties is not 1..8") (by decide)
      exact sd_throw hx hb hl9 hlocks hout (own := RX0) (cls := sd_IA) (names := sd_up2) (tx := "the number of parties is not 1..8") hown (by decide) (by decide) (sd_own sd_ownIA hts hTH) (hts (.classLink RX0 20 sd_IA) k_classLink_X0_20) (hts (.initialized sd_IA) k_init_java_lang_IllegalArgumentException) hZ (hl.1.trans hml.symm) dX0_begin_11 dX0_begin_14 dX0_begin_15 dX0_begin_17 dX0_begin_20 (by decide) (by decide) (by decide) (by decide)
set_option maxHeartbeats 4000000 in
set_option maxRecDepth 100000 in
theorem t_count (l : Launch) (hl9 : l.stackTraces = false) (dC : Nat → ClassId) (dI : Nat → Nat → Nat) (cA : ClassId) (h0 a0 n : Nat) (w : Nat → Nat) (x : Int32) (hbad : x.toInt < 0 ∨ 2 < x.toInt) : sd_MT l yX0_count (sd_ws yX0_count cX0_count 2 (some .int)) (sd_rm 6 1 6) (sd_Pt (dC, dI) vwCl [(cA, .int)] (sd_O cA h0 a0 n w) [.ref h0, .int x]) sd_IA := by
  refine sd_MT.ofW (cc := cX0_count) (maxL := 2) (ret := (some .int)) (by decide) rfl ?_
  intro p e s m args below meth c s₁ B hml hout hv
  obtain ⟨rfl, hP, hK, hTH⟩ := hv
  have hx := B.exec
  have hb := B.bytes
  have hr := B.returns
  have hts0 := atoms_spec (ws := (sd_ws yX0_count cX0_count 2 (some .int))) B.pre
  have hts : ∀ w ∈ sd_WS, w.before _ s = true := fun w h => hts0 w (List.mem_cons_of_mem _ h)
  have hown : s.vm.findClass RX0 = some m.cls := findClass_of_methodNamed B.named
  have hlocks := B.notSynchronized
  have hl := lv_entry ([.ref h0, .int x]) (n := 2) (Nat.le_of_ble_eq_true rfl)
  rw [lg_entry_eq]
  generalize (lg_sl ([.ref h0, .int x]) ++ List.replicate (2 - (lg_sl ([.ref h0, .int x])).length) Slot.unset).toArray = ls at hl ⊢
  have hl : lv_has ls 2 [(0, .ref h0), (1, .int x)] := hl
  have hP : va_P (dC, dI) vwCl [(h0, .inr (0, [.ref a0, .int (nI n), .int (nI (sd_sum w n))])), (a0, .inl (cA, 8, .inl (fun i => nI (w i))))] s.heap := hP
  refine lv_iload_n hx hb dX0_count_0 rfl (lv_at hl 1 rfl) ?_
  refine lv_tableOut (tgt := 43) hx hb dX0_count_1 hbad (by decide) ?_
  obtain ⟨qs, hZ⟩ := hTH.2.2.2.2.2.2.2.2 (64, "there is no such count") (by decide)
  exact sd_throw hx hb hl9 hlocks hout (own := RX0) (cls := sd_IA) (names := sd_up2) (tx := "there is no such count") hown (by decide) (by decide) (sd_own sd_ownIA hts hTH) (hts (.classLink RX0 20 sd_IA) k_classLink_X0_20) (hts (.initialized sd_IA) k_init_java_lang_IllegalArgumentException) hZ (hl.1.trans hml.symm) dX0_count_43 dX0_count_46 dX0_count_47 dX0_count_49 dX0_count_52 (by decide) (by decide) (by decide) (by decide)
set_option maxHeartbeats 4000000 in
set_option maxRecDepth 100000 in
theorem t_weight1 (l : Launch) (hl9 : l.stackTraces = false) (dC : Nat → ClassId) (dI : Nat → Nat → Nat) (cA : ClassId) (h0 a0 n : Nat) (w : Nat → Nat) (x z : Int32) (hbad : x < 0 ∨ nI n ≤ x) : sd_MT l yX0_weight (sd_ws yX0_weight cX0_weight 4 (some .int)) (sd_rm 7 1 6) (sd_Pt (dC, dI) vwCl [(cA, .int)] (sd_O cA h0 a0 n w) [.ref h0, .int x, .int z]) sd_IA := by
  refine sd_MT.ofW (cc := cX0_weight) (maxL := 4) (ret := (some .int)) (by decide) rfl ?_
  intro p e s m args below meth c s₁ B hml hout hv
  obtain ⟨rfl, hP, hK, hTH⟩ := hv
  have hx := B.exec
  have hb := B.bytes
  have hr := B.returns
  have hts0 := atoms_spec (ws := (sd_ws yX0_weight cX0_weight 4 (some .int))) B.pre
  have hts : ∀ w ∈ sd_WS, w.before _ s = true := fun w h => hts0 w (List.mem_cons_of_mem _ h)
  have hown : s.vm.findClass RX0 = some m.cls := findClass_of_methodNamed B.named
  have hlocks := B.notSynchronized
  have hl := lv_entry ([.ref h0, .int x, .int z]) (n := 4) (Nat.le_of_ble_eq_true rfl)
  rw [lg_entry_eq]
  generalize (lg_sl ([.ref h0, .int x, .int z]) ++ List.replicate (4 - (lg_sl ([.ref h0, .int x, .int z])).length) Slot.unset).toArray = ls at hl ⊢
  have hl : lv_has ls 4 [(0, .ref h0), (1, .int x), (2, .int z)] := hl
  have hP : va_P (dC, dI) vwCl [(h0, .inr (0, [.ref a0, .int (nI n), .int (nI (sd_sum w n))])), (a0, .inl (cA, 8, .inl (fun i => nI (w i))))] s.heap := hP
  refine lv_aload_n hx hb dX0_weight_0 rfl (lv_at hl 0 rfl) ?_
  refine lv_iload_n hx hb dX0_weight_1 rfl (lv_at hl 1 rfl) ?_
  exact sd_thrV (As := [.int x]) (rest := []) ⟨hx, hb, hml, hown, hts0⟩ (t_checkParty l hl9 dC dI cA h0 a0 n w x hbad) (cwV 1 hts0 (sd_gV k_methodLink_X0_27 k_instanceMethod_X0_checkParty k_sel_X0_checkParty k_init_ShareDesk k_code_X0_checkParty) rfl rfl rfl (by decide +kernel) ⟨Nat.le_of_ble_eq_true rfl, Nat.le_of_ble_eq_true rfl⟩) (sd_preVt hK hP hTH (q0 := 0) (ci := 0) rfl rfl) rfl hl.1 rfl (lv_room (Nat.le_of_ble_eq_true rfl)) dX0_weight_2 ⟨Nat.le_refl _, Nat.le_refl _⟩ (sd_out hout hlocks)
set_option maxHeartbeats 4000000 in
set_option maxRecDepth 100000 in
theorem t_weight2 (l : Launch) (hl9 : l.stackTraces = false) (dC : Nat → ClassId) (dI : Nat → Nat → Nat) (cA : ClassId) (h0 a0 n : Nat) (w : Nat → Nat) (ok : sd_ok n w) (q : Nat) (hq : q < n) (z : Int32) (hbad : z < 0 ∨ nI 100000 < z) : sd_MT l yX0_weight (sd_ws yX0_weight cX0_weight 4 (some .int)) (sd_rm 7 1 6) (sd_Pt (dC, dI) vwCl [(cA, .int)] (sd_O cA h0 a0 n w) [.ref h0, .int (nI q), .int z]) sd_IA := by
  refine sd_MT.ofW (cc := cX0_weight) (maxL := 4) (ret := (some .int)) (by decide) rfl ?_
  intro p e s m args below meth c s₁ B hml hout hv
  obtain ⟨rfl, hP, hK, hTH⟩ := hv
  have hx := B.exec
  have hb := B.bytes
  have hr := B.returns
  have hts0 := atoms_spec (ws := (sd_ws yX0_weight cX0_weight 4 (some .int))) B.pre
  have hts : ∀ w ∈ sd_WS, w.before _ s = true := fun w h => hts0 w (List.mem_cons_of_mem _ h)
  have hown : s.vm.findClass RX0 = some m.cls := findClass_of_methodNamed B.named
  have hlocks := B.notSynchronized
  have hl := lv_entry ([.ref h0, .int (nI q), .int z]) (n := 4) (Nat.le_of_ble_eq_true rfl)
  rw [lg_entry_eq]
  generalize (lg_sl ([.ref h0, .int (nI q), .int z]) ++ List.replicate (4 - (lg_sl ([.ref h0, .int (nI q), .int z])).length) Slot.unset).toArray = ls at hl ⊢
  have hl : lv_has ls 4 [(0, .ref h0), (1, .int (nI q)), (2, .int z)] := hl
  have hP : va_P (dC, dI) vwCl [(h0, .inr (0, [.ref a0, .int (nI n), .int (nI (sd_sum w n))])), (a0, .inl (cA, 8, .inl (fun i => nI (w i))))] s.heap := hP
  refine lv_aload_n hx hb dX0_weight_0 rfl (lv_at hl 0 rfl) ?_
  refine lv_iload_n hx hb dX0_weight_1 rfl (lv_at hl 1 rfl) ?_
  refine sd_callv (va_runV (As := [.int (nI q)]) (rest := []) ⟨hx, hb, hml, hown, hts0⟩ (c_checkParty l dC dI cA h0 a0 n w ok q hq) (cwV 1 hts0 (sd_gV k_methodLink_X0_27 k_instanceMethod_X0_checkParty k_sel_X0_checkParty k_init_ShareDesk k_code_X0_checkParty) rfl rfl rfl (by decide +kernel) ⟨Nat.le_of_ble_eq_true rfl, Nat.le_of_ble_eq_true rfl⟩) (sd_preV hK hP (q0 := 0) (ci := 0) rfl rfl) rfl rfl hl.1 rfl (lv_room (Nat.le_of_ble_eq_true rfl)) dX0_weight_2 ⟨Nat.zero_le _, Nat.zero_le _⟩) ?_
  refine lv_iload_n hx hb dX0_weight_5 rfl (lv_at hl 2 rfl) ?_
  refine lv_if_lt (tgt := 15) hx hb dX0_weight_6 (by decide) (fun h => ?_) (fun h => ?_)
  · obtain ⟨qs, hZ⟩ := hTH.2.2.2.2.2.2.2.2 (32, "the weight is not 0..100000") (by decide)
    exact sd_throw hx hb hl9 hlocks hout (own := RX0) (cls := sd_IA) (names := sd_up2) (tx := "the weight is not 0..100000") hown (by decide) (by decide) (sd_own sd_ownIA hts hTH) (hts (.classLink RX0 20 sd_IA) k_classLink_X0_20) (hts (.initialized sd_IA) k_init_java_lang_IllegalArgumentException) hZ (hl.1.trans hml.symm) dX0_weight_15 dX0_weight_18 dX0_weight_19 dX0_weight_21 dX0_weight_24 (by decide) (by decide) (by decide) (by decide)
  · have hn := h
    refine lv_iload_n hx hb dX0_weight_9 rfl (lv_at hl 2 rfl) ?_
    refine lv_ldc (v := 100000) hx hb hown (hts (.constant RX0 31 100000) k_constant_X0_31) dX0_weight_10 ?_
    refine sd_topi (y := nI 100000) (by decide +kernel) ?_
    refine lv_icmp_le (tgt := 25) hx hb dX0_weight_12 (by decide) (fun h => ?_) (fun h => ?_)
    · exact absurd hbad (fun z => z.elim hn (fun z2 => absurd h (Int32.not_le.mpr z2)))
    · obtain ⟨qs, hZ⟩ := hTH.2.2.2.2.2.2.2.2 (32, "the weight is not 0..100000") (by decide)
      exact sd_throw hx hb hl9 hlocks hout (own := RX0) (cls := sd_IA) (names := sd_up2) (tx := "the weight is not 0..100000") hown (by decide) (by decide) (sd_own sd_ownIA hts hTH) (hts (.classLink RX0 20 sd_IA) k_classLink_X0_20) (hts (.initialized sd_IA) k_init_java_lang_IllegalArgumentException) hZ (hl.1.trans hml.symm) dX0_weight_15 dX0_weight_18 dX0_weight_19 dX0_weight_21 dX0_weight_24 (by decide) (by decide) (by decide) (by decide)
set_option maxHeartbeats 4000000 in
set_option maxRecDepth 100000 in
theorem t_share1 (l : Launch) (hl9 : l.stackTraces = false) (dC : Nat → ClassId) (dI : Nat → Nat → Nat) (cA : ClassId) (h0 a0 n : Nat) (w : Nat → Nat) (x z1 z2 : Int32) (hbad : x < 0 ∨ nI 2 < x) : sd_MT l yX0_share (sd_ws yX0_share cX0_share 4 (some .int)) (sd_rm 7 1 6) (sd_Pt (dC, dI) vwCl [(cA, .int)] (sd_O cA h0 a0 n w) [.ref h0, .int x, .int z1, .int z2]) sd_IA := by
  refine sd_MT.ofW (cc := cX0_share) (maxL := 4) (ret := (some .int)) (by decide) rfl ?_
  intro p e s m args below meth c s₁ B hml hout hv
  obtain ⟨rfl, hP, hK, hTH⟩ := hv
  have hx := B.exec
  have hb := B.bytes
  have hr := B.returns
  have hts0 := atoms_spec (ws := (sd_ws yX0_share cX0_share 4 (some .int))) B.pre
  have hts : ∀ w ∈ sd_WS, w.before _ s = true := fun w h => hts0 w (List.mem_cons_of_mem _ h)
  have hown : s.vm.findClass RX0 = some m.cls := findClass_of_methodNamed B.named
  have hlocks := B.notSynchronized
  have hl := lv_entry ([.ref h0, .int x, .int z1, .int z2]) (n := 4) (Nat.le_of_ble_eq_true rfl)
  rw [lg_entry_eq]
  generalize (lg_sl ([.ref h0, .int x, .int z1, .int z2]) ++ List.replicate (4 - (lg_sl ([.ref h0, .int x, .int z1, .int z2])).length) Slot.unset).toArray = ls at hl ⊢
  have hl : lv_has ls 4 [(0, .ref h0), (1, .int x), (2, .int z1), (3, .int z2)] := hl
  have hP : va_P (dC, dI) vwCl [(h0, .inr (0, [.ref a0, .int (nI n), .int (nI (sd_sum w n))])), (a0, .inl (cA, 8, .inl (fun i => nI (w i))))] s.heap := hP
  refine lv_iload_n hx hb dX0_share_0 rfl (lv_at hl 1 rfl) ?_
  exact sd_thrS (As := [.int x]) (rest := []) ⟨hx, hb, hml, hown, hts0⟩ (t_checkWay l hl9 dC dI x hbad) (cwS 1 hts0 (sd_gS k_methodLink_X0_34 k_static_X0_checkWay k_init_ShareDesk k_code_X0_checkWay) rfl rfl rfl (by decide +kernel) ⟨Nat.le_of_ble_eq_true rfl, Nat.le_of_ble_eq_true rfl⟩) (sd_preSt (sd_K0 hK) (sd_nil _ _ _) hTH) rfl hl.1 rfl (lv_room (Nat.le_of_ble_eq_true rfl)) dX0_share_1 ⟨Nat.le_refl _, Nat.le_refl _⟩ (sd_out hout hlocks)
set_option maxHeartbeats 4000000 in
set_option maxRecDepth 100000 in
theorem t_share2 (l : Launch) (hl9 : l.stackTraces = false) (dC : Nat → ClassId) (dI : Nat → Nat → Nat) (cA : ClassId) (h0 a0 n : Nat) (w : Nat → Nat) (y : Nat) (hy : y ≤ 2) (x z2 : Int32) (hbad : x < 0 ∨ nI 10000 < x) : sd_MT l yX0_share (sd_ws yX0_share cX0_share 4 (some .int)) (sd_rm 7 1 6) (sd_Pt (dC, dI) vwCl [(cA, .int)] (sd_O cA h0 a0 n w) [.ref h0, .int (nI y), .int x, .int z2]) sd_IA := by
  refine sd_MT.ofW (cc := cX0_share) (maxL := 4) (ret := (some .int)) (by decide) rfl ?_
  intro p e s m args below meth c s₁ B hml hout hv
  obtain ⟨rfl, hP, hK, hTH⟩ := hv
  have hx := B.exec
  have hb := B.bytes
  have hr := B.returns
  have hts0 := atoms_spec (ws := (sd_ws yX0_share cX0_share 4 (some .int))) B.pre
  have hts : ∀ w ∈ sd_WS, w.before _ s = true := fun w h => hts0 w (List.mem_cons_of_mem _ h)
  have hown : s.vm.findClass RX0 = some m.cls := findClass_of_methodNamed B.named
  have hlocks := B.notSynchronized
  have hl := lv_entry ([.ref h0, .int (nI y), .int x, .int z2]) (n := 4) (Nat.le_of_ble_eq_true rfl)
  rw [lg_entry_eq]
  generalize (lg_sl ([.ref h0, .int (nI y), .int x, .int z2]) ++ List.replicate (4 - (lg_sl ([.ref h0, .int (nI y), .int x, .int z2])).length) Slot.unset).toArray = ls at hl ⊢
  have hl : lv_has ls 4 [(0, .ref h0), (1, .int (nI y)), (2, .int x), (3, .int z2)] := hl
  have hP : va_P (dC, dI) vwCl [(h0, .inr (0, [.ref a0, .int (nI n), .int (nI (sd_sum w n))])), (a0, .inl (cA, 8, .inl (fun i => nI (w i))))] s.heap := hP
  refine lv_iload_n hx hb dX0_share_0 rfl (lv_at hl 1 rfl) ?_
  refine sd_callv (va_runS (As := [.int (nI y)]) (rest := []) ⟨hx, hb, hml, hown, hts0⟩ (c_checkWay l dC dI y hy) (cwS 1 hts0 (sd_gS k_methodLink_X0_34 k_static_X0_checkWay k_init_ShareDesk k_code_X0_checkWay) rfl rfl rfl (by decide +kernel) ⟨Nat.le_of_ble_eq_true rfl, Nat.le_of_ble_eq_true rfl⟩) (sd_preS (sd_K0 hK) (sd_nil _ _ _)) rfl rfl hl.1 rfl (lv_room (Nat.le_of_ble_eq_true rfl)) dX0_share_1 ⟨Nat.zero_le _, Nat.zero_le _⟩) ?_
  refine lv_iload_n hx hb dX0_share_4 rfl (lv_at hl 2 rfl) ?_
  refine lv_sipush (v := nI 10000) hx hb dX0_share_5 (by decide +kernel) ?_
  exact sd_thrS (As := [.int x, .int (nI 10000)]) (rest := []) ⟨hx, hb, hml, hown, hts0⟩ (t_checkUnits l hl9 dC dI x 10000 hbad) (cwS 2 hts0 (sd_gS k_methodLink_X0_37 k_static_X0_checkUnits k_init_ShareDesk k_code_X0_checkUnits) rfl rfl rfl (by decide +kernel) ⟨Nat.le_of_ble_eq_true rfl, Nat.le_of_ble_eq_true rfl⟩) (sd_preSt (sd_K0 hK) (sd_nil _ _ _) hTH) rfl hl.1 rfl (lv_room (Nat.le_of_ble_eq_true rfl)) dX0_share_8 ⟨Nat.le_refl _, Nat.le_refl _⟩ (sd_out hout hlocks)
set_option maxHeartbeats 4000000 in
set_option maxRecDepth 100000 in
theorem t_share3 (l : Launch) (hl9 : l.stackTraces = false) (dC : Nat → ClassId) (dI : Nat → Nat → Nat) (cA : ClassId) (h0 a0 n : Nat) (w : Nat → Nat) (y u : Nat) (hy : y ≤ 2) (hu : u ≤ 10000) (x : Int32) (hbad : x < 0 ∨ nI n ≤ x) : sd_MT l yX0_share (sd_ws yX0_share cX0_share 4 (some .int)) (sd_rm 7 1 6) (sd_Pt (dC, dI) vwCl [(cA, .int)] (sd_O cA h0 a0 n w) [.ref h0, .int (nI y), .int (nI u), .int x]) sd_IA := by
  refine sd_MT.ofW (cc := cX0_share) (maxL := 4) (ret := (some .int)) (by decide) rfl ?_
  intro p e s m args below meth c s₁ B hml hout hv
  obtain ⟨rfl, hP, hK, hTH⟩ := hv
  have hx := B.exec
  have hb := B.bytes
  have hr := B.returns
  have hts0 := atoms_spec (ws := (sd_ws yX0_share cX0_share 4 (some .int))) B.pre
  have hts : ∀ w ∈ sd_WS, w.before _ s = true := fun w h => hts0 w (List.mem_cons_of_mem _ h)
  have hown : s.vm.findClass RX0 = some m.cls := findClass_of_methodNamed B.named
  have hlocks := B.notSynchronized
  have hl := lv_entry ([.ref h0, .int (nI y), .int (nI u), .int x]) (n := 4) (Nat.le_of_ble_eq_true rfl)
  rw [lg_entry_eq]
  generalize (lg_sl ([.ref h0, .int (nI y), .int (nI u), .int x]) ++ List.replicate (4 - (lg_sl ([.ref h0, .int (nI y), .int (nI u), .int x])).length) Slot.unset).toArray = ls at hl ⊢
  have hl : lv_has ls 4 [(0, .ref h0), (1, .int (nI y)), (2, .int (nI u)), (3, .int x)] := hl
  have hP : va_P (dC, dI) vwCl [(h0, .inr (0, [.ref a0, .int (nI n), .int (nI (sd_sum w n))])), (a0, .inl (cA, 8, .inl (fun i => nI (w i))))] s.heap := hP
  refine lv_iload_n hx hb dX0_share_0 rfl (lv_at hl 1 rfl) ?_
  refine sd_callv (va_runS (As := [.int (nI y)]) (rest := []) ⟨hx, hb, hml, hown, hts0⟩ (c_checkWay l dC dI y hy) (cwS 1 hts0 (sd_gS k_methodLink_X0_34 k_static_X0_checkWay k_init_ShareDesk k_code_X0_checkWay) rfl rfl rfl (by decide +kernel) ⟨Nat.le_of_ble_eq_true rfl, Nat.le_of_ble_eq_true rfl⟩) (sd_preS (sd_K0 hK) (sd_nil _ _ _)) rfl rfl hl.1 rfl (lv_room (Nat.le_of_ble_eq_true rfl)) dX0_share_1 ⟨Nat.zero_le _, Nat.zero_le _⟩) ?_
  refine lv_iload_n hx hb dX0_share_4 rfl (lv_at hl 2 rfl) ?_
  refine lv_sipush (v := nI 10000) hx hb dX0_share_5 (by decide +kernel) ?_
  refine sd_callv (va_runS (As := [.int (nI u), .int (nI 10000)]) (rest := []) ⟨hx, hb, hml, hown, hts0⟩ (c_checkUnits l dC dI u 10000 hu (by omega)) (cwS 2 hts0 (sd_gS k_methodLink_X0_37 k_static_X0_checkUnits k_init_ShareDesk k_code_X0_checkUnits) rfl rfl rfl (by decide +kernel) ⟨Nat.le_of_ble_eq_true rfl, Nat.le_of_ble_eq_true rfl⟩) (sd_preS (sd_K0 hK) (sd_nil _ _ _)) rfl rfl hl.1 rfl (lv_room (Nat.le_of_ble_eq_true rfl)) dX0_share_8 ⟨Nat.zero_le _, Nat.zero_le _⟩) ?_
  refine lv_aload_n hx hb dX0_share_11 rfl (lv_at hl 0 rfl) ?_
  refine lv_iload_n hx hb dX0_share_12 rfl (lv_at hl 3 rfl) ?_
  exact sd_thrV (As := [.int x]) (rest := []) ⟨hx, hb, hml, hown, hts0⟩ (t_checkParty l hl9 dC dI cA h0 a0 n w x hbad) (cwV 1 hts0 (sd_gV k_methodLink_X0_27 k_instanceMethod_X0_checkParty k_sel_X0_checkParty k_init_ShareDesk k_code_X0_checkParty) rfl rfl rfl (by decide +kernel) ⟨Nat.le_of_ble_eq_true rfl, Nat.le_of_ble_eq_true rfl⟩) (sd_preVt hK hP hTH (q0 := 0) (ci := 0) rfl rfl) rfl hl.1 rfl (lv_room (Nat.le_of_ble_eq_true rfl)) dX0_share_13 ⟨Nat.le_refl _, Nat.le_refl _⟩ (sd_out hout hlocks)
set_option maxHeartbeats 4000000 in
set_option maxRecDepth 100000 in
theorem t_share4 (l : Launch) (hl9 : l.stackTraces = false) (dC : Nat → ClassId) (dI : Nat → Nat → Nat) (cA : ClassId) (h0 a0 n : Nat) (w : Nat → Nat) (ok : sd_ok n w) (y u q : Nat) (hy : y ≤ 2) (hu : u ≤ 10000) (hq : q < n) (hz : sd_sum w n = 0) : sd_MT l yX0_share (sd_ws yX0_share cX0_share 4 (some .int)) (sd_rm 7 1 6) (sd_Pt (dC, dI) vwCl [(cA, .int)] (sd_O cA h0 a0 n w) [.ref h0, .int (nI y), .int (nI u), .int (nI q)]) sd_IS := by
  refine sd_MT.ofW (cc := cX0_share) (maxL := 4) (ret := (some .int)) (by decide) rfl ?_
  intro p e s m args below meth c s₁ B hml hout hv
  obtain ⟨rfl, hP, hK, hTH⟩ := hv
  have hx := B.exec
  have hb := B.bytes
  have hr := B.returns
  have hts0 := atoms_spec (ws := (sd_ws yX0_share cX0_share 4 (some .int))) B.pre
  have hts : ∀ w ∈ sd_WS, w.before _ s = true := fun w h => hts0 w (List.mem_cons_of_mem _ h)
  have hown : s.vm.findClass RX0 = some m.cls := findClass_of_methodNamed B.named
  have hlocks := B.notSynchronized
  have hl := lv_entry ([.ref h0, .int (nI y), .int (nI u), .int (nI q)]) (n := 4) (Nat.le_of_ble_eq_true rfl)
  rw [lg_entry_eq]
  generalize (lg_sl ([.ref h0, .int (nI y), .int (nI u), .int (nI q)]) ++ List.replicate (4 - (lg_sl ([.ref h0, .int (nI y), .int (nI u), .int (nI q)])).length) Slot.unset).toArray = ls at hl ⊢
  have hl : lv_has ls 4 [(0, .ref h0), (1, .int (nI y)), (2, .int (nI u)), (3, .int (nI q))] := hl
  have hP : va_P (dC, dI) vwCl [(h0, .inr (0, [.ref a0, .int (nI n), .int (nI (sd_sum w n))])), (a0, .inl (cA, 8, .inl (fun i => nI (w i))))] s.heap := hP
  refine lv_iload_n hx hb dX0_share_0 rfl (lv_at hl 1 rfl) ?_
  refine sd_callv (va_runS (As := [.int (nI y)]) (rest := []) ⟨hx, hb, hml, hown, hts0⟩ (c_checkWay l dC dI y hy) (cwS 1 hts0 (sd_gS k_methodLink_X0_34 k_static_X0_checkWay k_init_ShareDesk k_code_X0_checkWay) rfl rfl rfl (by decide +kernel) ⟨Nat.le_of_ble_eq_true rfl, Nat.le_of_ble_eq_true rfl⟩) (sd_preS (sd_K0 hK) (sd_nil _ _ _)) rfl rfl hl.1 rfl (lv_room (Nat.le_of_ble_eq_true rfl)) dX0_share_1 ⟨Nat.zero_le _, Nat.zero_le _⟩) ?_
  refine lv_iload_n hx hb dX0_share_4 rfl (lv_at hl 2 rfl) ?_
  refine lv_sipush (v := nI 10000) hx hb dX0_share_5 (by decide +kernel) ?_
  refine sd_callv (va_runS (As := [.int (nI u), .int (nI 10000)]) (rest := []) ⟨hx, hb, hml, hown, hts0⟩ (c_checkUnits l dC dI u 10000 hu (by omega)) (cwS 2 hts0 (sd_gS k_methodLink_X0_37 k_static_X0_checkUnits k_init_ShareDesk k_code_X0_checkUnits) rfl rfl rfl (by decide +kernel) ⟨Nat.le_of_ble_eq_true rfl, Nat.le_of_ble_eq_true rfl⟩) (sd_preS (sd_K0 hK) (sd_nil _ _ _)) rfl rfl hl.1 rfl (lv_room (Nat.le_of_ble_eq_true rfl)) dX0_share_8 ⟨Nat.zero_le _, Nat.zero_le _⟩) ?_
  refine lv_aload_n hx hb dX0_share_11 rfl (lv_at hl 0 rfl) ?_
  refine lv_iload_n hx hb dX0_share_12 rfl (lv_at hl 3 rfl) ?_
  refine sd_callv (va_runV (As := [.int (nI q)]) (rest := []) ⟨hx, hb, hml, hown, hts0⟩ (c_checkParty l dC dI cA h0 a0 n w ok q hq) (cwV 1 hts0 (sd_gV k_methodLink_X0_27 k_instanceMethod_X0_checkParty k_sel_X0_checkParty k_init_ShareDesk k_code_X0_checkParty) rfl rfl rfl (by decide +kernel) ⟨Nat.le_of_ble_eq_true rfl, Nat.le_of_ble_eq_true rfl⟩) (sd_preV hK hP (q0 := 0) (ci := 0) rfl rfl) rfl rfl hl.1 rfl (lv_room (Nat.le_of_ble_eq_true rfl)) dX0_share_13 ⟨Nat.zero_le _, Nat.zero_le _⟩) ?_
  refine lv_aload_n hx hb dX0_share_16 rfl (lv_at hl 0 rfl) ?_
  exact sd_thrV (As := []) (rest := []) ⟨hx, hb, hml, hown, hts0⟩ (t_checkTotal l hl9 dC dI cA h0 a0 n w hz) (cwV 0 hts0 (sd_gV k_methodLink_X0_41 k_instanceMethod_X0_checkTotal k_sel_X0_checkTotal k_init_ShareDesk k_code_X0_checkTotal) rfl rfl rfl (by decide +kernel) ⟨Nat.le_of_ble_eq_true rfl, Nat.le_of_ble_eq_true rfl⟩) (sd_preVt hK hP hTH (q0 := 0) (ci := 0) rfl rfl) rfl hl.1 rfl (lv_room (Nat.le_of_ble_eq_true rfl)) dX0_share_17 ⟨Nat.le_refl _, Nat.le_refl _⟩ (sd_out hout hlocks)
set_option maxHeartbeats 4000000 in
set_option maxRecDepth 100000 in
theorem t_over1 (l : Launch) (hl9 : l.stackTraces = false) (dC : Nat → ClassId) (dI : Nat → Nat → Nat) (cA : ClassId) (h0 a0 n : Nat) (w : Nat → Nat) (x z1 z2 : Int32) (hbad : x < 0 ∨ nI 2 < x) : sd_MT l yX0_over (sd_ws yX0_over cX0_over 4 (some .long)) (sd_rm 7 1 6) (sd_Pt (dC, dI) vwCl [(cA, .int)] (sd_O cA h0 a0 n w) [.ref h0, .int x, .int z1, .int z2]) sd_IA := by
  refine sd_MT.ofW (cc := cX0_over) (maxL := 4) (ret := (some .long)) (by decide) rfl ?_
  intro p e s m args below meth c s₁ B hml hout hv
  obtain ⟨rfl, hP, hK, hTH⟩ := hv
  have hx := B.exec
  have hb := B.bytes
  have hr := B.returns
  have hts0 := atoms_spec (ws := (sd_ws yX0_over cX0_over 4 (some .long))) B.pre
  have hts : ∀ w ∈ sd_WS, w.before _ s = true := fun w h => hts0 w (List.mem_cons_of_mem _ h)
  have hown : s.vm.findClass RX0 = some m.cls := findClass_of_methodNamed B.named
  have hlocks := B.notSynchronized
  have hl := lv_entry ([.ref h0, .int x, .int z1, .int z2]) (n := 4) (Nat.le_of_ble_eq_true rfl)
  rw [lg_entry_eq]
  generalize (lg_sl ([.ref h0, .int x, .int z1, .int z2]) ++ List.replicate (4 - (lg_sl ([.ref h0, .int x, .int z1, .int z2])).length) Slot.unset).toArray = ls at hl ⊢
  have hl : lv_has ls 4 [(0, .ref h0), (1, .int x), (2, .int z1), (3, .int z2)] := hl
  have hP : va_P (dC, dI) vwCl [(h0, .inr (0, [.ref a0, .int (nI n), .int (nI (sd_sum w n))])), (a0, .inl (cA, 8, .inl (fun i => nI (w i))))] s.heap := hP
  refine lv_iload_n hx hb dX0_over_0 rfl (lv_at hl 1 rfl) ?_
  exact sd_thrS (As := [.int x]) (rest := []) ⟨hx, hb, hml, hown, hts0⟩ (t_checkWay l hl9 dC dI x hbad) (cwS 1 hts0 (sd_gS k_methodLink_X0_34 k_static_X0_checkWay k_init_ShareDesk k_code_X0_checkWay) rfl rfl rfl (by decide +kernel) ⟨Nat.le_of_ble_eq_true rfl, Nat.le_of_ble_eq_true rfl⟩) (sd_preSt (sd_K0 hK) (sd_nil _ _ _) hTH) rfl hl.1 rfl (lv_room (Nat.le_of_ble_eq_true rfl)) dX0_over_1 ⟨Nat.le_refl _, Nat.le_refl _⟩ (sd_out hout hlocks)
set_option maxHeartbeats 4000000 in
set_option maxRecDepth 100000 in
theorem t_over2 (l : Launch) (hl9 : l.stackTraces = false) (dC : Nat → ClassId) (dI : Nat → Nat → Nat) (cA : ClassId) (h0 a0 n : Nat) (w : Nat → Nat) (y : Nat) (hy : y ≤ 2) (x z2 : Int32) (hbad : x < 0 ∨ nI 10000 < x) : sd_MT l yX0_over (sd_ws yX0_over cX0_over 4 (some .long)) (sd_rm 7 1 6) (sd_Pt (dC, dI) vwCl [(cA, .int)] (sd_O cA h0 a0 n w) [.ref h0, .int (nI y), .int x, .int z2]) sd_IA := by
  refine sd_MT.ofW (cc := cX0_over) (maxL := 4) (ret := (some .long)) (by decide) rfl ?_
  intro p e s m args below meth c s₁ B hml hout hv
  obtain ⟨rfl, hP, hK, hTH⟩ := hv
  have hx := B.exec
  have hb := B.bytes
  have hr := B.returns
  have hts0 := atoms_spec (ws := (sd_ws yX0_over cX0_over 4 (some .long))) B.pre
  have hts : ∀ w ∈ sd_WS, w.before _ s = true := fun w h => hts0 w (List.mem_cons_of_mem _ h)
  have hown : s.vm.findClass RX0 = some m.cls := findClass_of_methodNamed B.named
  have hlocks := B.notSynchronized
  have hl := lv_entry ([.ref h0, .int (nI y), .int x, .int z2]) (n := 4) (Nat.le_of_ble_eq_true rfl)
  rw [lg_entry_eq]
  generalize (lg_sl ([.ref h0, .int (nI y), .int x, .int z2]) ++ List.replicate (4 - (lg_sl ([.ref h0, .int (nI y), .int x, .int z2])).length) Slot.unset).toArray = ls at hl ⊢
  have hl : lv_has ls 4 [(0, .ref h0), (1, .int (nI y)), (2, .int x), (3, .int z2)] := hl
  have hP : va_P (dC, dI) vwCl [(h0, .inr (0, [.ref a0, .int (nI n), .int (nI (sd_sum w n))])), (a0, .inl (cA, 8, .inl (fun i => nI (w i))))] s.heap := hP
  refine lv_iload_n hx hb dX0_over_0 rfl (lv_at hl 1 rfl) ?_
  refine sd_callv (va_runS (As := [.int (nI y)]) (rest := []) ⟨hx, hb, hml, hown, hts0⟩ (c_checkWay l dC dI y hy) (cwS 1 hts0 (sd_gS k_methodLink_X0_34 k_static_X0_checkWay k_init_ShareDesk k_code_X0_checkWay) rfl rfl rfl (by decide +kernel) ⟨Nat.le_of_ble_eq_true rfl, Nat.le_of_ble_eq_true rfl⟩) (sd_preS (sd_K0 hK) (sd_nil _ _ _)) rfl rfl hl.1 rfl (lv_room (Nat.le_of_ble_eq_true rfl)) dX0_over_1 ⟨Nat.zero_le _, Nat.zero_le _⟩) ?_
  refine lv_iload_n hx hb dX0_over_4 rfl (lv_at hl 2 rfl) ?_
  refine lv_sipush (v := nI 10000) hx hb dX0_over_5 (by decide +kernel) ?_
  exact sd_thrS (As := [.int x, .int (nI 10000)]) (rest := []) ⟨hx, hb, hml, hown, hts0⟩ (t_checkUnits l hl9 dC dI x 10000 hbad) (cwS 2 hts0 (sd_gS k_methodLink_X0_37 k_static_X0_checkUnits k_init_ShareDesk k_code_X0_checkUnits) rfl rfl rfl (by decide +kernel) ⟨Nat.le_of_ble_eq_true rfl, Nat.le_of_ble_eq_true rfl⟩) (sd_preSt (sd_K0 hK) (sd_nil _ _ _) hTH) rfl hl.1 rfl (lv_room (Nat.le_of_ble_eq_true rfl)) dX0_over_8 ⟨Nat.le_refl _, Nat.le_refl _⟩ (sd_out hout hlocks)
set_option maxHeartbeats 4000000 in
set_option maxRecDepth 100000 in
theorem t_over3 (l : Launch) (hl9 : l.stackTraces = false) (dC : Nat → ClassId) (dI : Nat → Nat → Nat) (cA : ClassId) (h0 a0 n : Nat) (w : Nat → Nat) (y u : Nat) (hy : y ≤ 2) (hu : u ≤ 10000) (x : Int32) (hbad : x < 0 ∨ nI n ≤ x) : sd_MT l yX0_over (sd_ws yX0_over cX0_over 4 (some .long)) (sd_rm 7 1 6) (sd_Pt (dC, dI) vwCl [(cA, .int)] (sd_O cA h0 a0 n w) [.ref h0, .int (nI y), .int (nI u), .int x]) sd_IA := by
  refine sd_MT.ofW (cc := cX0_over) (maxL := 4) (ret := (some .long)) (by decide) rfl ?_
  intro p e s m args below meth c s₁ B hml hout hv
  obtain ⟨rfl, hP, hK, hTH⟩ := hv
  have hx := B.exec
  have hb := B.bytes
  have hr := B.returns
  have hts0 := atoms_spec (ws := (sd_ws yX0_over cX0_over 4 (some .long))) B.pre
  have hts : ∀ w ∈ sd_WS, w.before _ s = true := fun w h => hts0 w (List.mem_cons_of_mem _ h)
  have hown : s.vm.findClass RX0 = some m.cls := findClass_of_methodNamed B.named
  have hlocks := B.notSynchronized
  have hl := lv_entry ([.ref h0, .int (nI y), .int (nI u), .int x]) (n := 4) (Nat.le_of_ble_eq_true rfl)
  rw [lg_entry_eq]
  generalize (lg_sl ([.ref h0, .int (nI y), .int (nI u), .int x]) ++ List.replicate (4 - (lg_sl ([.ref h0, .int (nI y), .int (nI u), .int x])).length) Slot.unset).toArray = ls at hl ⊢
  have hl : lv_has ls 4 [(0, .ref h0), (1, .int (nI y)), (2, .int (nI u)), (3, .int x)] := hl
  have hP : va_P (dC, dI) vwCl [(h0, .inr (0, [.ref a0, .int (nI n), .int (nI (sd_sum w n))])), (a0, .inl (cA, 8, .inl (fun i => nI (w i))))] s.heap := hP
  refine lv_iload_n hx hb dX0_over_0 rfl (lv_at hl 1 rfl) ?_
  refine sd_callv (va_runS (As := [.int (nI y)]) (rest := []) ⟨hx, hb, hml, hown, hts0⟩ (c_checkWay l dC dI y hy) (cwS 1 hts0 (sd_gS k_methodLink_X0_34 k_static_X0_checkWay k_init_ShareDesk k_code_X0_checkWay) rfl rfl rfl (by decide +kernel) ⟨Nat.le_of_ble_eq_true rfl, Nat.le_of_ble_eq_true rfl⟩) (sd_preS (sd_K0 hK) (sd_nil _ _ _)) rfl rfl hl.1 rfl (lv_room (Nat.le_of_ble_eq_true rfl)) dX0_over_1 ⟨Nat.zero_le _, Nat.zero_le _⟩) ?_
  refine lv_iload_n hx hb dX0_over_4 rfl (lv_at hl 2 rfl) ?_
  refine lv_sipush (v := nI 10000) hx hb dX0_over_5 (by decide +kernel) ?_
  refine sd_callv (va_runS (As := [.int (nI u), .int (nI 10000)]) (rest := []) ⟨hx, hb, hml, hown, hts0⟩ (c_checkUnits l dC dI u 10000 hu (by omega)) (cwS 2 hts0 (sd_gS k_methodLink_X0_37 k_static_X0_checkUnits k_init_ShareDesk k_code_X0_checkUnits) rfl rfl rfl (by decide +kernel) ⟨Nat.le_of_ble_eq_true rfl, Nat.le_of_ble_eq_true rfl⟩) (sd_preS (sd_K0 hK) (sd_nil _ _ _)) rfl rfl hl.1 rfl (lv_room (Nat.le_of_ble_eq_true rfl)) dX0_over_8 ⟨Nat.zero_le _, Nat.zero_le _⟩) ?_
  refine lv_aload_n hx hb dX0_over_11 rfl (lv_at hl 0 rfl) ?_
  refine lv_iload_n hx hb dX0_over_12 rfl (lv_at hl 3 rfl) ?_
  exact sd_thrV (As := [.int x]) (rest := []) ⟨hx, hb, hml, hown, hts0⟩ (t_checkParty l hl9 dC dI cA h0 a0 n w x hbad) (cwV 1 hts0 (sd_gV k_methodLink_X0_27 k_instanceMethod_X0_checkParty k_sel_X0_checkParty k_init_ShareDesk k_code_X0_checkParty) rfl rfl rfl (by decide +kernel) ⟨Nat.le_of_ble_eq_true rfl, Nat.le_of_ble_eq_true rfl⟩) (sd_preVt hK hP hTH (q0 := 0) (ci := 0) rfl rfl) rfl hl.1 rfl (lv_room (Nat.le_of_ble_eq_true rfl)) dX0_over_13 ⟨Nat.le_refl _, Nat.le_refl _⟩ (sd_out hout hlocks)
set_option maxHeartbeats 4000000 in
set_option maxRecDepth 100000 in
theorem t_over4 (l : Launch) (hl9 : l.stackTraces = false) (dC : Nat → ClassId) (dI : Nat → Nat → Nat) (cA : ClassId) (h0 a0 n : Nat) (w : Nat → Nat) (ok : sd_ok n w) (y u q : Nat) (hy : y ≤ 2) (hu : u ≤ 10000) (hq : q < n) (hz : sd_sum w n = 0) : sd_MT l yX0_over (sd_ws yX0_over cX0_over 4 (some .long)) (sd_rm 7 1 6) (sd_Pt (dC, dI) vwCl [(cA, .int)] (sd_O cA h0 a0 n w) [.ref h0, .int (nI y), .int (nI u), .int (nI q)]) sd_IS := by
  refine sd_MT.ofW (cc := cX0_over) (maxL := 4) (ret := (some .long)) (by decide) rfl ?_
  intro p e s m args below meth c s₁ B hml hout hv
  obtain ⟨rfl, hP, hK, hTH⟩ := hv
  have hx := B.exec
  have hb := B.bytes
  have hr := B.returns
  have hts0 := atoms_spec (ws := (sd_ws yX0_over cX0_over 4 (some .long))) B.pre
  have hts : ∀ w ∈ sd_WS, w.before _ s = true := fun w h => hts0 w (List.mem_cons_of_mem _ h)
  have hown : s.vm.findClass RX0 = some m.cls := findClass_of_methodNamed B.named
  have hlocks := B.notSynchronized
  have hl := lv_entry ([.ref h0, .int (nI y), .int (nI u), .int (nI q)]) (n := 4) (Nat.le_of_ble_eq_true rfl)
  rw [lg_entry_eq]
  generalize (lg_sl ([.ref h0, .int (nI y), .int (nI u), .int (nI q)]) ++ List.replicate (4 - (lg_sl ([.ref h0, .int (nI y), .int (nI u), .int (nI q)])).length) Slot.unset).toArray = ls at hl ⊢
  have hl : lv_has ls 4 [(0, .ref h0), (1, .int (nI y)), (2, .int (nI u)), (3, .int (nI q))] := hl
  have hP : va_P (dC, dI) vwCl [(h0, .inr (0, [.ref a0, .int (nI n), .int (nI (sd_sum w n))])), (a0, .inl (cA, 8, .inl (fun i => nI (w i))))] s.heap := hP
  refine lv_iload_n hx hb dX0_over_0 rfl (lv_at hl 1 rfl) ?_
  refine sd_callv (va_runS (As := [.int (nI y)]) (rest := []) ⟨hx, hb, hml, hown, hts0⟩ (c_checkWay l dC dI y hy) (cwS 1 hts0 (sd_gS k_methodLink_X0_34 k_static_X0_checkWay k_init_ShareDesk k_code_X0_checkWay) rfl rfl rfl (by decide +kernel) ⟨Nat.le_of_ble_eq_true rfl, Nat.le_of_ble_eq_true rfl⟩) (sd_preS (sd_K0 hK) (sd_nil _ _ _)) rfl rfl hl.1 rfl (lv_room (Nat.le_of_ble_eq_true rfl)) dX0_over_1 ⟨Nat.zero_le _, Nat.zero_le _⟩) ?_
  refine lv_iload_n hx hb dX0_over_4 rfl (lv_at hl 2 rfl) ?_
  refine lv_sipush (v := nI 10000) hx hb dX0_over_5 (by decide +kernel) ?_
  refine sd_callv (va_runS (As := [.int (nI u), .int (nI 10000)]) (rest := []) ⟨hx, hb, hml, hown, hts0⟩ (c_checkUnits l dC dI u 10000 hu (by omega)) (cwS 2 hts0 (sd_gS k_methodLink_X0_37 k_static_X0_checkUnits k_init_ShareDesk k_code_X0_checkUnits) rfl rfl rfl (by decide +kernel) ⟨Nat.le_of_ble_eq_true rfl, Nat.le_of_ble_eq_true rfl⟩) (sd_preS (sd_K0 hK) (sd_nil _ _ _)) rfl rfl hl.1 rfl (lv_room (Nat.le_of_ble_eq_true rfl)) dX0_over_8 ⟨Nat.zero_le _, Nat.zero_le _⟩) ?_
  refine lv_aload_n hx hb dX0_over_11 rfl (lv_at hl 0 rfl) ?_
  refine lv_iload_n hx hb dX0_over_12 rfl (lv_at hl 3 rfl) ?_
  refine sd_callv (va_runV (As := [.int (nI q)]) (rest := []) ⟨hx, hb, hml, hown, hts0⟩ (c_checkParty l dC dI cA h0 a0 n w ok q hq) (cwV 1 hts0 (sd_gV k_methodLink_X0_27 k_instanceMethod_X0_checkParty k_sel_X0_checkParty k_init_ShareDesk k_code_X0_checkParty) rfl rfl rfl (by decide +kernel) ⟨Nat.le_of_ble_eq_true rfl, Nat.le_of_ble_eq_true rfl⟩) (sd_preV hK hP (q0 := 0) (ci := 0) rfl rfl) rfl rfl hl.1 rfl (lv_room (Nat.le_of_ble_eq_true rfl)) dX0_over_13 ⟨Nat.zero_le _, Nat.zero_le _⟩) ?_
  refine lv_aload_n hx hb dX0_over_16 rfl (lv_at hl 0 rfl) ?_
  exact sd_thrV (As := []) (rest := []) ⟨hx, hb, hml, hown, hts0⟩ (t_checkTotal l hl9 dC dI cA h0 a0 n w hz) (cwV 0 hts0 (sd_gV k_methodLink_X0_41 k_instanceMethod_X0_checkTotal k_sel_X0_checkTotal k_init_ShareDesk k_code_X0_checkTotal) rfl rfl rfl (by decide +kernel) ⟨Nat.le_of_ble_eq_true rfl, Nat.le_of_ble_eq_true rfl⟩) (sd_preVt hK hP hTH (q0 := 0) (ci := 0) rfl rfl) rfl hl.1 rfl (lv_room (Nat.le_of_ble_eq_true rfl)) dX0_over_17 ⟨Nat.le_refl _, Nat.le_refl _⟩ (sd_out hout hlocks)
set_option maxHeartbeats 4000000 in
set_option maxRecDepth 100000 in
theorem t_next1 (l : Launch) (hl9 : l.stackTraces = false) (dC : Nat → ClassId) (dI : Nat → Nat → Nat) (cA : ClassId) (h0 a0 n : Nat) (w : Nat → Nat) (x z1 : Int32) (hbad : x < 0 ∨ nI 2 < x) : sd_MT l yX0_next (sd_ws yX0_next cX0_next 5 (some .int)) (sd_rm 7 1 6) (sd_Pt (dC, dI) vwCl [(cA, .int)] (sd_O cA h0 a0 n w) [.ref h0, .int x, .int z1]) sd_IA := by
  refine sd_MT.ofW (cc := cX0_next) (maxL := 5) (ret := (some .int)) (by decide) rfl ?_
  intro p e s m args below meth c s₁ B hml hout hv
  obtain ⟨rfl, hP, hK, hTH⟩ := hv
  have hx := B.exec
  have hb := B.bytes
  have hr := B.returns
  have hts0 := atoms_spec (ws := (sd_ws yX0_next cX0_next 5 (some .int))) B.pre
  have hts : ∀ w ∈ sd_WS, w.before _ s = true := fun w h => hts0 w (List.mem_cons_of_mem _ h)
  have hown : s.vm.findClass RX0 = some m.cls := findClass_of_methodNamed B.named
  have hlocks := B.notSynchronized
  have hl := lv_entry ([.ref h0, .int x, .int z1]) (n := 5) (Nat.le_of_ble_eq_true rfl)
  rw [lg_entry_eq]
  generalize (lg_sl ([.ref h0, .int x, .int z1]) ++ List.replicate (5 - (lg_sl ([.ref h0, .int x, .int z1])).length) Slot.unset).toArray = ls at hl ⊢
  have hl : lv_has ls 5 [(0, .ref h0), (1, .int x), (2, .int z1)] := hl
  have hP : va_P (dC, dI) vwCl [(h0, .inr (0, [.ref a0, .int (nI n), .int (nI (sd_sum w n))])), (a0, .inl (cA, 8, .inl (fun i => nI (w i))))] s.heap := hP
  refine lv_iload_n hx hb dX0_next_0 rfl (lv_at hl 1 rfl) ?_
  exact sd_thrS (As := [.int x]) (rest := []) ⟨hx, hb, hml, hown, hts0⟩ (t_checkWay l hl9 dC dI x hbad) (cwS 1 hts0 (sd_gS k_methodLink_X0_34 k_static_X0_checkWay k_init_ShareDesk k_code_X0_checkWay) rfl rfl rfl (by decide +kernel) ⟨Nat.le_of_ble_eq_true rfl, Nat.le_of_ble_eq_true rfl⟩) (sd_preSt (sd_K0 hK) (sd_nil _ _ _) hTH) rfl hl.1 rfl (lv_room (Nat.le_of_ble_eq_true rfl)) dX0_next_1 ⟨Nat.le_refl _, Nat.le_refl _⟩ (sd_out hout hlocks)
set_option maxHeartbeats 4000000 in
set_option maxRecDepth 100000 in
theorem t_next2 (l : Launch) (hl9 : l.stackTraces = false) (dC : Nat → ClassId) (dI : Nat → Nat → Nat) (cA : ClassId) (h0 a0 n : Nat) (w : Nat → Nat) (y : Nat) (hy : y ≤ 2) (x : Int32) (hbad : x < 0 ∨ nI 9999 < x) : sd_MT l yX0_next (sd_ws yX0_next cX0_next 5 (some .int)) (sd_rm 7 1 6) (sd_Pt (dC, dI) vwCl [(cA, .int)] (sd_O cA h0 a0 n w) [.ref h0, .int (nI y), .int x]) sd_IA := by
  refine sd_MT.ofW (cc := cX0_next) (maxL := 5) (ret := (some .int)) (by decide) rfl ?_
  intro p e s m args below meth c s₁ B hml hout hv
  obtain ⟨rfl, hP, hK, hTH⟩ := hv
  have hx := B.exec
  have hb := B.bytes
  have hr := B.returns
  have hts0 := atoms_spec (ws := (sd_ws yX0_next cX0_next 5 (some .int))) B.pre
  have hts : ∀ w ∈ sd_WS, w.before _ s = true := fun w h => hts0 w (List.mem_cons_of_mem _ h)
  have hown : s.vm.findClass RX0 = some m.cls := findClass_of_methodNamed B.named
  have hlocks := B.notSynchronized
  have hl := lv_entry ([.ref h0, .int (nI y), .int x]) (n := 5) (Nat.le_of_ble_eq_true rfl)
  rw [lg_entry_eq]
  generalize (lg_sl ([.ref h0, .int (nI y), .int x]) ++ List.replicate (5 - (lg_sl ([.ref h0, .int (nI y), .int x])).length) Slot.unset).toArray = ls at hl ⊢
  have hl : lv_has ls 5 [(0, .ref h0), (1, .int (nI y)), (2, .int x)] := hl
  have hP : va_P (dC, dI) vwCl [(h0, .inr (0, [.ref a0, .int (nI n), .int (nI (sd_sum w n))])), (a0, .inl (cA, 8, .inl (fun i => nI (w i))))] s.heap := hP
  refine lv_iload_n hx hb dX0_next_0 rfl (lv_at hl 1 rfl) ?_
  refine sd_callv (va_runS (As := [.int (nI y)]) (rest := []) ⟨hx, hb, hml, hown, hts0⟩ (c_checkWay l dC dI y hy) (cwS 1 hts0 (sd_gS k_methodLink_X0_34 k_static_X0_checkWay k_init_ShareDesk k_code_X0_checkWay) rfl rfl rfl (by decide +kernel) ⟨Nat.le_of_ble_eq_true rfl, Nat.le_of_ble_eq_true rfl⟩) (sd_preS (sd_K0 hK) (sd_nil _ _ _)) rfl rfl hl.1 rfl (lv_room (Nat.le_of_ble_eq_true rfl)) dX0_next_1 ⟨Nat.zero_le _, Nat.zero_le _⟩) ?_
  refine lv_iload_n hx hb dX0_next_4 rfl (lv_at hl 2 rfl) ?_
  refine lv_sipush (v := nI 9999) hx hb dX0_next_5 (by decide +kernel) ?_
  exact sd_thrS (As := [.int x, .int (nI 9999)]) (rest := []) ⟨hx, hb, hml, hown, hts0⟩ (t_checkUnits l hl9 dC dI x 9999 hbad) (cwS 2 hts0 (sd_gS k_methodLink_X0_37 k_static_X0_checkUnits k_init_ShareDesk k_code_X0_checkUnits) rfl rfl rfl (by decide +kernel) ⟨Nat.le_of_ble_eq_true rfl, Nat.le_of_ble_eq_true rfl⟩) (sd_preSt (sd_K0 hK) (sd_nil _ _ _) hTH) rfl hl.1 rfl (lv_room (Nat.le_of_ble_eq_true rfl)) dX0_next_8 ⟨Nat.le_refl _, Nat.le_refl _⟩ (sd_out hout hlocks)
set_option maxHeartbeats 4000000 in
set_option maxRecDepth 100000 in
theorem t_next4 (l : Launch) (hl9 : l.stackTraces = false) (dC : Nat → ClassId) (dI : Nat → Nat → Nat) (cA : ClassId) (h0 a0 n : Nat) (w : Nat → Nat) (y u : Nat) (hy : y ≤ 2) (hu : u ≤ 9999) (hz : sd_sum w n = 0) : sd_MT l yX0_next (sd_ws yX0_next cX0_next 5 (some .int)) (sd_rm 7 1 6) (sd_Pt (dC, dI) vwCl [(cA, .int)] (sd_O cA h0 a0 n w) [.ref h0, .int (nI y), .int (nI u)]) sd_IS := by
  refine sd_MT.ofW (cc := cX0_next) (maxL := 5) (ret := (some .int)) (by decide) rfl ?_
  intro p e s m args below meth c s₁ B hml hout hv
  obtain ⟨rfl, hP, hK, hTH⟩ := hv
  have hx := B.exec
  have hb := B.bytes
  have hr := B.returns
  have hts0 := atoms_spec (ws := (sd_ws yX0_next cX0_next 5 (some .int))) B.pre
  have hts : ∀ w ∈ sd_WS, w.before _ s = true := fun w h => hts0 w (List.mem_cons_of_mem _ h)
  have hown : s.vm.findClass RX0 = some m.cls := findClass_of_methodNamed B.named
  have hlocks := B.notSynchronized
  have hl := lv_entry ([.ref h0, .int (nI y), .int (nI u)]) (n := 5) (Nat.le_of_ble_eq_true rfl)
  rw [lg_entry_eq]
  generalize (lg_sl ([.ref h0, .int (nI y), .int (nI u)]) ++ List.replicate (5 - (lg_sl ([.ref h0, .int (nI y), .int (nI u)])).length) Slot.unset).toArray = ls at hl ⊢
  have hl : lv_has ls 5 [(0, .ref h0), (1, .int (nI y)), (2, .int (nI u))] := hl
  have hP : va_P (dC, dI) vwCl [(h0, .inr (0, [.ref a0, .int (nI n), .int (nI (sd_sum w n))])), (a0, .inl (cA, 8, .inl (fun i => nI (w i))))] s.heap := hP
  refine lv_iload_n hx hb dX0_next_0 rfl (lv_at hl 1 rfl) ?_
  refine sd_callv (va_runS (As := [.int (nI y)]) (rest := []) ⟨hx, hb, hml, hown, hts0⟩ (c_checkWay l dC dI y hy) (cwS 1 hts0 (sd_gS k_methodLink_X0_34 k_static_X0_checkWay k_init_ShareDesk k_code_X0_checkWay) rfl rfl rfl (by decide +kernel) ⟨Nat.le_of_ble_eq_true rfl, Nat.le_of_ble_eq_true rfl⟩) (sd_preS (sd_K0 hK) (sd_nil _ _ _)) rfl rfl hl.1 rfl (lv_room (Nat.le_of_ble_eq_true rfl)) dX0_next_1 ⟨Nat.zero_le _, Nat.zero_le _⟩) ?_
  refine lv_iload_n hx hb dX0_next_4 rfl (lv_at hl 2 rfl) ?_
  refine lv_sipush (v := nI 9999) hx hb dX0_next_5 (by decide +kernel) ?_
  refine sd_callv (va_runS (As := [.int (nI u), .int (nI 9999)]) (rest := []) ⟨hx, hb, hml, hown, hts0⟩ (c_checkUnits l dC dI u 9999 hu (by omega)) (cwS 2 hts0 (sd_gS k_methodLink_X0_37 k_static_X0_checkUnits k_init_ShareDesk k_code_X0_checkUnits) rfl rfl rfl (by decide +kernel) ⟨Nat.le_of_ble_eq_true rfl, Nat.le_of_ble_eq_true rfl⟩) (sd_preS (sd_K0 hK) (sd_nil _ _ _)) rfl rfl hl.1 rfl (lv_room (Nat.le_of_ble_eq_true rfl)) dX0_next_8 ⟨Nat.zero_le _, Nat.zero_le _⟩) ?_
  refine lv_aload_n hx hb dX0_next_11 rfl (lv_at hl 0 rfl) ?_
  exact sd_thrV (As := []) (rest := []) ⟨hx, hb, hml, hown, hts0⟩ (t_checkTotal l hl9 dC dI cA h0 a0 n w hz) (cwV 0 hts0 (sd_gV k_methodLink_X0_41 k_instanceMethod_X0_checkTotal k_sel_X0_checkTotal k_init_ShareDesk k_code_X0_checkTotal) rfl rfl rfl (by decide +kernel) ⟨Nat.le_of_ble_eq_true rfl, Nat.le_of_ble_eq_true rfl⟩) (sd_preVt hK hP hTH (q0 := 0) (ci := 0) rfl rfl) rfl hl.1 rfl (lv_room (Nat.le_of_ble_eq_true rfl)) dX0_next_12 ⟨Nat.le_refl _, Nat.le_refl _⟩ (sd_out hout hlocks)
set_option maxHeartbeats 4000000 in
set_option maxRecDepth 100000 in
theorem t_least1 (l : Launch) (hl9 : l.stackTraces = false) (dC : Nat → ClassId) (dI : Nat → Nat → Nat) (cA : ClassId) (h0 a0 n : Nat) (w : Nat → Nat) (x z1 z2 : Int32) (hbad : x < 0 ∨ nI 2 < x) : sd_MT l yX0_least (sd_ws yX0_least cX0_least 6 (some .int)) (sd_rm 7 1 6) (sd_Pt (dC, dI) vwCl [(cA, .int)] (sd_O cA h0 a0 n w) [.ref h0, .int x, .int z1, .int z2]) sd_IA := by
  refine sd_MT.ofW (cc := cX0_least) (maxL := 6) (ret := (some .int)) (by decide) rfl ?_
  intro p e s m args below meth c s₁ B hml hout hv
  obtain ⟨rfl, hP, hK, hTH⟩ := hv
  have hx := B.exec
  have hb := B.bytes
  have hr := B.returns
  have hts0 := atoms_spec (ws := (sd_ws yX0_least cX0_least 6 (some .int))) B.pre
  have hts : ∀ w ∈ sd_WS, w.before _ s = true := fun w h => hts0 w (List.mem_cons_of_mem _ h)
  have hown : s.vm.findClass RX0 = some m.cls := findClass_of_methodNamed B.named
  have hlocks := B.notSynchronized
  have hl := lv_entry ([.ref h0, .int x, .int z1, .int z2]) (n := 6) (Nat.le_of_ble_eq_true rfl)
  rw [lg_entry_eq]
  generalize (lg_sl ([.ref h0, .int x, .int z1, .int z2]) ++ List.replicate (6 - (lg_sl ([.ref h0, .int x, .int z1, .int z2])).length) Slot.unset).toArray = ls at hl ⊢
  have hl : lv_has ls 6 [(0, .ref h0), (1, .int x), (2, .int z1), (3, .int z2)] := hl
  have hP : va_P (dC, dI) vwCl [(h0, .inr (0, [.ref a0, .int (nI n), .int (nI (sd_sum w n))])), (a0, .inl (cA, 8, .inl (fun i => nI (w i))))] s.heap := hP
  refine lv_iload_n hx hb dX0_least_0 rfl (lv_at hl 1 rfl) ?_
  exact sd_thrS (As := [.int x]) (rest := []) ⟨hx, hb, hml, hown, hts0⟩ (t_checkWay l hl9 dC dI x hbad) (cwS 1 hts0 (sd_gS k_methodLink_X0_34 k_static_X0_checkWay k_init_ShareDesk k_code_X0_checkWay) rfl rfl rfl (by decide +kernel) ⟨Nat.le_of_ble_eq_true rfl, Nat.le_of_ble_eq_true rfl⟩) (sd_preSt (sd_K0 hK) (sd_nil _ _ _) hTH) rfl hl.1 rfl (lv_room (Nat.le_of_ble_eq_true rfl)) dX0_least_1 ⟨Nat.le_refl _, Nat.le_refl _⟩ (sd_out hout hlocks)
set_option maxHeartbeats 4000000 in
set_option maxRecDepth 100000 in
theorem t_least2 (l : Launch) (hl9 : l.stackTraces = false) (dC : Nat → ClassId) (dI : Nat → Nat → Nat) (cA : ClassId) (h0 a0 n : Nat) (w : Nat → Nat) (y : Nat) (hy : y ≤ 2) (x z1 : Int32) (hbad : x < 0 ∨ nI n ≤ x) : sd_MT l yX0_least (sd_ws yX0_least cX0_least 6 (some .int)) (sd_rm 7 1 6) (sd_Pt (dC, dI) vwCl [(cA, .int)] (sd_O cA h0 a0 n w) [.ref h0, .int (nI y), .int z1, .int x]) sd_IA := by
  refine sd_MT.ofW (cc := cX0_least) (maxL := 6) (ret := (some .int)) (by decide) rfl ?_
  intro p e s m args below meth c s₁ B hml hout hv
  obtain ⟨rfl, hP, hK, hTH⟩ := hv
  have hx := B.exec
  have hb := B.bytes
  have hr := B.returns
  have hts0 := atoms_spec (ws := (sd_ws yX0_least cX0_least 6 (some .int))) B.pre
  have hts : ∀ w ∈ sd_WS, w.before _ s = true := fun w h => hts0 w (List.mem_cons_of_mem _ h)
  have hown : s.vm.findClass RX0 = some m.cls := findClass_of_methodNamed B.named
  have hlocks := B.notSynchronized
  have hl := lv_entry ([.ref h0, .int (nI y), .int z1, .int x]) (n := 6) (Nat.le_of_ble_eq_true rfl)
  rw [lg_entry_eq]
  generalize (lg_sl ([.ref h0, .int (nI y), .int z1, .int x]) ++ List.replicate (6 - (lg_sl ([.ref h0, .int (nI y), .int z1, .int x])).length) Slot.unset).toArray = ls at hl ⊢
  have hl : lv_has ls 6 [(0, .ref h0), (1, .int (nI y)), (2, .int z1), (3, .int x)] := hl
  have hP : va_P (dC, dI) vwCl [(h0, .inr (0, [.ref a0, .int (nI n), .int (nI (sd_sum w n))])), (a0, .inl (cA, 8, .inl (fun i => nI (w i))))] s.heap := hP
  refine lv_iload_n hx hb dX0_least_0 rfl (lv_at hl 1 rfl) ?_
  refine sd_callv (va_runS (As := [.int (nI y)]) (rest := []) ⟨hx, hb, hml, hown, hts0⟩ (c_checkWay l dC dI y hy) (cwS 1 hts0 (sd_gS k_methodLink_X0_34 k_static_X0_checkWay k_init_ShareDesk k_code_X0_checkWay) rfl rfl rfl (by decide +kernel) ⟨Nat.le_of_ble_eq_true rfl, Nat.le_of_ble_eq_true rfl⟩) (sd_preS (sd_K0 hK) (sd_nil _ _ _)) rfl rfl hl.1 rfl (lv_room (Nat.le_of_ble_eq_true rfl)) dX0_least_1 ⟨Nat.zero_le _, Nat.zero_le _⟩) ?_
  refine lv_aload_n hx hb dX0_least_4 rfl (lv_at hl 0 rfl) ?_
  refine lv_iload_n hx hb dX0_least_5 rfl (lv_at hl 3 rfl) ?_
  exact sd_thrV (As := [.int x]) (rest := []) ⟨hx, hb, hml, hown, hts0⟩ (t_checkParty l hl9 dC dI cA h0 a0 n w x hbad) (cwV 1 hts0 (sd_gV k_methodLink_X0_27 k_instanceMethod_X0_checkParty k_sel_X0_checkParty k_init_ShareDesk k_code_X0_checkParty) rfl rfl rfl (by decide +kernel) ⟨Nat.le_of_ble_eq_true rfl, Nat.le_of_ble_eq_true rfl⟩) (sd_preVt hK hP hTH (q0 := 0) (ci := 0) rfl rfl) rfl hl.1 rfl (lv_room (Nat.le_of_ble_eq_true rfl)) dX0_least_6 ⟨Nat.le_refl _, Nat.le_refl _⟩ (sd_out hout hlocks)
set_option maxHeartbeats 4000000 in
set_option maxRecDepth 100000 in
theorem t_least3 (l : Launch) (hl9 : l.stackTraces = false) (dC : Nat → ClassId) (dI : Nat → Nat → Nat) (cA : ClassId) (h0 a0 n : Nat) (w : Nat → Nat) (ok : sd_ok n w) (y q : Nat) (hy : y ≤ 2) (hq : q < n) (x : Int32) (hbad : x < 0) : sd_MT l yX0_least (sd_ws yX0_least cX0_least 6 (some .int)) (sd_rm 7 1 6) (sd_Pt (dC, dI) vwCl [(cA, .int)] (sd_O cA h0 a0 n w) [.ref h0, .int (nI y), .int x, .int (nI q)]) sd_IA := by
  refine sd_MT.ofW (cc := cX0_least) (maxL := 6) (ret := (some .int)) (by decide) rfl ?_
  intro p e s m args below meth c s₁ B hml hout hv
  obtain ⟨rfl, hP, hK, hTH⟩ := hv
  have hx := B.exec
  have hb := B.bytes
  have hr := B.returns
  have hts0 := atoms_spec (ws := (sd_ws yX0_least cX0_least 6 (some .int))) B.pre
  have hts : ∀ w ∈ sd_WS, w.before _ s = true := fun w h => hts0 w (List.mem_cons_of_mem _ h)
  have hown : s.vm.findClass RX0 = some m.cls := findClass_of_methodNamed B.named
  have hlocks := B.notSynchronized
  have hl := lv_entry ([.ref h0, .int (nI y), .int x, .int (nI q)]) (n := 6) (Nat.le_of_ble_eq_true rfl)
  rw [lg_entry_eq]
  generalize (lg_sl ([.ref h0, .int (nI y), .int x, .int (nI q)]) ++ List.replicate (6 - (lg_sl ([.ref h0, .int (nI y), .int x, .int (nI q)])).length) Slot.unset).toArray = ls at hl ⊢
  have hl : lv_has ls 6 [(0, .ref h0), (1, .int (nI y)), (2, .int x), (3, .int (nI q))] := hl
  have hP : va_P (dC, dI) vwCl [(h0, .inr (0, [.ref a0, .int (nI n), .int (nI (sd_sum w n))])), (a0, .inl (cA, 8, .inl (fun i => nI (w i))))] s.heap := hP
  refine lv_iload_n hx hb dX0_least_0 rfl (lv_at hl 1 rfl) ?_
  refine sd_callv (va_runS (As := [.int (nI y)]) (rest := []) ⟨hx, hb, hml, hown, hts0⟩ (c_checkWay l dC dI y hy) (cwS 1 hts0 (sd_gS k_methodLink_X0_34 k_static_X0_checkWay k_init_ShareDesk k_code_X0_checkWay) rfl rfl rfl (by decide +kernel) ⟨Nat.le_of_ble_eq_true rfl, Nat.le_of_ble_eq_true rfl⟩) (sd_preS (sd_K0 hK) (sd_nil _ _ _)) rfl rfl hl.1 rfl (lv_room (Nat.le_of_ble_eq_true rfl)) dX0_least_1 ⟨Nat.zero_le _, Nat.zero_le _⟩) ?_
  refine lv_aload_n hx hb dX0_least_4 rfl (lv_at hl 0 rfl) ?_
  refine lv_iload_n hx hb dX0_least_5 rfl (lv_at hl 3 rfl) ?_
  refine sd_callv (va_runV (As := [.int (nI q)]) (rest := []) ⟨hx, hb, hml, hown, hts0⟩ (c_checkParty l dC dI cA h0 a0 n w ok q hq) (cwV 1 hts0 (sd_gV k_methodLink_X0_27 k_instanceMethod_X0_checkParty k_sel_X0_checkParty k_init_ShareDesk k_code_X0_checkParty) rfl rfl rfl (by decide +kernel) ⟨Nat.le_of_ble_eq_true rfl, Nat.le_of_ble_eq_true rfl⟩) (sd_preV hK hP (q0 := 0) (ci := 0) rfl rfl) rfl rfl hl.1 rfl (lv_room (Nat.le_of_ble_eq_true rfl)) dX0_least_6 ⟨Nat.zero_le _, Nat.zero_le _⟩) ?_
  refine lv_iload_n hx hb dX0_least_9 rfl (lv_at hl 2 rfl) ?_
  refine lv_if_ge (tgt := 23) hx hb dX0_least_10 (by decide) (fun h => ?_) (fun h => ?_)
  · exact absurd hbad (Int32.not_lt.mpr h)
  · obtain ⟨qs, hZ⟩ := hTH.2.2.2.2.2.2.2.2 (48, "the share is below 0") (by decide)
    exact sd_throw hx hb hl9 hlocks hout (own := RX0) (cls := sd_IA) (names := sd_up2) (tx := "the share is below 0") hown (by decide) (by decide) (sd_own sd_ownIA hts hTH) (hts (.classLink RX0 20 sd_IA) k_classLink_X0_20) (hts (.initialized sd_IA) k_init_java_lang_IllegalArgumentException) hZ (hl.1.trans hml.symm) dX0_least_13 dX0_least_16 dX0_least_17 dX0_least_19 dX0_least_22 (by decide) (by decide) (by decide) (by decide)
set_option maxHeartbeats 4000000 in
set_option maxRecDepth 100000 in
theorem t_least4 (l : Launch) (hl9 : l.stackTraces = false) (dC : Nat → ClassId) (dI : Nat → Nat → Nat) (cA : ClassId) (h0 a0 n : Nat) (w : Nat → Nat) (ok : sd_ok n w) (y q : Nat) (hy : y ≤ 2) (hq : q < n) (x : Int32) (hx9 : 0 ≤ x) (hz : sd_sum w n = 0) : sd_MT l yX0_least (sd_ws yX0_least cX0_least 6 (some .int)) (sd_rm 7 1 6) (sd_Pt (dC, dI) vwCl [(cA, .int)] (sd_O cA h0 a0 n w) [.ref h0, .int (nI y), .int x, .int (nI q)]) sd_IS := by
  refine sd_MT.ofW (cc := cX0_least) (maxL := 6) (ret := (some .int)) (by decide) rfl ?_
  intro p e s m args below meth c s₁ B hml hout hv
  obtain ⟨rfl, hP, hK, hTH⟩ := hv
  have hx := B.exec
  have hb := B.bytes
  have hr := B.returns
  have hts0 := atoms_spec (ws := (sd_ws yX0_least cX0_least 6 (some .int))) B.pre
  have hts : ∀ w ∈ sd_WS, w.before _ s = true := fun w h => hts0 w (List.mem_cons_of_mem _ h)
  have hown : s.vm.findClass RX0 = some m.cls := findClass_of_methodNamed B.named
  have hlocks := B.notSynchronized
  have hl := lv_entry ([.ref h0, .int (nI y), .int x, .int (nI q)]) (n := 6) (Nat.le_of_ble_eq_true rfl)
  rw [lg_entry_eq]
  generalize (lg_sl ([.ref h0, .int (nI y), .int x, .int (nI q)]) ++ List.replicate (6 - (lg_sl ([.ref h0, .int (nI y), .int x, .int (nI q)])).length) Slot.unset).toArray = ls at hl ⊢
  have hl : lv_has ls 6 [(0, .ref h0), (1, .int (nI y)), (2, .int x), (3, .int (nI q))] := hl
  have hP : va_P (dC, dI) vwCl [(h0, .inr (0, [.ref a0, .int (nI n), .int (nI (sd_sum w n))])), (a0, .inl (cA, 8, .inl (fun i => nI (w i))))] s.heap := hP
  refine lv_iload_n hx hb dX0_least_0 rfl (lv_at hl 1 rfl) ?_
  refine sd_callv (va_runS (As := [.int (nI y)]) (rest := []) ⟨hx, hb, hml, hown, hts0⟩ (c_checkWay l dC dI y hy) (cwS 1 hts0 (sd_gS k_methodLink_X0_34 k_static_X0_checkWay k_init_ShareDesk k_code_X0_checkWay) rfl rfl rfl (by decide +kernel) ⟨Nat.le_of_ble_eq_true rfl, Nat.le_of_ble_eq_true rfl⟩) (sd_preS (sd_K0 hK) (sd_nil _ _ _)) rfl rfl hl.1 rfl (lv_room (Nat.le_of_ble_eq_true rfl)) dX0_least_1 ⟨Nat.zero_le _, Nat.zero_le _⟩) ?_
  refine lv_aload_n hx hb dX0_least_4 rfl (lv_at hl 0 rfl) ?_
  refine lv_iload_n hx hb dX0_least_5 rfl (lv_at hl 3 rfl) ?_
  refine sd_callv (va_runV (As := [.int (nI q)]) (rest := []) ⟨hx, hb, hml, hown, hts0⟩ (c_checkParty l dC dI cA h0 a0 n w ok q hq) (cwV 1 hts0 (sd_gV k_methodLink_X0_27 k_instanceMethod_X0_checkParty k_sel_X0_checkParty k_init_ShareDesk k_code_X0_checkParty) rfl rfl rfl (by decide +kernel) ⟨Nat.le_of_ble_eq_true rfl, Nat.le_of_ble_eq_true rfl⟩) (sd_preV hK hP (q0 := 0) (ci := 0) rfl rfl) rfl rfl hl.1 rfl (lv_room (Nat.le_of_ble_eq_true rfl)) dX0_least_6 ⟨Nat.zero_le _, Nat.zero_le _⟩) ?_
  refine lv_iload_n hx hb dX0_least_9 rfl (lv_at hl 2 rfl) ?_
  refine lv_if_ge (tgt := 23) hx hb dX0_least_10 (by decide) (fun h => ?_) (fun h => ?_)
  · refine lv_aload_n hx hb dX0_least_23 rfl (lv_at hl 0 rfl) ?_
    exact sd_thrV (As := []) (rest := []) ⟨hx, hb, hml, hown, hts0⟩ (t_checkTotal l hl9 dC dI cA h0 a0 n w hz) (cwV 0 hts0 (sd_gV k_methodLink_X0_41 k_instanceMethod_X0_checkTotal k_sel_X0_checkTotal k_init_ShareDesk k_code_X0_checkTotal) rfl rfl rfl (by decide +kernel) ⟨Nat.le_of_ble_eq_true rfl, Nat.le_of_ble_eq_true rfl⟩) (sd_preVt hK hP hTH (q0 := 0) (ci := 0) rfl rfl) rfl hl.1 rfl (lv_room (Nat.le_of_ble_eq_true rfl)) dX0_least_24 ⟨Nat.le_refl _, Nat.le_refl _⟩ (sd_out hout hlocks)
  · exact absurd hx9 h
end
section
set_option maxHeartbeats 4000000 in
set_option maxRecDepth 100000 in
theorem c_least (l : Launch) (dC : Nat → ClassId) (dI : Nat → Nat → Nat) (cA : ClassId) (h0 a0 n : Nat) (w : Nat → Nat) (ok : sd_ok n w) (hW : 0 < sd_sum w n) (y k q : Nat) (hy : y ≤ 2) (hk : k < 2 ^ 31) (hq : q < n) : Met l yX0_least (sd_ws yX0_least cX0_least 6 (some .int)) (sd_rm 5 0 0) (sd_Pp (dC, dI) vwCl [(cA, .int)] (sd_O cA h0 a0 n w) [.ref h0, .int (nI y), .int (nI k), .int (nI q)]) (vp_Si (fun r => r = sd_oi (sd_lst (fun j => decide (k ≤ sd_U y w n j q)) 10001))) 0 0 (fun _ => False) := by
  refine Met.ofW (cc := cX0_least) (maxL := 6) (ret := (some .int)) (by decide) rfl ?_
  intro p e s m args below meth c s₁ B hml hv
  obtain ⟨rfl, hP, hK⟩ := hv
  have hx := B.exec
  have hb := B.bytes
  have hr := B.returns
  have hts0 := atoms_spec (ws := (sd_ws yX0_least cX0_least 6 (some .int))) B.pre
  have hts : ∀ w ∈ sd_WS, w.before _ s = true := fun w h => hts0 w (List.mem_cons_of_mem _ h)
  have hown : s.vm.findClass RX0 = some m.cls := findClass_of_methodNamed B.named
  have hlocks := B.notSynchronized
  have hl := lv_entry ([.ref h0, .int (nI y), .int (nI k), .int (nI q)]) (n := 6) (Nat.le_of_ble_eq_true rfl)
  rw [lg_entry_eq]
  generalize (lg_sl ([.ref h0, .int (nI y), .int (nI k), .int (nI q)]) ++ List.replicate (6 - (lg_sl ([.ref h0, .int (nI y), .int (nI k), .int (nI q)])).length) Slot.unset).toArray = ls at hl ⊢
  have hl : lv_has ls 6 [(0, .ref h0), (1, .int (nI y)), (2, .int (nI k)), (3, .int (nI q))] := hl
  have hP : va_P (dC, dI) vwCl [(h0, .inr (0, [.ref a0, .int (nI n), .int (nI (sd_sum w n))])), (a0, .inl (cA, 8, .inl (fun i => nI (w i))))] s.heap := hP
  have hwq := ok.2.2.1 q
  have hn8 := ok.2.1
  refine lv_iload_n hx hb dX0_least_0 rfl (lv_at hl 1 rfl) ?_
  refine sd_callv (va_runS (As := [.int (nI y)]) (rest := []) ⟨hx, hb, hml, hown, hts0⟩ (c_checkWay l dC dI y hy) (cwS 1 hts0 (sd_gS k_methodLink_X0_34 k_static_X0_checkWay k_init_ShareDesk k_code_X0_checkWay) rfl rfl rfl (by decide +kernel) ⟨Nat.le_of_ble_eq_true rfl, Nat.le_of_ble_eq_true rfl⟩) (sd_preS (sd_K0 hK) (sd_nil _ _ _)) rfl rfl hl.1 rfl (lv_room (Nat.le_of_ble_eq_true rfl)) dX0_least_1 ⟨Nat.zero_le _, Nat.zero_le _⟩) ?_
  refine lv_aload_n hx hb dX0_least_4 rfl (lv_at hl 0 rfl) ?_
  refine lv_iload_n hx hb dX0_least_5 rfl (lv_at hl 3 rfl) ?_
  refine sd_callv (va_runV (As := [.int (nI q)]) (rest := []) ⟨hx, hb, hml, hown, hts0⟩ (c_checkParty l dC dI cA h0 a0 n w ok q hq) (cwV 1 hts0 (sd_gV k_methodLink_X0_27 k_instanceMethod_X0_checkParty k_sel_X0_checkParty k_init_ShareDesk k_code_X0_checkParty) rfl rfl rfl (by decide +kernel) ⟨Nat.le_of_ble_eq_true rfl, Nat.le_of_ble_eq_true rfl⟩) (sd_preV hK hP (q0 := 0) (ci := 0) rfl rfl) rfl rfl hl.1 rfl (lv_room (Nat.le_of_ble_eq_true rfl)) dX0_least_6 ⟨Nat.zero_le _, Nat.zero_le _⟩) ?_
  refine lv_iload_n hx hb dX0_least_9 rfl (lv_at hl 2 rfl) ?_
  refine sd_iz_ge (a := k) (tgt := 23) hx hb dX0_least_10 (by decide) (by omega) ?_
  refine lv_aload_n hx hb dX0_least_23 rfl (lv_at hl 0 rfl) ?_
  refine sd_callv (va_runV (As := []) (rest := []) ⟨hx, hb, hml, hown, hts0⟩ (c_checkTotal l dC dI cA h0 a0 n w ok hW) (cwV 0 hts0 (sd_gV k_methodLink_X0_41 k_instanceMethod_X0_checkTotal k_sel_X0_checkTotal k_init_ShareDesk k_code_X0_checkTotal) rfl rfl rfl (by decide +kernel) ⟨Nat.le_of_ble_eq_true rfl, Nat.le_of_ble_eq_true rfl⟩) (sd_preV hK hP (q0 := 0) (ci := 0) rfl rfl) rfl rfl hl.1 rfl (lv_room (Nat.le_of_ble_eq_true rfl)) dX0_least_24 ⟨Nat.zero_le _, Nat.zero_le _⟩) ?_
  refine lv_iload_n hx hb dX0_least_27 rfl (lv_at hl 2 rfl) ?_
  refine sd_iz_ne (a := k) (tgt := 33) hx hb dX0_least_28 (by decide) (by omega) (fun h => ?_) (fun h => ?_)
  · have hk0 := h
    refine lv_iload_n hx hb dX0_least_33 rfl (lv_at hl 2 rfl) ?_
    refine lv_sipush (v := nI 10000) hx hb dX0_least_34 (by decide +kernel) ?_
    refine sd_ic_gt (a := k) (b := 10000) (tgt := 49) hx hb dX0_least_37 (by decide) (by omega) (by omega) (fun h => ?_) (fun h => ?_)
    · refine lv_iconst (v := (-1)) hx hb dX0_least_49 (by decide +kernel) ?_
      refine sd_topi (y := sd_oi (sd_lst (fun j => decide (k ≤ sd_U y w n j q)) 10001)) (by rw [sd_lst_none (fun j hj => decide_eq_false (by have := sd_U_le (y := y) (w := w) (m := j) hW hq; omega))]; rfl) ?_
      exact W.iret hx hb hr (fun t ht hW => ⟨_, rfl, rfl, ht⟩) (fun q hq => nomatch hq) dX0_least_50
    · have hk2 := h
      refine lv_aload_n hx hb dX0_least_40 rfl (lv_at hl 0 rfl) ?_
      refine va_get (D := (dC, dI)) (ci := 0) (v := .ref a0) (C := RX0) (T := TX0) (N := 3) hx hb hts u_in_X0 hown hK hP 0 rfl rfl 0 (by decide) (hts (.fieldLink RX0 9 "ShareDesk" "weights" "[I") k_fieldLink_X0_9) (fun _ h9 => h9) rfl dX0_least_41 ?_
      refine lv_iload_n hx hb dX0_least_44 rfl (lv_at hl 3 rfl) ?_
      refine sd_iald (j := q) (v := nI (w q)) hx hb hK hP 1 0 rfl rfl (by omega) (by decide) rfl dX0_least_45 ?_
      refine sd_iz_ne (a := w q) (tgt := 51) hx hb dX0_least_46 (by decide) (by omega) (fun h => ?_) (fun h => ?_)
      · have hpos := h
        refine lv_iload_n hx hb dX0_least_51 rfl (lv_at hl 1 rfl) ?_
        refine sd_iz_ne (a := y) (tgt := 62) hx hb dX0_least_52 (by decide) (by omega) (fun h => ?_) (fun h => ?_)
        · have hy1 : y = 1 ∨ y = 2 := by omega
          have hbt : sd_turn y w n k q ≤ 20000 + 8 * 4000000000 := sd_turn_le (n := n) hy (by omega) (by omega) ok.2.2.1 n (Nat.le_refl _) ok.2.1
          have hTI : ∀ j, sd_turn y w n k q ≤ j ↔ k ≤ sd_U y w n j q := fun j => by
            have h1 := sd_turn_iff hy1 (sd_inv_G (sd_sum_pos hW) j) hq hpos hk0
            rw [h1]; unfold sd_U; rw [if_neg (by omega)]
          refine lv_aload_n hx hb dX0_least_62 rfl (lv_at hl 0 rfl) ?_
          refine lv_iload_n hx hb dX0_least_63 rfl (lv_at hl 1 rfl) ?_
          refine lv_iload_n hx hb dX0_least_64 rfl (lv_at hl 2 rfl) ?_
          refine lv_iload_n hx hb dX0_least_65 rfl (lv_at hl 3 rfl) ?_
          refine sd_calll (va_runV (As := [.int (nI y), .int (nI k), .int (nI q)]) (rest := []) ⟨hx, hb, hml, hown, hts0⟩ (c_turnOf l dC dI cA h0 a0 n w ok y k q hy1 hk0 (by omega) hq hpos) (cwV 3 hts0 (sd_gV k_methodLink_X0_54 k_instanceMethod_X0_turnOf k_sel_X0_turnOf k_init_ShareDesk k_code_X0_turnOf) rfl rfl rfl (by decide +kernel) ⟨Nat.le_of_ble_eq_true rfl, Nat.le_of_ble_eq_true rfl⟩) (sd_preV hK hP (q0 := 0) (ci := 0) rfl rfl) rfl rfl hl.1 rfl (lv_room (Nat.le_of_ble_eq_true rfl)) dX0_least_66 ⟨Nat.zero_le _, Nat.zero_le _⟩) ?_
          refine lv_lstore hx hb dX0_least_69 hl (by decide) rfl (fun ls hl => ?_)
          have hl : lv_has ls 6 [(4, .long (lN (sd_turn y w n k q))), (0, .ref h0), (1, .int (nI y)), (2, .int (nI k)), (3, .int (nI q))] := hl
          refine lv_lload hx hb dX0_least_71 (lv_at hl 0 rfl) ?_
          refine lv_ldc2 (v := 10000) hx hb hown (hts (.constantLong RX0 58 10000) k_constantLong_X0_58) dX0_least_73 ?_
          refine sd_topl (y := lN 10000) (by decide +kernel) ?_
          refine sd_lc_gt (a := sd_turn y w n k q) (b := 10000) (tgt := 86) hx hb dX0_least_76 dX0_least_77 (by decide) (by omega) (by omega) (fun h => ?_) (fun h => ?_)
          · refine lv_iconst (v := (-1)) hx hb dX0_least_86 (by decide +kernel) ?_
            refine sd_topi (y := sd_oi (sd_lst (fun j => decide (k ≤ sd_U y w n j q)) 10001)) (by rw [sd_lst_none (fun j hj => decide_eq_false (fun z => by have := (hTI j).mpr z; omega))]; rfl) ?_
            exact W.iret hx hb hr (fun t ht hW => ⟨_, rfl, rfl, ht⟩) (fun q hq => nomatch hq) dX0_least_87
          · refine lv_lload hx hb dX0_least_80 (lv_at hl 0 rfl) ?_
            refine lv_l2i (v := nI (sd_turn y w n k q)) hx hb dX0_least_82 (lN_i _) ?_
            refine lv_goto (tgt := 87) hx hb dX0_least_83 (by decide) ?_
            refine sd_topi (y := sd_oi (sd_lst (fun j => decide (k ≤ sd_U y w n j q)) 10001)) (by rw [sd_lst_at (Q := (fun j => decide (k ≤ sd_U y w n j q))) (m := sd_turn y w n k q) (fun j hj => decide_eq_false (fun z => by have := (hTI j).mpr z; omega)) (decide_eq_true ((hTI _).mp (Nat.le_refl _))) (by omega)]; rfl) ?_
            exact W.iret hx hb hr (fun t ht hW => ⟨_, rfl, rfl, ht⟩) (fun q hq => nomatch hq) dX0_least_87
        · subst h
          refine lv_aload_n hx hb dX0_least_55 rfl (lv_at hl 0 rfl) ?_
          refine lv_iload_n hx hb dX0_least_56 rfl (lv_at hl 2 rfl) ?_
          refine lv_iload_n hx hb dX0_least_57 rfl (lv_at hl 3 rfl) ?_
          refine sd_calli (va_runV (As := [.int (nI k), .int (nI q)]) (rest := []) ⟨hx, hb, hml, hown, hts0⟩ (c_leastByRests l dC dI cA h0 a0 n w ok hW k q hk0 hk2 hq hpos) (cwV 2 hts0 (sd_gV k_methodLink_X0_50 k_instanceMethod_X0_leastByRests k_sel_X0_leastByRests k_init_ShareDesk k_code_X0_leastByRests) rfl rfl rfl (by decide +kernel) ⟨Nat.le_of_ble_eq_true rfl, Nat.le_of_ble_eq_true rfl⟩) (sd_preV hK hP (q0 := 0) (ci := 0) rfl rfl) rfl rfl hl.1 rfl (lv_room (Nat.le_of_ble_eq_true rfl)) dX0_least_58 ⟨Nat.zero_le _, Nat.zero_le _⟩) ?_
          refine sd_topi (y := sd_oi (sd_lst (fun j => decide (k ≤ sd_U 0 w n j q)) 10001)) (by rfl) ?_
          exact W.iret hx hb hr (fun t ht hW => ⟨_, rfl, rfl, ht⟩) (fun q hq => nomatch hq) dX0_least_61
      · refine lv_iconst (v := (-1)) hx hb dX0_least_49 (by decide +kernel) ?_
        refine sd_topi (y := sd_oi (sd_lst (fun j => decide (k ≤ sd_U y w n j q)) 10001)) (by rw [sd_lst_none (fun j hj => decide_eq_false (by rw [sd_U_zero hW hq h]; omega))]; rfl) ?_
        exact W.iret hx hb hr (fun t ht hW => ⟨_, rfl, rfl, ht⟩) (fun q hq => nomatch hq) dX0_least_50
  · subst h
    refine lv_iconst (v := (nI 0)) hx hb dX0_least_31 (by decide +kernel) ?_
    refine sd_topi (y := sd_oi (sd_lst (fun j => decide (0 ≤ sd_U y w n j q)) 10001)) (by rw [sd_lst_at (m := 0) (fun j hj => absurd hj (Nat.not_lt_zero _)) (decide_eq_true (Nat.zero_le _)) (by decide)]; rfl) ?_
    exact W.iret hx hb hr (fun t ht hW => ⟨_, rfl, rfl, ht⟩) (fun q hq => nomatch hq) dX0_least_32
set_option maxHeartbeats 4000000 in
set_option maxRecDepth 100000 in
theorem lp_begin {p : Program} {l : Launch} {e : Env} {R : Room} {s : State} {m : MethodId} {args : Array Value} {below : List Frame} {meth : Method} {c : Code} {cells slots : Nat} {Q : State → Prop} (hx : p.tables.exec = Jvm.exec) (hb : c.code = cX0_begin) (hml : c.maxLocals = 3) (hts0 : ∀ w ∈ (sd_ws yX0_begin cX0_begin 3 none), w.before args s = true) (hown : s.vm.findClass RX0 = some m.cls) {dC : Nat → ClassId} {dI : Nat → Nat → Nat} {cA : ClassId} {h0 a0 n : Nat} {w : Nat → Nat} (j : Nat) (A : Nat → Prop) (H0 : Heap) (hK : va_K (dC, dI) vwCl [(cA, .int)] s)
    (kk : ∀ (H : Heap) (locs : List Loc) (ls : Array Slot), va_P (dC, dI) vwCl [(h0, .inr (0, [.ref a0, .int (nI n), .int (nI (sd_sum w n))])), (a0, .inl (cA, 8, .inl (fun z => nI (sd_cl w 8 z))))] H → va_D A [(h0, .inr (0, [.ref a0, .int (nI n), .int (nI (sd_sum w n))])), (a0, .inl (cA, 8, .inl (fun z => nI (sd_cl w 8 z))))] → va_S A H0 H locs → lv_has ls 3 [(0, .ref h0), (1, .int (nI j)), (2, .int (nI 8))] → W p l e R s m args below meth c H locs cells slots Q (F0 m 42 ls []))
    : ∀ (f i : Nat), i + f = 8 → ∀ (H : Heap) (locs : List Loc) (ls : Array Slot), va_P (dC, dI) vwCl [(h0, .inr (0, [.ref a0, .int (nI n), .int (nI (sd_sum w n))])), (a0, .inl (cA, 8, .inl (fun z => nI (sd_cl w i z))))] H → va_D A [(h0, .inr (0, [.ref a0, .int (nI n), .int (nI (sd_sum w n))])), (a0, .inl (cA, 8, .inl (fun z => nI (sd_cl w i z))))] → va_S A H0 H locs → lv_has ls 3 [(0, .ref h0), (1, .int (nI j)), (2, .int (nI i))] → W p l e R s m args below meth c H locs cells slots Q (F0 m 23 ls []) := by
  have hts : ∀ w ∈ sd_WS, w.before args s = true := fun w h => hts0 w (List.mem_cons_of_mem _ h)
  intro f
  induction f using Nat.strongRecOn with
  | ind f ih0 =>
    intro i hi H locs ls hP hD hS hl
    refine lv_iload_n hx hb dX0_begin_23 rfl (lv_at hl 2 rfl) ?_
    refine lv_bipush (v := nI 8) hx hb dX0_begin_24 (by decide +kernel) ?_
    refine sd_ic_ge (a := i) (b := 8) (tgt := 42) hx hb dX0_begin_26 (by decide) (by omega) (by omega) (fun h => ?_) (fun h => ?_)
    · have hin : i = 8 := by omega
      subst hin
      exact kk H locs ls hP hD hS hl
    · refine lv_aload_n hx hb dX0_begin_29 rfl (lv_at hl 0 rfl) ?_
      refine va_get (D := (dC, dI)) (ci := 0) (v := .ref a0) (C := RX0) (T := TX0) (N := 3) hx hb hts u_in_X0 hown hK hP 0 rfl rfl 0 (by decide) (hts (.fieldLink RX0 9 "ShareDesk" "weights" "[I") k_fieldLink_X0_9) (fun _ h9 => h9) rfl dX0_begin_30 ?_
      refine lv_iload_n hx hb dX0_begin_33 rfl (lv_at hl 2 rfl) ?_
      refine lv_iconst (v := (nI 0)) hx hb dX0_begin_34 (by decide +kernel) ?_
      refine sd_iast (j := i) hx hb hK hP hD hS 1 0 rfl rfl (by omega) (by decide) dX0_begin_35 (fun H locs hP hD hS => ?_)
      have hP : va_P (dC, dI) vwCl [(h0, .inr (0, [.ref a0, .int (nI n), .int (nI (sd_sum w n))])), (a0, .inl (cA, 8, .inl (fun z => nI (sd_cl w (i + 1) z))))] H := by rw [← sd_cls, ← sd_upd_w]; exact hP
      have hD : va_D A [(h0, .inr (0, [.ref a0, .int (nI n), .int (nI (sd_sum w n))])), (a0, .inl (cA, 8, .inl (fun z => nI (sd_cl w (i + 1) z))))] := by rw [← sd_cls, ← sd_upd_w]; exact hD
      refine lv_iinc (k := 2) (v := nI (i + 1)) hx hb dX0_begin_36 hl rfl (nI_add _ 1) (by decide) rfl (fun ls hl => ?_)
      have hl : lv_has ls 3 [(2, .int (nI (i + 1))), (0, .ref h0), (1, .int (nI j))] := hl
      refine lv_goto (tgt := 23) hx hb dX0_begin_39 (by decide) ?_
      have hl := lv_sub (l' := [(0, .ref h0), (1, .int (nI j)), (2, .int (nI (i + 1)))]) hl [1, 2, 0] rfl
      exact ih0 (f - 1) (by omega) (i + 1) (by omega) H locs ls hP hD hS hl
set_option maxHeartbeats 4000000 in
set_option maxRecDepth 100000 in
theorem c_begin (l : Launch) (dC : Nat → ClassId) (dI : Nat → Nat → Nat) (cA : ClassId) (h0 a0 n : Nat) (w : Nat → Nat) (sz j : Nat) (ok : sd_ok n w) (hj1 : 1 ≤ j) (hj8 : j ≤ 8) : Met l yX0_begin (sd_ws yX0_begin cX0_begin 3 none) (sd_rm 1 0 0) (sd_Pw (dC, dI) vwCl [(cA, .int)] (sd_O cA h0 a0 n w) sz [.ref h0, .int (nI j)]) (va_Qv (fun (_ : Unit) => True) (sd_Bw (dC, dI) vwCl [(cA, .int)] (sd_O cA h0 a0 n w) sz (fun _ => sd_O cA h0 a0 j (fun _ => 0))) (va_A (sd_O cA h0 a0 n w) sz)) 0 0 (va_A (sd_O cA h0 a0 n w) sz) := by
  refine Met.ofW (cc := cX0_begin) (maxL := 3) (ret := none) (by decide) rfl ?_
  intro p e s m args below meth c s₁ B hml hv
  obtain ⟨rfl, hsz, hP, hK, hD0⟩ := hv
  subst hsz
  have hx := B.exec
  have hb := B.bytes
  have hr := B.returns
  have hts0 := atoms_spec (ws := (sd_ws yX0_begin cX0_begin 3 none)) B.pre
  have hts : ∀ w ∈ sd_WS, w.before _ s = true := fun w h => hts0 w (List.mem_cons_of_mem _ h)
  have hown : s.vm.findClass RX0 = some m.cls := findClass_of_methodNamed B.named
  have hlocks := B.notSynchronized
  have hl := lv_entry ([.ref h0, .int (nI j)]) (n := 3) (Nat.le_of_ble_eq_true rfl)
  rw [lg_entry_eq]
  generalize (lg_sl ([.ref h0, .int (nI j)]) ++ List.replicate (3 - (lg_sl ([.ref h0, .int (nI j)])).length) Slot.unset).toArray = ls at hl ⊢
  have hl : lv_has ls 3 [(0, .ref h0), (1, .int (nI j))] := hl
  obtain ⟨A, hAe⟩ : ∃ A, A = va_A (sd_O cA h0 a0 n w) s.heap.size := ⟨_, rfl⟩
  have hD : va_D A (sd_O cA h0 a0 n w) := by rw [hAe]; exact hD0.self
  have hA : ∀ q : Nat, s.heap.size ≤ q → A q := fun q h => by rw [hAe]; exact Or.inr h
  have hS : va_S A s.heap s.heap [] := va_S.rf
  refine lv_iload_n hx hb dX0_begin_0 rfl (lv_at hl 1 rfl) ?_
  refine lv_iconst (v := (nI 1)) hx hb dX0_begin_1 (by decide +kernel) ?_
  refine sd_ic_lt (a := j) (b := 1) (tgt := 11) hx hb dX0_begin_2 (by decide) (by omega) (by omega) (fun h => ?_) (fun h => ?_)
  · exact absurd h (by omega)
  · refine lv_iload_n hx hb dX0_begin_5 rfl (lv_at hl 1 rfl) ?_
    refine lv_bipush (v := nI 8) hx hb dX0_begin_6 (by decide +kernel) ?_
    refine sd_ic_le (a := j) (b := 8) (tgt := 21) hx hb dX0_begin_8 (by decide) (by omega) (by omega) (fun h => ?_) (fun h => ?_)
    · refine lv_iconst (v := (nI 0)) hx hb dX0_begin_21 (by decide +kernel) ?_
      refine lv_istore_n hx hb dX0_begin_22 rfl hl (by decide) rfl (fun ls hl => ?_)
      have hl : lv_has ls 3 [(2, .int (nI 0)), (0, .ref h0), (1, .int (nI j))] := hl
      have hl := lv_sub (l' := [(0, .ref h0), (1, .int (nI j)), (2, .int (nI 0))]) hl [1, 2, 0] rfl
      have hP : va_P (dC, dI) vwCl [(h0, .inr (0, [.ref a0, .int (nI n), .int (nI (sd_sum w n))])), (a0, .inl (cA, 8, .inl (fun z => nI (sd_cl w 0 z))))] s.heap := by rw [sd_cl0]; exact hP
      have hD : va_D A [(h0, .inr (0, [.ref a0, .int (nI n), .int (nI (sd_sum w n))])), (a0, .inl (cA, 8, .inl (fun z => nI (sd_cl w 0 z))))] := by rw [sd_cl0]; exact hD
      refine lp_begin hx hb hml hts0 hown j A s.heap hK (fun H locs ls hP hD hS hl => ?_) 8 0 (by omega) s.heap [] ls hP hD hS hl
      refine lv_aload_n hx hb dX0_begin_42 rfl (lv_at hl 0 rfl) ?_
      refine lv_iload_n hx hb dX0_begin_43 rfl (lv_at hl 1 rfl) ?_
      refine va_put (D := (dC, dI)) (ci := 0) (v := .int (nI j)) (ty := .int) (C := RX0) (T := TX0) (N := 3) hx hb hts u_in_X0 tyX0 tyX0_ok nmX0 hown hK hP hD hS 0 rfl rfl 1 (by decide) (hts (.fieldLink RX0 13 "ShareDesk" "parties" "I") k_fieldLink_X0_13) (fun _ h9 => h9) rfl (by decide +kernel) rfl rfl (Nat.le_of_ble_eq_true rfl) dX0_begin_44 (fun H locs hP hD hS => ?_)
      have hP : va_P (dC, dI) vwCl [(h0, .inr (0, [.ref a0, .int (nI j), .int (nI (sd_sum w n))])), (a0, .inl (cA, 8, .inl (fun z => nI (sd_cl w 8 z))))] H := hP
      have hD : va_D A [(h0, .inr (0, [.ref a0, .int (nI j), .int (nI (sd_sum w n))])), (a0, .inl (cA, 8, .inl (fun z => nI (sd_cl w 8 z))))] := hD
      refine lv_aload_n hx hb dX0_begin_47 rfl (lv_at hl 0 rfl) ?_
      refine lv_iconst (v := (nI 0)) hx hb dX0_begin_48 (by decide +kernel) ?_
      refine va_put (D := (dC, dI)) (ci := 0) (v := .int (nI 0)) (ty := .int) (C := RX0) (T := TX0) (N := 3) hx hb hts u_in_X0 tyX0 tyX0_ok nmX0 hown hK hP hD hS 0 rfl rfl 2 (by decide) (hts (.fieldLink RX0 17 "ShareDesk" "total" "I") k_fieldLink_X0_17) (fun _ h9 => h9) rfl (by decide +kernel) rfl rfl (Nat.le_of_ble_eq_true rfl) dX0_begin_49 (fun H locs hP hD hS => ?_)
      have hP : va_P (dC, dI) vwCl [(h0, .inr (0, [.ref a0, .int (nI j), .int (nI 0)])), (a0, .inl (cA, 8, .inl (fun z => nI (sd_cl w 8 z))))] H := hP
      have hD : va_D A [(h0, .inr (0, [.ref a0, .int (nI j), .int (nI 0)])), (a0, .inl (cA, 8, .inl (fun z => nI (sd_cl w 8 z))))] := hD
      have hP : va_P (dC, dI) vwCl (sd_O cA h0 a0 j (fun _ => 0)) H := by unfold sd_O; rw [sd_sum0]; rw [sd_cl8 ok] at hP; exact hP
      have hD : va_D A (sd_O cA h0 a0 j (fun _ => 0)) := by unfold sd_O; rw [sd_sum0]; rw [sd_cl8 ok] at hD; exact hD
      exact W.vret hx hb hr (fun t ht hW => ⟨⟨(), rfl, trivial, by rw [ht]; exact hP, va_K.moved hW.alike hK, by rw [← hAe]; exact hD⟩, by rw [← hAe]; exact hS.F ht⟩) (fun q hq => by rw [← hAe]; exact hS.2.2 q hq) dX0_begin_52
    · exact absurd h (by omega)
set_option maxHeartbeats 4000000 in
set_option maxRecDepth 100000 in
theorem c_weight (l : Launch) (dC : Nat → ClassId) (dI : Nat → Nat → Nat) (cA : ClassId) (h0 a0 n : Nat) (w : Nat → Nat) (sz q v : Nat) (ok : sd_ok n w) (hq : q < n) (hv : v ≤ 100000) : Met l yX0_weight (sd_ws yX0_weight cX0_weight 4 (some .int)) (sd_rm 1 0 0) (sd_Pw (dC, dI) vwCl [(cA, .int)] (sd_O cA h0 a0 n w) sz [.ref h0, .int (nI q), .int (nI v)]) (va_Qi (fun r (_ : Unit) => r = nI (w q)) (sd_Bw (dC, dI) vwCl [(cA, .int)] (sd_O cA h0 a0 n w) sz (fun _ => sd_O cA h0 a0 n (sd_up w q v))) (va_A (sd_O cA h0 a0 n w) sz)) 0 0 (va_A (sd_O cA h0 a0 n w) sz) := by
  refine Met.ofW (cc := cX0_weight) (maxL := 4) (ret := (some .int)) (by decide) rfl ?_
  intro p e s m args below meth c s₁ B hml hv
  obtain ⟨rfl, hsz, hP, hK, hD0⟩ := hv
  subst hsz
  have hx := B.exec
  have hb := B.bytes
  have hr := B.returns
  have hts0 := atoms_spec (ws := (sd_ws yX0_weight cX0_weight 4 (some .int))) B.pre
  have hts : ∀ w ∈ sd_WS, w.before _ s = true := fun w h => hts0 w (List.mem_cons_of_mem _ h)
  have hown : s.vm.findClass RX0 = some m.cls := findClass_of_methodNamed B.named
  have hlocks := B.notSynchronized
  have hl := lv_entry ([.ref h0, .int (nI q), .int (nI v)]) (n := 4) (Nat.le_of_ble_eq_true rfl)
  rw [lg_entry_eq]
  generalize (lg_sl ([.ref h0, .int (nI q), .int (nI v)]) ++ List.replicate (4 - (lg_sl ([.ref h0, .int (nI q), .int (nI v)])).length) Slot.unset).toArray = ls at hl ⊢
  have hl : lv_has ls 4 [(0, .ref h0), (1, .int (nI q)), (2, .int (nI v))] := hl
  obtain ⟨A, hAe⟩ : ∃ A, A = va_A (sd_O cA h0 a0 n w) s.heap.size := ⟨_, rfl⟩
  have hD : va_D A (sd_O cA h0 a0 n w) := by rw [hAe]; exact hD0.self
  have hA : ∀ q : Nat, s.heap.size ≤ q → A q := fun q h => by rw [hAe]; exact Or.inr h
  have hS : va_S A s.heap s.heap [] := va_S.rf
  have hn8 := ok.2.1
  have hwq := ok.2.2.1 q
  have hP : va_P (dC, dI) vwCl [(h0, .inr (0, [.ref a0, .int (nI n), .int (nI (sd_sum w n))])), (a0, .inl (cA, 8, .inl (fun i => nI (w i))))] s.heap := hP
  have hD : va_D A [(h0, .inr (0, [.ref a0, .int (nI n), .int (nI (sd_sum w n))])), (a0, .inl (cA, 8, .inl (fun i => nI (w i))))] := hD
  refine lv_aload_n hx hb dX0_weight_0 rfl (lv_at hl 0 rfl) ?_
  refine lv_iload_n hx hb dX0_weight_1 rfl (lv_at hl 1 rfl) ?_
  refine sd_callv (va_runV (As := [.int (nI q)]) (rest := []) ⟨hx, hb, hml, hown, hts0⟩ (c_checkParty l dC dI cA h0 a0 n w ok q hq) (cwV 1 hts0 (sd_gV k_methodLink_X0_27 k_instanceMethod_X0_checkParty k_sel_X0_checkParty k_init_ShareDesk k_code_X0_checkParty) rfl rfl rfl (by decide +kernel) ⟨Nat.le_of_ble_eq_true rfl, Nat.le_of_ble_eq_true rfl⟩) (sd_preV hK hP (q0 := 0) (ci := 0) rfl rfl) rfl rfl hl.1 rfl (lv_room (Nat.le_of_ble_eq_true rfl)) dX0_weight_2 ⟨Nat.zero_le _, Nat.zero_le _⟩) ?_
  refine lv_iload_n hx hb dX0_weight_5 rfl (lv_at hl 2 rfl) ?_
  refine sd_iz_lt (a := v) (tgt := 15) hx hb dX0_weight_6 (by decide) (by omega) ?_
  refine lv_iload_n hx hb dX0_weight_9 rfl (lv_at hl 2 rfl) ?_
  refine lv_ldc (v := 100000) hx hb hown (hts (.constant RX0 31 100000) k_constant_X0_31) dX0_weight_10 ?_
  refine sd_topi (y := nI 100000) (by decide +kernel) ?_
  refine sd_ic_le (a := v) (b := 100000) (tgt := 25) hx hb dX0_weight_12 (by decide) (by omega) (by omega) (fun h => ?_) (fun h => ?_)
  · refine lv_aload_n hx hb dX0_weight_25 rfl (lv_at hl 0 rfl) ?_
    refine va_get (D := (dC, dI)) (ci := 0) (v := .ref a0) (C := RX0) (T := TX0) (N := 3) hx hb hts u_in_X0 hown hK hP 0 rfl rfl 0 (by decide) (hts (.fieldLink RX0 9 "ShareDesk" "weights" "[I") k_fieldLink_X0_9) (fun _ h9 => h9) rfl dX0_weight_26 ?_
    refine lv_iload_n hx hb dX0_weight_29 rfl (lv_at hl 1 rfl) ?_
    refine sd_iald (j := q) (v := nI (w q)) hx hb hK hP 1 0 rfl rfl (by omega) (by decide) rfl dX0_weight_30 ?_
    refine lv_istore_n hx hb dX0_weight_31 rfl hl (by decide) rfl (fun ls hl => ?_)
    have hl : lv_has ls 4 [(3, .int (nI (w q))), (0, .ref h0), (1, .int (nI q)), (2, .int (nI v))] := hl
    refine lv_aload_n hx hb dX0_weight_32 rfl (lv_at hl 1 rfl) ?_
    refine va_get (D := (dC, dI)) (ci := 0) (v := .ref a0) (C := RX0) (T := TX0) (N := 3) hx hb hts u_in_X0 hown hK hP 0 rfl rfl 0 (by decide) (hts (.fieldLink RX0 9 "ShareDesk" "weights" "[I") k_fieldLink_X0_9) (fun _ h9 => h9) rfl dX0_weight_33 ?_
    refine lv_iload_n hx hb dX0_weight_36 rfl (lv_at hl 2 rfl) ?_
    refine lv_iload_n hx hb dX0_weight_37 rfl (lv_at hl 3 rfl) ?_
    refine sd_iast (j := q) hx hb hK hP hD hS 1 0 rfl rfl (by omega) (by decide) dX0_weight_38 (fun H locs hP hD hS => ?_)
    have hP : va_P (dC, dI) vwCl [(h0, .inr (0, [.ref a0, .int (nI n), .int (nI (sd_sum w n))])), (a0, .inl (cA, 8, .inl (fun i => nI (sd_up w q v i))))] H := by rw [← sd_upd_w]; exact hP
    have hD : va_D A [(h0, .inr (0, [.ref a0, .int (nI n), .int (nI (sd_sum w n))])), (a0, .inl (cA, 8, .inl (fun i => nI (sd_up w q v i))))] := by rw [← sd_upd_w]; exact hD
    refine lv_aload_n hx hb dX0_weight_39 rfl (lv_at hl 1 rfl) ?_
    refine lv_dup hx hb dX0_weight_40 rfl ?_
    refine va_get (D := (dC, dI)) (ci := 0) (v := .int (nI (sd_sum w n))) (C := RX0) (T := TX0) (N := 3) hx hb hts u_in_X0 hown hK hP 0 rfl rfl 2 (by decide) (hts (.fieldLink RX0 17 "ShareDesk" "total" "I") k_fieldLink_X0_17) (fun _ h9 => h9) rfl dX0_weight_41 ?_
    refine lv_iload_n hx hb dX0_weight_44 rfl (lv_at hl 3 rfl) ?_
    refine lv_iload_n hx hb dX0_weight_45 rfl (lv_at hl 0 rfl) ?_
    refine sd_isub (v := nI v - nI (w q)) hx hb dX0_weight_46 rfl ?_
    refine sd_iadd (v := nI (sd_sum (sd_up w q v) n)) hx hb dX0_weight_47 (sd_i32 (sd_up_sum hq)) ?_
    refine va_put (D := (dC, dI)) (ci := 0) (v := .int (nI (sd_sum (sd_up w q v) n))) (ty := .int) (C := RX0) (T := TX0) (N := 3) hx hb hts u_in_X0 tyX0 tyX0_ok nmX0 hown hK hP hD hS 0 rfl rfl 2 (by decide) (hts (.fieldLink RX0 17 "ShareDesk" "total" "I") k_fieldLink_X0_17) (fun _ h9 => h9) rfl (by decide +kernel) rfl rfl (Nat.le_of_ble_eq_true rfl) dX0_weight_48 (fun H locs hP hD hS => ?_)
    have hP : va_P (dC, dI) vwCl [(h0, .inr (0, [.ref a0, .int (nI n), .int (nI (sd_sum (sd_up w q v) n))])), (a0, .inl (cA, 8, .inl (fun i => nI (sd_up w q v i))))] H := hP
    have hD : va_D A [(h0, .inr (0, [.ref a0, .int (nI n), .int (nI (sd_sum (sd_up w q v) n))])), (a0, .inl (cA, 8, .inl (fun i => nI (sd_up w q v i))))] := hD
    refine lv_iload_n hx hb dX0_weight_51 rfl (lv_at hl 0 rfl) ?_
    have hP : va_P (dC, dI) vwCl (sd_O cA h0 a0 n (sd_up w q v)) H := hP
    have hD : va_D A (sd_O cA h0 a0 n (sd_up w q v)) := hD
    exact W.iret hx hb hr (fun t ht hW => ⟨⟨_, (), rfl, rfl, by rw [ht]; exact hP, va_K.moved hW.alike hK, by rw [← hAe]; exact hD⟩, by rw [← hAe]; exact hS.F ht⟩) (fun q hq => by rw [← hAe]; exact hS.2.2 q hq) dX0_weight_52
  · exact absurd h (by omega)
end
section
set_option maxHeartbeats 4000000 in
set_option maxRecDepth 100000 in
theorem c_init0 (l : Launch) (dC : Nat → ClassId) (dI : Nat → Nat → Nat) (h0 sz : Nat) : Met l yX0_init (sd_ws yX0_init cX0_init 1 none) (sd_rm 1 1 8) (sd_Pw (dC, dI) vwCl [] [(h0, .inr (0, [.null, .int 0, .int 0]))] sz [.ref h0]) (va_Qv (fun (_ : ClassId × Nat) => True) (fun u t => va_P (dC, dI) vwCl (sd_O u.1 h0 u.2 2 (fun _ => 0)) t.heap ∧ va_K (dC, dI) vwCl [(u.1, .int)] t ∧ va_D (va_A [(h0, .inr (0, [.null, .int 0, .int 0]))] sz) (sd_O u.1 h0 u.2 2 (fun _ => 0))) (va_A [(h0, .inr (0, [.null, .int 0, .int 0]))] sz)) 1 8 (va_A [(h0, .inr (0, [.null, .int 0, .int 0]))] sz) := by
  refine Met.ofW (cc := cX0_init) (maxL := 1) (ret := none) (by decide) rfl ?_
  intro p e s m args below meth c s₁ B hml hv
  obtain ⟨rfl, hsz, hP, hK, hD0⟩ := hv
  subst hsz
  have hx := B.exec
  have hb := B.bytes
  have hr := B.returns
  have hts0 := atoms_spec (ws := (sd_ws yX0_init cX0_init 1 none)) B.pre
  have hts : ∀ w ∈ sd_WS, w.before _ s = true := fun w h => hts0 w (List.mem_cons_of_mem _ h)
  have hown : s.vm.findClass RX0 = some m.cls := findClass_of_methodNamed B.named
  have hlocks := B.notSynchronized
  have hl := lv_entry ([.ref h0]) (n := 1) (Nat.le_of_ble_eq_true rfl)
  rw [lg_entry_eq]
  generalize (lg_sl ([.ref h0]) ++ List.replicate (1 - (lg_sl ([.ref h0])).length) Slot.unset).toArray = ls at hl ⊢
  have hl : lv_has ls 1 [(0, .ref h0)] := hl
  obtain ⟨A, hAe⟩ : ∃ A, A = va_A [(h0, .inr (0, [.null, .int 0, .int 0]))] s.heap.size := ⟨_, rfl⟩
  have hD : va_D A [(h0, .inr (0, [.null, .int 0, .int 0]))] := by rw [hAe]; exact hD0.self
  have hA : ∀ q : Nat, s.heap.size ≤ q → A q := fun q h => by rw [hAe]; exact Or.inr h
  have hS : va_S A s.heap s.heap [] := va_S.rf
  have hin : meth.name = "<init>" := (name_of_methodNamed B.named B.method).1
  refine lv_aload_n hx hb dX0_init_0 rfl (lv_at hl 0 rfl) ?_
  refine W.objInit hx hb hown (hts (.methodLink RX0 1 objectInit) k_methodLink_X0_1) (hts (.instanceMethod objectInit) k_objI) (hts _ k_objC) rfl (by rw [hml]; exact hl.1) rfl dX0_init_1 (Nat.le_of_ble_eq_true rfl) (Nat.le_of_ble_eq_true rfl) ?_
  refine W.eq (g2 := F0 m 4 ls []) rfl ?_
  refine lv_aload_n hx hb dX0_init_4 rfl (lv_at hl 0 rfl) ?_
  refine lv_bipush (v := nI 8) hx hb dX0_init_5 (by decide +kernel) ?_
  have hc1 : 0 + 1 ≤ ((headSpec (sd_ws yX0_init cX0_init 1 none) (sd_rm 1 1 8)).room).cells := Nat.le_refl _
  have hs1 : 0 + 8 ≤ ((headSpec (sd_ws yX0_init cX0_init 1 none) (sd_rm 1 1 8)).room).slots := Nat.le_refl _
  refine va_newa (atype := .int) (ty := .int) (N' := 8) (a0 := (8, .inl (fun _ => 0))) hx hb (hts (.arrayClass .int) k_arrI) rfl hK hP hD hS hA (fun cA => rfl) (by decide +kernel) (by decide +kernel) (by decide +kernel) hc1 hs1 dX0_init_7 (fun a0 cA H hK hP hD hS => ?_)
  have hP : va_P (dC, dI) vwCl [(h0, .inr (0, [.null, .int 0, .int 0])), (a0, .inl (cA, 8, .inl (fun _ => 0)))] H := hP
  have hD : va_D A [(h0, .inr (0, [.null, .int 0, .int 0])), (a0, .inl (cA, 8, .inl (fun _ => 0)))] := hD
  have hK : va_K (dC, dI) vwCl [(cA, .int)] s := hK
  refine va_putF (D := (dC, dI)) (ci := 0) (v := .ref a0) (ty := .array .int) (C := RX0) (T := TX0) (N := 3) hx hb hts u_in_X0 tyX0 tyX0_ok nmX0 hown hK hP hD hS 0 rfl rfl 0 (by decide) (hts (.fieldLink RX0 9 "ShareDesk" "weights" "[I") k_fieldLink_X0_9) (fun _ h9 => h9) rfl hin rfl (by decide +kernel) rfl rfl (Nat.le_of_ble_eq_true rfl) dX0_init_9 (fun H locs hP hD hS => ?_)
  have hP : va_P (dC, dI) vwCl [(h0, .inr (0, [.ref a0, .int 0, .int 0])), (a0, .inl (cA, 8, .inl (fun _ => 0)))] H := hP
  have hD : va_D A [(h0, .inr (0, [.ref a0, .int 0, .int 0])), (a0, .inl (cA, 8, .inl (fun _ => 0)))] := hD
  refine lv_aload_n hx hb dX0_init_12 rfl (lv_at hl 0 rfl) ?_
  refine lv_iconst (v := (nI 2)) hx hb dX0_init_13 (by decide +kernel) ?_
  refine va_put (D := (dC, dI)) (ci := 0) (v := .int (nI 2)) (ty := .int) (C := RX0) (T := TX0) (N := 3) hx hb hts u_in_X0 tyX0 tyX0_ok nmX0 hown hK hP hD hS 0 rfl rfl 1 (by decide) (hts (.fieldLink RX0 13 "ShareDesk" "parties" "I") k_fieldLink_X0_13) (fun _ h9 => h9) rfl (by decide +kernel) rfl rfl (Nat.le_of_ble_eq_true rfl) dX0_init_14 (fun H locs hP hD hS => ?_)
  have hP : va_P (dC, dI) vwCl [(h0, .inr (0, [.ref a0, .int (nI 2), .int 0])), (a0, .inl (cA, 8, .inl (fun _ => 0)))] H := hP
  have hD : va_D A [(h0, .inr (0, [.ref a0, .int (nI 2), .int 0])), (a0, .inl (cA, 8, .inl (fun _ => 0)))] := hD
  refine lv_aload_n hx hb dX0_init_17 rfl (lv_at hl 0 rfl) ?_
  refine lv_iconst (v := (nI 0)) hx hb dX0_init_18 (by decide +kernel) ?_
  refine va_put (D := (dC, dI)) (ci := 0) (v := .int (nI 0)) (ty := .int) (C := RX0) (T := TX0) (N := 3) hx hb hts u_in_X0 tyX0 tyX0_ok nmX0 hown hK hP hD hS 0 rfl rfl 2 (by decide) (hts (.fieldLink RX0 17 "ShareDesk" "total" "I") k_fieldLink_X0_17) (fun _ h9 => h9) rfl (by decide +kernel) rfl rfl (Nat.le_of_ble_eq_true rfl) dX0_init_19 (fun H locs hP hD hS => ?_)
  have hP : va_P (dC, dI) vwCl [(h0, .inr (0, [.ref a0, .int (nI 2), .int (nI 0)])), (a0, .inl (cA, 8, .inl (fun _ => 0)))] H := hP
  have hD : va_D A [(h0, .inr (0, [.ref a0, .int (nI 2), .int (nI 0)])), (a0, .inl (cA, 8, .inl (fun _ => 0)))] := hD
  have e0 : (fun _ : Nat => (0 : Int32)) = fun _ => nI 0 := by funext z; exact nI_0.symm
  rw [e0] at hP hD
  have hP : va_P (dC, dI) vwCl (sd_O cA h0 a0 2 (fun _ => 0)) H := hP
  have hD : va_D A (sd_O cA h0 a0 2 (fun _ => 0)) := hD
  exact W.vret hx hb hr (fun t ht hW => ⟨⟨(cA, a0), rfl, trivial, by rw [ht]; exact hP, va_K.moved hW.alike hK, by rw [← hAe]; exact hD⟩, by rw [← hAe]; exact hS.F ht⟩) (fun q hq => by rw [← hAe]; exact hS.2.2 q hq) dX0_init_22
end
section
/-! The reference's world, and ranges of its arguments. -/
def sd_M (cL cZ : ClassId) (h1 a1 a2 a3 a4 er n : Nat) (w : Nat → Nat) (sh ke : Nat → Int64) (go : Nat → Int32) : va_W :=
  [(h1, .inr (1, [.int (nI er), .int (nI n), .ref a1, .ref a2, .ref a3, .ref a4])), (a1, .inl (cL, 8, .inr (.inl (fun z => lN (w z))))), (a2, .inl (cL, 8, .inr (.inl sh))), (a3, .inl (cL, 8, .inr (.inl ke))), (a4, .inl (cZ, 8, .inl go))]
abbrev sd_S : Type := (Nat → Int64) × (Nat → Int64) × (Nat → Int32)
def sd_bi (b : Bool) : Int32 := if b then nI 1 else nI 0
def sd_in3 (v a b : Int64) : Bool := decide (a ≤ v) && decide (v ≤ b)
/-- an int between two numbers, as the reference asks it -/
def sd_rg (x : Int32) (a b : Nat) : Bool := sd_in3 x.toInt64 (lN a) (lN b)
theorem sd_bi_nar (b : Bool) : narrow .boolean (.int (sd_bi b)) = .int (sd_bi b) := by cases b <;> rfl
theorem sd_bi_0 {b : Bool} : sd_bi b = 0 ↔ b = false := by
  cases b
  · exact ⟨fun _ => rfl, fun _ => by decide +kernel⟩
  · exact ⟨fun h => absurd h (by decide +kernel), fun h => by cases h⟩
theorem sd_rgI {x : Int32} {a b : Nat} (ha : a < 2 ^ 31) (hb : b < 2 ^ 31) : sd_rg x a b = (decide ((a : Int) ≤ x.toInt) && decide (x.toInt ≤ (b : Int))) := by
  unfold sd_rg sd_in3
  have e := Jvm.Kit.i64_of_i32 x
  have h1 : (lN a ≤ x.toInt64) ↔ (a : Int) ≤ x.toInt := by rw [Int64.le_iff_toInt_le, e, pk_lT (by omega)]
  have h2 : (x.toInt64 ≤ lN b) ↔ x.toInt ≤ (b : Int) := by rw [Int64.le_iff_toInt_le, e, pk_lT (by omega)]
  rw [decide_eq_decide.mpr h1, decide_eq_decide.mpr h2]
theorem sd_rg_yes {x : Int32} {a b : Nat} (ha : a < 2 ^ 31) (hb : b < 2 ^ 31) (h : sd_rg x a b = true) : ∃ j, a ≤ j ∧ j ≤ b ∧ x = nI j := by
  rw [sd_rgI ha hb, Bool.and_eq_true, decide_eq_true_eq, decide_eq_true_eq] at h
  refine ⟨x.toInt.toNat, by omega, by omega, Int32.toInt_inj.mp ?_⟩
  rw [nI_toInt (by omega)]
  omega
theorem sd_rg_no {x : Int32} {a b : Nat} (ha : a < 2 ^ 31) (hb : b < 2 ^ 31) (h : sd_rg x a b = false) : x < nI a ∨ nI b < x := by
  rw [sd_rgI ha hb, Bool.and_eq_false_iff, decide_eq_false_iff_not, decide_eq_false_iff_not] at h
  rcases h with h | h
  · left; rw [Int32.lt_iff_toInt_lt, nI_toInt ha]; omega
  · right; rw [Int32.lt_iff_toInt_lt, nI_toInt hb]; omega
theorem sd_rg_nI {j a b : Nat} (ha : a < 2 ^ 31) (hb : b < 2 ^ 31) (h1 : a ≤ j) (h2 : j ≤ b) : sd_rg (nI j) a b = true := by
  rw [sd_rgI ha hb, nI_toInt (by omega), Bool.and_eq_true, decide_eq_true_eq, decide_eq_true_eq]
  omega
section SDB
variable {p : Program} {l : Launch} {e : Env} {R : Room} {s : State} {m : MethodId} {args : Array Value} {below : List Frame} {meth : Method} {c : Code} {H : Heap} {locs : List Loc} {cells slots : Nat} {Q : State → Prop} {cc : ByteArray} {pc : Nat} {ls : Array Slot} {rest : List Value}
theorem sd_bz_eq (hexec : p.tables.exec = Jvm.exec) (hb : c.code = cc) {b : Bool} {off : Int} {tgt : Nat} (hdg : decode cc pc = .ok (.ifCond .eq off, 3)) (ht : (pc : Int) + off = (tgt : Int)) (kt : b = false → W p l e R s m args below meth c H locs cells slots Q (F0 m tgt ls rest)) (kf : b = true → W p l e R s m args below meth c H locs cells slots Q (F0 m (pc + 3) ls rest)) : W p l e R s m args below meth c H locs cells slots Q (F0 m pc ls (.int (sd_bi b) :: rest)) :=
  lv_if_eq hexec hb hdg ht (fun h => kt (sd_bi_0.mp h)) (fun h => kf (by cases b; exact absurd (sd_bi_0.mpr rfl) h; rfl))
theorem sd_bz_ne (hexec : p.tables.exec = Jvm.exec) (hb : c.code = cc) {b : Bool} {off : Int} {tgt : Nat} (hdg : decode cc pc = .ok (.ifCond .ne off, 3)) (ht : (pc : Int) + off = (tgt : Int)) (kt : b = true → W p l e R s m args below meth c H locs cells slots Q (F0 m tgt ls rest)) (kf : b = false → W p l e R s m args below meth c H locs cells slots Q (F0 m (pc + 3) ls rest)) : W p l e R s m args below meth c H locs cells slots Q (F0 m pc ls (.int (sd_bi b) :: rest)) :=
  lv_if_ne hexec hb hdg ht (fun h => kt (by cases b; exact absurd (sd_bi_0.mpr rfl) h; rfl)) (fun h => kf (sd_bi_0.mp h))
end SDB
end
section
theorem sd_nm_none {f g : Nat → Nat} {i : Nat} (h : sd_nm f g i = none) : ∀ n, i ≤ n → sd_nm f g n = none := by
  intro n hn
  induction n with
  | zero => rw [show i = 0 by omega] at h; exact h
  | succ n ih =>
    by_cases e : i = n + 1
    · rw [← e]; exact h
    · have := ih (by omega)
      unfold sd_nm
      rw [this]
end
section
/-! More words of the tables: by program. -/
theorem k_arrL : .arrayClass .long ∈ sd_WS := sd_in (List.mem_append_right _ (List.mem_of_getElem? (i := 244) rfl)) (by decide +kernel)
theorem k_arrZ : .arrayClass .boolean ∈ sd_WS := sd_in (List.mem_append_right _ (List.mem_of_getElem? (i := 245) rfl)) (by decide +kernel)
theorem k_code_X1_all : .code yX1_all cX1_all 4 (some .long) ∈ sd_WS := sd_in (List.mem_append_right _ (List.mem_of_getElem? (i := 283) rfl)) (by decide +kernel)
theorem k_code_X1_fails : .code yX1_fails cX1_fails 3 (some .boolean) ∈ sd_WS := sd_in (List.mem_append_right _ (List.mem_of_getElem? (i := 261) rfl)) (by decide +kernel)
theorem k_code_X1_give : .code yX1_give cX1_give 4 none ∈ sd_WS := sd_in (List.mem_append_right _ (List.mem_of_getElem? (i := 287) rfl)) (by decide +kernel)
theorem k_code_X1_in : .code yX1_in cX1_in 6 (some .boolean) ∈ sd_WS := sd_in (List.mem_append_right _ (List.mem_of_getElem? (i := 257) rfl)) (by decide +kernel)
theorem k_code_X1_isParty : .code yX1_isParty cX1_isParty 2 (some .boolean) ∈ sd_WS := sd_in (List.mem_append_right _ (List.mem_of_getElem? (i := 269) rfl)) (by decide +kernel)
theorem k_code_X1_isWay : .code yX1_isWay cX1_isWay 1 (some .boolean) ∈ sd_WS := sd_in (List.mem_append_right _ (List.mem_of_getElem? (i := 277) rfl)) (by decide +kernel)
theorem k_code_X1_one : .code yX1_one cX1_one 4 none ∈ sd_WS := sd_in (List.mem_append_right _ (List.mem_of_getElem? (i := 295) rfl)) (by decide +kernel)
theorem k_code_X1_parts : .code yX1_parts cX1_parts 8 none ∈ sd_WS := sd_in (List.mem_append_right _ (List.mem_of_getElem? (i := 291) rfl)) (by decide +kernel)
theorem k_constantLong_X1_34 : .constantLong RX1 34 2 ∈ sd_WS := sd_in (List.mem_append_right _ (List.mem_of_getElem? (i := 278) rfl)) (by decide +kernel)
theorem k_constantLong_X1_36 : .constantLong RX1 36 8 ∈ sd_WS := sd_in (List.mem_append_right _ (List.mem_of_getElem? (i := 254) rfl)) (by decide +kernel)
theorem k_constantLong_X1_46 : .constantLong RX1 46 100000 ∈ sd_WS := sd_in (List.mem_append_right _ (List.mem_of_getElem? (i := 270) rfl)) (by decide +kernel)
theorem k_constantLong_X1_62 : .constantLong RX1 62 10000 ∈ sd_WS := sd_in (List.mem_append_right _ (List.mem_of_getElem? (i := 279) rfl)) (by decide +kernel)
theorem k_constantLong_X1_68 : .constantLong RX1 68 9999 ∈ sd_WS := sd_in (List.mem_append_right _ (List.mem_of_getElem? (i := 304) rfl)) (by decide +kernel)
theorem k_fieldLink_X1_13 : .fieldLink RX1 13 "ShareDeskModel" "weights" "[J" ∈ sd_WS := sd_in (List.mem_append_right _ (List.mem_of_getElem? (i := 227) rfl)) (by decide +kernel)
theorem k_fieldLink_X1_17 : .fieldLink RX1 17 "ShareDeskModel" "shares" "[J" ∈ sd_WS := sd_in (List.mem_append_right _ (List.mem_of_getElem? (i := 228) rfl)) (by decide +kernel)
theorem k_fieldLink_X1_20 : .fieldLink RX1 20 "ShareDeskModel" "kept" "[J" ∈ sd_WS := sd_in (List.mem_append_right _ (List.mem_of_getElem? (i := 229) rfl)) (by decide +kernel)
theorem k_fieldLink_X1_23 : .fieldLink RX1 23 "ShareDeskModel" "got" "[Z" ∈ sd_WS := sd_in (List.mem_append_right _ (List.mem_of_getElem? (i := 230) rfl)) (by decide +kernel)
theorem k_fieldLink_X1_27 : .fieldLink RX1 27 "ShareDeskModel" "err" "I" ∈ sd_WS := sd_in (List.mem_append_right _ (List.mem_of_getElem? (i := 225) rfl)) (by decide +kernel)
theorem k_fieldLink_X1_7 : .fieldLink RX1 7 "ShareDeskModel" "parties" "I" ∈ sd_WS := sd_in (List.mem_append_right _ (List.mem_of_getElem? (i := 226) rfl)) (by decide +kernel)
theorem k_init_ShareDeskModel : .initialized RX1 ∈ sd_WS := sd_in (List.mem_append_right _ (List.mem_of_getElem? (i := 2) rfl)) (by decide +kernel)
theorem k_instanceMethod_X1_all : .instanceMethod yX1_all ∈ sd_WS := sd_in (List.mem_append_right _ (List.mem_of_getElem? (i := 282) rfl)) (by decide +kernel)
theorem k_instanceMethod_X1_fails : .instanceMethod yX1_fails ∈ sd_WS := sd_in (List.mem_append_right _ (List.mem_of_getElem? (i := 260) rfl)) (by decide +kernel)
theorem k_instanceMethod_X1_give : .instanceMethod yX1_give ∈ sd_WS := sd_in (List.mem_append_right _ (List.mem_of_getElem? (i := 286) rfl)) (by decide +kernel)
theorem k_instanceMethod_X1_isParty : .instanceMethod yX1_isParty ∈ sd_WS := sd_in (List.mem_append_right _ (List.mem_of_getElem? (i := 268) rfl)) (by decide +kernel)
theorem k_instanceMethod_X1_one : .instanceMethod yX1_one ∈ sd_WS := sd_in (List.mem_append_right _ (List.mem_of_getElem? (i := 294) rfl)) (by decide +kernel)
theorem k_instanceMethod_X1_parts : .instanceMethod yX1_parts ∈ sd_WS := sd_in (List.mem_append_right _ (List.mem_of_getElem? (i := 290) rfl)) (by decide +kernel)
theorem k_methodLink_X1_1 : .methodLink RX1 1 objectInit ∈ sd_WS := sd_in (List.mem_append_right _ (List.mem_of_getElem? (i := 224) rfl)) (by decide +kernel)
theorem k_methodLink_X1_30 : .methodLink RX1 30 yX1_in ∈ sd_WS := sd_in (List.mem_append_right _ (List.mem_of_getElem? (i := 255) rfl)) (by decide +kernel)
theorem k_methodLink_X1_38 : .methodLink RX1 38 yX1_fails ∈ sd_WS := sd_in (List.mem_append_right _ (List.mem_of_getElem? (i := 258) rfl)) (by decide +kernel)
theorem k_methodLink_X1_42 : .methodLink RX1 42 yX1_isParty ∈ sd_WS := sd_in (List.mem_append_right _ (List.mem_of_getElem? (i := 266) rfl)) (by decide +kernel)
theorem k_methodLink_X1_48 : .methodLink RX1 48 yX1_all ∈ sd_WS := sd_in (List.mem_append_right _ (List.mem_of_getElem? (i := 280) rfl)) (by decide +kernel)
theorem k_methodLink_X1_52 : .methodLink RX1 52 yX1_parts ∈ sd_WS := sd_in (List.mem_append_right _ (List.mem_of_getElem? (i := 288) rfl)) (by decide +kernel)
theorem k_methodLink_X1_56 : .methodLink RX1 56 yX1_one ∈ sd_WS := sd_in (List.mem_append_right _ (List.mem_of_getElem? (i := 292) rfl)) (by decide +kernel)
theorem k_methodLink_X1_59 : .methodLink RX1 59 yX1_isWay ∈ sd_WS := sd_in (List.mem_append_right _ (List.mem_of_getElem? (i := 275) rfl)) (by decide +kernel)
theorem k_methodLink_X1_64 : .methodLink RX1 64 yX1_give ∈ sd_WS := sd_in (List.mem_append_right _ (List.mem_of_getElem? (i := 284) rfl)) (by decide +kernel)
theorem k_sel_X1_all : .selects RX1 yX1_all yX1_all ∈ sd_WS := sd_in (List.mem_append_left _ (List.mem_of_getElem? (i := 13) rfl)) (by decide +kernel)
theorem k_sel_X1_fails : .selects RX1 yX1_fails yX1_fails ∈ sd_WS := sd_in (List.mem_append_left _ (List.mem_of_getElem? (i := 11) rfl)) (by decide +kernel)
theorem k_sel_X1_give : .selects RX1 yX1_give yX1_give ∈ sd_WS := sd_in (List.mem_append_left _ (List.mem_of_getElem? (i := 14) rfl)) (by decide +kernel)
theorem k_sel_X1_isParty : .selects RX1 yX1_isParty yX1_isParty ∈ sd_WS := sd_in (List.mem_append_left _ (List.mem_of_getElem? (i := 12) rfl)) (by decide +kernel)
theorem k_sel_X1_one : .selects RX1 yX1_one yX1_one ∈ sd_WS := sd_in (List.mem_append_left _ (List.mem_of_getElem? (i := 16) rfl)) (by decide +kernel)
theorem k_sel_X1_parts : .selects RX1 yX1_parts yX1_parts ∈ sd_WS := sd_in (List.mem_append_left _ (List.mem_of_getElem? (i := 15) rfl)) (by decide +kernel)
theorem k_static_X1_in : .static yX1_in ∈ sd_WS := sd_in (List.mem_append_right _ (List.mem_of_getElem? (i := 256) rfl)) (by decide +kernel)
theorem k_static_X1_isWay : .static yX1_isWay ∈ sd_WS := sd_in (List.mem_append_right _ (List.mem_of_getElem? (i := 276) rfl)) (by decide +kernel)
end
section
set_option maxHeartbeats 4000000 in
set_option maxRecDepth 100000 in
theorem m_in (l : Launch) (dC : Nat → ClassId) (dI : Nat → Nat → Nat) (v a b : Int64) : Met l yX1_in (sd_ws yX1_in cX1_in 6 (some .boolean)) (sd_rm 0 0 0) (sd_Pp (dC, dI) vwCl [] [] [.long v, .long a, .long b]) (vp_Si (fun r => r = sd_bi (sd_in3 v a b))) 0 0 (fun _ => False) := by
  refine Met.ofW (cc := cX1_in) (maxL := 6) (ret := (some .boolean)) (by decide) rfl ?_
  intro p e s m args below meth c s₁ B hml hv
  obtain ⟨rfl, hP, hK⟩ := hv
  have hx := B.exec
  have hb := B.bytes
  have hr := B.returns
  have hts0 := atoms_spec (ws := (sd_ws yX1_in cX1_in 6 (some .boolean))) B.pre
  have hts : ∀ w ∈ sd_WS, w.before _ s = true := fun w h => hts0 w (List.mem_cons_of_mem _ h)
  have hown : s.vm.findClass RX1 = some m.cls := findClass_of_methodNamed B.named
  have hlocks := B.notSynchronized
  have hl := lv_entry ([.long v, .long a, .long b]) (n := 6) (Nat.le_of_ble_eq_true rfl)
  rw [lg_entry_eq]
  generalize (lg_sl ([.long v, .long a, .long b]) ++ List.replicate (6 - (lg_sl ([.long v, .long a, .long b])).length) Slot.unset).toArray = ls at hl ⊢
  have hl : lv_has ls 6 [(0, .long v), (2, .long a), (4, .long b)] := hl
  refine lv_lload_n hx hb dX1_in_0 rfl (lv_at hl 0 rfl) ?_
  refine lv_lload_n hx hb dX1_in_1 rfl (lv_at hl 1 rfl) ?_
  refine sd_lif_lt (tgt := 17) hx hb dX1_in_2 dX1_in_3 (by decide) (fun h => ?_) (fun h => ?_)
  · refine lv_iconst (v := (nI 0)) hx hb dX1_in_17 (by decide +kernel) ?_
    exact W.zret hx hb hr rfl (fun t ht hW => ⟨_, rfl, (by unfold sd_in3; rw [decide_eq_false (Int64.not_le.mpr h)]; rfl), ht⟩) (fun q hq => nomatch hq) dX1_in_18
  · have hav := h
    refine lv_lload_n hx hb dX1_in_6 rfl (lv_at hl 0 rfl) ?_
    refine lv_lload hx hb dX1_in_7 (lv_at hl 2 rfl) ?_
    refine sd_lif_gt (tgt := 17) hx hb dX1_in_9 dX1_in_10 (by decide) (fun h => ?_) (fun h => ?_)
    · refine lv_iconst (v := (nI 0)) hx hb dX1_in_17 (by decide +kernel) ?_
      exact W.zret hx hb hr rfl (fun t ht hW => ⟨_, rfl, (by unfold sd_in3; rw [decide_eq_false (Int64.not_le.mpr h), Bool.and_false]; rfl), ht⟩) (fun q hq => nomatch hq) dX1_in_18
    · refine lv_iconst (v := (nI 1)) hx hb dX1_in_13 (by decide +kernel) ?_
      refine lv_goto (tgt := 18) hx hb dX1_in_14 (by decide) ?_
      exact W.zret hx hb hr rfl (fun t ht hW => ⟨_, rfl, (by unfold sd_in3; rw [decide_eq_true hav, decide_eq_true h]; rfl), ht⟩) (fun q hq => nomatch hq) dX1_in_18
set_option maxHeartbeats 4000000 in
set_option maxRecDepth 100000 in
theorem m_isWay (l : Launch) (dC : Nat → ClassId) (dI : Nat → Nat → Nat) (x : Int32) : Met l yX1_isWay (sd_ws yX1_isWay cX1_isWay 1 (some .boolean)) (sd_rm 1 0 0) (sd_Pp (dC, dI) vwCl [] [] [.int x]) (vp_Si (fun r => r = sd_bi (sd_rg x 0 2))) 0 0 (fun _ => False) := by
  refine Met.ofW (cc := cX1_isWay) (maxL := 1) (ret := (some .boolean)) (by decide) rfl ?_
  intro p e s m args below meth c s₁ B hml hv
  obtain ⟨rfl, hP, hK⟩ := hv
  have hx := B.exec
  have hb := B.bytes
  have hr := B.returns
  have hts0 := atoms_spec (ws := (sd_ws yX1_isWay cX1_isWay 1 (some .boolean))) B.pre
  have hts : ∀ w ∈ sd_WS, w.before _ s = true := fun w h => hts0 w (List.mem_cons_of_mem _ h)
  have hown : s.vm.findClass RX1 = some m.cls := findClass_of_methodNamed B.named
  have hlocks := B.notSynchronized
  have hl := lv_entry ([.int x]) (n := 1) (Nat.le_of_ble_eq_true rfl)
  rw [lg_entry_eq]
  generalize (lg_sl ([.int x]) ++ List.replicate (1 - (lg_sl ([.int x])).length) Slot.unset).toArray = ls at hl ⊢
  have hl : lv_has ls 1 [(0, .int x)] := hl
  refine lv_iload_n hx hb dX1_isWay_0 rfl (lv_at hl 0 rfl) ?_
  refine lv_i2l (v := x.toInt64) hx hb dX1_isWay_1 rfl ?_
  refine lv_lconst (v := lN 0) hx hb dX1_isWay_2 rfl ?_
  refine lv_ldc2 (v := 2) hx hb hown (hts (.constantLong RX1 34 2) k_constantLong_X1_34) dX1_isWay_3 ?_
  refine sd_topl (y := lN 2) (by decide +kernel) ?_
  refine sd_calli (va_runS (As := [.long (x.toInt64), .long (lN 0), .long (lN 2)]) (rest := []) ⟨hx, hb, hml, hown, hts0⟩ (m_in l dC dI x.toInt64 (lN 0) (lN 2)) (cwS 3 hts0 (sd_gS k_methodLink_X1_30 k_static_X1_in k_init_ShareDeskModel k_code_X1_in) rfl rfl rfl (by decide +kernel) ⟨Nat.le_of_ble_eq_true rfl, Nat.le_of_ble_eq_true rfl⟩) (sd_preS (sd_K0 hK) (sd_nil _ _ _)) rfl rfl hl.1 rfl (lv_room (Nat.le_of_ble_eq_true rfl)) dX1_isWay_6 ⟨Nat.zero_le _, Nat.zero_le _⟩) ?_
  exact W.zret hx hb hr (sd_bi_nar _) (fun t ht hW => ⟨_, rfl, rfl, ht⟩) (fun q hq => nomatch hq) dX1_isWay_9
set_option maxHeartbeats 4000000 in
set_option maxRecDepth 100000 in
theorem m_isParty (l : Launch) (dC : Nat → ClassId) (dI : Nat → Nat → Nat) (cL cZ : ClassId) (h1 a1 a2 a3 a4 er n : Nat) (w : Nat → Nat) (sh ke : Nat → Int64) (go : Nat → Int32) (hn1 : 1 ≤ n) (hn8 : n ≤ 8) (x : Int32) : Met l yX1_isParty (sd_ws yX1_isParty cX1_isParty 2 (some .boolean)) (sd_rm 1 0 0) (sd_Pp (dC, dI) vwCl [(cL, .long), (cZ, .boolean)] (sd_M cL cZ h1 a1 a2 a3 a4 er n w sh ke go) [.ref h1, .int x]) (vp_Si (fun r => r = sd_bi (sd_rg x 0 (n - 1)))) 0 0 (fun _ => False) := by
  refine Met.ofW (cc := cX1_isParty) (maxL := 2) (ret := (some .boolean)) (by decide) rfl ?_
  intro p e s m args below meth c s₁ B hml hv
  obtain ⟨rfl, hP, hK⟩ := hv
  have hx := B.exec
  have hb := B.bytes
  have hr := B.returns
  have hts0 := atoms_spec (ws := (sd_ws yX1_isParty cX1_isParty 2 (some .boolean))) B.pre
  have hts : ∀ w ∈ sd_WS, w.before _ s = true := fun w h => hts0 w (List.mem_cons_of_mem _ h)
  have hown : s.vm.findClass RX1 = some m.cls := findClass_of_methodNamed B.named
  have hlocks := B.notSynchronized
  have hl := lv_entry ([.ref h1, .int x]) (n := 2) (Nat.le_of_ble_eq_true rfl)
  rw [lg_entry_eq]
  generalize (lg_sl ([.ref h1, .int x]) ++ List.replicate (2 - (lg_sl ([.ref h1, .int x])).length) Slot.unset).toArray = ls at hl ⊢
  have hl : lv_has ls 2 [(0, .ref h1), (1, .int x)] := hl
  have hP : va_P (dC, dI) vwCl [(h1, .inr (1, [.int (nI er), .int (nI n), .ref a1, .ref a2, .ref a3, .ref a4])), (a1, .inl (cL, 8, .inr (.inl (fun z => lN (w z))))), (a2, .inl (cL, 8, .inr (.inl sh))), (a3, .inl (cL, 8, .inr (.inl ke))), (a4, .inl (cZ, 8, .inl go))] s.heap := hP
  refine lv_iload_n hx hb dX1_isParty_0 rfl (lv_at hl 1 rfl) ?_
  refine lv_i2l (v := x.toInt64) hx hb dX1_isParty_1 rfl ?_
  refine lv_lconst (v := lN 0) hx hb dX1_isParty_2 rfl ?_
  refine lv_aload_n hx hb dX1_isParty_3 rfl (lv_at hl 0 rfl) ?_
  refine va_get (D := (dC, dI)) (ci := 1) (v := .int (nI n)) (C := RX1) (T := TX1) (N := 6) hx hb hts u_in_X1 hown hK hP 0 rfl rfl 1 (by decide) (hts (.fieldLink RX1 7 "ShareDeskModel" "parties" "I") k_fieldLink_X1_7) (fun _ h9 => h9) rfl dX1_isParty_4 ?_
  refine lv_iconst (v := (nI 1)) hx hb dX1_isParty_7 (by decide +kernel) ?_
  refine sd_isub (v := nI (n - 1)) hx hb dX1_isParty_8 (pk_sub (by omega)) ?_
  refine lv_i2l (v := lN (n - 1)) hx hb dX1_isParty_9 (nI_l (by omega)) ?_
  refine sd_calli (va_runS (As := [.long (x.toInt64), .long (lN 0), .long (lN (n - 1))]) (rest := []) ⟨hx, hb, hml, hown, hts0⟩ (m_in l dC dI x.toInt64 (lN 0) (lN (n - 1))) (cwS 3 hts0 (sd_gS k_methodLink_X1_30 k_static_X1_in k_init_ShareDeskModel k_code_X1_in) rfl rfl rfl (by decide +kernel) ⟨Nat.le_of_ble_eq_true rfl, Nat.le_of_ble_eq_true rfl⟩) (sd_preS (sd_K0 hK) (sd_nil _ _ _)) rfl rfl hl.1 rfl (lv_room (Nat.le_of_ble_eq_true rfl)) dX1_isParty_10 ⟨Nat.zero_le _, Nat.zero_le _⟩) ?_
  exact W.zret hx hb hr (sd_bi_nar _) (fun t ht hW => ⟨_, rfl, rfl, ht⟩) (fun q hq => nomatch hq) dX1_isParty_13
set_option maxHeartbeats 4000000 in
set_option maxRecDepth 100000 in
theorem m_thrown (l : Launch) (dC : Nat → ClassId) (dI : Nat → Nat → Nat) (cL cZ : ClassId) (h1 a1 a2 a3 a4 er n : Nat) (w : Nat → Nat) (sh ke : Nat → Int64) (go : Nat → Int32)  : Met l yX1_thrown (sd_ws yX1_thrown cX1_thrown 1 (some .int)) (sd_rm 0 0 0) (sd_Pp (dC, dI) vwCl [(cL, .long), (cZ, .boolean)] (sd_M cL cZ h1 a1 a2 a3 a4 er n w sh ke go) [.ref h1]) (vp_Si (fun r => r = nI er)) 0 0 (fun _ => False) := by
  refine Met.ofW (cc := cX1_thrown) (maxL := 1) (ret := (some .int)) (by decide) rfl ?_
  intro p e s m args below meth c s₁ B hml hv
  obtain ⟨rfl, hP, hK⟩ := hv
  have hx := B.exec
  have hb := B.bytes
  have hr := B.returns
  have hts0 := atoms_spec (ws := (sd_ws yX1_thrown cX1_thrown 1 (some .int))) B.pre
  have hts : ∀ w ∈ sd_WS, w.before _ s = true := fun w h => hts0 w (List.mem_cons_of_mem _ h)
  have hown : s.vm.findClass RX1 = some m.cls := findClass_of_methodNamed B.named
  have hlocks := B.notSynchronized
  have hl := lv_entry ([.ref h1]) (n := 1) (Nat.le_of_ble_eq_true rfl)
  rw [lg_entry_eq]
  generalize (lg_sl ([.ref h1]) ++ List.replicate (1 - (lg_sl ([.ref h1])).length) Slot.unset).toArray = ls at hl ⊢
  have hl : lv_has ls 1 [(0, .ref h1)] := hl
  have hP : va_P (dC, dI) vwCl [(h1, .inr (1, [.int (nI er), .int (nI n), .ref a1, .ref a2, .ref a3, .ref a4])), (a1, .inl (cL, 8, .inr (.inl (fun z => lN (w z))))), (a2, .inl (cL, 8, .inr (.inl sh))), (a3, .inl (cL, 8, .inr (.inl ke))), (a4, .inl (cZ, 8, .inl go))] s.heap := hP
  refine lv_aload_n hx hb dX1_thrown_0 rfl (lv_at hl 0 rfl) ?_
  refine va_get (D := (dC, dI)) (ci := 1) (v := .int (nI er)) (C := RX1) (T := TX1) (N := 6) hx hb hts u_in_X1 hown hK hP 0 rfl rfl 0 (by decide) (hts (.fieldLink RX1 27 "ShareDeskModel" "err" "I") k_fieldLink_X1_27) (fun _ h9 => h9) rfl dX1_thrown_1 ?_
  exact W.iret hx hb hr (fun t ht hW => ⟨_, rfl, rfl, ht⟩) (fun q hq => nomatch hq) dX1_thrown_4
set_option maxHeartbeats 4000000 in
set_option maxRecDepth 100000 in
theorem lp_all {p : Program} {l : Launch} {e : Env} {R : Room} {s : State} {m : MethodId} {args : Array Value} {below : List Frame} {meth : Method} {c : Code} {H : Heap} {locs : List Loc} {cells slots : Nat} {Q : State → Prop} (hx : p.tables.exec = Jvm.exec) (hb : c.code = cX1_all) (hml : c.maxLocals = 4) (hts0 : ∀ w ∈ (sd_ws yX1_all cX1_all 4 (some .long)), w.before args s = true) (hown : s.vm.findClass RX1 = some m.cls) {dC : Nat → ClassId} {dI : Nat → Nat → Nat} {cL cZ : ClassId} {h1 a1 a2 a3 a4 er n : Nat} {w : Nat → Nat} {sh ke : Nat → Int64} {go : Nat → Int32} (hK : va_K (dC, dI) vwCl [(cL, .long), (cZ, .boolean)] s) (hP : va_P (dC, dI) vwCl (sd_M cL cZ h1 a1 a2 a3 a4 er n w sh ke go) H) (hn8 : n ≤ 8)
    (kk : ∀ ls : Array Slot, lv_has ls 4 [(0, .ref h1), (1, .long (lN (sd_sum w n))), (3, .int (nI n))] → W p l e R s m args below meth c H locs cells slots Q (F0 m 27 ls []))
    : ∀ (f i : Nat), i + f = n → ∀ ls : Array Slot, lv_has ls 4 [(0, .ref h1), (1, .long (lN (sd_sum w i))), (3, .int (nI i))] → W p l e R s m args below meth c H locs cells slots Q (F0 m 4 ls []) := by
  have hts : ∀ w ∈ sd_WS, w.before args s = true := fun w h => hts0 w (List.mem_cons_of_mem _ h)
  have hP : va_P (dC, dI) vwCl [(h1, .inr (1, [.int (nI er), .int (nI n), .ref a1, .ref a2, .ref a3, .ref a4])), (a1, .inl (cL, 8, .inr (.inl (fun z => lN (w z))))), (a2, .inl (cL, 8, .inr (.inl sh))), (a3, .inl (cL, 8, .inr (.inl ke))), (a4, .inl (cZ, 8, .inl go))] H := hP
  intro f
  induction f using Nat.strongRecOn with
  | ind f ih0 =>
    intro i hi ls hl
    have ih : i < n → ∀ ls : Array Slot, lv_has ls 4 [(0, .ref h1), (1, .long (lN (sd_sum w (i + 1)))), (3, .int (nI (i + 1)))] → W p l e R s m args below meth c H locs cells slots Q (F0 m 4 ls []) := fun hlt => ih0 (f - 1) (by omega) (i + 1) (by omega)
    refine lv_iload_n hx hb dX1_all_4 rfl (lv_at hl 2 rfl) ?_
    refine lv_aload_n hx hb dX1_all_5 rfl (lv_at hl 0 rfl) ?_
    refine va_get (D := (dC, dI)) (ci := 1) (v := .int (nI n)) (C := RX1) (T := TX1) (N := 6) hx hb hts u_in_X1 hown hK hP 0 rfl rfl 1 (by decide) (hts (.fieldLink RX1 7 "ShareDeskModel" "parties" "I") k_fieldLink_X1_7) (fun _ h9 => h9) rfl dX1_all_6 ?_
    refine sd_ic_ge (a := i) (b := n) (tgt := 27) hx hb dX1_all_9 (by decide) (by omega) (by omega) (fun h => ?_) (fun h => ?_)
    · have hin : i = n := by omega
      subst hin
      exact kk ls hl
    · refine lv_lload_n hx hb dX1_all_12 rfl (lv_at hl 1 rfl) ?_
      refine lv_aload_n hx hb dX1_all_13 rfl (lv_at hl 0 rfl) ?_
      refine va_get (D := (dC, dI)) (ci := 1) (v := .ref a1) (C := RX1) (T := TX1) (N := 6) hx hb hts u_in_X1 hown hK hP 0 rfl rfl 2 (by decide) (hts (.fieldLink RX1 13 "ShareDeskModel" "weights" "[J") k_fieldLink_X1_13) (fun _ h9 => h9) rfl dX1_all_14 ?_
      refine lv_iload_n hx hb dX1_all_17 rfl (lv_at hl 2 rfl) ?_
      refine sd_lald (j := i) (v := lN (w i)) hx hb hK hP 1 0 rfl rfl (by omega) (by decide) rfl dX1_all_18 ?_
      refine sd_ladd (v := lN ((sd_sum w i) + (w i))) hx hb dX1_all_19 (lN_add _ _) ?_
      refine lv_lstore_n hx hb dX1_all_20 rfl hl (by decide) rfl (fun ls hl => ?_)
      have hl : lv_has ls 4 [(1, .long (lN ((sd_sum w i) + (w i)))), (0, .ref h1), (3, .int (nI i))] := hl
      refine lv_iinc (k := 2) (v := nI (i + 1)) hx hb dX1_all_21 hl rfl (nI_add _ 1) (by decide) rfl (fun ls hl => ?_)
      have hl : lv_has ls 4 [(3, .int (nI (i + 1))), (1, .long (lN ((sd_sum w i) + (w i)))), (0, .ref h1)] := hl
      refine lv_goto (tgt := 4) hx hb dX1_all_24 (by decide) ?_
      have hl := lv_sub (l' := [(0, .ref h1), (1, .long (lN ((sd_sum w i) + (w i)))), (3, .int (nI (i + 1)))]) hl [2, 1, 0] rfl
      exact ih (by omega) ls hl
set_option maxHeartbeats 4000000 in
set_option maxRecDepth 100000 in
theorem m_all (l : Launch) (dC : Nat → ClassId) (dI : Nat → Nat → Nat) (cL cZ : ClassId) (h1 a1 a2 a3 a4 er n : Nat) (w : Nat → Nat) (sh ke : Nat → Int64) (go : Nat → Int32) (hn8 : n ≤ 8) : Met l yX1_all (sd_ws yX1_all cX1_all 4 (some .long)) (sd_rm 0 0 0) (sd_Pp (dC, dI) vwCl [(cL, .long), (cZ, .boolean)] (sd_M cL cZ h1 a1 a2 a3 a4 er n w sh ke go) [.ref h1]) (vp_Sl (fun r => r = lN (sd_sum w n))) 0 0 (fun _ => False) := by
  refine Met.ofW (cc := cX1_all) (maxL := 4) (ret := (some .long)) (by decide) rfl ?_
  intro p e s m args below meth c s₁ B hml hv
  obtain ⟨rfl, hP, hK⟩ := hv
  have hx := B.exec
  have hb := B.bytes
  have hr := B.returns
  have hts0 := atoms_spec (ws := (sd_ws yX1_all cX1_all 4 (some .long))) B.pre
  have hts : ∀ w ∈ sd_WS, w.before _ s = true := fun w h => hts0 w (List.mem_cons_of_mem _ h)
  have hown : s.vm.findClass RX1 = some m.cls := findClass_of_methodNamed B.named
  have hlocks := B.notSynchronized
  have hl := lv_entry ([.ref h1]) (n := 4) (Nat.le_of_ble_eq_true rfl)
  rw [lg_entry_eq]
  generalize (lg_sl ([.ref h1]) ++ List.replicate (4 - (lg_sl ([.ref h1])).length) Slot.unset).toArray = ls at hl ⊢
  have hl : lv_has ls 4 [(0, .ref h1)] := hl
  have hP : va_P (dC, dI) vwCl [(h1, .inr (1, [.int (nI er), .int (nI n), .ref a1, .ref a2, .ref a3, .ref a4])), (a1, .inl (cL, 8, .inr (.inl (fun z => lN (w z))))), (a2, .inl (cL, 8, .inr (.inl sh))), (a3, .inl (cL, 8, .inr (.inl ke))), (a4, .inl (cZ, 8, .inl go))] s.heap := hP
  refine lv_lconst (v := lN 0) hx hb dX1_all_0 rfl ?_
  refine lv_lstore_n hx hb dX1_all_1 rfl hl (by decide) rfl (fun ls hl => ?_)
  have hl : lv_has ls 4 [(1, .long (lN 0)), (0, .ref h1)] := hl
  refine lv_iconst (v := (nI 0)) hx hb dX1_all_2 (by decide +kernel) ?_
  refine lv_istore_n hx hb dX1_all_3 rfl hl (by decide) rfl (fun ls hl => ?_)
  have hl : lv_has ls 4 [(3, .int (nI 0)), (1, .long (lN 0)), (0, .ref h1)] := hl
  have hl := lv_sub (l' := [(0, .ref h1), (1, .long (lN 0)), (3, .int (nI 0))]) hl [2, 1, 0] rfl
  refine lp_all hx hb hml hts0 hown hK hP hn8 (fun ls hl => ?_) n 0 (by omega) ls hl
  refine lv_lload_n hx hb dX1_all_27 rfl (lv_at hl 1 rfl) ?_
  exact W.lret hx hb hr (fun t ht hW => ⟨_, rfl, rfl, ht⟩) (fun q hq => nomatch hq) dX1_all_28
set_option maxHeartbeats 4000000 in
set_option maxRecDepth 100000 in
theorem m_fails0 (l : Launch) (dC : Nat → ClassId) (dI : Nat → Nat → Nat) (cL cZ : ClassId) (h1 a1 a2 a3 a4 er n : Nat) (w : Nat → Nat) (sh ke : Nat → Int64) (go : Nat → Int32) (her : er = 0) (k : Nat) : Met l yX1_fails (sd_ws yX1_fails cX1_fails 3 (some .boolean)) (sd_rm 0 0 0) (sd_Pp (dC, dI) vwCl [(cL, .long), (cZ, .boolean)] (sd_M cL cZ h1 a1 a2 a3 a4 er n w sh ke go) [.ref h1, .int (nI 0), .int (nI k)]) (vp_Si (fun r => r = nI 0)) 0 0 (fun _ => False) := by
  refine Met.ofW (cc := cX1_fails) (maxL := 3) (ret := (some .boolean)) (by decide) rfl ?_
  intro p e s m args below meth c s₁ B hml hv
  obtain ⟨rfl, hP, hK⟩ := hv
  have hx := B.exec
  have hb := B.bytes
  have hr := B.returns
  have hts0 := atoms_spec (ws := (sd_ws yX1_fails cX1_fails 3 (some .boolean))) B.pre
  have hts : ∀ w ∈ sd_WS, w.before _ s = true := fun w h => hts0 w (List.mem_cons_of_mem _ h)
  have hown : s.vm.findClass RX1 = some m.cls := findClass_of_methodNamed B.named
  have hlocks := B.notSynchronized
  have hl := lv_entry ([.ref h1, .int (nI 0), .int (nI k)]) (n := 3) (Nat.le_of_ble_eq_true rfl)
  rw [lg_entry_eq]
  generalize (lg_sl ([.ref h1, .int (nI 0), .int (nI k)]) ++ List.replicate (3 - (lg_sl ([.ref h1, .int (nI 0), .int (nI k)])).length) Slot.unset).toArray = ls at hl ⊢
  have hl : lv_has ls 3 [(0, .ref h1), (1, .int (nI 0)), (2, .int (nI k))] := hl
  have hP : va_P (dC, dI) vwCl [(h1, .inr (1, [.int (nI er), .int (nI n), .ref a1, .ref a2, .ref a3, .ref a4])), (a1, .inl (cL, 8, .inr (.inl (fun z => lN (w z))))), (a2, .inl (cL, 8, .inr (.inl sh))), (a3, .inl (cL, 8, .inr (.inl ke))), (a4, .inl (cZ, 8, .inl go))] s.heap := hP
  refine lv_iload_n hx hb dX1_fails_0 rfl (lv_at hl 1 rfl) ?_
  refine sd_iz_eq (a := 0) (tgt := 16) hx hb dX1_fails_1 (by decide) (by omega) (fun h => ?_) (fun h => ?_)
  · refine lv_aload_n hx hb dX1_fails_16 rfl (lv_at hl 0 rfl) ?_
    refine va_get (D := (dC, dI)) (ci := 1) (v := .int (nI er)) (C := RX1) (T := TX1) (N := 6) hx hb hts u_in_X1 hown hK hP 0 rfl rfl 0 (by decide) (hts (.fieldLink RX1 27 "ShareDeskModel" "err" "I") k_fieldLink_X1_27) (fun _ h9 => h9) rfl dX1_fails_17 ?_
    refine sd_iz_eq (a := er) (tgt := 27) hx hb dX1_fails_20 (by decide) (by omega) (fun h => ?_) (fun h => ?_)
    · refine lv_iconst (v := (nI 0)) hx hb dX1_fails_27 (by decide +kernel) ?_
      exact W.zret hx hb hr rfl (fun t ht hW => ⟨_, rfl, rfl, ht⟩) (fun q hq => nomatch hq) dX1_fails_28
    · exact absurd h (by omega)
  · exact absurd h (by omega)
set_option maxHeartbeats 4000000 in
set_option maxRecDepth 100000 in
theorem m_fails1 (l : Launch) (dC : Nat → ClassId) (dI : Nat → Nat → Nat) (cL cZ : ClassId) (h1 a1 a2 a3 a4 er n : Nat) (w : Nat → Nat) (sh ke : Nat → Int64) (go : Nat → Int32) (sz : Nat) (her : er = 0) (k : Nat) (hk1 : 1 ≤ k) (hk2 : k ≤ 2) : Met l yX1_fails (sd_ws yX1_fails cX1_fails 3 (some .boolean)) (sd_rm 0 0 0) (sd_Pw (dC, dI) vwCl [(cL, .long), (cZ, .boolean)] (sd_M cL cZ h1 a1 a2 a3 a4 er n w sh ke go) sz [.ref h1, .int (nI 1), .int (nI k)]) (va_Qi (fun r (v_ : sd_S) => r = nI 1) (sd_Bw (dC, dI) vwCl [(cL, .long), (cZ, .boolean)] (sd_M cL cZ h1 a1 a2 a3 a4 er n w sh ke go) sz (fun v_ => (sd_M cL cZ h1 a1 a2 a3 a4 k n w v_.1 v_.2.1 v_.2.2))) (va_A (sd_M cL cZ h1 a1 a2 a3 a4 er n w sh ke go) sz)) 0 0 (va_A (sd_M cL cZ h1 a1 a2 a3 a4 er n w sh ke go) sz) := by
  refine Met.ofW (cc := cX1_fails) (maxL := 3) (ret := (some .boolean)) (by decide) rfl ?_
  intro p e s m args below meth c s₁ B hml hv
  obtain ⟨rfl, hsz, hP, hK, hD0⟩ := hv
  subst hsz
  have hx := B.exec
  have hb := B.bytes
  have hr := B.returns
  have hts0 := atoms_spec (ws := (sd_ws yX1_fails cX1_fails 3 (some .boolean))) B.pre
  have hts : ∀ w ∈ sd_WS, w.before _ s = true := fun w h => hts0 w (List.mem_cons_of_mem _ h)
  have hown : s.vm.findClass RX1 = some m.cls := findClass_of_methodNamed B.named
  have hlocks := B.notSynchronized
  have hl := lv_entry ([.ref h1, .int (nI 1), .int (nI k)]) (n := 3) (Nat.le_of_ble_eq_true rfl)
  rw [lg_entry_eq]
  generalize (lg_sl ([.ref h1, .int (nI 1), .int (nI k)]) ++ List.replicate (3 - (lg_sl ([.ref h1, .int (nI 1), .int (nI k)])).length) Slot.unset).toArray = ls at hl ⊢
  have hl : lv_has ls 3 [(0, .ref h1), (1, .int (nI 1)), (2, .int (nI k))] := hl
  obtain ⟨A, hAe⟩ : ∃ A, A = va_A (sd_M cL cZ h1 a1 a2 a3 a4 er n w sh ke go) s.heap.size := ⟨_, rfl⟩
  have hD : va_D A (sd_M cL cZ h1 a1 a2 a3 a4 er n w sh ke go) := by rw [hAe]; exact hD0.self
  have hA : ∀ q : Nat, s.heap.size ≤ q → A q := fun q h => by rw [hAe]; exact Or.inr h
  have hS : va_S A s.heap s.heap [] := va_S.rf
  have hP : va_P (dC, dI) vwCl [(h1, .inr (1, [.int (nI er), .int (nI n), .ref a1, .ref a2, .ref a3, .ref a4])), (a1, .inl (cL, 8, .inr (.inl (fun z => lN (w z))))), (a2, .inl (cL, 8, .inr (.inl sh))), (a3, .inl (cL, 8, .inr (.inl ke))), (a4, .inl (cZ, 8, .inl go))] s.heap := hP
  have hD : va_D A [(h1, .inr (1, [.int (nI er), .int (nI n), .ref a1, .ref a2, .ref a3, .ref a4])), (a1, .inl (cL, 8, .inr (.inl (fun z => lN (w z))))), (a2, .inl (cL, 8, .inr (.inl sh))), (a3, .inl (cL, 8, .inr (.inl ke))), (a4, .inl (cZ, 8, .inl go))] := hD
  refine lv_iload_n hx hb dX1_fails_0 rfl (lv_at hl 1 rfl) ?_
  refine sd_iz_eq (a := 1) (tgt := 16) hx hb dX1_fails_1 (by decide) (by omega) (fun h => ?_) (fun h => ?_)
  · exact absurd h (by omega)
  · refine lv_aload_n hx hb dX1_fails_4 rfl (lv_at hl 0 rfl) ?_
    refine va_get (D := (dC, dI)) (ci := 1) (v := .int (nI er)) (C := RX1) (T := TX1) (N := 6) hx hb hts u_in_X1 hown hK hP 0 rfl rfl 0 (by decide) (hts (.fieldLink RX1 27 "ShareDeskModel" "err" "I") k_fieldLink_X1_27) (fun _ h9 => h9) rfl dX1_fails_5 ?_
    refine sd_iz_ne (a := er) (tgt := 16) hx hb dX1_fails_8 (by decide) (by omega) (fun h => ?_) (fun h => ?_)
    · exact absurd h (by omega)
    · refine lv_aload_n hx hb dX1_fails_11 rfl (lv_at hl 0 rfl) ?_
      refine lv_iload_n hx hb dX1_fails_12 rfl (lv_at hl 2 rfl) ?_
      refine va_put (D := (dC, dI)) (ci := 1) (v := .int (nI k)) (ty := .int) (C := RX1) (T := TX1) (N := 6) hx hb hts u_in_X1 tyX1 tyX1_ok nmX1 hown hK hP hD hS 0 rfl rfl 0 (by decide) (hts (.fieldLink RX1 27 "ShareDeskModel" "err" "I") k_fieldLink_X1_27) (fun _ h9 => h9) rfl (by decide +kernel) rfl rfl (Nat.le_of_ble_eq_true rfl) dX1_fails_13 (fun H locs hP hD hS => ?_)
      have hP : va_P (dC, dI) vwCl [(h1, .inr (1, [.int (nI k), .int (nI n), .ref a1, .ref a2, .ref a3, .ref a4])), (a1, .inl (cL, 8, .inr (.inl (fun z => lN (w z))))), (a2, .inl (cL, 8, .inr (.inl sh))), (a3, .inl (cL, 8, .inr (.inl ke))), (a4, .inl (cZ, 8, .inl go))] H := hP
      have hD : va_D A [(h1, .inr (1, [.int (nI k), .int (nI n), .ref a1, .ref a2, .ref a3, .ref a4])), (a1, .inl (cL, 8, .inr (.inl (fun z => lN (w z))))), (a2, .inl (cL, 8, .inr (.inl sh))), (a3, .inl (cL, 8, .inr (.inl ke))), (a4, .inl (cZ, 8, .inl go))] := hD
      refine lv_aload_n hx hb dX1_fails_16 rfl (lv_at hl 0 rfl) ?_
      refine va_get (D := (dC, dI)) (ci := 1) (v := .int (nI k)) (C := RX1) (T := TX1) (N := 6) hx hb hts u_in_X1 hown hK hP 0 rfl rfl 0 (by decide) (hts (.fieldLink RX1 27 "ShareDeskModel" "err" "I") k_fieldLink_X1_27) (fun _ h9 => h9) rfl dX1_fails_17 ?_
      refine sd_iz_eq (a := k) (tgt := 27) hx hb dX1_fails_20 (by decide) (by omega) (fun h => ?_) (fun h => ?_)
      · exact absurd h (by omega)
      · refine lv_iconst (v := (nI 1)) hx hb dX1_fails_23 (by decide +kernel) ?_
        refine lv_goto (tgt := 28) hx hb dX1_fails_24 (by decide) ?_
        exact W.zret hx hb hr rfl (fun t ht hW => ⟨⟨_, (sh, ke, go), rfl, rfl, by rw [ht]; exact hP, va_K.moved hW.alike hK, by rw [← hAe]; exact hD⟩, by rw [← hAe]; exact hS.F ht⟩) (fun q hq => by rw [← hAe]; exact hS.2.2 q hq) dX1_fails_28
end
section
set_option maxHeartbeats 4000000 in
set_option maxRecDepth 100000 in
theorem lp_one {p : Program} {l : Launch} {e : Env} {R : Room} {s : State} {m : MethodId} {args : Array Value} {below : List Frame} {meth : Method} {c : Code} {H : Heap} {locs : List Loc} {cells slots : Nat} {Q : State → Prop} (hx : p.tables.exec = Jvm.exec) (hb : c.code = cX1_one) (hml : c.maxLocals = 4) (hts0 : ∀ w ∈ (sd_ws yX1_one cX1_one 4 none), w.before args s = true) (hown : s.vm.findClass RX1 = some m.cls) {dC : Nat → ClassId} {dI : Nat → Nat → Nat} {cL cZ : ClassId} {h1 a1 a2 a3 a4 er n : Nat} {w : Nat → Nat} {sh ke : Nat → Int64} {go : Nat → Int32} (hK : va_K (dC, dI) vwCl [(cL, .long), (cZ, .boolean)] s) (hP : va_P (dC, dI) vwCl (sd_M cL cZ h1 a1 a2 a3 a4 er n w sh ke go) H) (ok : sd_ok n w) (y : Nat) (hy : y ≤ 2) (S : Nat → Nat) (hS1 : ∀ j, j < n → sh j = lN (S j)) (hS2 : ∀ j, j < n → S j ≤ 10001)
    (kk : ∀ ls : Array Slot, lv_has ls 4 [(0, .ref h1), (1, .int (nI y)), (2, .int (sd_oi (sd_best y w S n))), (3, .int (nI n))] → W p l e R s m args below meth c H locs cells slots Q (F0 m 75 ls []))
    : ∀ (f i : Nat), i + f = n → ∀ ls : Array Slot, lv_has ls 4 [(0, .ref h1), (1, .int (nI y)), (2, .int (sd_oi (sd_best y w S i))), (3, .int (nI i))] → W p l e R s m args below meth c H locs cells slots Q (F0 m 4 ls []) := by
  have hts : ∀ w ∈ sd_WS, w.before args s = true := fun w h => hts0 w (List.mem_cons_of_mem _ h)
  have hP : va_P (dC, dI) vwCl [(h1, .inr (1, [.int (nI er), .int (nI n), .ref a1, .ref a2, .ref a3, .ref a4])), (a1, .inl (cL, 8, .inr (.inl (fun z => lN (w z))))), (a2, .inl (cL, 8, .inr (.inl sh))), (a3, .inl (cL, 8, .inr (.inl ke))), (a4, .inl (cZ, 8, .inl go))] H := hP
  have hn8 := ok.2.1
  intro f
  induction f using Nat.strongRecOn with
  | ind f ih0 =>
    intro i hi ls hl
    have ih : i < n → ∀ ls : Array Slot, lv_has ls 4 [(0, .ref h1), (1, .int (nI y)), (2, .int (sd_oi (sd_best y w S (i + 1)))), (3, .int (nI (i + 1)))] → W p l e R s m args below meth c H locs cells slots Q (F0 m 4 ls []) := fun hlt => ih0 (f - 1) (by omega) (i + 1) (by omega)
    have hwi := ok.2.2.1 i
    have hbs : (sd_best y w S (i + 1)) = if decide (0 < w i) && sd_bt y w S i (sd_best y w S i) then some i else (sd_best y w S i) := rfl
    refine lv_iload_n hx hb dX1_one_4 rfl (lv_at hl 3 rfl) ?_
    refine lv_aload_n hx hb dX1_one_5 rfl (lv_at hl 0 rfl) ?_
    refine va_get (D := (dC, dI)) (ci := 1) (v := .int (nI n)) (C := RX1) (T := TX1) (N := 6) hx hb hts u_in_X1 hown hK hP 0 rfl rfl 1 (by decide) (hts (.fieldLink RX1 7 "ShareDeskModel" "parties" "I") k_fieldLink_X1_7) (fun _ h9 => h9) rfl dX1_one_6 ?_
    refine sd_ic_ge (a := i) (b := n) (tgt := 75) hx hb dX1_one_9 (by decide) (by omega) (by omega) (fun h => ?_) (fun h => ?_)
    · have hin : i = n := by omega
      subst hin
      exact kk ls hl
    · refine lv_aload_n hx hb dX1_one_12 rfl (lv_at hl 0 rfl) ?_
      refine va_get (D := (dC, dI)) (ci := 1) (v := .ref a1) (C := RX1) (T := TX1) (N := 6) hx hb hts u_in_X1 hown hK hP 0 rfl rfl 2 (by decide) (hts (.fieldLink RX1 13 "ShareDeskModel" "weights" "[J") k_fieldLink_X1_13) (fun _ h9 => h9) rfl dX1_one_13 ?_
      refine lv_iload_n hx hb dX1_one_16 rfl (lv_at hl 3 rfl) ?_
      refine sd_lald (j := i) (v := lN (w i)) hx hb hK hP 1 0 rfl rfl (by omega) (by decide) rfl dX1_one_17 ?_
      refine lv_lconst (v := lN 0) hx hb dX1_one_18 rfl ?_
      refine sd_lc_le (a := w i) (b := 0) (tgt := 69) hx hb dX1_one_19 dX1_one_20 (by decide) (by omega) (by omega) (fun h => ?_) (fun h => ?_)
      · have hbs2 : (sd_best y w S (i + 1)) = (sd_best y w S i) := by rw [hbs, decide_eq_false (by omega)]; rfl
        refine lv_iinc (k := 3) (v := nI (i + 1)) hx hb dX1_one_69 hl rfl (nI_add _ 1) (by decide) rfl (fun ls hl => ?_)
        have hl : lv_has ls 4 [(3, .int (nI (i + 1))), (0, .ref h1), (1, .int (nI y)), (2, .int (sd_oi (sd_best y w S i)))] := hl
        refine lv_goto (tgt := 4) hx hb dX1_one_72 (by decide) ?_
        have hl := lv_sub (l' := [(0, .ref h1), (1, .int (nI y)), (2, .int (sd_oi (sd_best y w S i))), (3, .int (nI (i + 1)))]) hl [1, 2, 3, 0] rfl
        rw [← hbs2] at hl
        exact ih (by omega) ls hl
      · have hwpos := h
        cases hbb : sd_best y w S i with
        | none =>
          rw [hbb] at hl hbs
          have hbs2 : (sd_best y w S (i + 1)) = some i := by rw [hbs, decide_eq_true hwpos]; rfl
          refine lv_iload_n hx hb dX1_one_23 rfl (lv_at hl 2 rfl) ?_
          refine lv_if_lt (tgt := 67) hx hb dX1_one_24 (by decide) (fun h => ?_) (fun h => ?_)
          · refine lv_iload_n hx hb dX1_one_67 rfl (lv_at hl 3 rfl) ?_
            refine lv_istore_n hx hb dX1_one_68 rfl hl (by decide) rfl (fun ls hl => ?_)
            have hl : lv_has ls 4 [(2, .int (nI i)), (0, .ref h1), (1, .int (nI y)), (3, .int (nI i))] := hl
            refine lv_iinc (k := 3) (v := nI (i + 1)) hx hb dX1_one_69 hl rfl (nI_add _ 1) (by decide) rfl (fun ls hl => ?_)
            have hl : lv_has ls 4 [(3, .int (nI (i + 1))), (2, .int (nI i)), (0, .ref h1), (1, .int (nI y))] := hl
            refine lv_goto (tgt := 4) hx hb dX1_one_72 (by decide) ?_
            have hl := lv_sub (l' := [(0, .ref h1), (1, .int (nI y)), (2, .int (nI i)), (3, .int (nI (i + 1)))]) hl [2, 3, 1, 0] rfl
            have hl : lv_has ls 4 [(0, .ref h1), (1, .int (nI y)), (2, .int (sd_oi (sd_best y w S (i + 1)))), (3, .int (nI (i + 1)))] := by rw [hbs2]; exact hl
            exact ih (by omega) ls hl
          · exact absurd (by decide +kernel) h
        | some b0 =>
          rw [hbb] at hl hbs
          have hb0 := (sd_best_some hbb).1
          have hl : lv_has ls 4 [(0, .ref h1), (1, .int (nI y)), (2, .int (nI b0)), (3, .int (nI i))] := hl
          have hwb := ok.2.2.1 b0
          have hs1 := hS2 i (by omega)
          have hs2 := hS2 b0 (by omega)
          have hp1 : y * S b0 ≤ 2 * 10001 := Nat.mul_le_mul hy hs2
          have hp2 : y * S i ≤ 2 * 10001 := Nat.mul_le_mul hy hs1
          have hp3 : w i * (y * S b0 + 1) ≤ 100000 * 20003 := Nat.mul_le_mul hwi (by omega)
          have hp4 : w b0 * (y * S i + 1) ≤ 100000 * 20003 := Nat.mul_le_mul hwb (by omega)
          refine lv_iload_n hx hb dX1_one_23 rfl (lv_at hl 2 rfl) ?_
          refine sd_iz_lt (a := b0) (tgt := 67) hx hb dX1_one_24 (by decide) (by omega) ?_
          refine lv_aload_n hx hb dX1_one_27 rfl (lv_at hl 0 rfl) ?_
          refine va_get (D := (dC, dI)) (ci := 1) (v := .ref a1) (C := RX1) (T := TX1) (N := 6) hx hb hts u_in_X1 hown hK hP 0 rfl rfl 2 (by decide) (hts (.fieldLink RX1 13 "ShareDeskModel" "weights" "[J") k_fieldLink_X1_13) (fun _ h9 => h9) rfl dX1_one_28 ?_
          refine lv_iload_n hx hb dX1_one_31 rfl (lv_at hl 3 rfl) ?_
          refine sd_lald (j := i) (v := lN (w i)) hx hb hK hP 1 0 rfl rfl (by omega) (by decide) rfl dX1_one_32 ?_
          refine lv_iload_n hx hb dX1_one_33 rfl (lv_at hl 1 rfl) ?_
          refine lv_i2l (v := lN y) hx hb dX1_one_34 (nI_l (by omega)) ?_
          refine lv_aload_n hx hb dX1_one_35 rfl (lv_at hl 0 rfl) ?_
          refine va_get (D := (dC, dI)) (ci := 1) (v := .ref a2) (C := RX1) (T := TX1) (N := 6) hx hb hts u_in_X1 hown hK hP 0 rfl rfl 3 (by decide) (hts (.fieldLink RX1 17 "ShareDeskModel" "shares" "[J") k_fieldLink_X1_17) (fun _ h9 => h9) rfl dX1_one_36 ?_
          refine lv_iload_n hx hb dX1_one_39 rfl (lv_at hl 2 rfl) ?_
          refine sd_lald (j := b0) (v := lN (S b0)) hx hb hK hP 2 0 rfl rfl (by omega) (by decide) (hS1 b0 (by omega)) dX1_one_40 ?_
          refine sd_lmul (v := lN (y * (S b0))) hx hb dX1_one_41 (lN_mul _ _) ?_
          refine lv_lconst (v := lN 1) hx hb dX1_one_42 rfl ?_
          refine sd_ladd (v := lN ((y * (S b0)) + 1)) hx hb dX1_one_43 (lN_add _ _) ?_
          refine sd_lmul (v := lN ((w i) * ((y * (S b0)) + 1))) hx hb dX1_one_44 (lN_mul _ _) ?_
          refine lv_aload_n hx hb dX1_one_45 rfl (lv_at hl 0 rfl) ?_
          refine va_get (D := (dC, dI)) (ci := 1) (v := .ref a1) (C := RX1) (T := TX1) (N := 6) hx hb hts u_in_X1 hown hK hP 0 rfl rfl 2 (by decide) (hts (.fieldLink RX1 13 "ShareDeskModel" "weights" "[J") k_fieldLink_X1_13) (fun _ h9 => h9) rfl dX1_one_46 ?_
          refine lv_iload_n hx hb dX1_one_49 rfl (lv_at hl 2 rfl) ?_
          refine sd_lald (j := b0) (v := lN (w b0)) hx hb hK hP 1 0 rfl rfl (by omega) (by decide) rfl dX1_one_50 ?_
          refine lv_iload_n hx hb dX1_one_51 rfl (lv_at hl 1 rfl) ?_
          refine lv_i2l (v := lN y) hx hb dX1_one_52 (nI_l (by omega)) ?_
          refine lv_aload_n hx hb dX1_one_53 rfl (lv_at hl 0 rfl) ?_
          refine va_get (D := (dC, dI)) (ci := 1) (v := .ref a2) (C := RX1) (T := TX1) (N := 6) hx hb hts u_in_X1 hown hK hP 0 rfl rfl 3 (by decide) (hts (.fieldLink RX1 17 "ShareDeskModel" "shares" "[J") k_fieldLink_X1_17) (fun _ h9 => h9) rfl dX1_one_54 ?_
          refine lv_iload_n hx hb dX1_one_57 rfl (lv_at hl 3 rfl) ?_
          refine sd_lald (j := i) (v := lN (S i)) hx hb hK hP 2 0 rfl rfl (by omega) (by decide) (hS1 i (by omega)) dX1_one_58 ?_
          refine sd_lmul (v := lN (y * (S i))) hx hb dX1_one_59 (lN_mul _ _) ?_
          refine lv_lconst (v := lN 1) hx hb dX1_one_60 rfl ?_
          refine sd_ladd (v := lN ((y * (S i)) + 1)) hx hb dX1_one_61 (lN_add _ _) ?_
          refine sd_lmul (v := lN ((w b0) * ((y * (S i)) + 1))) hx hb dX1_one_62 (lN_mul _ _) ?_
          refine sd_lc_le (a := (w i) * ((y * (S b0)) + 1)) (b := (w b0) * ((y * (S i)) + 1)) (tgt := 69) hx hb dX1_one_63 dX1_one_64 (by decide) (by omega) (by omega) (fun h => ?_) (fun h => ?_)
          · have hbs2 : (sd_best y w S (i + 1)) = some b0 := by rw [hbs, decide_eq_true hwpos, show sd_bt y w S i (some b0) = false from decide_eq_false (by omega)]; rfl
            refine lv_iinc (k := 3) (v := nI (i + 1)) hx hb dX1_one_69 hl rfl (nI_add _ 1) (by decide) rfl (fun ls hl => ?_)
            have hl : lv_has ls 4 [(3, .int (nI (i + 1))), (0, .ref h1), (1, .int (nI y)), (2, .int (nI b0))] := hl
            refine lv_goto (tgt := 4) hx hb dX1_one_72 (by decide) ?_
            have hl := lv_sub (l' := [(0, .ref h1), (1, .int (nI y)), (2, .int (nI b0)), (3, .int (nI (i + 1)))]) hl [1, 2, 3, 0] rfl
            have hl : lv_has ls 4 [(0, .ref h1), (1, .int (nI y)), (2, .int (sd_oi (sd_best y w S (i + 1)))), (3, .int (nI (i + 1)))] := by rw [hbs2]; exact hl
            exact ih (by omega) ls hl
          · have hbs2 : (sd_best y w S (i + 1)) = some i := by rw [hbs, decide_eq_true hwpos, show sd_bt y w S i (some b0) = true from decide_eq_true h]; rfl
            refine lv_iload_n hx hb dX1_one_67 rfl (lv_at hl 3 rfl) ?_
            refine lv_istore_n hx hb dX1_one_68 rfl hl (by decide) rfl (fun ls hl => ?_)
            have hl : lv_has ls 4 [(2, .int (nI i)), (0, .ref h1), (1, .int (nI y)), (3, .int (nI i))] := hl
            refine lv_iinc (k := 3) (v := nI (i + 1)) hx hb dX1_one_69 hl rfl (nI_add _ 1) (by decide) rfl (fun ls hl => ?_)
            have hl : lv_has ls 4 [(3, .int (nI (i + 1))), (2, .int (nI i)), (0, .ref h1), (1, .int (nI y))] := hl
            refine lv_goto (tgt := 4) hx hb dX1_one_72 (by decide) ?_
            have hl := lv_sub (l' := [(0, .ref h1), (1, .int (nI y)), (2, .int (nI i)), (3, .int (nI (i + 1)))]) hl [2, 3, 1, 0] rfl
            have hl : lv_has ls 4 [(0, .ref h1), (1, .int (nI y)), (2, .int (sd_oi (sd_best y w S (i + 1)))), (3, .int (nI (i + 1)))] := by rw [hbs2]; exact hl
            exact ih (by omega) ls hl
set_option maxHeartbeats 4000000 in
set_option maxRecDepth 100000 in
theorem m_one (l : Launch) (dC : Nat → ClassId) (dI : Nat → Nat → Nat) (cL cZ : ClassId) (h1 a1 a2 a3 a4 er n : Nat) (w : Nat → Nat) (sh ke : Nat → Int64) (go : Nat → Int32) (sz : Nat) (ok : sd_ok n w) (hW : 0 < sd_sum w n) (y : Nat) (hy : y ≤ 2) (S : Nat → Nat) (hS1 : ∀ j, j < n → sh j = lN (S j)) (hS2 : ∀ j, j < n → S j ≤ 10001) : Met l yX1_one (sd_ws yX1_one cX1_one 4 none) (sd_rm 0 0 0) (sd_Pw (dC, dI) vwCl [(cL, .long), (cZ, .boolean)] (sd_M cL cZ h1 a1 a2 a3 a4 er n w sh ke go) sz [.ref h1, .int (nI y)]) (va_Qv (fun (v_ : sd_S) => (∀ j, j < n → v_.1 j = lN (sd_one y w n S j)) ∧ v_.2.1 = ke) (sd_Bw (dC, dI) vwCl [(cL, .long), (cZ, .boolean)] (sd_M cL cZ h1 a1 a2 a3 a4 er n w sh ke go) sz (fun v_ => (sd_M cL cZ h1 a1 a2 a3 a4 er n w v_.1 v_.2.1 v_.2.2))) (va_A (sd_M cL cZ h1 a1 a2 a3 a4 er n w sh ke go) sz)) 0 0 (va_A (sd_M cL cZ h1 a1 a2 a3 a4 er n w sh ke go) sz) := by
  refine Met.ofW (cc := cX1_one) (maxL := 4) (ret := none) (by decide) rfl ?_
  intro p e s m args below meth c s₁ B hml hv
  obtain ⟨rfl, hsz, hP, hK, hD0⟩ := hv
  subst hsz
  have hx := B.exec
  have hb := B.bytes
  have hr := B.returns
  have hts0 := atoms_spec (ws := (sd_ws yX1_one cX1_one 4 none)) B.pre
  have hts : ∀ w ∈ sd_WS, w.before _ s = true := fun w h => hts0 w (List.mem_cons_of_mem _ h)
  have hown : s.vm.findClass RX1 = some m.cls := findClass_of_methodNamed B.named
  have hlocks := B.notSynchronized
  have hl := lv_entry ([.ref h1, .int (nI y)]) (n := 4) (Nat.le_of_ble_eq_true rfl)
  rw [lg_entry_eq]
  generalize (lg_sl ([.ref h1, .int (nI y)]) ++ List.replicate (4 - (lg_sl ([.ref h1, .int (nI y)])).length) Slot.unset).toArray = ls at hl ⊢
  have hl : lv_has ls 4 [(0, .ref h1), (1, .int (nI y))] := hl
  obtain ⟨A, hAe⟩ : ∃ A, A = va_A (sd_M cL cZ h1 a1 a2 a3 a4 er n w sh ke go) s.heap.size := ⟨_, rfl⟩
  have hD : va_D A (sd_M cL cZ h1 a1 a2 a3 a4 er n w sh ke go) := by rw [hAe]; exact hD0.self
  have hA : ∀ q : Nat, s.heap.size ≤ q → A q := fun q h => by rw [hAe]; exact Or.inr h
  have hS : va_S A s.heap s.heap [] := va_S.rf
  have hP : va_P (dC, dI) vwCl [(h1, .inr (1, [.int (nI er), .int (nI n), .ref a1, .ref a2, .ref a3, .ref a4])), (a1, .inl (cL, 8, .inr (.inl (fun z => lN (w z))))), (a2, .inl (cL, 8, .inr (.inl sh))), (a3, .inl (cL, 8, .inr (.inl ke))), (a4, .inl (cZ, 8, .inl go))] s.heap := hP
  have hD : va_D A [(h1, .inr (1, [.int (nI er), .int (nI n), .ref a1, .ref a2, .ref a3, .ref a4])), (a1, .inl (cL, 8, .inr (.inl (fun z => lN (w z))))), (a2, .inl (cL, 8, .inr (.inl sh))), (a3, .inl (cL, 8, .inr (.inl ke))), (a4, .inl (cZ, 8, .inl go))] := hD
  have hn8 := ok.2.1
  refine lv_iconst (v := (-1)) hx hb dX1_one_0 (by decide +kernel) ?_
  refine lv_istore_n hx hb dX1_one_1 rfl hl (by decide) rfl (fun ls hl => ?_)
  have hl : lv_has ls 4 [(2, .int (-1)), (0, .ref h1), (1, .int (nI y))] := hl
  refine lv_iconst (v := (nI 0)) hx hb dX1_one_2 (by decide +kernel) ?_
  refine lv_istore_n hx hb dX1_one_3 rfl hl (by decide) rfl (fun ls hl => ?_)
  have hl : lv_has ls 4 [(3, .int (nI 0)), (2, .int (-1)), (0, .ref h1), (1, .int (nI y))] := hl
  have hl := lv_sub (l' := [(0, .ref h1), (1, .int (nI y)), (2, .int (-1)), (3, .int (nI 0))]) hl [2, 3, 1, 0] rfl
  refine lp_one hx hb hml hts0 hown hK hP ok y hy S hS1 hS2 (fun ls hl => ?_) n 0 (by omega) ls hl
  cases hbb : sd_best y w S n with
  | none =>
    exfalso
    obtain ⟨p0, hp0, hp1⟩ := sd_sum_pos hW
    have := sd_best_none hbb p0 hp0
    omega
  | some b0 =>
    rw [hbb] at hl
    have hl : lv_has ls 4 [(0, .ref h1), (1, .int (nI y)), (2, .int (nI b0)), (3, .int (nI n))] := hl
    have hb0 := (sd_best_some hbb).1
    refine lv_aload_n hx hb dX1_one_75 rfl (lv_at hl 0 rfl) ?_
    refine va_get (D := (dC, dI)) (ci := 1) (v := .ref a2) (C := RX1) (T := TX1) (N := 6) hx hb hts u_in_X1 hown hK hP 0 rfl rfl 3 (by decide) (hts (.fieldLink RX1 17 "ShareDeskModel" "shares" "[J") k_fieldLink_X1_17) (fun _ h9 => h9) rfl dX1_one_76 ?_
    refine lv_iload_n hx hb dX1_one_79 rfl (lv_at hl 2 rfl) ?_
    refine lv_dup2_11 hx hb dX1_one_80 rfl rfl ?_
    refine sd_lald (j := b0) (v := lN (S b0)) hx hb hK hP 2 0 rfl rfl (by omega) (by decide) (hS1 b0 hb0) dX1_one_81 ?_
    refine lv_lconst (v := lN 1) hx hb dX1_one_82 rfl ?_
    refine sd_ladd (v := lN ((S b0) + 1)) hx hb dX1_one_83 (lN_add _ _) ?_
    refine sd_last (j := b0) hx hb hK hP hD hS 2 0 rfl rfl (by omega) (by decide) dX1_one_84 (fun H locs hP hD hS => ?_)
    have hP : va_P (dC, dI) vwCl [(h1, .inr (1, [.int (nI er), .int (nI n), .ref a1, .ref a2, .ref a3, .ref a4])), (a1, .inl (cL, 8, .inr (.inl (fun z => lN (w z))))), (a2, .inl (cL, 8, .inr (.inl (vp_updL sh b0 (lN (S b0 + 1)))))), (a3, .inl (cL, 8, .inr (.inl ke))), (a4, .inl (cZ, 8, .inl go))] H := hP
    have hD : va_D A [(h1, .inr (1, [.int (nI er), .int (nI n), .ref a1, .ref a2, .ref a3, .ref a4])), (a1, .inl (cL, 8, .inr (.inl (fun z => lN (w z))))), (a2, .inl (cL, 8, .inr (.inl (vp_updL sh b0 (lN (S b0 + 1)))))), (a3, .inl (cL, 8, .inr (.inl ke))), (a4, .inl (cZ, 8, .inl go))] := hD
    have hnew : ∀ j, j < n → vp_updL sh b0 (lN (S b0 + 1)) j = lN (sd_one y w n S j) := by
      intro j hj
      have e0 : sd_one y w n S = sd_up S b0 (S b0 + 1) := by unfold sd_one; rw [hbb]
      rw [e0]
      by_cases e : j = b0
      · rw [e, pk_uLs, sd_up_self]
      · rw [pk_uLn e, sd_up_ne e]; exact hS1 j hj
    exact W.vret hx hb hr (fun t ht hW => ⟨⟨(vp_updL sh b0 (lN (S b0 + 1)), ke, go), rfl, ⟨hnew, rfl⟩, by rw [ht]; exact hP, va_K.moved hW.alike hK, by rw [← hAe]; exact hD⟩, by rw [← hAe]; exact hS.F ht⟩) (fun q hq => by rw [← hAe]; exact hS.2.2 q hq) dX1_one_85
set_option maxHeartbeats 4000000 in
set_option maxRecDepth 100000 in
theorem lp_parts1 {p : Program} {l : Launch} {e : Env} {R : Room} {s : State} {m : MethodId} {args : Array Value} {below : List Frame} {meth : Method} {c : Code} {cells slots : Nat} {Q : State → Prop} (hx : p.tables.exec = Jvm.exec) (hb : c.code = cX1_parts) (hml : c.maxLocals = 8) (hts0 : ∀ w ∈ (sd_ws yX1_parts cX1_parts 8 none), w.before args s = true) (hown : s.vm.findClass RX1 = some m.cls) {dC : Nat → ClassId} {dI : Nat → Nat → Nat} {cL cZ : ClassId} {h1 a1 a2 a3 a4 er n : Nat} {w : Nat → Nat} (A : Nat → Prop) (H0 : Heap) (hA : ∀ q, H0.size ≤ q → A q) (hK : va_K (dC, dI) vwCl [(cL, .long), (cZ, .boolean)] s) (ke : Nat → Int64) (ok : sd_ok n w) (hW : 0 < sd_sum w n) (u : Nat) (hu : u ≤ 10001)
    (kk : ∀ (H : Heap) (locs : List Loc) (sh : Nat → Int64) (go : Nat → Int32) (ls : Array Slot), va_P (dC, dI) vwCl [(h1, .inr (1, [.int (nI er), .int (nI n), .ref a1, .ref a2, .ref a3, .ref a4])), (a1, .inl (cL, 8, .inr (.inl (fun z => lN (w z))))), (a2, .inl (cL, 8, .inr (.inl sh))), (a3, .inl (cL, 8, .inr (.inl ke))), (a4, .inl (cZ, 8, .inl go))] H → va_D A [(h1, .inr (1, [.int (nI er), .int (nI n), .ref a1, .ref a2, .ref a3, .ref a4])), (a1, .inl (cL, 8, .inr (.inl (fun z => lN (w z))))), (a2, .inl (cL, 8, .inr (.inl sh))), (a3, .inl (cL, 8, .inr (.inl ke))), (a4, .inl (cZ, 8, .inl go))] → va_S A H0 H locs → ((∀ j, j < n → sh j = lN (u * w j / sd_sum w n)) ∧ ∀ j, j < n → go j = nI 0) → lv_has ls 8 [(0, .ref h1), (1, .int (nI u)), (2, .long (lN (sd_sum w n))), (4, .long (lN (u - (sd_sum (fun j => u * w j / sd_sum w n) n)))), (6, .int (nI n))] → W p l e R s m args below meth c H locs cells slots Q (F0 m 66 ls []))
    : ∀ (f i : Nat), i + f = n → ∀ (H : Heap) (locs : List Loc) (sh : Nat → Int64) (go : Nat → Int32) (ls : Array Slot), va_P (dC, dI) vwCl [(h1, .inr (1, [.int (nI er), .int (nI n), .ref a1, .ref a2, .ref a3, .ref a4])), (a1, .inl (cL, 8, .inr (.inl (fun z => lN (w z))))), (a2, .inl (cL, 8, .inr (.inl sh))), (a3, .inl (cL, 8, .inr (.inl ke))), (a4, .inl (cZ, 8, .inl go))] H → va_D A [(h1, .inr (1, [.int (nI er), .int (nI n), .ref a1, .ref a2, .ref a3, .ref a4])), (a1, .inl (cL, 8, .inr (.inl (fun z => lN (w z))))), (a2, .inl (cL, 8, .inr (.inl sh))), (a3, .inl (cL, 8, .inr (.inl ke))), (a4, .inl (cZ, 8, .inl go))] → va_S A H0 H locs → ((∀ j, j < i → sh j = lN (u * w j / sd_sum w n)) ∧ ∀ j, j < i → go j = nI 0) → lv_has ls 8 [(0, .ref h1), (1, .int (nI u)), (2, .long (lN (sd_sum w n))), (4, .long (lN (u - (sd_sum (fun j => u * w j / sd_sum w n) i)))), (6, .int (nI i))] → W p l e R s m args below meth c H locs cells slots Q (F0 m 12 ls []) := by
  have hts : ∀ w ∈ sd_WS, w.before args s = true := fun w h => hts0 w (List.mem_cons_of_mem _ h)
  have hn8 := ok.2.1
  have hWl := sd_W_le ok.2.2.1 ok.2.1
  intro f
  induction f using Nat.strongRecOn with
  | ind f ih0 =>
    intro i hi H locs sh go ls hP hD hS hv hl
    have ih : i < n → ∀ (H : Heap) (locs : List Loc) (sh : Nat → Int64) (go : Nat → Int32) (ls : Array Slot), va_P (dC, dI) vwCl [(h1, .inr (1, [.int (nI er), .int (nI n), .ref a1, .ref a2, .ref a3, .ref a4])), (a1, .inl (cL, 8, .inr (.inl (fun z => lN (w z))))), (a2, .inl (cL, 8, .inr (.inl sh))), (a3, .inl (cL, 8, .inr (.inl ke))), (a4, .inl (cZ, 8, .inl go))] H → va_D A [(h1, .inr (1, [.int (nI er), .int (nI n), .ref a1, .ref a2, .ref a3, .ref a4])), (a1, .inl (cL, 8, .inr (.inl (fun z => lN (w z))))), (a2, .inl (cL, 8, .inr (.inl sh))), (a3, .inl (cL, 8, .inr (.inl ke))), (a4, .inl (cZ, 8, .inl go))] → va_S A H0 H locs → ((∀ j, j < (i + 1) → sh j = lN (u * w j / sd_sum w n)) ∧ ∀ j, j < (i + 1) → go j = nI 0) → lv_has ls 8 [(0, .ref h1), (1, .int (nI u)), (2, .long (lN (sd_sum w n))), (4, .long (lN (u - (sd_sum (fun j => u * w j / sd_sum w n) (i + 1))))), (6, .int (nI (i + 1)))] → W p l e R s m args below meth c H locs cells slots Q (F0 m 12 ls []) := fun hlt => ih0 (f - 1) (by omega) (i + 1) (by omega)
    have hwi := ok.2.2.1 i
    have hbm : u * w i ≤ 10001 * 100000 := sd_mw_le hu hwi
    have hdl := Nat.div_le_self (u * w i) (sd_sum w n)
    refine lv_iload hx hb dX1_parts_12 (lv_at hl 4 rfl) ?_
    refine lv_aload_n hx hb dX1_parts_14 rfl (lv_at hl 0 rfl) ?_
    refine va_get (D := (dC, dI)) (ci := 1) (v := .int (nI n)) (C := RX1) (T := TX1) (N := 6) hx hb hts u_in_X1 hown hK hP 0 rfl rfl 1 (by decide) (hts (.fieldLink RX1 7 "ShareDeskModel" "parties" "I") k_fieldLink_X1_7) (fun _ h9 => h9) rfl dX1_parts_15 ?_
    refine sd_ic_ge (a := i) (b := n) (tgt := 66) hx hb dX1_parts_18 (by decide) (by omega) (by omega) (fun h => ?_) (fun h => ?_)
    · have hin : i = n := by omega
      subst hin
      exact kk H locs sh go ls hP hD hS hv hl
    · have hfs : (sd_sum (fun j => u * w j / sd_sum w n) (i + 1)) = (sd_sum (fun j => u * w j / sd_sum w n) i) + (u * w i / sd_sum w n) := rfl
      have hfm := sd_sum_mono (f := fun j => u * w j / sd_sum w n) (a := i + 1) (b := n) (by omega)
      have hfe : (sd_sum (fun j => u * w j / sd_sum w n) n) ≤ u := Nat.le.intro (sd_left (m := u) hW).1
      have hd0 := Nat.zero_le (u * w i / sd_sum w n)
      refine lv_aload_n hx hb dX1_parts_21 rfl (lv_at hl 0 rfl) ?_
      refine va_get (D := (dC, dI)) (ci := 1) (v := .ref a2) (C := RX1) (T := TX1) (N := 6) hx hb hts u_in_X1 hown hK hP 0 rfl rfl 3 (by decide) (hts (.fieldLink RX1 17 "ShareDeskModel" "shares" "[J") k_fieldLink_X1_17) (fun _ h9 => h9) rfl dX1_parts_22 ?_
      refine lv_iload hx hb dX1_parts_25 (lv_at hl 4 rfl) ?_
      refine lv_iload_n hx hb dX1_parts_27 rfl (lv_at hl 1 rfl) ?_
      refine lv_i2l (v := lN u) hx hb dX1_parts_28 (nI_l (by omega)) ?_
      refine lv_aload_n hx hb dX1_parts_29 rfl (lv_at hl 0 rfl) ?_
      refine va_get (D := (dC, dI)) (ci := 1) (v := .ref a1) (C := RX1) (T := TX1) (N := 6) hx hb hts u_in_X1 hown hK hP 0 rfl rfl 2 (by decide) (hts (.fieldLink RX1 13 "ShareDeskModel" "weights" "[J") k_fieldLink_X1_13) (fun _ h9 => h9) rfl dX1_parts_30 ?_
      refine lv_iload hx hb dX1_parts_33 (lv_at hl 4 rfl) ?_
      refine sd_lald (j := i) (v := lN (w i)) hx hb hK hP 1 0 rfl rfl (by omega) (by decide) rfl dX1_parts_35 ?_
      refine sd_lmul (v := lN (u * (w i))) hx hb dX1_parts_36 (lN_mul _ _) ?_
      refine lv_lload_n hx hb dX1_parts_37 rfl (lv_at hl 2 rfl) ?_
      refine sd_ldiv (v := lN ((u * (w i)) / (sd_sum w n))) hx hb dX1_parts_38 (sd_lne0 (by omega) (by omega)) (pk_lDiv (by omega) (by omega) (by omega)) ?_
      refine sd_last (j := i) hx hb hK hP hD hS 2 0 rfl rfl (by omega) (by decide) dX1_parts_39 (fun H locs hP hD hS => ?_)
      have hP : va_P (dC, dI) vwCl [(h1, .inr (1, [.int (nI er), .int (nI n), .ref a1, .ref a2, .ref a3, .ref a4])), (a1, .inl (cL, 8, .inr (.inl (fun z => lN (w z))))), (a2, .inl (cL, 8, .inr (.inl (vp_updL sh i (lN (u * w i / sd_sum w n)))))), (a3, .inl (cL, 8, .inr (.inl ke))), (a4, .inl (cZ, 8, .inl go))] H := hP
      have hD : va_D A [(h1, .inr (1, [.int (nI er), .int (nI n), .ref a1, .ref a2, .ref a3, .ref a4])), (a1, .inl (cL, 8, .inr (.inl (fun z => lN (w z))))), (a2, .inl (cL, 8, .inr (.inl (vp_updL sh i (lN (u * w i / sd_sum w n)))))), (a3, .inl (cL, 8, .inr (.inl ke))), (a4, .inl (cZ, 8, .inl go))] := hD
      refine lv_lload hx hb dX1_parts_40 (lv_at hl 3 rfl) ?_
      refine lv_aload_n hx hb dX1_parts_42 rfl (lv_at hl 0 rfl) ?_
      refine va_get (D := (dC, dI)) (ci := 1) (v := .ref a2) (C := RX1) (T := TX1) (N := 6) hx hb hts u_in_X1 hown hK hP 0 rfl rfl 3 (by decide) (hts (.fieldLink RX1 17 "ShareDeskModel" "shares" "[J") k_fieldLink_X1_17) (fun _ h9 => h9) rfl dX1_parts_43 ?_
      refine lv_iload hx hb dX1_parts_46 (lv_at hl 4 rfl) ?_
      refine sd_lald (j := i) (v := lN (u * w i / sd_sum w n)) hx hb hK hP 2 0 rfl rfl (by omega) (by decide) pk_uLs dX1_parts_48 ?_
      refine sd_lsub (v := lN ((u - (sd_sum (fun j => u * w j / sd_sum w n) i)) - (u * w i / sd_sum w n))) hx hb dX1_parts_49 (lN_sub (by omega)) ?_
      refine lv_lstore hx hb dX1_parts_50 hl (by decide) rfl (fun ls hl => ?_)
      have hl : lv_has ls 8 [(4, .long (lN ((u - (sd_sum (fun j => u * w j / sd_sum w n) i)) - (u * w i / sd_sum w n)))), (0, .ref h1), (1, .int (nI u)), (2, .long (lN (sd_sum w n))), (6, .int (nI i))] := hl
      refine lv_aload_n hx hb dX1_parts_52 rfl (lv_at hl 1 rfl) ?_
      refine va_get (D := (dC, dI)) (ci := 1) (v := .ref a4) (C := RX1) (T := TX1) (N := 6) hx hb hts u_in_X1 hown hK hP 0 rfl rfl 5 (by decide) (hts (.fieldLink RX1 23 "ShareDeskModel" "got" "[Z") k_fieldLink_X1_23) (fun _ h9 => h9) rfl dX1_parts_53 ?_
      refine lv_iload hx hb dX1_parts_56 (lv_at hl 4 rfl) ?_
      refine lv_iconst (v := (nI 0)) hx hb dX1_parts_58 (by decide +kernel) ?_
      refine sd_zast (j := i) hx hb hK hP hD hS 4 1 rfl rfl (by omega) (by decide) dX1_parts_59 (fun H locs hP hD hS => ?_)
      have hP : va_P (dC, dI) vwCl [(h1, .inr (1, [.int (nI er), .int (nI n), .ref a1, .ref a2, .ref a3, .ref a4])), (a1, .inl (cL, 8, .inr (.inl (fun z => lN (w z))))), (a2, .inl (cL, 8, .inr (.inl (vp_updL sh i (lN (u * w i / sd_sum w n)))))), (a3, .inl (cL, 8, .inr (.inl ke))), (a4, .inl (cZ, 8, .inl (upd go i (vp_nar .boolean (nI 0)))))] H := hP
      have hD : va_D A [(h1, .inr (1, [.int (nI er), .int (nI n), .ref a1, .ref a2, .ref a3, .ref a4])), (a1, .inl (cL, 8, .inr (.inl (fun z => lN (w z))))), (a2, .inl (cL, 8, .inr (.inl (vp_updL sh i (lN (u * w i / sd_sum w n)))))), (a3, .inl (cL, 8, .inr (.inl ke))), (a4, .inl (cZ, 8, .inl (upd go i (vp_nar .boolean (nI 0)))))] := hD
      refine lv_iinc (k := 4) (v := nI (i + 1)) hx hb dX1_parts_60 hl rfl (nI_add _ 1) (by decide) rfl (fun ls hl => ?_)
      have hl : lv_has ls 8 [(6, .int (nI (i + 1))), (4, .long (lN ((u - (sd_sum (fun j => u * w j / sd_sum w n) i)) - (u * w i / sd_sum w n)))), (0, .ref h1), (1, .int (nI u)), (2, .long (lN (sd_sum w n)))] := hl
      refine lv_goto (tgt := 12) hx hb dX1_parts_63 (by decide) ?_
      have hl := lv_sub (l' := [(0, .ref h1), (1, .int (nI u)), (2, .long (lN (sd_sum w n))), (4, .long (lN ((u - (sd_sum (fun j => u * w j / sd_sum w n) i)) - (u * w i / sd_sum w n)))), (6, .int (nI (i + 1)))]) hl [2, 3, 4, 1, 0] rfl
      have he : u - (sd_sum (fun j => u * w j / sd_sum w n) i) - (u * w i / sd_sum w n) = u - (sd_sum (fun j => u * w j / sd_sum w n) (i + 1)) := by omega
      rw [he] at hl
      refine ih (by omega) H locs _ _ ls hP hD hS ⟨fun j hj => ?_, fun j hj => ?_⟩ hl
      · by_cases e : j = i
        · rw [e, pk_uLs]
        · rw [pk_uLn e]; exact hv.1 j (by omega)
      · by_cases e : j = i
        · rw [e, pk_us]; decide +kernel
        · rw [pk_un e]; exact hv.2 j (by omega)
set_option maxHeartbeats 4000000 in
set_option maxRecDepth 100000 in
theorem lp_parts3 {p : Program} {l : Launch} {e : Env} {R : Room} {s : State} {m : MethodId} {args : Array Value} {below : List Frame} {meth : Method} {c : Code} {H : Heap} {locs : List Loc} {cells slots : Nat} {Q : State → Prop} (hx : p.tables.exec = Jvm.exec) (hb : c.code = cX1_parts) (hml : c.maxLocals = 8) (hts0 : ∀ w ∈ (sd_ws yX1_parts cX1_parts 8 none), w.before args s = true) (hown : s.vm.findClass RX1 = some m.cls) {dC : Nat → ClassId} {dI : Nat → Nat → Nat} {cL cZ : ClassId} {h1 a1 a2 a3 a4 er n : Nat} {w : Nat → Nat} {sh ke : Nat → Int64} {go : Nat → Int32} (hK : va_K (dC, dI) vwCl [(cL, .long), (cZ, .boolean)] s) (hP : va_P (dC, dI) vwCl (sd_M cL cZ h1 a1 a2 a3 a4 er n w sh ke go) H) (ok : sd_ok n w) (hW : 0 < sd_sum w n) (u : Nat) (hu : u ≤ 10001) (v4 : Int64) (g0 : Nat → Bool) (hg : ∀ j, j < n → go j = sd_bi (g0 j))
    (kk : ∀ ls : Array Slot, lv_has ls 8 [(0, .ref h1), (1, .int (nI u)), (2, .long (lN (sd_sum w n))), (4, .long v4), (6, .int (sd_oi (sd_pk (sd_rs w (sd_sum w n) u) g0 n))), (7, .int (nI n))] → W p l e R s m args below meth c H locs cells slots Q (F0 m 141 ls []))
    : ∀ (f i : Nat), i + f = n → ∀ ls : Array Slot, lv_has ls 8 [(0, .ref h1), (1, .int (nI u)), (2, .long (lN (sd_sum w n))), (4, .long v4), (6, .int (sd_oi (sd_pk (sd_rs w (sd_sum w n) u) g0 i))), (7, .int (nI i))] → W p l e R s m args below meth c H locs cells slots Q (F0 m 79 ls []) := by
  have hts : ∀ w ∈ sd_WS, w.before args s = true := fun w h => hts0 w (List.mem_cons_of_mem _ h)
  have hP : va_P (dC, dI) vwCl [(h1, .inr (1, [.int (nI er), .int (nI n), .ref a1, .ref a2, .ref a3, .ref a4])), (a1, .inl (cL, 8, .inr (.inl (fun z => lN (w z))))), (a2, .inl (cL, 8, .inr (.inl sh))), (a3, .inl (cL, 8, .inr (.inl ke))), (a4, .inl (cZ, 8, .inl go))] H := hP
  have hn8 := ok.2.1
  have hWl := sd_W_le ok.2.2.1 ok.2.1
  intro f
  induction f using Nat.strongRecOn with
  | ind f ih0 =>
    intro i hi ls hl
    have ih : i < n → ∀ ls : Array Slot, lv_has ls 8 [(0, .ref h1), (1, .int (nI u)), (2, .long (lN (sd_sum w n))), (4, .long v4), (6, .int (sd_oi (sd_pk (sd_rs w (sd_sum w n) u) g0 (i + 1)))), (7, .int (nI (i + 1)))] → W p l e R s m args below meth c H locs cells slots Q (F0 m 79 ls []) := fun hlt => ih0 (f - 1) (by omega) (i + 1) (by omega)
    have hwi := ok.2.2.1 i
    have hbm : u * w i ≤ 10001 * 100000 := sd_mw_le hu hwi
    have hbs : (sd_pk (sd_rs w (sd_sum w n) u) g0 (i + 1)) = if !g0 i && sd_pt (sd_rs w (sd_sum w n) u) i (sd_pk (sd_rs w (sd_sum w n) u) g0 i) then some i else (sd_pk (sd_rs w (sd_sum w n) u) g0 i) := rfl
    refine lv_iload hx hb dX1_parts_79 (lv_at hl 5 rfl) ?_
    refine lv_aload_n hx hb dX1_parts_81 rfl (lv_at hl 0 rfl) ?_
    refine va_get (D := (dC, dI)) (ci := 1) (v := .int (nI n)) (C := RX1) (T := TX1) (N := 6) hx hb hts u_in_X1 hown hK hP 0 rfl rfl 1 (by decide) (hts (.fieldLink RX1 7 "ShareDeskModel" "parties" "I") k_fieldLink_X1_7) (fun _ h9 => h9) rfl dX1_parts_82 ?_
    refine sd_ic_ge (a := i) (b := n) (tgt := 141) hx hb dX1_parts_85 (by decide) (by omega) (by omega) (fun h => ?_) (fun h => ?_)
    · have hin : i = n := by omega
      subst hin
      exact kk ls hl
    · refine lv_aload_n hx hb dX1_parts_88 rfl (lv_at hl 0 rfl) ?_
      refine va_get (D := (dC, dI)) (ci := 1) (v := .ref a4) (C := RX1) (T := TX1) (N := 6) hx hb hts u_in_X1 hown hK hP 0 rfl rfl 5 (by decide) (hts (.fieldLink RX1 23 "ShareDeskModel" "got" "[Z") k_fieldLink_X1_23) (fun _ h9 => h9) rfl dX1_parts_89 ?_
      refine lv_iload hx hb dX1_parts_92 (lv_at hl 5 rfl) ?_
      refine sd_zald (j := i) (v := sd_bi (g0 i)) hx hb hK hP 4 1 rfl rfl (by omega) (by decide) (hg i (by omega)) dX1_parts_94 ?_
      refine sd_bz_ne (tgt := 135) hx hb dX1_parts_95 (by decide) (fun h => ?_) (fun h => ?_)
      · have hbs2 : (sd_pk (sd_rs w (sd_sum w n) u) g0 (i + 1)) = (sd_pk (sd_rs w (sd_sum w n) u) g0 i) := by rw [hbs, h]; rfl
        refine lv_iinc (k := 5) (v := nI (i + 1)) hx hb dX1_parts_135 hl rfl (nI_add _ 1) (by decide) rfl (fun ls hl => ?_)
        have hl : lv_has ls 8 [(7, .int (nI (i + 1))), (0, .ref h1), (1, .int (nI u)), (2, .long (lN (sd_sum w n))), (4, .long v4), (6, .int (sd_oi (sd_pk (sd_rs w (sd_sum w n) u) g0 i)))] := hl
        refine lv_goto (tgt := 79) hx hb dX1_parts_138 (by decide) ?_
        have hl := lv_sub (l' := [(0, .ref h1), (1, .int (nI u)), (2, .long (lN (sd_sum w n))), (4, .long v4), (6, .int (sd_oi (sd_pk (sd_rs w (sd_sum w n) u) g0 i))), (7, .int (nI (i + 1)))]) hl [1, 2, 3, 4, 5, 0] rfl
        rw [← hbs2] at hl
        exact ih (by omega) ls hl
      · have hg0 := h
        cases hbb : sd_pk (sd_rs w (sd_sum w n) u) g0 i with
        | none =>
          rw [hbb] at hl hbs
          have hbs2 : (sd_pk (sd_rs w (sd_sum w n) u) g0 (i + 1)) = some i := by rw [hbs, hg0]; rfl
          refine lv_iload hx hb dX1_parts_98 (lv_at hl 4 rfl) ?_
          refine lv_if_lt (tgt := 131) hx hb dX1_parts_100 (by decide) (fun h => ?_) (fun h => ?_)
          · refine lv_iload hx hb dX1_parts_131 (lv_at hl 5 rfl) ?_
            refine lv_istore hx hb dX1_parts_133 hl (by decide) rfl (fun ls hl => ?_)
            have hl : lv_has ls 8 [(6, .int (nI i)), (0, .ref h1), (1, .int (nI u)), (2, .long (lN (sd_sum w n))), (4, .long v4), (7, .int (nI i))] := hl
            refine lv_iinc (k := 5) (v := nI (i + 1)) hx hb dX1_parts_135 hl rfl (nI_add _ 1) (by decide) rfl (fun ls hl => ?_)
            have hl : lv_has ls 8 [(7, .int (nI (i + 1))), (6, .int (nI i)), (0, .ref h1), (1, .int (nI u)), (2, .long (lN (sd_sum w n))), (4, .long v4)] := hl
            refine lv_goto (tgt := 79) hx hb dX1_parts_138 (by decide) ?_
            have hl := lv_sub (l' := [(0, .ref h1), (1, .int (nI u)), (2, .long (lN (sd_sum w n))), (4, .long v4), (6, .int (nI i)), (7, .int (nI (i + 1)))]) hl [2, 3, 4, 5, 1, 0] rfl
            have hl : lv_has ls 8 [(0, .ref h1), (1, .int (nI u)), (2, .long (lN (sd_sum w n))), (4, .long v4), (6, .int (sd_oi (sd_pk (sd_rs w (sd_sum w n) u) g0 (i + 1)))), (7, .int (nI (i + 1)))] := by rw [hbs2]; exact hl
            exact ih (by omega) ls hl
          · exact absurd (by decide +kernel) h
        | some b0 =>
          rw [hbb] at hl hbs
          have hb0 := (sd_pk_some hbb).1
          have hl : lv_has ls 8 [(0, .ref h1), (1, .int (nI u)), (2, .long (lN (sd_sum w n))), (4, .long v4), (6, .int (nI b0)), (7, .int (nI i))] := hl
          have hwb := ok.2.2.1 b0
          have hbm2 : u * w b0 ≤ 10001 * 100000 := sd_mw_le hu hwb
          have hr1 : u * w i % sd_sum w n < sd_sum w n := Nat.mod_lt _ hW
          have hr2 : u * w b0 % sd_sum w n < sd_sum w n := Nat.mod_lt _ hW
          refine lv_iload hx hb dX1_parts_98 (lv_at hl 4 rfl) ?_
          refine sd_iz_lt (a := b0) (tgt := 131) hx hb dX1_parts_100 (by decide) (by omega) ?_
          refine lv_iload_n hx hb dX1_parts_103 rfl (lv_at hl 1 rfl) ?_
          refine lv_i2l (v := lN u) hx hb dX1_parts_104 (nI_l (by omega)) ?_
          refine lv_aload_n hx hb dX1_parts_105 rfl (lv_at hl 0 rfl) ?_
          refine va_get (D := (dC, dI)) (ci := 1) (v := .ref a1) (C := RX1) (T := TX1) (N := 6) hx hb hts u_in_X1 hown hK hP 0 rfl rfl 2 (by decide) (hts (.fieldLink RX1 13 "ShareDeskModel" "weights" "[J") k_fieldLink_X1_13) (fun _ h9 => h9) rfl dX1_parts_106 ?_
          refine lv_iload hx hb dX1_parts_109 (lv_at hl 5 rfl) ?_
          refine sd_lald (j := i) (v := lN (w i)) hx hb hK hP 1 0 rfl rfl (by omega) (by decide) rfl dX1_parts_111 ?_
          refine sd_lmul (v := lN (u * (w i))) hx hb dX1_parts_112 (lN_mul _ _) ?_
          refine lv_lload_n hx hb dX1_parts_113 rfl (lv_at hl 2 rfl) ?_
          refine sd_lrem (v := lN ((u * (w i)) % (sd_sum w n))) hx hb dX1_parts_114 (sd_lne0 (by omega) (by omega)) (pk_lRem (by omega) (by omega) (by omega)) ?_
          refine lv_iload_n hx hb dX1_parts_115 rfl (lv_at hl 1 rfl) ?_
          refine lv_i2l (v := lN u) hx hb dX1_parts_116 (nI_l (by omega)) ?_
          refine lv_aload_n hx hb dX1_parts_117 rfl (lv_at hl 0 rfl) ?_
          refine va_get (D := (dC, dI)) (ci := 1) (v := .ref a1) (C := RX1) (T := TX1) (N := 6) hx hb hts u_in_X1 hown hK hP 0 rfl rfl 2 (by decide) (hts (.fieldLink RX1 13 "ShareDeskModel" "weights" "[J") k_fieldLink_X1_13) (fun _ h9 => h9) rfl dX1_parts_118 ?_
          refine lv_iload hx hb dX1_parts_121 (lv_at hl 4 rfl) ?_
          refine sd_lald (j := b0) (v := lN (w b0)) hx hb hK hP 1 0 rfl rfl (by omega) (by decide) rfl dX1_parts_123 ?_
          refine sd_lmul (v := lN (u * (w b0))) hx hb dX1_parts_124 (lN_mul _ _) ?_
          refine lv_lload_n hx hb dX1_parts_125 rfl (lv_at hl 2 rfl) ?_
          refine sd_lrem (v := lN ((u * (w b0)) % (sd_sum w n))) hx hb dX1_parts_126 (sd_lne0 (by omega) (by omega)) (pk_lRem (by omega) (by omega) (by omega)) ?_
          refine sd_lc_le (a := (u * (w i)) % (sd_sum w n)) (b := (u * (w b0)) % (sd_sum w n)) (tgt := 135) hx hb dX1_parts_127 dX1_parts_128 (by decide) (by omega) (by omega) (fun h => ?_) (fun h => ?_)
          · have hbs2 : (sd_pk (sd_rs w (sd_sum w n) u) g0 (i + 1)) = some b0 := by rw [hbs, hg0, show sd_pt (sd_rs w (sd_sum w n) u) i (some b0) = false from decide_eq_false (Nat.not_lt.mpr h)]; rfl
            refine lv_iinc (k := 5) (v := nI (i + 1)) hx hb dX1_parts_135 hl rfl (nI_add _ 1) (by decide) rfl (fun ls hl => ?_)
            have hl : lv_has ls 8 [(7, .int (nI (i + 1))), (0, .ref h1), (1, .int (nI u)), (2, .long (lN (sd_sum w n))), (4, .long v4), (6, .int (nI b0))] := hl
            refine lv_goto (tgt := 79) hx hb dX1_parts_138 (by decide) ?_
            have hl := lv_sub (l' := [(0, .ref h1), (1, .int (nI u)), (2, .long (lN (sd_sum w n))), (4, .long v4), (6, .int (nI b0)), (7, .int (nI (i + 1)))]) hl [1, 2, 3, 4, 5, 0] rfl
            have hl : lv_has ls 8 [(0, .ref h1), (1, .int (nI u)), (2, .long (lN (sd_sum w n))), (4, .long v4), (6, .int (sd_oi (sd_pk (sd_rs w (sd_sum w n) u) g0 (i + 1)))), (7, .int (nI (i + 1)))] := by rw [hbs2]; exact hl
            exact ih (by omega) ls hl
          · have hbs2 : (sd_pk (sd_rs w (sd_sum w n) u) g0 (i + 1)) = some i := by rw [hbs, hg0, show sd_pt (sd_rs w (sd_sum w n) u) i (some b0) = true from decide_eq_true h]; rfl
            refine lv_iload hx hb dX1_parts_131 (lv_at hl 5 rfl) ?_
            refine lv_istore hx hb dX1_parts_133 hl (by decide) rfl (fun ls hl => ?_)
            have hl : lv_has ls 8 [(6, .int (nI i)), (0, .ref h1), (1, .int (nI u)), (2, .long (lN (sd_sum w n))), (4, .long v4), (7, .int (nI i))] := hl
            refine lv_iinc (k := 5) (v := nI (i + 1)) hx hb dX1_parts_135 hl rfl (nI_add _ 1) (by decide) rfl (fun ls hl => ?_)
            have hl : lv_has ls 8 [(7, .int (nI (i + 1))), (6, .int (nI i)), (0, .ref h1), (1, .int (nI u)), (2, .long (lN (sd_sum w n))), (4, .long v4)] := hl
            refine lv_goto (tgt := 79) hx hb dX1_parts_138 (by decide) ?_
            have hl := lv_sub (l' := [(0, .ref h1), (1, .int (nI u)), (2, .long (lN (sd_sum w n))), (4, .long v4), (6, .int (nI i)), (7, .int (nI (i + 1)))]) hl [2, 3, 4, 5, 1, 0] rfl
            have hl : lv_has ls 8 [(0, .ref h1), (1, .int (nI u)), (2, .long (lN (sd_sum w n))), (4, .long v4), (6, .int (sd_oi (sd_pk (sd_rs w (sd_sum w n) u) g0 (i + 1)))), (7, .int (nI (i + 1)))] := by rw [hbs2]; exact hl
            exact ih (by omega) ls hl
end
section
set_option maxHeartbeats 4000000 in
set_option maxRecDepth 100000 in
theorem lp_parts2 {p : Program} {l : Launch} {e : Env} {R : Room} {s : State} {m : MethodId} {args : Array Value} {below : List Frame} {meth : Method} {c : Code} {cells slots : Nat} {Q : State → Prop} (hx : p.tables.exec = Jvm.exec) (hb : c.code = cX1_parts) (hml : c.maxLocals = 8) (hts0 : ∀ w ∈ (sd_ws yX1_parts cX1_parts 8 none), w.before args s = true) (hown : s.vm.findClass RX1 = some m.cls) {dC : Nat → ClassId} {dI : Nat → Nat → Nat} {cL cZ : ClassId} {h1 a1 a2 a3 a4 er n : Nat} {w : Nat → Nat} (A : Nat → Prop) (H0 : Heap) (hA : ∀ q, H0.size ≤ q → A q) (hK : va_K (dC, dI) vwCl [(cL, .long), (cZ, .boolean)] s) (ke : Nat → Int64) (ok : sd_ok n w) (hW : 0 < sd_sum w n) (u : Nat) (hu : u ≤ 10001) (Lv : Nat) (hLn : Lv < n)
    (kk : ∀ (H : Heap) (locs : List Loc) (sh : Nat → Int64) (go : Nat → Int32) (ls : Array Slot), va_P (dC, dI) vwCl [(h1, .inr (1, [.int (nI er), .int (nI n), .ref a1, .ref a2, .ref a3, .ref a4])), (a1, .inl (cL, 8, .inr (.inl (fun z => lN (w z))))), (a2, .inl (cL, 8, .inr (.inl sh))), (a3, .inl (cL, 8, .inr (.inl ke))), (a4, .inl (cZ, 8, .inl go))] H → va_D A [(h1, .inr (1, [.int (nI er), .int (nI n), .ref a1, .ref a2, .ref a3, .ref a4])), (a1, .inl (cL, 8, .inr (.inl (fun z => lN (w z))))), (a2, .inl (cL, 8, .inr (.inl sh))), (a3, .inl (cL, 8, .inr (.inl ke))), (a4, .inl (cZ, 8, .inl go))] → va_S A H0 H locs → ((∀ j, j < n → sh j = lN ((u * w j / sd_sum w n) + (if (sd_gs (sd_rs w (sd_sum w n) u) n Lv) j then 1 else 0))) ∧ ∀ j, j < n → go j = sd_bi ((sd_gs (sd_rs w (sd_sum w n) u) n Lv) j)) → lv_has ls 8 [(0, .ref h1), (1, .int (nI u)), (2, .long (lN (sd_sum w n))), (4, .long (lN (Lv - Lv)))] → W p l e R s m args below meth c H locs cells slots Q (F0 m 169 ls []))
    : ∀ (f t : Nat), t + f = Lv → ∀ (H : Heap) (locs : List Loc) (sh : Nat → Int64) (go : Nat → Int32) (ls : Array Slot), va_P (dC, dI) vwCl [(h1, .inr (1, [.int (nI er), .int (nI n), .ref a1, .ref a2, .ref a3, .ref a4])), (a1, .inl (cL, 8, .inr (.inl (fun z => lN (w z))))), (a2, .inl (cL, 8, .inr (.inl sh))), (a3, .inl (cL, 8, .inr (.inl ke))), (a4, .inl (cZ, 8, .inl go))] H → va_D A [(h1, .inr (1, [.int (nI er), .int (nI n), .ref a1, .ref a2, .ref a3, .ref a4])), (a1, .inl (cL, 8, .inr (.inl (fun z => lN (w z))))), (a2, .inl (cL, 8, .inr (.inl sh))), (a3, .inl (cL, 8, .inr (.inl ke))), (a4, .inl (cZ, 8, .inl go))] → va_S A H0 H locs → ((∀ j, j < n → sh j = lN ((u * w j / sd_sum w n) + (if (sd_gs (sd_rs w (sd_sum w n) u) n t) j then 1 else 0))) ∧ ∀ j, j < n → go j = sd_bi ((sd_gs (sd_rs w (sd_sum w n) u) n t) j)) → lv_has ls 8 [(0, .ref h1), (1, .int (nI u)), (2, .long (lN (sd_sum w n))), (4, .long (lN (Lv - t)))] → W p l e R s m args below meth c H locs cells slots Q (F0 m 66 ls []) := by
  have hts : ∀ w ∈ sd_WS, w.before args s = true := fun w h => hts0 w (List.mem_cons_of_mem _ h)
  have hn8 := ok.2.1
  have hWl := sd_W_le ok.2.2.1 ok.2.1
  intro f
  induction f using Nat.strongRecOn with
  | ind f ih0 =>
    intro t hi H locs sh go ls hP hD hS hv hl
    have ih : t < Lv → ∀ (H : Heap) (locs : List Loc) (sh : Nat → Int64) (go : Nat → Int32) (ls : Array Slot), va_P (dC, dI) vwCl [(h1, .inr (1, [.int (nI er), .int (nI n), .ref a1, .ref a2, .ref a3, .ref a4])), (a1, .inl (cL, 8, .inr (.inl (fun z => lN (w z))))), (a2, .inl (cL, 8, .inr (.inl sh))), (a3, .inl (cL, 8, .inr (.inl ke))), (a4, .inl (cZ, 8, .inl go))] H → va_D A [(h1, .inr (1, [.int (nI er), .int (nI n), .ref a1, .ref a2, .ref a3, .ref a4])), (a1, .inl (cL, 8, .inr (.inl (fun z => lN (w z))))), (a2, .inl (cL, 8, .inr (.inl sh))), (a3, .inl (cL, 8, .inr (.inl ke))), (a4, .inl (cZ, 8, .inl go))] → va_S A H0 H locs → ((∀ j, j < n → sh j = lN ((u * w j / sd_sum w n) + (if (sd_gs (sd_rs w (sd_sum w n) u) n (t + 1)) j then 1 else 0))) ∧ ∀ j, j < n → go j = sd_bi ((sd_gs (sd_rs w (sd_sum w n) u) n (t + 1)) j)) → lv_has ls 8 [(0, .ref h1), (1, .int (nI u)), (2, .long (lN (sd_sum w n))), (4, .long (lN (Lv - (t + 1))))] → W p l e R s m args below meth c H locs cells slots Q (F0 m 66 ls []) := fun hlt => ih0 (f - 1) (by omega) (t + 1) (by omega)
    refine lv_lload hx hb dX1_parts_66 (lv_at hl 3 rfl) ?_
    refine lv_lconst (v := lN 0) hx hb dX1_parts_68 rfl ?_
    refine sd_lc_le (a := Lv - t) (b := 0) (tgt := 169) hx hb dX1_parts_69 dX1_parts_70 (by decide) (by omega) (by omega) (fun h => ?_) (fun h => ?_)
    · have hin : t = Lv := by omega
      subst hin
      exact kk H locs sh go ls hP hD hS hv hl
    · refine lv_iconst (v := (-1)) hx hb dX1_parts_73 (by decide +kernel) ?_
      refine lv_istore hx hb dX1_parts_74 hl (by decide) rfl (fun ls hl => ?_)
      have hl : lv_has ls 8 [(6, .int (-1)), (0, .ref h1), (1, .int (nI u)), (2, .long (lN (sd_sum w n))), (4, .long (lN (Lv - t)))] := hl
      refine lv_iconst (v := (nI 0)) hx hb dX1_parts_76 (by decide +kernel) ?_
      refine lv_istore hx hb dX1_parts_77 hl (by decide) rfl (fun ls hl => ?_)
      have hl : lv_has ls 8 [(7, .int (nI 0)), (6, .int (-1)), (0, .ref h1), (1, .int (nI u)), (2, .long (lN (sd_sum w n))), (4, .long (lN (Lv - t)))] := hl
      have hl := lv_sub (l' := [(0, .ref h1), (1, .int (nI u)), (2, .long (lN (sd_sum w n))), (4, .long (lN (Lv - t))), (6, .int (-1)), (7, .int (nI 0))]) hl [2, 3, 4, 5, 1, 0] rfl
      refine lp_parts3 hx hb hml hts0 hown hK hP ok hW u hu (lN (Lv - t)) (sd_gs (sd_rs w (sd_sum w n) u) n t) hv.2 (fun ls hl => ?_) n 0 (by omega) ls hl
      obtain ⟨b0, hbb⟩ := sd_gs_pick (r := (sd_rs w (sd_sum w n) u)) (n := n) (t := t) (by rw [(sd_gs_inv (r := (sd_rs w (sd_sum w n) u)) (n := n) (t := t) (by omega)).1]; omega)
      rw [hbb] at hl
      have hl : lv_has ls 8 [(0, .ref h1), (1, .int (nI u)), (2, .long (lN (sd_sum w n))), (4, .long (lN (Lv - t))), (6, .int (nI b0)), (7, .int (nI n))] := hl
      obtain ⟨hb0, hgf, -⟩ := sd_pk_some hbb
      have hgs : (sd_gs (sd_rs w (sd_sum w n) u) n (t + 1)) = fun i => if i = b0 then true else (sd_gs (sd_rs w (sd_sum w n) u) n t) i := by
        show (match sd_pk (sd_rs w (sd_sum w n) u) (sd_gs (sd_rs w (sd_sum w n) u) n t) n with
          | none => (sd_gs (sd_rs w (sd_sum w n) u) n t)
          | some b => fun i => if i = b then true else (sd_gs (sd_rs w (sd_sum w n) u) n t) i) = _
        rw [hbb]
      refine lv_aload_n hx hb dX1_parts_141 rfl (lv_at hl 0 rfl) ?_
      refine va_get (D := (dC, dI)) (ci := 1) (v := .ref a4) (C := RX1) (T := TX1) (N := 6) hx hb hts u_in_X1 hown hK hP 0 rfl rfl 5 (by decide) (hts (.fieldLink RX1 23 "ShareDeskModel" "got" "[Z") k_fieldLink_X1_23) (fun _ h9 => h9) rfl dX1_parts_142 ?_
      refine lv_iload hx hb dX1_parts_145 (lv_at hl 4 rfl) ?_
      refine lv_iconst (v := (nI 1)) hx hb dX1_parts_147 (by decide +kernel) ?_
      refine sd_zast (j := b0) hx hb hK hP hD hS 4 1 rfl rfl (by omega) (by decide) dX1_parts_148 (fun H locs hP hD hS => ?_)
      have hP : va_P (dC, dI) vwCl [(h1, .inr (1, [.int (nI er), .int (nI n), .ref a1, .ref a2, .ref a3, .ref a4])), (a1, .inl (cL, 8, .inr (.inl (fun z => lN (w z))))), (a2, .inl (cL, 8, .inr (.inl sh))), (a3, .inl (cL, 8, .inr (.inl ke))), (a4, .inl (cZ, 8, .inl (upd go b0 (vp_nar .boolean (nI 1)))))] H := hP
      have hD : va_D A [(h1, .inr (1, [.int (nI er), .int (nI n), .ref a1, .ref a2, .ref a3, .ref a4])), (a1, .inl (cL, 8, .inr (.inl (fun z => lN (w z))))), (a2, .inl (cL, 8, .inr (.inl sh))), (a3, .inl (cL, 8, .inr (.inl ke))), (a4, .inl (cZ, 8, .inl (upd go b0 (vp_nar .boolean (nI 1)))))] := hD
      refine lv_aload_n hx hb dX1_parts_149 rfl (lv_at hl 0 rfl) ?_
      refine va_get (D := (dC, dI)) (ci := 1) (v := .ref a2) (C := RX1) (T := TX1) (N := 6) hx hb hts u_in_X1 hown hK hP 0 rfl rfl 3 (by decide) (hts (.fieldLink RX1 17 "ShareDeskModel" "shares" "[J") k_fieldLink_X1_17) (fun _ h9 => h9) rfl dX1_parts_150 ?_
      refine lv_iload hx hb dX1_parts_153 (lv_at hl 4 rfl) ?_
      refine lv_dup2_11 hx hb dX1_parts_155 rfl rfl ?_
      refine sd_lald (j := b0) (v := lN (u * w b0 / sd_sum w n)) hx hb hK hP 2 0 rfl rfl (by omega) (by decide) (by rw [hv.1 b0 hb0, hgf]; rfl) dX1_parts_156 ?_
      refine lv_lconst (v := lN 1) hx hb dX1_parts_157 rfl ?_
      refine sd_ladd (v := lN ((u * w b0 / sd_sum w n) + 1)) hx hb dX1_parts_158 (lN_add _ _) ?_
      refine sd_last (j := b0) hx hb hK hP hD hS 2 0 rfl rfl (by omega) (by decide) dX1_parts_159 (fun H locs hP hD hS => ?_)
      have hP : va_P (dC, dI) vwCl [(h1, .inr (1, [.int (nI er), .int (nI n), .ref a1, .ref a2, .ref a3, .ref a4])), (a1, .inl (cL, 8, .inr (.inl (fun z => lN (w z))))), (a2, .inl (cL, 8, .inr (.inl (vp_updL sh b0 (lN (u * w b0 / sd_sum w n + 1)))))), (a3, .inl (cL, 8, .inr (.inl ke))), (a4, .inl (cZ, 8, .inl (upd go b0 (vp_nar .boolean (nI 1)))))] H := hP
      have hD : va_D A [(h1, .inr (1, [.int (nI er), .int (nI n), .ref a1, .ref a2, .ref a3, .ref a4])), (a1, .inl (cL, 8, .inr (.inl (fun z => lN (w z))))), (a2, .inl (cL, 8, .inr (.inl (vp_updL sh b0 (lN (u * w b0 / sd_sum w n + 1)))))), (a3, .inl (cL, 8, .inr (.inl ke))), (a4, .inl (cZ, 8, .inl (upd go b0 (vp_nar .boolean (nI 1)))))] := hD
      refine lv_lload hx hb dX1_parts_160 (lv_at hl 3 rfl) ?_
      refine lv_lconst (v := lN 1) hx hb dX1_parts_162 rfl ?_
      refine sd_lsub (v := lN ((Lv - t) - 1)) hx hb dX1_parts_163 (lN_sub (by omega)) ?_
      refine lv_lstore hx hb dX1_parts_164 hl (by decide) rfl (fun ls hl => ?_)
      have hl : lv_has ls 8 [(4, .long (lN ((Lv - t) - 1))), (0, .ref h1), (1, .int (nI u)), (2, .long (lN (sd_sum w n))), (6, .int (nI b0)), (7, .int (nI n))] := hl
      refine lv_goto (tgt := 66) hx hb dX1_parts_166 (by decide) ?_
      have hl := lv_sub (l' := [(0, .ref h1), (1, .int (nI u)), (2, .long (lN (sd_sum w n))), (4, .long (lN ((Lv - t) - 1)))]) hl [1, 2, 3, 0] rfl
      have he : Lv - t - 1 = Lv - (t + 1) := by omega
      rw [he] at hl
      refine ih (by omega) H locs _ _ ls hP hD hS ⟨fun j hj => ?_, fun j hj => ?_⟩ hl
      · rw [hgs]
        by_cases e : j = b0
        · rw [e, pk_uLs]; simp
        · rw [pk_uLn e, hv.1 j hj]; simp [e]
      · rw [hgs]
        by_cases e : j = b0
        · rw [e, pk_us]; simp only [if_true]; decide +kernel
        · rw [pk_un e, hv.2 j hj]; simp [e]
set_option maxHeartbeats 4000000 in
set_option maxRecDepth 100000 in
theorem m_parts (l : Launch) (dC : Nat → ClassId) (dI : Nat → Nat → Nat) (cL cZ : ClassId) (h1 a1 a2 a3 a4 er n : Nat) (w : Nat → Nat) (sh ke : Nat → Int64) (go : Nat → Int32) (sz : Nat) (ok : sd_ok n w) (hW : 0 < sd_sum w n) (u : Nat) (hu : u ≤ 10001) : Met l yX1_parts (sd_ws yX1_parts cX1_parts 8 none) (sd_rm 1 0 0) (sd_Pw (dC, dI) vwCl [(cL, .long), (cZ, .boolean)] (sd_M cL cZ h1 a1 a2 a3 a4 er n w sh ke go) sz [.ref h1, .int (nI u)]) (va_Qv (fun (v_ : sd_S) => (∀ j, j < n → v_.1 j = lN (sd_u0 w n u j)) ∧ v_.2.1 = ke) (sd_Bw (dC, dI) vwCl [(cL, .long), (cZ, .boolean)] (sd_M cL cZ h1 a1 a2 a3 a4 er n w sh ke go) sz (fun v_ => (sd_M cL cZ h1 a1 a2 a3 a4 er n w v_.1 v_.2.1 v_.2.2))) (va_A (sd_M cL cZ h1 a1 a2 a3 a4 er n w sh ke go) sz)) 0 0 (va_A (sd_M cL cZ h1 a1 a2 a3 a4 er n w sh ke go) sz) := by
  refine Met.ofW (cc := cX1_parts) (maxL := 8) (ret := none) (by decide) rfl ?_
  intro p e s m args below meth c s₁ B hml hv
  obtain ⟨rfl, hsz, hP, hK, hD0⟩ := hv
  subst hsz
  have hx := B.exec
  have hb := B.bytes
  have hr := B.returns
  have hts0 := atoms_spec (ws := (sd_ws yX1_parts cX1_parts 8 none)) B.pre
  have hts : ∀ w ∈ sd_WS, w.before _ s = true := fun w h => hts0 w (List.mem_cons_of_mem _ h)
  have hown : s.vm.findClass RX1 = some m.cls := findClass_of_methodNamed B.named
  have hlocks := B.notSynchronized
  have hl := lv_entry ([.ref h1, .int (nI u)]) (n := 8) (Nat.le_of_ble_eq_true rfl)
  rw [lg_entry_eq]
  generalize (lg_sl ([.ref h1, .int (nI u)]) ++ List.replicate (8 - (lg_sl ([.ref h1, .int (nI u)])).length) Slot.unset).toArray = ls at hl ⊢
  have hl : lv_has ls 8 [(0, .ref h1), (1, .int (nI u))] := hl
  obtain ⟨A, hAe⟩ : ∃ A, A = va_A (sd_M cL cZ h1 a1 a2 a3 a4 er n w sh ke go) s.heap.size := ⟨_, rfl⟩
  have hD : va_D A (sd_M cL cZ h1 a1 a2 a3 a4 er n w sh ke go) := by rw [hAe]; exact hD0.self
  have hA : ∀ q : Nat, s.heap.size ≤ q → A q := fun q h => by rw [hAe]; exact Or.inr h
  have hS : va_S A s.heap s.heap [] := va_S.rf
  have hP : va_P (dC, dI) vwCl [(h1, .inr (1, [.int (nI er), .int (nI n), .ref a1, .ref a2, .ref a3, .ref a4])), (a1, .inl (cL, 8, .inr (.inl (fun z => lN (w z))))), (a2, .inl (cL, 8, .inr (.inl sh))), (a3, .inl (cL, 8, .inr (.inl ke))), (a4, .inl (cZ, 8, .inl go))] s.heap := hP
  have hD : va_D A [(h1, .inr (1, [.int (nI er), .int (nI n), .ref a1, .ref a2, .ref a3, .ref a4])), (a1, .inl (cL, 8, .inr (.inl (fun z => lN (w z))))), (a2, .inl (cL, 8, .inr (.inl sh))), (a3, .inl (cL, 8, .inr (.inl ke))), (a4, .inl (cZ, 8, .inl go))] := hD
  have hn8 := ok.2.1
  refine lv_aload_n hx hb dX1_parts_0 rfl (lv_at hl 0 rfl) ?_
  refine sd_calll (va_runV (As := []) (rest := []) ⟨hx, hb, hml, hown, hts0⟩ (m_all l dC dI cL cZ h1 a1 a2 a3 a4 er n w sh ke go hn8) (cwV 0 hts0 (sd_gV k_methodLink_X1_48 k_instanceMethod_X1_all k_sel_X1_all k_init_ShareDeskModel k_code_X1_all) rfl rfl rfl (by decide +kernel) ⟨Nat.le_of_ble_eq_true rfl, Nat.le_of_ble_eq_true rfl⟩) (sd_preV hK hP (q0 := 0) (ci := 1) rfl rfl) rfl rfl hl.1 rfl (lv_room (Nat.le_of_ble_eq_true rfl)) dX1_parts_1 ⟨Nat.zero_le _, Nat.zero_le _⟩) ?_
  refine lv_lstore_n hx hb dX1_parts_4 rfl hl (by decide) rfl (fun ls hl => ?_)
  have hl : lv_has ls 8 [(2, .long (lN (sd_sum w n))), (0, .ref h1), (1, .int (nI u))] := hl
  refine lv_iload_n hx hb dX1_parts_5 rfl (lv_at hl 2 rfl) ?_
  refine lv_i2l (v := lN u) hx hb dX1_parts_6 (nI_l (by omega)) ?_
  refine lv_lstore hx hb dX1_parts_7 hl (by decide) rfl (fun ls hl => ?_)
  have hl : lv_has ls 8 [(4, .long (lN u)), (2, .long (lN (sd_sum w n))), (0, .ref h1), (1, .int (nI u))] := hl
  refine lv_iconst (v := (nI 0)) hx hb dX1_parts_9 (by decide +kernel) ?_
  refine lv_istore hx hb dX1_parts_10 hl (by decide) rfl (fun ls hl => ?_)
  have hl : lv_has ls 8 [(6, .int (nI 0)), (4, .long (lN u)), (2, .long (lN (sd_sum w n))), (0, .ref h1), (1, .int (nI u))] := hl
  have hl := lv_sub (l' := [(0, .ref h1), (1, .int (nI u)), (2, .long (lN (sd_sum w n))), (4, .long (lN u)), (6, .int (nI 0))]) hl [3, 4, 2, 1, 0] rfl
  refine lp_parts1 hx hb hml hts0 hown A s.heap hA hK ke ok hW u hu (fun H locs sh go ls hP hD hS hv hl => ?_) n 0 (by omega) s.heap [] sh go ls hP hD hS ⟨fun j hj => absurd hj (Nat.not_lt_zero _), fun j hj => absurd hj (Nat.not_lt_zero _)⟩ hl
  have hl := lv_sub (l' := [(0, .ref h1), (1, .int (nI u)), (2, .long (lN (sd_sum w n))), (4, .long (lN (u - (sd_sum (fun j => u * w j / sd_sum w n) n))))]) hl [0, 1, 2, 3] rfl
  obtain ⟨Lv, hLv⟩ : ∃ Lv, Lv = sd_sum (sd_rs w (sd_sum w n) u) n / sd_sum w n := ⟨_, rfl⟩
  have hLl := sd_left (m := u) hW
  rw [← hLv] at hLl
  have he : u - (sd_sum (fun j => u * w j / sd_sum w n) n) = Lv - 0 := by have := hLl.1; omega
  rw [he] at hl
  refine lp_parts2 hx hb hml hts0 hown A s.heap hA hK ke ok hW u hu Lv hLl.2 (fun H locs sh go ls hP hD hS hv hl => ?_) Lv 0 (by omega) H locs sh go ls hP hD hS ⟨fun j hj => ?_, fun j hj => ?_⟩ hl
  · have hnew : ∀ j, j < n → sh j = lN (sd_u0 w n u j) := fun j hj => by rw [hv.1 j hj, sd_u0_gs hW hj, hLv]
    exact W.vret hx hb hr (fun t ht hW => ⟨⟨(sh, ke, go), rfl, ⟨hnew, rfl⟩, by rw [ht]; exact hP, va_K.moved hW.alike hK, by rw [← hAe]; exact hD⟩, by rw [← hAe]; exact hS.F ht⟩) (fun q hq => by rw [← hAe]; exact hS.2.2 q hq) dX1_parts_169
  · rw [hv.1 j hj]; rfl
  · rw [hv.2 j hj]; rfl
set_option maxHeartbeats 4000000 in
set_option maxRecDepth 100000 in
theorem lp_give1 {p : Program} {l : Launch} {e : Env} {R : Room} {s : State} {m : MethodId} {args : Array Value} {below : List Frame} {meth : Method} {c : Code} {cells slots : Nat} {Q : State → Prop} (hx : p.tables.exec = Jvm.exec) (hb : c.code = cX1_give) (hml : c.maxLocals = 4) (hts0 : ∀ w ∈ (sd_ws yX1_give cX1_give 4 none), w.before args s = true) (hown : s.vm.findClass RX1 = some m.cls) {dC : Nat → ClassId} {dI : Nat → Nat → Nat} {cL cZ : ClassId} {h1 a1 a2 a3 a4 er n : Nat} {w : Nat → Nat} (A : Nat → Prop) (H0 : Heap) (hA : ∀ q, H0.size ≤ q → A q) (hK : va_K (dC, dI) vwCl [(cL, .long), (cZ, .boolean)] s) (ke : Nat → Int64) (ok : sd_ok n w) (y u : Nat)
    (kk : ∀ (H : Heap) (locs : List Loc) (sh : Nat → Int64) (go : Nat → Int32) (ls : Array Slot), va_P (dC, dI) vwCl [(h1, .inr (1, [.int (nI er), .int (nI n), .ref a1, .ref a2, .ref a3, .ref a4])), (a1, .inl (cL, 8, .inr (.inl (fun z => lN (w z))))), (a2, .inl (cL, 8, .inr (.inl sh))), (a3, .inl (cL, 8, .inr (.inl ke))), (a4, .inl (cZ, 8, .inl go))] H → va_D A [(h1, .inr (1, [.int (nI er), .int (nI n), .ref a1, .ref a2, .ref a3, .ref a4])), (a1, .inl (cL, 8, .inr (.inl (fun z => lN (w z))))), (a2, .inl (cL, 8, .inr (.inl sh))), (a3, .inl (cL, 8, .inr (.inl ke))), (a4, .inl (cZ, 8, .inl go))] → va_S A H0 H locs → (∀ j, j < n → sh j = lN 0) → lv_has ls 4 [(0, .ref h1), (1, .int (nI y)), (2, .int (nI u)), (3, .int (nI n))] → W p l e R s m args below meth c H locs cells slots Q (F0 m 33 ls []))
    : ∀ (f i : Nat), i + f = n → ∀ (H : Heap) (locs : List Loc) (sh : Nat → Int64) (go : Nat → Int32) (ls : Array Slot), va_P (dC, dI) vwCl [(h1, .inr (1, [.int (nI er), .int (nI n), .ref a1, .ref a2, .ref a3, .ref a4])), (a1, .inl (cL, 8, .inr (.inl (fun z => lN (w z))))), (a2, .inl (cL, 8, .inr (.inl sh))), (a3, .inl (cL, 8, .inr (.inl ke))), (a4, .inl (cZ, 8, .inl go))] H → va_D A [(h1, .inr (1, [.int (nI er), .int (nI n), .ref a1, .ref a2, .ref a3, .ref a4])), (a1, .inl (cL, 8, .inr (.inl (fun z => lN (w z))))), (a2, .inl (cL, 8, .inr (.inl sh))), (a3, .inl (cL, 8, .inr (.inl ke))), (a4, .inl (cZ, 8, .inl go))] → va_S A H0 H locs → (∀ j, j < i → sh j = lN 0) → lv_has ls 4 [(0, .ref h1), (1, .int (nI y)), (2, .int (nI u)), (3, .int (nI i))] → W p l e R s m args below meth c H locs cells slots Q (F0 m 12 ls []) := by
  have hts : ∀ w ∈ sd_WS, w.before args s = true := fun w h => hts0 w (List.mem_cons_of_mem _ h)
  have hn8 := ok.2.1
  intro f
  induction f using Nat.strongRecOn with
  | ind f ih0 =>
    intro i hi H locs sh go ls hP hD hS hv hl
    have ih : i < n → ∀ (H : Heap) (locs : List Loc) (sh : Nat → Int64) (go : Nat → Int32) (ls : Array Slot), va_P (dC, dI) vwCl [(h1, .inr (1, [.int (nI er), .int (nI n), .ref a1, .ref a2, .ref a3, .ref a4])), (a1, .inl (cL, 8, .inr (.inl (fun z => lN (w z))))), (a2, .inl (cL, 8, .inr (.inl sh))), (a3, .inl (cL, 8, .inr (.inl ke))), (a4, .inl (cZ, 8, .inl go))] H → va_D A [(h1, .inr (1, [.int (nI er), .int (nI n), .ref a1, .ref a2, .ref a3, .ref a4])), (a1, .inl (cL, 8, .inr (.inl (fun z => lN (w z))))), (a2, .inl (cL, 8, .inr (.inl sh))), (a3, .inl (cL, 8, .inr (.inl ke))), (a4, .inl (cZ, 8, .inl go))] → va_S A H0 H locs → (∀ j, j < (i + 1) → sh j = lN 0) → lv_has ls 4 [(0, .ref h1), (1, .int (nI y)), (2, .int (nI u)), (3, .int (nI (i + 1)))] → W p l e R s m args below meth c H locs cells slots Q (F0 m 12 ls []) := fun hlt => ih0 (f - 1) (by omega) (i + 1) (by omega)
    refine lv_iload_n hx hb dX1_give_12 rfl (lv_at hl 3 rfl) ?_
    refine lv_aload_n hx hb dX1_give_13 rfl (lv_at hl 0 rfl) ?_
    refine va_get (D := (dC, dI)) (ci := 1) (v := .int (nI n)) (C := RX1) (T := TX1) (N := 6) hx hb hts u_in_X1 hown hK hP 0 rfl rfl 1 (by decide) (hts (.fieldLink RX1 7 "ShareDeskModel" "parties" "I") k_fieldLink_X1_7) (fun _ h9 => h9) rfl dX1_give_14 ?_
    refine sd_ic_ge (a := i) (b := n) (tgt := 33) hx hb dX1_give_17 (by decide) (by omega) (by omega) (fun h => ?_) (fun h => ?_)
    · have hin : i = n := by omega
      subst hin
      exact kk H locs sh go ls hP hD hS hv hl
    · refine lv_aload_n hx hb dX1_give_20 rfl (lv_at hl 0 rfl) ?_
      refine va_get (D := (dC, dI)) (ci := 1) (v := .ref a2) (C := RX1) (T := TX1) (N := 6) hx hb hts u_in_X1 hown hK hP 0 rfl rfl 3 (by decide) (hts (.fieldLink RX1 17 "ShareDeskModel" "shares" "[J") k_fieldLink_X1_17) (fun _ h9 => h9) rfl dX1_give_21 ?_
      refine lv_iload_n hx hb dX1_give_24 rfl (lv_at hl 3 rfl) ?_
      refine lv_lconst (v := lN 0) hx hb dX1_give_25 rfl ?_
      refine sd_last (j := i) hx hb hK hP hD hS 2 0 rfl rfl (by omega) (by decide) dX1_give_26 (fun H locs hP hD hS => ?_)
      have hP : va_P (dC, dI) vwCl [(h1, .inr (1, [.int (nI er), .int (nI n), .ref a1, .ref a2, .ref a3, .ref a4])), (a1, .inl (cL, 8, .inr (.inl (fun z => lN (w z))))), (a2, .inl (cL, 8, .inr (.inl (vp_updL sh i (lN 0))))), (a3, .inl (cL, 8, .inr (.inl ke))), (a4, .inl (cZ, 8, .inl go))] H := hP
      have hD : va_D A [(h1, .inr (1, [.int (nI er), .int (nI n), .ref a1, .ref a2, .ref a3, .ref a4])), (a1, .inl (cL, 8, .inr (.inl (fun z => lN (w z))))), (a2, .inl (cL, 8, .inr (.inl (vp_updL sh i (lN 0))))), (a3, .inl (cL, 8, .inr (.inl ke))), (a4, .inl (cZ, 8, .inl go))] := hD
      refine lv_iinc (k := 3) (v := nI (i + 1)) hx hb dX1_give_27 hl rfl (nI_add _ 1) (by decide) rfl (fun ls hl => ?_)
      have hl : lv_has ls 4 [(3, .int (nI (i + 1))), (0, .ref h1), (1, .int (nI y)), (2, .int (nI u))] := hl
      refine lv_goto (tgt := 12) hx hb dX1_give_30 (by decide) ?_
      have hl := lv_sub (l' := [(0, .ref h1), (1, .int (nI y)), (2, .int (nI u)), (3, .int (nI (i + 1)))]) hl [1, 2, 3, 0] rfl
      refine ih (by omega) H locs _ _ ls hP hD hS (fun j hj => ?_) hl
      by_cases e : j = i
      · rw [e, pk_uLs]
      · rw [pk_uLn e]; exact hv j (by omega)
set_option maxHeartbeats 4000000 in
set_option maxRecDepth 100000 in
theorem lp_give2 {p : Program} {l : Launch} {e : Env} {R : Room} {s : State} {m : MethodId} {args : Array Value} {below : List Frame} {meth : Method} {c : Code} {cells slots : Nat} {Q : State → Prop} (hx : p.tables.exec = Jvm.exec) (hb : c.code = cX1_give) (hml : c.maxLocals = 4) (hts0 : ∀ w ∈ (sd_ws yX1_give cX1_give 4 none), w.before args s = true) (hown : s.vm.findClass RX1 = some m.cls) {dC : Nat → ClassId} {dI : Nat → Nat → Nat} {cL cZ : ClassId} {h1 a1 a2 a3 a4 er n : Nat} {w : Nat → Nat} (A : Nat → Prop) (H0 : Heap) (hA : ∀ q, H0.size ≤ q → A q) (hK : va_K (dC, dI) vwCl [(cL, .long), (cZ, .boolean)] s) (ke : Nat → Int64) (ok : sd_ok n w) (hW : 0 < sd_sum w n) (y u : Nat) (hy : y ≤ 2) (hu : u ≤ 10000) (hR : (sd_rm 0 0 0).frames + 1 ≤ R.frames ∧ 8 + (4 + 11) + (sd_rm 0 0 0).locals ≤ R.locals) (hf : cells + 0 ≤ R.cells ∧ slots + 0 ≤ R.slots)
    (kk : ∀ (H : Heap) (locs : List Loc) (sh : Nat → Int64) (go : Nat → Int32) (ls : Array Slot), va_P (dC, dI) vwCl [(h1, .inr (1, [.int (nI er), .int (nI n), .ref a1, .ref a2, .ref a3, .ref a4])), (a1, .inl (cL, 8, .inr (.inl (fun z => lN (w z))))), (a2, .inl (cL, 8, .inr (.inl sh))), (a3, .inl (cL, 8, .inr (.inl ke))), (a4, .inl (cZ, 8, .inl go))] H → va_D A [(h1, .inr (1, [.int (nI er), .int (nI n), .ref a1, .ref a2, .ref a3, .ref a4])), (a1, .inl (cL, 8, .inr (.inl (fun z => lN (w z))))), (a2, .inl (cL, 8, .inr (.inl sh))), (a3, .inl (cL, 8, .inr (.inl ke))), (a4, .inl (cZ, 8, .inl go))] → va_S A H0 H locs → (∀ j, j < n → sh j = lN (sd_G y w n u j)) → lv_has ls 4 [(0, .ref h1), (1, .int (nI y)), (2, .int (nI u)), (3, .int (nI u))] → W p l e R s m args below meth c H locs cells slots Q (F0 m 51 ls []))
    : ∀ (f k : Nat), k + f = u → ∀ (H : Heap) (locs : List Loc) (sh : Nat → Int64) (go : Nat → Int32) (ls : Array Slot), va_P (dC, dI) vwCl [(h1, .inr (1, [.int (nI er), .int (nI n), .ref a1, .ref a2, .ref a3, .ref a4])), (a1, .inl (cL, 8, .inr (.inl (fun z => lN (w z))))), (a2, .inl (cL, 8, .inr (.inl sh))), (a3, .inl (cL, 8, .inr (.inl ke))), (a4, .inl (cZ, 8, .inl go))] H → va_D A [(h1, .inr (1, [.int (nI er), .int (nI n), .ref a1, .ref a2, .ref a3, .ref a4])), (a1, .inl (cL, 8, .inr (.inl (fun z => lN (w z))))), (a2, .inl (cL, 8, .inr (.inl sh))), (a3, .inl (cL, 8, .inr (.inl ke))), (a4, .inl (cZ, 8, .inl go))] → va_S A H0 H locs → (∀ j, j < n → sh j = lN (sd_G y w n k j)) → lv_has ls 4 [(0, .ref h1), (1, .int (nI y)), (2, .int (nI u)), (3, .int (nI k))] → W p l e R s m args below meth c H locs cells slots Q (F0 m 35 ls []) := by
  have hts : ∀ w ∈ sd_WS, w.before args s = true := fun w h => hts0 w (List.mem_cons_of_mem _ h)
  have hn8 := ok.2.1
  intro f
  induction f using Nat.strongRecOn with
  | ind f ih0 =>
    intro k hi H locs sh go ls hP hD hS hv hl
    have ih : k < u → ∀ (H : Heap) (locs : List Loc) (sh : Nat → Int64) (go : Nat → Int32) (ls : Array Slot), va_P (dC, dI) vwCl [(h1, .inr (1, [.int (nI er), .int (nI n), .ref a1, .ref a2, .ref a3, .ref a4])), (a1, .inl (cL, 8, .inr (.inl (fun z => lN (w z))))), (a2, .inl (cL, 8, .inr (.inl sh))), (a3, .inl (cL, 8, .inr (.inl ke))), (a4, .inl (cZ, 8, .inl go))] H → va_D A [(h1, .inr (1, [.int (nI er), .int (nI n), .ref a1, .ref a2, .ref a3, .ref a4])), (a1, .inl (cL, 8, .inr (.inl (fun z => lN (w z))))), (a2, .inl (cL, 8, .inr (.inl sh))), (a3, .inl (cL, 8, .inr (.inl ke))), (a4, .inl (cZ, 8, .inl go))] → va_S A H0 H locs → (∀ j, j < n → sh j = lN (sd_G y w n (k + 1) j)) → lv_has ls 4 [(0, .ref h1), (1, .int (nI y)), (2, .int (nI u)), (3, .int (nI (k + 1)))] → W p l e R s m args below meth c H locs cells slots Q (F0 m 35 ls []) := fun hlt => ih0 (f - 1) (by omega) (k + 1) (by omega)
    refine lv_iload_n hx hb dX1_give_35 rfl (lv_at hl 3 rfl) ?_
    refine lv_iload_n hx hb dX1_give_36 rfl (lv_at hl 2 rfl) ?_
    refine sd_ic_ge (a := k) (b := u) (tgt := 51) hx hb dX1_give_37 (by decide) (by omega) (by omega) (fun h => ?_) (fun h => ?_)
    · have hin : k = u := by omega
      subst hin
      exact kk H locs sh go ls hP hD hS hv hl
    · have hGl : ∀ j, j < n → sd_G y w n k j ≤ 10001 := fun j hj => by
        have h1 := sd_sum_ge (f := sd_G y w n k) hj
        rw [(sd_inv_G (sd_sum_pos hW) k).1] at h1
        omega
      refine lv_aload_n hx hb dX1_give_40 rfl (lv_at hl 0 rfl) ?_
      refine lv_iload_n hx hb dX1_give_41 rfl (lv_at hl 1 rfl) ?_
      refine sd_wv (va_runV (As := [.int (nI y)]) (rest := []) ⟨hx, hb, hml, hown, hts0⟩ (m_one l dC dI cL cZ h1 a1 a2 a3 a4 er n w sh ke go H.size ok hW y hy (sd_G y w n k) hv hGl) (cwV 1 hts0 (sd_gV k_methodLink_X1_56 k_instanceMethod_X1_one k_sel_X1_one k_init_ShareDeskModel k_code_X1_one) rfl rfl rfl (by decide +kernel) ⟨hR.1, hR.2⟩) (sd_preVw hK hP hD (q0 := 0) (ci := 1) rfl rfl) rfl rfl hl.1 rfl (lv_room (Nat.le_of_ble_eq_true rfl)) dX1_give_42 hf) hD hS hA (fun u_ H locs hpo hP hD hS => ?_)
      obtain ⟨sh, ke1, go⟩ := u_
      try dsimp only at hpo
      have hP : va_P (dC, dI) vwCl [(h1, .inr (1, [.int (nI er), .int (nI n), .ref a1, .ref a2, .ref a3, .ref a4])), (a1, .inl (cL, 8, .inr (.inl (fun z => lN (w z))))), (a2, .inl (cL, 8, .inr (.inl sh))), (a3, .inl (cL, 8, .inr (.inl ke1))), (a4, .inl (cZ, 8, .inl go))] H := hP
      have hD : va_D A [(h1, .inr (1, [.int (nI er), .int (nI n), .ref a1, .ref a2, .ref a3, .ref a4])), (a1, .inl (cL, 8, .inr (.inl (fun z => lN (w z))))), (a2, .inl (cL, 8, .inr (.inl sh))), (a3, .inl (cL, 8, .inr (.inl ke1))), (a4, .inl (cZ, 8, .inl go))] := hD
      obtain ⟨hpo, hke⟩ := hpo
      rw [hke] at hP hD
      have hP : va_P (dC, dI) vwCl [(h1, .inr (1, [.int (nI er), .int (nI n), .ref a1, .ref a2, .ref a3, .ref a4])), (a1, .inl (cL, 8, .inr (.inl (fun z => lN (w z))))), (a2, .inl (cL, 8, .inr (.inl sh))), (a3, .inl (cL, 8, .inr (.inl ke))), (a4, .inl (cZ, 8, .inl go))] H := hP
      have hD : va_D A [(h1, .inr (1, [.int (nI er), .int (nI n), .ref a1, .ref a2, .ref a3, .ref a4])), (a1, .inl (cL, 8, .inr (.inl (fun z => lN (w z))))), (a2, .inl (cL, 8, .inr (.inl sh))), (a3, .inl (cL, 8, .inr (.inl ke))), (a4, .inl (cZ, 8, .inl go))] := hD
      refine lv_iinc (k := 3) (v := nI (k + 1)) hx hb dX1_give_45 hl rfl (nI_add _ 1) (by decide) rfl (fun ls hl => ?_)
      have hl : lv_has ls 4 [(3, .int (nI (k + 1))), (0, .ref h1), (1, .int (nI y)), (2, .int (nI u))] := hl
      refine lv_goto (tgt := 35) hx hb dX1_give_48 (by decide) ?_
      have hl := lv_sub (l' := [(0, .ref h1), (1, .int (nI y)), (2, .int (nI u)), (3, .int (nI (k + 1)))]) hl [1, 2, 3, 0] rfl
      exact ih (by omega) H locs sh go ls hP hD hS hpo hl
set_option maxHeartbeats 4000000 in
set_option maxRecDepth 100000 in
theorem m_give (l : Launch) (dC : Nat → ClassId) (dI : Nat → Nat → Nat) (cL cZ : ClassId) (h1 a1 a2 a3 a4 er n : Nat) (w : Nat → Nat) (sh ke : Nat → Int64) (go : Nat → Int32) (sz : Nat) (ok : sd_ok n w) (hW : 0 < sd_sum w n) (y u : Nat) (hy : y ≤ 2) (hu : u ≤ 10000) : Met l yX1_give (sd_ws yX1_give cX1_give 4 none) (sd_rm 2 0 0) (sd_Pw (dC, dI) vwCl [(cL, .long), (cZ, .boolean)] (sd_M cL cZ h1 a1 a2 a3 a4 er n w sh ke go) sz [.ref h1, .int (nI y), .int (nI u)]) (va_Qv (fun (v_ : sd_S) => (∀ j, j < n → v_.1 j = lN (sd_U y w n u j)) ∧ v_.2.1 = ke) (sd_Bw (dC, dI) vwCl [(cL, .long), (cZ, .boolean)] (sd_M cL cZ h1 a1 a2 a3 a4 er n w sh ke go) sz (fun v_ => (sd_M cL cZ h1 a1 a2 a3 a4 er n w v_.1 v_.2.1 v_.2.2))) (va_A (sd_M cL cZ h1 a1 a2 a3 a4 er n w sh ke go) sz)) 0 0 (va_A (sd_M cL cZ h1 a1 a2 a3 a4 er n w sh ke go) sz) := by
  refine Met.ofW (cc := cX1_give) (maxL := 4) (ret := none) (by decide) rfl ?_
  intro p e s m args below meth c s₁ B hml hv
  obtain ⟨rfl, hsz, hP, hK, hD0⟩ := hv
  subst hsz
  have hx := B.exec
  have hb := B.bytes
  have hr := B.returns
  have hts0 := atoms_spec (ws := (sd_ws yX1_give cX1_give 4 none)) B.pre
  have hts : ∀ w ∈ sd_WS, w.before _ s = true := fun w h => hts0 w (List.mem_cons_of_mem _ h)
  have hown : s.vm.findClass RX1 = some m.cls := findClass_of_methodNamed B.named
  have hlocks := B.notSynchronized
  have hl := lv_entry ([.ref h1, .int (nI y), .int (nI u)]) (n := 4) (Nat.le_of_ble_eq_true rfl)
  rw [lg_entry_eq]
  generalize (lg_sl ([.ref h1, .int (nI y), .int (nI u)]) ++ List.replicate (4 - (lg_sl ([.ref h1, .int (nI y), .int (nI u)])).length) Slot.unset).toArray = ls at hl ⊢
  have hl : lv_has ls 4 [(0, .ref h1), (1, .int (nI y)), (2, .int (nI u))] := hl
  obtain ⟨A, hAe⟩ : ∃ A, A = va_A (sd_M cL cZ h1 a1 a2 a3 a4 er n w sh ke go) s.heap.size := ⟨_, rfl⟩
  have hD : va_D A (sd_M cL cZ h1 a1 a2 a3 a4 er n w sh ke go) := by rw [hAe]; exact hD0.self
  have hA : ∀ q : Nat, s.heap.size ≤ q → A q := fun q h => by rw [hAe]; exact Or.inr h
  have hS : va_S A s.heap s.heap [] := va_S.rf
  have hP : va_P (dC, dI) vwCl [(h1, .inr (1, [.int (nI er), .int (nI n), .ref a1, .ref a2, .ref a3, .ref a4])), (a1, .inl (cL, 8, .inr (.inl (fun z => lN (w z))))), (a2, .inl (cL, 8, .inr (.inl sh))), (a3, .inl (cL, 8, .inr (.inl ke))), (a4, .inl (cZ, 8, .inl go))] s.heap := hP
  have hD : va_D A [(h1, .inr (1, [.int (nI er), .int (nI n), .ref a1, .ref a2, .ref a3, .ref a4])), (a1, .inl (cL, 8, .inr (.inl (fun z => lN (w z))))), (a2, .inl (cL, 8, .inr (.inl sh))), (a3, .inl (cL, 8, .inr (.inl ke))), (a4, .inl (cZ, 8, .inl go))] := hD
  have hn8 := ok.2.1
  refine lv_iload_n hx hb dX1_give_0 rfl (lv_at hl 1 rfl) ?_
  refine sd_iz_ne (a := y) (tgt := 10) hx hb dX1_give_1 (by decide) (by omega) (fun h => ?_) (fun h => ?_)
  · have hy0 := h
    refine lv_iconst (v := (nI 0)) hx hb dX1_give_10 (by decide +kernel) ?_
    refine lv_istore_n hx hb dX1_give_11 rfl hl (by decide) rfl (fun ls hl => ?_)
    have hl : lv_has ls 4 [(3, .int (nI 0)), (0, .ref h1), (1, .int (nI y)), (2, .int (nI u))] := hl
    have hl := lv_sub (l' := [(0, .ref h1), (1, .int (nI y)), (2, .int (nI u)), (3, .int (nI 0))]) hl [1, 2, 3, 0] rfl
    refine lp_give1 hx hb hml hts0 hown A s.heap hA hK ke ok y u (fun H locs sh go ls hP hD hS hv hl => ?_) n 0 (by omega) s.heap [] sh go ls hP hD hS (fun j hj => absurd hj (Nat.not_lt_zero _)) hl
    refine lv_iconst (v := (nI 0)) hx hb dX1_give_33 (by decide +kernel) ?_
    refine lv_istore_n hx hb dX1_give_34 rfl hl (by decide) rfl (fun ls hl => ?_)
    have hl : lv_has ls 4 [(3, .int (nI 0)), (0, .ref h1), (1, .int (nI y)), (2, .int (nI u))] := hl
    have hl := lv_sub (l' := [(0, .ref h1), (1, .int (nI y)), (2, .int (nI u)), (3, .int (nI 0))]) hl [1, 2, 3, 0] rfl
    refine lp_give2 hx hb hml hts0 hown A s.heap hA hK ke ok hW y u hy hu ⟨Nat.le_of_ble_eq_true rfl, Nat.le_of_ble_eq_true rfl⟩ ⟨Nat.zero_le _, Nat.zero_le _⟩ (fun H locs sh go ls hP hD hS hv hl => ?_) u 0 (by omega) H locs sh go ls hP hD hS hv hl
    have hnew : ∀ j, j < n → sh j = lN (sd_U y w n u j) := fun j hj => by rw [hv j hj]; unfold sd_U; rw [if_neg (by omega)]
    exact W.vret hx hb hr (fun t ht hW => ⟨⟨(sh, ke, go), rfl, ⟨hnew, rfl⟩, by rw [ht]; exact hP, va_K.moved hW.alike hK, by rw [← hAe]; exact hD⟩, by rw [← hAe]; exact hS.F ht⟩) (fun q hq => by rw [← hAe]; exact hS.2.2 q hq) dX1_give_51
  · refine lv_aload_n hx hb dX1_give_4 rfl (lv_at hl 0 rfl) ?_
    refine lv_iload_n hx hb dX1_give_5 rfl (lv_at hl 2 rfl) ?_
    refine sd_wv (va_runV (As := [.int (nI u)]) (rest := []) ⟨hx, hb, hml, hown, hts0⟩ (m_parts l dC dI cL cZ h1 a1 a2 a3 a4 er n w sh ke go s.heap.size ok hW u (by omega)) (cwV 1 hts0 (sd_gV k_methodLink_X1_52 k_instanceMethod_X1_parts k_sel_X1_parts k_init_ShareDeskModel k_code_X1_parts) rfl rfl rfl (by decide +kernel) ⟨Nat.le_of_ble_eq_true rfl, Nat.le_of_ble_eq_true rfl⟩) (sd_preVw hK hP hD (q0 := 0) (ci := 1) rfl rfl) rfl rfl hl.1 rfl (lv_room (Nat.le_of_ble_eq_true rfl)) dX1_give_6 ⟨Nat.zero_le _, Nat.zero_le _⟩) hD hS hA (fun u_ H locs hpo hP hD hS => ?_)
    obtain ⟨sh, ke1, go⟩ := u_
    try dsimp only at hpo
    have hP : va_P (dC, dI) vwCl [(h1, .inr (1, [.int (nI er), .int (nI n), .ref a1, .ref a2, .ref a3, .ref a4])), (a1, .inl (cL, 8, .inr (.inl (fun z => lN (w z))))), (a2, .inl (cL, 8, .inr (.inl sh))), (a3, .inl (cL, 8, .inr (.inl ke1))), (a4, .inl (cZ, 8, .inl go))] H := hP
    have hD : va_D A [(h1, .inr (1, [.int (nI er), .int (nI n), .ref a1, .ref a2, .ref a3, .ref a4])), (a1, .inl (cL, 8, .inr (.inl (fun z => lN (w z))))), (a2, .inl (cL, 8, .inr (.inl sh))), (a3, .inl (cL, 8, .inr (.inl ke1))), (a4, .inl (cZ, 8, .inl go))] := hD
    obtain ⟨hpo, hke⟩ := hpo
    rw [hke] at hP hD
    have hP : va_P (dC, dI) vwCl [(h1, .inr (1, [.int (nI er), .int (nI n), .ref a1, .ref a2, .ref a3, .ref a4])), (a1, .inl (cL, 8, .inr (.inl (fun z => lN (w z))))), (a2, .inl (cL, 8, .inr (.inl sh))), (a3, .inl (cL, 8, .inr (.inl ke))), (a4, .inl (cZ, 8, .inl go))] H := hP
    have hD : va_D A [(h1, .inr (1, [.int (nI er), .int (nI n), .ref a1, .ref a2, .ref a3, .ref a4])), (a1, .inl (cL, 8, .inr (.inl (fun z => lN (w z))))), (a2, .inl (cL, 8, .inr (.inl sh))), (a3, .inl (cL, 8, .inr (.inl ke))), (a4, .inl (cZ, 8, .inl go))] := hD
    have hnew : ∀ j, j < n → sh j = lN (sd_U y w n u j) := fun j hj => by rw [hpo j hj]; unfold sd_U; rw [if_pos h]
    exact W.vret hx hb hr (fun t ht hW => ⟨⟨(sh, ke, go), rfl, ⟨hnew, rfl⟩, by rw [ht]; exact hP, va_K.moved hW.alike hK, by rw [← hAe]; exact hD⟩, by rw [← hAe]; exact hS.F ht⟩) (fun q hq => by rw [← hAe]; exact hS.2.2 q hq) dX1_give_9
end
section
set_option maxHeartbeats 4000000 in
set_option maxRecDepth 100000 in
theorem m_share_bad (l : Launch) (dC : Nat → ClassId) (dI : Nat → Nat → Nat) (cL cZ : ClassId) (h1 a1 a2 a3 a4 er n : Nat) (w : Nat → Nat) (sh ke : Nat → Int64) (go : Nat → Int32) (sz : Nat) (hn1 : 1 ≤ n) (hn8 : n ≤ 8) (x1 x2 x3 : Int32) (hbad : sd_rg x1 0 2 = false ∨ sd_rg x2 0 10000 = false ∨ sd_rg x3 0 (n - 1) = false) : Met l yX1_share (sd_ws yX1_share cX1_share 4 (some .int)) (sd_rm 3 0 0) (sd_Pw (dC, dI) vwCl [(cL, .long), (cZ, .boolean)] (sd_M cL cZ h1 a1 a2 a3 a4 er n w sh ke go) sz [.ref h1, .int x1, .int x2, .int x3]) (va_Qi (fun r (v_ : sd_S) => r = nI 0) (sd_Bw (dC, dI) vwCl [(cL, .long), (cZ, .boolean)] (sd_M cL cZ h1 a1 a2 a3 a4 er n w sh ke go) sz (fun v_ => (sd_M cL cZ h1 a1 a2 a3 a4 1 n w v_.1 v_.2.1 v_.2.2))) (va_A (sd_M cL cZ h1 a1 a2 a3 a4 er n w sh ke go) sz)) 0 0 (va_A (sd_M cL cZ h1 a1 a2 a3 a4 er n w sh ke go) sz) := by
  refine Met.ofW (cc := cX1_share) (maxL := 4) (ret := (some .int)) (by decide) rfl ?_
  intro p e s m args below meth c s₁ B hml hv
  obtain ⟨rfl, hsz, hP, hK, hD0⟩ := hv
  subst hsz
  have hx := B.exec
  have hb := B.bytes
  have hr := B.returns
  have hts0 := atoms_spec (ws := (sd_ws yX1_share cX1_share 4 (some .int))) B.pre
  have hts : ∀ w ∈ sd_WS, w.before _ s = true := fun w h => hts0 w (List.mem_cons_of_mem _ h)
  have hown : s.vm.findClass RX1 = some m.cls := findClass_of_methodNamed B.named
  have hlocks := B.notSynchronized
  have hl := lv_entry ([.ref h1, .int x1, .int x2, .int x3]) (n := 4) (Nat.le_of_ble_eq_true rfl)
  rw [lg_entry_eq]
  generalize (lg_sl ([.ref h1, .int x1, .int x2, .int x3]) ++ List.replicate (4 - (lg_sl ([.ref h1, .int x1, .int x2, .int x3])).length) Slot.unset).toArray = ls at hl ⊢
  have hl : lv_has ls 4 [(0, .ref h1), (1, .int x1), (2, .int x2), (3, .int x3)] := hl
  obtain ⟨A, hAe⟩ : ∃ A, A = va_A (sd_M cL cZ h1 a1 a2 a3 a4 er n w sh ke go) s.heap.size := ⟨_, rfl⟩
  have hD : va_D A (sd_M cL cZ h1 a1 a2 a3 a4 er n w sh ke go) := by rw [hAe]; exact hD0.self
  have hA : ∀ q : Nat, s.heap.size ≤ q → A q := fun q h => by rw [hAe]; exact Or.inr h
  have hS : va_S A s.heap s.heap [] := va_S.rf
  have hP : va_P (dC, dI) vwCl [(h1, .inr (1, [.int (nI er), .int (nI n), .ref a1, .ref a2, .ref a3, .ref a4])), (a1, .inl (cL, 8, .inr (.inl (fun z => lN (w z))))), (a2, .inl (cL, 8, .inr (.inl sh))), (a3, .inl (cL, 8, .inr (.inl ke))), (a4, .inl (cZ, 8, .inl go))] s.heap := hP
  have hD : va_D A [(h1, .inr (1, [.int (nI er), .int (nI n), .ref a1, .ref a2, .ref a3, .ref a4])), (a1, .inl (cL, 8, .inr (.inl (fun z => lN (w z))))), (a2, .inl (cL, 8, .inr (.inl sh))), (a3, .inl (cL, 8, .inr (.inl ke))), (a4, .inl (cZ, 8, .inl go))] := hD
  refine lv_aload_n hx hb dX1_share_0 rfl (lv_at hl 0 rfl) ?_
  refine lv_iconst (v := (nI 0)) hx hb dX1_share_1 (by decide +kernel) ?_
  refine va_put (D := (dC, dI)) (ci := 1) (v := .int (nI 0)) (ty := .int) (C := RX1) (T := TX1) (N := 6) hx hb hts u_in_X1 tyX1 tyX1_ok nmX1 hown hK hP hD hS 0 rfl rfl 0 (by decide) (hts (.fieldLink RX1 27 "ShareDeskModel" "err" "I") k_fieldLink_X1_27) (fun _ h9 => h9) rfl (by decide +kernel) rfl rfl (Nat.le_of_ble_eq_true rfl) dX1_share_2 (fun H locs hP hD hS => ?_)
  have hP : va_P (dC, dI) vwCl [(h1, .inr (1, [.int (nI 0), .int (nI n), .ref a1, .ref a2, .ref a3, .ref a4])), (a1, .inl (cL, 8, .inr (.inl (fun z => lN (w z))))), (a2, .inl (cL, 8, .inr (.inl sh))), (a3, .inl (cL, 8, .inr (.inl ke))), (a4, .inl (cZ, 8, .inl go))] H := hP
  have hD : va_D A [(h1, .inr (1, [.int (nI 0), .int (nI n), .ref a1, .ref a2, .ref a3, .ref a4])), (a1, .inl (cL, 8, .inr (.inl (fun z => lN (w z))))), (a2, .inl (cL, 8, .inr (.inl sh))), (a3, .inl (cL, 8, .inr (.inl ke))), (a4, .inl (cZ, 8, .inl go))] := hD
  refine lv_aload_n hx hb dX1_share_5 rfl (lv_at hl 0 rfl) ?_
  refine lv_iload_n hx hb dX1_share_6 rfl (lv_at hl 1 rfl) ?_
  refine sd_calli (va_runS (As := [.int x1]) (rest := [.ref h1]) ⟨hx, hb, hml, hown, hts0⟩ (m_isWay l dC dI x1) (cwS 1 hts0 (sd_gS k_methodLink_X1_59 k_static_X1_isWay k_init_ShareDeskModel k_code_X1_isWay) rfl rfl rfl (by decide +kernel) ⟨Nat.le_of_ble_eq_true rfl, Nat.le_of_ble_eq_true rfl⟩) (sd_preS (sd_K0 hK) (sd_nil _ _ _)) rfl rfl hl.1 rfl (lv_room (Nat.le_of_ble_eq_true rfl)) dX1_share_7 ⟨Nat.zero_le _, Nat.zero_le _⟩) ?_
  refine sd_bz_eq (tgt := 33) hx hb dX1_share_10 (by decide) (fun hc0 => ?_) (fun hc0 => ?_)
  · have hc0 : sd_rg x1 0 2 = false := hc0
    refine lv_iconst (v := (nI 1)) hx hb dX1_share_33 (by decide +kernel) ?_
    refine lv_goto (tgt := 38) hx hb dX1_share_34 (by decide) ?_
    refine lv_iconst (v := (nI 1)) hx hb dX1_share_38 (by decide +kernel) ?_
    refine sd_wi (va_runV (As := [.int (nI 1), .int (nI 1)]) (rest := []) ⟨hx, hb, hml, hown, hts0⟩ (m_fails1 l dC dI cL cZ h1 a1 a2 a3 a4 0 n w sh ke go H.size rfl 1 (by decide) (by decide)) (cwV 2 hts0 (sd_gV k_methodLink_X1_38 k_instanceMethod_X1_fails k_sel_X1_fails k_init_ShareDeskModel k_code_X1_fails) rfl rfl rfl (by decide +kernel) ⟨Nat.le_of_ble_eq_true rfl, Nat.le_of_ble_eq_true rfl⟩) (sd_preVw hK hP hD (q0 := 0) (ci := 1) rfl rfl) rfl rfl hl.1 rfl (lv_room (Nat.le_of_ble_eq_true rfl)) dX1_share_39 ⟨Nat.zero_le _, Nat.zero_le _⟩) hD hS hA (fun r_ u_ H locs hpo hP hD hS => ?_)
    obtain ⟨sh, ke, go⟩ := u_
    try dsimp only at hpo
    have hP : va_P (dC, dI) vwCl [(h1, .inr (1, [.int (nI 1), .int (nI n), .ref a1, .ref a2, .ref a3, .ref a4])), (a1, .inl (cL, 8, .inr (.inl (fun z => lN (w z))))), (a2, .inl (cL, 8, .inr (.inl sh))), (a3, .inl (cL, 8, .inr (.inl ke))), (a4, .inl (cZ, 8, .inl go))] H := hP
    have hD : va_D A [(h1, .inr (1, [.int (nI 1), .int (nI n), .ref a1, .ref a2, .ref a3, .ref a4])), (a1, .inl (cL, 8, .inr (.inl (fun z => lN (w z))))), (a2, .inl (cL, 8, .inr (.inl sh))), (a3, .inl (cL, 8, .inr (.inl ke))), (a4, .inl (cZ, 8, .inl go))] := hD
    subst hpo
    refine sd_iz_ne (a := 1) (tgt := 67) hx hb dX1_share_42 (by decide) (by omega) (fun h => ?_) (fun h => ?_)
    · refine lv_iconst (v := (nI 0)) hx hb dX1_share_67 (by decide +kernel) ?_
      exact W.iret hx hb hr (fun t ht hW => ⟨⟨_, (sh, ke, go), rfl, rfl, by rw [ht]; exact hP, va_K.moved hW.alike hK, by rw [← hAe]; exact hD⟩, by rw [← hAe]; exact hS.F ht⟩) (fun q hq => by rw [← hAe]; exact hS.2.2 q hq) dX1_share_68
    · exact absurd h (by omega)
  · have hc0 : sd_rg x1 0 2 = true := hc0
    refine lv_iload_n hx hb dX1_share_13 rfl (lv_at hl 2 rfl) ?_
    refine lv_i2l (v := x2.toInt64) hx hb dX1_share_14 rfl ?_
    refine lv_lconst (v := lN 0) hx hb dX1_share_15 rfl ?_
    refine lv_ldc2 (v := 10000) hx hb hown (hts (.constantLong RX1 62 10000) k_constantLong_X1_62) dX1_share_16 ?_
    refine sd_topl (y := lN 10000) (by decide +kernel) ?_
    refine sd_calli (va_runS (As := [.long (x2.toInt64), .long (lN 0), .long (lN 10000)]) (rest := [.ref h1]) ⟨hx, hb, hml, hown, hts0⟩ (m_in l dC dI x2.toInt64 (lN 0) (lN 10000)) (cwS 3 hts0 (sd_gS k_methodLink_X1_30 k_static_X1_in k_init_ShareDeskModel k_code_X1_in) rfl rfl rfl (by decide +kernel) ⟨Nat.le_of_ble_eq_true rfl, Nat.le_of_ble_eq_true rfl⟩) (sd_preS (sd_K0 hK) (sd_nil _ _ _)) rfl rfl hl.1 rfl (lv_room (Nat.le_of_ble_eq_true rfl)) dX1_share_19 ⟨Nat.zero_le _, Nat.zero_le _⟩) ?_
    refine sd_bz_eq (tgt := 33) hx hb dX1_share_22 (by decide) (fun hc1 => ?_) (fun hc1 => ?_)
    · have hc1 : sd_rg x2 0 10000 = false := hc1
      refine lv_iconst (v := (nI 1)) hx hb dX1_share_33 (by decide +kernel) ?_
      refine lv_goto (tgt := 38) hx hb dX1_share_34 (by decide) ?_
      refine lv_iconst (v := (nI 1)) hx hb dX1_share_38 (by decide +kernel) ?_
      refine sd_wi (va_runV (As := [.int (nI 1), .int (nI 1)]) (rest := []) ⟨hx, hb, hml, hown, hts0⟩ (m_fails1 l dC dI cL cZ h1 a1 a2 a3 a4 0 n w sh ke go H.size rfl 1 (by decide) (by decide)) (cwV 2 hts0 (sd_gV k_methodLink_X1_38 k_instanceMethod_X1_fails k_sel_X1_fails k_init_ShareDeskModel k_code_X1_fails) rfl rfl rfl (by decide +kernel) ⟨Nat.le_of_ble_eq_true rfl, Nat.le_of_ble_eq_true rfl⟩) (sd_preVw hK hP hD (q0 := 0) (ci := 1) rfl rfl) rfl rfl hl.1 rfl (lv_room (Nat.le_of_ble_eq_true rfl)) dX1_share_39 ⟨Nat.zero_le _, Nat.zero_le _⟩) hD hS hA (fun r_ u_ H locs hpo hP hD hS => ?_)
      obtain ⟨sh, ke, go⟩ := u_
      try dsimp only at hpo
      have hP : va_P (dC, dI) vwCl [(h1, .inr (1, [.int (nI 1), .int (nI n), .ref a1, .ref a2, .ref a3, .ref a4])), (a1, .inl (cL, 8, .inr (.inl (fun z => lN (w z))))), (a2, .inl (cL, 8, .inr (.inl sh))), (a3, .inl (cL, 8, .inr (.inl ke))), (a4, .inl (cZ, 8, .inl go))] H := hP
      have hD : va_D A [(h1, .inr (1, [.int (nI 1), .int (nI n), .ref a1, .ref a2, .ref a3, .ref a4])), (a1, .inl (cL, 8, .inr (.inl (fun z => lN (w z))))), (a2, .inl (cL, 8, .inr (.inl sh))), (a3, .inl (cL, 8, .inr (.inl ke))), (a4, .inl (cZ, 8, .inl go))] := hD
      subst hpo
      refine sd_iz_ne (a := 1) (tgt := 67) hx hb dX1_share_42 (by decide) (by omega) (fun h => ?_) (fun h => ?_)
      · refine lv_iconst (v := (nI 0)) hx hb dX1_share_67 (by decide +kernel) ?_
        exact W.iret hx hb hr (fun t ht hW => ⟨⟨_, (sh, ke, go), rfl, rfl, by rw [ht]; exact hP, va_K.moved hW.alike hK, by rw [← hAe]; exact hD⟩, by rw [← hAe]; exact hS.F ht⟩) (fun q hq => by rw [← hAe]; exact hS.2.2 q hq) dX1_share_68
      · exact absurd h (by omega)
    · have hc1 : sd_rg x2 0 10000 = true := hc1
      refine lv_aload_n hx hb dX1_share_25 rfl (lv_at hl 0 rfl) ?_
      refine lv_iload_n hx hb dX1_share_26 rfl (lv_at hl 3 rfl) ?_
      refine sd_calli (va_runV (As := [.int x3]) (rest := [.ref h1]) ⟨hx, hb, hml, hown, hts0⟩ (m_isParty l dC dI cL cZ h1 a1 a2 a3 a4 0 n w sh ke go hn1 hn8 x3) (cwV 1 hts0 (sd_gV k_methodLink_X1_42 k_instanceMethod_X1_isParty k_sel_X1_isParty k_init_ShareDeskModel k_code_X1_isParty) rfl rfl rfl (by decide +kernel) ⟨Nat.le_of_ble_eq_true rfl, Nat.le_of_ble_eq_true rfl⟩) (sd_preV hK hP (q0 := 0) (ci := 1) rfl rfl) rfl rfl hl.1 rfl (lv_room (Nat.le_of_ble_eq_true rfl)) dX1_share_27 ⟨Nat.zero_le _, Nat.zero_le _⟩) ?_
      refine sd_bz_ne (tgt := 37) hx hb dX1_share_30 (by decide) (fun hc2 => ?_) (fun hc2 => ?_)
      · have hc2 : sd_rg x3 0 (n - 1) = true := hc2
        exact absurd hbad (by simp [hc0, hc1, hc2])
      · have hc2 : sd_rg x3 0 (n - 1) = false := hc2
        refine lv_iconst (v := (nI 1)) hx hb dX1_share_33 (by decide +kernel) ?_
        refine lv_goto (tgt := 38) hx hb dX1_share_34 (by decide) ?_
        refine lv_iconst (v := (nI 1)) hx hb dX1_share_38 (by decide +kernel) ?_
        refine sd_wi (va_runV (As := [.int (nI 1), .int (nI 1)]) (rest := []) ⟨hx, hb, hml, hown, hts0⟩ (m_fails1 l dC dI cL cZ h1 a1 a2 a3 a4 0 n w sh ke go H.size rfl 1 (by decide) (by decide)) (cwV 2 hts0 (sd_gV k_methodLink_X1_38 k_instanceMethod_X1_fails k_sel_X1_fails k_init_ShareDeskModel k_code_X1_fails) rfl rfl rfl (by decide +kernel) ⟨Nat.le_of_ble_eq_true rfl, Nat.le_of_ble_eq_true rfl⟩) (sd_preVw hK hP hD (q0 := 0) (ci := 1) rfl rfl) rfl rfl hl.1 rfl (lv_room (Nat.le_of_ble_eq_true rfl)) dX1_share_39 ⟨Nat.zero_le _, Nat.zero_le _⟩) hD hS hA (fun r_ u_ H locs hpo hP hD hS => ?_)
        obtain ⟨sh, ke, go⟩ := u_
        try dsimp only at hpo
        have hP : va_P (dC, dI) vwCl [(h1, .inr (1, [.int (nI 1), .int (nI n), .ref a1, .ref a2, .ref a3, .ref a4])), (a1, .inl (cL, 8, .inr (.inl (fun z => lN (w z))))), (a2, .inl (cL, 8, .inr (.inl sh))), (a3, .inl (cL, 8, .inr (.inl ke))), (a4, .inl (cZ, 8, .inl go))] H := hP
        have hD : va_D A [(h1, .inr (1, [.int (nI 1), .int (nI n), .ref a1, .ref a2, .ref a3, .ref a4])), (a1, .inl (cL, 8, .inr (.inl (fun z => lN (w z))))), (a2, .inl (cL, 8, .inr (.inl sh))), (a3, .inl (cL, 8, .inr (.inl ke))), (a4, .inl (cZ, 8, .inl go))] := hD
        subst hpo
        refine sd_iz_ne (a := 1) (tgt := 67) hx hb dX1_share_42 (by decide) (by omega) (fun h => ?_) (fun h => ?_)
        · refine lv_iconst (v := (nI 0)) hx hb dX1_share_67 (by decide +kernel) ?_
          exact W.iret hx hb hr (fun t ht hW => ⟨⟨_, (sh, ke, go), rfl, rfl, by rw [ht]; exact hP, va_K.moved hW.alike hK, by rw [← hAe]; exact hD⟩, by rw [← hAe]; exact hS.F ht⟩) (fun q hq => by rw [← hAe]; exact hS.2.2 q hq) dX1_share_68
        · exact absurd h (by omega)
set_option maxHeartbeats 4000000 in
set_option maxRecDepth 100000 in
theorem m_share_zero (l : Launch) (dC : Nat → ClassId) (dI : Nat → Nat → Nat) (cL cZ : ClassId) (h1 a1 a2 a3 a4 er n : Nat) (w : Nat → Nat) (sh ke : Nat → Int64) (go : Nat → Int32) (sz : Nat) (hn1 : 1 ≤ n) (hn8 : n ≤ 8) (y u q : Nat) (hy : y ≤ 2) (hu : u ≤ 10000) (hq : q < n) (hz : sd_sum w n = 0) : Met l yX1_share (sd_ws yX1_share cX1_share 4 (some .int)) (sd_rm 3 0 0) (sd_Pw (dC, dI) vwCl [(cL, .long), (cZ, .boolean)] (sd_M cL cZ h1 a1 a2 a3 a4 er n w sh ke go) sz [.ref h1, .int (nI y), .int (nI u), .int (nI q)]) (va_Qi (fun r (v_ : sd_S) => r = nI 0) (sd_Bw (dC, dI) vwCl [(cL, .long), (cZ, .boolean)] (sd_M cL cZ h1 a1 a2 a3 a4 er n w sh ke go) sz (fun v_ => (sd_M cL cZ h1 a1 a2 a3 a4 2 n w v_.1 v_.2.1 v_.2.2))) (va_A (sd_M cL cZ h1 a1 a2 a3 a4 er n w sh ke go) sz)) 0 0 (va_A (sd_M cL cZ h1 a1 a2 a3 a4 er n w sh ke go) sz) := by
  refine Met.ofW (cc := cX1_share) (maxL := 4) (ret := (some .int)) (by decide) rfl ?_
  intro p e s m args below meth c s₁ B hml hv
  obtain ⟨rfl, hsz, hP, hK, hD0⟩ := hv
  subst hsz
  have hx := B.exec
  have hb := B.bytes
  have hr := B.returns
  have hts0 := atoms_spec (ws := (sd_ws yX1_share cX1_share 4 (some .int))) B.pre
  have hts : ∀ w ∈ sd_WS, w.before _ s = true := fun w h => hts0 w (List.mem_cons_of_mem _ h)
  have hown : s.vm.findClass RX1 = some m.cls := findClass_of_methodNamed B.named
  have hlocks := B.notSynchronized
  have hl := lv_entry ([.ref h1, .int (nI y), .int (nI u), .int (nI q)]) (n := 4) (Nat.le_of_ble_eq_true rfl)
  rw [lg_entry_eq]
  generalize (lg_sl ([.ref h1, .int (nI y), .int (nI u), .int (nI q)]) ++ List.replicate (4 - (lg_sl ([.ref h1, .int (nI y), .int (nI u), .int (nI q)])).length) Slot.unset).toArray = ls at hl ⊢
  have hl : lv_has ls 4 [(0, .ref h1), (1, .int (nI y)), (2, .int (nI u)), (3, .int (nI q))] := hl
  obtain ⟨A, hAe⟩ : ∃ A, A = va_A (sd_M cL cZ h1 a1 a2 a3 a4 er n w sh ke go) s.heap.size := ⟨_, rfl⟩
  have hD : va_D A (sd_M cL cZ h1 a1 a2 a3 a4 er n w sh ke go) := by rw [hAe]; exact hD0.self
  have hA : ∀ q : Nat, s.heap.size ≤ q → A q := fun q h => by rw [hAe]; exact Or.inr h
  have hS : va_S A s.heap s.heap [] := va_S.rf
  have hP : va_P (dC, dI) vwCl [(h1, .inr (1, [.int (nI er), .int (nI n), .ref a1, .ref a2, .ref a3, .ref a4])), (a1, .inl (cL, 8, .inr (.inl (fun z => lN (w z))))), (a2, .inl (cL, 8, .inr (.inl sh))), (a3, .inl (cL, 8, .inr (.inl ke))), (a4, .inl (cZ, 8, .inl go))] s.heap := hP
  have hD : va_D A [(h1, .inr (1, [.int (nI er), .int (nI n), .ref a1, .ref a2, .ref a3, .ref a4])), (a1, .inl (cL, 8, .inr (.inl (fun z => lN (w z))))), (a2, .inl (cL, 8, .inr (.inl sh))), (a3, .inl (cL, 8, .inr (.inl ke))), (a4, .inl (cZ, 8, .inl go))] := hD
  refine lv_aload_n hx hb dX1_share_0 rfl (lv_at hl 0 rfl) ?_
  refine lv_iconst (v := (nI 0)) hx hb dX1_share_1 (by decide +kernel) ?_
  refine va_put (D := (dC, dI)) (ci := 1) (v := .int (nI 0)) (ty := .int) (C := RX1) (T := TX1) (N := 6) hx hb hts u_in_X1 tyX1 tyX1_ok nmX1 hown hK hP hD hS 0 rfl rfl 0 (by decide) (hts (.fieldLink RX1 27 "ShareDeskModel" "err" "I") k_fieldLink_X1_27) (fun _ h9 => h9) rfl (by decide +kernel) rfl rfl (Nat.le_of_ble_eq_true rfl) dX1_share_2 (fun H locs hP hD hS => ?_)
  have hP : va_P (dC, dI) vwCl [(h1, .inr (1, [.int (nI 0), .int (nI n), .ref a1, .ref a2, .ref a3, .ref a4])), (a1, .inl (cL, 8, .inr (.inl (fun z => lN (w z))))), (a2, .inl (cL, 8, .inr (.inl sh))), (a3, .inl (cL, 8, .inr (.inl ke))), (a4, .inl (cZ, 8, .inl go))] H := hP
  have hD : va_D A [(h1, .inr (1, [.int (nI 0), .int (nI n), .ref a1, .ref a2, .ref a3, .ref a4])), (a1, .inl (cL, 8, .inr (.inl (fun z => lN (w z))))), (a2, .inl (cL, 8, .inr (.inl sh))), (a3, .inl (cL, 8, .inr (.inl ke))), (a4, .inl (cZ, 8, .inl go))] := hD
  refine lv_aload_n hx hb dX1_share_5 rfl (lv_at hl 0 rfl) ?_
  refine lv_iload_n hx hb dX1_share_6 rfl (lv_at hl 1 rfl) ?_
  refine sd_calli (va_runS (As := [.int (nI y)]) (rest := [.ref h1]) ⟨hx, hb, hml, hown, hts0⟩ (m_isWay l dC dI (nI y)) (cwS 1 hts0 (sd_gS k_methodLink_X1_59 k_static_X1_isWay k_init_ShareDeskModel k_code_X1_isWay) rfl rfl rfl (by decide +kernel) ⟨Nat.le_of_ble_eq_true rfl, Nat.le_of_ble_eq_true rfl⟩) (sd_preS (sd_K0 hK) (sd_nil _ _ _)) rfl rfl hl.1 rfl (lv_room (Nat.le_of_ble_eq_true rfl)) dX1_share_7 ⟨Nat.zero_le _, Nat.zero_le _⟩) ?_
  refine sd_bz_eq (tgt := 33) hx hb dX1_share_10 (by decide) (fun hc0 => ?_) (fun hc0 => ?_)
  · have hc0 : sd_rg (nI y) 0 2 = false := hc0
    exact absurd hc0 (by rw [sd_rg_nI (by omega) (by omega) (by omega) (by omega)]; decide)
  · have hc0 : sd_rg (nI y) 0 2 = true := hc0
    refine lv_iload_n hx hb dX1_share_13 rfl (lv_at hl 2 rfl) ?_
    refine lv_i2l (v := (nI u).toInt64) hx hb dX1_share_14 rfl ?_
    refine lv_lconst (v := lN 0) hx hb dX1_share_15 rfl ?_
    refine lv_ldc2 (v := 10000) hx hb hown (hts (.constantLong RX1 62 10000) k_constantLong_X1_62) dX1_share_16 ?_
    refine sd_topl (y := lN 10000) (by decide +kernel) ?_
    refine sd_calli (va_runS (As := [.long ((nI u).toInt64), .long (lN 0), .long (lN 10000)]) (rest := [.ref h1]) ⟨hx, hb, hml, hown, hts0⟩ (m_in l dC dI (nI u).toInt64 (lN 0) (lN 10000)) (cwS 3 hts0 (sd_gS k_methodLink_X1_30 k_static_X1_in k_init_ShareDeskModel k_code_X1_in) rfl rfl rfl (by decide +kernel) ⟨Nat.le_of_ble_eq_true rfl, Nat.le_of_ble_eq_true rfl⟩) (sd_preS (sd_K0 hK) (sd_nil _ _ _)) rfl rfl hl.1 rfl (lv_room (Nat.le_of_ble_eq_true rfl)) dX1_share_19 ⟨Nat.zero_le _, Nat.zero_le _⟩) ?_
    refine sd_bz_eq (tgt := 33) hx hb dX1_share_22 (by decide) (fun hc1 => ?_) (fun hc1 => ?_)
    · have hc1 : sd_rg (nI u) 0 10000 = false := hc1
      exact absurd hc1 (by rw [sd_rg_nI (by omega) (by omega) (by omega) (by omega)]; decide)
    · have hc1 : sd_rg (nI u) 0 10000 = true := hc1
      refine lv_aload_n hx hb dX1_share_25 rfl (lv_at hl 0 rfl) ?_
      refine lv_iload_n hx hb dX1_share_26 rfl (lv_at hl 3 rfl) ?_
      refine sd_calli (va_runV (As := [.int (nI q)]) (rest := [.ref h1]) ⟨hx, hb, hml, hown, hts0⟩ (m_isParty l dC dI cL cZ h1 a1 a2 a3 a4 0 n w sh ke go hn1 hn8 (nI q)) (cwV 1 hts0 (sd_gV k_methodLink_X1_42 k_instanceMethod_X1_isParty k_sel_X1_isParty k_init_ShareDeskModel k_code_X1_isParty) rfl rfl rfl (by decide +kernel) ⟨Nat.le_of_ble_eq_true rfl, Nat.le_of_ble_eq_true rfl⟩) (sd_preV hK hP (q0 := 0) (ci := 1) rfl rfl) rfl rfl hl.1 rfl (lv_room (Nat.le_of_ble_eq_true rfl)) dX1_share_27 ⟨Nat.zero_le _, Nat.zero_le _⟩) ?_
      refine sd_bz_ne (tgt := 37) hx hb dX1_share_30 (by decide) (fun hc2 => ?_) (fun hc2 => ?_)
      · have hc2 : sd_rg (nI q) 0 (n - 1) = true := hc2
        refine lv_iconst (v := (nI 0)) hx hb dX1_share_37 (by decide +kernel) ?_
        refine lv_iconst (v := (nI 1)) hx hb dX1_share_38 (by decide +kernel) ?_
        refine sd_calli (va_runV (As := [.int (nI 0), .int (nI 1)]) (rest := []) ⟨hx, hb, hml, hown, hts0⟩ (m_fails0 l dC dI cL cZ h1 a1 a2 a3 a4 0 n w sh ke go rfl 1) (cwV 2 hts0 (sd_gV k_methodLink_X1_38 k_instanceMethod_X1_fails k_sel_X1_fails k_init_ShareDeskModel k_code_X1_fails) rfl rfl rfl (by decide +kernel) ⟨Nat.le_of_ble_eq_true rfl, Nat.le_of_ble_eq_true rfl⟩) (sd_preV hK hP (q0 := 0) (ci := 1) rfl rfl) rfl rfl hl.1 rfl (lv_room (Nat.le_of_ble_eq_true rfl)) dX1_share_39 ⟨Nat.zero_le _, Nat.zero_le _⟩) ?_
        refine sd_iz_ne (a := 0) (tgt := 67) hx hb dX1_share_42 (by decide) (by omega) (fun h => ?_) (fun h => ?_)
        · exact absurd h (by omega)
        · refine lv_aload_n hx hb dX1_share_45 rfl (lv_at hl 0 rfl) ?_
          refine lv_aload_n hx hb dX1_share_46 rfl (lv_at hl 0 rfl) ?_
          refine sd_calll (va_runV (As := []) (rest := [.ref h1]) ⟨hx, hb, hml, hown, hts0⟩ (m_all l dC dI cL cZ h1 a1 a2 a3 a4 0 n w sh ke go hn8) (cwV 0 hts0 (sd_gV k_methodLink_X1_48 k_instanceMethod_X1_all k_sel_X1_all k_init_ShareDeskModel k_code_X1_all) rfl rfl rfl (by decide +kernel) ⟨Nat.le_of_ble_eq_true rfl, Nat.le_of_ble_eq_true rfl⟩) (sd_preV hK hP (q0 := 0) (ci := 1) rfl rfl) rfl rfl hl.1 rfl (lv_room (Nat.le_of_ble_eq_true rfl)) dX1_share_47 ⟨Nat.zero_le _, Nat.zero_le _⟩) ?_
          refine lv_lconst (v := lN 0) hx hb dX1_share_50 rfl ?_
          refine sd_lc_ne (a := sd_sum w n) (b := 0) (tgt := 59) hx hb dX1_share_51 dX1_share_52 (by decide) (by omega) (by omega) (fun h => ?_) (fun h => ?_)
          · exact absurd hz h
          · refine lv_iconst (v := (nI 1)) hx hb dX1_share_55 (by decide +kernel) ?_
            refine lv_goto (tgt := 60) hx hb dX1_share_56 (by decide) ?_
            refine lv_iconst (v := (nI 2)) hx hb dX1_share_60 (by decide +kernel) ?_
            refine sd_wi (va_runV (As := [.int (nI 1), .int (nI 2)]) (rest := []) ⟨hx, hb, hml, hown, hts0⟩ (m_fails1 l dC dI cL cZ h1 a1 a2 a3 a4 0 n w sh ke go H.size rfl 2 (by decide) (by decide)) (cwV 2 hts0 (sd_gV k_methodLink_X1_38 k_instanceMethod_X1_fails k_sel_X1_fails k_init_ShareDeskModel k_code_X1_fails) rfl rfl rfl (by decide +kernel) ⟨Nat.le_of_ble_eq_true rfl, Nat.le_of_ble_eq_true rfl⟩) (sd_preVw hK hP hD (q0 := 0) (ci := 1) rfl rfl) rfl rfl hl.1 rfl (lv_room (Nat.le_of_ble_eq_true rfl)) dX1_share_61 ⟨Nat.zero_le _, Nat.zero_le _⟩) hD hS hA (fun r_ u_ H locs hpo hP hD hS => ?_)
            obtain ⟨sh, ke, go⟩ := u_
            try dsimp only at hpo
            have hP : va_P (dC, dI) vwCl [(h1, .inr (1, [.int (nI 2), .int (nI n), .ref a1, .ref a2, .ref a3, .ref a4])), (a1, .inl (cL, 8, .inr (.inl (fun z => lN (w z))))), (a2, .inl (cL, 8, .inr (.inl sh))), (a3, .inl (cL, 8, .inr (.inl ke))), (a4, .inl (cZ, 8, .inl go))] H := hP
            have hD : va_D A [(h1, .inr (1, [.int (nI 2), .int (nI n), .ref a1, .ref a2, .ref a3, .ref a4])), (a1, .inl (cL, 8, .inr (.inl (fun z => lN (w z))))), (a2, .inl (cL, 8, .inr (.inl sh))), (a3, .inl (cL, 8, .inr (.inl ke))), (a4, .inl (cZ, 8, .inl go))] := hD
            subst hpo
            refine sd_iz_eq (a := 1) (tgt := 69) hx hb dX1_share_64 (by decide) (by omega) (fun h => ?_) (fun h => ?_)
            · exact absurd h (by omega)
            · refine lv_iconst (v := (nI 0)) hx hb dX1_share_67 (by decide +kernel) ?_
              exact W.iret hx hb hr (fun t ht hW => ⟨⟨_, (sh, ke, go), rfl, rfl, by rw [ht]; exact hP, va_K.moved hW.alike hK, by rw [← hAe]; exact hD⟩, by rw [← hAe]; exact hS.F ht⟩) (fun q hq => by rw [← hAe]; exact hS.2.2 q hq) dX1_share_68
      · have hc2 : sd_rg (nI q) 0 (n - 1) = false := hc2
        exact absurd hc2 (by rw [sd_rg_nI (by omega) (by omega) (by omega) (by omega)]; decide)
set_option maxHeartbeats 4000000 in
set_option maxRecDepth 100000 in
theorem m_share (l : Launch) (dC : Nat → ClassId) (dI : Nat → Nat → Nat) (cL cZ : ClassId) (h1 a1 a2 a3 a4 er n : Nat) (w : Nat → Nat) (sh ke : Nat → Int64) (go : Nat → Int32) (sz : Nat) (ok : sd_ok n w) (hW : 0 < sd_sum w n) (y u q : Nat) (hy : y ≤ 2) (hu : u ≤ 10000) (hq : q < n) : Met l yX1_share (sd_ws yX1_share cX1_share 4 (some .int)) (sd_rm 3 0 0) (sd_Pw (dC, dI) vwCl [(cL, .long), (cZ, .boolean)] (sd_M cL cZ h1 a1 a2 a3 a4 er n w sh ke go) sz [.ref h1, .int (nI y), .int (nI u), .int (nI q)]) (va_Qi (fun r (v_ : sd_S) => r = nI (sd_U y w n u q)) (sd_Bw (dC, dI) vwCl [(cL, .long), (cZ, .boolean)] (sd_M cL cZ h1 a1 a2 a3 a4 er n w sh ke go) sz (fun v_ => (sd_M cL cZ h1 a1 a2 a3 a4 0 n w v_.1 v_.2.1 v_.2.2))) (va_A (sd_M cL cZ h1 a1 a2 a3 a4 er n w sh ke go) sz)) 0 0 (va_A (sd_M cL cZ h1 a1 a2 a3 a4 er n w sh ke go) sz) := by
  refine Met.ofW (cc := cX1_share) (maxL := 4) (ret := (some .int)) (by decide) rfl ?_
  intro p e s m args below meth c s₁ B hml hv
  obtain ⟨rfl, hsz, hP, hK, hD0⟩ := hv
  subst hsz
  have hx := B.exec
  have hb := B.bytes
  have hr := B.returns
  have hts0 := atoms_spec (ws := (sd_ws yX1_share cX1_share 4 (some .int))) B.pre
  have hts : ∀ w ∈ sd_WS, w.before _ s = true := fun w h => hts0 w (List.mem_cons_of_mem _ h)
  have hown : s.vm.findClass RX1 = some m.cls := findClass_of_methodNamed B.named
  have hlocks := B.notSynchronized
  have hl := lv_entry ([.ref h1, .int (nI y), .int (nI u), .int (nI q)]) (n := 4) (Nat.le_of_ble_eq_true rfl)
  rw [lg_entry_eq]
  generalize (lg_sl ([.ref h1, .int (nI y), .int (nI u), .int (nI q)]) ++ List.replicate (4 - (lg_sl ([.ref h1, .int (nI y), .int (nI u), .int (nI q)])).length) Slot.unset).toArray = ls at hl ⊢
  have hl : lv_has ls 4 [(0, .ref h1), (1, .int (nI y)), (2, .int (nI u)), (3, .int (nI q))] := hl
  obtain ⟨A, hAe⟩ : ∃ A, A = va_A (sd_M cL cZ h1 a1 a2 a3 a4 er n w sh ke go) s.heap.size := ⟨_, rfl⟩
  have hD : va_D A (sd_M cL cZ h1 a1 a2 a3 a4 er n w sh ke go) := by rw [hAe]; exact hD0.self
  have hA : ∀ q : Nat, s.heap.size ≤ q → A q := fun q h => by rw [hAe]; exact Or.inr h
  have hS : va_S A s.heap s.heap [] := va_S.rf
  have hP : va_P (dC, dI) vwCl [(h1, .inr (1, [.int (nI er), .int (nI n), .ref a1, .ref a2, .ref a3, .ref a4])), (a1, .inl (cL, 8, .inr (.inl (fun z => lN (w z))))), (a2, .inl (cL, 8, .inr (.inl sh))), (a3, .inl (cL, 8, .inr (.inl ke))), (a4, .inl (cZ, 8, .inl go))] s.heap := hP
  have hD : va_D A [(h1, .inr (1, [.int (nI er), .int (nI n), .ref a1, .ref a2, .ref a3, .ref a4])), (a1, .inl (cL, 8, .inr (.inl (fun z => lN (w z))))), (a2, .inl (cL, 8, .inr (.inl sh))), (a3, .inl (cL, 8, .inr (.inl ke))), (a4, .inl (cZ, 8, .inl go))] := hD
  have hn1 := ok.1
  have hn8 := ok.2.1
  have hWl := sd_W_le ok.2.2.1 ok.2.1
  refine lv_aload_n hx hb dX1_share_0 rfl (lv_at hl 0 rfl) ?_
  refine lv_iconst (v := (nI 0)) hx hb dX1_share_1 (by decide +kernel) ?_
  refine va_put (D := (dC, dI)) (ci := 1) (v := .int (nI 0)) (ty := .int) (C := RX1) (T := TX1) (N := 6) hx hb hts u_in_X1 tyX1 tyX1_ok nmX1 hown hK hP hD hS 0 rfl rfl 0 (by decide) (hts (.fieldLink RX1 27 "ShareDeskModel" "err" "I") k_fieldLink_X1_27) (fun _ h9 => h9) rfl (by decide +kernel) rfl rfl (Nat.le_of_ble_eq_true rfl) dX1_share_2 (fun H locs hP hD hS => ?_)
  have hP : va_P (dC, dI) vwCl [(h1, .inr (1, [.int (nI 0), .int (nI n), .ref a1, .ref a2, .ref a3, .ref a4])), (a1, .inl (cL, 8, .inr (.inl (fun z => lN (w z))))), (a2, .inl (cL, 8, .inr (.inl sh))), (a3, .inl (cL, 8, .inr (.inl ke))), (a4, .inl (cZ, 8, .inl go))] H := hP
  have hD : va_D A [(h1, .inr (1, [.int (nI 0), .int (nI n), .ref a1, .ref a2, .ref a3, .ref a4])), (a1, .inl (cL, 8, .inr (.inl (fun z => lN (w z))))), (a2, .inl (cL, 8, .inr (.inl sh))), (a3, .inl (cL, 8, .inr (.inl ke))), (a4, .inl (cZ, 8, .inl go))] := hD
  refine lv_aload_n hx hb dX1_share_5 rfl (lv_at hl 0 rfl) ?_
  refine lv_iload_n hx hb dX1_share_6 rfl (lv_at hl 1 rfl) ?_
  refine sd_calli (va_runS (As := [.int (nI y)]) (rest := [.ref h1]) ⟨hx, hb, hml, hown, hts0⟩ (m_isWay l dC dI (nI y)) (cwS 1 hts0 (sd_gS k_methodLink_X1_59 k_static_X1_isWay k_init_ShareDeskModel k_code_X1_isWay) rfl rfl rfl (by decide +kernel) ⟨Nat.le_of_ble_eq_true rfl, Nat.le_of_ble_eq_true rfl⟩) (sd_preS (sd_K0 hK) (sd_nil _ _ _)) rfl rfl hl.1 rfl (lv_room (Nat.le_of_ble_eq_true rfl)) dX1_share_7 ⟨Nat.zero_le _, Nat.zero_le _⟩) ?_
  refine sd_bz_eq (tgt := 33) hx hb dX1_share_10 (by decide) (fun hc0 => ?_) (fun hc0 => ?_)
  · have hc0 : sd_rg (nI y) 0 2 = false := hc0
    exact absurd hc0 (by rw [sd_rg_nI (by omega) (by omega) (by omega) (by omega)]; decide)
  · have hc0 : sd_rg (nI y) 0 2 = true := hc0
    refine lv_iload_n hx hb dX1_share_13 rfl (lv_at hl 2 rfl) ?_
    refine lv_i2l (v := (nI u).toInt64) hx hb dX1_share_14 rfl ?_
    refine lv_lconst (v := lN 0) hx hb dX1_share_15 rfl ?_
    refine lv_ldc2 (v := 10000) hx hb hown (hts (.constantLong RX1 62 10000) k_constantLong_X1_62) dX1_share_16 ?_
    refine sd_topl (y := lN 10000) (by decide +kernel) ?_
    refine sd_calli (va_runS (As := [.long ((nI u).toInt64), .long (lN 0), .long (lN 10000)]) (rest := [.ref h1]) ⟨hx, hb, hml, hown, hts0⟩ (m_in l dC dI (nI u).toInt64 (lN 0) (lN 10000)) (cwS 3 hts0 (sd_gS k_methodLink_X1_30 k_static_X1_in k_init_ShareDeskModel k_code_X1_in) rfl rfl rfl (by decide +kernel) ⟨Nat.le_of_ble_eq_true rfl, Nat.le_of_ble_eq_true rfl⟩) (sd_preS (sd_K0 hK) (sd_nil _ _ _)) rfl rfl hl.1 rfl (lv_room (Nat.le_of_ble_eq_true rfl)) dX1_share_19 ⟨Nat.zero_le _, Nat.zero_le _⟩) ?_
    refine sd_bz_eq (tgt := 33) hx hb dX1_share_22 (by decide) (fun hc1 => ?_) (fun hc1 => ?_)
    · have hc1 : sd_rg (nI u) 0 10000 = false := hc1
      exact absurd hc1 (by rw [sd_rg_nI (by omega) (by omega) (by omega) (by omega)]; decide)
    · have hc1 : sd_rg (nI u) 0 10000 = true := hc1
      refine lv_aload_n hx hb dX1_share_25 rfl (lv_at hl 0 rfl) ?_
      refine lv_iload_n hx hb dX1_share_26 rfl (lv_at hl 3 rfl) ?_
      refine sd_calli (va_runV (As := [.int (nI q)]) (rest := [.ref h1]) ⟨hx, hb, hml, hown, hts0⟩ (m_isParty l dC dI cL cZ h1 a1 a2 a3 a4 0 n w sh ke go hn1 hn8 (nI q)) (cwV 1 hts0 (sd_gV k_methodLink_X1_42 k_instanceMethod_X1_isParty k_sel_X1_isParty k_init_ShareDeskModel k_code_X1_isParty) rfl rfl rfl (by decide +kernel) ⟨Nat.le_of_ble_eq_true rfl, Nat.le_of_ble_eq_true rfl⟩) (sd_preV hK hP (q0 := 0) (ci := 1) rfl rfl) rfl rfl hl.1 rfl (lv_room (Nat.le_of_ble_eq_true rfl)) dX1_share_27 ⟨Nat.zero_le _, Nat.zero_le _⟩) ?_
      refine sd_bz_ne (tgt := 37) hx hb dX1_share_30 (by decide) (fun hc2 => ?_) (fun hc2 => ?_)
      · have hc2 : sd_rg (nI q) 0 (n - 1) = true := hc2
        refine lv_iconst (v := (nI 0)) hx hb dX1_share_37 (by decide +kernel) ?_
        refine lv_iconst (v := (nI 1)) hx hb dX1_share_38 (by decide +kernel) ?_
        refine sd_calli (va_runV (As := [.int (nI 0), .int (nI 1)]) (rest := []) ⟨hx, hb, hml, hown, hts0⟩ (m_fails0 l dC dI cL cZ h1 a1 a2 a3 a4 0 n w sh ke go rfl 1) (cwV 2 hts0 (sd_gV k_methodLink_X1_38 k_instanceMethod_X1_fails k_sel_X1_fails k_init_ShareDeskModel k_code_X1_fails) rfl rfl rfl (by decide +kernel) ⟨Nat.le_of_ble_eq_true rfl, Nat.le_of_ble_eq_true rfl⟩) (sd_preV hK hP (q0 := 0) (ci := 1) rfl rfl) rfl rfl hl.1 rfl (lv_room (Nat.le_of_ble_eq_true rfl)) dX1_share_39 ⟨Nat.zero_le _, Nat.zero_le _⟩) ?_
        refine sd_iz_ne (a := 0) (tgt := 67) hx hb dX1_share_42 (by decide) (by omega) (fun h => ?_) (fun h => ?_)
        · exact absurd h (by omega)
        · refine lv_aload_n hx hb dX1_share_45 rfl (lv_at hl 0 rfl) ?_
          refine lv_aload_n hx hb dX1_share_46 rfl (lv_at hl 0 rfl) ?_
          refine sd_calll (va_runV (As := []) (rest := [.ref h1]) ⟨hx, hb, hml, hown, hts0⟩ (m_all l dC dI cL cZ h1 a1 a2 a3 a4 0 n w sh ke go hn8) (cwV 0 hts0 (sd_gV k_methodLink_X1_48 k_instanceMethod_X1_all k_sel_X1_all k_init_ShareDeskModel k_code_X1_all) rfl rfl rfl (by decide +kernel) ⟨Nat.le_of_ble_eq_true rfl, Nat.le_of_ble_eq_true rfl⟩) (sd_preV hK hP (q0 := 0) (ci := 1) rfl rfl) rfl rfl hl.1 rfl (lv_room (Nat.le_of_ble_eq_true rfl)) dX1_share_47 ⟨Nat.zero_le _, Nat.zero_le _⟩) ?_
          refine lv_lconst (v := lN 0) hx hb dX1_share_50 rfl ?_
          refine sd_lc_ne (a := sd_sum w n) (b := 0) (tgt := 59) hx hb dX1_share_51 dX1_share_52 (by decide) (by omega) (by omega) (fun h => ?_) (fun h => ?_)
          · refine lv_iconst (v := (nI 0)) hx hb dX1_share_59 (by decide +kernel) ?_
            refine lv_iconst (v := (nI 2)) hx hb dX1_share_60 (by decide +kernel) ?_
            refine sd_calli (va_runV (As := [.int (nI 0), .int (nI 2)]) (rest := []) ⟨hx, hb, hml, hown, hts0⟩ (m_fails0 l dC dI cL cZ h1 a1 a2 a3 a4 0 n w sh ke go rfl 2) (cwV 2 hts0 (sd_gV k_methodLink_X1_38 k_instanceMethod_X1_fails k_sel_X1_fails k_init_ShareDeskModel k_code_X1_fails) rfl rfl rfl (by decide +kernel) ⟨Nat.le_of_ble_eq_true rfl, Nat.le_of_ble_eq_true rfl⟩) (sd_preV hK hP (q0 := 0) (ci := 1) rfl rfl) rfl rfl hl.1 rfl (lv_room (Nat.le_of_ble_eq_true rfl)) dX1_share_61 ⟨Nat.zero_le _, Nat.zero_le _⟩) ?_
            refine sd_iz_eq (a := 0) (tgt := 69) hx hb dX1_share_64 (by decide) (by omega) (fun h => ?_) (fun h => ?_)
            · have hUl := sd_U_le (y := y) (w := w) (m := u) hW hq
              refine lv_aload_n hx hb dX1_share_69 rfl (lv_at hl 0 rfl) ?_
              refine lv_iload_n hx hb dX1_share_70 rfl (lv_at hl 1 rfl) ?_
              refine lv_iload_n hx hb dX1_share_71 rfl (lv_at hl 2 rfl) ?_
              refine sd_wv (va_runV (As := [.int (nI y), .int (nI u)]) (rest := []) ⟨hx, hb, hml, hown, hts0⟩ (m_give l dC dI cL cZ h1 a1 a2 a3 a4 0 n w sh ke go H.size ok hW y u hy hu) (cwV 2 hts0 (sd_gV k_methodLink_X1_64 k_instanceMethod_X1_give k_sel_X1_give k_init_ShareDeskModel k_code_X1_give) rfl rfl rfl (by decide +kernel) ⟨Nat.le_of_ble_eq_true rfl, Nat.le_of_ble_eq_true rfl⟩) (sd_preVw hK hP hD (q0 := 0) (ci := 1) rfl rfl) rfl rfl hl.1 rfl (lv_room (Nat.le_of_ble_eq_true rfl)) dX1_share_72 ⟨Nat.zero_le _, Nat.zero_le _⟩) hD hS hA (fun u_ H locs hpo hP hD hS => ?_)
              obtain ⟨sh, ke1, go⟩ := u_
              try dsimp only at hpo
              have hP : va_P (dC, dI) vwCl [(h1, .inr (1, [.int (nI 0), .int (nI n), .ref a1, .ref a2, .ref a3, .ref a4])), (a1, .inl (cL, 8, .inr (.inl (fun z => lN (w z))))), (a2, .inl (cL, 8, .inr (.inl sh))), (a3, .inl (cL, 8, .inr (.inl ke1))), (a4, .inl (cZ, 8, .inl go))] H := hP
              have hD : va_D A [(h1, .inr (1, [.int (nI 0), .int (nI n), .ref a1, .ref a2, .ref a3, .ref a4])), (a1, .inl (cL, 8, .inr (.inl (fun z => lN (w z))))), (a2, .inl (cL, 8, .inr (.inl sh))), (a3, .inl (cL, 8, .inr (.inl ke1))), (a4, .inl (cZ, 8, .inl go))] := hD
              obtain ⟨hpo, hke⟩ := hpo
              rw [hke] at hP hD
              have hP : va_P (dC, dI) vwCl [(h1, .inr (1, [.int (nI 0), .int (nI n), .ref a1, .ref a2, .ref a3, .ref a4])), (a1, .inl (cL, 8, .inr (.inl (fun z => lN (w z))))), (a2, .inl (cL, 8, .inr (.inl sh))), (a3, .inl (cL, 8, .inr (.inl ke))), (a4, .inl (cZ, 8, .inl go))] H := hP
              have hD : va_D A [(h1, .inr (1, [.int (nI 0), .int (nI n), .ref a1, .ref a2, .ref a3, .ref a4])), (a1, .inl (cL, 8, .inr (.inl (fun z => lN (w z))))), (a2, .inl (cL, 8, .inr (.inl sh))), (a3, .inl (cL, 8, .inr (.inl ke))), (a4, .inl (cZ, 8, .inl go))] := hD
              refine lv_aload_n hx hb dX1_share_75 rfl (lv_at hl 0 rfl) ?_
              refine va_get (D := (dC, dI)) (ci := 1) (v := .ref a2) (C := RX1) (T := TX1) (N := 6) hx hb hts u_in_X1 hown hK hP 0 rfl rfl 3 (by decide) (hts (.fieldLink RX1 17 "ShareDeskModel" "shares" "[J") k_fieldLink_X1_17) (fun _ h9 => h9) rfl dX1_share_76 ?_
              refine lv_iload_n hx hb dX1_share_79 rfl (lv_at hl 3 rfl) ?_
              refine sd_lald (j := q) (v := lN (sd_U y w n u q)) hx hb hK hP 2 0 rfl rfl (by omega) (by decide) (hpo q hq) dX1_share_80 ?_
              refine lv_l2i (v := nI (sd_U y w n u q)) hx hb dX1_share_81 (lN_i _) ?_
              exact W.iret hx hb hr (fun t ht hW => ⟨⟨_, (sh, ke, go), rfl, rfl, by rw [ht]; exact hP, va_K.moved hW.alike hK, by rw [← hAe]; exact hD⟩, by rw [← hAe]; exact hS.F ht⟩) (fun q hq => by rw [← hAe]; exact hS.2.2 q hq) dX1_share_82
            · exact absurd h (by omega)
          · exact absurd h (by omega)
      · have hc2 : sd_rg (nI q) 0 (n - 1) = false := hc2
        exact absurd hc2 (by rw [sd_rg_nI (by omega) (by omega) (by omega) (by omega)]; decide)
set_option maxHeartbeats 4000000 in
set_option maxRecDepth 100000 in
theorem m_over_bad (l : Launch) (dC : Nat → ClassId) (dI : Nat → Nat → Nat) (cL cZ : ClassId) (h1 a1 a2 a3 a4 er n : Nat) (w : Nat → Nat) (sh ke : Nat → Int64) (go : Nat → Int32) (sz : Nat) (hn1 : 1 ≤ n) (hn8 : n ≤ 8) (x1 x2 x3 : Int32) (hbad : sd_rg x1 0 2 = false ∨ sd_rg x2 0 10000 = false ∨ sd_rg x3 0 (n - 1) = false) : Met l yX1_over (sd_ws yX1_over cX1_over 4 (some .long)) (sd_rm 3 0 0) (sd_Pw (dC, dI) vwCl [(cL, .long), (cZ, .boolean)] (sd_M cL cZ h1 a1 a2 a3 a4 er n w sh ke go) sz [.ref h1, .int x1, .int x2, .int x3]) (va_Ql (fun r (v_ : sd_S) => r = lN 0) (sd_Bw (dC, dI) vwCl [(cL, .long), (cZ, .boolean)] (sd_M cL cZ h1 a1 a2 a3 a4 er n w sh ke go) sz (fun v_ => (sd_M cL cZ h1 a1 a2 a3 a4 1 n w v_.1 v_.2.1 v_.2.2))) (va_A (sd_M cL cZ h1 a1 a2 a3 a4 er n w sh ke go) sz)) 0 0 (va_A (sd_M cL cZ h1 a1 a2 a3 a4 er n w sh ke go) sz) := by
  refine Met.ofW (cc := cX1_over) (maxL := 4) (ret := (some .long)) (by decide) rfl ?_
  intro p e s m args below meth c s₁ B hml hv
  obtain ⟨rfl, hsz, hP, hK, hD0⟩ := hv
  subst hsz
  have hx := B.exec
  have hb := B.bytes
  have hr := B.returns
  have hts0 := atoms_spec (ws := (sd_ws yX1_over cX1_over 4 (some .long))) B.pre
  have hts : ∀ w ∈ sd_WS, w.before _ s = true := fun w h => hts0 w (List.mem_cons_of_mem _ h)
  have hown : s.vm.findClass RX1 = some m.cls := findClass_of_methodNamed B.named
  have hlocks := B.notSynchronized
  have hl := lv_entry ([.ref h1, .int x1, .int x2, .int x3]) (n := 4) (Nat.le_of_ble_eq_true rfl)
  rw [lg_entry_eq]
  generalize (lg_sl ([.ref h1, .int x1, .int x2, .int x3]) ++ List.replicate (4 - (lg_sl ([.ref h1, .int x1, .int x2, .int x3])).length) Slot.unset).toArray = ls at hl ⊢
  have hl : lv_has ls 4 [(0, .ref h1), (1, .int x1), (2, .int x2), (3, .int x3)] := hl
  obtain ⟨A, hAe⟩ : ∃ A, A = va_A (sd_M cL cZ h1 a1 a2 a3 a4 er n w sh ke go) s.heap.size := ⟨_, rfl⟩
  have hD : va_D A (sd_M cL cZ h1 a1 a2 a3 a4 er n w sh ke go) := by rw [hAe]; exact hD0.self
  have hA : ∀ q : Nat, s.heap.size ≤ q → A q := fun q h => by rw [hAe]; exact Or.inr h
  have hS : va_S A s.heap s.heap [] := va_S.rf
  have hP : va_P (dC, dI) vwCl [(h1, .inr (1, [.int (nI er), .int (nI n), .ref a1, .ref a2, .ref a3, .ref a4])), (a1, .inl (cL, 8, .inr (.inl (fun z => lN (w z))))), (a2, .inl (cL, 8, .inr (.inl sh))), (a3, .inl (cL, 8, .inr (.inl ke))), (a4, .inl (cZ, 8, .inl go))] s.heap := hP
  have hD : va_D A [(h1, .inr (1, [.int (nI er), .int (nI n), .ref a1, .ref a2, .ref a3, .ref a4])), (a1, .inl (cL, 8, .inr (.inl (fun z => lN (w z))))), (a2, .inl (cL, 8, .inr (.inl sh))), (a3, .inl (cL, 8, .inr (.inl ke))), (a4, .inl (cZ, 8, .inl go))] := hD
  refine lv_aload_n hx hb dX1_over_0 rfl (lv_at hl 0 rfl) ?_
  refine lv_iconst (v := (nI 0)) hx hb dX1_over_1 (by decide +kernel) ?_
  refine va_put (D := (dC, dI)) (ci := 1) (v := .int (nI 0)) (ty := .int) (C := RX1) (T := TX1) (N := 6) hx hb hts u_in_X1 tyX1 tyX1_ok nmX1 hown hK hP hD hS 0 rfl rfl 0 (by decide) (hts (.fieldLink RX1 27 "ShareDeskModel" "err" "I") k_fieldLink_X1_27) (fun _ h9 => h9) rfl (by decide +kernel) rfl rfl (Nat.le_of_ble_eq_true rfl) dX1_over_2 (fun H locs hP hD hS => ?_)
  have hP : va_P (dC, dI) vwCl [(h1, .inr (1, [.int (nI 0), .int (nI n), .ref a1, .ref a2, .ref a3, .ref a4])), (a1, .inl (cL, 8, .inr (.inl (fun z => lN (w z))))), (a2, .inl (cL, 8, .inr (.inl sh))), (a3, .inl (cL, 8, .inr (.inl ke))), (a4, .inl (cZ, 8, .inl go))] H := hP
  have hD : va_D A [(h1, .inr (1, [.int (nI 0), .int (nI n), .ref a1, .ref a2, .ref a3, .ref a4])), (a1, .inl (cL, 8, .inr (.inl (fun z => lN (w z))))), (a2, .inl (cL, 8, .inr (.inl sh))), (a3, .inl (cL, 8, .inr (.inl ke))), (a4, .inl (cZ, 8, .inl go))] := hD
  refine lv_aload_n hx hb dX1_over_5 rfl (lv_at hl 0 rfl) ?_
  refine lv_iload_n hx hb dX1_over_6 rfl (lv_at hl 1 rfl) ?_
  refine sd_calli (va_runS (As := [.int x1]) (rest := [.ref h1]) ⟨hx, hb, hml, hown, hts0⟩ (m_isWay l dC dI x1) (cwS 1 hts0 (sd_gS k_methodLink_X1_59 k_static_X1_isWay k_init_ShareDeskModel k_code_X1_isWay) rfl rfl rfl (by decide +kernel) ⟨Nat.le_of_ble_eq_true rfl, Nat.le_of_ble_eq_true rfl⟩) (sd_preS (sd_K0 hK) (sd_nil _ _ _)) rfl rfl hl.1 rfl (lv_room (Nat.le_of_ble_eq_true rfl)) dX1_over_7 ⟨Nat.zero_le _, Nat.zero_le _⟩) ?_
  refine sd_bz_eq (tgt := 33) hx hb dX1_over_10 (by decide) (fun hc0 => ?_) (fun hc0 => ?_)
  · have hc0 : sd_rg x1 0 2 = false := hc0
    refine lv_iconst (v := (nI 1)) hx hb dX1_over_33 (by decide +kernel) ?_
    refine lv_goto (tgt := 38) hx hb dX1_over_34 (by decide) ?_
    refine lv_iconst (v := (nI 1)) hx hb dX1_over_38 (by decide +kernel) ?_
    refine sd_wi (va_runV (As := [.int (nI 1), .int (nI 1)]) (rest := []) ⟨hx, hb, hml, hown, hts0⟩ (m_fails1 l dC dI cL cZ h1 a1 a2 a3 a4 0 n w sh ke go H.size rfl 1 (by decide) (by decide)) (cwV 2 hts0 (sd_gV k_methodLink_X1_38 k_instanceMethod_X1_fails k_sel_X1_fails k_init_ShareDeskModel k_code_X1_fails) rfl rfl rfl (by decide +kernel) ⟨Nat.le_of_ble_eq_true rfl, Nat.le_of_ble_eq_true rfl⟩) (sd_preVw hK hP hD (q0 := 0) (ci := 1) rfl rfl) rfl rfl hl.1 rfl (lv_room (Nat.le_of_ble_eq_true rfl)) dX1_over_39 ⟨Nat.zero_le _, Nat.zero_le _⟩) hD hS hA (fun r_ u_ H locs hpo hP hD hS => ?_)
    obtain ⟨sh, ke, go⟩ := u_
    try dsimp only at hpo
    have hP : va_P (dC, dI) vwCl [(h1, .inr (1, [.int (nI 1), .int (nI n), .ref a1, .ref a2, .ref a3, .ref a4])), (a1, .inl (cL, 8, .inr (.inl (fun z => lN (w z))))), (a2, .inl (cL, 8, .inr (.inl sh))), (a3, .inl (cL, 8, .inr (.inl ke))), (a4, .inl (cZ, 8, .inl go))] H := hP
    have hD : va_D A [(h1, .inr (1, [.int (nI 1), .int (nI n), .ref a1, .ref a2, .ref a3, .ref a4])), (a1, .inl (cL, 8, .inr (.inl (fun z => lN (w z))))), (a2, .inl (cL, 8, .inr (.inl sh))), (a3, .inl (cL, 8, .inr (.inl ke))), (a4, .inl (cZ, 8, .inl go))] := hD
    subst hpo
    refine sd_iz_ne (a := 1) (tgt := 67) hx hb dX1_over_42 (by decide) (by omega) (fun h => ?_) (fun h => ?_)
    · refine lv_lconst (v := lN 0) hx hb dX1_over_67 rfl ?_
      exact W.lret hx hb hr (fun t ht hW => ⟨⟨_, (sh, ke, go), rfl, rfl, by rw [ht]; exact hP, va_K.moved hW.alike hK, by rw [← hAe]; exact hD⟩, by rw [← hAe]; exact hS.F ht⟩) (fun q hq => by rw [← hAe]; exact hS.2.2 q hq) dX1_over_68
    · exact absurd h (by omega)
  · have hc0 : sd_rg x1 0 2 = true := hc0
    refine lv_iload_n hx hb dX1_over_13 rfl (lv_at hl 2 rfl) ?_
    refine lv_i2l (v := x2.toInt64) hx hb dX1_over_14 rfl ?_
    refine lv_lconst (v := lN 0) hx hb dX1_over_15 rfl ?_
    refine lv_ldc2 (v := 10000) hx hb hown (hts (.constantLong RX1 62 10000) k_constantLong_X1_62) dX1_over_16 ?_
    refine sd_topl (y := lN 10000) (by decide +kernel) ?_
    refine sd_calli (va_runS (As := [.long (x2.toInt64), .long (lN 0), .long (lN 10000)]) (rest := [.ref h1]) ⟨hx, hb, hml, hown, hts0⟩ (m_in l dC dI x2.toInt64 (lN 0) (lN 10000)) (cwS 3 hts0 (sd_gS k_methodLink_X1_30 k_static_X1_in k_init_ShareDeskModel k_code_X1_in) rfl rfl rfl (by decide +kernel) ⟨Nat.le_of_ble_eq_true rfl, Nat.le_of_ble_eq_true rfl⟩) (sd_preS (sd_K0 hK) (sd_nil _ _ _)) rfl rfl hl.1 rfl (lv_room (Nat.le_of_ble_eq_true rfl)) dX1_over_19 ⟨Nat.zero_le _, Nat.zero_le _⟩) ?_
    refine sd_bz_eq (tgt := 33) hx hb dX1_over_22 (by decide) (fun hc1 => ?_) (fun hc1 => ?_)
    · have hc1 : sd_rg x2 0 10000 = false := hc1
      refine lv_iconst (v := (nI 1)) hx hb dX1_over_33 (by decide +kernel) ?_
      refine lv_goto (tgt := 38) hx hb dX1_over_34 (by decide) ?_
      refine lv_iconst (v := (nI 1)) hx hb dX1_over_38 (by decide +kernel) ?_
      refine sd_wi (va_runV (As := [.int (nI 1), .int (nI 1)]) (rest := []) ⟨hx, hb, hml, hown, hts0⟩ (m_fails1 l dC dI cL cZ h1 a1 a2 a3 a4 0 n w sh ke go H.size rfl 1 (by decide) (by decide)) (cwV 2 hts0 (sd_gV k_methodLink_X1_38 k_instanceMethod_X1_fails k_sel_X1_fails k_init_ShareDeskModel k_code_X1_fails) rfl rfl rfl (by decide +kernel) ⟨Nat.le_of_ble_eq_true rfl, Nat.le_of_ble_eq_true rfl⟩) (sd_preVw hK hP hD (q0 := 0) (ci := 1) rfl rfl) rfl rfl hl.1 rfl (lv_room (Nat.le_of_ble_eq_true rfl)) dX1_over_39 ⟨Nat.zero_le _, Nat.zero_le _⟩) hD hS hA (fun r_ u_ H locs hpo hP hD hS => ?_)
      obtain ⟨sh, ke, go⟩ := u_
      try dsimp only at hpo
      have hP : va_P (dC, dI) vwCl [(h1, .inr (1, [.int (nI 1), .int (nI n), .ref a1, .ref a2, .ref a3, .ref a4])), (a1, .inl (cL, 8, .inr (.inl (fun z => lN (w z))))), (a2, .inl (cL, 8, .inr (.inl sh))), (a3, .inl (cL, 8, .inr (.inl ke))), (a4, .inl (cZ, 8, .inl go))] H := hP
      have hD : va_D A [(h1, .inr (1, [.int (nI 1), .int (nI n), .ref a1, .ref a2, .ref a3, .ref a4])), (a1, .inl (cL, 8, .inr (.inl (fun z => lN (w z))))), (a2, .inl (cL, 8, .inr (.inl sh))), (a3, .inl (cL, 8, .inr (.inl ke))), (a4, .inl (cZ, 8, .inl go))] := hD
      subst hpo
      refine sd_iz_ne (a := 1) (tgt := 67) hx hb dX1_over_42 (by decide) (by omega) (fun h => ?_) (fun h => ?_)
      · refine lv_lconst (v := lN 0) hx hb dX1_over_67 rfl ?_
        exact W.lret hx hb hr (fun t ht hW => ⟨⟨_, (sh, ke, go), rfl, rfl, by rw [ht]; exact hP, va_K.moved hW.alike hK, by rw [← hAe]; exact hD⟩, by rw [← hAe]; exact hS.F ht⟩) (fun q hq => by rw [← hAe]; exact hS.2.2 q hq) dX1_over_68
      · exact absurd h (by omega)
    · have hc1 : sd_rg x2 0 10000 = true := hc1
      refine lv_aload_n hx hb dX1_over_25 rfl (lv_at hl 0 rfl) ?_
      refine lv_iload_n hx hb dX1_over_26 rfl (lv_at hl 3 rfl) ?_
      refine sd_calli (va_runV (As := [.int x3]) (rest := [.ref h1]) ⟨hx, hb, hml, hown, hts0⟩ (m_isParty l dC dI cL cZ h1 a1 a2 a3 a4 0 n w sh ke go hn1 hn8 x3) (cwV 1 hts0 (sd_gV k_methodLink_X1_42 k_instanceMethod_X1_isParty k_sel_X1_isParty k_init_ShareDeskModel k_code_X1_isParty) rfl rfl rfl (by decide +kernel) ⟨Nat.le_of_ble_eq_true rfl, Nat.le_of_ble_eq_true rfl⟩) (sd_preV hK hP (q0 := 0) (ci := 1) rfl rfl) rfl rfl hl.1 rfl (lv_room (Nat.le_of_ble_eq_true rfl)) dX1_over_27 ⟨Nat.zero_le _, Nat.zero_le _⟩) ?_
      refine sd_bz_ne (tgt := 37) hx hb dX1_over_30 (by decide) (fun hc2 => ?_) (fun hc2 => ?_)
      · have hc2 : sd_rg x3 0 (n - 1) = true := hc2
        exact absurd hbad (by simp [hc0, hc1, hc2])
      · have hc2 : sd_rg x3 0 (n - 1) = false := hc2
        refine lv_iconst (v := (nI 1)) hx hb dX1_over_33 (by decide +kernel) ?_
        refine lv_goto (tgt := 38) hx hb dX1_over_34 (by decide) ?_
        refine lv_iconst (v := (nI 1)) hx hb dX1_over_38 (by decide +kernel) ?_
        refine sd_wi (va_runV (As := [.int (nI 1), .int (nI 1)]) (rest := []) ⟨hx, hb, hml, hown, hts0⟩ (m_fails1 l dC dI cL cZ h1 a1 a2 a3 a4 0 n w sh ke go H.size rfl 1 (by decide) (by decide)) (cwV 2 hts0 (sd_gV k_methodLink_X1_38 k_instanceMethod_X1_fails k_sel_X1_fails k_init_ShareDeskModel k_code_X1_fails) rfl rfl rfl (by decide +kernel) ⟨Nat.le_of_ble_eq_true rfl, Nat.le_of_ble_eq_true rfl⟩) (sd_preVw hK hP hD (q0 := 0) (ci := 1) rfl rfl) rfl rfl hl.1 rfl (lv_room (Nat.le_of_ble_eq_true rfl)) dX1_over_39 ⟨Nat.zero_le _, Nat.zero_le _⟩) hD hS hA (fun r_ u_ H locs hpo hP hD hS => ?_)
        obtain ⟨sh, ke, go⟩ := u_
        try dsimp only at hpo
        have hP : va_P (dC, dI) vwCl [(h1, .inr (1, [.int (nI 1), .int (nI n), .ref a1, .ref a2, .ref a3, .ref a4])), (a1, .inl (cL, 8, .inr (.inl (fun z => lN (w z))))), (a2, .inl (cL, 8, .inr (.inl sh))), (a3, .inl (cL, 8, .inr (.inl ke))), (a4, .inl (cZ, 8, .inl go))] H := hP
        have hD : va_D A [(h1, .inr (1, [.int (nI 1), .int (nI n), .ref a1, .ref a2, .ref a3, .ref a4])), (a1, .inl (cL, 8, .inr (.inl (fun z => lN (w z))))), (a2, .inl (cL, 8, .inr (.inl sh))), (a3, .inl (cL, 8, .inr (.inl ke))), (a4, .inl (cZ, 8, .inl go))] := hD
        subst hpo
        refine sd_iz_ne (a := 1) (tgt := 67) hx hb dX1_over_42 (by decide) (by omega) (fun h => ?_) (fun h => ?_)
        · refine lv_lconst (v := lN 0) hx hb dX1_over_67 rfl ?_
          exact W.lret hx hb hr (fun t ht hW => ⟨⟨_, (sh, ke, go), rfl, rfl, by rw [ht]; exact hP, va_K.moved hW.alike hK, by rw [← hAe]; exact hD⟩, by rw [← hAe]; exact hS.F ht⟩) (fun q hq => by rw [← hAe]; exact hS.2.2 q hq) dX1_over_68
        · exact absurd h (by omega)
set_option maxHeartbeats 4000000 in
set_option maxRecDepth 100000 in
theorem m_over_zero (l : Launch) (dC : Nat → ClassId) (dI : Nat → Nat → Nat) (cL cZ : ClassId) (h1 a1 a2 a3 a4 er n : Nat) (w : Nat → Nat) (sh ke : Nat → Int64) (go : Nat → Int32) (sz : Nat) (hn1 : 1 ≤ n) (hn8 : n ≤ 8) (y u q : Nat) (hy : y ≤ 2) (hu : u ≤ 10000) (hq : q < n) (hz : sd_sum w n = 0) : Met l yX1_over (sd_ws yX1_over cX1_over 4 (some .long)) (sd_rm 3 0 0) (sd_Pw (dC, dI) vwCl [(cL, .long), (cZ, .boolean)] (sd_M cL cZ h1 a1 a2 a3 a4 er n w sh ke go) sz [.ref h1, .int (nI y), .int (nI u), .int (nI q)]) (va_Ql (fun r (v_ : sd_S) => r = lN 0) (sd_Bw (dC, dI) vwCl [(cL, .long), (cZ, .boolean)] (sd_M cL cZ h1 a1 a2 a3 a4 er n w sh ke go) sz (fun v_ => (sd_M cL cZ h1 a1 a2 a3 a4 2 n w v_.1 v_.2.1 v_.2.2))) (va_A (sd_M cL cZ h1 a1 a2 a3 a4 er n w sh ke go) sz)) 0 0 (va_A (sd_M cL cZ h1 a1 a2 a3 a4 er n w sh ke go) sz) := by
  refine Met.ofW (cc := cX1_over) (maxL := 4) (ret := (some .long)) (by decide) rfl ?_
  intro p e s m args below meth c s₁ B hml hv
  obtain ⟨rfl, hsz, hP, hK, hD0⟩ := hv
  subst hsz
  have hx := B.exec
  have hb := B.bytes
  have hr := B.returns
  have hts0 := atoms_spec (ws := (sd_ws yX1_over cX1_over 4 (some .long))) B.pre
  have hts : ∀ w ∈ sd_WS, w.before _ s = true := fun w h => hts0 w (List.mem_cons_of_mem _ h)
  have hown : s.vm.findClass RX1 = some m.cls := findClass_of_methodNamed B.named
  have hlocks := B.notSynchronized
  have hl := lv_entry ([.ref h1, .int (nI y), .int (nI u), .int (nI q)]) (n := 4) (Nat.le_of_ble_eq_true rfl)
  rw [lg_entry_eq]
  generalize (lg_sl ([.ref h1, .int (nI y), .int (nI u), .int (nI q)]) ++ List.replicate (4 - (lg_sl ([.ref h1, .int (nI y), .int (nI u), .int (nI q)])).length) Slot.unset).toArray = ls at hl ⊢
  have hl : lv_has ls 4 [(0, .ref h1), (1, .int (nI y)), (2, .int (nI u)), (3, .int (nI q))] := hl
  obtain ⟨A, hAe⟩ : ∃ A, A = va_A (sd_M cL cZ h1 a1 a2 a3 a4 er n w sh ke go) s.heap.size := ⟨_, rfl⟩
  have hD : va_D A (sd_M cL cZ h1 a1 a2 a3 a4 er n w sh ke go) := by rw [hAe]; exact hD0.self
  have hA : ∀ q : Nat, s.heap.size ≤ q → A q := fun q h => by rw [hAe]; exact Or.inr h
  have hS : va_S A s.heap s.heap [] := va_S.rf
  have hP : va_P (dC, dI) vwCl [(h1, .inr (1, [.int (nI er), .int (nI n), .ref a1, .ref a2, .ref a3, .ref a4])), (a1, .inl (cL, 8, .inr (.inl (fun z => lN (w z))))), (a2, .inl (cL, 8, .inr (.inl sh))), (a3, .inl (cL, 8, .inr (.inl ke))), (a4, .inl (cZ, 8, .inl go))] s.heap := hP
  have hD : va_D A [(h1, .inr (1, [.int (nI er), .int (nI n), .ref a1, .ref a2, .ref a3, .ref a4])), (a1, .inl (cL, 8, .inr (.inl (fun z => lN (w z))))), (a2, .inl (cL, 8, .inr (.inl sh))), (a3, .inl (cL, 8, .inr (.inl ke))), (a4, .inl (cZ, 8, .inl go))] := hD
  refine lv_aload_n hx hb dX1_over_0 rfl (lv_at hl 0 rfl) ?_
  refine lv_iconst (v := (nI 0)) hx hb dX1_over_1 (by decide +kernel) ?_
  refine va_put (D := (dC, dI)) (ci := 1) (v := .int (nI 0)) (ty := .int) (C := RX1) (T := TX1) (N := 6) hx hb hts u_in_X1 tyX1 tyX1_ok nmX1 hown hK hP hD hS 0 rfl rfl 0 (by decide) (hts (.fieldLink RX1 27 "ShareDeskModel" "err" "I") k_fieldLink_X1_27) (fun _ h9 => h9) rfl (by decide +kernel) rfl rfl (Nat.le_of_ble_eq_true rfl) dX1_over_2 (fun H locs hP hD hS => ?_)
  have hP : va_P (dC, dI) vwCl [(h1, .inr (1, [.int (nI 0), .int (nI n), .ref a1, .ref a2, .ref a3, .ref a4])), (a1, .inl (cL, 8, .inr (.inl (fun z => lN (w z))))), (a2, .inl (cL, 8, .inr (.inl sh))), (a3, .inl (cL, 8, .inr (.inl ke))), (a4, .inl (cZ, 8, .inl go))] H := hP
  have hD : va_D A [(h1, .inr (1, [.int (nI 0), .int (nI n), .ref a1, .ref a2, .ref a3, .ref a4])), (a1, .inl (cL, 8, .inr (.inl (fun z => lN (w z))))), (a2, .inl (cL, 8, .inr (.inl sh))), (a3, .inl (cL, 8, .inr (.inl ke))), (a4, .inl (cZ, 8, .inl go))] := hD
  refine lv_aload_n hx hb dX1_over_5 rfl (lv_at hl 0 rfl) ?_
  refine lv_iload_n hx hb dX1_over_6 rfl (lv_at hl 1 rfl) ?_
  refine sd_calli (va_runS (As := [.int (nI y)]) (rest := [.ref h1]) ⟨hx, hb, hml, hown, hts0⟩ (m_isWay l dC dI (nI y)) (cwS 1 hts0 (sd_gS k_methodLink_X1_59 k_static_X1_isWay k_init_ShareDeskModel k_code_X1_isWay) rfl rfl rfl (by decide +kernel) ⟨Nat.le_of_ble_eq_true rfl, Nat.le_of_ble_eq_true rfl⟩) (sd_preS (sd_K0 hK) (sd_nil _ _ _)) rfl rfl hl.1 rfl (lv_room (Nat.le_of_ble_eq_true rfl)) dX1_over_7 ⟨Nat.zero_le _, Nat.zero_le _⟩) ?_
  refine sd_bz_eq (tgt := 33) hx hb dX1_over_10 (by decide) (fun hc0 => ?_) (fun hc0 => ?_)
  · have hc0 : sd_rg (nI y) 0 2 = false := hc0
    exact absurd hc0 (by rw [sd_rg_nI (by omega) (by omega) (by omega) (by omega)]; decide)
  · have hc0 : sd_rg (nI y) 0 2 = true := hc0
    refine lv_iload_n hx hb dX1_over_13 rfl (lv_at hl 2 rfl) ?_
    refine lv_i2l (v := (nI u).toInt64) hx hb dX1_over_14 rfl ?_
    refine lv_lconst (v := lN 0) hx hb dX1_over_15 rfl ?_
    refine lv_ldc2 (v := 10000) hx hb hown (hts (.constantLong RX1 62 10000) k_constantLong_X1_62) dX1_over_16 ?_
    refine sd_topl (y := lN 10000) (by decide +kernel) ?_
    refine sd_calli (va_runS (As := [.long ((nI u).toInt64), .long (lN 0), .long (lN 10000)]) (rest := [.ref h1]) ⟨hx, hb, hml, hown, hts0⟩ (m_in l dC dI (nI u).toInt64 (lN 0) (lN 10000)) (cwS 3 hts0 (sd_gS k_methodLink_X1_30 k_static_X1_in k_init_ShareDeskModel k_code_X1_in) rfl rfl rfl (by decide +kernel) ⟨Nat.le_of_ble_eq_true rfl, Nat.le_of_ble_eq_true rfl⟩) (sd_preS (sd_K0 hK) (sd_nil _ _ _)) rfl rfl hl.1 rfl (lv_room (Nat.le_of_ble_eq_true rfl)) dX1_over_19 ⟨Nat.zero_le _, Nat.zero_le _⟩) ?_
    refine sd_bz_eq (tgt := 33) hx hb dX1_over_22 (by decide) (fun hc1 => ?_) (fun hc1 => ?_)
    · have hc1 : sd_rg (nI u) 0 10000 = false := hc1
      exact absurd hc1 (by rw [sd_rg_nI (by omega) (by omega) (by omega) (by omega)]; decide)
    · have hc1 : sd_rg (nI u) 0 10000 = true := hc1
      refine lv_aload_n hx hb dX1_over_25 rfl (lv_at hl 0 rfl) ?_
      refine lv_iload_n hx hb dX1_over_26 rfl (lv_at hl 3 rfl) ?_
      refine sd_calli (va_runV (As := [.int (nI q)]) (rest := [.ref h1]) ⟨hx, hb, hml, hown, hts0⟩ (m_isParty l dC dI cL cZ h1 a1 a2 a3 a4 0 n w sh ke go hn1 hn8 (nI q)) (cwV 1 hts0 (sd_gV k_methodLink_X1_42 k_instanceMethod_X1_isParty k_sel_X1_isParty k_init_ShareDeskModel k_code_X1_isParty) rfl rfl rfl (by decide +kernel) ⟨Nat.le_of_ble_eq_true rfl, Nat.le_of_ble_eq_true rfl⟩) (sd_preV hK hP (q0 := 0) (ci := 1) rfl rfl) rfl rfl hl.1 rfl (lv_room (Nat.le_of_ble_eq_true rfl)) dX1_over_27 ⟨Nat.zero_le _, Nat.zero_le _⟩) ?_
      refine sd_bz_ne (tgt := 37) hx hb dX1_over_30 (by decide) (fun hc2 => ?_) (fun hc2 => ?_)
      · have hc2 : sd_rg (nI q) 0 (n - 1) = true := hc2
        refine lv_iconst (v := (nI 0)) hx hb dX1_over_37 (by decide +kernel) ?_
        refine lv_iconst (v := (nI 1)) hx hb dX1_over_38 (by decide +kernel) ?_
        refine sd_calli (va_runV (As := [.int (nI 0), .int (nI 1)]) (rest := []) ⟨hx, hb, hml, hown, hts0⟩ (m_fails0 l dC dI cL cZ h1 a1 a2 a3 a4 0 n w sh ke go rfl 1) (cwV 2 hts0 (sd_gV k_methodLink_X1_38 k_instanceMethod_X1_fails k_sel_X1_fails k_init_ShareDeskModel k_code_X1_fails) rfl rfl rfl (by decide +kernel) ⟨Nat.le_of_ble_eq_true rfl, Nat.le_of_ble_eq_true rfl⟩) (sd_preV hK hP (q0 := 0) (ci := 1) rfl rfl) rfl rfl hl.1 rfl (lv_room (Nat.le_of_ble_eq_true rfl)) dX1_over_39 ⟨Nat.zero_le _, Nat.zero_le _⟩) ?_
        refine sd_iz_ne (a := 0) (tgt := 67) hx hb dX1_over_42 (by decide) (by omega) (fun h => ?_) (fun h => ?_)
        · exact absurd h (by omega)
        · refine lv_aload_n hx hb dX1_over_45 rfl (lv_at hl 0 rfl) ?_
          refine lv_aload_n hx hb dX1_over_46 rfl (lv_at hl 0 rfl) ?_
          refine sd_calll (va_runV (As := []) (rest := [.ref h1]) ⟨hx, hb, hml, hown, hts0⟩ (m_all l dC dI cL cZ h1 a1 a2 a3 a4 0 n w sh ke go hn8) (cwV 0 hts0 (sd_gV k_methodLink_X1_48 k_instanceMethod_X1_all k_sel_X1_all k_init_ShareDeskModel k_code_X1_all) rfl rfl rfl (by decide +kernel) ⟨Nat.le_of_ble_eq_true rfl, Nat.le_of_ble_eq_true rfl⟩) (sd_preV hK hP (q0 := 0) (ci := 1) rfl rfl) rfl rfl hl.1 rfl (lv_room (Nat.le_of_ble_eq_true rfl)) dX1_over_47 ⟨Nat.zero_le _, Nat.zero_le _⟩) ?_
          refine lv_lconst (v := lN 0) hx hb dX1_over_50 rfl ?_
          refine sd_lc_ne (a := sd_sum w n) (b := 0) (tgt := 59) hx hb dX1_over_51 dX1_over_52 (by decide) (by omega) (by omega) (fun h => ?_) (fun h => ?_)
          · exact absurd hz h
          · refine lv_iconst (v := (nI 1)) hx hb dX1_over_55 (by decide +kernel) ?_
            refine lv_goto (tgt := 60) hx hb dX1_over_56 (by decide) ?_
            refine lv_iconst (v := (nI 2)) hx hb dX1_over_60 (by decide +kernel) ?_
            refine sd_wi (va_runV (As := [.int (nI 1), .int (nI 2)]) (rest := []) ⟨hx, hb, hml, hown, hts0⟩ (m_fails1 l dC dI cL cZ h1 a1 a2 a3 a4 0 n w sh ke go H.size rfl 2 (by decide) (by decide)) (cwV 2 hts0 (sd_gV k_methodLink_X1_38 k_instanceMethod_X1_fails k_sel_X1_fails k_init_ShareDeskModel k_code_X1_fails) rfl rfl rfl (by decide +kernel) ⟨Nat.le_of_ble_eq_true rfl, Nat.le_of_ble_eq_true rfl⟩) (sd_preVw hK hP hD (q0 := 0) (ci := 1) rfl rfl) rfl rfl hl.1 rfl (lv_room (Nat.le_of_ble_eq_true rfl)) dX1_over_61 ⟨Nat.zero_le _, Nat.zero_le _⟩) hD hS hA (fun r_ u_ H locs hpo hP hD hS => ?_)
            obtain ⟨sh, ke, go⟩ := u_
            try dsimp only at hpo
            have hP : va_P (dC, dI) vwCl [(h1, .inr (1, [.int (nI 2), .int (nI n), .ref a1, .ref a2, .ref a3, .ref a4])), (a1, .inl (cL, 8, .inr (.inl (fun z => lN (w z))))), (a2, .inl (cL, 8, .inr (.inl sh))), (a3, .inl (cL, 8, .inr (.inl ke))), (a4, .inl (cZ, 8, .inl go))] H := hP
            have hD : va_D A [(h1, .inr (1, [.int (nI 2), .int (nI n), .ref a1, .ref a2, .ref a3, .ref a4])), (a1, .inl (cL, 8, .inr (.inl (fun z => lN (w z))))), (a2, .inl (cL, 8, .inr (.inl sh))), (a3, .inl (cL, 8, .inr (.inl ke))), (a4, .inl (cZ, 8, .inl go))] := hD
            subst hpo
            refine sd_iz_eq (a := 1) (tgt := 69) hx hb dX1_over_64 (by decide) (by omega) (fun h => ?_) (fun h => ?_)
            · exact absurd h (by omega)
            · refine lv_lconst (v := lN 0) hx hb dX1_over_67 rfl ?_
              exact W.lret hx hb hr (fun t ht hW => ⟨⟨_, (sh, ke, go), rfl, rfl, by rw [ht]; exact hP, va_K.moved hW.alike hK, by rw [← hAe]; exact hD⟩, by rw [← hAe]; exact hS.F ht⟩) (fun q hq => by rw [← hAe]; exact hS.2.2 q hq) dX1_over_68
      · have hc2 : sd_rg (nI q) 0 (n - 1) = false := hc2
        exact absurd hc2 (by rw [sd_rg_nI (by omega) (by omega) (by omega) (by omega)]; decide)
set_option maxHeartbeats 4000000 in
set_option maxRecDepth 100000 in
theorem m_over (l : Launch) (dC : Nat → ClassId) (dI : Nat → Nat → Nat) (cL cZ : ClassId) (h1 a1 a2 a3 a4 er n : Nat) (w : Nat → Nat) (sh ke : Nat → Int64) (go : Nat → Int32) (sz : Nat) (ok : sd_ok n w) (hW : 0 < sd_sum w n) (y u q : Nat) (hy : y ≤ 2) (hu : u ≤ 10000) (hq : q < n) : Met l yX1_over (sd_ws yX1_over cX1_over 4 (some .long)) (sd_rm 3 0 0) (sd_Pw (dC, dI) vwCl [(cL, .long), (cZ, .boolean)] (sd_M cL cZ h1 a1 a2 a3 a4 er n w sh ke go) sz [.ref h1, .int (nI y), .int (nI u), .int (nI q)]) (va_Ql (fun r (v_ : sd_S) => r = lN (sd_U y w n u q * sd_sum w n) - lN (u * w q)) (sd_Bw (dC, dI) vwCl [(cL, .long), (cZ, .boolean)] (sd_M cL cZ h1 a1 a2 a3 a4 er n w sh ke go) sz (fun v_ => (sd_M cL cZ h1 a1 a2 a3 a4 0 n w v_.1 v_.2.1 v_.2.2))) (va_A (sd_M cL cZ h1 a1 a2 a3 a4 er n w sh ke go) sz)) 0 0 (va_A (sd_M cL cZ h1 a1 a2 a3 a4 er n w sh ke go) sz) := by
  refine Met.ofW (cc := cX1_over) (maxL := 4) (ret := (some .long)) (by decide) rfl ?_
  intro p e s m args below meth c s₁ B hml hv
  obtain ⟨rfl, hsz, hP, hK, hD0⟩ := hv
  subst hsz
  have hx := B.exec
  have hb := B.bytes
  have hr := B.returns
  have hts0 := atoms_spec (ws := (sd_ws yX1_over cX1_over 4 (some .long))) B.pre
  have hts : ∀ w ∈ sd_WS, w.before _ s = true := fun w h => hts0 w (List.mem_cons_of_mem _ h)
  have hown : s.vm.findClass RX1 = some m.cls := findClass_of_methodNamed B.named
  have hlocks := B.notSynchronized
  have hl := lv_entry ([.ref h1, .int (nI y), .int (nI u), .int (nI q)]) (n := 4) (Nat.le_of_ble_eq_true rfl)
  rw [lg_entry_eq]
  generalize (lg_sl ([.ref h1, .int (nI y), .int (nI u), .int (nI q)]) ++ List.replicate (4 - (lg_sl ([.ref h1, .int (nI y), .int (nI u), .int (nI q)])).length) Slot.unset).toArray = ls at hl ⊢
  have hl : lv_has ls 4 [(0, .ref h1), (1, .int (nI y)), (2, .int (nI u)), (3, .int (nI q))] := hl
  obtain ⟨A, hAe⟩ : ∃ A, A = va_A (sd_M cL cZ h1 a1 a2 a3 a4 er n w sh ke go) s.heap.size := ⟨_, rfl⟩
  have hD : va_D A (sd_M cL cZ h1 a1 a2 a3 a4 er n w sh ke go) := by rw [hAe]; exact hD0.self
  have hA : ∀ q : Nat, s.heap.size ≤ q → A q := fun q h => by rw [hAe]; exact Or.inr h
  have hS : va_S A s.heap s.heap [] := va_S.rf
  have hP : va_P (dC, dI) vwCl [(h1, .inr (1, [.int (nI er), .int (nI n), .ref a1, .ref a2, .ref a3, .ref a4])), (a1, .inl (cL, 8, .inr (.inl (fun z => lN (w z))))), (a2, .inl (cL, 8, .inr (.inl sh))), (a3, .inl (cL, 8, .inr (.inl ke))), (a4, .inl (cZ, 8, .inl go))] s.heap := hP
  have hD : va_D A [(h1, .inr (1, [.int (nI er), .int (nI n), .ref a1, .ref a2, .ref a3, .ref a4])), (a1, .inl (cL, 8, .inr (.inl (fun z => lN (w z))))), (a2, .inl (cL, 8, .inr (.inl sh))), (a3, .inl (cL, 8, .inr (.inl ke))), (a4, .inl (cZ, 8, .inl go))] := hD
  have hn1 := ok.1
  have hn8 := ok.2.1
  have hWl := sd_W_le ok.2.2.1 ok.2.1
  refine lv_aload_n hx hb dX1_over_0 rfl (lv_at hl 0 rfl) ?_
  refine lv_iconst (v := (nI 0)) hx hb dX1_over_1 (by decide +kernel) ?_
  refine va_put (D := (dC, dI)) (ci := 1) (v := .int (nI 0)) (ty := .int) (C := RX1) (T := TX1) (N := 6) hx hb hts u_in_X1 tyX1 tyX1_ok nmX1 hown hK hP hD hS 0 rfl rfl 0 (by decide) (hts (.fieldLink RX1 27 "ShareDeskModel" "err" "I") k_fieldLink_X1_27) (fun _ h9 => h9) rfl (by decide +kernel) rfl rfl (Nat.le_of_ble_eq_true rfl) dX1_over_2 (fun H locs hP hD hS => ?_)
  have hP : va_P (dC, dI) vwCl [(h1, .inr (1, [.int (nI 0), .int (nI n), .ref a1, .ref a2, .ref a3, .ref a4])), (a1, .inl (cL, 8, .inr (.inl (fun z => lN (w z))))), (a2, .inl (cL, 8, .inr (.inl sh))), (a3, .inl (cL, 8, .inr (.inl ke))), (a4, .inl (cZ, 8, .inl go))] H := hP
  have hD : va_D A [(h1, .inr (1, [.int (nI 0), .int (nI n), .ref a1, .ref a2, .ref a3, .ref a4])), (a1, .inl (cL, 8, .inr (.inl (fun z => lN (w z))))), (a2, .inl (cL, 8, .inr (.inl sh))), (a3, .inl (cL, 8, .inr (.inl ke))), (a4, .inl (cZ, 8, .inl go))] := hD
  refine lv_aload_n hx hb dX1_over_5 rfl (lv_at hl 0 rfl) ?_
  refine lv_iload_n hx hb dX1_over_6 rfl (lv_at hl 1 rfl) ?_
  refine sd_calli (va_runS (As := [.int (nI y)]) (rest := [.ref h1]) ⟨hx, hb, hml, hown, hts0⟩ (m_isWay l dC dI (nI y)) (cwS 1 hts0 (sd_gS k_methodLink_X1_59 k_static_X1_isWay k_init_ShareDeskModel k_code_X1_isWay) rfl rfl rfl (by decide +kernel) ⟨Nat.le_of_ble_eq_true rfl, Nat.le_of_ble_eq_true rfl⟩) (sd_preS (sd_K0 hK) (sd_nil _ _ _)) rfl rfl hl.1 rfl (lv_room (Nat.le_of_ble_eq_true rfl)) dX1_over_7 ⟨Nat.zero_le _, Nat.zero_le _⟩) ?_
  refine sd_bz_eq (tgt := 33) hx hb dX1_over_10 (by decide) (fun hc0 => ?_) (fun hc0 => ?_)
  · have hc0 : sd_rg (nI y) 0 2 = false := hc0
    exact absurd hc0 (by rw [sd_rg_nI (by omega) (by omega) (by omega) (by omega)]; decide)
  · have hc0 : sd_rg (nI y) 0 2 = true := hc0
    refine lv_iload_n hx hb dX1_over_13 rfl (lv_at hl 2 rfl) ?_
    refine lv_i2l (v := (nI u).toInt64) hx hb dX1_over_14 rfl ?_
    refine lv_lconst (v := lN 0) hx hb dX1_over_15 rfl ?_
    refine lv_ldc2 (v := 10000) hx hb hown (hts (.constantLong RX1 62 10000) k_constantLong_X1_62) dX1_over_16 ?_
    refine sd_topl (y := lN 10000) (by decide +kernel) ?_
    refine sd_calli (va_runS (As := [.long ((nI u).toInt64), .long (lN 0), .long (lN 10000)]) (rest := [.ref h1]) ⟨hx, hb, hml, hown, hts0⟩ (m_in l dC dI (nI u).toInt64 (lN 0) (lN 10000)) (cwS 3 hts0 (sd_gS k_methodLink_X1_30 k_static_X1_in k_init_ShareDeskModel k_code_X1_in) rfl rfl rfl (by decide +kernel) ⟨Nat.le_of_ble_eq_true rfl, Nat.le_of_ble_eq_true rfl⟩) (sd_preS (sd_K0 hK) (sd_nil _ _ _)) rfl rfl hl.1 rfl (lv_room (Nat.le_of_ble_eq_true rfl)) dX1_over_19 ⟨Nat.zero_le _, Nat.zero_le _⟩) ?_
    refine sd_bz_eq (tgt := 33) hx hb dX1_over_22 (by decide) (fun hc1 => ?_) (fun hc1 => ?_)
    · have hc1 : sd_rg (nI u) 0 10000 = false := hc1
      exact absurd hc1 (by rw [sd_rg_nI (by omega) (by omega) (by omega) (by omega)]; decide)
    · have hc1 : sd_rg (nI u) 0 10000 = true := hc1
      refine lv_aload_n hx hb dX1_over_25 rfl (lv_at hl 0 rfl) ?_
      refine lv_iload_n hx hb dX1_over_26 rfl (lv_at hl 3 rfl) ?_
      refine sd_calli (va_runV (As := [.int (nI q)]) (rest := [.ref h1]) ⟨hx, hb, hml, hown, hts0⟩ (m_isParty l dC dI cL cZ h1 a1 a2 a3 a4 0 n w sh ke go hn1 hn8 (nI q)) (cwV 1 hts0 (sd_gV k_methodLink_X1_42 k_instanceMethod_X1_isParty k_sel_X1_isParty k_init_ShareDeskModel k_code_X1_isParty) rfl rfl rfl (by decide +kernel) ⟨Nat.le_of_ble_eq_true rfl, Nat.le_of_ble_eq_true rfl⟩) (sd_preV hK hP (q0 := 0) (ci := 1) rfl rfl) rfl rfl hl.1 rfl (lv_room (Nat.le_of_ble_eq_true rfl)) dX1_over_27 ⟨Nat.zero_le _, Nat.zero_le _⟩) ?_
      refine sd_bz_ne (tgt := 37) hx hb dX1_over_30 (by decide) (fun hc2 => ?_) (fun hc2 => ?_)
      · have hc2 : sd_rg (nI q) 0 (n - 1) = true := hc2
        refine lv_iconst (v := (nI 0)) hx hb dX1_over_37 (by decide +kernel) ?_
        refine lv_iconst (v := (nI 1)) hx hb dX1_over_38 (by decide +kernel) ?_
        refine sd_calli (va_runV (As := [.int (nI 0), .int (nI 1)]) (rest := []) ⟨hx, hb, hml, hown, hts0⟩ (m_fails0 l dC dI cL cZ h1 a1 a2 a3 a4 0 n w sh ke go rfl 1) (cwV 2 hts0 (sd_gV k_methodLink_X1_38 k_instanceMethod_X1_fails k_sel_X1_fails k_init_ShareDeskModel k_code_X1_fails) rfl rfl rfl (by decide +kernel) ⟨Nat.le_of_ble_eq_true rfl, Nat.le_of_ble_eq_true rfl⟩) (sd_preV hK hP (q0 := 0) (ci := 1) rfl rfl) rfl rfl hl.1 rfl (lv_room (Nat.le_of_ble_eq_true rfl)) dX1_over_39 ⟨Nat.zero_le _, Nat.zero_le _⟩) ?_
        refine sd_iz_ne (a := 0) (tgt := 67) hx hb dX1_over_42 (by decide) (by omega) (fun h => ?_) (fun h => ?_)
        · exact absurd h (by omega)
        · refine lv_aload_n hx hb dX1_over_45 rfl (lv_at hl 0 rfl) ?_
          refine lv_aload_n hx hb dX1_over_46 rfl (lv_at hl 0 rfl) ?_
          refine sd_calll (va_runV (As := []) (rest := [.ref h1]) ⟨hx, hb, hml, hown, hts0⟩ (m_all l dC dI cL cZ h1 a1 a2 a3 a4 0 n w sh ke go hn8) (cwV 0 hts0 (sd_gV k_methodLink_X1_48 k_instanceMethod_X1_all k_sel_X1_all k_init_ShareDeskModel k_code_X1_all) rfl rfl rfl (by decide +kernel) ⟨Nat.le_of_ble_eq_true rfl, Nat.le_of_ble_eq_true rfl⟩) (sd_preV hK hP (q0 := 0) (ci := 1) rfl rfl) rfl rfl hl.1 rfl (lv_room (Nat.le_of_ble_eq_true rfl)) dX1_over_47 ⟨Nat.zero_le _, Nat.zero_le _⟩) ?_
          refine lv_lconst (v := lN 0) hx hb dX1_over_50 rfl ?_
          refine sd_lc_ne (a := sd_sum w n) (b := 0) (tgt := 59) hx hb dX1_over_51 dX1_over_52 (by decide) (by omega) (by omega) (fun h => ?_) (fun h => ?_)
          · refine lv_iconst (v := (nI 0)) hx hb dX1_over_59 (by decide +kernel) ?_
            refine lv_iconst (v := (nI 2)) hx hb dX1_over_60 (by decide +kernel) ?_
            refine sd_calli (va_runV (As := [.int (nI 0), .int (nI 2)]) (rest := []) ⟨hx, hb, hml, hown, hts0⟩ (m_fails0 l dC dI cL cZ h1 a1 a2 a3 a4 0 n w sh ke go rfl 2) (cwV 2 hts0 (sd_gV k_methodLink_X1_38 k_instanceMethod_X1_fails k_sel_X1_fails k_init_ShareDeskModel k_code_X1_fails) rfl rfl rfl (by decide +kernel) ⟨Nat.le_of_ble_eq_true rfl, Nat.le_of_ble_eq_true rfl⟩) (sd_preV hK hP (q0 := 0) (ci := 1) rfl rfl) rfl rfl hl.1 rfl (lv_room (Nat.le_of_ble_eq_true rfl)) dX1_over_61 ⟨Nat.zero_le _, Nat.zero_le _⟩) ?_
            refine sd_iz_eq (a := 0) (tgt := 69) hx hb dX1_over_64 (by decide) (by omega) (fun h => ?_) (fun h => ?_)
            · have hUl := sd_U_le (y := y) (w := w) (m := u) hW hq
              have hwq := ok.2.2.1 q
              refine lv_aload_n hx hb dX1_over_69 rfl (lv_at hl 0 rfl) ?_
              refine lv_iload_n hx hb dX1_over_70 rfl (lv_at hl 1 rfl) ?_
              refine lv_iload_n hx hb dX1_over_71 rfl (lv_at hl 2 rfl) ?_
              refine sd_wv (va_runV (As := [.int (nI y), .int (nI u)]) (rest := []) ⟨hx, hb, hml, hown, hts0⟩ (m_give l dC dI cL cZ h1 a1 a2 a3 a4 0 n w sh ke go H.size ok hW y u hy hu) (cwV 2 hts0 (sd_gV k_methodLink_X1_64 k_instanceMethod_X1_give k_sel_X1_give k_init_ShareDeskModel k_code_X1_give) rfl rfl rfl (by decide +kernel) ⟨Nat.le_of_ble_eq_true rfl, Nat.le_of_ble_eq_true rfl⟩) (sd_preVw hK hP hD (q0 := 0) (ci := 1) rfl rfl) rfl rfl hl.1 rfl (lv_room (Nat.le_of_ble_eq_true rfl)) dX1_over_72 ⟨Nat.zero_le _, Nat.zero_le _⟩) hD hS hA (fun u_ H locs hpo hP hD hS => ?_)
              obtain ⟨sh, ke1, go⟩ := u_
              try dsimp only at hpo
              have hP : va_P (dC, dI) vwCl [(h1, .inr (1, [.int (nI 0), .int (nI n), .ref a1, .ref a2, .ref a3, .ref a4])), (a1, .inl (cL, 8, .inr (.inl (fun z => lN (w z))))), (a2, .inl (cL, 8, .inr (.inl sh))), (a3, .inl (cL, 8, .inr (.inl ke1))), (a4, .inl (cZ, 8, .inl go))] H := hP
              have hD : va_D A [(h1, .inr (1, [.int (nI 0), .int (nI n), .ref a1, .ref a2, .ref a3, .ref a4])), (a1, .inl (cL, 8, .inr (.inl (fun z => lN (w z))))), (a2, .inl (cL, 8, .inr (.inl sh))), (a3, .inl (cL, 8, .inr (.inl ke1))), (a4, .inl (cZ, 8, .inl go))] := hD
              obtain ⟨hpo, hke⟩ := hpo
              rw [hke] at hP hD
              have hP : va_P (dC, dI) vwCl [(h1, .inr (1, [.int (nI 0), .int (nI n), .ref a1, .ref a2, .ref a3, .ref a4])), (a1, .inl (cL, 8, .inr (.inl (fun z => lN (w z))))), (a2, .inl (cL, 8, .inr (.inl sh))), (a3, .inl (cL, 8, .inr (.inl ke))), (a4, .inl (cZ, 8, .inl go))] H := hP
              have hD : va_D A [(h1, .inr (1, [.int (nI 0), .int (nI n), .ref a1, .ref a2, .ref a3, .ref a4])), (a1, .inl (cL, 8, .inr (.inl (fun z => lN (w z))))), (a2, .inl (cL, 8, .inr (.inl sh))), (a3, .inl (cL, 8, .inr (.inl ke))), (a4, .inl (cZ, 8, .inl go))] := hD
              refine lv_aload_n hx hb dX1_over_75 rfl (lv_at hl 0 rfl) ?_
              refine va_get (D := (dC, dI)) (ci := 1) (v := .ref a2) (C := RX1) (T := TX1) (N := 6) hx hb hts u_in_X1 hown hK hP 0 rfl rfl 3 (by decide) (hts (.fieldLink RX1 17 "ShareDeskModel" "shares" "[J") k_fieldLink_X1_17) (fun _ h9 => h9) rfl dX1_over_76 ?_
              refine lv_iload_n hx hb dX1_over_79 rfl (lv_at hl 3 rfl) ?_
              refine sd_lald (j := q) (v := lN (sd_U y w n u q)) hx hb hK hP 2 0 rfl rfl (by omega) (by decide) (hpo q hq) dX1_over_80 ?_
              refine lv_aload_n hx hb dX1_over_81 rfl (lv_at hl 0 rfl) ?_
              refine sd_calll (va_runV (As := []) (rest := [.long (lN (sd_U y w n u q))]) ⟨hx, hb, hml, hown, hts0⟩ (m_all l dC dI cL cZ h1 a1 a2 a3 a4 0 n w sh ke go hn8) (cwV 0 hts0 (sd_gV k_methodLink_X1_48 k_instanceMethod_X1_all k_sel_X1_all k_init_ShareDeskModel k_code_X1_all) rfl rfl rfl (by decide +kernel) ⟨Nat.le_of_ble_eq_true rfl, Nat.le_of_ble_eq_true rfl⟩) (sd_preV hK hP (q0 := 0) (ci := 1) rfl rfl) rfl rfl hl.1 rfl (lv_room (Nat.le_of_ble_eq_true rfl)) dX1_over_82 ⟨Nat.zero_le _, Nat.zero_le _⟩) ?_
              refine sd_lmul (v := lN ((sd_U y w n u q) * (sd_sum w n))) hx hb dX1_over_85 (lN_mul _ _) ?_
              refine lv_iload_n hx hb dX1_over_86 rfl (lv_at hl 2 rfl) ?_
              refine lv_i2l (v := lN u) hx hb dX1_over_87 (nI_l (by omega)) ?_
              refine lv_aload_n hx hb dX1_over_88 rfl (lv_at hl 0 rfl) ?_
              refine va_get (D := (dC, dI)) (ci := 1) (v := .ref a1) (C := RX1) (T := TX1) (N := 6) hx hb hts u_in_X1 hown hK hP 0 rfl rfl 2 (by decide) (hts (.fieldLink RX1 13 "ShareDeskModel" "weights" "[J") k_fieldLink_X1_13) (fun _ h9 => h9) rfl dX1_over_89 ?_
              refine lv_iload_n hx hb dX1_over_92 rfl (lv_at hl 3 rfl) ?_
              refine sd_lald (j := q) (v := lN (w q)) hx hb hK hP 1 0 rfl rfl (by omega) (by decide) rfl dX1_over_93 ?_
              refine sd_lmul (v := lN (u * (w q))) hx hb dX1_over_94 (lN_mul _ _) ?_
              refine sd_lsub (v := lN (sd_U y w n u q * sd_sum w n) - lN (u * w q)) hx hb dX1_over_95 rfl ?_
              exact W.lret hx hb hr (fun t ht hW => ⟨⟨_, (sh, ke, go), rfl, rfl, by rw [ht]; exact hP, va_K.moved hW.alike hK, by rw [← hAe]; exact hD⟩, by rw [← hAe]; exact hS.F ht⟩) (fun q hq => by rw [← hAe]; exact hS.2.2 q hq) dX1_over_96
            · exact absurd h (by omega)
          · exact absurd h (by omega)
      · have hc2 : sd_rg (nI q) 0 (n - 1) = false := hc2
        exact absurd hc2 (by rw [sd_rg_nI (by omega) (by omega) (by omega) (by omega)]; decide)
end
section
set_option maxHeartbeats 4000000 in
set_option maxRecDepth 100000 in
theorem lp_mnext1 {p : Program} {l : Launch} {e : Env} {R : Room} {s : State} {m : MethodId} {args : Array Value} {below : List Frame} {meth : Method} {c : Code} {cells slots : Nat} {Q : State → Prop} (hx : p.tables.exec = Jvm.exec) (hb : c.code = cX1_next) (hml : c.maxLocals = 5) (hts0 : ∀ w ∈ (sd_ws yX1_next cX1_next 5 (some .int)), w.before args s = true) (hown : s.vm.findClass RX1 = some m.cls) {dC : Nat → ClassId} {dI : Nat → Nat → Nat} {cL cZ : ClassId} {h1 a1 a2 a3 a4 er n : Nat} {w : Nat → Nat} (A : Nat → Prop) (H0 : Heap) (hA : ∀ q, H0.size ≤ q → A q) (hK : va_K (dC, dI) vwCl [(cL, .long), (cZ, .boolean)] s) (sh : Nat → Int64) (go : Nat → Int32) (ok : sd_ok n w) (y u : Nat) (hsh : ∀ j, j < n → sh j = lN (sd_U y w n u j))
    (kk : ∀ (H : Heap) (locs : List Loc) (ke : Nat → Int64) (ls : Array Slot), va_P (dC, dI) vwCl [(h1, .inr (1, [.int (nI 0), .int (nI n), .ref a1, .ref a2, .ref a3, .ref a4])), (a1, .inl (cL, 8, .inr (.inl (fun z => lN (w z))))), (a2, .inl (cL, 8, .inr (.inl sh))), (a3, .inl (cL, 8, .inr (.inl ke))), (a4, .inl (cZ, 8, .inl go))] H → va_D A [(h1, .inr (1, [.int (nI 0), .int (nI n), .ref a1, .ref a2, .ref a3, .ref a4])), (a1, .inl (cL, 8, .inr (.inl (fun z => lN (w z))))), (a2, .inl (cL, 8, .inr (.inl sh))), (a3, .inl (cL, 8, .inr (.inl ke))), (a4, .inl (cZ, 8, .inl go))] → va_S A H0 H locs → (∀ j, j < n → ke j = lN (sd_U y w n u j)) → lv_has ls 5 [(0, .ref h1), (1, .int (nI y)), (2, .int (nI u)), (3, .int (nI n))] → W p l e R s m args below meth c H locs cells slots Q (F0 m 95 ls []))
    : ∀ (f i : Nat), i + f = n → ∀ (H : Heap) (locs : List Loc) (ke : Nat → Int64) (ls : Array Slot), va_P (dC, dI) vwCl [(h1, .inr (1, [.int (nI 0), .int (nI n), .ref a1, .ref a2, .ref a3, .ref a4])), (a1, .inl (cL, 8, .inr (.inl (fun z => lN (w z))))), (a2, .inl (cL, 8, .inr (.inl sh))), (a3, .inl (cL, 8, .inr (.inl ke))), (a4, .inl (cZ, 8, .inl go))] H → va_D A [(h1, .inr (1, [.int (nI 0), .int (nI n), .ref a1, .ref a2, .ref a3, .ref a4])), (a1, .inl (cL, 8, .inr (.inl (fun z => lN (w z))))), (a2, .inl (cL, 8, .inr (.inl sh))), (a3, .inl (cL, 8, .inr (.inl ke))), (a4, .inl (cZ, 8, .inl go))] → va_S A H0 H locs → (∀ j, j < i → ke j = lN (sd_U y w n u j)) → lv_has ls 5 [(0, .ref h1), (1, .int (nI y)), (2, .int (nI u)), (3, .int (nI i))] → W p l e R s m args below meth c H locs cells slots Q (F0 m 69 ls []) := by
  have hts : ∀ w ∈ sd_WS, w.before args s = true := fun w h => hts0 w (List.mem_cons_of_mem _ h)
  have hn8 := ok.2.1
  intro f
  induction f using Nat.strongRecOn with
  | ind f ih0 =>
    intro i hi H locs ke ls hP hD hS hv hl
    have ih : i < n → ∀ (H : Heap) (locs : List Loc) (ke : Nat → Int64) (ls : Array Slot), va_P (dC, dI) vwCl [(h1, .inr (1, [.int (nI 0), .int (nI n), .ref a1, .ref a2, .ref a3, .ref a4])), (a1, .inl (cL, 8, .inr (.inl (fun z => lN (w z))))), (a2, .inl (cL, 8, .inr (.inl sh))), (a3, .inl (cL, 8, .inr (.inl ke))), (a4, .inl (cZ, 8, .inl go))] H → va_D A [(h1, .inr (1, [.int (nI 0), .int (nI n), .ref a1, .ref a2, .ref a3, .ref a4])), (a1, .inl (cL, 8, .inr (.inl (fun z => lN (w z))))), (a2, .inl (cL, 8, .inr (.inl sh))), (a3, .inl (cL, 8, .inr (.inl ke))), (a4, .inl (cZ, 8, .inl go))] → va_S A H0 H locs → (∀ j, j < (i + 1) → ke j = lN (sd_U y w n u j)) → lv_has ls 5 [(0, .ref h1), (1, .int (nI y)), (2, .int (nI u)), (3, .int (nI (i + 1)))] → W p l e R s m args below meth c H locs cells slots Q (F0 m 69 ls []) := fun hlt => ih0 (f - 1) (by omega) (i + 1) (by omega)
    refine lv_iload_n hx hb dX1_next_69 rfl (lv_at hl 3 rfl) ?_
    refine lv_aload_n hx hb dX1_next_70 rfl (lv_at hl 0 rfl) ?_
    refine va_get (D := (dC, dI)) (ci := 1) (v := .int (nI n)) (C := RX1) (T := TX1) (N := 6) hx hb hts u_in_X1 hown hK hP 0 rfl rfl 1 (by decide) (hts (.fieldLink RX1 7 "ShareDeskModel" "parties" "I") k_fieldLink_X1_7) (fun _ h9 => h9) rfl dX1_next_71 ?_
    refine sd_ic_ge (a := i) (b := n) (tgt := 95) hx hb dX1_next_74 (by decide) (by omega) (by omega) (fun h => ?_) (fun h => ?_)
    · have hin : i = n := by omega
      subst hin
      exact kk H locs ke ls hP hD hS hv hl
    · refine lv_aload_n hx hb dX1_next_77 rfl (lv_at hl 0 rfl) ?_
      refine va_get (D := (dC, dI)) (ci := 1) (v := .ref a3) (C := RX1) (T := TX1) (N := 6) hx hb hts u_in_X1 hown hK hP 0 rfl rfl 4 (by decide) (hts (.fieldLink RX1 20 "ShareDeskModel" "kept" "[J") k_fieldLink_X1_20) (fun _ h9 => h9) rfl dX1_next_78 ?_
      refine lv_iload_n hx hb dX1_next_81 rfl (lv_at hl 3 rfl) ?_
      refine lv_aload_n hx hb dX1_next_82 rfl (lv_at hl 0 rfl) ?_
      refine va_get (D := (dC, dI)) (ci := 1) (v := .ref a2) (C := RX1) (T := TX1) (N := 6) hx hb hts u_in_X1 hown hK hP 0 rfl rfl 3 (by decide) (hts (.fieldLink RX1 17 "ShareDeskModel" "shares" "[J") k_fieldLink_X1_17) (fun _ h9 => h9) rfl dX1_next_83 ?_
      refine lv_iload_n hx hb dX1_next_86 rfl (lv_at hl 3 rfl) ?_
      refine sd_lald (j := i) (v := lN (sd_U y w n u i)) hx hb hK hP 2 0 rfl rfl (by omega) (by decide) (hsh i (by omega)) dX1_next_87 ?_
      refine sd_last (j := i) hx hb hK hP hD hS 3 0 rfl rfl (by omega) (by decide) dX1_next_88 (fun H locs hP hD hS => ?_)
      have hP : va_P (dC, dI) vwCl [(h1, .inr (1, [.int (nI 0), .int (nI n), .ref a1, .ref a2, .ref a3, .ref a4])), (a1, .inl (cL, 8, .inr (.inl (fun z => lN (w z))))), (a2, .inl (cL, 8, .inr (.inl sh))), (a3, .inl (cL, 8, .inr (.inl (vp_updL ke i (lN (sd_U y w n u i)))))), (a4, .inl (cZ, 8, .inl go))] H := hP
      have hD : va_D A [(h1, .inr (1, [.int (nI 0), .int (nI n), .ref a1, .ref a2, .ref a3, .ref a4])), (a1, .inl (cL, 8, .inr (.inl (fun z => lN (w z))))), (a2, .inl (cL, 8, .inr (.inl sh))), (a3, .inl (cL, 8, .inr (.inl (vp_updL ke i (lN (sd_U y w n u i)))))), (a4, .inl (cZ, 8, .inl go))] := hD
      refine lv_iinc (k := 3) (v := nI (i + 1)) hx hb dX1_next_89 hl rfl (nI_add _ 1) (by decide) rfl (fun ls hl => ?_)
      have hl : lv_has ls 5 [(3, .int (nI (i + 1))), (0, .ref h1), (1, .int (nI y)), (2, .int (nI u))] := hl
      refine lv_goto (tgt := 69) hx hb dX1_next_92 (by decide) ?_
      have hl := lv_sub (l' := [(0, .ref h1), (1, .int (nI y)), (2, .int (nI u)), (3, .int (nI (i + 1)))]) hl [1, 2, 3, 0] rfl
      refine ih (by omega) H locs _ ls hP hD hS (fun j hj => ?_) hl
      by_cases e : j = i
      · rw [e, pk_uLs]
      · rw [pk_uLn e]; exact hv j (by omega)
set_option maxHeartbeats 4000000 in
set_option maxRecDepth 100000 in
theorem lp_mnext2 {p : Program} {l : Launch} {e : Env} {R : Room} {s : State} {m : MethodId} {args : Array Value} {below : List Frame} {meth : Method} {c : Code} {H : Heap} {locs : List Loc} {cells slots : Nat} {Q : State → Prop} (hx : p.tables.exec = Jvm.exec) (hb : c.code = cX1_next) (hml : c.maxLocals = 5) (hts0 : ∀ w ∈ (sd_ws yX1_next cX1_next 5 (some .int)), w.before args s = true) (hown : s.vm.findClass RX1 = some m.cls) {dC : Nat → ClassId} {dI : Nat → Nat → Nat} {cL cZ : ClassId} {h1 a1 a2 a3 a4 n : Nat} {w : Nat → Nat} {sh ke : Nat → Int64} {go : Nat → Int32} (hK : va_K (dC, dI) vwCl [(cL, .long), (cZ, .boolean)] s) (hP : va_P (dC, dI) vwCl (sd_M cL cZ h1 a1 a2 a3 a4 0 n w sh ke go) H) (ok : sd_ok n w) (hW : 0 < sd_sum w n) (y u : Nat) (hu : u ≤ 9999) (hsh : ∀ j, j < n → sh j = lN (sd_U y w n (u + 1) j)) (hke : ∀ j, j < n → ke j = lN (sd_U y w n u j))
    (kk1 : sd_na (sd_nm (sd_U y w n u) (sd_U y w n (u + 1)) n) = none → ∀ ls : Array Slot, W p l e R s m args below meth c H locs cells slots Q (F0 m 163 ls [.int (-1)])) (kk2 : ∀ ls : Array Slot, W p l e R s m args below meth c H locs cells slots Q (F0 m 174 ls [.int (sd_oi (sd_na (sd_nm (sd_U y w n u) (sd_U y w n (u + 1)) n)))]))
    : ∀ (f i : Nat) (ch : Option Nat), i + f = n → sd_nm (sd_U y w n u) (sd_U y w n (u + 1)) i = some ch → (∀ k, ch = some k → k < 2 ^ 31) → ∀ ls : Array Slot, lv_has ls 5 [(0, .ref h1), (1, .int (nI y)), (2, .int (nI u)), (3, .int (sd_oi ch)), (4, .int (nI i))] → W p l e R s m args below meth c H locs cells slots Q (F0 m 108 ls []) := by
  have hts : ∀ w ∈ sd_WS, w.before args s = true := fun w h => hts0 w (List.mem_cons_of_mem _ h)
  have hP : va_P (dC, dI) vwCl [(h1, .inr (1, [.int (nI 0), .int (nI n), .ref a1, .ref a2, .ref a3, .ref a4])), (a1, .inl (cL, 8, .inr (.inl (fun z => lN (w z))))), (a2, .inl (cL, 8, .inr (.inl sh))), (a3, .inl (cL, 8, .inr (.inl ke))), (a4, .inl (cZ, 8, .inl go))] H := hP
  have hn8 := ok.2.1
  intro f
  induction f with
  | zero =>
    intro i ch hi hc hs ls hl
    have hin : i = n := by omega
    refine lv_iload hx hb dX1_next_108 (lv_at hl 4 rfl) ?_
    refine lv_aload_n hx hb dX1_next_110 rfl (lv_at hl 0 rfl) ?_
    refine va_get (D := (dC, dI)) (ci := 1) (v := .int (nI n)) (C := RX1) (T := TX1) (N := 6) hx hb hts u_in_X1 hown hK hP 0 rfl rfl 1 (by decide) (hts (.fieldLink RX1 7 "ShareDeskModel" "parties" "I") k_fieldLink_X1_7) (fun _ h9 => h9) rfl dX1_next_111 ?_
    refine sd_ic_ge (a := i) (b := n) (tgt := 173) hx hb dX1_next_114 (by decide) (by omega) (by omega) (fun h => ?_) (fun h => ?_)
    · refine lv_iload_n hx hb dX1_next_173 rfl (lv_at hl 3 rfl) ?_
      refine sd_topi (y := sd_oi (sd_na (sd_nm (sd_U y w n u) (sd_U y w n (u + 1)) n))) (by have hc2 := hc; rw [hin] at hc2; rw [hc2]; cases ch <;> rfl) ?_
      exact kk2 ls
    · exact absurd h (by omega)
  | succ f ih =>
    intro i ch hi hc hs ls hl
    refine lv_iload hx hb dX1_next_108 (lv_at hl 4 rfl) ?_
    refine lv_aload_n hx hb dX1_next_110 rfl (lv_at hl 0 rfl) ?_
    refine va_get (D := (dC, dI)) (ci := 1) (v := .int (nI n)) (C := RX1) (T := TX1) (N := 6) hx hb hts u_in_X1 hown hK hP 0 rfl rfl 1 (by decide) (hts (.fieldLink RX1 7 "ShareDeskModel" "parties" "I") k_fieldLink_X1_7) (fun _ h9 => h9) rfl dX1_next_111 ?_
    refine sd_ic_ge (a := i) (b := n) (tgt := 173) hx hb dX1_next_114 (by decide) (by omega) (by omega) (fun h => ?_) (fun h => ?_)
    · exact absurd h (by omega)
    · have hu1 := sd_U_le (y := y) (w := w) (m := u) (p := i) hW (by omega)
      have hu2 := sd_U_le (y := y) (w := w) (m := u + 1) (p := i) hW (by omega)
      refine lv_aload_n hx hb dX1_next_117 rfl (lv_at hl 0 rfl) ?_
      refine va_get (D := (dC, dI)) (ci := 1) (v := .ref a2) (C := RX1) (T := TX1) (N := 6) hx hb hts u_in_X1 hown hK hP 0 rfl rfl 3 (by decide) (hts (.fieldLink RX1 17 "ShareDeskModel" "shares" "[J") k_fieldLink_X1_17) (fun _ h9 => h9) rfl dX1_next_118 ?_
      refine lv_iload hx hb dX1_next_121 (lv_at hl 4 rfl) ?_
      refine sd_lald (j := i) (v := lN (sd_U y w n (u + 1) i)) hx hb hK hP 2 0 rfl rfl (by omega) (by decide) (hsh i (by omega)) dX1_next_123 ?_
      refine lv_aload_n hx hb dX1_next_124 rfl (lv_at hl 0 rfl) ?_
      refine va_get (D := (dC, dI)) (ci := 1) (v := .ref a3) (C := RX1) (T := TX1) (N := 6) hx hb hts u_in_X1 hown hK hP 0 rfl rfl 4 (by decide) (hts (.fieldLink RX1 20 "ShareDeskModel" "kept" "[J") k_fieldLink_X1_20) (fun _ h9 => h9) rfl dX1_next_125 ?_
      refine lv_iload hx hb dX1_next_128 (lv_at hl 4 rfl) ?_
      refine sd_lald (j := i) (v := lN (sd_U y w n u i)) hx hb hK hP 3 0 rfl rfl (by omega) (by decide) (hke i (by omega)) dX1_next_130 ?_
      refine sd_lc_ne (a := sd_U y w n (u + 1) i) (b := sd_U y w n u i) (tgt := 138) hx hb dX1_next_131 dX1_next_132 (by decide) (by omega) (by omega) (fun h => ?_) (fun h => ?_)
      · have hne2 : ¬ sd_U y w n u i = sd_U y w n (u + 1) i := fun z => h z.symm
        refine lv_iload_n hx hb dX1_next_138 rfl (lv_at hl 3 rfl) ?_
        refine lv_if_ge (tgt := 162) hx hb dX1_next_139 (by decide) (fun h => ?_) (fun h => ?_)
        · have hcs : sd_na (sd_nm (sd_U y w n u) (sd_U y w n (u + 1)) n) = none := by
            have e1 : sd_nm (sd_U y w n u) (sd_U y w n (u + 1)) (i + 1) = none := by
              cases ch with
              | none => exact absurd h (by decide +kernel)
              | some c0 => unfold sd_nm; rw [hc]; simp [hne2]
            rw [sd_nm_none e1 n (by omega)]; rfl
          refine lv_iconst (v := (-1)) hx hb dX1_next_162 (by decide +kernel) ?_
          exact kk1 hcs ls
        · have hcn : ch = none := (sd_oi_neg hs).mp (Int32.not_le.mp h)
          subst hcn
          refine lv_aload_n hx hb dX1_next_142 rfl (lv_at hl 0 rfl) ?_
          refine va_get (D := (dC, dI)) (ci := 1) (v := .ref a2) (C := RX1) (T := TX1) (N := 6) hx hb hts u_in_X1 hown hK hP 0 rfl rfl 3 (by decide) (hts (.fieldLink RX1 17 "ShareDeskModel" "shares" "[J") k_fieldLink_X1_17) (fun _ h9 => h9) rfl dX1_next_143 ?_
          refine lv_iload hx hb dX1_next_146 (lv_at hl 4 rfl) ?_
          refine sd_lald (j := i) (v := lN (sd_U y w n (u + 1) i)) hx hb hK hP 2 0 rfl rfl (by omega) (by decide) (hsh i (by omega)) dX1_next_148 ?_
          refine lv_aload_n hx hb dX1_next_149 rfl (lv_at hl 0 rfl) ?_
          refine va_get (D := (dC, dI)) (ci := 1) (v := .ref a3) (C := RX1) (T := TX1) (N := 6) hx hb hts u_in_X1 hown hK hP 0 rfl rfl 4 (by decide) (hts (.fieldLink RX1 20 "ShareDeskModel" "kept" "[J") k_fieldLink_X1_20) (fun _ h9 => h9) rfl dX1_next_150 ?_
          refine lv_iload hx hb dX1_next_153 (lv_at hl 4 rfl) ?_
          refine sd_lald (j := i) (v := lN (sd_U y w n u i)) hx hb hK hP 3 0 rfl rfl (by omega) (by decide) (hke i (by omega)) dX1_next_155 ?_
          refine lv_lconst (v := lN 1) hx hb dX1_next_156 rfl ?_
          refine sd_ladd (v := lN ((sd_U y w n u i) + 1)) hx hb dX1_next_157 (lN_add _ _) ?_
          refine sd_lc_eq (a := sd_U y w n (u + 1) i) (b := (sd_U y w n u i) + 1) (tgt := 164) hx hb dX1_next_158 dX1_next_159 (by decide) (by omega) (by omega) (fun h => ?_) (fun h => ?_)
          · have e1 : sd_nm (sd_U y w n u) (sd_U y w n (u + 1)) (i + 1) = some (some i) := by unfold sd_nm; rw [hc]; simp [hne2, h]
            refine lv_iload hx hb dX1_next_164 (lv_at hl 4 rfl) ?_
            refine lv_istore_n hx hb dX1_next_166 rfl hl (by decide) rfl (fun ls hl => ?_)
            have hl : lv_has ls 5 [(3, .int (nI i)), (0, .ref h1), (1, .int (nI y)), (2, .int (nI u)), (4, .int (nI i))] := hl
            refine lv_iinc (k := 4) (v := nI (i + 1)) hx hb dX1_next_167 hl rfl (nI_add _ 1) (by decide) rfl (fun ls hl => ?_)
            have hl : lv_has ls 5 [(4, .int (nI (i + 1))), (3, .int (nI i)), (0, .ref h1), (1, .int (nI y)), (2, .int (nI u))] := hl
            refine lv_goto (tgt := 108) hx hb dX1_next_170 (by decide) ?_
            have hl := lv_sub (l' := [(0, .ref h1), (1, .int (nI y)), (2, .int (nI u)), (3, .int (nI i)), (4, .int (nI (i + 1)))]) hl [2, 3, 4, 1, 0] rfl
            exact ih (i + 1) (some i) (by omega) e1 (fun k hk => by cases hk; omega) ls hl
          · have hcs : sd_na (sd_nm (sd_U y w n u) (sd_U y w n (u + 1)) n) = none := by
              have e1 : sd_nm (sd_U y w n u) (sd_U y w n (u + 1)) (i + 1) = none := by unfold sd_nm; rw [hc]; simp [hne2, h]
              rw [sd_nm_none e1 n (by omega)]; rfl
            refine lv_iconst (v := (-1)) hx hb dX1_next_162 (by decide +kernel) ?_
            exact kk1 hcs ls
      · have e1 : sd_nm (sd_U y w n u) (sd_U y w n (u + 1)) (i + 1) = some ch := by unfold sd_nm; rw [hc]; simp [h]
        refine lv_goto (tgt := 167) hx hb dX1_next_135 (by decide) ?_
        refine lv_iinc (k := 4) (v := nI (i + 1)) hx hb dX1_next_167 hl rfl (nI_add _ 1) (by decide) rfl (fun ls hl => ?_)
        have hl : lv_has ls 5 [(4, .int (nI (i + 1))), (0, .ref h1), (1, .int (nI y)), (2, .int (nI u)), (3, .int (sd_oi ch))] := hl
        refine lv_goto (tgt := 108) hx hb dX1_next_170 (by decide) ?_
        have hl := lv_sub (l' := [(0, .ref h1), (1, .int (nI y)), (2, .int (nI u)), (3, .int (sd_oi ch)), (4, .int (nI (i + 1)))]) hl [1, 2, 3, 4, 0] rfl
        exact ih (i + 1) ch (by omega) e1 hs ls hl
set_option maxHeartbeats 4000000 in
set_option maxRecDepth 100000 in
theorem m_next_bad (l : Launch) (dC : Nat → ClassId) (dI : Nat → Nat → Nat) (cL cZ : ClassId) (h1 a1 a2 a3 a4 er n : Nat) (w : Nat → Nat) (sh ke : Nat → Int64) (go : Nat → Int32) (sz : Nat) (hn1 : 1 ≤ n) (hn8 : n ≤ 8) (x1 x2 : Int32) (hbad : sd_rg x1 0 2 = false ∨ sd_rg x2 0 9999 = false) : Met l yX1_next (sd_ws yX1_next cX1_next 5 (some .int)) (sd_rm 3 0 0) (sd_Pw (dC, dI) vwCl [(cL, .long), (cZ, .boolean)] (sd_M cL cZ h1 a1 a2 a3 a4 er n w sh ke go) sz [.ref h1, .int x1, .int x2]) (va_Qi (fun r (v_ : sd_S) => r = nI 0) (sd_Bw (dC, dI) vwCl [(cL, .long), (cZ, .boolean)] (sd_M cL cZ h1 a1 a2 a3 a4 er n w sh ke go) sz (fun v_ => (sd_M cL cZ h1 a1 a2 a3 a4 1 n w v_.1 v_.2.1 v_.2.2))) (va_A (sd_M cL cZ h1 a1 a2 a3 a4 er n w sh ke go) sz)) 0 0 (va_A (sd_M cL cZ h1 a1 a2 a3 a4 er n w sh ke go) sz) := by
  refine Met.ofW (cc := cX1_next) (maxL := 5) (ret := (some .int)) (by decide) rfl ?_
  intro p e s m args below meth c s₁ B hml hv
  obtain ⟨rfl, hsz, hP, hK, hD0⟩ := hv
  subst hsz
  have hx := B.exec
  have hb := B.bytes
  have hr := B.returns
  have hts0 := atoms_spec (ws := (sd_ws yX1_next cX1_next 5 (some .int))) B.pre
  have hts : ∀ w ∈ sd_WS, w.before _ s = true := fun w h => hts0 w (List.mem_cons_of_mem _ h)
  have hown : s.vm.findClass RX1 = some m.cls := findClass_of_methodNamed B.named
  have hlocks := B.notSynchronized
  have hl := lv_entry ([.ref h1, .int x1, .int x2]) (n := 5) (Nat.le_of_ble_eq_true rfl)
  rw [lg_entry_eq]
  generalize (lg_sl ([.ref h1, .int x1, .int x2]) ++ List.replicate (5 - (lg_sl ([.ref h1, .int x1, .int x2])).length) Slot.unset).toArray = ls at hl ⊢
  have hl : lv_has ls 5 [(0, .ref h1), (1, .int x1), (2, .int x2)] := hl
  obtain ⟨A, hAe⟩ : ∃ A, A = va_A (sd_M cL cZ h1 a1 a2 a3 a4 er n w sh ke go) s.heap.size := ⟨_, rfl⟩
  have hD : va_D A (sd_M cL cZ h1 a1 a2 a3 a4 er n w sh ke go) := by rw [hAe]; exact hD0.self
  have hA : ∀ q : Nat, s.heap.size ≤ q → A q := fun q h => by rw [hAe]; exact Or.inr h
  have hS : va_S A s.heap s.heap [] := va_S.rf
  have hP : va_P (dC, dI) vwCl [(h1, .inr (1, [.int (nI er), .int (nI n), .ref a1, .ref a2, .ref a3, .ref a4])), (a1, .inl (cL, 8, .inr (.inl (fun z => lN (w z))))), (a2, .inl (cL, 8, .inr (.inl sh))), (a3, .inl (cL, 8, .inr (.inl ke))), (a4, .inl (cZ, 8, .inl go))] s.heap := hP
  have hD : va_D A [(h1, .inr (1, [.int (nI er), .int (nI n), .ref a1, .ref a2, .ref a3, .ref a4])), (a1, .inl (cL, 8, .inr (.inl (fun z => lN (w z))))), (a2, .inl (cL, 8, .inr (.inl sh))), (a3, .inl (cL, 8, .inr (.inl ke))), (a4, .inl (cZ, 8, .inl go))] := hD
  refine lv_aload_n hx hb dX1_next_0 rfl (lv_at hl 0 rfl) ?_
  refine lv_iconst (v := (nI 0)) hx hb dX1_next_1 (by decide +kernel) ?_
  refine va_put (D := (dC, dI)) (ci := 1) (v := .int (nI 0)) (ty := .int) (C := RX1) (T := TX1) (N := 6) hx hb hts u_in_X1 tyX1 tyX1_ok nmX1 hown hK hP hD hS 0 rfl rfl 0 (by decide) (hts (.fieldLink RX1 27 "ShareDeskModel" "err" "I") k_fieldLink_X1_27) (fun _ h9 => h9) rfl (by decide +kernel) rfl rfl (Nat.le_of_ble_eq_true rfl) dX1_next_2 (fun H locs hP hD hS => ?_)
  have hP : va_P (dC, dI) vwCl [(h1, .inr (1, [.int (nI 0), .int (nI n), .ref a1, .ref a2, .ref a3, .ref a4])), (a1, .inl (cL, 8, .inr (.inl (fun z => lN (w z))))), (a2, .inl (cL, 8, .inr (.inl sh))), (a3, .inl (cL, 8, .inr (.inl ke))), (a4, .inl (cZ, 8, .inl go))] H := hP
  have hD : va_D A [(h1, .inr (1, [.int (nI 0), .int (nI n), .ref a1, .ref a2, .ref a3, .ref a4])), (a1, .inl (cL, 8, .inr (.inl (fun z => lN (w z))))), (a2, .inl (cL, 8, .inr (.inl sh))), (a3, .inl (cL, 8, .inr (.inl ke))), (a4, .inl (cZ, 8, .inl go))] := hD
  refine lv_aload_n hx hb dX1_next_5 rfl (lv_at hl 0 rfl) ?_
  refine lv_iload_n hx hb dX1_next_6 rfl (lv_at hl 1 rfl) ?_
  refine sd_calli (va_runS (As := [.int x1]) (rest := [.ref h1]) ⟨hx, hb, hml, hown, hts0⟩ (m_isWay l dC dI x1) (cwS 1 hts0 (sd_gS k_methodLink_X1_59 k_static_X1_isWay k_init_ShareDeskModel k_code_X1_isWay) rfl rfl rfl (by decide +kernel) ⟨Nat.le_of_ble_eq_true rfl, Nat.le_of_ble_eq_true rfl⟩) (sd_preS (sd_K0 hK) (sd_nil _ _ _)) rfl rfl hl.1 rfl (lv_room (Nat.le_of_ble_eq_true rfl)) dX1_next_7 ⟨Nat.zero_le _, Nat.zero_le _⟩) ?_
  refine sd_bz_eq (tgt := 25) hx hb dX1_next_10 (by decide) (fun hc0 => ?_) (fun hc0 => ?_)
  · have hc0 : sd_rg x1 0 2 = false := hc0
    refine lv_iconst (v := (nI 1)) hx hb dX1_next_25 (by decide +kernel) ?_
    refine lv_goto (tgt := 30) hx hb dX1_next_26 (by decide) ?_
    refine lv_iconst (v := (nI 1)) hx hb dX1_next_30 (by decide +kernel) ?_
    refine sd_wi (va_runV (As := [.int (nI 1), .int (nI 1)]) (rest := []) ⟨hx, hb, hml, hown, hts0⟩ (m_fails1 l dC dI cL cZ h1 a1 a2 a3 a4 0 n w sh ke go H.size rfl 1 (by decide) (by decide)) (cwV 2 hts0 (sd_gV k_methodLink_X1_38 k_instanceMethod_X1_fails k_sel_X1_fails k_init_ShareDeskModel k_code_X1_fails) rfl rfl rfl (by decide +kernel) ⟨Nat.le_of_ble_eq_true rfl, Nat.le_of_ble_eq_true rfl⟩) (sd_preVw hK hP hD (q0 := 0) (ci := 1) rfl rfl) rfl rfl hl.1 rfl (lv_room (Nat.le_of_ble_eq_true rfl)) dX1_next_31 ⟨Nat.zero_le _, Nat.zero_le _⟩) hD hS hA (fun r_ u_ H locs hpo hP hD hS => ?_)
    obtain ⟨sh, ke, go⟩ := u_
    try dsimp only at hpo
    have hP : va_P (dC, dI) vwCl [(h1, .inr (1, [.int (nI 1), .int (nI n), .ref a1, .ref a2, .ref a3, .ref a4])), (a1, .inl (cL, 8, .inr (.inl (fun z => lN (w z))))), (a2, .inl (cL, 8, .inr (.inl sh))), (a3, .inl (cL, 8, .inr (.inl ke))), (a4, .inl (cZ, 8, .inl go))] H := hP
    have hD : va_D A [(h1, .inr (1, [.int (nI 1), .int (nI n), .ref a1, .ref a2, .ref a3, .ref a4])), (a1, .inl (cL, 8, .inr (.inl (fun z => lN (w z))))), (a2, .inl (cL, 8, .inr (.inl sh))), (a3, .inl (cL, 8, .inr (.inl ke))), (a4, .inl (cZ, 8, .inl go))] := hD
    subst hpo
    refine sd_iz_ne (a := 1) (tgt := 59) hx hb dX1_next_34 (by decide) (by omega) (fun h => ?_) (fun h => ?_)
    · refine lv_iconst (v := (nI 0)) hx hb dX1_next_59 (by decide +kernel) ?_
      exact W.iret hx hb hr (fun t ht hW => ⟨⟨_, (sh, ke, go), rfl, rfl, by rw [ht]; exact hP, va_K.moved hW.alike hK, by rw [← hAe]; exact hD⟩, by rw [← hAe]; exact hS.F ht⟩) (fun q hq => by rw [← hAe]; exact hS.2.2 q hq) dX1_next_60
    · exact absurd h (by omega)
  · have hc0 : sd_rg x1 0 2 = true := hc0
    refine lv_iload_n hx hb dX1_next_13 rfl (lv_at hl 2 rfl) ?_
    refine lv_i2l (v := x2.toInt64) hx hb dX1_next_14 rfl ?_
    refine lv_lconst (v := lN 0) hx hb dX1_next_15 rfl ?_
    refine lv_ldc2 (v := 9999) hx hb hown (hts (.constantLong RX1 68 9999) k_constantLong_X1_68) dX1_next_16 ?_
    refine sd_topl (y := lN 9999) (by decide +kernel) ?_
    refine sd_calli (va_runS (As := [.long (x2.toInt64), .long (lN 0), .long (lN 9999)]) (rest := [.ref h1]) ⟨hx, hb, hml, hown, hts0⟩ (m_in l dC dI x2.toInt64 (lN 0) (lN 9999)) (cwS 3 hts0 (sd_gS k_methodLink_X1_30 k_static_X1_in k_init_ShareDeskModel k_code_X1_in) rfl rfl rfl (by decide +kernel) ⟨Nat.le_of_ble_eq_true rfl, Nat.le_of_ble_eq_true rfl⟩) (sd_preS (sd_K0 hK) (sd_nil _ _ _)) rfl rfl hl.1 rfl (lv_room (Nat.le_of_ble_eq_true rfl)) dX1_next_19 ⟨Nat.zero_le _, Nat.zero_le _⟩) ?_
    refine sd_bz_ne (tgt := 29) hx hb dX1_next_22 (by decide) (fun hc1 => ?_) (fun hc1 => ?_)
    · have hc1 : sd_rg x2 0 9999 = true := hc1
      exact absurd hbad (by simp [hc0, hc1])
    · have hc1 : sd_rg x2 0 9999 = false := hc1
      refine lv_iconst (v := (nI 1)) hx hb dX1_next_25 (by decide +kernel) ?_
      refine lv_goto (tgt := 30) hx hb dX1_next_26 (by decide) ?_
      refine lv_iconst (v := (nI 1)) hx hb dX1_next_30 (by decide +kernel) ?_
      refine sd_wi (va_runV (As := [.int (nI 1), .int (nI 1)]) (rest := []) ⟨hx, hb, hml, hown, hts0⟩ (m_fails1 l dC dI cL cZ h1 a1 a2 a3 a4 0 n w sh ke go H.size rfl 1 (by decide) (by decide)) (cwV 2 hts0 (sd_gV k_methodLink_X1_38 k_instanceMethod_X1_fails k_sel_X1_fails k_init_ShareDeskModel k_code_X1_fails) rfl rfl rfl (by decide +kernel) ⟨Nat.le_of_ble_eq_true rfl, Nat.le_of_ble_eq_true rfl⟩) (sd_preVw hK hP hD (q0 := 0) (ci := 1) rfl rfl) rfl rfl hl.1 rfl (lv_room (Nat.le_of_ble_eq_true rfl)) dX1_next_31 ⟨Nat.zero_le _, Nat.zero_le _⟩) hD hS hA (fun r_ u_ H locs hpo hP hD hS => ?_)
      obtain ⟨sh, ke, go⟩ := u_
      try dsimp only at hpo
      have hP : va_P (dC, dI) vwCl [(h1, .inr (1, [.int (nI 1), .int (nI n), .ref a1, .ref a2, .ref a3, .ref a4])), (a1, .inl (cL, 8, .inr (.inl (fun z => lN (w z))))), (a2, .inl (cL, 8, .inr (.inl sh))), (a3, .inl (cL, 8, .inr (.inl ke))), (a4, .inl (cZ, 8, .inl go))] H := hP
      have hD : va_D A [(h1, .inr (1, [.int (nI 1), .int (nI n), .ref a1, .ref a2, .ref a3, .ref a4])), (a1, .inl (cL, 8, .inr (.inl (fun z => lN (w z))))), (a2, .inl (cL, 8, .inr (.inl sh))), (a3, .inl (cL, 8, .inr (.inl ke))), (a4, .inl (cZ, 8, .inl go))] := hD
      subst hpo
      refine sd_iz_ne (a := 1) (tgt := 59) hx hb dX1_next_34 (by decide) (by omega) (fun h => ?_) (fun h => ?_)
      · refine lv_iconst (v := (nI 0)) hx hb dX1_next_59 (by decide +kernel) ?_
        exact W.iret hx hb hr (fun t ht hW => ⟨⟨_, (sh, ke, go), rfl, rfl, by rw [ht]; exact hP, va_K.moved hW.alike hK, by rw [← hAe]; exact hD⟩, by rw [← hAe]; exact hS.F ht⟩) (fun q hq => by rw [← hAe]; exact hS.2.2 q hq) dX1_next_60
      · exact absurd h (by omega)
set_option maxHeartbeats 4000000 in
set_option maxRecDepth 100000 in
theorem m_next_zero (l : Launch) (dC : Nat → ClassId) (dI : Nat → Nat → Nat) (cL cZ : ClassId) (h1 a1 a2 a3 a4 er n : Nat) (w : Nat → Nat) (sh ke : Nat → Int64) (go : Nat → Int32) (sz : Nat) (hn1 : 1 ≤ n) (hn8 : n ≤ 8) (y u : Nat) (hy : y ≤ 2) (hu : u ≤ 9999) (hz : sd_sum w n = 0) : Met l yX1_next (sd_ws yX1_next cX1_next 5 (some .int)) (sd_rm 3 0 0) (sd_Pw (dC, dI) vwCl [(cL, .long), (cZ, .boolean)] (sd_M cL cZ h1 a1 a2 a3 a4 er n w sh ke go) sz [.ref h1, .int (nI y), .int (nI u)]) (va_Qi (fun r (v_ : sd_S) => r = nI 0) (sd_Bw (dC, dI) vwCl [(cL, .long), (cZ, .boolean)] (sd_M cL cZ h1 a1 a2 a3 a4 er n w sh ke go) sz (fun v_ => (sd_M cL cZ h1 a1 a2 a3 a4 2 n w v_.1 v_.2.1 v_.2.2))) (va_A (sd_M cL cZ h1 a1 a2 a3 a4 er n w sh ke go) sz)) 0 0 (va_A (sd_M cL cZ h1 a1 a2 a3 a4 er n w sh ke go) sz) := by
  refine Met.ofW (cc := cX1_next) (maxL := 5) (ret := (some .int)) (by decide) rfl ?_
  intro p e s m args below meth c s₁ B hml hv
  obtain ⟨rfl, hsz, hP, hK, hD0⟩ := hv
  subst hsz
  have hx := B.exec
  have hb := B.bytes
  have hr := B.returns
  have hts0 := atoms_spec (ws := (sd_ws yX1_next cX1_next 5 (some .int))) B.pre
  have hts : ∀ w ∈ sd_WS, w.before _ s = true := fun w h => hts0 w (List.mem_cons_of_mem _ h)
  have hown : s.vm.findClass RX1 = some m.cls := findClass_of_methodNamed B.named
  have hlocks := B.notSynchronized
  have hl := lv_entry ([.ref h1, .int (nI y), .int (nI u)]) (n := 5) (Nat.le_of_ble_eq_true rfl)
  rw [lg_entry_eq]
  generalize (lg_sl ([.ref h1, .int (nI y), .int (nI u)]) ++ List.replicate (5 - (lg_sl ([.ref h1, .int (nI y), .int (nI u)])).length) Slot.unset).toArray = ls at hl ⊢
  have hl : lv_has ls 5 [(0, .ref h1), (1, .int (nI y)), (2, .int (nI u))] := hl
  obtain ⟨A, hAe⟩ : ∃ A, A = va_A (sd_M cL cZ h1 a1 a2 a3 a4 er n w sh ke go) s.heap.size := ⟨_, rfl⟩
  have hD : va_D A (sd_M cL cZ h1 a1 a2 a3 a4 er n w sh ke go) := by rw [hAe]; exact hD0.self
  have hA : ∀ q : Nat, s.heap.size ≤ q → A q := fun q h => by rw [hAe]; exact Or.inr h
  have hS : va_S A s.heap s.heap [] := va_S.rf
  have hP : va_P (dC, dI) vwCl [(h1, .inr (1, [.int (nI er), .int (nI n), .ref a1, .ref a2, .ref a3, .ref a4])), (a1, .inl (cL, 8, .inr (.inl (fun z => lN (w z))))), (a2, .inl (cL, 8, .inr (.inl sh))), (a3, .inl (cL, 8, .inr (.inl ke))), (a4, .inl (cZ, 8, .inl go))] s.heap := hP
  have hD : va_D A [(h1, .inr (1, [.int (nI er), .int (nI n), .ref a1, .ref a2, .ref a3, .ref a4])), (a1, .inl (cL, 8, .inr (.inl (fun z => lN (w z))))), (a2, .inl (cL, 8, .inr (.inl sh))), (a3, .inl (cL, 8, .inr (.inl ke))), (a4, .inl (cZ, 8, .inl go))] := hD
  refine lv_aload_n hx hb dX1_next_0 rfl (lv_at hl 0 rfl) ?_
  refine lv_iconst (v := (nI 0)) hx hb dX1_next_1 (by decide +kernel) ?_
  refine va_put (D := (dC, dI)) (ci := 1) (v := .int (nI 0)) (ty := .int) (C := RX1) (T := TX1) (N := 6) hx hb hts u_in_X1 tyX1 tyX1_ok nmX1 hown hK hP hD hS 0 rfl rfl 0 (by decide) (hts (.fieldLink RX1 27 "ShareDeskModel" "err" "I") k_fieldLink_X1_27) (fun _ h9 => h9) rfl (by decide +kernel) rfl rfl (Nat.le_of_ble_eq_true rfl) dX1_next_2 (fun H locs hP hD hS => ?_)
  have hP : va_P (dC, dI) vwCl [(h1, .inr (1, [.int (nI 0), .int (nI n), .ref a1, .ref a2, .ref a3, .ref a4])), (a1, .inl (cL, 8, .inr (.inl (fun z => lN (w z))))), (a2, .inl (cL, 8, .inr (.inl sh))), (a3, .inl (cL, 8, .inr (.inl ke))), (a4, .inl (cZ, 8, .inl go))] H := hP
  have hD : va_D A [(h1, .inr (1, [.int (nI 0), .int (nI n), .ref a1, .ref a2, .ref a3, .ref a4])), (a1, .inl (cL, 8, .inr (.inl (fun z => lN (w z))))), (a2, .inl (cL, 8, .inr (.inl sh))), (a3, .inl (cL, 8, .inr (.inl ke))), (a4, .inl (cZ, 8, .inl go))] := hD
  refine lv_aload_n hx hb dX1_next_5 rfl (lv_at hl 0 rfl) ?_
  refine lv_iload_n hx hb dX1_next_6 rfl (lv_at hl 1 rfl) ?_
  refine sd_calli (va_runS (As := [.int (nI y)]) (rest := [.ref h1]) ⟨hx, hb, hml, hown, hts0⟩ (m_isWay l dC dI (nI y)) (cwS 1 hts0 (sd_gS k_methodLink_X1_59 k_static_X1_isWay k_init_ShareDeskModel k_code_X1_isWay) rfl rfl rfl (by decide +kernel) ⟨Nat.le_of_ble_eq_true rfl, Nat.le_of_ble_eq_true rfl⟩) (sd_preS (sd_K0 hK) (sd_nil _ _ _)) rfl rfl hl.1 rfl (lv_room (Nat.le_of_ble_eq_true rfl)) dX1_next_7 ⟨Nat.zero_le _, Nat.zero_le _⟩) ?_
  refine sd_bz_eq (tgt := 25) hx hb dX1_next_10 (by decide) (fun hc0 => ?_) (fun hc0 => ?_)
  · have hc0 : sd_rg (nI y) 0 2 = false := hc0
    exact absurd hc0 (by rw [sd_rg_nI (by omega) (by omega) (by omega) (by omega)]; decide)
  · have hc0 : sd_rg (nI y) 0 2 = true := hc0
    refine lv_iload_n hx hb dX1_next_13 rfl (lv_at hl 2 rfl) ?_
    refine lv_i2l (v := (nI u).toInt64) hx hb dX1_next_14 rfl ?_
    refine lv_lconst (v := lN 0) hx hb dX1_next_15 rfl ?_
    refine lv_ldc2 (v := 9999) hx hb hown (hts (.constantLong RX1 68 9999) k_constantLong_X1_68) dX1_next_16 ?_
    refine sd_topl (y := lN 9999) (by decide +kernel) ?_
    refine sd_calli (va_runS (As := [.long ((nI u).toInt64), .long (lN 0), .long (lN 9999)]) (rest := [.ref h1]) ⟨hx, hb, hml, hown, hts0⟩ (m_in l dC dI (nI u).toInt64 (lN 0) (lN 9999)) (cwS 3 hts0 (sd_gS k_methodLink_X1_30 k_static_X1_in k_init_ShareDeskModel k_code_X1_in) rfl rfl rfl (by decide +kernel) ⟨Nat.le_of_ble_eq_true rfl, Nat.le_of_ble_eq_true rfl⟩) (sd_preS (sd_K0 hK) (sd_nil _ _ _)) rfl rfl hl.1 rfl (lv_room (Nat.le_of_ble_eq_true rfl)) dX1_next_19 ⟨Nat.zero_le _, Nat.zero_le _⟩) ?_
    refine sd_bz_ne (tgt := 29) hx hb dX1_next_22 (by decide) (fun hc1 => ?_) (fun hc1 => ?_)
    · have hc1 : sd_rg (nI u) 0 9999 = true := hc1
      refine lv_iconst (v := (nI 0)) hx hb dX1_next_29 (by decide +kernel) ?_
      refine lv_iconst (v := (nI 1)) hx hb dX1_next_30 (by decide +kernel) ?_
      refine sd_calli (va_runV (As := [.int (nI 0), .int (nI 1)]) (rest := []) ⟨hx, hb, hml, hown, hts0⟩ (m_fails0 l dC dI cL cZ h1 a1 a2 a3 a4 0 n w sh ke go rfl 1) (cwV 2 hts0 (sd_gV k_methodLink_X1_38 k_instanceMethod_X1_fails k_sel_X1_fails k_init_ShareDeskModel k_code_X1_fails) rfl rfl rfl (by decide +kernel) ⟨Nat.le_of_ble_eq_true rfl, Nat.le_of_ble_eq_true rfl⟩) (sd_preV hK hP (q0 := 0) (ci := 1) rfl rfl) rfl rfl hl.1 rfl (lv_room (Nat.le_of_ble_eq_true rfl)) dX1_next_31 ⟨Nat.zero_le _, Nat.zero_le _⟩) ?_
      refine sd_iz_ne (a := 0) (tgt := 59) hx hb dX1_next_34 (by decide) (by omega) (fun h => ?_) (fun h => ?_)
      · exact absurd h (by omega)
      · refine lv_aload_n hx hb dX1_next_37 rfl (lv_at hl 0 rfl) ?_
        refine lv_aload_n hx hb dX1_next_38 rfl (lv_at hl 0 rfl) ?_
        refine sd_calll (va_runV (As := []) (rest := [.ref h1]) ⟨hx, hb, hml, hown, hts0⟩ (m_all l dC dI cL cZ h1 a1 a2 a3 a4 0 n w sh ke go hn8) (cwV 0 hts0 (sd_gV k_methodLink_X1_48 k_instanceMethod_X1_all k_sel_X1_all k_init_ShareDeskModel k_code_X1_all) rfl rfl rfl (by decide +kernel) ⟨Nat.le_of_ble_eq_true rfl, Nat.le_of_ble_eq_true rfl⟩) (sd_preV hK hP (q0 := 0) (ci := 1) rfl rfl) rfl rfl hl.1 rfl (lv_room (Nat.le_of_ble_eq_true rfl)) dX1_next_39 ⟨Nat.zero_le _, Nat.zero_le _⟩) ?_
        refine lv_lconst (v := lN 0) hx hb dX1_next_42 rfl ?_
        refine sd_lc_ne (a := sd_sum w n) (b := 0) (tgt := 51) hx hb dX1_next_43 dX1_next_44 (by decide) (by omega) (by omega) (fun h => ?_) (fun h => ?_)
        · exact absurd hz h
        · refine lv_iconst (v := (nI 1)) hx hb dX1_next_47 (by decide +kernel) ?_
          refine lv_goto (tgt := 52) hx hb dX1_next_48 (by decide) ?_
          refine lv_iconst (v := (nI 2)) hx hb dX1_next_52 (by decide +kernel) ?_
          refine sd_wi (va_runV (As := [.int (nI 1), .int (nI 2)]) (rest := []) ⟨hx, hb, hml, hown, hts0⟩ (m_fails1 l dC dI cL cZ h1 a1 a2 a3 a4 0 n w sh ke go H.size rfl 2 (by decide) (by decide)) (cwV 2 hts0 (sd_gV k_methodLink_X1_38 k_instanceMethod_X1_fails k_sel_X1_fails k_init_ShareDeskModel k_code_X1_fails) rfl rfl rfl (by decide +kernel) ⟨Nat.le_of_ble_eq_true rfl, Nat.le_of_ble_eq_true rfl⟩) (sd_preVw hK hP hD (q0 := 0) (ci := 1) rfl rfl) rfl rfl hl.1 rfl (lv_room (Nat.le_of_ble_eq_true rfl)) dX1_next_53 ⟨Nat.zero_le _, Nat.zero_le _⟩) hD hS hA (fun r_ u_ H locs hpo hP hD hS => ?_)
          obtain ⟨sh, ke, go⟩ := u_
          try dsimp only at hpo
          have hP : va_P (dC, dI) vwCl [(h1, .inr (1, [.int (nI 2), .int (nI n), .ref a1, .ref a2, .ref a3, .ref a4])), (a1, .inl (cL, 8, .inr (.inl (fun z => lN (w z))))), (a2, .inl (cL, 8, .inr (.inl sh))), (a3, .inl (cL, 8, .inr (.inl ke))), (a4, .inl (cZ, 8, .inl go))] H := hP
          have hD : va_D A [(h1, .inr (1, [.int (nI 2), .int (nI n), .ref a1, .ref a2, .ref a3, .ref a4])), (a1, .inl (cL, 8, .inr (.inl (fun z => lN (w z))))), (a2, .inl (cL, 8, .inr (.inl sh))), (a3, .inl (cL, 8, .inr (.inl ke))), (a4, .inl (cZ, 8, .inl go))] := hD
          subst hpo
          refine sd_iz_eq (a := 1) (tgt := 61) hx hb dX1_next_56 (by decide) (by omega) (fun h => ?_) (fun h => ?_)
          · exact absurd h (by omega)
          · refine lv_iconst (v := (nI 0)) hx hb dX1_next_59 (by decide +kernel) ?_
            exact W.iret hx hb hr (fun t ht hW => ⟨⟨_, (sh, ke, go), rfl, rfl, by rw [ht]; exact hP, va_K.moved hW.alike hK, by rw [← hAe]; exact hD⟩, by rw [← hAe]; exact hS.F ht⟩) (fun q hq => by rw [← hAe]; exact hS.2.2 q hq) dX1_next_60
    · have hc1 : sd_rg (nI u) 0 9999 = false := hc1
      exact absurd hc1 (by rw [sd_rg_nI (by omega) (by omega) (by omega) (by omega)]; decide)
set_option maxHeartbeats 4000000 in
set_option maxRecDepth 100000 in
theorem m_next (l : Launch) (dC : Nat → ClassId) (dI : Nat → Nat → Nat) (cL cZ : ClassId) (h1 a1 a2 a3 a4 er n : Nat) (w : Nat → Nat) (sh ke : Nat → Int64) (go : Nat → Int32) (sz : Nat) (ok : sd_ok n w) (hW : 0 < sd_sum w n) (y u : Nat) (hy : y ≤ 2) (hu : u ≤ 9999) : Met l yX1_next (sd_ws yX1_next cX1_next 5 (some .int)) (sd_rm 3 0 0) (sd_Pw (dC, dI) vwCl [(cL, .long), (cZ, .boolean)] (sd_M cL cZ h1 a1 a2 a3 a4 er n w sh ke go) sz [.ref h1, .int (nI y), .int (nI u)]) (va_Qi (fun r (v_ : sd_S) => r = sd_oi (sd_na (sd_nc (sd_U y w n u) (sd_U y w n (u + 1)) n))) (sd_Bw (dC, dI) vwCl [(cL, .long), (cZ, .boolean)] (sd_M cL cZ h1 a1 a2 a3 a4 er n w sh ke go) sz (fun v_ => (sd_M cL cZ h1 a1 a2 a3 a4 0 n w v_.1 v_.2.1 v_.2.2))) (va_A (sd_M cL cZ h1 a1 a2 a3 a4 er n w sh ke go) sz)) 0 0 (va_A (sd_M cL cZ h1 a1 a2 a3 a4 er n w sh ke go) sz) := by
  refine Met.ofW (cc := cX1_next) (maxL := 5) (ret := (some .int)) (by decide) rfl ?_
  intro p e s m args below meth c s₁ B hml hv
  obtain ⟨rfl, hsz, hP, hK, hD0⟩ := hv
  subst hsz
  have hx := B.exec
  have hb := B.bytes
  have hr := B.returns
  have hts0 := atoms_spec (ws := (sd_ws yX1_next cX1_next 5 (some .int))) B.pre
  have hts : ∀ w ∈ sd_WS, w.before _ s = true := fun w h => hts0 w (List.mem_cons_of_mem _ h)
  have hown : s.vm.findClass RX1 = some m.cls := findClass_of_methodNamed B.named
  have hlocks := B.notSynchronized
  have hl := lv_entry ([.ref h1, .int (nI y), .int (nI u)]) (n := 5) (Nat.le_of_ble_eq_true rfl)
  rw [lg_entry_eq]
  generalize (lg_sl ([.ref h1, .int (nI y), .int (nI u)]) ++ List.replicate (5 - (lg_sl ([.ref h1, .int (nI y), .int (nI u)])).length) Slot.unset).toArray = ls at hl ⊢
  have hl : lv_has ls 5 [(0, .ref h1), (1, .int (nI y)), (2, .int (nI u))] := hl
  obtain ⟨A, hAe⟩ : ∃ A, A = va_A (sd_M cL cZ h1 a1 a2 a3 a4 er n w sh ke go) s.heap.size := ⟨_, rfl⟩
  have hD : va_D A (sd_M cL cZ h1 a1 a2 a3 a4 er n w sh ke go) := by rw [hAe]; exact hD0.self
  have hA : ∀ q : Nat, s.heap.size ≤ q → A q := fun q h => by rw [hAe]; exact Or.inr h
  have hS : va_S A s.heap s.heap [] := va_S.rf
  have hP : va_P (dC, dI) vwCl [(h1, .inr (1, [.int (nI er), .int (nI n), .ref a1, .ref a2, .ref a3, .ref a4])), (a1, .inl (cL, 8, .inr (.inl (fun z => lN (w z))))), (a2, .inl (cL, 8, .inr (.inl sh))), (a3, .inl (cL, 8, .inr (.inl ke))), (a4, .inl (cZ, 8, .inl go))] s.heap := hP
  have hD : va_D A [(h1, .inr (1, [.int (nI er), .int (nI n), .ref a1, .ref a2, .ref a3, .ref a4])), (a1, .inl (cL, 8, .inr (.inl (fun z => lN (w z))))), (a2, .inl (cL, 8, .inr (.inl sh))), (a3, .inl (cL, 8, .inr (.inl ke))), (a4, .inl (cZ, 8, .inl go))] := hD
  have hn1 := ok.1
  have hn8 := ok.2.1
  have hWl := sd_W_le ok.2.2.1 ok.2.1
  refine lv_aload_n hx hb dX1_next_0 rfl (lv_at hl 0 rfl) ?_
  refine lv_iconst (v := (nI 0)) hx hb dX1_next_1 (by decide +kernel) ?_
  refine va_put (D := (dC, dI)) (ci := 1) (v := .int (nI 0)) (ty := .int) (C := RX1) (T := TX1) (N := 6) hx hb hts u_in_X1 tyX1 tyX1_ok nmX1 hown hK hP hD hS 0 rfl rfl 0 (by decide) (hts (.fieldLink RX1 27 "ShareDeskModel" "err" "I") k_fieldLink_X1_27) (fun _ h9 => h9) rfl (by decide +kernel) rfl rfl (Nat.le_of_ble_eq_true rfl) dX1_next_2 (fun H locs hP hD hS => ?_)
  have hP : va_P (dC, dI) vwCl [(h1, .inr (1, [.int (nI 0), .int (nI n), .ref a1, .ref a2, .ref a3, .ref a4])), (a1, .inl (cL, 8, .inr (.inl (fun z => lN (w z))))), (a2, .inl (cL, 8, .inr (.inl sh))), (a3, .inl (cL, 8, .inr (.inl ke))), (a4, .inl (cZ, 8, .inl go))] H := hP
  have hD : va_D A [(h1, .inr (1, [.int (nI 0), .int (nI n), .ref a1, .ref a2, .ref a3, .ref a4])), (a1, .inl (cL, 8, .inr (.inl (fun z => lN (w z))))), (a2, .inl (cL, 8, .inr (.inl sh))), (a3, .inl (cL, 8, .inr (.inl ke))), (a4, .inl (cZ, 8, .inl go))] := hD
  refine lv_aload_n hx hb dX1_next_5 rfl (lv_at hl 0 rfl) ?_
  refine lv_iload_n hx hb dX1_next_6 rfl (lv_at hl 1 rfl) ?_
  refine sd_calli (va_runS (As := [.int (nI y)]) (rest := [.ref h1]) ⟨hx, hb, hml, hown, hts0⟩ (m_isWay l dC dI (nI y)) (cwS 1 hts0 (sd_gS k_methodLink_X1_59 k_static_X1_isWay k_init_ShareDeskModel k_code_X1_isWay) rfl rfl rfl (by decide +kernel) ⟨Nat.le_of_ble_eq_true rfl, Nat.le_of_ble_eq_true rfl⟩) (sd_preS (sd_K0 hK) (sd_nil _ _ _)) rfl rfl hl.1 rfl (lv_room (Nat.le_of_ble_eq_true rfl)) dX1_next_7 ⟨Nat.zero_le _, Nat.zero_le _⟩) ?_
  refine sd_bz_eq (tgt := 25) hx hb dX1_next_10 (by decide) (fun hc0 => ?_) (fun hc0 => ?_)
  · have hc0 : sd_rg (nI y) 0 2 = false := hc0
    exact absurd hc0 (by rw [sd_rg_nI (by omega) (by omega) (by omega) (by omega)]; decide)
  · have hc0 : sd_rg (nI y) 0 2 = true := hc0
    refine lv_iload_n hx hb dX1_next_13 rfl (lv_at hl 2 rfl) ?_
    refine lv_i2l (v := (nI u).toInt64) hx hb dX1_next_14 rfl ?_
    refine lv_lconst (v := lN 0) hx hb dX1_next_15 rfl ?_
    refine lv_ldc2 (v := 9999) hx hb hown (hts (.constantLong RX1 68 9999) k_constantLong_X1_68) dX1_next_16 ?_
    refine sd_topl (y := lN 9999) (by decide +kernel) ?_
    refine sd_calli (va_runS (As := [.long ((nI u).toInt64), .long (lN 0), .long (lN 9999)]) (rest := [.ref h1]) ⟨hx, hb, hml, hown, hts0⟩ (m_in l dC dI (nI u).toInt64 (lN 0) (lN 9999)) (cwS 3 hts0 (sd_gS k_methodLink_X1_30 k_static_X1_in k_init_ShareDeskModel k_code_X1_in) rfl rfl rfl (by decide +kernel) ⟨Nat.le_of_ble_eq_true rfl, Nat.le_of_ble_eq_true rfl⟩) (sd_preS (sd_K0 hK) (sd_nil _ _ _)) rfl rfl hl.1 rfl (lv_room (Nat.le_of_ble_eq_true rfl)) dX1_next_19 ⟨Nat.zero_le _, Nat.zero_le _⟩) ?_
    refine sd_bz_ne (tgt := 29) hx hb dX1_next_22 (by decide) (fun hc1 => ?_) (fun hc1 => ?_)
    · have hc1 : sd_rg (nI u) 0 9999 = true := hc1
      refine lv_iconst (v := (nI 0)) hx hb dX1_next_29 (by decide +kernel) ?_
      refine lv_iconst (v := (nI 1)) hx hb dX1_next_30 (by decide +kernel) ?_
      refine sd_calli (va_runV (As := [.int (nI 0), .int (nI 1)]) (rest := []) ⟨hx, hb, hml, hown, hts0⟩ (m_fails0 l dC dI cL cZ h1 a1 a2 a3 a4 0 n w sh ke go rfl 1) (cwV 2 hts0 (sd_gV k_methodLink_X1_38 k_instanceMethod_X1_fails k_sel_X1_fails k_init_ShareDeskModel k_code_X1_fails) rfl rfl rfl (by decide +kernel) ⟨Nat.le_of_ble_eq_true rfl, Nat.le_of_ble_eq_true rfl⟩) (sd_preV hK hP (q0 := 0) (ci := 1) rfl rfl) rfl rfl hl.1 rfl (lv_room (Nat.le_of_ble_eq_true rfl)) dX1_next_31 ⟨Nat.zero_le _, Nat.zero_le _⟩) ?_
      refine sd_iz_ne (a := 0) (tgt := 59) hx hb dX1_next_34 (by decide) (by omega) (fun h => ?_) (fun h => ?_)
      · exact absurd h (by omega)
      · refine lv_aload_n hx hb dX1_next_37 rfl (lv_at hl 0 rfl) ?_
        refine lv_aload_n hx hb dX1_next_38 rfl (lv_at hl 0 rfl) ?_
        refine sd_calll (va_runV (As := []) (rest := [.ref h1]) ⟨hx, hb, hml, hown, hts0⟩ (m_all l dC dI cL cZ h1 a1 a2 a3 a4 0 n w sh ke go hn8) (cwV 0 hts0 (sd_gV k_methodLink_X1_48 k_instanceMethod_X1_all k_sel_X1_all k_init_ShareDeskModel k_code_X1_all) rfl rfl rfl (by decide +kernel) ⟨Nat.le_of_ble_eq_true rfl, Nat.le_of_ble_eq_true rfl⟩) (sd_preV hK hP (q0 := 0) (ci := 1) rfl rfl) rfl rfl hl.1 rfl (lv_room (Nat.le_of_ble_eq_true rfl)) dX1_next_39 ⟨Nat.zero_le _, Nat.zero_le _⟩) ?_
        refine lv_lconst (v := lN 0) hx hb dX1_next_42 rfl ?_
        refine sd_lc_ne (a := sd_sum w n) (b := 0) (tgt := 51) hx hb dX1_next_43 dX1_next_44 (by decide) (by omega) (by omega) (fun h => ?_) (fun h => ?_)
        · refine lv_iconst (v := (nI 0)) hx hb dX1_next_51 (by decide +kernel) ?_
          refine lv_iconst (v := (nI 2)) hx hb dX1_next_52 (by decide +kernel) ?_
          refine sd_calli (va_runV (As := [.int (nI 0), .int (nI 2)]) (rest := []) ⟨hx, hb, hml, hown, hts0⟩ (m_fails0 l dC dI cL cZ h1 a1 a2 a3 a4 0 n w sh ke go rfl 2) (cwV 2 hts0 (sd_gV k_methodLink_X1_38 k_instanceMethod_X1_fails k_sel_X1_fails k_init_ShareDeskModel k_code_X1_fails) rfl rfl rfl (by decide +kernel) ⟨Nat.le_of_ble_eq_true rfl, Nat.le_of_ble_eq_true rfl⟩) (sd_preV hK hP (q0 := 0) (ci := 1) rfl rfl) rfl rfl hl.1 rfl (lv_room (Nat.le_of_ble_eq_true rfl)) dX1_next_53 ⟨Nat.zero_le _, Nat.zero_le _⟩) ?_
          refine sd_iz_eq (a := 0) (tgt := 61) hx hb dX1_next_56 (by decide) (by omega) (fun h => ?_) (fun h => ?_)
          · refine lv_aload_n hx hb dX1_next_61 rfl (lv_at hl 0 rfl) ?_
            refine lv_iload_n hx hb dX1_next_62 rfl (lv_at hl 1 rfl) ?_
            refine lv_iload_n hx hb dX1_next_63 rfl (lv_at hl 2 rfl) ?_
            refine sd_wv (va_runV (As := [.int (nI y), .int (nI u)]) (rest := []) ⟨hx, hb, hml, hown, hts0⟩ (m_give l dC dI cL cZ h1 a1 a2 a3 a4 0 n w sh ke go H.size ok hW y u hy (by omega)) (cwV 2 hts0 (sd_gV k_methodLink_X1_64 k_instanceMethod_X1_give k_sel_X1_give k_init_ShareDeskModel k_code_X1_give) rfl rfl rfl (by decide +kernel) ⟨Nat.le_of_ble_eq_true rfl, Nat.le_of_ble_eq_true rfl⟩) (sd_preVw hK hP hD (q0 := 0) (ci := 1) rfl rfl) rfl rfl hl.1 rfl (lv_room (Nat.le_of_ble_eq_true rfl)) dX1_next_64 ⟨Nat.zero_le _, Nat.zero_le _⟩) hD hS hA (fun u_ H locs hpo hP hD hS => ?_)
            obtain ⟨sh, ke1, go⟩ := u_
            try dsimp only at hpo
            have hP : va_P (dC, dI) vwCl [(h1, .inr (1, [.int (nI 0), .int (nI n), .ref a1, .ref a2, .ref a3, .ref a4])), (a1, .inl (cL, 8, .inr (.inl (fun z => lN (w z))))), (a2, .inl (cL, 8, .inr (.inl sh))), (a3, .inl (cL, 8, .inr (.inl ke1))), (a4, .inl (cZ, 8, .inl go))] H := hP
            have hD : va_D A [(h1, .inr (1, [.int (nI 0), .int (nI n), .ref a1, .ref a2, .ref a3, .ref a4])), (a1, .inl (cL, 8, .inr (.inl (fun z => lN (w z))))), (a2, .inl (cL, 8, .inr (.inl sh))), (a3, .inl (cL, 8, .inr (.inl ke1))), (a4, .inl (cZ, 8, .inl go))] := hD
            obtain ⟨hpo, hke⟩ := hpo
            rw [hke] at hP hD
            have hP : va_P (dC, dI) vwCl [(h1, .inr (1, [.int (nI 0), .int (nI n), .ref a1, .ref a2, .ref a3, .ref a4])), (a1, .inl (cL, 8, .inr (.inl (fun z => lN (w z))))), (a2, .inl (cL, 8, .inr (.inl sh))), (a3, .inl (cL, 8, .inr (.inl ke))), (a4, .inl (cZ, 8, .inl go))] H := hP
            have hD : va_D A [(h1, .inr (1, [.int (nI 0), .int (nI n), .ref a1, .ref a2, .ref a3, .ref a4])), (a1, .inl (cL, 8, .inr (.inl (fun z => lN (w z))))), (a2, .inl (cL, 8, .inr (.inl sh))), (a3, .inl (cL, 8, .inr (.inl ke))), (a4, .inl (cZ, 8, .inl go))] := hD
            refine lv_iconst (v := (nI 0)) hx hb dX1_next_67 (by decide +kernel) ?_
            refine lv_istore_n hx hb dX1_next_68 rfl hl (by decide) rfl (fun ls hl => ?_)
            have hl : lv_has ls 5 [(3, .int (nI 0)), (0, .ref h1), (1, .int (nI y)), (2, .int (nI u))] := hl
            have hl := lv_sub (l' := [(0, .ref h1), (1, .int (nI y)), (2, .int (nI u)), (3, .int (nI 0))]) hl [1, 2, 3, 0] rfl
            refine lp_mnext1 (er := 0) hx hb hml hts0 hown A s.heap hA hK sh go ok y u hpo (fun H locs ke ls hP hD hS hv hl => ?_) n 0 (by omega) H locs ke ls hP hD hS (fun j hj => absurd hj (Nat.not_lt_zero _)) hl
            refine lv_aload_n hx hb dX1_next_95 rfl (lv_at hl 0 rfl) ?_
            refine lv_iload_n hx hb dX1_next_96 rfl (lv_at hl 1 rfl) ?_
            refine lv_iload_n hx hb dX1_next_97 rfl (lv_at hl 2 rfl) ?_
            refine lv_iconst (v := (nI 1)) hx hb dX1_next_98 (by decide +kernel) ?_
            refine sd_iadd (v := nI (u + 1)) hx hb dX1_next_99 (nI_add _ _) ?_
            refine sd_wv (va_runV (As := [.int (nI y), .int (nI (u + 1))]) (rest := []) ⟨hx, hb, hml, hown, hts0⟩ (m_give l dC dI cL cZ h1 a1 a2 a3 a4 0 n w sh ke go H.size ok hW y (u + 1) hy (by omega)) (cwV 2 hts0 (sd_gV k_methodLink_X1_64 k_instanceMethod_X1_give k_sel_X1_give k_init_ShareDeskModel k_code_X1_give) rfl rfl rfl (by decide +kernel) ⟨Nat.le_of_ble_eq_true rfl, Nat.le_of_ble_eq_true rfl⟩) (sd_preVw hK hP hD (q0 := 0) (ci := 1) rfl rfl) rfl rfl hl.1 rfl (lv_room (Nat.le_of_ble_eq_true rfl)) dX1_next_100 ⟨Nat.zero_le _, Nat.zero_le _⟩) hD hS hA (fun u_ H locs hpp hP hD hS => ?_)
            obtain ⟨sh, ke1, go⟩ := u_
            try dsimp only at hpp
            have hP : va_P (dC, dI) vwCl [(h1, .inr (1, [.int (nI 0), .int (nI n), .ref a1, .ref a2, .ref a3, .ref a4])), (a1, .inl (cL, 8, .inr (.inl (fun z => lN (w z))))), (a2, .inl (cL, 8, .inr (.inl sh))), (a3, .inl (cL, 8, .inr (.inl ke1))), (a4, .inl (cZ, 8, .inl go))] H := hP
            have hD : va_D A [(h1, .inr (1, [.int (nI 0), .int (nI n), .ref a1, .ref a2, .ref a3, .ref a4])), (a1, .inl (cL, 8, .inr (.inl (fun z => lN (w z))))), (a2, .inl (cL, 8, .inr (.inl sh))), (a3, .inl (cL, 8, .inr (.inl ke1))), (a4, .inl (cZ, 8, .inl go))] := hD
            obtain ⟨hpp, hke⟩ := hpp
            rw [hke] at hP hD
            have hP : va_P (dC, dI) vwCl [(h1, .inr (1, [.int (nI 0), .int (nI n), .ref a1, .ref a2, .ref a3, .ref a4])), (a1, .inl (cL, 8, .inr (.inl (fun z => lN (w z))))), (a2, .inl (cL, 8, .inr (.inl sh))), (a3, .inl (cL, 8, .inr (.inl ke))), (a4, .inl (cZ, 8, .inl go))] H := hP
            have hD : va_D A [(h1, .inr (1, [.int (nI 0), .int (nI n), .ref a1, .ref a2, .ref a3, .ref a4])), (a1, .inl (cL, 8, .inr (.inl (fun z => lN (w z))))), (a2, .inl (cL, 8, .inr (.inl sh))), (a3, .inl (cL, 8, .inr (.inl ke))), (a4, .inl (cZ, 8, .inl go))] := hD
            refine lv_iconst (v := (-1)) hx hb dX1_next_103 (by decide +kernel) ?_
            refine lv_istore_n hx hb dX1_next_104 rfl hl (by decide) rfl (fun ls hl => ?_)
            have hl : lv_has ls 5 [(3, .int (-1)), (0, .ref h1), (1, .int (nI y)), (2, .int (nI u))] := hl
            refine lv_iconst (v := (nI 0)) hx hb dX1_next_105 (by decide +kernel) ?_
            refine lv_istore hx hb dX1_next_106 hl (by decide) rfl (fun ls hl => ?_)
            have hl : lv_has ls 5 [(4, .int (nI 0)), (3, .int (-1)), (0, .ref h1), (1, .int (nI y)), (2, .int (nI u))] := hl
            have hl := lv_sub (l' := [(0, .ref h1), (1, .int (nI y)), (2, .int (nI u)), (3, .int (-1)), (4, .int (nI 0))]) hl [2, 3, 4, 1, 0] rfl
            have hsm : sd_sum (sd_U y w n (u + 1)) n = sd_sum (sd_U y w n u) n + 1 := by rw [sd_U_sum hW, sd_U_sum hW]
            refine lp_mnext2 hx hb hml hts0 hown hK hP ok hW y u hu hpp hv (fun hz ls => ?_) (fun ls => ?_) n 0 none (by omega) rfl (fun k hk => nomatch hk) ls hl
            · refine sd_topi (y := sd_oi (sd_na (sd_nc (sd_U y w n u) (sd_U y w n (u + 1)) n))) (by rw [← sd_next_eq hsm, hz]; rfl) ?_
              exact W.iret hx hb hr (fun t ht hW => ⟨⟨_, (sh, ke, go), rfl, rfl, by rw [ht]; exact hP, va_K.moved hW.alike hK, by rw [← hAe]; exact hD⟩, by rw [← hAe]; exact hS.F ht⟩) (fun q hq => by rw [← hAe]; exact hS.2.2 q hq) dX1_next_163
            · refine sd_topi (y := sd_oi (sd_na (sd_nc (sd_U y w n u) (sd_U y w n (u + 1)) n))) (by rw [sd_next_eq hsm]) ?_
              exact W.iret hx hb hr (fun t ht hW => ⟨⟨_, (sh, ke, go), rfl, rfl, by rw [ht]; exact hP, va_K.moved hW.alike hK, by rw [← hAe]; exact hD⟩, by rw [← hAe]; exact hS.F ht⟩) (fun q hq => by rw [← hAe]; exact hS.2.2 q hq) dX1_next_174
          · exact absurd h (by omega)
        · exact absurd h (by omega)
    · have hc1 : sd_rg (nI u) 0 9999 = false := hc1
      exact absurd hc1 (by rw [sd_rg_nI (by omega) (by omega) (by omega) (by omega)]; decide)
set_option maxHeartbeats 4000000 in
set_option maxRecDepth 100000 in
theorem lp_mleast {p : Program} {l : Launch} {e : Env} {R : Room} {s : State} {m : MethodId} {args : Array Value} {below : List Frame} {meth : Method} {c : Code} {cells slots : Nat} {Q : State → Prop} (hx : p.tables.exec = Jvm.exec) (hb : c.code = cX1_least) (hml : c.maxLocals = 5) (hts0 : ∀ w ∈ (sd_ws yX1_least cX1_least 5 (some .int)), w.before args s = true) (hown : s.vm.findClass RX1 = some m.cls) {dC : Nat → ClassId} {dI : Nat → Nat → Nat} {cL cZ : ClassId} {h1 a1 a2 a3 a4 er n : Nat} {w : Nat → Nat} (A : Nat → Prop) (H0 : Heap) (hA : ∀ q, H0.size ≤ q → A q) (hK : va_K (dC, dI) vwCl [(cL, .long), (cZ, .boolean)] s)  (ok : sd_ok n w) (hW : 0 < sd_sum w n) (y k q : Nat) (hy : y ≤ 2) (hk : k < 2 ^ 31) (hq : q < n) (hR : (sd_rm 1 0 0).frames + 1 ≤ R.frames ∧ 8 + (8 + 11) + (sd_rm 1 0 0).locals ≤ R.locals) (hR0 : (sd_rm 0 0 0).frames + 1 ≤ R.frames ∧ 8 + (4 + 11) + (sd_rm 0 0 0).locals ≤ R.locals) (hf : cells + 0 ≤ R.cells ∧ slots + 0 ≤ R.slots)
    (kk1 : sd_lst (fun j => decide (k ≤ sd_U y w n j q)) 10001 = none → ∀ (H : Heap) (locs : List Loc) (sh ke : Nat → Int64) (go : Nat → Int32) (ls : Array Slot), va_P (dC, dI) vwCl [(h1, .inr (1, [.int (nI 0), .int (nI n), .ref a1, .ref a2, .ref a3, .ref a4])), (a1, .inl (cL, 8, .inr (.inl (fun z => lN (w z))))), (a2, .inl (cL, 8, .inr (.inl sh))), (a3, .inl (cL, 8, .inr (.inl ke))), (a4, .inl (cZ, 8, .inl go))] H → va_D A [(h1, .inr (1, [.int (nI 0), .int (nI n), .ref a1, .ref a2, .ref a3, .ref a4])), (a1, .inl (cL, 8, .inr (.inl (fun z => lN (w z))))), (a2, .inl (cL, 8, .inr (.inl sh))), (a3, .inl (cL, 8, .inr (.inl ke))), (a4, .inl (cZ, 8, .inl go))] → va_S A H0 H locs → W p l e R s m args below meth c H locs cells slots Q (F0 m 119 ls [.int (-1)]))
    (kk2 : ∀ i : Nat, i ≤ 10000 → sd_lst (fun j => decide (k ≤ sd_U y w n j q)) 10001 = some i → ∀ (H : Heap) (locs : List Loc) (sh ke : Nat → Int64) (go : Nat → Int32) (ls : Array Slot), va_P (dC, dI) vwCl [(h1, .inr (1, [.int (nI 0), .int (nI n), .ref a1, .ref a2, .ref a3, .ref a4])), (a1, .inl (cL, 8, .inr (.inl (fun z => lN (w z))))), (a2, .inl (cL, 8, .inr (.inl sh))), (a3, .inl (cL, 8, .inr (.inl ke))), (a4, .inl (cZ, 8, .inl go))] H → va_D A [(h1, .inr (1, [.int (nI 0), .int (nI n), .ref a1, .ref a2, .ref a3, .ref a4])), (a1, .inl (cL, 8, .inr (.inl (fun z => lN (w z))))), (a2, .inl (cL, 8, .inr (.inl sh))), (a3, .inl (cL, 8, .inr (.inl ke))), (a4, .inl (cZ, 8, .inl go))] → va_S A H0 H locs → W p l e R s m args below meth c H locs cells slots Q (F0 m 102 ls [.int (nI i)]))
    : ∀ (f i : Nat), i + f = 10001 → ∀ (H : Heap) (locs : List Loc) (sh ke : Nat → Int64) (go : Nat → Int32) (ls : Array Slot), va_P (dC, dI) vwCl [(h1, .inr (1, [.int (nI 0), .int (nI n), .ref a1, .ref a2, .ref a3, .ref a4])), (a1, .inl (cL, 8, .inr (.inl (fun z => lN (w z))))), (a2, .inl (cL, 8, .inr (.inl sh))), (a3, .inl (cL, 8, .inr (.inl ke))), (a4, .inl (cZ, 8, .inl go))] H → va_D A [(h1, .inr (1, [.int (nI 0), .int (nI n), .ref a1, .ref a2, .ref a3, .ref a4])), (a1, .inl (cL, 8, .inr (.inl (fun z => lN (w z))))), (a2, .inl (cL, 8, .inr (.inl sh))), (a3, .inl (cL, 8, .inr (.inl ke))), (a4, .inl (cZ, 8, .inl go))] → va_S A H0 H locs → ((0 < y → ∀ j, j < n → sh j = lN (sd_G y w n i j)) ∧ ∀ j, j < i → sd_U y w n j q < k) → lv_has ls 5 [(0, .ref h1), (1, .int (nI y)), (2, .int (nI k)), (3, .int (nI q)), (4, .int (nI i))] → W p l e R s m args below meth c H locs cells slots Q (F0 m 70 ls []) := by
  have hts : ∀ w ∈ sd_WS, w.before args s = true := fun w h => hts0 w (List.mem_cons_of_mem _ h)
  have hn8 := ok.2.1
  intro f
  induction f using Nat.strongRecOn with
  | ind f ih0 =>
    intro i hi H locs sh ke go ls hP hD hS hv hl
    have ih : i < 10001 → ∀ (H : Heap) (locs : List Loc) (sh ke : Nat → Int64) (go : Nat → Int32) (ls : Array Slot), va_P (dC, dI) vwCl [(h1, .inr (1, [.int (nI 0), .int (nI n), .ref a1, .ref a2, .ref a3, .ref a4])), (a1, .inl (cL, 8, .inr (.inl (fun z => lN (w z))))), (a2, .inl (cL, 8, .inr (.inl sh))), (a3, .inl (cL, 8, .inr (.inl ke))), (a4, .inl (cZ, 8, .inl go))] H → va_D A [(h1, .inr (1, [.int (nI 0), .int (nI n), .ref a1, .ref a2, .ref a3, .ref a4])), (a1, .inl (cL, 8, .inr (.inl (fun z => lN (w z))))), (a2, .inl (cL, 8, .inr (.inl sh))), (a3, .inl (cL, 8, .inr (.inl ke))), (a4, .inl (cZ, 8, .inl go))] → va_S A H0 H locs → ((0 < y → ∀ j, j < n → sh j = lN (sd_G y w n (i + 1) j)) ∧ ∀ j, j < (i + 1) → sd_U y w n j q < k) → lv_has ls 5 [(0, .ref h1), (1, .int (nI y)), (2, .int (nI k)), (3, .int (nI q)), (4, .int (nI (i + 1)))] → W p l e R s m args below meth c H locs cells slots Q (F0 m 70 ls []) := fun hlt => ih0 (f - 1) (by omega) (i + 1) (by omega)
    refine lv_iload hx hb dX1_least_70 (lv_at hl 4 rfl) ?_
    refine lv_sipush (v := nI 10000) hx hb dX1_least_72 (by decide +kernel) ?_
    refine sd_ic_gt (a := i) (b := 10000) (tgt := 118) hx hb dX1_least_75 (by decide) (by omega) (by omega) (fun h => ?_) (fun h => ?_)
    · refine lv_iconst (v := (-1)) hx hb dX1_least_118 (by decide +kernel) ?_
      exact kk1 (sd_lst_none (fun j hj => decide_eq_false (by have := hv.2 j (by omega); omega))) H locs sh ke go ls hP hD hS
    · have hUl := sd_U_le (y := y) (w := w) (m := i) hW hq
      refine lv_iload_n hx hb dX1_least_78 rfl (lv_at hl 1 rfl) ?_
      refine sd_iz_ne (a := y) (tgt := 88) hx hb dX1_least_79 (by decide) (by omega) (fun h => ?_) (fun h => ?_)
      · have hy0 := h
        have hUG : ∀ j, sd_U y w n i j = sd_G y w n i j := fun j => if_neg (by omega)
        refine lv_aload_n hx hb dX1_least_88 rfl (lv_at hl 0 rfl) ?_
        refine va_get (D := (dC, dI)) (ci := 1) (v := .ref a2) (C := RX1) (T := TX1) (N := 6) hx hb hts u_in_X1 hown hK hP 0 rfl rfl 3 (by decide) (hts (.fieldLink RX1 17 "ShareDeskModel" "shares" "[J") k_fieldLink_X1_17) (fun _ h9 => h9) rfl dX1_least_89 ?_
        refine lv_iload_n hx hb dX1_least_92 rfl (lv_at hl 3 rfl) ?_
        refine sd_lald (j := q) (v := lN (sd_U y w n i q)) hx hb hK hP 2 0 rfl rfl (by omega) (by decide) (by rw [hv.1 hy0 q hq, hUG]) dX1_least_93 ?_
        refine lv_iload_n hx hb dX1_least_94 rfl (lv_at hl 2 rfl) ?_
        refine lv_i2l (v := lN k) hx hb dX1_least_95 (nI_l (by omega)) ?_
        refine sd_lc_lt (a := sd_U y w n i q) (b := k) (tgt := 103) hx hb dX1_least_96 dX1_least_97 (by decide) (by omega) (by omega) (fun h => ?_) (fun h => ?_)
        · have hlt := h
          refine lv_iload_n hx hb dX1_least_103 rfl (lv_at hl 1 rfl) ?_
          refine sd_iz_le (a := y) (tgt := 112) hx hb dX1_least_104 (by decide) (by omega) (fun h => ?_) (fun h => ?_)
          · exact absurd h (by omega)
          · have hGl : ∀ j, j < n → sd_G y w n i j ≤ 10001 := fun j hj => by
              have h1 := sd_sum_ge (f := sd_G y w n i) hj
              rw [(sd_inv_G (sd_sum_pos hW) i).1] at h1
              omega
            refine lv_aload_n hx hb dX1_least_107 rfl (lv_at hl 0 rfl) ?_
            refine lv_iload_n hx hb dX1_least_108 rfl (lv_at hl 1 rfl) ?_
            refine sd_wv (va_runV (As := [.int (nI y)]) (rest := []) ⟨hx, hb, hml, hown, hts0⟩ (m_one l dC dI cL cZ h1 a1 a2 a3 a4 0 n w sh ke go H.size ok hW y hy (sd_G y w n i) (hv.1 hy0) hGl) (cwV 1 hts0 (sd_gV k_methodLink_X1_56 k_instanceMethod_X1_one k_sel_X1_one k_init_ShareDeskModel k_code_X1_one) rfl rfl rfl (by decide +kernel) ⟨hR0.1, hR0.2⟩) (sd_preVw hK hP hD (q0 := 0) (ci := 1) rfl rfl) rfl rfl hl.1 rfl (lv_room (Nat.le_of_ble_eq_true rfl)) dX1_least_109 hf) hD hS hA (fun u_ H locs hpo hP hD hS => ?_)
            obtain ⟨sh, ke, go⟩ := u_
            try dsimp only at hpo
            have hP : va_P (dC, dI) vwCl [(h1, .inr (1, [.int (nI 0), .int (nI n), .ref a1, .ref a2, .ref a3, .ref a4])), (a1, .inl (cL, 8, .inr (.inl (fun z => lN (w z))))), (a2, .inl (cL, 8, .inr (.inl sh))), (a3, .inl (cL, 8, .inr (.inl ke))), (a4, .inl (cZ, 8, .inl go))] H := hP
            have hD : va_D A [(h1, .inr (1, [.int (nI 0), .int (nI n), .ref a1, .ref a2, .ref a3, .ref a4])), (a1, .inl (cL, 8, .inr (.inl (fun z => lN (w z))))), (a2, .inl (cL, 8, .inr (.inl sh))), (a3, .inl (cL, 8, .inr (.inl ke))), (a4, .inl (cZ, 8, .inl go))] := hD
            refine lv_iinc (k := 4) (v := nI (i + 1)) hx hb dX1_least_112 hl rfl (nI_add _ 1) (by decide) rfl (fun ls hl => ?_)
            have hl : lv_has ls 5 [(4, .int (nI (i + 1))), (0, .ref h1), (1, .int (nI y)), (2, .int (nI k)), (3, .int (nI q))] := hl
            refine lv_goto (tgt := 70) hx hb dX1_least_115 (by decide) ?_
            have hl := lv_sub (l' := [(0, .ref h1), (1, .int (nI y)), (2, .int (nI k)), (3, .int (nI q)), (4, .int (nI (i + 1)))]) hl [1, 2, 3, 4, 0] rfl
            exact ih (by omega) H locs sh ke go ls hP hD hS ⟨fun _ => hpo.1, fun j hj => by
              by_cases z : j = i
              · rw [z]; exact hlt
              · exact hv.2 j (by omega)⟩ hl
        · refine lv_iload hx hb dX1_least_100 (lv_at hl 4 rfl) ?_
          exact kk2 i (by omega) (sd_lst_at (Q := (fun j => decide (k ≤ sd_U y w n j q))) (m := i) (fun j hj => decide_eq_false (by have := hv.2 j hj; omega)) (decide_eq_true h) (by omega)) H locs sh ke go ls hP hD hS
      · have hy0 := h
        refine lv_aload_n hx hb dX1_least_82 rfl (lv_at hl 0 rfl) ?_
        refine lv_iload hx hb dX1_least_83 (lv_at hl 4 rfl) ?_
        refine sd_wv (va_runV (As := [.int (nI i)]) (rest := []) ⟨hx, hb, hml, hown, hts0⟩ (m_parts l dC dI cL cZ h1 a1 a2 a3 a4 0 n w sh ke go H.size ok hW i (by omega)) (cwV 1 hts0 (sd_gV k_methodLink_X1_52 k_instanceMethod_X1_parts k_sel_X1_parts k_init_ShareDeskModel k_code_X1_parts) rfl rfl rfl (by decide +kernel) ⟨hR.1, hR.2⟩) (sd_preVw hK hP hD (q0 := 0) (ci := 1) rfl rfl) rfl rfl hl.1 rfl (lv_room (Nat.le_of_ble_eq_true rfl)) dX1_least_85 hf) hD hS hA (fun u_ H locs hpo hP hD hS => ?_)
        obtain ⟨sh, ke, go⟩ := u_
        try dsimp only at hpo
        have hP : va_P (dC, dI) vwCl [(h1, .inr (1, [.int (nI 0), .int (nI n), .ref a1, .ref a2, .ref a3, .ref a4])), (a1, .inl (cL, 8, .inr (.inl (fun z => lN (w z))))), (a2, .inl (cL, 8, .inr (.inl sh))), (a3, .inl (cL, 8, .inr (.inl ke))), (a4, .inl (cZ, 8, .inl go))] H := hP
        have hD : va_D A [(h1, .inr (1, [.int (nI 0), .int (nI n), .ref a1, .ref a2, .ref a3, .ref a4])), (a1, .inl (cL, 8, .inr (.inl (fun z => lN (w z))))), (a2, .inl (cL, 8, .inr (.inl sh))), (a3, .inl (cL, 8, .inr (.inl ke))), (a4, .inl (cZ, 8, .inl go))] := hD
        refine lv_aload_n hx hb dX1_least_88 rfl (lv_at hl 0 rfl) ?_
        refine va_get (D := (dC, dI)) (ci := 1) (v := .ref a2) (C := RX1) (T := TX1) (N := 6) hx hb hts u_in_X1 hown hK hP 0 rfl rfl 3 (by decide) (hts (.fieldLink RX1 17 "ShareDeskModel" "shares" "[J") k_fieldLink_X1_17) (fun _ h9 => h9) rfl dX1_least_89 ?_
        refine lv_iload_n hx hb dX1_least_92 rfl (lv_at hl 3 rfl) ?_
        refine sd_lald (j := q) (v := lN (sd_U y w n i q)) hx hb hK hP 2 0 rfl rfl (by omega) (by decide) (by rw [hpo.1 q hq]; unfold sd_U; rw [if_pos hy0]) dX1_least_93 ?_
        refine lv_iload_n hx hb dX1_least_94 rfl (lv_at hl 2 rfl) ?_
        refine lv_i2l (v := lN k) hx hb dX1_least_95 (nI_l (by omega)) ?_
        refine sd_lc_lt (a := sd_U y w n i q) (b := k) (tgt := 103) hx hb dX1_least_96 dX1_least_97 (by decide) (by omega) (by omega) (fun h => ?_) (fun h => ?_)
        · have hlt := h
          refine lv_iload_n hx hb dX1_least_103 rfl (lv_at hl 1 rfl) ?_
          refine sd_iz_le (a := y) (tgt := 112) hx hb dX1_least_104 (by decide) (by omega) (fun h => ?_) (fun h => ?_)
          · refine lv_iinc (k := 4) (v := nI (i + 1)) hx hb dX1_least_112 hl rfl (nI_add _ 1) (by decide) rfl (fun ls hl => ?_)
            have hl : lv_has ls 5 [(4, .int (nI (i + 1))), (0, .ref h1), (1, .int (nI y)), (2, .int (nI k)), (3, .int (nI q))] := hl
            refine lv_goto (tgt := 70) hx hb dX1_least_115 (by decide) ?_
            have hl := lv_sub (l' := [(0, .ref h1), (1, .int (nI y)), (2, .int (nI k)), (3, .int (nI q)), (4, .int (nI (i + 1)))]) hl [1, 2, 3, 4, 0] rfl
            exact ih (by omega) H locs sh ke go ls hP hD hS ⟨fun z => absurd z (by omega), fun j hj => by
              by_cases z : j = i
              · rw [z]; exact hlt
              · exact hv.2 j (by omega)⟩ hl
          · exact absurd h (by omega)
        · refine lv_iload hx hb dX1_least_100 (lv_at hl 4 rfl) ?_
          exact kk2 i (by omega) (sd_lst_at (Q := (fun j => decide (k ≤ sd_U y w n j q))) (m := i) (fun j hj => decide_eq_false (by have := hv.2 j hj; omega)) (decide_eq_true h) (by omega)) H locs sh ke go ls hP hD hS
set_option maxHeartbeats 4000000 in
set_option maxRecDepth 100000 in
theorem m_least_bad (l : Launch) (dC : Nat → ClassId) (dI : Nat → Nat → Nat) (cL cZ : ClassId) (h1 a1 a2 a3 a4 er n : Nat) (w : Nat → Nat) (sh ke : Nat → Int64) (go : Nat → Int32) (sz : Nat) (hn1 : 1 ≤ n) (hn8 : n ≤ 8) (x1 x2 x3 : Int32) (hbad : sd_rg x1 0 2 = false ∨ x2 < 0 ∨ sd_rg x3 0 (n - 1) = false) : Met l yX1_least (sd_ws yX1_least cX1_least 5 (some .int)) (sd_rm 3 0 0) (sd_Pw (dC, dI) vwCl [(cL, .long), (cZ, .boolean)] (sd_M cL cZ h1 a1 a2 a3 a4 er n w sh ke go) sz [.ref h1, .int x1, .int x2, .int x3]) (va_Qi (fun r (v_ : sd_S) => r = nI 0) (sd_Bw (dC, dI) vwCl [(cL, .long), (cZ, .boolean)] (sd_M cL cZ h1 a1 a2 a3 a4 er n w sh ke go) sz (fun v_ => (sd_M cL cZ h1 a1 a2 a3 a4 1 n w v_.1 v_.2.1 v_.2.2))) (va_A (sd_M cL cZ h1 a1 a2 a3 a4 er n w sh ke go) sz)) 0 0 (va_A (sd_M cL cZ h1 a1 a2 a3 a4 er n w sh ke go) sz) := by
  refine Met.ofW (cc := cX1_least) (maxL := 5) (ret := (some .int)) (by decide) rfl ?_
  intro p e s m args below meth c s₁ B hml hv
  obtain ⟨rfl, hsz, hP, hK, hD0⟩ := hv
  subst hsz
  have hx := B.exec
  have hb := B.bytes
  have hr := B.returns
  have hts0 := atoms_spec (ws := (sd_ws yX1_least cX1_least 5 (some .int))) B.pre
  have hts : ∀ w ∈ sd_WS, w.before _ s = true := fun w h => hts0 w (List.mem_cons_of_mem _ h)
  have hown : s.vm.findClass RX1 = some m.cls := findClass_of_methodNamed B.named
  have hlocks := B.notSynchronized
  have hl := lv_entry ([.ref h1, .int x1, .int x2, .int x3]) (n := 5) (Nat.le_of_ble_eq_true rfl)
  rw [lg_entry_eq]
  generalize (lg_sl ([.ref h1, .int x1, .int x2, .int x3]) ++ List.replicate (5 - (lg_sl ([.ref h1, .int x1, .int x2, .int x3])).length) Slot.unset).toArray = ls at hl ⊢
  have hl : lv_has ls 5 [(0, .ref h1), (1, .int x1), (2, .int x2), (3, .int x3)] := hl
  obtain ⟨A, hAe⟩ : ∃ A, A = va_A (sd_M cL cZ h1 a1 a2 a3 a4 er n w sh ke go) s.heap.size := ⟨_, rfl⟩
  have hD : va_D A (sd_M cL cZ h1 a1 a2 a3 a4 er n w sh ke go) := by rw [hAe]; exact hD0.self
  have hA : ∀ q : Nat, s.heap.size ≤ q → A q := fun q h => by rw [hAe]; exact Or.inr h
  have hS : va_S A s.heap s.heap [] := va_S.rf
  have hP : va_P (dC, dI) vwCl [(h1, .inr (1, [.int (nI er), .int (nI n), .ref a1, .ref a2, .ref a3, .ref a4])), (a1, .inl (cL, 8, .inr (.inl (fun z => lN (w z))))), (a2, .inl (cL, 8, .inr (.inl sh))), (a3, .inl (cL, 8, .inr (.inl ke))), (a4, .inl (cZ, 8, .inl go))] s.heap := hP
  have hD : va_D A [(h1, .inr (1, [.int (nI er), .int (nI n), .ref a1, .ref a2, .ref a3, .ref a4])), (a1, .inl (cL, 8, .inr (.inl (fun z => lN (w z))))), (a2, .inl (cL, 8, .inr (.inl sh))), (a3, .inl (cL, 8, .inr (.inl ke))), (a4, .inl (cZ, 8, .inl go))] := hD
  refine lv_aload_n hx hb dX1_least_0 rfl (lv_at hl 0 rfl) ?_
  refine lv_iconst (v := (nI 0)) hx hb dX1_least_1 (by decide +kernel) ?_
  refine va_put (D := (dC, dI)) (ci := 1) (v := .int (nI 0)) (ty := .int) (C := RX1) (T := TX1) (N := 6) hx hb hts u_in_X1 tyX1 tyX1_ok nmX1 hown hK hP hD hS 0 rfl rfl 0 (by decide) (hts (.fieldLink RX1 27 "ShareDeskModel" "err" "I") k_fieldLink_X1_27) (fun _ h9 => h9) rfl (by decide +kernel) rfl rfl (Nat.le_of_ble_eq_true rfl) dX1_least_2 (fun H locs hP hD hS => ?_)
  have hP : va_P (dC, dI) vwCl [(h1, .inr (1, [.int (nI 0), .int (nI n), .ref a1, .ref a2, .ref a3, .ref a4])), (a1, .inl (cL, 8, .inr (.inl (fun z => lN (w z))))), (a2, .inl (cL, 8, .inr (.inl sh))), (a3, .inl (cL, 8, .inr (.inl ke))), (a4, .inl (cZ, 8, .inl go))] H := hP
  have hD : va_D A [(h1, .inr (1, [.int (nI 0), .int (nI n), .ref a1, .ref a2, .ref a3, .ref a4])), (a1, .inl (cL, 8, .inr (.inl (fun z => lN (w z))))), (a2, .inl (cL, 8, .inr (.inl sh))), (a3, .inl (cL, 8, .inr (.inl ke))), (a4, .inl (cZ, 8, .inl go))] := hD
  refine lv_aload_n hx hb dX1_least_5 rfl (lv_at hl 0 rfl) ?_
  refine lv_iload_n hx hb dX1_least_6 rfl (lv_at hl 1 rfl) ?_
  refine sd_calli (va_runS (As := [.int x1]) (rest := [.ref h1]) ⟨hx, hb, hml, hown, hts0⟩ (m_isWay l dC dI x1) (cwS 1 hts0 (sd_gS k_methodLink_X1_59 k_static_X1_isWay k_init_ShareDeskModel k_code_X1_isWay) rfl rfl rfl (by decide +kernel) ⟨Nat.le_of_ble_eq_true rfl, Nat.le_of_ble_eq_true rfl⟩) (sd_preS (sd_K0 hK) (sd_nil _ _ _)) rfl rfl hl.1 rfl (lv_room (Nat.le_of_ble_eq_true rfl)) dX1_least_7 ⟨Nat.zero_le _, Nat.zero_le _⟩) ?_
  refine sd_bz_eq (tgt := 25) hx hb dX1_least_10 (by decide) (fun hc0 => ?_) (fun hc0 => ?_)
  · have hc0 : sd_rg x1 0 2 = false := hc0
    refine lv_iconst (v := (nI 1)) hx hb dX1_least_25 (by decide +kernel) ?_
    refine lv_goto (tgt := 30) hx hb dX1_least_26 (by decide) ?_
    refine lv_iconst (v := (nI 1)) hx hb dX1_least_30 (by decide +kernel) ?_
    refine sd_wi (va_runV (As := [.int (nI 1), .int (nI 1)]) (rest := []) ⟨hx, hb, hml, hown, hts0⟩ (m_fails1 l dC dI cL cZ h1 a1 a2 a3 a4 0 n w sh ke go H.size rfl 1 (by decide) (by decide)) (cwV 2 hts0 (sd_gV k_methodLink_X1_38 k_instanceMethod_X1_fails k_sel_X1_fails k_init_ShareDeskModel k_code_X1_fails) rfl rfl rfl (by decide +kernel) ⟨Nat.le_of_ble_eq_true rfl, Nat.le_of_ble_eq_true rfl⟩) (sd_preVw hK hP hD (q0 := 0) (ci := 1) rfl rfl) rfl rfl hl.1 rfl (lv_room (Nat.le_of_ble_eq_true rfl)) dX1_least_31 ⟨Nat.zero_le _, Nat.zero_le _⟩) hD hS hA (fun r_ u_ H locs hpo hP hD hS => ?_)
    obtain ⟨sh, ke, go⟩ := u_
    try dsimp only at hpo
    have hP : va_P (dC, dI) vwCl [(h1, .inr (1, [.int (nI 1), .int (nI n), .ref a1, .ref a2, .ref a3, .ref a4])), (a1, .inl (cL, 8, .inr (.inl (fun z => lN (w z))))), (a2, .inl (cL, 8, .inr (.inl sh))), (a3, .inl (cL, 8, .inr (.inl ke))), (a4, .inl (cZ, 8, .inl go))] H := hP
    have hD : va_D A [(h1, .inr (1, [.int (nI 1), .int (nI n), .ref a1, .ref a2, .ref a3, .ref a4])), (a1, .inl (cL, 8, .inr (.inl (fun z => lN (w z))))), (a2, .inl (cL, 8, .inr (.inl sh))), (a3, .inl (cL, 8, .inr (.inl ke))), (a4, .inl (cZ, 8, .inl go))] := hD
    subst hpo
    refine sd_iz_ne (a := 1) (tgt := 59) hx hb dX1_least_34 (by decide) (by omega) (fun h => ?_) (fun h => ?_)
    · refine lv_iconst (v := (nI 0)) hx hb dX1_least_59 (by decide +kernel) ?_
      exact W.iret hx hb hr (fun t ht hW => ⟨⟨_, (sh, ke, go), rfl, rfl, by rw [ht]; exact hP, va_K.moved hW.alike hK, by rw [← hAe]; exact hD⟩, by rw [← hAe]; exact hS.F ht⟩) (fun q hq => by rw [← hAe]; exact hS.2.2 q hq) dX1_least_60
    · exact absurd h (by omega)
  · have hc0 : sd_rg x1 0 2 = true := hc0
    refine lv_iload_n hx hb dX1_least_13 rfl (lv_at hl 2 rfl) ?_
    refine lv_if_lt (tgt := 25) hx hb dX1_least_14 (by decide) (fun hng => ?_) (fun hng => ?_)
    · refine lv_iconst (v := (nI 1)) hx hb dX1_least_25 (by decide +kernel) ?_
      refine lv_goto (tgt := 30) hx hb dX1_least_26 (by decide) ?_
      refine lv_iconst (v := (nI 1)) hx hb dX1_least_30 (by decide +kernel) ?_
      refine sd_wi (va_runV (As := [.int (nI 1), .int (nI 1)]) (rest := []) ⟨hx, hb, hml, hown, hts0⟩ (m_fails1 l dC dI cL cZ h1 a1 a2 a3 a4 0 n w sh ke go H.size rfl 1 (by decide) (by decide)) (cwV 2 hts0 (sd_gV k_methodLink_X1_38 k_instanceMethod_X1_fails k_sel_X1_fails k_init_ShareDeskModel k_code_X1_fails) rfl rfl rfl (by decide +kernel) ⟨Nat.le_of_ble_eq_true rfl, Nat.le_of_ble_eq_true rfl⟩) (sd_preVw hK hP hD (q0 := 0) (ci := 1) rfl rfl) rfl rfl hl.1 rfl (lv_room (Nat.le_of_ble_eq_true rfl)) dX1_least_31 ⟨Nat.zero_le _, Nat.zero_le _⟩) hD hS hA (fun r_ u_ H locs hpo hP hD hS => ?_)
      obtain ⟨sh, ke, go⟩ := u_
      try dsimp only at hpo
      have hP : va_P (dC, dI) vwCl [(h1, .inr (1, [.int (nI 1), .int (nI n), .ref a1, .ref a2, .ref a3, .ref a4])), (a1, .inl (cL, 8, .inr (.inl (fun z => lN (w z))))), (a2, .inl (cL, 8, .inr (.inl sh))), (a3, .inl (cL, 8, .inr (.inl ke))), (a4, .inl (cZ, 8, .inl go))] H := hP
      have hD : va_D A [(h1, .inr (1, [.int (nI 1), .int (nI n), .ref a1, .ref a2, .ref a3, .ref a4])), (a1, .inl (cL, 8, .inr (.inl (fun z => lN (w z))))), (a2, .inl (cL, 8, .inr (.inl sh))), (a3, .inl (cL, 8, .inr (.inl ke))), (a4, .inl (cZ, 8, .inl go))] := hD
      subst hpo
      refine sd_iz_ne (a := 1) (tgt := 59) hx hb dX1_least_34 (by decide) (by omega) (fun h => ?_) (fun h => ?_)
      · refine lv_iconst (v := (nI 0)) hx hb dX1_least_59 (by decide +kernel) ?_
        exact W.iret hx hb hr (fun t ht hW => ⟨⟨_, (sh, ke, go), rfl, rfl, by rw [ht]; exact hP, va_K.moved hW.alike hK, by rw [← hAe]; exact hD⟩, by rw [← hAe]; exact hS.F ht⟩) (fun q hq => by rw [← hAe]; exact hS.2.2 q hq) dX1_least_60
      · exact absurd h (by omega)
    · refine lv_aload_n hx hb dX1_least_17 rfl (lv_at hl 0 rfl) ?_
      refine lv_iload_n hx hb dX1_least_18 rfl (lv_at hl 3 rfl) ?_
      refine sd_calli (va_runV (As := [.int x3]) (rest := [.ref h1]) ⟨hx, hb, hml, hown, hts0⟩ (m_isParty l dC dI cL cZ h1 a1 a2 a3 a4 0 n w sh ke go hn1 hn8 x3) (cwV 1 hts0 (sd_gV k_methodLink_X1_42 k_instanceMethod_X1_isParty k_sel_X1_isParty k_init_ShareDeskModel k_code_X1_isParty) rfl rfl rfl (by decide +kernel) ⟨Nat.le_of_ble_eq_true rfl, Nat.le_of_ble_eq_true rfl⟩) (sd_preV hK hP (q0 := 0) (ci := 1) rfl rfl) rfl rfl hl.1 rfl (lv_room (Nat.le_of_ble_eq_true rfl)) dX1_least_19 ⟨Nat.zero_le _, Nat.zero_le _⟩) ?_
      refine sd_bz_ne (tgt := 29) hx hb dX1_least_22 (by decide) (fun hc1 => ?_) (fun hc1 => ?_)
      · have hc1 : sd_rg x3 0 (n - 1) = true := hc1
        exact absurd hbad (by simp [hc0, hc1, hng])
      · have hc1 : sd_rg x3 0 (n - 1) = false := hc1
        refine lv_iconst (v := (nI 1)) hx hb dX1_least_25 (by decide +kernel) ?_
        refine lv_goto (tgt := 30) hx hb dX1_least_26 (by decide) ?_
        refine lv_iconst (v := (nI 1)) hx hb dX1_least_30 (by decide +kernel) ?_
        refine sd_wi (va_runV (As := [.int (nI 1), .int (nI 1)]) (rest := []) ⟨hx, hb, hml, hown, hts0⟩ (m_fails1 l dC dI cL cZ h1 a1 a2 a3 a4 0 n w sh ke go H.size rfl 1 (by decide) (by decide)) (cwV 2 hts0 (sd_gV k_methodLink_X1_38 k_instanceMethod_X1_fails k_sel_X1_fails k_init_ShareDeskModel k_code_X1_fails) rfl rfl rfl (by decide +kernel) ⟨Nat.le_of_ble_eq_true rfl, Nat.le_of_ble_eq_true rfl⟩) (sd_preVw hK hP hD (q0 := 0) (ci := 1) rfl rfl) rfl rfl hl.1 rfl (lv_room (Nat.le_of_ble_eq_true rfl)) dX1_least_31 ⟨Nat.zero_le _, Nat.zero_le _⟩) hD hS hA (fun r_ u_ H locs hpo hP hD hS => ?_)
        obtain ⟨sh, ke, go⟩ := u_
        try dsimp only at hpo
        have hP : va_P (dC, dI) vwCl [(h1, .inr (1, [.int (nI 1), .int (nI n), .ref a1, .ref a2, .ref a3, .ref a4])), (a1, .inl (cL, 8, .inr (.inl (fun z => lN (w z))))), (a2, .inl (cL, 8, .inr (.inl sh))), (a3, .inl (cL, 8, .inr (.inl ke))), (a4, .inl (cZ, 8, .inl go))] H := hP
        have hD : va_D A [(h1, .inr (1, [.int (nI 1), .int (nI n), .ref a1, .ref a2, .ref a3, .ref a4])), (a1, .inl (cL, 8, .inr (.inl (fun z => lN (w z))))), (a2, .inl (cL, 8, .inr (.inl sh))), (a3, .inl (cL, 8, .inr (.inl ke))), (a4, .inl (cZ, 8, .inl go))] := hD
        subst hpo
        refine sd_iz_ne (a := 1) (tgt := 59) hx hb dX1_least_34 (by decide) (by omega) (fun h => ?_) (fun h => ?_)
        · refine lv_iconst (v := (nI 0)) hx hb dX1_least_59 (by decide +kernel) ?_
          exact W.iret hx hb hr (fun t ht hW => ⟨⟨_, (sh, ke, go), rfl, rfl, by rw [ht]; exact hP, va_K.moved hW.alike hK, by rw [← hAe]; exact hD⟩, by rw [← hAe]; exact hS.F ht⟩) (fun q hq => by rw [← hAe]; exact hS.2.2 q hq) dX1_least_60
        · exact absurd h (by omega)
set_option maxHeartbeats 4000000 in
set_option maxRecDepth 100000 in
theorem m_least_zero (l : Launch) (dC : Nat → ClassId) (dI : Nat → Nat → Nat) (cL cZ : ClassId) (h1 a1 a2 a3 a4 er n : Nat) (w : Nat → Nat) (sh ke : Nat → Int64) (go : Nat → Int32) (sz : Nat) (hn1 : 1 ≤ n) (hn8 : n ≤ 8) (y k q : Nat) (hy : y ≤ 2) (hk : k < 2 ^ 31) (hq : q < n) (hz : sd_sum w n = 0) : Met l yX1_least (sd_ws yX1_least cX1_least 5 (some .int)) (sd_rm 3 0 0) (sd_Pw (dC, dI) vwCl [(cL, .long), (cZ, .boolean)] (sd_M cL cZ h1 a1 a2 a3 a4 er n w sh ke go) sz [.ref h1, .int (nI y), .int (nI k), .int (nI q)]) (va_Qi (fun r (v_ : sd_S) => r = nI 0) (sd_Bw (dC, dI) vwCl [(cL, .long), (cZ, .boolean)] (sd_M cL cZ h1 a1 a2 a3 a4 er n w sh ke go) sz (fun v_ => (sd_M cL cZ h1 a1 a2 a3 a4 2 n w v_.1 v_.2.1 v_.2.2))) (va_A (sd_M cL cZ h1 a1 a2 a3 a4 er n w sh ke go) sz)) 0 0 (va_A (sd_M cL cZ h1 a1 a2 a3 a4 er n w sh ke go) sz) := by
  refine Met.ofW (cc := cX1_least) (maxL := 5) (ret := (some .int)) (by decide) rfl ?_
  intro p e s m args below meth c s₁ B hml hv
  obtain ⟨rfl, hsz, hP, hK, hD0⟩ := hv
  subst hsz
  have hx := B.exec
  have hb := B.bytes
  have hr := B.returns
  have hts0 := atoms_spec (ws := (sd_ws yX1_least cX1_least 5 (some .int))) B.pre
  have hts : ∀ w ∈ sd_WS, w.before _ s = true := fun w h => hts0 w (List.mem_cons_of_mem _ h)
  have hown : s.vm.findClass RX1 = some m.cls := findClass_of_methodNamed B.named
  have hlocks := B.notSynchronized
  have hl := lv_entry ([.ref h1, .int (nI y), .int (nI k), .int (nI q)]) (n := 5) (Nat.le_of_ble_eq_true rfl)
  rw [lg_entry_eq]
  generalize (lg_sl ([.ref h1, .int (nI y), .int (nI k), .int (nI q)]) ++ List.replicate (5 - (lg_sl ([.ref h1, .int (nI y), .int (nI k), .int (nI q)])).length) Slot.unset).toArray = ls at hl ⊢
  have hl : lv_has ls 5 [(0, .ref h1), (1, .int (nI y)), (2, .int (nI k)), (3, .int (nI q))] := hl
  obtain ⟨A, hAe⟩ : ∃ A, A = va_A (sd_M cL cZ h1 a1 a2 a3 a4 er n w sh ke go) s.heap.size := ⟨_, rfl⟩
  have hD : va_D A (sd_M cL cZ h1 a1 a2 a3 a4 er n w sh ke go) := by rw [hAe]; exact hD0.self
  have hA : ∀ q : Nat, s.heap.size ≤ q → A q := fun q h => by rw [hAe]; exact Or.inr h
  have hS : va_S A s.heap s.heap [] := va_S.rf
  have hP : va_P (dC, dI) vwCl [(h1, .inr (1, [.int (nI er), .int (nI n), .ref a1, .ref a2, .ref a3, .ref a4])), (a1, .inl (cL, 8, .inr (.inl (fun z => lN (w z))))), (a2, .inl (cL, 8, .inr (.inl sh))), (a3, .inl (cL, 8, .inr (.inl ke))), (a4, .inl (cZ, 8, .inl go))] s.heap := hP
  have hD : va_D A [(h1, .inr (1, [.int (nI er), .int (nI n), .ref a1, .ref a2, .ref a3, .ref a4])), (a1, .inl (cL, 8, .inr (.inl (fun z => lN (w z))))), (a2, .inl (cL, 8, .inr (.inl sh))), (a3, .inl (cL, 8, .inr (.inl ke))), (a4, .inl (cZ, 8, .inl go))] := hD
  refine lv_aload_n hx hb dX1_least_0 rfl (lv_at hl 0 rfl) ?_
  refine lv_iconst (v := (nI 0)) hx hb dX1_least_1 (by decide +kernel) ?_
  refine va_put (D := (dC, dI)) (ci := 1) (v := .int (nI 0)) (ty := .int) (C := RX1) (T := TX1) (N := 6) hx hb hts u_in_X1 tyX1 tyX1_ok nmX1 hown hK hP hD hS 0 rfl rfl 0 (by decide) (hts (.fieldLink RX1 27 "ShareDeskModel" "err" "I") k_fieldLink_X1_27) (fun _ h9 => h9) rfl (by decide +kernel) rfl rfl (Nat.le_of_ble_eq_true rfl) dX1_least_2 (fun H locs hP hD hS => ?_)
  have hP : va_P (dC, dI) vwCl [(h1, .inr (1, [.int (nI 0), .int (nI n), .ref a1, .ref a2, .ref a3, .ref a4])), (a1, .inl (cL, 8, .inr (.inl (fun z => lN (w z))))), (a2, .inl (cL, 8, .inr (.inl sh))), (a3, .inl (cL, 8, .inr (.inl ke))), (a4, .inl (cZ, 8, .inl go))] H := hP
  have hD : va_D A [(h1, .inr (1, [.int (nI 0), .int (nI n), .ref a1, .ref a2, .ref a3, .ref a4])), (a1, .inl (cL, 8, .inr (.inl (fun z => lN (w z))))), (a2, .inl (cL, 8, .inr (.inl sh))), (a3, .inl (cL, 8, .inr (.inl ke))), (a4, .inl (cZ, 8, .inl go))] := hD
  refine lv_aload_n hx hb dX1_least_5 rfl (lv_at hl 0 rfl) ?_
  refine lv_iload_n hx hb dX1_least_6 rfl (lv_at hl 1 rfl) ?_
  refine sd_calli (va_runS (As := [.int (nI y)]) (rest := [.ref h1]) ⟨hx, hb, hml, hown, hts0⟩ (m_isWay l dC dI (nI y)) (cwS 1 hts0 (sd_gS k_methodLink_X1_59 k_static_X1_isWay k_init_ShareDeskModel k_code_X1_isWay) rfl rfl rfl (by decide +kernel) ⟨Nat.le_of_ble_eq_true rfl, Nat.le_of_ble_eq_true rfl⟩) (sd_preS (sd_K0 hK) (sd_nil _ _ _)) rfl rfl hl.1 rfl (lv_room (Nat.le_of_ble_eq_true rfl)) dX1_least_7 ⟨Nat.zero_le _, Nat.zero_le _⟩) ?_
  refine sd_bz_eq (tgt := 25) hx hb dX1_least_10 (by decide) (fun hc0 => ?_) (fun hc0 => ?_)
  · have hc0 : sd_rg (nI y) 0 2 = false := hc0
    exact absurd hc0 (by rw [sd_rg_nI (by omega) (by omega) (by omega) (by omega)]; decide)
  · have hc0 : sd_rg (nI y) 0 2 = true := hc0
    refine lv_iload_n hx hb dX1_least_13 rfl (lv_at hl 2 rfl) ?_
    refine sd_iz_lt (a := k) (tgt := 25) hx hb dX1_least_14 (by decide) (by omega) ?_
    refine lv_aload_n hx hb dX1_least_17 rfl (lv_at hl 0 rfl) ?_
    refine lv_iload_n hx hb dX1_least_18 rfl (lv_at hl 3 rfl) ?_
    refine sd_calli (va_runV (As := [.int (nI q)]) (rest := [.ref h1]) ⟨hx, hb, hml, hown, hts0⟩ (m_isParty l dC dI cL cZ h1 a1 a2 a3 a4 0 n w sh ke go hn1 hn8 (nI q)) (cwV 1 hts0 (sd_gV k_methodLink_X1_42 k_instanceMethod_X1_isParty k_sel_X1_isParty k_init_ShareDeskModel k_code_X1_isParty) rfl rfl rfl (by decide +kernel) ⟨Nat.le_of_ble_eq_true rfl, Nat.le_of_ble_eq_true rfl⟩) (sd_preV hK hP (q0 := 0) (ci := 1) rfl rfl) rfl rfl hl.1 rfl (lv_room (Nat.le_of_ble_eq_true rfl)) dX1_least_19 ⟨Nat.zero_le _, Nat.zero_le _⟩) ?_
    refine sd_bz_ne (tgt := 29) hx hb dX1_least_22 (by decide) (fun hc1 => ?_) (fun hc1 => ?_)
    · have hc1 : sd_rg (nI q) 0 (n - 1) = true := hc1
      refine lv_iconst (v := (nI 0)) hx hb dX1_least_29 (by decide +kernel) ?_
      refine lv_iconst (v := (nI 1)) hx hb dX1_least_30 (by decide +kernel) ?_
      refine sd_calli (va_runV (As := [.int (nI 0), .int (nI 1)]) (rest := []) ⟨hx, hb, hml, hown, hts0⟩ (m_fails0 l dC dI cL cZ h1 a1 a2 a3 a4 0 n w sh ke go rfl 1) (cwV 2 hts0 (sd_gV k_methodLink_X1_38 k_instanceMethod_X1_fails k_sel_X1_fails k_init_ShareDeskModel k_code_X1_fails) rfl rfl rfl (by decide +kernel) ⟨Nat.le_of_ble_eq_true rfl, Nat.le_of_ble_eq_true rfl⟩) (sd_preV hK hP (q0 := 0) (ci := 1) rfl rfl) rfl rfl hl.1 rfl (lv_room (Nat.le_of_ble_eq_true rfl)) dX1_least_31 ⟨Nat.zero_le _, Nat.zero_le _⟩) ?_
      refine sd_iz_ne (a := 0) (tgt := 59) hx hb dX1_least_34 (by decide) (by omega) (fun h => ?_) (fun h => ?_)
      · exact absurd h (by omega)
      · refine lv_aload_n hx hb dX1_least_37 rfl (lv_at hl 0 rfl) ?_
        refine lv_aload_n hx hb dX1_least_38 rfl (lv_at hl 0 rfl) ?_
        refine sd_calll (va_runV (As := []) (rest := [.ref h1]) ⟨hx, hb, hml, hown, hts0⟩ (m_all l dC dI cL cZ h1 a1 a2 a3 a4 0 n w sh ke go hn8) (cwV 0 hts0 (sd_gV k_methodLink_X1_48 k_instanceMethod_X1_all k_sel_X1_all k_init_ShareDeskModel k_code_X1_all) rfl rfl rfl (by decide +kernel) ⟨Nat.le_of_ble_eq_true rfl, Nat.le_of_ble_eq_true rfl⟩) (sd_preV hK hP (q0 := 0) (ci := 1) rfl rfl) rfl rfl hl.1 rfl (lv_room (Nat.le_of_ble_eq_true rfl)) dX1_least_39 ⟨Nat.zero_le _, Nat.zero_le _⟩) ?_
        refine lv_lconst (v := lN 0) hx hb dX1_least_42 rfl ?_
        refine sd_lc_ne (a := sd_sum w n) (b := 0) (tgt := 51) hx hb dX1_least_43 dX1_least_44 (by decide) (by omega) (by omega) (fun h => ?_) (fun h => ?_)
        · exact absurd hz h
        · refine lv_iconst (v := (nI 1)) hx hb dX1_least_47 (by decide +kernel) ?_
          refine lv_goto (tgt := 52) hx hb dX1_least_48 (by decide) ?_
          refine lv_iconst (v := (nI 2)) hx hb dX1_least_52 (by decide +kernel) ?_
          refine sd_wi (va_runV (As := [.int (nI 1), .int (nI 2)]) (rest := []) ⟨hx, hb, hml, hown, hts0⟩ (m_fails1 l dC dI cL cZ h1 a1 a2 a3 a4 0 n w sh ke go H.size rfl 2 (by decide) (by decide)) (cwV 2 hts0 (sd_gV k_methodLink_X1_38 k_instanceMethod_X1_fails k_sel_X1_fails k_init_ShareDeskModel k_code_X1_fails) rfl rfl rfl (by decide +kernel) ⟨Nat.le_of_ble_eq_true rfl, Nat.le_of_ble_eq_true rfl⟩) (sd_preVw hK hP hD (q0 := 0) (ci := 1) rfl rfl) rfl rfl hl.1 rfl (lv_room (Nat.le_of_ble_eq_true rfl)) dX1_least_53 ⟨Nat.zero_le _, Nat.zero_le _⟩) hD hS hA (fun r_ u_ H locs hpo hP hD hS => ?_)
          obtain ⟨sh, ke, go⟩ := u_
          try dsimp only at hpo
          have hP : va_P (dC, dI) vwCl [(h1, .inr (1, [.int (nI 2), .int (nI n), .ref a1, .ref a2, .ref a3, .ref a4])), (a1, .inl (cL, 8, .inr (.inl (fun z => lN (w z))))), (a2, .inl (cL, 8, .inr (.inl sh))), (a3, .inl (cL, 8, .inr (.inl ke))), (a4, .inl (cZ, 8, .inl go))] H := hP
          have hD : va_D A [(h1, .inr (1, [.int (nI 2), .int (nI n), .ref a1, .ref a2, .ref a3, .ref a4])), (a1, .inl (cL, 8, .inr (.inl (fun z => lN (w z))))), (a2, .inl (cL, 8, .inr (.inl sh))), (a3, .inl (cL, 8, .inr (.inl ke))), (a4, .inl (cZ, 8, .inl go))] := hD
          subst hpo
          refine sd_iz_eq (a := 1) (tgt := 61) hx hb dX1_least_56 (by decide) (by omega) (fun h => ?_) (fun h => ?_)
          · exact absurd h (by omega)
          · refine lv_iconst (v := (nI 0)) hx hb dX1_least_59 (by decide +kernel) ?_
            exact W.iret hx hb hr (fun t ht hW => ⟨⟨_, (sh, ke, go), rfl, rfl, by rw [ht]; exact hP, va_K.moved hW.alike hK, by rw [← hAe]; exact hD⟩, by rw [← hAe]; exact hS.F ht⟩) (fun q hq => by rw [← hAe]; exact hS.2.2 q hq) dX1_least_60
    · have hc1 : sd_rg (nI q) 0 (n - 1) = false := hc1
      exact absurd hc1 (by rw [sd_rg_nI (by omega) (by omega) (by omega) (by omega)]; decide)
set_option maxHeartbeats 4000000 in
set_option maxRecDepth 100000 in
theorem m_least (l : Launch) (dC : Nat → ClassId) (dI : Nat → Nat → Nat) (cL cZ : ClassId) (h1 a1 a2 a3 a4 er n : Nat) (w : Nat → Nat) (sh ke : Nat → Int64) (go : Nat → Int32) (sz : Nat) (ok : sd_ok n w) (hW : 0 < sd_sum w n) (y k q : Nat) (hy : y ≤ 2) (hk : k < 2 ^ 31) (hq : q < n) : Met l yX1_least (sd_ws yX1_least cX1_least 5 (some .int)) (sd_rm 3 0 0) (sd_Pw (dC, dI) vwCl [(cL, .long), (cZ, .boolean)] (sd_M cL cZ h1 a1 a2 a3 a4 er n w sh ke go) sz [.ref h1, .int (nI y), .int (nI k), .int (nI q)]) (va_Qi (fun r (v_ : sd_S) => r = sd_oi (sd_lst (fun j => decide (k ≤ sd_U y w n j q)) 10001)) (sd_Bw (dC, dI) vwCl [(cL, .long), (cZ, .boolean)] (sd_M cL cZ h1 a1 a2 a3 a4 er n w sh ke go) sz (fun v_ => (sd_M cL cZ h1 a1 a2 a3 a4 0 n w v_.1 v_.2.1 v_.2.2))) (va_A (sd_M cL cZ h1 a1 a2 a3 a4 er n w sh ke go) sz)) 0 0 (va_A (sd_M cL cZ h1 a1 a2 a3 a4 er n w sh ke go) sz) := by
  refine Met.ofW (cc := cX1_least) (maxL := 5) (ret := (some .int)) (by decide) rfl ?_
  intro p e s m args below meth c s₁ B hml hv
  obtain ⟨rfl, hsz, hP, hK, hD0⟩ := hv
  subst hsz
  have hx := B.exec
  have hb := B.bytes
  have hr := B.returns
  have hts0 := atoms_spec (ws := (sd_ws yX1_least cX1_least 5 (some .int))) B.pre
  have hts : ∀ w ∈ sd_WS, w.before _ s = true := fun w h => hts0 w (List.mem_cons_of_mem _ h)
  have hown : s.vm.findClass RX1 = some m.cls := findClass_of_methodNamed B.named
  have hlocks := B.notSynchronized
  have hl := lv_entry ([.ref h1, .int (nI y), .int (nI k), .int (nI q)]) (n := 5) (Nat.le_of_ble_eq_true rfl)
  rw [lg_entry_eq]
  generalize (lg_sl ([.ref h1, .int (nI y), .int (nI k), .int (nI q)]) ++ List.replicate (5 - (lg_sl ([.ref h1, .int (nI y), .int (nI k), .int (nI q)])).length) Slot.unset).toArray = ls at hl ⊢
  have hl : lv_has ls 5 [(0, .ref h1), (1, .int (nI y)), (2, .int (nI k)), (3, .int (nI q))] := hl
  obtain ⟨A, hAe⟩ : ∃ A, A = va_A (sd_M cL cZ h1 a1 a2 a3 a4 er n w sh ke go) s.heap.size := ⟨_, rfl⟩
  have hD : va_D A (sd_M cL cZ h1 a1 a2 a3 a4 er n w sh ke go) := by rw [hAe]; exact hD0.self
  have hA : ∀ q : Nat, s.heap.size ≤ q → A q := fun q h => by rw [hAe]; exact Or.inr h
  have hS : va_S A s.heap s.heap [] := va_S.rf
  have hP : va_P (dC, dI) vwCl [(h1, .inr (1, [.int (nI er), .int (nI n), .ref a1, .ref a2, .ref a3, .ref a4])), (a1, .inl (cL, 8, .inr (.inl (fun z => lN (w z))))), (a2, .inl (cL, 8, .inr (.inl sh))), (a3, .inl (cL, 8, .inr (.inl ke))), (a4, .inl (cZ, 8, .inl go))] s.heap := hP
  have hD : va_D A [(h1, .inr (1, [.int (nI er), .int (nI n), .ref a1, .ref a2, .ref a3, .ref a4])), (a1, .inl (cL, 8, .inr (.inl (fun z => lN (w z))))), (a2, .inl (cL, 8, .inr (.inl sh))), (a3, .inl (cL, 8, .inr (.inl ke))), (a4, .inl (cZ, 8, .inl go))] := hD
  have hn1 := ok.1
  have hn8 := ok.2.1
  have hWl := sd_W_le ok.2.2.1 ok.2.1
  refine lv_aload_n hx hb dX1_least_0 rfl (lv_at hl 0 rfl) ?_
  refine lv_iconst (v := (nI 0)) hx hb dX1_least_1 (by decide +kernel) ?_
  refine va_put (D := (dC, dI)) (ci := 1) (v := .int (nI 0)) (ty := .int) (C := RX1) (T := TX1) (N := 6) hx hb hts u_in_X1 tyX1 tyX1_ok nmX1 hown hK hP hD hS 0 rfl rfl 0 (by decide) (hts (.fieldLink RX1 27 "ShareDeskModel" "err" "I") k_fieldLink_X1_27) (fun _ h9 => h9) rfl (by decide +kernel) rfl rfl (Nat.le_of_ble_eq_true rfl) dX1_least_2 (fun H locs hP hD hS => ?_)
  have hP : va_P (dC, dI) vwCl [(h1, .inr (1, [.int (nI 0), .int (nI n), .ref a1, .ref a2, .ref a3, .ref a4])), (a1, .inl (cL, 8, .inr (.inl (fun z => lN (w z))))), (a2, .inl (cL, 8, .inr (.inl sh))), (a3, .inl (cL, 8, .inr (.inl ke))), (a4, .inl (cZ, 8, .inl go))] H := hP
  have hD : va_D A [(h1, .inr (1, [.int (nI 0), .int (nI n), .ref a1, .ref a2, .ref a3, .ref a4])), (a1, .inl (cL, 8, .inr (.inl (fun z => lN (w z))))), (a2, .inl (cL, 8, .inr (.inl sh))), (a3, .inl (cL, 8, .inr (.inl ke))), (a4, .inl (cZ, 8, .inl go))] := hD
  refine lv_aload_n hx hb dX1_least_5 rfl (lv_at hl 0 rfl) ?_
  refine lv_iload_n hx hb dX1_least_6 rfl (lv_at hl 1 rfl) ?_
  refine sd_calli (va_runS (As := [.int (nI y)]) (rest := [.ref h1]) ⟨hx, hb, hml, hown, hts0⟩ (m_isWay l dC dI (nI y)) (cwS 1 hts0 (sd_gS k_methodLink_X1_59 k_static_X1_isWay k_init_ShareDeskModel k_code_X1_isWay) rfl rfl rfl (by decide +kernel) ⟨Nat.le_of_ble_eq_true rfl, Nat.le_of_ble_eq_true rfl⟩) (sd_preS (sd_K0 hK) (sd_nil _ _ _)) rfl rfl hl.1 rfl (lv_room (Nat.le_of_ble_eq_true rfl)) dX1_least_7 ⟨Nat.zero_le _, Nat.zero_le _⟩) ?_
  refine sd_bz_eq (tgt := 25) hx hb dX1_least_10 (by decide) (fun hc0 => ?_) (fun hc0 => ?_)
  · have hc0 : sd_rg (nI y) 0 2 = false := hc0
    exact absurd hc0 (by rw [sd_rg_nI (by omega) (by omega) (by omega) (by omega)]; decide)
  · have hc0 : sd_rg (nI y) 0 2 = true := hc0
    refine lv_iload_n hx hb dX1_least_13 rfl (lv_at hl 2 rfl) ?_
    refine sd_iz_lt (a := k) (tgt := 25) hx hb dX1_least_14 (by decide) (by omega) ?_
    refine lv_aload_n hx hb dX1_least_17 rfl (lv_at hl 0 rfl) ?_
    refine lv_iload_n hx hb dX1_least_18 rfl (lv_at hl 3 rfl) ?_
    refine sd_calli (va_runV (As := [.int (nI q)]) (rest := [.ref h1]) ⟨hx, hb, hml, hown, hts0⟩ (m_isParty l dC dI cL cZ h1 a1 a2 a3 a4 0 n w sh ke go hn1 hn8 (nI q)) (cwV 1 hts0 (sd_gV k_methodLink_X1_42 k_instanceMethod_X1_isParty k_sel_X1_isParty k_init_ShareDeskModel k_code_X1_isParty) rfl rfl rfl (by decide +kernel) ⟨Nat.le_of_ble_eq_true rfl, Nat.le_of_ble_eq_true rfl⟩) (sd_preV hK hP (q0 := 0) (ci := 1) rfl rfl) rfl rfl hl.1 rfl (lv_room (Nat.le_of_ble_eq_true rfl)) dX1_least_19 ⟨Nat.zero_le _, Nat.zero_le _⟩) ?_
    refine sd_bz_ne (tgt := 29) hx hb dX1_least_22 (by decide) (fun hc1 => ?_) (fun hc1 => ?_)
    · have hc1 : sd_rg (nI q) 0 (n - 1) = true := hc1
      refine lv_iconst (v := (nI 0)) hx hb dX1_least_29 (by decide +kernel) ?_
      refine lv_iconst (v := (nI 1)) hx hb dX1_least_30 (by decide +kernel) ?_
      refine sd_calli (va_runV (As := [.int (nI 0), .int (nI 1)]) (rest := []) ⟨hx, hb, hml, hown, hts0⟩ (m_fails0 l dC dI cL cZ h1 a1 a2 a3 a4 0 n w sh ke go rfl 1) (cwV 2 hts0 (sd_gV k_methodLink_X1_38 k_instanceMethod_X1_fails k_sel_X1_fails k_init_ShareDeskModel k_code_X1_fails) rfl rfl rfl (by decide +kernel) ⟨Nat.le_of_ble_eq_true rfl, Nat.le_of_ble_eq_true rfl⟩) (sd_preV hK hP (q0 := 0) (ci := 1) rfl rfl) rfl rfl hl.1 rfl (lv_room (Nat.le_of_ble_eq_true rfl)) dX1_least_31 ⟨Nat.zero_le _, Nat.zero_le _⟩) ?_
      refine sd_iz_ne (a := 0) (tgt := 59) hx hb dX1_least_34 (by decide) (by omega) (fun h => ?_) (fun h => ?_)
      · exact absurd h (by omega)
      · refine lv_aload_n hx hb dX1_least_37 rfl (lv_at hl 0 rfl) ?_
        refine lv_aload_n hx hb dX1_least_38 rfl (lv_at hl 0 rfl) ?_
        refine sd_calll (va_runV (As := []) (rest := [.ref h1]) ⟨hx, hb, hml, hown, hts0⟩ (m_all l dC dI cL cZ h1 a1 a2 a3 a4 0 n w sh ke go hn8) (cwV 0 hts0 (sd_gV k_methodLink_X1_48 k_instanceMethod_X1_all k_sel_X1_all k_init_ShareDeskModel k_code_X1_all) rfl rfl rfl (by decide +kernel) ⟨Nat.le_of_ble_eq_true rfl, Nat.le_of_ble_eq_true rfl⟩) (sd_preV hK hP (q0 := 0) (ci := 1) rfl rfl) rfl rfl hl.1 rfl (lv_room (Nat.le_of_ble_eq_true rfl)) dX1_least_39 ⟨Nat.zero_le _, Nat.zero_le _⟩) ?_
        refine lv_lconst (v := lN 0) hx hb dX1_least_42 rfl ?_
        refine sd_lc_ne (a := sd_sum w n) (b := 0) (tgt := 51) hx hb dX1_least_43 dX1_least_44 (by decide) (by omega) (by omega) (fun h => ?_) (fun h => ?_)
        · refine lv_iconst (v := (nI 0)) hx hb dX1_least_51 (by decide +kernel) ?_
          refine lv_iconst (v := (nI 2)) hx hb dX1_least_52 (by decide +kernel) ?_
          refine sd_calli (va_runV (As := [.int (nI 0), .int (nI 2)]) (rest := []) ⟨hx, hb, hml, hown, hts0⟩ (m_fails0 l dC dI cL cZ h1 a1 a2 a3 a4 0 n w sh ke go rfl 2) (cwV 2 hts0 (sd_gV k_methodLink_X1_38 k_instanceMethod_X1_fails k_sel_X1_fails k_init_ShareDeskModel k_code_X1_fails) rfl rfl rfl (by decide +kernel) ⟨Nat.le_of_ble_eq_true rfl, Nat.le_of_ble_eq_true rfl⟩) (sd_preV hK hP (q0 := 0) (ci := 1) rfl rfl) rfl rfl hl.1 rfl (lv_room (Nat.le_of_ble_eq_true rfl)) dX1_least_53 ⟨Nat.zero_le _, Nat.zero_le _⟩) ?_
          refine sd_iz_eq (a := 0) (tgt := 61) hx hb dX1_least_56 (by decide) (by omega) (fun h => ?_) (fun h => ?_)
          · refine lv_aload_n hx hb dX1_least_61 rfl (lv_at hl 0 rfl) ?_
            refine lv_iload_n hx hb dX1_least_62 rfl (lv_at hl 1 rfl) ?_
            refine lv_iconst (v := (nI 0)) hx hb dX1_least_63 (by decide +kernel) ?_
            refine sd_wv (va_runV (As := [.int (nI y), .int (nI 0)]) (rest := []) ⟨hx, hb, hml, hown, hts0⟩ (m_give l dC dI cL cZ h1 a1 a2 a3 a4 0 n w sh ke go H.size ok hW y 0 hy (by omega)) (cwV 2 hts0 (sd_gV k_methodLink_X1_64 k_instanceMethod_X1_give k_sel_X1_give k_init_ShareDeskModel k_code_X1_give) rfl rfl rfl (by decide +kernel) ⟨Nat.le_of_ble_eq_true rfl, Nat.le_of_ble_eq_true rfl⟩) (sd_preVw hK hP hD (q0 := 0) (ci := 1) rfl rfl) rfl rfl hl.1 rfl (lv_room (Nat.le_of_ble_eq_true rfl)) dX1_least_64 ⟨Nat.zero_le _, Nat.zero_le _⟩) hD hS hA (fun u_ H locs hpo hP hD hS => ?_)
            obtain ⟨sh, ke1, go⟩ := u_
            try dsimp only at hpo
            have hP : va_P (dC, dI) vwCl [(h1, .inr (1, [.int (nI 0), .int (nI n), .ref a1, .ref a2, .ref a3, .ref a4])), (a1, .inl (cL, 8, .inr (.inl (fun z => lN (w z))))), (a2, .inl (cL, 8, .inr (.inl sh))), (a3, .inl (cL, 8, .inr (.inl ke1))), (a4, .inl (cZ, 8, .inl go))] H := hP
            have hD : va_D A [(h1, .inr (1, [.int (nI 0), .int (nI n), .ref a1, .ref a2, .ref a3, .ref a4])), (a1, .inl (cL, 8, .inr (.inl (fun z => lN (w z))))), (a2, .inl (cL, 8, .inr (.inl sh))), (a3, .inl (cL, 8, .inr (.inl ke1))), (a4, .inl (cZ, 8, .inl go))] := hD
            obtain ⟨hpo, hke⟩ := hpo
            rw [hke] at hP hD
            have hP : va_P (dC, dI) vwCl [(h1, .inr (1, [.int (nI 0), .int (nI n), .ref a1, .ref a2, .ref a3, .ref a4])), (a1, .inl (cL, 8, .inr (.inl (fun z => lN (w z))))), (a2, .inl (cL, 8, .inr (.inl sh))), (a3, .inl (cL, 8, .inr (.inl ke))), (a4, .inl (cZ, 8, .inl go))] H := hP
            have hD : va_D A [(h1, .inr (1, [.int (nI 0), .int (nI n), .ref a1, .ref a2, .ref a3, .ref a4])), (a1, .inl (cL, 8, .inr (.inl (fun z => lN (w z))))), (a2, .inl (cL, 8, .inr (.inl sh))), (a3, .inl (cL, 8, .inr (.inl ke))), (a4, .inl (cZ, 8, .inl go))] := hD
            refine lv_iconst (v := (nI 0)) hx hb dX1_least_67 (by decide +kernel) ?_
            refine lv_istore hx hb dX1_least_68 hl (by decide) rfl (fun ls hl => ?_)
            have hl : lv_has ls 5 [(4, .int (nI 0)), (0, .ref h1), (1, .int (nI y)), (2, .int (nI k)), (3, .int (nI q))] := hl
            have hl := lv_sub (l' := [(0, .ref h1), (1, .int (nI y)), (2, .int (nI k)), (3, .int (nI q)), (4, .int (nI 0))]) hl [1, 2, 3, 4, 0] rfl
            refine lp_mleast (er := 0) hx hb hml hts0 hown A s.heap hA hK ok hW y k q hy hk hq ⟨Nat.le_of_ble_eq_true rfl, Nat.le_of_ble_eq_true rfl⟩ ⟨Nat.le_of_ble_eq_true rfl, Nat.le_of_ble_eq_true rfl⟩ ⟨Nat.zero_le _, Nat.zero_le _⟩ (fun hz H locs sh ke go ls hP hD hS => ?_) (fun i hi hz H locs sh ke go ls hP hD hS => ?_) 10001 0 (by omega) H locs sh ke go ls hP hD hS ⟨fun hy0 j hj => ?_, fun j hj => absurd hj (Nat.not_lt_zero _)⟩ hl
            · refine sd_topi (y := sd_oi (sd_lst (fun j => decide (k ≤ sd_U y w n j q)) 10001)) (by rw [hz]; rfl) ?_
              exact W.iret hx hb hr (fun t ht hW => ⟨⟨_, (sh, ke, go), rfl, rfl, by rw [ht]; exact hP, va_K.moved hW.alike hK, by rw [← hAe]; exact hD⟩, by rw [← hAe]; exact hS.F ht⟩) (fun q hq => by rw [← hAe]; exact hS.2.2 q hq) dX1_least_119
            · refine sd_topi (y := sd_oi (sd_lst (fun j => decide (k ≤ sd_U y w n j q)) 10001)) (by rw [hz]; rfl) ?_
              exact W.iret hx hb hr (fun t ht hW => ⟨⟨_, (sh, ke, go), rfl, rfl, by rw [ht]; exact hP, va_K.moved hW.alike hK, by rw [← hAe]; exact hD⟩, by rw [← hAe]; exact hS.F ht⟩) (fun q hq => by rw [← hAe]; exact hS.2.2 q hq) dX1_least_102
            · rw [hpo j hj]; unfold sd_U; rw [if_neg (by omega)]
          · exact absurd h (by omega)
        · exact absurd h (by omega)
    · have hc1 : sd_rg (nI q) 0 (n - 1) = false := hc1
      exact absurd hc1 (by rw [sd_rg_nI (by omega) (by omega) (by omega) (by omega)]; decide)
end
section
set_option maxHeartbeats 4000000 in
set_option maxRecDepth 100000 in
theorem lp_mcount {p : Program} {l : Launch} {e : Env} {R : Room} {s : State} {m : MethodId} {args : Array Value} {below : List Frame} {meth : Method} {c : Code} {H : Heap} {locs : List Loc} {cells slots : Nat} {Q : State → Prop} (hx : p.tables.exec = Jvm.exec) (hb : c.code = cX1_count) (hml : c.maxLocals = 4) (hts0 : ∀ w ∈ (sd_ws yX1_count cX1_count 4 (some .int)), w.before args s = true) (hown : s.vm.findClass RX1 = some m.cls) {dC : Nat → ClassId} {dI : Nat → Nat → Nat} {cL cZ : ClassId} {h1 a1 a2 a3 a4 er n : Nat} {w : Nat → Nat} {sh ke : Nat → Int64} {go : Nat → Int32} (hK : va_K (dC, dI) vwCl [(cL, .long), (cZ, .boolean)] s) (hP : va_P (dC, dI) vwCl (sd_M cL cZ h1 a1 a2 a3 a4 er n w sh ke go) H) (ok : sd_ok n w) (k : Nat)
    (kk : ∀ ls : Array Slot, lv_has ls 4 [(0, .ref h1), (1, .int (nI k)), (2, .int (nI (sd_cnt (fun j => decide (0 < w j)) n))), (3, .int (nI n))] → W p l e R s m args below meth c H locs cells slots Q (F0 m 64 ls []))
    : ∀ (f i : Nat), i + f = n → ∀ ls : Array Slot, lv_has ls 4 [(0, .ref h1), (1, .int (nI k)), (2, .int (nI (sd_cnt (fun j => decide (0 < w j)) i))), (3, .int (nI i))] → W p l e R s m args below meth c H locs cells slots Q (F0 m 36 ls []) := by
  have hts : ∀ w ∈ sd_WS, w.before args s = true := fun w h => hts0 w (List.mem_cons_of_mem _ h)
  have hP : va_P (dC, dI) vwCl [(h1, .inr (1, [.int (nI er), .int (nI n), .ref a1, .ref a2, .ref a3, .ref a4])), (a1, .inl (cL, 8, .inr (.inl (fun z => lN (w z))))), (a2, .inl (cL, 8, .inr (.inl sh))), (a3, .inl (cL, 8, .inr (.inl ke))), (a4, .inl (cZ, 8, .inl go))] H := hP
  have hn8 := ok.2.1
  intro f
  induction f using Nat.strongRecOn with
  | ind f ih0 =>
    intro i hi ls hl
    have ih : i < n → ∀ ls : Array Slot, lv_has ls 4 [(0, .ref h1), (1, .int (nI k)), (2, .int (nI (sd_cnt (fun j => decide (0 < w j)) (i + 1)))), (3, .int (nI (i + 1)))] → W p l e R s m args below meth c H locs cells slots Q (F0 m 36 ls []) := fun hlt => ih0 (f - 1) (by omega) (i + 1) (by omega)
    have hcb := sd_cnt_lim (fun j => decide (0 < w j)) i
    have hwi := ok.2.2.1 i
    refine lv_iload_n hx hb dX1_count_36 rfl (lv_at hl 3 rfl) ?_
    refine lv_aload_n hx hb dX1_count_37 rfl (lv_at hl 0 rfl) ?_
    refine va_get (D := (dC, dI)) (ci := 1) (v := .int (nI n)) (C := RX1) (T := TX1) (N := 6) hx hb hts u_in_X1 hown hK hP 0 rfl rfl 1 (by decide) (hts (.fieldLink RX1 7 "ShareDeskModel" "parties" "I") k_fieldLink_X1_7) (fun _ h9 => h9) rfl dX1_count_38 ?_
    refine sd_ic_ge (a := i) (b := n) (tgt := 64) hx hb dX1_count_41 (by decide) (by omega) (by omega) (fun h => ?_) (fun h => ?_)
    · have hin : i = n := by omega
      subst hin
      exact kk ls hl
    · refine lv_aload_n hx hb dX1_count_44 rfl (lv_at hl 0 rfl) ?_
      refine va_get (D := (dC, dI)) (ci := 1) (v := .ref a1) (C := RX1) (T := TX1) (N := 6) hx hb hts u_in_X1 hown hK hP 0 rfl rfl 2 (by decide) (hts (.fieldLink RX1 13 "ShareDeskModel" "weights" "[J") k_fieldLink_X1_13) (fun _ h9 => h9) rfl dX1_count_45 ?_
      refine lv_iload_n hx hb dX1_count_48 rfl (lv_at hl 3 rfl) ?_
      refine sd_lald (j := i) (v := lN (w i)) hx hb hK hP 1 0 rfl rfl (by omega) (by decide) rfl dX1_count_49 ?_
      refine lv_lconst (v := lN 0) hx hb dX1_count_50 rfl ?_
      refine sd_lc_le (a := w i) (b := 0) (tgt := 58) hx hb dX1_count_51 dX1_count_52 (by decide) (by omega) (by omega) (fun h => ?_) (fun h => ?_)
      · have e1 : sd_cnt (fun j => decide (0 < w j)) (i + 1) = sd_cnt (fun j => decide (0 < w j)) i := by rw [sd_cnt_s, decide_eq_false (by omega)]; rfl
        refine lv_iinc (k := 3) (v := nI (i + 1)) hx hb dX1_count_58 hl rfl (nI_add _ 1) (by decide) rfl (fun ls hl => ?_)
        have hl : lv_has ls 4 [(3, .int (nI (i + 1))), (0, .ref h1), (1, .int (nI k)), (2, .int (nI (sd_cnt (fun j => decide (0 < w j)) i)))] := hl
        refine lv_goto (tgt := 36) hx hb dX1_count_61 (by decide) ?_
        have hl := lv_sub (l' := [(0, .ref h1), (1, .int (nI k)), (2, .int (nI (sd_cnt (fun j => decide (0 < w j)) i))), (3, .int (nI (i + 1)))]) hl [1, 2, 3, 0] rfl
        rw [← e1] at hl
        exact ih (by omega) ls hl
      · have e1 : sd_cnt (fun j => decide (0 < w j)) (i + 1) = sd_cnt (fun j => decide (0 < w j)) i + 1 := by rw [sd_cnt_s, decide_eq_true h]; rfl
        refine lv_iinc (k := 2) (v := nI (sd_cnt (fun j => decide (0 < w j)) i + 1)) hx hb dX1_count_55 hl rfl (nI_add _ 1) (by decide) rfl (fun ls hl => ?_)
        have hl : lv_has ls 4 [(2, .int (nI (sd_cnt (fun j => decide (0 < w j)) i + 1))), (0, .ref h1), (1, .int (nI k)), (3, .int (nI i))] := hl
        refine lv_iinc (k := 3) (v := nI (i + 1)) hx hb dX1_count_58 hl rfl (nI_add _ 1) (by decide) rfl (fun ls hl => ?_)
        have hl : lv_has ls 4 [(3, .int (nI (i + 1))), (2, .int (nI (sd_cnt (fun j => decide (0 < w j)) i + 1))), (0, .ref h1), (1, .int (nI k))] := hl
        refine lv_goto (tgt := 36) hx hb dX1_count_61 (by decide) ?_
        have hl := lv_sub (l' := [(0, .ref h1), (1, .int (nI k)), (2, .int (nI (sd_cnt (fun j => decide (0 < w j)) i + 1))), (3, .int (nI (i + 1)))]) hl [2, 3, 1, 0] rfl
        rw [← e1] at hl
        exact ih (by omega) ls hl
set_option maxHeartbeats 4000000 in
set_option maxRecDepth 100000 in
theorem m_count_bad (l : Launch) (dC : Nat → ClassId) (dI : Nat → Nat → Nat) (cL cZ : ClassId) (h1 a1 a2 a3 a4 er n : Nat) (w : Nat → Nat) (sh ke : Nat → Int64) (go : Nat → Int32) (sz : Nat) (hn1 : 1 ≤ n) (hn8 : n ≤ 8) (x1 : Int32) (hbad : sd_rg x1 0 2 = false) : Met l yX1_count (sd_ws yX1_count cX1_count 4 (some .int)) (sd_rm 3 0 0) (sd_Pw (dC, dI) vwCl [(cL, .long), (cZ, .boolean)] (sd_M cL cZ h1 a1 a2 a3 a4 er n w sh ke go) sz [.ref h1, .int x1]) (va_Qi (fun r (v_ : sd_S) => r = nI 0) (sd_Bw (dC, dI) vwCl [(cL, .long), (cZ, .boolean)] (sd_M cL cZ h1 a1 a2 a3 a4 er n w sh ke go) sz (fun v_ => (sd_M cL cZ h1 a1 a2 a3 a4 1 n w v_.1 v_.2.1 v_.2.2))) (va_A (sd_M cL cZ h1 a1 a2 a3 a4 er n w sh ke go) sz)) 0 0 (va_A (sd_M cL cZ h1 a1 a2 a3 a4 er n w sh ke go) sz) := by
  refine Met.ofW (cc := cX1_count) (maxL := 4) (ret := (some .int)) (by decide) rfl ?_
  intro p e s m args below meth c s₁ B hml hv
  obtain ⟨rfl, hsz, hP, hK, hD0⟩ := hv
  subst hsz
  have hx := B.exec
  have hb := B.bytes
  have hr := B.returns
  have hts0 := atoms_spec (ws := (sd_ws yX1_count cX1_count 4 (some .int))) B.pre
  have hts : ∀ w ∈ sd_WS, w.before _ s = true := fun w h => hts0 w (List.mem_cons_of_mem _ h)
  have hown : s.vm.findClass RX1 = some m.cls := findClass_of_methodNamed B.named
  have hlocks := B.notSynchronized
  have hl := lv_entry ([.ref h1, .int x1]) (n := 4) (Nat.le_of_ble_eq_true rfl)
  rw [lg_entry_eq]
  generalize (lg_sl ([.ref h1, .int x1]) ++ List.replicate (4 - (lg_sl ([.ref h1, .int x1])).length) Slot.unset).toArray = ls at hl ⊢
  have hl : lv_has ls 4 [(0, .ref h1), (1, .int x1)] := hl
  obtain ⟨A, hAe⟩ : ∃ A, A = va_A (sd_M cL cZ h1 a1 a2 a3 a4 er n w sh ke go) s.heap.size := ⟨_, rfl⟩
  have hD : va_D A (sd_M cL cZ h1 a1 a2 a3 a4 er n w sh ke go) := by rw [hAe]; exact hD0.self
  have hA : ∀ q : Nat, s.heap.size ≤ q → A q := fun q h => by rw [hAe]; exact Or.inr h
  have hS : va_S A s.heap s.heap [] := va_S.rf
  have hP : va_P (dC, dI) vwCl [(h1, .inr (1, [.int (nI er), .int (nI n), .ref a1, .ref a2, .ref a3, .ref a4])), (a1, .inl (cL, 8, .inr (.inl (fun z => lN (w z))))), (a2, .inl (cL, 8, .inr (.inl sh))), (a3, .inl (cL, 8, .inr (.inl ke))), (a4, .inl (cZ, 8, .inl go))] s.heap := hP
  have hD : va_D A [(h1, .inr (1, [.int (nI er), .int (nI n), .ref a1, .ref a2, .ref a3, .ref a4])), (a1, .inl (cL, 8, .inr (.inl (fun z => lN (w z))))), (a2, .inl (cL, 8, .inr (.inl sh))), (a3, .inl (cL, 8, .inr (.inl ke))), (a4, .inl (cZ, 8, .inl go))] := hD
  refine lv_aload_n hx hb dX1_count_0 rfl (lv_at hl 0 rfl) ?_
  refine lv_iconst (v := (nI 0)) hx hb dX1_count_1 (by decide +kernel) ?_
  refine va_put (D := (dC, dI)) (ci := 1) (v := .int (nI 0)) (ty := .int) (C := RX1) (T := TX1) (N := 6) hx hb hts u_in_X1 tyX1 tyX1_ok nmX1 hown hK hP hD hS 0 rfl rfl 0 (by decide) (hts (.fieldLink RX1 27 "ShareDeskModel" "err" "I") k_fieldLink_X1_27) (fun _ h9 => h9) rfl (by decide +kernel) rfl rfl (Nat.le_of_ble_eq_true rfl) dX1_count_2 (fun H locs hP hD hS => ?_)
  have hP : va_P (dC, dI) vwCl [(h1, .inr (1, [.int (nI 0), .int (nI n), .ref a1, .ref a2, .ref a3, .ref a4])), (a1, .inl (cL, 8, .inr (.inl (fun z => lN (w z))))), (a2, .inl (cL, 8, .inr (.inl sh))), (a3, .inl (cL, 8, .inr (.inl ke))), (a4, .inl (cZ, 8, .inl go))] H := hP
  have hD : va_D A [(h1, .inr (1, [.int (nI 0), .int (nI n), .ref a1, .ref a2, .ref a3, .ref a4])), (a1, .inl (cL, 8, .inr (.inl (fun z => lN (w z))))), (a2, .inl (cL, 8, .inr (.inl sh))), (a3, .inl (cL, 8, .inr (.inl ke))), (a4, .inl (cZ, 8, .inl go))] := hD
  refine lv_aload_n hx hb dX1_count_5 rfl (lv_at hl 0 rfl) ?_
  refine lv_iload_n hx hb dX1_count_6 rfl (lv_at hl 1 rfl) ?_
  refine lv_i2l (v := x1.toInt64) hx hb dX1_count_7 rfl ?_
  refine lv_lconst (v := lN 0) hx hb dX1_count_8 rfl ?_
  refine lv_ldc2 (v := 2) hx hb hown (hts (.constantLong RX1 34 2) k_constantLong_X1_34) dX1_count_9 ?_
  refine sd_topl (y := lN 2) (by decide +kernel) ?_
  refine sd_calli (va_runS (As := [.long (x1.toInt64), .long (lN 0), .long (lN 2)]) (rest := [.ref h1]) ⟨hx, hb, hml, hown, hts0⟩ (m_in l dC dI x1.toInt64 (lN 0) (lN 2)) (cwS 3 hts0 (sd_gS k_methodLink_X1_30 k_static_X1_in k_init_ShareDeskModel k_code_X1_in) rfl rfl rfl (by decide +kernel) ⟨Nat.le_of_ble_eq_true rfl, Nat.le_of_ble_eq_true rfl⟩) (sd_preS (sd_K0 hK) (sd_nil _ _ _)) rfl rfl hl.1 rfl (lv_room (Nat.le_of_ble_eq_true rfl)) dX1_count_12 ⟨Nat.zero_le _, Nat.zero_le _⟩) ?_
  refine sd_bz_ne (tgt := 22) hx hb dX1_count_15 (by decide) (fun hc0 => ?_) (fun hc0 => ?_)
  · have hc0 : sd_rg x1 0 2 = true := hc0
    exact absurd hbad (by simp [hc0])
  · have hc0 : sd_rg x1 0 2 = false := hc0
    refine lv_iconst (v := (nI 1)) hx hb dX1_count_18 (by decide +kernel) ?_
    refine lv_goto (tgt := 23) hx hb dX1_count_19 (by decide) ?_
    refine lv_iconst (v := (nI 1)) hx hb dX1_count_23 (by decide +kernel) ?_
    refine sd_wi (va_runV (As := [.int (nI 1), .int (nI 1)]) (rest := []) ⟨hx, hb, hml, hown, hts0⟩ (m_fails1 l dC dI cL cZ h1 a1 a2 a3 a4 0 n w sh ke go H.size rfl 1 (by decide) (by decide)) (cwV 2 hts0 (sd_gV k_methodLink_X1_38 k_instanceMethod_X1_fails k_sel_X1_fails k_init_ShareDeskModel k_code_X1_fails) rfl rfl rfl (by decide +kernel) ⟨Nat.le_of_ble_eq_true rfl, Nat.le_of_ble_eq_true rfl⟩) (sd_preVw hK hP hD (q0 := 0) (ci := 1) rfl rfl) rfl rfl hl.1 rfl (lv_room (Nat.le_of_ble_eq_true rfl)) dX1_count_24 ⟨Nat.zero_le _, Nat.zero_le _⟩) hD hS hA (fun r_ u_ H locs hpo hP hD hS => ?_)
    obtain ⟨sh, ke, go⟩ := u_
    try dsimp only at hpo
    have hP : va_P (dC, dI) vwCl [(h1, .inr (1, [.int (nI 1), .int (nI n), .ref a1, .ref a2, .ref a3, .ref a4])), (a1, .inl (cL, 8, .inr (.inl (fun z => lN (w z))))), (a2, .inl (cL, 8, .inr (.inl sh))), (a3, .inl (cL, 8, .inr (.inl ke))), (a4, .inl (cZ, 8, .inl go))] H := hP
    have hD : va_D A [(h1, .inr (1, [.int (nI 1), .int (nI n), .ref a1, .ref a2, .ref a3, .ref a4])), (a1, .inl (cL, 8, .inr (.inl (fun z => lN (w z))))), (a2, .inl (cL, 8, .inr (.inl sh))), (a3, .inl (cL, 8, .inr (.inl ke))), (a4, .inl (cZ, 8, .inl go))] := hD
    subst hpo
    refine sd_iz_eq (a := 1) (tgt := 32) hx hb dX1_count_27 (by decide) (by omega) (fun h => ?_) (fun h => ?_)
    · exact absurd h (by omega)
    · refine lv_iconst (v := (nI 0)) hx hb dX1_count_30 (by decide +kernel) ?_
      exact W.iret hx hb hr (fun t ht hW => ⟨⟨_, (sh, ke, go), rfl, rfl, by rw [ht]; exact hP, va_K.moved hW.alike hK, by rw [← hAe]; exact hD⟩, by rw [← hAe]; exact hS.F ht⟩) (fun q hq => by rw [← hAe]; exact hS.2.2 q hq) dX1_count_31
set_option maxHeartbeats 4000000 in
set_option maxRecDepth 100000 in
theorem m_count (l : Launch) (dC : Nat → ClassId) (dI : Nat → Nat → Nat) (cL cZ : ClassId) (h1 a1 a2 a3 a4 er n : Nat) (w : Nat → Nat) (sh ke : Nat → Int64) (go : Nat → Int32) (sz : Nat) (ok : sd_ok n w) (k : Nat) (hk : k ≤ 2) : Met l yX1_count (sd_ws yX1_count cX1_count 4 (some .int)) (sd_rm 3 0 0) (sd_Pw (dC, dI) vwCl [(cL, .long), (cZ, .boolean)] (sd_M cL cZ h1 a1 a2 a3 a4 er n w sh ke go) sz [.ref h1, .int (nI k)]) (va_Qi (fun r (v_ : sd_S) => r = nI (if k = 0 then n else if k = 1 then sd_sum w n else sd_cnt (fun j => decide (0 < w j)) n)) (sd_Bw (dC, dI) vwCl [(cL, .long), (cZ, .boolean)] (sd_M cL cZ h1 a1 a2 a3 a4 er n w sh ke go) sz (fun v_ => (sd_M cL cZ h1 a1 a2 a3 a4 0 n w v_.1 v_.2.1 v_.2.2))) (va_A (sd_M cL cZ h1 a1 a2 a3 a4 er n w sh ke go) sz)) 0 0 (va_A (sd_M cL cZ h1 a1 a2 a3 a4 er n w sh ke go) sz) := by
  refine Met.ofW (cc := cX1_count) (maxL := 4) (ret := (some .int)) (by decide) rfl ?_
  intro p e s m args below meth c s₁ B hml hv
  obtain ⟨rfl, hsz, hP, hK, hD0⟩ := hv
  subst hsz
  have hx := B.exec
  have hb := B.bytes
  have hr := B.returns
  have hts0 := atoms_spec (ws := (sd_ws yX1_count cX1_count 4 (some .int))) B.pre
  have hts : ∀ w ∈ sd_WS, w.before _ s = true := fun w h => hts0 w (List.mem_cons_of_mem _ h)
  have hown : s.vm.findClass RX1 = some m.cls := findClass_of_methodNamed B.named
  have hlocks := B.notSynchronized
  have hl := lv_entry ([.ref h1, .int (nI k)]) (n := 4) (Nat.le_of_ble_eq_true rfl)
  rw [lg_entry_eq]
  generalize (lg_sl ([.ref h1, .int (nI k)]) ++ List.replicate (4 - (lg_sl ([.ref h1, .int (nI k)])).length) Slot.unset).toArray = ls at hl ⊢
  have hl : lv_has ls 4 [(0, .ref h1), (1, .int (nI k))] := hl
  obtain ⟨A, hAe⟩ : ∃ A, A = va_A (sd_M cL cZ h1 a1 a2 a3 a4 er n w sh ke go) s.heap.size := ⟨_, rfl⟩
  have hD : va_D A (sd_M cL cZ h1 a1 a2 a3 a4 er n w sh ke go) := by rw [hAe]; exact hD0.self
  have hA : ∀ q : Nat, s.heap.size ≤ q → A q := fun q h => by rw [hAe]; exact Or.inr h
  have hS : va_S A s.heap s.heap [] := va_S.rf
  have hP : va_P (dC, dI) vwCl [(h1, .inr (1, [.int (nI er), .int (nI n), .ref a1, .ref a2, .ref a3, .ref a4])), (a1, .inl (cL, 8, .inr (.inl (fun z => lN (w z))))), (a2, .inl (cL, 8, .inr (.inl sh))), (a3, .inl (cL, 8, .inr (.inl ke))), (a4, .inl (cZ, 8, .inl go))] s.heap := hP
  have hD : va_D A [(h1, .inr (1, [.int (nI er), .int (nI n), .ref a1, .ref a2, .ref a3, .ref a4])), (a1, .inl (cL, 8, .inr (.inl (fun z => lN (w z))))), (a2, .inl (cL, 8, .inr (.inl sh))), (a3, .inl (cL, 8, .inr (.inl ke))), (a4, .inl (cZ, 8, .inl go))] := hD
  have hn1 := ok.1
  have hn8 := ok.2.1
  refine lv_aload_n hx hb dX1_count_0 rfl (lv_at hl 0 rfl) ?_
  refine lv_iconst (v := (nI 0)) hx hb dX1_count_1 (by decide +kernel) ?_
  refine va_put (D := (dC, dI)) (ci := 1) (v := .int (nI 0)) (ty := .int) (C := RX1) (T := TX1) (N := 6) hx hb hts u_in_X1 tyX1 tyX1_ok nmX1 hown hK hP hD hS 0 rfl rfl 0 (by decide) (hts (.fieldLink RX1 27 "ShareDeskModel" "err" "I") k_fieldLink_X1_27) (fun _ h9 => h9) rfl (by decide +kernel) rfl rfl (Nat.le_of_ble_eq_true rfl) dX1_count_2 (fun H locs hP hD hS => ?_)
  have hP : va_P (dC, dI) vwCl [(h1, .inr (1, [.int (nI 0), .int (nI n), .ref a1, .ref a2, .ref a3, .ref a4])), (a1, .inl (cL, 8, .inr (.inl (fun z => lN (w z))))), (a2, .inl (cL, 8, .inr (.inl sh))), (a3, .inl (cL, 8, .inr (.inl ke))), (a4, .inl (cZ, 8, .inl go))] H := hP
  have hD : va_D A [(h1, .inr (1, [.int (nI 0), .int (nI n), .ref a1, .ref a2, .ref a3, .ref a4])), (a1, .inl (cL, 8, .inr (.inl (fun z => lN (w z))))), (a2, .inl (cL, 8, .inr (.inl sh))), (a3, .inl (cL, 8, .inr (.inl ke))), (a4, .inl (cZ, 8, .inl go))] := hD
  refine lv_aload_n hx hb dX1_count_5 rfl (lv_at hl 0 rfl) ?_
  refine lv_iload_n hx hb dX1_count_6 rfl (lv_at hl 1 rfl) ?_
  refine lv_i2l (v := (nI k).toInt64) hx hb dX1_count_7 rfl ?_
  refine lv_lconst (v := lN 0) hx hb dX1_count_8 rfl ?_
  refine lv_ldc2 (v := 2) hx hb hown (hts (.constantLong RX1 34 2) k_constantLong_X1_34) dX1_count_9 ?_
  refine sd_topl (y := lN 2) (by decide +kernel) ?_
  refine sd_calli (va_runS (As := [.long ((nI k).toInt64), .long (lN 0), .long (lN 2)]) (rest := [.ref h1]) ⟨hx, hb, hml, hown, hts0⟩ (m_in l dC dI (nI k).toInt64 (lN 0) (lN 2)) (cwS 3 hts0 (sd_gS k_methodLink_X1_30 k_static_X1_in k_init_ShareDeskModel k_code_X1_in) rfl rfl rfl (by decide +kernel) ⟨Nat.le_of_ble_eq_true rfl, Nat.le_of_ble_eq_true rfl⟩) (sd_preS (sd_K0 hK) (sd_nil _ _ _)) rfl rfl hl.1 rfl (lv_room (Nat.le_of_ble_eq_true rfl)) dX1_count_12 ⟨Nat.zero_le _, Nat.zero_le _⟩) ?_
  refine sd_bz_ne (tgt := 22) hx hb dX1_count_15 (by decide) (fun h => ?_) (fun h => ?_)
  · refine lv_iconst (v := (nI 0)) hx hb dX1_count_22 (by decide +kernel) ?_
    refine lv_iconst (v := (nI 1)) hx hb dX1_count_23 (by decide +kernel) ?_
    refine sd_calli (va_runV (As := [.int (nI 0), .int (nI 1)]) (rest := []) ⟨hx, hb, hml, hown, hts0⟩ (m_fails0 l dC dI cL cZ h1 a1 a2 a3 a4 0 n w sh ke go rfl 1) (cwV 2 hts0 (sd_gV k_methodLink_X1_38 k_instanceMethod_X1_fails k_sel_X1_fails k_init_ShareDeskModel k_code_X1_fails) rfl rfl rfl (by decide +kernel) ⟨Nat.le_of_ble_eq_true rfl, Nat.le_of_ble_eq_true rfl⟩) (sd_preV hK hP (q0 := 0) (ci := 1) rfl rfl) rfl rfl hl.1 rfl (lv_room (Nat.le_of_ble_eq_true rfl)) dX1_count_24 ⟨Nat.zero_le _, Nat.zero_le _⟩) ?_
    refine sd_iz_eq (a := 0) (tgt := 32) hx hb dX1_count_27 (by decide) (by omega) (fun h => ?_) (fun h => ?_)
    · refine lv_iconst (v := (nI 0)) hx hb dX1_count_32 (by decide +kernel) ?_
      refine lv_istore_n hx hb dX1_count_33 rfl hl (by decide) rfl (fun ls hl => ?_)
      have hl : lv_has ls 4 [(2, .int (nI 0)), (0, .ref h1), (1, .int (nI k))] := hl
      refine lv_iconst (v := (nI 0)) hx hb dX1_count_34 (by decide +kernel) ?_
      refine lv_istore_n hx hb dX1_count_35 rfl hl (by decide) rfl (fun ls hl => ?_)
      have hl : lv_has ls 4 [(3, .int (nI 0)), (2, .int (nI 0)), (0, .ref h1), (1, .int (nI k))] := hl
      have hl := lv_sub (l' := [(0, .ref h1), (1, .int (nI k)), (2, .int (nI 0)), (3, .int (nI 0))]) hl [2, 3, 1, 0] rfl
      refine lp_mcount hx hb hml hts0 hown hK hP ok k (fun ls hl => ?_) n 0 (by omega) ls hl
      refine lv_iload_n hx hb dX1_count_64 rfl (lv_at hl 1 rfl) ?_
      refine sd_iz_ne (a := k) (tgt := 75) hx hb dX1_count_65 (by decide) (by omega) (fun h => ?_) (fun h => ?_)
      · refine lv_iload_n hx hb dX1_count_75 rfl (lv_at hl 1 rfl) ?_
        refine lv_iconst (v := (nI 1)) hx hb dX1_count_76 (by decide +kernel) ?_
        refine sd_ic_ne (a := k) (b := 1) (tgt := 88) hx hb dX1_count_77 (by decide) (by omega) (by omega) (fun h => ?_) (fun h => ?_)
        · refine lv_iload_n hx hb dX1_count_88 rfl (lv_at hl 2 rfl) ?_
          refine sd_topi (y := nI (if k = 0 then n else if k = 1 then sd_sum w n else sd_cnt (fun j => decide (0 < w j)) n)) (by rw [if_neg (by omega), if_neg h]) ?_
          exact W.iret hx hb hr (fun t ht hW => ⟨⟨_, (sh, ke, go), rfl, rfl, by rw [ht]; exact hP, va_K.moved hW.alike hK, by rw [← hAe]; exact hD⟩, by rw [← hAe]; exact hS.F ht⟩) (fun q hq => by rw [← hAe]; exact hS.2.2 q hq) dX1_count_89
        · have hk1 := h
          refine lv_aload_n hx hb dX1_count_80 rfl (lv_at hl 0 rfl) ?_
          refine sd_calll (va_runV (As := []) (rest := []) ⟨hx, hb, hml, hown, hts0⟩ (m_all l dC dI cL cZ h1 a1 a2 a3 a4 0 n w sh ke go hn8) (cwV 0 hts0 (sd_gV k_methodLink_X1_48 k_instanceMethod_X1_all k_sel_X1_all k_init_ShareDeskModel k_code_X1_all) rfl rfl rfl (by decide +kernel) ⟨Nat.le_of_ble_eq_true rfl, Nat.le_of_ble_eq_true rfl⟩) (sd_preV hK hP (q0 := 0) (ci := 1) rfl rfl) rfl rfl hl.1 rfl (lv_room (Nat.le_of_ble_eq_true rfl)) dX1_count_81 ⟨Nat.zero_le _, Nat.zero_le _⟩) ?_
          refine lv_l2i (v := nI (sd_sum w n)) hx hb dX1_count_84 (lN_i _) ?_
          refine lv_goto (tgt := 89) hx hb dX1_count_85 (by decide) ?_
          refine sd_topi (y := nI (if k = 0 then n else if k = 1 then sd_sum w n else sd_cnt (fun j => decide (0 < w j)) n)) (by rw [if_neg (by omega), if_pos hk1]) ?_
          exact W.iret hx hb hr (fun t ht hW => ⟨⟨_, (sh, ke, go), rfl, rfl, by rw [ht]; exact hP, va_K.moved hW.alike hK, by rw [← hAe]; exact hD⟩, by rw [← hAe]; exact hS.F ht⟩) (fun q hq => by rw [← hAe]; exact hS.2.2 q hq) dX1_count_89
      · subst h
        refine lv_aload_n hx hb dX1_count_68 rfl (lv_at hl 0 rfl) ?_
        refine va_get (D := (dC, dI)) (ci := 1) (v := .int (nI n)) (C := RX1) (T := TX1) (N := 6) hx hb hts u_in_X1 hown hK hP 0 rfl rfl 1 (by decide) (hts (.fieldLink RX1 7 "ShareDeskModel" "parties" "I") k_fieldLink_X1_7) (fun _ h9 => h9) rfl dX1_count_69 ?_
        refine lv_goto (tgt := 89) hx hb dX1_count_72 (by decide) ?_
        refine sd_topi (y := nI (if 0 = 0 then n else if 0 = 1 then sd_sum w n else sd_cnt (fun j => decide (0 < w j)) n)) rfl ?_
        exact W.iret hx hb hr (fun t ht hW => ⟨⟨_, (sh, ke, go), rfl, rfl, by rw [ht]; exact hP, va_K.moved hW.alike hK, by rw [← hAe]; exact hD⟩, by rw [← hAe]; exact hS.F ht⟩) (fun q hq => by rw [← hAe]; exact hS.2.2 q hq) dX1_count_89
    · exact absurd h (by omega)
  · exact absurd (show sd_rg (nI k) 0 2 = false from h) (by rw [sd_rg_nI (by omega) (by omega) (by omega) (by omega)]; decide)
set_option maxHeartbeats 4000000 in
set_option maxRecDepth 100000 in
theorem m_begin_bad (l : Launch) (dC : Nat → ClassId) (dI : Nat → Nat → Nat) (cL cZ : ClassId) (h1 a1 a2 a3 a4 er n : Nat) (w : Nat → Nat) (sh ke : Nat → Int64) (go : Nat → Int32) (sz : Nat) (hn1 : 1 ≤ n) (hn8 : n ≤ 8) (x1 : Int32) (hbad : sd_rg x1 1 8 = false) : Met l yX1_begin (sd_ws yX1_begin cX1_begin 3 none) (sd_rm 3 0 0) (sd_Pw (dC, dI) vwCl [(cL, .long), (cZ, .boolean)] (sd_M cL cZ h1 a1 a2 a3 a4 er n w sh ke go) sz [.ref h1, .int x1]) (va_Qv (fun (v_ : sd_S) => True) (sd_Bw (dC, dI) vwCl [(cL, .long), (cZ, .boolean)] (sd_M cL cZ h1 a1 a2 a3 a4 er n w sh ke go) sz (fun v_ => (sd_M cL cZ h1 a1 a2 a3 a4 1 n w v_.1 v_.2.1 v_.2.2))) (va_A (sd_M cL cZ h1 a1 a2 a3 a4 er n w sh ke go) sz)) 0 0 (va_A (sd_M cL cZ h1 a1 a2 a3 a4 er n w sh ke go) sz) := by
  refine Met.ofW (cc := cX1_begin) (maxL := 3) (ret := none) (by decide) rfl ?_
  intro p e s m args below meth c s₁ B hml hv
  obtain ⟨rfl, hsz, hP, hK, hD0⟩ := hv
  subst hsz
  have hx := B.exec
  have hb := B.bytes
  have hr := B.returns
  have hts0 := atoms_spec (ws := (sd_ws yX1_begin cX1_begin 3 none)) B.pre
  have hts : ∀ w ∈ sd_WS, w.before _ s = true := fun w h => hts0 w (List.mem_cons_of_mem _ h)
  have hown : s.vm.findClass RX1 = some m.cls := findClass_of_methodNamed B.named
  have hlocks := B.notSynchronized
  have hl := lv_entry ([.ref h1, .int x1]) (n := 3) (Nat.le_of_ble_eq_true rfl)
  rw [lg_entry_eq]
  generalize (lg_sl ([.ref h1, .int x1]) ++ List.replicate (3 - (lg_sl ([.ref h1, .int x1])).length) Slot.unset).toArray = ls at hl ⊢
  have hl : lv_has ls 3 [(0, .ref h1), (1, .int x1)] := hl
  obtain ⟨A, hAe⟩ : ∃ A, A = va_A (sd_M cL cZ h1 a1 a2 a3 a4 er n w sh ke go) s.heap.size := ⟨_, rfl⟩
  have hD : va_D A (sd_M cL cZ h1 a1 a2 a3 a4 er n w sh ke go) := by rw [hAe]; exact hD0.self
  have hA : ∀ q : Nat, s.heap.size ≤ q → A q := fun q h => by rw [hAe]; exact Or.inr h
  have hS : va_S A s.heap s.heap [] := va_S.rf
  have hP : va_P (dC, dI) vwCl [(h1, .inr (1, [.int (nI er), .int (nI n), .ref a1, .ref a2, .ref a3, .ref a4])), (a1, .inl (cL, 8, .inr (.inl (fun z => lN (w z))))), (a2, .inl (cL, 8, .inr (.inl sh))), (a3, .inl (cL, 8, .inr (.inl ke))), (a4, .inl (cZ, 8, .inl go))] s.heap := hP
  have hD : va_D A [(h1, .inr (1, [.int (nI er), .int (nI n), .ref a1, .ref a2, .ref a3, .ref a4])), (a1, .inl (cL, 8, .inr (.inl (fun z => lN (w z))))), (a2, .inl (cL, 8, .inr (.inl sh))), (a3, .inl (cL, 8, .inr (.inl ke))), (a4, .inl (cZ, 8, .inl go))] := hD
  refine lv_aload_n hx hb dX1_begin_0 rfl (lv_at hl 0 rfl) ?_
  refine lv_iconst (v := (nI 0)) hx hb dX1_begin_1 (by decide +kernel) ?_
  refine va_put (D := (dC, dI)) (ci := 1) (v := .int (nI 0)) (ty := .int) (C := RX1) (T := TX1) (N := 6) hx hb hts u_in_X1 tyX1 tyX1_ok nmX1 hown hK hP hD hS 0 rfl rfl 0 (by decide) (hts (.fieldLink RX1 27 "ShareDeskModel" "err" "I") k_fieldLink_X1_27) (fun _ h9 => h9) rfl (by decide +kernel) rfl rfl (Nat.le_of_ble_eq_true rfl) dX1_begin_2 (fun H locs hP hD hS => ?_)
  have hP : va_P (dC, dI) vwCl [(h1, .inr (1, [.int (nI 0), .int (nI n), .ref a1, .ref a2, .ref a3, .ref a4])), (a1, .inl (cL, 8, .inr (.inl (fun z => lN (w z))))), (a2, .inl (cL, 8, .inr (.inl sh))), (a3, .inl (cL, 8, .inr (.inl ke))), (a4, .inl (cZ, 8, .inl go))] H := hP
  have hD : va_D A [(h1, .inr (1, [.int (nI 0), .int (nI n), .ref a1, .ref a2, .ref a3, .ref a4])), (a1, .inl (cL, 8, .inr (.inl (fun z => lN (w z))))), (a2, .inl (cL, 8, .inr (.inl sh))), (a3, .inl (cL, 8, .inr (.inl ke))), (a4, .inl (cZ, 8, .inl go))] := hD
  refine lv_aload_n hx hb dX1_begin_5 rfl (lv_at hl 0 rfl) ?_
  refine lv_iload_n hx hb dX1_begin_6 rfl (lv_at hl 1 rfl) ?_
  refine lv_i2l (v := x1.toInt64) hx hb dX1_begin_7 rfl ?_
  refine lv_lconst (v := lN 1) hx hb dX1_begin_8 rfl ?_
  refine lv_ldc2 (v := 8) hx hb hown (hts (.constantLong RX1 36 8) k_constantLong_X1_36) dX1_begin_9 ?_
  refine sd_topl (y := lN 8) (by decide +kernel) ?_
  refine sd_calli (va_runS (As := [.long (x1.toInt64), .long (lN 1), .long (lN 8)]) (rest := [.ref h1]) ⟨hx, hb, hml, hown, hts0⟩ (m_in l dC dI x1.toInt64 (lN 1) (lN 8)) (cwS 3 hts0 (sd_gS k_methodLink_X1_30 k_static_X1_in k_init_ShareDeskModel k_code_X1_in) rfl rfl rfl (by decide +kernel) ⟨Nat.le_of_ble_eq_true rfl, Nat.le_of_ble_eq_true rfl⟩) (sd_preS (sd_K0 hK) (sd_nil _ _ _)) rfl rfl hl.1 rfl (lv_room (Nat.le_of_ble_eq_true rfl)) dX1_begin_12 ⟨Nat.zero_le _, Nat.zero_le _⟩) ?_
  refine sd_bz_ne (tgt := 22) hx hb dX1_begin_15 (by decide) (fun h => ?_) (fun h => ?_)
  · exact absurd (show sd_rg x1 1 8 = true from h) (by rw [hbad]; decide)
  · refine lv_iconst (v := (nI 1)) hx hb dX1_begin_18 (by decide +kernel) ?_
    refine lv_goto (tgt := 23) hx hb dX1_begin_19 (by decide) ?_
    refine lv_iconst (v := (nI 1)) hx hb dX1_begin_23 (by decide +kernel) ?_
    refine sd_wi (va_runV (As := [.int (nI 1), .int (nI 1)]) (rest := []) ⟨hx, hb, hml, hown, hts0⟩ (m_fails1 l dC dI cL cZ h1 a1 a2 a3 a4 0 n w sh ke go H.size rfl 1 (by decide) (by decide)) (cwV 2 hts0 (sd_gV k_methodLink_X1_38 k_instanceMethod_X1_fails k_sel_X1_fails k_init_ShareDeskModel k_code_X1_fails) rfl rfl rfl (by decide +kernel) ⟨Nat.le_of_ble_eq_true rfl, Nat.le_of_ble_eq_true rfl⟩) (sd_preVw hK hP hD (q0 := 0) (ci := 1) rfl rfl) rfl rfl hl.1 rfl (lv_room (Nat.le_of_ble_eq_true rfl)) dX1_begin_24 ⟨Nat.zero_le _, Nat.zero_le _⟩) hD hS hA (fun r_ u_ H locs hpo hP hD hS => ?_)
    obtain ⟨sh, ke, go⟩ := u_
    try dsimp only at hpo
    have hP : va_P (dC, dI) vwCl [(h1, .inr (1, [.int (nI 1), .int (nI n), .ref a1, .ref a2, .ref a3, .ref a4])), (a1, .inl (cL, 8, .inr (.inl (fun z => lN (w z))))), (a2, .inl (cL, 8, .inr (.inl sh))), (a3, .inl (cL, 8, .inr (.inl ke))), (a4, .inl (cZ, 8, .inl go))] H := hP
    have hD : va_D A [(h1, .inr (1, [.int (nI 1), .int (nI n), .ref a1, .ref a2, .ref a3, .ref a4])), (a1, .inl (cL, 8, .inr (.inl (fun z => lN (w z))))), (a2, .inl (cL, 8, .inr (.inl sh))), (a3, .inl (cL, 8, .inr (.inl ke))), (a4, .inl (cZ, 8, .inl go))] := hD
    subst hpo
    refine sd_iz_eq (a := 1) (tgt := 31) hx hb dX1_begin_27 (by decide) (by omega) (fun h => ?_) (fun h => ?_)
    · exact absurd h (by omega)
    · exact W.vret hx hb hr (fun t ht hW => ⟨⟨(sh, ke, go), rfl, trivial, by rw [ht]; exact hP, va_K.moved hW.alike hK, by rw [← hAe]; exact hD⟩, by rw [← hAe]; exact hS.F ht⟩) (fun q hq => by rw [← hAe]; exact hS.2.2 q hq) dX1_begin_30
set_option maxHeartbeats 4000000 in
set_option maxRecDepth 100000 in
theorem lp_mbegin {p : Program} {l : Launch} {e : Env} {R : Room} {s : State} {m : MethodId} {args : Array Value} {below : List Frame} {meth : Method} {c : Code} {cells slots : Nat} {Q : State → Prop} (hx : p.tables.exec = Jvm.exec) (hb : c.code = cX1_begin) (hml : c.maxLocals = 3) (hts0 : ∀ w ∈ (sd_ws yX1_begin cX1_begin 3 none), w.before args s = true) (hown : s.vm.findClass RX1 = some m.cls) {dC : Nat → ClassId} {dI : Nat → Nat → Nat} {cL cZ : ClassId} {h1 a1 a2 a3 a4 : Nat} {w : Nat → Nat} (sh ke : Nat → Int64) (go : Nat → Int32) (A : Nat → Prop) (H0 : Heap) (hK : va_K (dC, dI) vwCl [(cL, .long), (cZ, .boolean)] s) (j : Nat)
    (kk : ∀ (H : Heap) (locs : List Loc) (ls : Array Slot), va_P (dC, dI) vwCl [(h1, .inr (1, [.int (nI 0), .int (nI j), .ref a1, .ref a2, .ref a3, .ref a4])), (a1, .inl (cL, 8, .inr (.inl (fun z => lN ((sd_cl w 8) z))))), (a2, .inl (cL, 8, .inr (.inl sh))), (a3, .inl (cL, 8, .inr (.inl ke))), (a4, .inl (cZ, 8, .inl go))] H → va_D A [(h1, .inr (1, [.int (nI 0), .int (nI j), .ref a1, .ref a2, .ref a3, .ref a4])), (a1, .inl (cL, 8, .inr (.inl (fun z => lN ((sd_cl w 8) z))))), (a2, .inl (cL, 8, .inr (.inl sh))), (a3, .inl (cL, 8, .inr (.inl ke))), (a4, .inl (cZ, 8, .inl go))] → va_S A H0 H locs → True → lv_has ls 3 [(0, .ref h1), (1, .int (nI j)), (2, .int (nI 8))] → W p l e R s m args below meth c H locs cells slots Q (F0 m 57 ls []))
    : ∀ (f i : Nat), i + f = 8 → ∀ (H : Heap) (locs : List Loc) (ls : Array Slot), va_P (dC, dI) vwCl [(h1, .inr (1, [.int (nI 0), .int (nI j), .ref a1, .ref a2, .ref a3, .ref a4])), (a1, .inl (cL, 8, .inr (.inl (fun z => lN ((sd_cl w i) z))))), (a2, .inl (cL, 8, .inr (.inl sh))), (a3, .inl (cL, 8, .inr (.inl ke))), (a4, .inl (cZ, 8, .inl go))] H → va_D A [(h1, .inr (1, [.int (nI 0), .int (nI j), .ref a1, .ref a2, .ref a3, .ref a4])), (a1, .inl (cL, 8, .inr (.inl (fun z => lN ((sd_cl w i) z))))), (a2, .inl (cL, 8, .inr (.inl sh))), (a3, .inl (cL, 8, .inr (.inl ke))), (a4, .inl (cZ, 8, .inl go))] → va_S A H0 H locs → True → lv_has ls 3 [(0, .ref h1), (1, .int (nI j)), (2, .int (nI i))] → W p l e R s m args below meth c H locs cells slots Q (F0 m 38 ls []) := by
  have hts : ∀ w ∈ sd_WS, w.before args s = true := fun w h => hts0 w (List.mem_cons_of_mem _ h)
  intro f
  induction f using Nat.strongRecOn with
  | ind f ih0 =>
    intro i hi H locs ls hP hD hS _ hl
    have ih : i < 8 → ∀ (H : Heap) (locs : List Loc) (ls : Array Slot), va_P (dC, dI) vwCl [(h1, .inr (1, [.int (nI 0), .int (nI j), .ref a1, .ref a2, .ref a3, .ref a4])), (a1, .inl (cL, 8, .inr (.inl (fun z => lN ((sd_cl w (i + 1)) z))))), (a2, .inl (cL, 8, .inr (.inl sh))), (a3, .inl (cL, 8, .inr (.inl ke))), (a4, .inl (cZ, 8, .inl go))] H → va_D A [(h1, .inr (1, [.int (nI 0), .int (nI j), .ref a1, .ref a2, .ref a3, .ref a4])), (a1, .inl (cL, 8, .inr (.inl (fun z => lN ((sd_cl w (i + 1)) z))))), (a2, .inl (cL, 8, .inr (.inl sh))), (a3, .inl (cL, 8, .inr (.inl ke))), (a4, .inl (cZ, 8, .inl go))] → va_S A H0 H locs → True → lv_has ls 3 [(0, .ref h1), (1, .int (nI j)), (2, .int (nI (i + 1)))] → W p l e R s m args below meth c H locs cells slots Q (F0 m 38 ls []) := fun hlt => ih0 (f - 1) (by omega) (i + 1) (by omega)
    refine lv_iload_n hx hb dX1_begin_38 rfl (lv_at hl 2 rfl) ?_
    refine lv_bipush (v := nI 8) hx hb dX1_begin_39 (by decide +kernel) ?_
    refine sd_ic_ge (a := i) (b := 8) (tgt := 57) hx hb dX1_begin_41 (by decide) (by omega) (by omega) (fun h => ?_) (fun h => ?_)
    · have hin : i = 8 := by omega
      subst hin
      exact kk H locs ls hP hD hS trivial hl
    · refine lv_aload_n hx hb dX1_begin_44 rfl (lv_at hl 0 rfl) ?_
      refine va_get (D := (dC, dI)) (ci := 1) (v := .ref a1) (C := RX1) (T := TX1) (N := 6) hx hb hts u_in_X1 hown hK hP 0 rfl rfl 2 (by decide) (hts (.fieldLink RX1 13 "ShareDeskModel" "weights" "[J") k_fieldLink_X1_13) (fun _ h9 => h9) rfl dX1_begin_45 ?_
      refine lv_iload_n hx hb dX1_begin_48 rfl (lv_at hl 2 rfl) ?_
      refine lv_lconst (v := lN 0) hx hb dX1_begin_49 rfl ?_
      refine sd_last (j := i) hx hb hK hP hD hS 1 0 rfl rfl (by omega) (by decide) dX1_begin_50 (fun H locs hP hD hS => ?_)
      have hP : va_P (dC, dI) vwCl [(h1, .inr (1, [.int (nI 0), .int (nI j), .ref a1, .ref a2, .ref a3, .ref a4])), (a1, .inl (cL, 8, .inr (.inl (fun z => lN ((sd_cl w (i + 1)) z))))), (a2, .inl (cL, 8, .inr (.inl sh))), (a3, .inl (cL, 8, .inr (.inl ke))), (a4, .inl (cZ, 8, .inl go))] H := by rw [← sd_cls, ← sd_updL_w]; exact hP
      have hD : va_D A [(h1, .inr (1, [.int (nI 0), .int (nI j), .ref a1, .ref a2, .ref a3, .ref a4])), (a1, .inl (cL, 8, .inr (.inl (fun z => lN ((sd_cl w (i + 1)) z))))), (a2, .inl (cL, 8, .inr (.inl sh))), (a3, .inl (cL, 8, .inr (.inl ke))), (a4, .inl (cZ, 8, .inl go))] := by rw [← sd_cls, ← sd_updL_w]; exact hD
      refine lv_iinc (k := 2) (v := nI (i + 1)) hx hb dX1_begin_51 hl rfl (nI_add _ 1) (by decide) rfl (fun ls hl => ?_)
      have hl : lv_has ls 3 [(2, .int (nI (i + 1))), (0, .ref h1), (1, .int (nI j))] := hl
      refine lv_goto (tgt := 38) hx hb dX1_begin_54 (by decide) ?_
      have hl := lv_sub (l' := [(0, .ref h1), (1, .int (nI j)), (2, .int (nI (i + 1)))]) hl [1, 2, 0] rfl
      exact ih (by omega) H locs ls hP hD hS trivial hl
set_option maxHeartbeats 4000000 in
set_option maxRecDepth 100000 in
theorem m_begin (l : Launch) (dC : Nat → ClassId) (dI : Nat → Nat → Nat) (cL cZ : ClassId) (h1 a1 a2 a3 a4 er n : Nat) (w : Nat → Nat) (sh ke : Nat → Int64) (go : Nat → Int32) (sz : Nat) (ok : sd_ok n w) (j : Nat) (hj1 : 1 ≤ j) (hj8 : j ≤ 8) : Met l yX1_begin (sd_ws yX1_begin cX1_begin 3 none) (sd_rm 3 0 0) (sd_Pw (dC, dI) vwCl [(cL, .long), (cZ, .boolean)] (sd_M cL cZ h1 a1 a2 a3 a4 er n w sh ke go) sz [.ref h1, .int (nI j)]) (va_Qv (fun (v_ : sd_S) => True) (sd_Bw (dC, dI) vwCl [(cL, .long), (cZ, .boolean)] (sd_M cL cZ h1 a1 a2 a3 a4 er n w sh ke go) sz (fun v_ => (sd_M cL cZ h1 a1 a2 a3 a4 0 j (fun _ => 0) v_.1 v_.2.1 v_.2.2))) (va_A (sd_M cL cZ h1 a1 a2 a3 a4 er n w sh ke go) sz)) 0 0 (va_A (sd_M cL cZ h1 a1 a2 a3 a4 er n w sh ke go) sz) := by
  refine Met.ofW (cc := cX1_begin) (maxL := 3) (ret := none) (by decide) rfl ?_
  intro p e s m args below meth c s₁ B hml hv
  obtain ⟨rfl, hsz, hP, hK, hD0⟩ := hv
  subst hsz
  have hx := B.exec
  have hb := B.bytes
  have hr := B.returns
  have hts0 := atoms_spec (ws := (sd_ws yX1_begin cX1_begin 3 none)) B.pre
  have hts : ∀ w ∈ sd_WS, w.before _ s = true := fun w h => hts0 w (List.mem_cons_of_mem _ h)
  have hown : s.vm.findClass RX1 = some m.cls := findClass_of_methodNamed B.named
  have hlocks := B.notSynchronized
  have hl := lv_entry ([.ref h1, .int (nI j)]) (n := 3) (Nat.le_of_ble_eq_true rfl)
  rw [lg_entry_eq]
  generalize (lg_sl ([.ref h1, .int (nI j)]) ++ List.replicate (3 - (lg_sl ([.ref h1, .int (nI j)])).length) Slot.unset).toArray = ls at hl ⊢
  have hl : lv_has ls 3 [(0, .ref h1), (1, .int (nI j))] := hl
  obtain ⟨A, hAe⟩ : ∃ A, A = va_A (sd_M cL cZ h1 a1 a2 a3 a4 er n w sh ke go) s.heap.size := ⟨_, rfl⟩
  have hD : va_D A (sd_M cL cZ h1 a1 a2 a3 a4 er n w sh ke go) := by rw [hAe]; exact hD0.self
  have hA : ∀ q : Nat, s.heap.size ≤ q → A q := fun q h => by rw [hAe]; exact Or.inr h
  have hS : va_S A s.heap s.heap [] := va_S.rf
  have hP : va_P (dC, dI) vwCl [(h1, .inr (1, [.int (nI er), .int (nI n), .ref a1, .ref a2, .ref a3, .ref a4])), (a1, .inl (cL, 8, .inr (.inl (fun z => lN (w z))))), (a2, .inl (cL, 8, .inr (.inl sh))), (a3, .inl (cL, 8, .inr (.inl ke))), (a4, .inl (cZ, 8, .inl go))] s.heap := hP
  have hD : va_D A [(h1, .inr (1, [.int (nI er), .int (nI n), .ref a1, .ref a2, .ref a3, .ref a4])), (a1, .inl (cL, 8, .inr (.inl (fun z => lN (w z))))), (a2, .inl (cL, 8, .inr (.inl sh))), (a3, .inl (cL, 8, .inr (.inl ke))), (a4, .inl (cZ, 8, .inl go))] := hD
  have hn1 := ok.1
  have hn8 := ok.2.1
  refine lv_aload_n hx hb dX1_begin_0 rfl (lv_at hl 0 rfl) ?_
  refine lv_iconst (v := (nI 0)) hx hb dX1_begin_1 (by decide +kernel) ?_
  refine va_put (D := (dC, dI)) (ci := 1) (v := .int (nI 0)) (ty := .int) (C := RX1) (T := TX1) (N := 6) hx hb hts u_in_X1 tyX1 tyX1_ok nmX1 hown hK hP hD hS 0 rfl rfl 0 (by decide) (hts (.fieldLink RX1 27 "ShareDeskModel" "err" "I") k_fieldLink_X1_27) (fun _ h9 => h9) rfl (by decide +kernel) rfl rfl (Nat.le_of_ble_eq_true rfl) dX1_begin_2 (fun H locs hP hD hS => ?_)
  have hP : va_P (dC, dI) vwCl [(h1, .inr (1, [.int (nI 0), .int (nI n), .ref a1, .ref a2, .ref a3, .ref a4])), (a1, .inl (cL, 8, .inr (.inl (fun z => lN (w z))))), (a2, .inl (cL, 8, .inr (.inl sh))), (a3, .inl (cL, 8, .inr (.inl ke))), (a4, .inl (cZ, 8, .inl go))] H := hP
  have hD : va_D A [(h1, .inr (1, [.int (nI 0), .int (nI n), .ref a1, .ref a2, .ref a3, .ref a4])), (a1, .inl (cL, 8, .inr (.inl (fun z => lN (w z))))), (a2, .inl (cL, 8, .inr (.inl sh))), (a3, .inl (cL, 8, .inr (.inl ke))), (a4, .inl (cZ, 8, .inl go))] := hD
  refine lv_aload_n hx hb dX1_begin_5 rfl (lv_at hl 0 rfl) ?_
  refine lv_iload_n hx hb dX1_begin_6 rfl (lv_at hl 1 rfl) ?_
  refine lv_i2l (v := (nI j).toInt64) hx hb dX1_begin_7 rfl ?_
  refine lv_lconst (v := lN 1) hx hb dX1_begin_8 rfl ?_
  refine lv_ldc2 (v := 8) hx hb hown (hts (.constantLong RX1 36 8) k_constantLong_X1_36) dX1_begin_9 ?_
  refine sd_topl (y := lN 8) (by decide +kernel) ?_
  refine sd_calli (va_runS (As := [.long ((nI j).toInt64), .long (lN 1), .long (lN 8)]) (rest := [.ref h1]) ⟨hx, hb, hml, hown, hts0⟩ (m_in l dC dI (nI j).toInt64 (lN 1) (lN 8)) (cwS 3 hts0 (sd_gS k_methodLink_X1_30 k_static_X1_in k_init_ShareDeskModel k_code_X1_in) rfl rfl rfl (by decide +kernel) ⟨Nat.le_of_ble_eq_true rfl, Nat.le_of_ble_eq_true rfl⟩) (sd_preS (sd_K0 hK) (sd_nil _ _ _)) rfl rfl hl.1 rfl (lv_room (Nat.le_of_ble_eq_true rfl)) dX1_begin_12 ⟨Nat.zero_le _, Nat.zero_le _⟩) ?_
  refine sd_bz_ne (tgt := 22) hx hb dX1_begin_15 (by decide) (fun h => ?_) (fun h => ?_)
  · refine lv_iconst (v := (nI 0)) hx hb dX1_begin_22 (by decide +kernel) ?_
    refine lv_iconst (v := (nI 1)) hx hb dX1_begin_23 (by decide +kernel) ?_
    refine sd_calli (va_runV (As := [.int (nI 0), .int (nI 1)]) (rest := []) ⟨hx, hb, hml, hown, hts0⟩ (m_fails0 l dC dI cL cZ h1 a1 a2 a3 a4 0 n w sh ke go rfl 1) (cwV 2 hts0 (sd_gV k_methodLink_X1_38 k_instanceMethod_X1_fails k_sel_X1_fails k_init_ShareDeskModel k_code_X1_fails) rfl rfl rfl (by decide +kernel) ⟨Nat.le_of_ble_eq_true rfl, Nat.le_of_ble_eq_true rfl⟩) (sd_preV hK hP (q0 := 0) (ci := 1) rfl rfl) rfl rfl hl.1 rfl (lv_room (Nat.le_of_ble_eq_true rfl)) dX1_begin_24 ⟨Nat.zero_le _, Nat.zero_le _⟩) ?_
    refine sd_iz_eq (a := 0) (tgt := 31) hx hb dX1_begin_27 (by decide) (by omega) (fun h => ?_) (fun h => ?_)
    · refine lv_aload_n hx hb dX1_begin_31 rfl (lv_at hl 0 rfl) ?_
      refine lv_iload_n hx hb dX1_begin_32 rfl (lv_at hl 1 rfl) ?_
      refine va_put (D := (dC, dI)) (ci := 1) (v := .int (nI j)) (ty := .int) (C := RX1) (T := TX1) (N := 6) hx hb hts u_in_X1 tyX1 tyX1_ok nmX1 hown hK hP hD hS 0 rfl rfl 1 (by decide) (hts (.fieldLink RX1 7 "ShareDeskModel" "parties" "I") k_fieldLink_X1_7) (fun _ h9 => h9) rfl (by decide +kernel) rfl rfl (Nat.le_of_ble_eq_true rfl) dX1_begin_33 (fun H locs hP hD hS => ?_)
      have hP : va_P (dC, dI) vwCl [(h1, .inr (1, [.int (nI 0), .int (nI j), .ref a1, .ref a2, .ref a3, .ref a4])), (a1, .inl (cL, 8, .inr (.inl (fun z => lN (w z))))), (a2, .inl (cL, 8, .inr (.inl sh))), (a3, .inl (cL, 8, .inr (.inl ke))), (a4, .inl (cZ, 8, .inl go))] H := hP
      have hD : va_D A [(h1, .inr (1, [.int (nI 0), .int (nI j), .ref a1, .ref a2, .ref a3, .ref a4])), (a1, .inl (cL, 8, .inr (.inl (fun z => lN (w z))))), (a2, .inl (cL, 8, .inr (.inl sh))), (a3, .inl (cL, 8, .inr (.inl ke))), (a4, .inl (cZ, 8, .inl go))] := hD
      refine lv_iconst (v := (nI 0)) hx hb dX1_begin_36 (by decide +kernel) ?_
      refine lv_istore_n hx hb dX1_begin_37 rfl hl (by decide) rfl (fun ls hl => ?_)
      have hl : lv_has ls 3 [(2, .int (nI 0)), (0, .ref h1), (1, .int (nI j))] := hl
      have hl := lv_sub (l' := [(0, .ref h1), (1, .int (nI j)), (2, .int (nI 0))]) hl [1, 2, 0] rfl
      have hP : va_P (dC, dI) vwCl [(h1, .inr (1, [.int (nI 0), .int (nI j), .ref a1, .ref a2, .ref a3, .ref a4])), (a1, .inl (cL, 8, .inr (.inl (fun z => lN ((sd_cl w 0) z))))), (a2, .inl (cL, 8, .inr (.inl sh))), (a3, .inl (cL, 8, .inr (.inl ke))), (a4, .inl (cZ, 8, .inl go))] H := by rw [sd_cl0]; exact hP
      have hD : va_D A [(h1, .inr (1, [.int (nI 0), .int (nI j), .ref a1, .ref a2, .ref a3, .ref a4])), (a1, .inl (cL, 8, .inr (.inl (fun z => lN ((sd_cl w 0) z))))), (a2, .inl (cL, 8, .inr (.inl sh))), (a3, .inl (cL, 8, .inr (.inl ke))), (a4, .inl (cZ, 8, .inl go))] := by rw [sd_cl0]; exact hD
      refine lp_mbegin hx hb hml hts0 hown sh ke go A s.heap hK j (fun H locs ls hP hD hS _ hl => ?_) 8 0 (by omega) H locs ls hP hD hS trivial hl
      have hP : va_P (dC, dI) vwCl (sd_M cL cZ h1 a1 a2 a3 a4 0 j (fun _ => 0) sh ke go) H := by rw [sd_cl8 ok] at hP; exact hP
      have hD : va_D A (sd_M cL cZ h1 a1 a2 a3 a4 0 j (fun _ => 0) sh ke go) := by rw [sd_cl8 ok] at hD; exact hD
      exact W.vret hx hb hr (fun t ht hW => ⟨⟨(sh, ke, go), rfl, trivial, by rw [ht]; exact hP, va_K.moved hW.alike hK, by rw [← hAe]; exact hD⟩, by rw [← hAe]; exact hS.F ht⟩) (fun q hq => by rw [← hAe]; exact hS.2.2 q hq) dX1_begin_57
    · exact absurd h (by omega)
  · exact absurd (show sd_rg (nI j) 1 8 = false from h) (by rw [sd_rg_nI (by omega) (by omega) (by omega) (by omega)]; decide)
set_option maxHeartbeats 4000000 in
set_option maxRecDepth 100000 in
theorem m_weight_bad (l : Launch) (dC : Nat → ClassId) (dI : Nat → Nat → Nat) (cL cZ : ClassId) (h1 a1 a2 a3 a4 er n : Nat) (w : Nat → Nat) (sh ke : Nat → Int64) (go : Nat → Int32) (sz : Nat) (hn1 : 1 ≤ n) (hn8 : n ≤ 8) (x1 x2 : Int32) (hbad : sd_rg x1 0 (n - 1) = false ∨ sd_rg x2 0 100000 = false) : Met l yX1_weight (sd_ws yX1_weight cX1_weight 4 (some .int)) (sd_rm 3 0 0) (sd_Pw (dC, dI) vwCl [(cL, .long), (cZ, .boolean)] (sd_M cL cZ h1 a1 a2 a3 a4 er n w sh ke go) sz [.ref h1, .int x1, .int x2]) (va_Qi (fun r (v_ : sd_S) => r = nI 0) (sd_Bw (dC, dI) vwCl [(cL, .long), (cZ, .boolean)] (sd_M cL cZ h1 a1 a2 a3 a4 er n w sh ke go) sz (fun v_ => (sd_M cL cZ h1 a1 a2 a3 a4 1 n w v_.1 v_.2.1 v_.2.2))) (va_A (sd_M cL cZ h1 a1 a2 a3 a4 er n w sh ke go) sz)) 0 0 (va_A (sd_M cL cZ h1 a1 a2 a3 a4 er n w sh ke go) sz) := by
  refine Met.ofW (cc := cX1_weight) (maxL := 4) (ret := (some .int)) (by decide) rfl ?_
  intro p e s m args below meth c s₁ B hml hv
  obtain ⟨rfl, hsz, hP, hK, hD0⟩ := hv
  subst hsz
  have hx := B.exec
  have hb := B.bytes
  have hr := B.returns
  have hts0 := atoms_spec (ws := (sd_ws yX1_weight cX1_weight 4 (some .int))) B.pre
  have hts : ∀ w ∈ sd_WS, w.before _ s = true := fun w h => hts0 w (List.mem_cons_of_mem _ h)
  have hown : s.vm.findClass RX1 = some m.cls := findClass_of_methodNamed B.named
  have hlocks := B.notSynchronized
  have hl := lv_entry ([.ref h1, .int x1, .int x2]) (n := 4) (Nat.le_of_ble_eq_true rfl)
  rw [lg_entry_eq]
  generalize (lg_sl ([.ref h1, .int x1, .int x2]) ++ List.replicate (4 - (lg_sl ([.ref h1, .int x1, .int x2])).length) Slot.unset).toArray = ls at hl ⊢
  have hl : lv_has ls 4 [(0, .ref h1), (1, .int x1), (2, .int x2)] := hl
  obtain ⟨A, hAe⟩ : ∃ A, A = va_A (sd_M cL cZ h1 a1 a2 a3 a4 er n w sh ke go) s.heap.size := ⟨_, rfl⟩
  have hD : va_D A (sd_M cL cZ h1 a1 a2 a3 a4 er n w sh ke go) := by rw [hAe]; exact hD0.self
  have hA : ∀ q : Nat, s.heap.size ≤ q → A q := fun q h => by rw [hAe]; exact Or.inr h
  have hS : va_S A s.heap s.heap [] := va_S.rf
  have hP : va_P (dC, dI) vwCl [(h1, .inr (1, [.int (nI er), .int (nI n), .ref a1, .ref a2, .ref a3, .ref a4])), (a1, .inl (cL, 8, .inr (.inl (fun z => lN (w z))))), (a2, .inl (cL, 8, .inr (.inl sh))), (a3, .inl (cL, 8, .inr (.inl ke))), (a4, .inl (cZ, 8, .inl go))] s.heap := hP
  have hD : va_D A [(h1, .inr (1, [.int (nI er), .int (nI n), .ref a1, .ref a2, .ref a3, .ref a4])), (a1, .inl (cL, 8, .inr (.inl (fun z => lN (w z))))), (a2, .inl (cL, 8, .inr (.inl sh))), (a3, .inl (cL, 8, .inr (.inl ke))), (a4, .inl (cZ, 8, .inl go))] := hD
  refine lv_aload_n hx hb dX1_weight_0 rfl (lv_at hl 0 rfl) ?_
  refine lv_iconst (v := (nI 0)) hx hb dX1_weight_1 (by decide +kernel) ?_
  refine va_put (D := (dC, dI)) (ci := 1) (v := .int (nI 0)) (ty := .int) (C := RX1) (T := TX1) (N := 6) hx hb hts u_in_X1 tyX1 tyX1_ok nmX1 hown hK hP hD hS 0 rfl rfl 0 (by decide) (hts (.fieldLink RX1 27 "ShareDeskModel" "err" "I") k_fieldLink_X1_27) (fun _ h9 => h9) rfl (by decide +kernel) rfl rfl (Nat.le_of_ble_eq_true rfl) dX1_weight_2 (fun H locs hP hD hS => ?_)
  have hP : va_P (dC, dI) vwCl [(h1, .inr (1, [.int (nI 0), .int (nI n), .ref a1, .ref a2, .ref a3, .ref a4])), (a1, .inl (cL, 8, .inr (.inl (fun z => lN (w z))))), (a2, .inl (cL, 8, .inr (.inl sh))), (a3, .inl (cL, 8, .inr (.inl ke))), (a4, .inl (cZ, 8, .inl go))] H := hP
  have hD : va_D A [(h1, .inr (1, [.int (nI 0), .int (nI n), .ref a1, .ref a2, .ref a3, .ref a4])), (a1, .inl (cL, 8, .inr (.inl (fun z => lN (w z))))), (a2, .inl (cL, 8, .inr (.inl sh))), (a3, .inl (cL, 8, .inr (.inl ke))), (a4, .inl (cZ, 8, .inl go))] := hD
  refine lv_aload_n hx hb dX1_weight_5 rfl (lv_at hl 0 rfl) ?_
  refine lv_aload_n hx hb dX1_weight_6 rfl (lv_at hl 0 rfl) ?_
  refine lv_iload_n hx hb dX1_weight_7 rfl (lv_at hl 1 rfl) ?_
  refine sd_calli (va_runV (As := [.int x1]) (rest := [.ref h1]) ⟨hx, hb, hml, hown, hts0⟩ (m_isParty l dC dI cL cZ h1 a1 a2 a3 a4 0 n w sh ke go hn1 hn8 x1) (cwV 1 hts0 (sd_gV k_methodLink_X1_42 k_instanceMethod_X1_isParty k_sel_X1_isParty k_init_ShareDeskModel k_code_X1_isParty) rfl rfl rfl (by decide +kernel) ⟨Nat.le_of_ble_eq_true rfl, Nat.le_of_ble_eq_true rfl⟩) (sd_preV hK hP (q0 := 0) (ci := 1) rfl rfl) rfl rfl hl.1 rfl (lv_room (Nat.le_of_ble_eq_true rfl)) dX1_weight_8 ⟨Nat.zero_le _, Nat.zero_le _⟩) ?_
  refine sd_bz_eq (tgt := 26) hx hb dX1_weight_11 (by decide) (fun hc0 => ?_) (fun hc0 => ?_)
  · have hc0 : sd_rg x1 0 (n - 1) = false := hc0
    refine lv_iconst (v := (nI 1)) hx hb dX1_weight_26 (by decide +kernel) ?_
    refine lv_goto (tgt := 31) hx hb dX1_weight_27 (by decide) ?_
    refine lv_iconst (v := (nI 1)) hx hb dX1_weight_31 (by decide +kernel) ?_
    refine sd_wi (va_runV (As := [.int (nI 1), .int (nI 1)]) (rest := []) ⟨hx, hb, hml, hown, hts0⟩ (m_fails1 l dC dI cL cZ h1 a1 a2 a3 a4 0 n w sh ke go H.size rfl 1 (by decide) (by decide)) (cwV 2 hts0 (sd_gV k_methodLink_X1_38 k_instanceMethod_X1_fails k_sel_X1_fails k_init_ShareDeskModel k_code_X1_fails) rfl rfl rfl (by decide +kernel) ⟨Nat.le_of_ble_eq_true rfl, Nat.le_of_ble_eq_true rfl⟩) (sd_preVw hK hP hD (q0 := 0) (ci := 1) rfl rfl) rfl rfl hl.1 rfl (lv_room (Nat.le_of_ble_eq_true rfl)) dX1_weight_32 ⟨Nat.zero_le _, Nat.zero_le _⟩) hD hS hA (fun r_ u_ H locs hpo hP hD hS => ?_)
    obtain ⟨sh, ke, go⟩ := u_
    try dsimp only at hpo
    have hP : va_P (dC, dI) vwCl [(h1, .inr (1, [.int (nI 1), .int (nI n), .ref a1, .ref a2, .ref a3, .ref a4])), (a1, .inl (cL, 8, .inr (.inl (fun z => lN (w z))))), (a2, .inl (cL, 8, .inr (.inl sh))), (a3, .inl (cL, 8, .inr (.inl ke))), (a4, .inl (cZ, 8, .inl go))] H := hP
    have hD : va_D A [(h1, .inr (1, [.int (nI 1), .int (nI n), .ref a1, .ref a2, .ref a3, .ref a4])), (a1, .inl (cL, 8, .inr (.inl (fun z => lN (w z))))), (a2, .inl (cL, 8, .inr (.inl sh))), (a3, .inl (cL, 8, .inr (.inl ke))), (a4, .inl (cZ, 8, .inl go))] := hD
    subst hpo
    refine sd_iz_eq (a := 1) (tgt := 40) hx hb dX1_weight_35 (by decide) (by omega) (fun h => ?_) (fun h => ?_)
    · exact absurd h (by omega)
    · refine lv_iconst (v := (nI 0)) hx hb dX1_weight_38 (by decide +kernel) ?_
      exact W.iret hx hb hr (fun t ht hW => ⟨⟨_, (sh, ke, go), rfl, rfl, by rw [ht]; exact hP, va_K.moved hW.alike hK, by rw [← hAe]; exact hD⟩, by rw [← hAe]; exact hS.F ht⟩) (fun q hq => by rw [← hAe]; exact hS.2.2 q hq) dX1_weight_39
  · have hc0 : sd_rg x1 0 (n - 1) = true := hc0
    refine lv_iload_n hx hb dX1_weight_14 rfl (lv_at hl 2 rfl) ?_
    refine lv_i2l (v := x2.toInt64) hx hb dX1_weight_15 rfl ?_
    refine lv_lconst (v := lN 0) hx hb dX1_weight_16 rfl ?_
    refine lv_ldc2 (v := 100000) hx hb hown (hts (.constantLong RX1 46 100000) k_constantLong_X1_46) dX1_weight_17 ?_
    refine sd_topl (y := lN 100000) (by decide +kernel) ?_
    refine sd_calli (va_runS (As := [.long (x2.toInt64), .long (lN 0), .long (lN 100000)]) (rest := [.ref h1]) ⟨hx, hb, hml, hown, hts0⟩ (m_in l dC dI x2.toInt64 (lN 0) (lN 100000)) (cwS 3 hts0 (sd_gS k_methodLink_X1_30 k_static_X1_in k_init_ShareDeskModel k_code_X1_in) rfl rfl rfl (by decide +kernel) ⟨Nat.le_of_ble_eq_true rfl, Nat.le_of_ble_eq_true rfl⟩) (sd_preS (sd_K0 hK) (sd_nil _ _ _)) rfl rfl hl.1 rfl (lv_room (Nat.le_of_ble_eq_true rfl)) dX1_weight_20 ⟨Nat.zero_le _, Nat.zero_le _⟩) ?_
    refine sd_bz_ne (tgt := 30) hx hb dX1_weight_23 (by decide) (fun hc1 => ?_) (fun hc1 => ?_)
    · have hc1 : sd_rg x2 0 100000 = true := hc1
      exact absurd hbad (by simp [hc0, hc1])
    · have hc1 : sd_rg x2 0 100000 = false := hc1
      refine lv_iconst (v := (nI 1)) hx hb dX1_weight_26 (by decide +kernel) ?_
      refine lv_goto (tgt := 31) hx hb dX1_weight_27 (by decide) ?_
      refine lv_iconst (v := (nI 1)) hx hb dX1_weight_31 (by decide +kernel) ?_
      refine sd_wi (va_runV (As := [.int (nI 1), .int (nI 1)]) (rest := []) ⟨hx, hb, hml, hown, hts0⟩ (m_fails1 l dC dI cL cZ h1 a1 a2 a3 a4 0 n w sh ke go H.size rfl 1 (by decide) (by decide)) (cwV 2 hts0 (sd_gV k_methodLink_X1_38 k_instanceMethod_X1_fails k_sel_X1_fails k_init_ShareDeskModel k_code_X1_fails) rfl rfl rfl (by decide +kernel) ⟨Nat.le_of_ble_eq_true rfl, Nat.le_of_ble_eq_true rfl⟩) (sd_preVw hK hP hD (q0 := 0) (ci := 1) rfl rfl) rfl rfl hl.1 rfl (lv_room (Nat.le_of_ble_eq_true rfl)) dX1_weight_32 ⟨Nat.zero_le _, Nat.zero_le _⟩) hD hS hA (fun r_ u_ H locs hpo hP hD hS => ?_)
      obtain ⟨sh, ke, go⟩ := u_
      try dsimp only at hpo
      have hP : va_P (dC, dI) vwCl [(h1, .inr (1, [.int (nI 1), .int (nI n), .ref a1, .ref a2, .ref a3, .ref a4])), (a1, .inl (cL, 8, .inr (.inl (fun z => lN (w z))))), (a2, .inl (cL, 8, .inr (.inl sh))), (a3, .inl (cL, 8, .inr (.inl ke))), (a4, .inl (cZ, 8, .inl go))] H := hP
      have hD : va_D A [(h1, .inr (1, [.int (nI 1), .int (nI n), .ref a1, .ref a2, .ref a3, .ref a4])), (a1, .inl (cL, 8, .inr (.inl (fun z => lN (w z))))), (a2, .inl (cL, 8, .inr (.inl sh))), (a3, .inl (cL, 8, .inr (.inl ke))), (a4, .inl (cZ, 8, .inl go))] := hD
      subst hpo
      refine sd_iz_eq (a := 1) (tgt := 40) hx hb dX1_weight_35 (by decide) (by omega) (fun h => ?_) (fun h => ?_)
      · exact absurd h (by omega)
      · refine lv_iconst (v := (nI 0)) hx hb dX1_weight_38 (by decide +kernel) ?_
        exact W.iret hx hb hr (fun t ht hW => ⟨⟨_, (sh, ke, go), rfl, rfl, by rw [ht]; exact hP, va_K.moved hW.alike hK, by rw [← hAe]; exact hD⟩, by rw [← hAe]; exact hS.F ht⟩) (fun q hq => by rw [← hAe]; exact hS.2.2 q hq) dX1_weight_39
set_option maxHeartbeats 4000000 in
set_option maxRecDepth 100000 in
theorem m_weight (l : Launch) (dC : Nat → ClassId) (dI : Nat → Nat → Nat) (cL cZ : ClassId) (h1 a1 a2 a3 a4 er n : Nat) (w : Nat → Nat) (sh ke : Nat → Int64) (go : Nat → Int32) (sz : Nat) (ok : sd_ok n w) (q v : Nat) (hq : q < n) (hv : v ≤ 100000) : Met l yX1_weight (sd_ws yX1_weight cX1_weight 4 (some .int)) (sd_rm 3 0 0) (sd_Pw (dC, dI) vwCl [(cL, .long), (cZ, .boolean)] (sd_M cL cZ h1 a1 a2 a3 a4 er n w sh ke go) sz [.ref h1, .int (nI q), .int (nI v)]) (va_Qi (fun r (v_ : sd_S) => r = nI (w q)) (sd_Bw (dC, dI) vwCl [(cL, .long), (cZ, .boolean)] (sd_M cL cZ h1 a1 a2 a3 a4 er n w sh ke go) sz (fun v_ => (sd_M cL cZ h1 a1 a2 a3 a4 0 n (sd_up w q v) v_.1 v_.2.1 v_.2.2))) (va_A (sd_M cL cZ h1 a1 a2 a3 a4 er n w sh ke go) sz)) 0 0 (va_A (sd_M cL cZ h1 a1 a2 a3 a4 er n w sh ke go) sz) := by
  refine Met.ofW (cc := cX1_weight) (maxL := 4) (ret := (some .int)) (by decide) rfl ?_
  intro p e s m args below meth c s₁ B hml hv
  obtain ⟨rfl, hsz, hP, hK, hD0⟩ := hv
  subst hsz
  have hx := B.exec
  have hb := B.bytes
  have hr := B.returns
  have hts0 := atoms_spec (ws := (sd_ws yX1_weight cX1_weight 4 (some .int))) B.pre
  have hts : ∀ w ∈ sd_WS, w.before _ s = true := fun w h => hts0 w (List.mem_cons_of_mem _ h)
  have hown : s.vm.findClass RX1 = some m.cls := findClass_of_methodNamed B.named
  have hlocks := B.notSynchronized
  have hl := lv_entry ([.ref h1, .int (nI q), .int (nI v)]) (n := 4) (Nat.le_of_ble_eq_true rfl)
  rw [lg_entry_eq]
  generalize (lg_sl ([.ref h1, .int (nI q), .int (nI v)]) ++ List.replicate (4 - (lg_sl ([.ref h1, .int (nI q), .int (nI v)])).length) Slot.unset).toArray = ls at hl ⊢
  have hl : lv_has ls 4 [(0, .ref h1), (1, .int (nI q)), (2, .int (nI v))] := hl
  obtain ⟨A, hAe⟩ : ∃ A, A = va_A (sd_M cL cZ h1 a1 a2 a3 a4 er n w sh ke go) s.heap.size := ⟨_, rfl⟩
  have hD : va_D A (sd_M cL cZ h1 a1 a2 a3 a4 er n w sh ke go) := by rw [hAe]; exact hD0.self
  have hA : ∀ q : Nat, s.heap.size ≤ q → A q := fun q h => by rw [hAe]; exact Or.inr h
  have hS : va_S A s.heap s.heap [] := va_S.rf
  have hP : va_P (dC, dI) vwCl [(h1, .inr (1, [.int (nI er), .int (nI n), .ref a1, .ref a2, .ref a3, .ref a4])), (a1, .inl (cL, 8, .inr (.inl (fun z => lN (w z))))), (a2, .inl (cL, 8, .inr (.inl sh))), (a3, .inl (cL, 8, .inr (.inl ke))), (a4, .inl (cZ, 8, .inl go))] s.heap := hP
  have hD : va_D A [(h1, .inr (1, [.int (nI er), .int (nI n), .ref a1, .ref a2, .ref a3, .ref a4])), (a1, .inl (cL, 8, .inr (.inl (fun z => lN (w z))))), (a2, .inl (cL, 8, .inr (.inl sh))), (a3, .inl (cL, 8, .inr (.inl ke))), (a4, .inl (cZ, 8, .inl go))] := hD
  have hn1 := ok.1
  have hn8 := ok.2.1
  have hwq := ok.2.2.1 q
  refine lv_aload_n hx hb dX1_weight_0 rfl (lv_at hl 0 rfl) ?_
  refine lv_iconst (v := (nI 0)) hx hb dX1_weight_1 (by decide +kernel) ?_
  refine va_put (D := (dC, dI)) (ci := 1) (v := .int (nI 0)) (ty := .int) (C := RX1) (T := TX1) (N := 6) hx hb hts u_in_X1 tyX1 tyX1_ok nmX1 hown hK hP hD hS 0 rfl rfl 0 (by decide) (hts (.fieldLink RX1 27 "ShareDeskModel" "err" "I") k_fieldLink_X1_27) (fun _ h9 => h9) rfl (by decide +kernel) rfl rfl (Nat.le_of_ble_eq_true rfl) dX1_weight_2 (fun H locs hP hD hS => ?_)
  have hP : va_P (dC, dI) vwCl [(h1, .inr (1, [.int (nI 0), .int (nI n), .ref a1, .ref a2, .ref a3, .ref a4])), (a1, .inl (cL, 8, .inr (.inl (fun z => lN (w z))))), (a2, .inl (cL, 8, .inr (.inl sh))), (a3, .inl (cL, 8, .inr (.inl ke))), (a4, .inl (cZ, 8, .inl go))] H := hP
  have hD : va_D A [(h1, .inr (1, [.int (nI 0), .int (nI n), .ref a1, .ref a2, .ref a3, .ref a4])), (a1, .inl (cL, 8, .inr (.inl (fun z => lN (w z))))), (a2, .inl (cL, 8, .inr (.inl sh))), (a3, .inl (cL, 8, .inr (.inl ke))), (a4, .inl (cZ, 8, .inl go))] := hD
  refine lv_aload_n hx hb dX1_weight_5 rfl (lv_at hl 0 rfl) ?_
  refine lv_aload_n hx hb dX1_weight_6 rfl (lv_at hl 0 rfl) ?_
  refine lv_iload_n hx hb dX1_weight_7 rfl (lv_at hl 1 rfl) ?_
  refine sd_calli (va_runV (As := [.int (nI q)]) (rest := [.ref h1]) ⟨hx, hb, hml, hown, hts0⟩ (m_isParty l dC dI cL cZ h1 a1 a2 a3 a4 0 n w sh ke go hn1 hn8 (nI q)) (cwV 1 hts0 (sd_gV k_methodLink_X1_42 k_instanceMethod_X1_isParty k_sel_X1_isParty k_init_ShareDeskModel k_code_X1_isParty) rfl rfl rfl (by decide +kernel) ⟨Nat.le_of_ble_eq_true rfl, Nat.le_of_ble_eq_true rfl⟩) (sd_preV hK hP (q0 := 0) (ci := 1) rfl rfl) rfl rfl hl.1 rfl (lv_room (Nat.le_of_ble_eq_true rfl)) dX1_weight_8 ⟨Nat.zero_le _, Nat.zero_le _⟩) ?_
  refine sd_bz_eq (tgt := 26) hx hb dX1_weight_11 (by decide) (fun h => ?_) (fun h => ?_)
  · exact absurd h (by rw [sd_rg_nI (by omega) (by omega) (by omega) (by omega)]; decide)
  · refine lv_iload_n hx hb dX1_weight_14 rfl (lv_at hl 2 rfl) ?_
    refine lv_i2l (v := (nI v).toInt64) hx hb dX1_weight_15 rfl ?_
    refine lv_lconst (v := lN 0) hx hb dX1_weight_16 rfl ?_
    refine lv_ldc2 (v := 100000) hx hb hown (hts (.constantLong RX1 46 100000) k_constantLong_X1_46) dX1_weight_17 ?_
    refine sd_topl (y := lN 100000) (by decide +kernel) ?_
    refine sd_calli (va_runS (As := [.long ((nI v).toInt64), .long (lN 0), .long (lN 100000)]) (rest := [.ref h1]) ⟨hx, hb, hml, hown, hts0⟩ (m_in l dC dI (nI v).toInt64 (lN 0) (lN 100000)) (cwS 3 hts0 (sd_gS k_methodLink_X1_30 k_static_X1_in k_init_ShareDeskModel k_code_X1_in) rfl rfl rfl (by decide +kernel) ⟨Nat.le_of_ble_eq_true rfl, Nat.le_of_ble_eq_true rfl⟩) (sd_preS (sd_K0 hK) (sd_nil _ _ _)) rfl rfl hl.1 rfl (lv_room (Nat.le_of_ble_eq_true rfl)) dX1_weight_20 ⟨Nat.zero_le _, Nat.zero_le _⟩) ?_
    refine sd_bz_ne (tgt := 30) hx hb dX1_weight_23 (by decide) (fun h => ?_) (fun h => ?_)
    · refine lv_iconst (v := (nI 0)) hx hb dX1_weight_30 (by decide +kernel) ?_
      refine lv_iconst (v := (nI 1)) hx hb dX1_weight_31 (by decide +kernel) ?_
      refine sd_calli (va_runV (As := [.int (nI 0), .int (nI 1)]) (rest := []) ⟨hx, hb, hml, hown, hts0⟩ (m_fails0 l dC dI cL cZ h1 a1 a2 a3 a4 0 n w sh ke go rfl 1) (cwV 2 hts0 (sd_gV k_methodLink_X1_38 k_instanceMethod_X1_fails k_sel_X1_fails k_init_ShareDeskModel k_code_X1_fails) rfl rfl rfl (by decide +kernel) ⟨Nat.le_of_ble_eq_true rfl, Nat.le_of_ble_eq_true rfl⟩) (sd_preV hK hP (q0 := 0) (ci := 1) rfl rfl) rfl rfl hl.1 rfl (lv_room (Nat.le_of_ble_eq_true rfl)) dX1_weight_32 ⟨Nat.zero_le _, Nat.zero_le _⟩) ?_
      refine sd_iz_eq (a := 0) (tgt := 40) hx hb dX1_weight_35 (by decide) (by omega) (fun h => ?_) (fun h => ?_)
      · refine lv_aload_n hx hb dX1_weight_40 rfl (lv_at hl 0 rfl) ?_
        refine va_get (D := (dC, dI)) (ci := 1) (v := .ref a1) (C := RX1) (T := TX1) (N := 6) hx hb hts u_in_X1 hown hK hP 0 rfl rfl 2 (by decide) (hts (.fieldLink RX1 13 "ShareDeskModel" "weights" "[J") k_fieldLink_X1_13) (fun _ h9 => h9) rfl dX1_weight_41 ?_
        refine lv_iload_n hx hb dX1_weight_44 rfl (lv_at hl 1 rfl) ?_
        refine sd_lald (j := q) (v := lN (w q)) hx hb hK hP 1 0 rfl rfl (by omega) (by decide) rfl dX1_weight_45 ?_
        refine lv_l2i (v := nI (w q)) hx hb dX1_weight_46 (lN_i _) ?_
        refine lv_istore_n hx hb dX1_weight_47 rfl hl (by decide) rfl (fun ls hl => ?_)
        have hl : lv_has ls 4 [(3, .int (nI (w q))), (0, .ref h1), (1, .int (nI q)), (2, .int (nI v))] := hl
        refine lv_aload_n hx hb dX1_weight_48 rfl (lv_at hl 1 rfl) ?_
        refine va_get (D := (dC, dI)) (ci := 1) (v := .ref a1) (C := RX1) (T := TX1) (N := 6) hx hb hts u_in_X1 hown hK hP 0 rfl rfl 2 (by decide) (hts (.fieldLink RX1 13 "ShareDeskModel" "weights" "[J") k_fieldLink_X1_13) (fun _ h9 => h9) rfl dX1_weight_49 ?_
        refine lv_iload_n hx hb dX1_weight_52 rfl (lv_at hl 2 rfl) ?_
        refine lv_iload_n hx hb dX1_weight_53 rfl (lv_at hl 3 rfl) ?_
        refine lv_i2l (v := lN v) hx hb dX1_weight_54 (nI_l (by omega)) ?_
        refine sd_last (j := q) hx hb hK hP hD hS 1 0 rfl rfl (by omega) (by decide) dX1_weight_55 (fun H locs hP hD hS => ?_)
        have hP : va_P (dC, dI) vwCl [(h1, .inr (1, [.int (nI 0), .int (nI n), .ref a1, .ref a2, .ref a3, .ref a4])), (a1, .inl (cL, 8, .inr (.inl (fun z => lN ((sd_up w q v) z))))), (a2, .inl (cL, 8, .inr (.inl sh))), (a3, .inl (cL, 8, .inr (.inl ke))), (a4, .inl (cZ, 8, .inl go))] H := by rw [← sd_updL_w]; exact hP
        have hD : va_D A [(h1, .inr (1, [.int (nI 0), .int (nI n), .ref a1, .ref a2, .ref a3, .ref a4])), (a1, .inl (cL, 8, .inr (.inl (fun z => lN ((sd_up w q v) z))))), (a2, .inl (cL, 8, .inr (.inl sh))), (a3, .inl (cL, 8, .inr (.inl ke))), (a4, .inl (cZ, 8, .inl go))] := by rw [← sd_updL_w]; exact hD
        refine lv_iload_n hx hb dX1_weight_56 rfl (lv_at hl 0 rfl) ?_
        exact W.iret hx hb hr (fun t ht hW => ⟨⟨_, (sh, ke, go), rfl, rfl, by rw [ht]; exact hP, va_K.moved hW.alike hK, by rw [← hAe]; exact hD⟩, by rw [← hAe]; exact hS.F ht⟩) (fun q hq => by rw [← hAe]; exact hS.2.2 q hq) dX1_weight_57
      · exact absurd h (by omega)
    · exact absurd (show sd_rg (nI v) 0 100000 = false from h) (by rw [sd_rg_nI (by omega) (by omega) (by omega) (by omega)]; decide)
set_option maxHeartbeats 4000000 in
set_option maxRecDepth 100000 in
theorem m_init (l : Launch) (dC : Nat → ClassId) (dI : Nat → Nat → Nat) (h1 sz : Nat) : Met l yX1_init (sd_ws yX1_init cX1_init 1 none) (sd_rm 1 4 32) (sd_Pw (dC, dI) vwCl [] [(h1, .inr (1, [.int 0, .int 0, .null, .null, .null, .null]))] sz [.ref h1]) (va_Qv (fun (_ : ClassId × ClassId × Nat × Nat × Nat × Nat) => True) (fun u t => va_P (dC, dI) vwCl (sd_M u.1 u.2.1 h1 u.2.2.1 u.2.2.2.1 u.2.2.2.2.1 u.2.2.2.2.2 0 2 (fun _ => 0) (fun _ => lN 0) (fun _ => lN 0) (fun _ => nI 0)) t.heap ∧ va_K (dC, dI) vwCl [(u.1, .long), (u.2.1, .boolean)] t ∧ va_D (va_A [(h1, .inr (1, [.int 0, .int 0, .null, .null, .null, .null]))] sz) (sd_M u.1 u.2.1 h1 u.2.2.1 u.2.2.2.1 u.2.2.2.2.1 u.2.2.2.2.2 0 2 (fun _ => 0) (fun _ => lN 0) (fun _ => lN 0) (fun _ => nI 0))) (va_A [(h1, .inr (1, [.int 0, .int 0, .null, .null, .null, .null]))] sz)) 4 32 (va_A [(h1, .inr (1, [.int 0, .int 0, .null, .null, .null, .null]))] sz) := by
  refine Met.ofW (cc := cX1_init) (maxL := 1) (ret := none) (by decide) rfl ?_
  intro p e s m args below meth c s₁ B hml hv
  obtain ⟨rfl, hsz, hP, hK, hD0⟩ := hv
  subst hsz
  have hx := B.exec
  have hb := B.bytes
  have hr := B.returns
  have hts0 := atoms_spec (ws := (sd_ws yX1_init cX1_init 1 none)) B.pre
  have hts : ∀ w ∈ sd_WS, w.before _ s = true := fun w h => hts0 w (List.mem_cons_of_mem _ h)
  have hown : s.vm.findClass RX1 = some m.cls := findClass_of_methodNamed B.named
  have hlocks := B.notSynchronized
  have hl := lv_entry ([.ref h1]) (n := 1) (Nat.le_of_ble_eq_true rfl)
  rw [lg_entry_eq]
  generalize (lg_sl ([.ref h1]) ++ List.replicate (1 - (lg_sl ([.ref h1])).length) Slot.unset).toArray = ls at hl ⊢
  have hl : lv_has ls 1 [(0, .ref h1)] := hl
  obtain ⟨A, hAe⟩ : ∃ A, A = va_A [(h1, .inr (1, [.int 0, .int 0, .null, .null, .null, .null]))] s.heap.size := ⟨_, rfl⟩
  have hD : va_D A [(h1, .inr (1, [.int 0, .int 0, .null, .null, .null, .null]))] := by rw [hAe]; exact hD0.self
  have hA : ∀ q : Nat, s.heap.size ≤ q → A q := fun q h => by rw [hAe]; exact Or.inr h
  have hS : va_S A s.heap s.heap [] := va_S.rf
  have hin : meth.name = "<init>" := (name_of_methodNamed B.named B.method).1
  refine lv_aload_n hx hb dX1_init_0 rfl (lv_at hl 0 rfl) ?_
  refine W.objInit hx hb hown (hts (.methodLink RX1 1 objectInit) k_methodLink_X1_1) (hts (.instanceMethod objectInit) k_objI) (hts _ k_objC) rfl (by rw [hml]; exact hl.1) rfl dX1_init_1 (Nat.le_of_ble_eq_true rfl) (Nat.le_of_ble_eq_true rfl) ?_
  refine W.eq (g2 := F0 m 4 ls []) rfl ?_
  refine lv_aload_n hx hb dX1_init_4 rfl (lv_at hl 0 rfl) ?_
  refine lv_iconst (v := (nI 2)) hx hb dX1_init_5 (by decide +kernel) ?_
  refine va_put (D := (dC, dI)) (ci := 1) (v := .int (nI 2)) (ty := .int) (C := RX1) (T := TX1) (N := 6) hx hb hts u_in_X1 tyX1 tyX1_ok nmX1 hown hK hP hD hS 0 rfl rfl 1 (by decide) (hts (.fieldLink RX1 7 "ShareDeskModel" "parties" "I") k_fieldLink_X1_7) (fun _ h9 => h9) rfl (by decide +kernel) rfl rfl (Nat.le_of_ble_eq_true rfl) dX1_init_6 (fun H locs hP hD hS => ?_)
  have hP : va_P (dC, dI) vwCl [(h1, .inr (1, [.int 0, .int (nI 2), .null, .null, .null, .null]))] H := hP
  have hD : va_D A [(h1, .inr (1, [.int 0, .int (nI 2), .null, .null, .null, .null]))] := hD
  refine lv_aload_n hx hb dX1_init_9 rfl (lv_at hl 0 rfl) ?_
  refine lv_bipush (v := nI 8) hx hb dX1_init_10 (by decide +kernel) ?_
  have hc1 : 0 + 1 ≤ ((headSpec (sd_ws yX1_init cX1_init 1 none) (sd_rm 1 4 32)).room).cells := by show 1 ≤ 4; omega
  have hs1 : 0 + 8 ≤ ((headSpec (sd_ws yX1_init cX1_init 1 none) (sd_rm 1 4 32)).room).slots := by show 8 ≤ 32; omega
  refine va_newa (atype := .long) (ty := .long) (N' := 8) (a0 := (8, .inr (.inl (fun _ => 0)))) hx hb (hts (.arrayClass .long) k_arrL) rfl hK hP hD hS hA (fun cA => rfl) (by decide +kernel) (by decide +kernel) (by decide +kernel) hc1 hs1 dX1_init_12 (fun a1 c0 H hK hP hD hS => ?_)
  have hP : va_P (dC, dI) vwCl [(h1, .inr (1, [.int 0, .int (nI 2), .null, .null, .null, .null])), (a1, .inl (c0, 8, .inr (.inl (fun _ => 0))))] H := hP
  have hD : va_D A [(h1, .inr (1, [.int 0, .int (nI 2), .null, .null, .null, .null])), (a1, .inl (c0, 8, .inr (.inl (fun _ => 0))))] := hD
  have hK : va_K (dC, dI) vwCl [(c0, .long)] s := hK
  refine W.widen (k := 1) (n := 8) (by omega) (by omega) ?_
  refine va_putF (D := (dC, dI)) (ci := 1) (v := .ref a1) (ty := .array .long) (C := RX1) (T := TX1) (N := 6) hx hb hts u_in_X1 tyX1 tyX1_ok nmX1 hown hK hP hD hS 0 rfl rfl 2 (by decide) (hts (.fieldLink RX1 13 "ShareDeskModel" "weights" "[J") k_fieldLink_X1_13) (fun _ h9 => h9) rfl hin rfl (by decide +kernel) rfl rfl (Nat.le_of_ble_eq_true rfl) dX1_init_14 (fun H locs hP hD hS => ?_)
  have hP : va_P (dC, dI) vwCl [(h1, .inr (1, [.int 0, .int (nI 2), .ref a1, .null, .null, .null])), (a1, .inl (c0, 8, .inr (.inl (fun _ => 0))))] H := hP
  have hD : va_D A [(h1, .inr (1, [.int 0, .int (nI 2), .ref a1, .null, .null, .null])), (a1, .inl (c0, 8, .inr (.inl (fun _ => 0))))] := hD
  refine lv_aload_n hx hb dX1_init_17 rfl (lv_at hl 0 rfl) ?_
  refine lv_bipush (v := nI 8) hx hb dX1_init_18 (by decide +kernel) ?_
  have hc1 : 1 + 1 ≤ ((headSpec (sd_ws yX1_init cX1_init 1 none) (sd_rm 1 4 32)).room).cells := by show 2 ≤ 4; omega
  have hs1 : 8 + 8 ≤ ((headSpec (sd_ws yX1_init cX1_init 1 none) (sd_rm 1 4 32)).room).slots := by show 16 ≤ 32; omega
  refine va_newa (atype := .long) (ty := .long) (N' := 8) (a0 := (8, .inr (.inl (fun _ => 0)))) hx hb (hts (.arrayClass .long) k_arrL) rfl hK hP hD hS hA (fun cA => rfl) (by decide +kernel) (by decide +kernel) (by decide +kernel) hc1 hs1 dX1_init_20 (fun a2 c1 H hK hP hD hS => ?_)
  have hP : va_P (dC, dI) vwCl [(h1, .inr (1, [.int 0, .int (nI 2), .ref a1, .null, .null, .null])), (a1, .inl (c0, 8, .inr (.inl (fun _ => 0)))), (a2, .inl (c1, 8, .inr (.inl (fun _ => 0))))] H := hP
  have hD : va_D A [(h1, .inr (1, [.int 0, .int (nI 2), .ref a1, .null, .null, .null])), (a1, .inl (c0, 8, .inr (.inl (fun _ => 0)))), (a2, .inl (c1, 8, .inr (.inl (fun _ => 0))))] := hD
  have hK : va_K (dC, dI) vwCl [(c0, .long), (c1, .long)] s := hK
  refine W.widen (k := 2) (n := 16) (by omega) (by omega) ?_
  refine va_putF (D := (dC, dI)) (ci := 1) (v := .ref a2) (ty := .array .long) (C := RX1) (T := TX1) (N := 6) hx hb hts u_in_X1 tyX1 tyX1_ok nmX1 hown hK hP hD hS 0 rfl rfl 3 (by decide) (hts (.fieldLink RX1 17 "ShareDeskModel" "shares" "[J") k_fieldLink_X1_17) (fun _ h9 => h9) rfl hin rfl (by decide +kernel) rfl rfl (Nat.le_of_ble_eq_true rfl) dX1_init_22 (fun H locs hP hD hS => ?_)
  have hP : va_P (dC, dI) vwCl [(h1, .inr (1, [.int 0, .int (nI 2), .ref a1, .ref a2, .null, .null])), (a1, .inl (c0, 8, .inr (.inl (fun _ => 0)))), (a2, .inl (c1, 8, .inr (.inl (fun _ => 0))))] H := hP
  have hD : va_D A [(h1, .inr (1, [.int 0, .int (nI 2), .ref a1, .ref a2, .null, .null])), (a1, .inl (c0, 8, .inr (.inl (fun _ => 0)))), (a2, .inl (c1, 8, .inr (.inl (fun _ => 0))))] := hD
  refine lv_aload_n hx hb dX1_init_25 rfl (lv_at hl 0 rfl) ?_
  refine lv_bipush (v := nI 8) hx hb dX1_init_26 (by decide +kernel) ?_
  have hc1 : 2 + 1 ≤ ((headSpec (sd_ws yX1_init cX1_init 1 none) (sd_rm 1 4 32)).room).cells := by show 3 ≤ 4; omega
  have hs1 : 16 + 8 ≤ ((headSpec (sd_ws yX1_init cX1_init 1 none) (sd_rm 1 4 32)).room).slots := by show 24 ≤ 32; omega
  refine va_newa (atype := .long) (ty := .long) (N' := 8) (a0 := (8, .inr (.inl (fun _ => 0)))) hx hb (hts (.arrayClass .long) k_arrL) rfl hK hP hD hS hA (fun cA => rfl) (by decide +kernel) (by decide +kernel) (by decide +kernel) hc1 hs1 dX1_init_28 (fun a3 c2 H hK hP hD hS => ?_)
  have hP : va_P (dC, dI) vwCl [(h1, .inr (1, [.int 0, .int (nI 2), .ref a1, .ref a2, .null, .null])), (a1, .inl (c0, 8, .inr (.inl (fun _ => 0)))), (a2, .inl (c1, 8, .inr (.inl (fun _ => 0)))), (a3, .inl (c2, 8, .inr (.inl (fun _ => 0))))] H := hP
  have hD : va_D A [(h1, .inr (1, [.int 0, .int (nI 2), .ref a1, .ref a2, .null, .null])), (a1, .inl (c0, 8, .inr (.inl (fun _ => 0)))), (a2, .inl (c1, 8, .inr (.inl (fun _ => 0)))), (a3, .inl (c2, 8, .inr (.inl (fun _ => 0))))] := hD
  have hK : va_K (dC, dI) vwCl [(c0, .long), (c1, .long), (c2, .long)] s := hK
  refine W.widen (k := 3) (n := 24) (by omega) (by omega) ?_
  refine va_putF (D := (dC, dI)) (ci := 1) (v := .ref a3) (ty := .array .long) (C := RX1) (T := TX1) (N := 6) hx hb hts u_in_X1 tyX1 tyX1_ok nmX1 hown hK hP hD hS 0 rfl rfl 4 (by decide) (hts (.fieldLink RX1 20 "ShareDeskModel" "kept" "[J") k_fieldLink_X1_20) (fun _ h9 => h9) rfl hin rfl (by decide +kernel) rfl rfl (Nat.le_of_ble_eq_true rfl) dX1_init_30 (fun H locs hP hD hS => ?_)
  have hP : va_P (dC, dI) vwCl [(h1, .inr (1, [.int 0, .int (nI 2), .ref a1, .ref a2, .ref a3, .null])), (a1, .inl (c0, 8, .inr (.inl (fun _ => 0)))), (a2, .inl (c1, 8, .inr (.inl (fun _ => 0)))), (a3, .inl (c2, 8, .inr (.inl (fun _ => 0))))] H := hP
  have hD : va_D A [(h1, .inr (1, [.int 0, .int (nI 2), .ref a1, .ref a2, .ref a3, .null])), (a1, .inl (c0, 8, .inr (.inl (fun _ => 0)))), (a2, .inl (c1, 8, .inr (.inl (fun _ => 0)))), (a3, .inl (c2, 8, .inr (.inl (fun _ => 0))))] := hD
  refine lv_aload_n hx hb dX1_init_33 rfl (lv_at hl 0 rfl) ?_
  refine lv_bipush (v := nI 8) hx hb dX1_init_34 (by decide +kernel) ?_
  have hc1 : 3 + 1 ≤ ((headSpec (sd_ws yX1_init cX1_init 1 none) (sd_rm 1 4 32)).room).cells := by show 4 ≤ 4; omega
  have hs1 : 24 + 8 ≤ ((headSpec (sd_ws yX1_init cX1_init 1 none) (sd_rm 1 4 32)).room).slots := by show 32 ≤ 32; omega
  refine va_newa (atype := .boolean) (ty := .boolean) (N' := 8) (a0 := (8, .inl (fun _ => 0))) hx hb (hts (.arrayClass .boolean) k_arrZ) rfl hK hP hD hS hA (fun cA => rfl) (by decide +kernel) (by decide +kernel) (by decide +kernel) hc1 hs1 dX1_init_36 (fun a4 c3 H hK hP hD hS => ?_)
  have hP : va_P (dC, dI) vwCl [(h1, .inr (1, [.int 0, .int (nI 2), .ref a1, .ref a2, .ref a3, .null])), (a1, .inl (c0, 8, .inr (.inl (fun _ => 0)))), (a2, .inl (c1, 8, .inr (.inl (fun _ => 0)))), (a3, .inl (c2, 8, .inr (.inl (fun _ => 0)))), (a4, .inl (c3, 8, .inl (fun _ => 0)))] H := hP
  have hD : va_D A [(h1, .inr (1, [.int 0, .int (nI 2), .ref a1, .ref a2, .ref a3, .null])), (a1, .inl (c0, 8, .inr (.inl (fun _ => 0)))), (a2, .inl (c1, 8, .inr (.inl (fun _ => 0)))), (a3, .inl (c2, 8, .inr (.inl (fun _ => 0)))), (a4, .inl (c3, 8, .inl (fun _ => 0)))] := hD
  have hK : va_K (dC, dI) vwCl [(c0, .long), (c1, .long), (c2, .long), (c3, .boolean)] s := hK
  refine W.widen (k := 4) (n := 32) (by omega) (by omega) ?_
  refine va_putF (D := (dC, dI)) (ci := 1) (v := .ref a4) (ty := .array .boolean) (C := RX1) (T := TX1) (N := 6) hx hb hts u_in_X1 tyX1 tyX1_ok nmX1 hown hK hP hD hS 0 rfl rfl 5 (by decide) (hts (.fieldLink RX1 23 "ShareDeskModel" "got" "[Z") k_fieldLink_X1_23) (fun _ h9 => h9) rfl hin rfl (by decide +kernel) rfl rfl (Nat.le_of_ble_eq_true rfl) dX1_init_38 (fun H locs hP hD hS => ?_)
  have hP : va_P (dC, dI) vwCl [(h1, .inr (1, [.int 0, .int (nI 2), .ref a1, .ref a2, .ref a3, .ref a4])), (a1, .inl (c0, 8, .inr (.inl (fun _ => 0)))), (a2, .inl (c1, 8, .inr (.inl (fun _ => 0)))), (a3, .inl (c2, 8, .inr (.inl (fun _ => 0)))), (a4, .inl (c3, 8, .inl (fun _ => 0)))] H := hP
  have hD : va_D A [(h1, .inr (1, [.int 0, .int (nI 2), .ref a1, .ref a2, .ref a3, .ref a4])), (a1, .inl (c0, 8, .inr (.inl (fun _ => 0)))), (a2, .inl (c1, 8, .inr (.inl (fun _ => 0)))), (a3, .inl (c2, 8, .inr (.inl (fun _ => 0)))), (a4, .inl (c3, 8, .inl (fun _ => 0)))] := hD
  have e1 : c1 = c0 := Option.some.inj ((hK.2 1 _ rfl).2.symm.trans (hK.2 0 _ rfl).2)
  have e2 : c2 = c0 := Option.some.inj ((hK.2 2 _ rfl).2.symm.trans (hK.2 0 _ rfl).2)
  subst e1
  subst e2
  have eL : (fun _ : Nat => (0 : Int64)) = fun _ => lN 0 := rfl
  have eI : (fun _ : Nat => (0 : Int32)) = fun _ => nI 0 := by funext z; exact nI_0.symm
  rw [eL, eI] at hP hD
  have hP : va_P (dC, dI) vwCl (sd_M c2 c3 h1 a1 a2 a3 a4 0 2 (fun _ => 0) (fun _ => lN 0) (fun _ => lN 0) (fun _ => nI 0)) H := hP
  have hD : va_D A (sd_M c2 c3 h1 a1 a2 a3 a4 0 2 (fun _ => 0) (fun _ => lN 0) (fun _ => lN 0) (fun _ => nI 0)) := hD
  have hK := hK.sub (tys' := [(c2, .long), (c3, .boolean)]) [0, 3] rfl
  exact W.vret hx hb hr (fun t ht hW => ⟨⟨(c2, c3, a1, a2, a3, a4), rfl, trivial, by rw [ht]; exact hP, va_K.moved hW.alike hK, by rw [← hAe]; exact hD⟩, by rw [← hAe]; exact hS.F ht⟩) (fun q hq => by rw [← hAe]; exact hS.2.2 q hq) dX1_init_41
end
section
/-! Rows for the law: a static call of a method with an exception table (rows of the names that were given), calls that change a part of the world. -/
section VXS
variable {p : Program} {l : Launch} {e : Env} {R : Room} {s : State} {m : MethodId} {args : Array Value} {below : List Frame} {meth : Method} {c : Code} {T : State} {H : Heap} {locs : List Loc} {cells slots : Nat}
abbrev vx_CSW (R : Room) (s : State) (args : Array Value) (own : String) (index : Nat) (y : MethodName) (bytes : ByteArray) (maxL : Nat) (ret : Option FieldType) (hh : List (Nat × Nat × Nat × Nat)) (ws : List Cond) (rm : Room) (mc ms n : Nat) : Prop :=
  (rm.cells = mc ∧ rm.slots = ms ∧ rm.frames + 1 ≤ R.frames ∧ 8 + (maxL + 11) + rm.locals ≤ R.locals ∧ (∀ w ∈ ws, ∀ (a' : Array Value) (U : State), s.WarmedH U.vm → w.before a' U = true) ∧ Cond.codeWith y bytes maxL ret hh ∈ ws) ∧
  (Cond.codeWith y bytes maxL ret hh).before args s = true ∧ (Cond.initialized y.cls).before args s = true ∧ (y.cls ≠ "java/lang/invoke/MethodHandle" ∧ y.cls ≠ "java/lang/invoke/VarHandle") ∧
  (∀ sig, parseMethodDescriptor y.desc = some sig → n = sig.parameters.length) ∧ (Cond.methodLink own index y).before args s = true ∧ (Cond.static y).before args s = true
theorem vx_cwSW {own : String} {index maxL mc ms : Nat} {y : MethodName} {bytes : ByteArray} {ret : Option FieldType} {hh : List (Nat × Nat × Nat × Nat)} {Ts ws ws' : List Cond} {rm : Room} (n : Nat) (ht : ∀ w ∈ Ts, w.before args s = true) (hT : GoodIn Ts (va_wsS own index y ws)) (hw : ws = Cond.codeWith y bytes maxL ret hh :: ws') (hrc : rm.cells = mc) (hrs : rm.slots = ms)
    (hd : y.cls ≠ "java/lang/invoke/MethodHandle" ∧ y.cls ≠ "java/lang/invoke/VarHandle" ∧ (parseMethodDescriptor y.desc).map (fun d => d.parameters.length) = some n) (hR : rm.frames + 1 ≤ R.frames ∧ 8 + (maxL + 11) + rm.locals ≤ R.locals) :
    vx_CSW R s args own index y bytes maxL ret hh ws rm mc ms n := by
  have ok : ∀ w ∈ va_wsS own index y ws, w.before args s = true := fun w h => ht w (hT w h).1
  have hG : GoodIn Ts ws := fun w h => hT w (by unfold va_wsS; exact List.mem_append_right _ h)
  have hc : Cond.codeWith y bytes maxL ret hh ∈ ws := by rw [hw]; exact List.mem_cons_self
  refine ⟨⟨hrc, hrs, hR.1, hR.2, pay_in ht hG, hc⟩, ht _ (hG _ hc).1, ok _ (by simp [va_wsS]), ⟨hd.1, hd.2.1⟩, fun sig h => ?_, ok _ (by simp [va_wsS]), ok _ (by simp [va_wsS])⟩
  have h2 := hd.2.2
  rw [h] at h2
  exact (Option.some.inj h2).symm
theorem vx_callSW (X : Stand p l e R s m args below meth c T locs cells slots) (hexec : p.tables.exec = Jvm.exec) {own : String} {index : Nat} {y : MethodName} {bytes : ByteArray} {maxL : Nat} {ret : Option FieldType} {hh : List (Nat × Nat × Nat × Nat)}
    (hown : s.vm.findClass own = some m.cls) (hlink : (Cond.methodLink own index y).before args s = true) (hstat : (Cond.static y).before args s = true) (hinit : (Cond.initialized y.cls).before args s = true)
    (hcode : (Cond.codeWith y bytes maxL ret hh).before args s = true) (hy : y.cls ≠ "java/lang/invoke/MethodHandle" ∧ y.cls ≠ "java/lang/invoke/VarHandle")
    {W9 : Nat} {Pre : Pt → Array Value → Prop} {Post : Pt → Array Value → Option Value → Pt → Prop} (hK : Back l R p e below s args y 3 W9 Pre Post)
    {g : JFrame} (hg : g.method = m) (hsize : g.locals.size = c.maxLocals) {argsL rest : List Value} (hlen : ∀ sig, parseMethodDescriptor y.desc = some sig → argsL.length = sig.parameters.length)
    (hstack : g.stack = argsL.reverse ++ rest) (hW : 2 * g.monitorRoom + (rest.map fun v => v.category).sum ≤ W9) (hdg : decode c.code g.pc = .ok (.invokestatic index, 3))
    (hpre : ∀ vm₁, s.WarmedH vm₁ → Pre ⟨T.setVm vm₁, locs, cells, slots⟩ argsL.toArray) :
    ∃ (v : Option Value) (vm₁ : Vm) (B : Pt), s.WarmedH vm₁ ∧ Stand p l e R s m args below meth c B.U B.locs B.cells B.slots ∧ Post ⟨T.setVm vm₁, locs, cells, slots⟩ argsL.toArray v B ∧
      ∀ target, Steps p.tables e below (B.U.setTop { g with pc := g.pc + 3, stack := v.toList ++ rest }) target → Steps p.tables e below (T.setTop g) target := by
  obtain ⟨mk, methM, cM, hnamed, hmethM, -, -, -, -, -, -, hsigM⟩ := Cond.codeWith_spec hcode
  have hstatic : methM.isStatic = true := Cond.static_spec hnamed hmethM hstat
  obtain ⟨kP, hkP, -⟩ := className_of_methodNamed hnamed
  have hinitP : kP.init = .initialized := Cond.initialized_spec (findClass_of_methodNamed hnamed) hkP hinit
  obtain ⟨vm₁, X₁, hstep₁⟩ := X.invokestatic hexec hown hlink hnamed hmethM hstatic hkP hinitP hy (g := g) hg (argsL := argsL) (rest := rest) (hlen _ hsigM) hstack hdg
  obtain ⟨v, B, X', hpost, hsteps⟩ := hK m meth c ⟨T.setVm vm₁, locs, cells, slots⟩ { g with stack := rest } (.invokestatic index) mk argsL.toArray X₁ hg hsize hdg hW (X₁.named hnamed) (hpre vm₁ X₁.warmed)
  exact ⟨v, vm₁, B, X₁.warmed, X', hpost, fun target h => hstep₁ _ fun acts => by rw [doInvoke_state]; exact hsteps.trans h⟩
theorem vx_runSW {y : MethodName} {bytes cc : ByteArray} {maxL nL mc ms n index : Nat} {ret : Option FieldType} {hh : List (Nat × Nat × Nat × Nat)} {ws : List Cond} {rm : Room} {Pc : Array Value → State → Prop} {Qc : Array Value → State → Outcome → State → Prop} {free : Addr → Prop} {Ts : List Cond} {own : String} {As rest : List Value} {g : JFrame}
    (S : CallFix p m c cc nL s args Ts own) (hM : Met l y ws rm Pc Qc mc ms free) (cw : vx_CSW R s args own index y bytes maxL ret hh ws rm mc ms n) (hp : PreS s H Pc As)
    (hg : g.method = m) (hn : As.length = n) (hsize : g.locals.size = nL) (hstack : g.stack = As.reverse ++ rest) (hW : 2 * g.monitorRoom + (rest.map fun v => v.category).sum ≤ 8) (hdg : decode cc g.pc = .ok (.invokestatic index, 3)) (hf : cells + mc ≤ R.cells ∧ slots + ms ≤ R.slots) :
    va_Run p l e R s m args below meth c H locs cells slots mc ms g rest (Qc As.toArray) (free) := by
  obtain ⟨⟨hrc, hrs, hfr, hlo, hws, hcw⟩, hcode, hini, hy, hlen, hl, hstt⟩ := cw
  have hK : Back l R p e below s args y 3 8 (PreOf R mc ms Pc) (PostOf Qc mc ms free) := va_backW (hh := hh) (bytes := bytes) (maxL := maxL) (ret := ret) hM hp.1 hrc hrs hfr hlo hws hcw (fun a' U hW => word_at hW (Or.inl (by first | rfl | simp [Cond.onTables, Cond.keeps, Cond.steady])) hini)
  obtain ⟨hx, hb, hml, ho, -⟩ := S
  intro T hT X
  obtain ⟨v, vm₁, ⟨U', l2, c2, s2⟩, hW₁, X', ⟨g', mk, t, L, e1, e2, hq, h1, hL, h2, h3⟩, st⟩ := vx_callSW X hx (hh := hh) (bytes := bytes) (maxL := maxL) (ret := ret) ho hl hstt hini hcode hy hK hg (hsize.trans hml.symm) (argsL := As) (rest := rest) (fun sig h => hn.trans (hlen sig h)) hstack hW (by rw [hb]; exact hdg)
    (fun vm₁ hW₁ => ⟨hf.1, hf.2, hp.2 (T.setVm vm₁) hT hW₁⟩)
  dsimp only [Pt.U, Pt.locs, Pt.cells, Pt.slots] at X' e1 e2 h1 h2 h3 st
  subst h1; subst h2; subst h3
  exact ⟨v, (T.setVm vm₁).calling g' mk As.toArray, t, U', L, hT, X', hL, e1, e2, hq, st⟩
end VXS
theorem sd_table {l : Launch} {p : Program} {y : MethodName} {S : Spec} {cc bytes : ByteArray} {maxL maxL' : Nat} {ret ret' : Option FieldType} {e : Env} {s s₁ : State} {m : MethodId} {args : Array Value} {below : List Frame} {meth : Method} {c : Code} {hh : List (Nat × Nat × Nat × Nat)}
    (B : BodyLoose p l y S cc maxL ret e s m args below meth c s₁) (h : (Cond.codeWith y bytes maxL' ret' hh).before args s = true) : c.exceptionTable.toList = tableOf hh := by
  obtain ⟨m9, meth9, c9, hn9, h1, h2, -, -, h6, -⟩ := Cond.codeWith_spec h
  cases Option.some.inj (hn9.symm.trans B.named)
  cases Option.some.inj (h1.symm.trans B.method)
  cases Option.some.inj (h2.symm.trans (Stand.of_body B).code)
  rw [← h6, table_eq]
abbrev sd_wsW (y : MethodName) (b : ByteArray) (n : Nat) (r : Option FieldType) (hh : List (Nat × Nat × Nat × Nat)) : List Cond := .codeWith y b n r hh :: sd_WS
theorem sd_gSW {k : Cond} {own : String} {index : Nat} {z : MethodName} {bz : ByteArray} {nz : Nat} {rz : Option FieldType} {hh : List (Nat × Nat × Nat × Nat)} (h1 : .methodLink own index z ∈ sd_WS) (h2 : .static z ∈ sd_WS) (h4 : .initialized z.cls ∈ sd_WS) (h5 : .codeWith z bz nz rz hh ∈ sd_WS) :
    GoodIn (k :: sd_WS) (va_wsS own index z (sd_wsW z bz nz rz hh)) := by
  intro w hw
  have key : w ∈ sd_WS := by
    unfold va_wsS at hw
    rcases List.mem_append.mp hw with hw | hw
    · simp only [List.mem_cons, List.not_mem_nil, or_false] at hw
      rcases hw with rfl | rfl | rfl
      · exact h1
      · exact h2
      · exact h4
    · rcases List.mem_cons.mp hw with rfl | hw
      · exact h5
      · exact hw
  exact ⟨List.mem_cons_of_mem _ key, sd_good key⟩
/-- a world that a method may write, and what a throw under it needs -/
def sd_PwT (D : va_G) (cl : List vw_C) (tys : List (ClassId × FieldType)) (ws : va_W) (sz : Nat) (av : List Value) : Array Value → State → Prop :=
  va_Pc av (fun U => U.heap.size = sz ∧ va_P D cl ws U.heap ∧ va_K D cl tys U ∧ va_D (fun _ => True) ws ∧ sd_TH (fun _ => False) U U.heap)
theorem sd_PwT_blind (D : va_G) (cl : List vw_C) (tys : List (ClassId × FieldType)) (ws : va_W) (sz : Nat) (av : List Value) : FrameBlind (sd_PwT D cl tys ws sz av) := by
  intro a U g mk q
  obtain ⟨q0, q1, qP, qK, qD, qT⟩ := q
  exact ⟨q0, q1, qP, va_K.moved (u := U) (U := U.calling g mk a) (Vm.Alike.refl U.vm) qK, qD, sd_TH.moved (U := U.calling g mk a) (sd_calling_W U g mk a) qT⟩
section SDJ
variable {p : Program} {l : Launch} {e : Env} {R : Room} {s : State} {m : MethodId} {args : Array Value} {below : List Frame} {meth : Method} {c : Code} {H : Heap} {locs : List Loc} {cells slots mc ms : Nat} {Q : State → Prop} {cc : ByteArray} {pc : Nat} {ls : Array Slot} {rest st0 : List Value}
variable {D : va_G} {cl : List vw_C} {A : Nat → Prop} {tys : List (ClassId × FieldType)} {ws wc wr : va_W} {H0 : Heap} {a' : Array Value}
theorem sd_preSwT {As : List Value} (hK : va_K D cl tys s) (hP : va_P D cl ws H) (hD : va_D A ws) (hT : sd_TH (fun _ => False) s H) : PreS s H (sd_PwT D cl tys ws H.size As) As :=
  ⟨sd_PwT_blind D cl tys ws H.size As, fun U hU hW => ⟨rfl, by rw [hU], by rw [hU]; exact hP, va_K.moved hW.alike hK, hD.weaken (fun _ _ _ _ => trivial), by rw [hU]; exact hT.moved hW⟩⟩
theorem sd_preSw {As : List Value} (hK : va_K D cl tys s) (hP : va_P D cl ws H) (hD : va_D A ws) : PreS s H (sd_Pw D cl tys ws H.size As) As :=
  ⟨sd_Pw_blind D cl tys ws H.size As, fun U hU hW => ⟨rfl, by rw [hU], by rw [hU]; exact hP, va_K.moved hW.alike hK, hD.weaken (fun _ _ _ _ => trivial)⟩⟩
theorem sd_Ji {S : Type} {post : Int32 → S → Prop} {Bw : S → va_W} (hr : va_Run p l e R s m args below meth c H locs cells slots mc ms (F0 m pc ls st0) rest (va_Qi post (sd_Bw D cl tys wc H.size Bw) (va_A wc H.size) a') (va_A wc H.size))
    (hP : va_P D cl ws H) (hD : va_D A ws) (hS : va_S A H0 H locs) (hA : ∀ q, H0.size ≤ q → A q) (isC isR : List Nat) (hC : isC.map (fun i => ws[i]?) = wc.map some) (hR : isR.map (fun i => ws[i]?) = wr.map some) (hn : va_nd isR = true) (hdis : ∀ i ∈ isR, i ∉ isC)
    (kk : ∀ (r : Int32) (u : S) (H1 : Heap) (locs1 : List Loc), post r u → va_P D cl (wr ++ Bw u) H1 → va_D A (wr ++ Bw u) → va_S A H0 H1 locs1 → W p l e R s m args below meth c H1 locs1 (cells + mc) (slots + ms) Q (F0 m (pc + 3) ls (.int r :: rest))) : W p l e R s m args below meth c H locs cells slots Q (F0 m pc ls st0) := by
  have hF := va_free (wc := wc) hD hS hA isC hC
  refine va_calli hr hS (fun q _ h => hF q h) hF (fun r u t H1 locs1 ht hvm hp hB hz hk hS1 => ?_)
  obtain ⟨hP1, hK1, hD1⟩ := hB
  rw [ht] at hP1
  obtain ⟨hP2, hD2⟩ := va_join hP hD isC isR hC hR hn hdis hk hF hP1 hD1
  exact kk r u H1 locs1 hp hP2 hD2 hS1
theorem sd_Jl {S : Type} {post : Int64 → S → Prop} {Bw : S → va_W} (hr : va_Run p l e R s m args below meth c H locs cells slots mc ms (F0 m pc ls st0) rest (va_Ql post (sd_Bw D cl tys wc H.size Bw) (va_A wc H.size) a') (va_A wc H.size))
    (hP : va_P D cl ws H) (hD : va_D A ws) (hS : va_S A H0 H locs) (hA : ∀ q, H0.size ≤ q → A q) (isC isR : List Nat) (hC : isC.map (fun i => ws[i]?) = wc.map some) (hR : isR.map (fun i => ws[i]?) = wr.map some) (hn : va_nd isR = true) (hdis : ∀ i ∈ isR, i ∉ isC)
    (kk : ∀ (r : Int64) (u : S) (H1 : Heap) (locs1 : List Loc), post r u → va_P D cl (wr ++ Bw u) H1 → va_D A (wr ++ Bw u) → va_S A H0 H1 locs1 → W p l e R s m args below meth c H1 locs1 (cells + mc) (slots + ms) Q (F0 m (pc + 3) ls (.long r :: rest))) : W p l e R s m args below meth c H locs cells slots Q (F0 m pc ls st0) := by
  have hF := va_free (wc := wc) hD hS hA isC hC
  refine va_calll hr hS (fun q _ h => hF q h) hF (fun r u t H1 locs1 ht hvm hp hB hz hk hS1 => ?_)
  obtain ⟨hP1, hK1, hD1⟩ := hB
  rw [ht] at hP1
  obtain ⟨hP2, hD2⟩ := va_join hP hD isC isR hC hR hn hdis hk hF hP1 hD1
  exact kk r u H1 locs1 hp hP2 hD2 hS1
theorem sd_Jv {S : Type} {post : S → Prop} {Bw : S → va_W} (hr : va_Run p l e R s m args below meth c H locs cells slots mc ms (F0 m pc ls st0) rest (va_Qv post (sd_Bw D cl tys wc H.size Bw) (va_A wc H.size) a') (va_A wc H.size))
    (hP : va_P D cl ws H) (hD : va_D A ws) (hS : va_S A H0 H locs) (hA : ∀ q, H0.size ≤ q → A q) (isC isR : List Nat) (hC : isC.map (fun i => ws[i]?) = wc.map some) (hR : isR.map (fun i => ws[i]?) = wr.map some) (hn : va_nd isR = true) (hdis : ∀ i ∈ isR, i ∉ isC)
    (kk : ∀ (u : S) (H1 : Heap) (locs1 : List Loc), post u → va_P D cl (wr ++ Bw u) H1 → va_D A (wr ++ Bw u) → va_S A H0 H1 locs1 → W p l e R s m args below meth c H1 locs1 (cells + mc) (slots + ms) Q (F0 m (pc + 3) ls rest)) : W p l e R s m args below meth c H locs cells slots Q (F0 m pc ls st0) := by
  have hF := va_free (wc := wc) hD hS hA isC hC
  refine va_callv hr hS (fun q _ h => hF q h) hF (fun u t H1 locs1 ht hvm hp hB hz hk hS1 => ?_)
  obtain ⟨hP1, hK1, hD1⟩ := hB
  rw [ht] at hP1
  obtain ⟨hP2, hD2⟩ := va_join hP hD isC isR hC hR hn hdis hk hF hP1 hD1
  exact kk u H1 locs1 hp hP2 hD2 hS1
end SDJ
/-- the desk and the law's own array -/
def sd_OL (cA : ClassId) (h0 a0 n : Nat) (w : Nat → Nat) (cO : ClassId) (q0 : Nat) (ou : Nat → Int64) : va_W := [(h0, .inr (0, [.ref a0, .int (nI n), .int (nI (sd_sum w n))])), (a0, .inl (cA, 8, .inl (fun i => nI (w i)))), (q0, .inl (cO, 1, .inr (.inl ou)))]
theorem sd_keptP {D : va_G} {cl : List vw_C} {ws : va_W} {H H1 : Heap} (hP : va_P D cl ws H) (hk : ∀ a : Nat, a < H.size → H1[a]? = H[a]?) : va_P D cl ws H1 := hP.kept (fun k q hq => hk q.1 (hP k q hq).lt)
end
section
/-! More words of the tables: by program. -/
theorem k_classLink_L_13 : .classLink RL 13 "java/lang/IllegalArgumentException" ∈ sd_WS := sd_in (List.mem_append_right _ (List.mem_of_getElem? (i := 30) rfl)) (by decide +kernel)
theorem k_classLink_L_23 : .classLink RL 23 "java/lang/IllegalStateException" ∈ sd_WS := sd_in (List.mem_append_right _ (List.mem_of_getElem? (i := 119) rfl)) (by decide +kernel)
theorem k_codeWith_L_begin : .codeWith yL_begin cL_begin 3 (some .int) [(0, 5, 8, 13)] ∈ sd_WS := sd_in (List.mem_append_right _ (List.mem_of_getElem? (i := 29) rfl)) (by decide +kernel)
theorem k_codeWith_L_count : .codeWith yL_count cL_count 4 (some .int) [(0, 9, 12, 13)] ∈ sd_WS := sd_in (List.mem_append_right _ (List.mem_of_getElem? (i := 209) rfl)) (by decide +kernel)
theorem k_codeWith_L_least : .codeWith yL_least cL_least 6 (some .int) [(0, 12, 15, 13), (0, 12, 19, 23)] ∈ sd_WS := sd_in (List.mem_append_right _ (List.mem_of_getElem? (i := 196) rfl)) (by decide +kernel)
theorem k_codeWith_L_next : .codeWith yL_next cL_next 5 (some .int) [(0, 10, 13, 13), (0, 10, 17, 23)] ∈ sd_WS := sd_in (List.mem_append_right _ (List.mem_of_getElem? (i := 189) rfl)) (by decide +kernel)
theorem k_codeWith_L_over : .codeWith yL_over cL_over 6 (some .int) [(0, 11, 14, 13), (0, 11, 18, 23)] ∈ sd_WS := sd_in (List.mem_append_right _ (List.mem_of_getElem? (i := 182) rfl)) (by decide +kernel)
theorem k_codeWith_L_share : .codeWith yL_share cL_share 6 (some .int) [(0, 12, 15, 13), (0, 12, 19, 23)] ∈ sd_WS := sd_in (List.mem_append_right _ (List.mem_of_getElem? (i := 118) rfl)) (by decide +kernel)
theorem k_codeWith_L_weight : .codeWith yL_weight cL_weight 5 (some .int) [(0, 10, 13, 13)] ∈ sd_WS := sd_in (List.mem_append_right _ (List.mem_of_getElem? (i := 104) rfl)) (by decide +kernel)
theorem k_code_X0_begin : .code yX0_begin cX0_begin 3 none ∈ sd_WS := sd_in (List.mem_append_right _ (List.mem_of_getElem? (i := 34) rfl)) (by decide +kernel)
theorem k_code_X0_count : .code yX0_count cX0_count 2 (some .int) ∈ sd_WS := sd_in (List.mem_append_right _ (List.mem_of_getElem? (i := 213) rfl)) (by decide +kernel)
theorem k_code_X0_least : .code yX0_least cX0_least 6 (some .int) ∈ sd_WS := sd_in (List.mem_append_right _ (List.mem_of_getElem? (i := 200) rfl)) (by decide +kernel)
theorem k_code_X0_next : .code yX0_next cX0_next 5 (some .int) ∈ sd_WS := sd_in (List.mem_append_right _ (List.mem_of_getElem? (i := 193) rfl)) (by decide +kernel)
theorem k_code_X0_over : .code yX0_over cX0_over 4 (some .long) ∈ sd_WS := sd_in (List.mem_append_right _ (List.mem_of_getElem? (i := 186) rfl)) (by decide +kernel)
theorem k_code_X0_share : .code yX0_share cX0_share 4 (some .int) ∈ sd_WS := sd_in (List.mem_append_right _ (List.mem_of_getElem? (i := 123) rfl)) (by decide +kernel)
theorem k_code_X0_weight : .code yX0_weight cX0_weight 4 (some .int) ∈ sd_WS := sd_in (List.mem_append_right _ (List.mem_of_getElem? (i := 108) rfl)) (by decide +kernel)
theorem k_instanceMethod_X0_begin : .instanceMethod yX0_begin ∈ sd_WS := sd_in (List.mem_append_right _ (List.mem_of_getElem? (i := 32) rfl)) (by decide +kernel)
theorem k_instanceMethod_X0_count : .instanceMethod yX0_count ∈ sd_WS := sd_in (List.mem_append_right _ (List.mem_of_getElem? (i := 211) rfl)) (by decide +kernel)
theorem k_instanceMethod_X0_least : .instanceMethod yX0_least ∈ sd_WS := sd_in (List.mem_append_right _ (List.mem_of_getElem? (i := 198) rfl)) (by decide +kernel)
theorem k_instanceMethod_X0_next : .instanceMethod yX0_next ∈ sd_WS := sd_in (List.mem_append_right _ (List.mem_of_getElem? (i := 191) rfl)) (by decide +kernel)
theorem k_instanceMethod_X0_over : .instanceMethod yX0_over ∈ sd_WS := sd_in (List.mem_append_right _ (List.mem_of_getElem? (i := 184) rfl)) (by decide +kernel)
theorem k_instanceMethod_X0_share : .instanceMethod yX0_share ∈ sd_WS := sd_in (List.mem_append_right _ (List.mem_of_getElem? (i := 121) rfl)) (by decide +kernel)
theorem k_instanceMethod_X0_weight : .instanceMethod yX0_weight ∈ sd_WS := sd_in (List.mem_append_right _ (List.mem_of_getElem? (i := 106) rfl)) (by decide +kernel)
theorem k_methodLink_L_15 : .methodLink RL 15 yX0_weight ∈ sd_WS := sd_in (List.mem_append_right _ (List.mem_of_getElem? (i := 105) rfl)) (by decide +kernel)
theorem k_methodLink_L_19 : .methodLink RL 19 yX0_share ∈ sd_WS := sd_in (List.mem_append_right _ (List.mem_of_getElem? (i := 120) rfl)) (by decide +kernel)
theorem k_methodLink_L_25 : .methodLink RL 25 yX0_over ∈ sd_WS := sd_in (List.mem_append_right _ (List.mem_of_getElem? (i := 183) rfl)) (by decide +kernel)
theorem k_methodLink_L_29 : .methodLink RL 29 yX0_next ∈ sd_WS := sd_in (List.mem_append_right _ (List.mem_of_getElem? (i := 190) rfl)) (by decide +kernel)
theorem k_methodLink_L_32 : .methodLink RL 32 yX0_least ∈ sd_WS := sd_in (List.mem_append_right _ (List.mem_of_getElem? (i := 197) rfl)) (by decide +kernel)
theorem k_methodLink_L_35 : .methodLink RL 35 yX0_count ∈ sd_WS := sd_in (List.mem_append_right _ (List.mem_of_getElem? (i := 210) rfl)) (by decide +kernel)
theorem k_methodLink_L_7 : .methodLink RL 7 yX0_begin ∈ sd_WS := sd_in (List.mem_append_right _ (List.mem_of_getElem? (i := 31) rfl)) (by decide +kernel)
theorem k_sel_X0_begin : .selects RX0 yX0_begin yX0_begin ∈ sd_WS := sd_in (List.mem_append_right _ (List.mem_of_getElem? (i := 33) rfl)) (by decide +kernel)
theorem k_sel_X0_count : .selects RX0 yX0_count yX0_count ∈ sd_WS := sd_in (List.mem_append_right _ (List.mem_of_getElem? (i := 212) rfl)) (by decide +kernel)
theorem k_sel_X0_least : .selects RX0 yX0_least yX0_least ∈ sd_WS := sd_in (List.mem_append_right _ (List.mem_of_getElem? (i := 199) rfl)) (by decide +kernel)
theorem k_sel_X0_next : .selects RX0 yX0_next yX0_next ∈ sd_WS := sd_in (List.mem_append_right _ (List.mem_of_getElem? (i := 192) rfl)) (by decide +kernel)
theorem k_sel_X0_over : .selects RX0 yX0_over yX0_over ∈ sd_WS := sd_in (List.mem_append_right _ (List.mem_of_getElem? (i := 185) rfl)) (by decide +kernel)
theorem k_sel_X0_share : .selects RX0 yX0_share yX0_share ∈ sd_WS := sd_in (List.mem_append_right _ (List.mem_of_getElem? (i := 122) rfl)) (by decide +kernel)
theorem k_sel_X0_weight : .selects RX0 yX0_weight yX0_weight ∈ sd_WS := sd_in (List.mem_append_right _ (List.mem_of_getElem? (i := 107) rfl)) (by decide +kernel)
end
section
set_option maxHeartbeats 4000000 in
set_option maxRecDepth 100000 in
theorem w_share (l : Launch) (hl9 : l.stackTraces = false) (dC : Nat → ClassId) (dI : Nat → Nat → Nat) (cA : ClassId) (h0 a0 n : Nat) (w : Nat → Nat) (cO : ClassId) (q0 : Nat) (ou : Nat → Int64) (sz : Nat) (ok : sd_ok n w) (hW : 0 < sd_sum w n) (y u q : Nat) (hy : y ≤ 2) (hu : u ≤ 10000) (hq : q < n) : Met l yL_share (sd_wsW yL_share cL_share 6 (some .int) [(0, 12, 15, 13), (0, 12, 19, 23)]) (sd_rm 8 1 6) (sd_PwT (dC, dI) vwCl [(cA, .int), (cO, .long)] (sd_OL cA h0 a0 n w cO q0 ou) sz [.ref h0, .int (nI y), .int (nI u), .int (nI q), .ref q0]) (va_Qi (fun r (_ : Unit) => r = nI 0) (sd_Bw (dC, dI) vwCl [(cA, .int), (cO, .long)] (sd_OL cA h0 a0 n w cO q0 ou) sz (fun _ => (sd_OL cA h0 a0 n w cO q0 (vp_updL ou 0 ((nI (sd_U y w n u q)).toInt64))))) (va_A (sd_OL cA h0 a0 n w cO q0 ou) sz)) 1 6 (va_A (sd_OL cA h0 a0 n w cO q0 ou) sz) := by
  refine va_MetW (cc := cL_share) (maxL := 6) (ret := (some .int)) (hh := [(0, 12, 15, 13), (0, 12, 19, 23)]) (by decide) rfl ?_
  intro p e s m args below meth c s₁ B hml hv
  obtain ⟨rfl, hsz, hP, hK, hD0, hTH⟩ := hv
  subst hsz
  have hx := B.exec
  have hb := B.bytes
  have hr := B.returns
  have hts0 := atoms_spec (ws := (sd_wsW yL_share cL_share 6 (some .int) [(0, 12, 15, 13), (0, 12, 19, 23)])) B.pre
  have htb := sd_table B (hts0 _ List.mem_cons_self)
  have hts : ∀ w ∈ sd_WS, w.before _ s = true := fun w h => hts0 w (List.mem_cons_of_mem _ h)
  have hown : s.vm.findClass RL = some m.cls := findClass_of_methodNamed B.named
  have hlocks := B.notSynchronized
  have hl := lv_entry ([.ref h0, .int (nI y), .int (nI u), .int (nI q), .ref q0]) (n := 6) (Nat.le_of_ble_eq_true rfl)
  rw [lg_entry_eq]
  generalize (lg_sl ([.ref h0, .int (nI y), .int (nI u), .int (nI q), .ref q0]) ++ List.replicate (6 - (lg_sl ([.ref h0, .int (nI y), .int (nI u), .int (nI q), .ref q0])).length) Slot.unset).toArray = ls at hl ⊢
  have hl : lv_has ls 6 [(0, .ref h0), (1, .int (nI y)), (2, .int (nI u)), (3, .int (nI q)), (4, .ref q0)] := hl
  obtain ⟨A, hAe⟩ : ∃ A, A = va_A (sd_OL cA h0 a0 n w cO q0 ou) s.heap.size := ⟨_, rfl⟩
  have hD : va_D A (sd_OL cA h0 a0 n w cO q0 ou) := by rw [hAe]; exact hD0.self
  have hA : ∀ q : Nat, s.heap.size ≤ q → A q := fun q h => by rw [hAe]; exact Or.inr h
  have hS : va_S A s.heap s.heap [] := va_S.rf
  have hP : va_P (dC, dI) vwCl [(h0, .inr (0, [.ref a0, .int (nI n), .int (nI (sd_sum w n))])), (a0, .inl (cA, 8, .inl (fun i => nI (w i)))), (q0, .inl (cO, 1, .inr (.inl ou)))] s.heap := hP
  have hD : va_D A [(h0, .inr (0, [.ref a0, .int (nI n), .int (nI (sd_sum w n))])), (a0, .inl (cA, 8, .inl (fun i => nI (w i)))), (q0, .inl (cO, 1, .inr (.inl ou)))] := hD
  have hPc := hP.sub (ws' := (sd_O cA h0 a0 n w)) [0, 1] rfl
  have hKc := hK.sub (tys' := [(cA, .int)]) [0] rfl
  have hDc := hD.sub (ws' := (sd_O cA h0 a0 n w)) [0, 1] (by decide) rfl
  refine lv_aload hx hb dL_share_0 (lv_at hl 4 rfl) ?_
  refine lv_iconst (v := (nI 0)) hx hb dL_share_2 (by decide +kernel) ?_
  refine lv_aload_n hx hb dL_share_3 rfl (lv_at hl 0 rfl) ?_
  refine lv_iload_n hx hb dL_share_4 rfl (lv_at hl 1 rfl) ?_
  refine lv_iload_n hx hb dL_share_5 rfl (lv_at hl 2 rfl) ?_
  refine lv_iload_n hx hb dL_share_6 rfl (lv_at hl 3 rfl) ?_
  refine sd_calli (va_runV (As := [.int (nI y), .int (nI u), .int (nI q)]) (rest := [.int (nI 0), .ref q0]) ⟨hx, hb, hml, hown, hts0⟩ (c_share l dC dI cA h0 a0 n w ok hW y u q hy hu hq) (cwV 3 hts0 (sd_gV k_methodLink_L_19 k_instanceMethod_X0_share k_sel_X0_share k_init_ShareDesk k_code_X0_share) rfl rfl rfl (by decide +kernel) ⟨Nat.le_of_ble_eq_true rfl, Nat.le_of_ble_eq_true rfl⟩) (sd_preV hKc hPc (q0 := 0) (ci := 0) rfl rfl) rfl rfl hl.1 rfl (lv_room (Nat.le_of_ble_eq_true rfl)) dL_share_7 ⟨Nat.zero_le _, Nat.zero_le _⟩) ?_
  refine lv_i2l (v := (nI (sd_U y w n u q)).toInt64) hx hb dL_share_10 rfl ?_
  refine sd_last (j := 0) hx hb hK hP hD hS 2 1 rfl rfl (by omega) (by decide) dL_share_11 (fun H locs hP hD hS => ?_)
  have hP : va_P (dC, dI) vwCl [(h0, .inr (0, [.ref a0, .int (nI n), .int (nI (sd_sum w n))])), (a0, .inl (cA, 8, .inl (fun i => nI (w i)))), (q0, .inl (cO, 1, .inr (.inl (vp_updL ou 0 ((nI (sd_U y w n u q)).toInt64)))))] H := hP
  have hD : va_D A [(h0, .inr (0, [.ref a0, .int (nI n), .int (nI (sd_sum w n))])), (a0, .inl (cA, 8, .inl (fun i => nI (w i)))), (q0, .inl (cO, 1, .inr (.inl (vp_updL ou 0 ((nI (sd_U y w n u q)).toInt64)))))] := hD
  refine lv_goto (tgt := 23) hx hb dL_share_12 (by decide) ?_
  refine lv_iconst (v := (nI 0)) hx hb dL_share_23 (by decide +kernel) ?_
  have hP : va_P (dC, dI) vwCl (sd_OL cA h0 a0 n w cO q0 (vp_updL ou 0 ((nI (sd_U y w n u q)).toInt64))) H := hP
  have hD : va_D A (sd_OL cA h0 a0 n w cO q0 (vp_updL ou 0 ((nI (sd_U y w n u q)).toInt64))) := hD
  refine W.widen (k := 1) (n := 6) (by omega) (by omega) ?_
  exact W.iret hx hb hr (fun t ht hW => ⟨⟨_, (), rfl, rfl, by rw [ht]; exact hP, va_K.moved hW.alike hK, by rw [← hAe]; exact hD⟩, by rw [← hAe]; exact hS.F ht⟩) (fun q hq => by rw [← hAe]; exact hS.2.2 q hq) dL_share_24
set_option maxHeartbeats 4000000 in
set_option maxRecDepth 100000 in
theorem w_share1 (l : Launch) (hl9 : l.stackTraces = false) (dC : Nat → ClassId) (dI : Nat → Nat → Nat) (cA : ClassId) (h0 a0 n : Nat) (w : Nat → Nat) (cO : ClassId) (q0 : Nat) (ou : Nat → Int64) (sz : Nat) (x1 x2 x3 : Int32) (hbad : x1 < 0 ∨ nI 2 < x1) : Met l yL_share (sd_wsW yL_share cL_share 6 (some .int) [(0, 12, 15, 13), (0, 12, 19, 23)]) (sd_rm 8 1 6) (sd_PwT (dC, dI) vwCl [(cA, .int), (cO, .long)] (sd_OL cA h0 a0 n w cO q0 ou) sz [.ref h0, .int x1, .int x2, .int x3, .ref q0]) (va_Qi (fun r (_ : Unit) => r = nI 1) (sd_Bw (dC, dI) vwCl [(cA, .int), (cO, .long)] (sd_OL cA h0 a0 n w cO q0 ou) sz (fun _ => (sd_OL cA h0 a0 n w cO q0 ou))) (va_A (sd_OL cA h0 a0 n w cO q0 ou) sz)) 1 6 (va_A (sd_OL cA h0 a0 n w cO q0 ou) sz) := by
  refine va_MetW (cc := cL_share) (maxL := 6) (ret := (some .int)) (hh := [(0, 12, 15, 13), (0, 12, 19, 23)]) (by decide) rfl ?_
  intro p e s m args below meth c s₁ B hml hv
  obtain ⟨rfl, hsz, hP, hK, hD0, hTH⟩ := hv
  subst hsz
  have hx := B.exec
  have hb := B.bytes
  have hr := B.returns
  have hts0 := atoms_spec (ws := (sd_wsW yL_share cL_share 6 (some .int) [(0, 12, 15, 13), (0, 12, 19, 23)])) B.pre
  have htb := sd_table B (hts0 _ List.mem_cons_self)
  have hts : ∀ w ∈ sd_WS, w.before _ s = true := fun w h => hts0 w (List.mem_cons_of_mem _ h)
  have hown : s.vm.findClass RL = some m.cls := findClass_of_methodNamed B.named
  have hlocks := B.notSynchronized
  have hl := lv_entry ([.ref h0, .int x1, .int x2, .int x3, .ref q0]) (n := 6) (Nat.le_of_ble_eq_true rfl)
  rw [lg_entry_eq]
  generalize (lg_sl ([.ref h0, .int x1, .int x2, .int x3, .ref q0]) ++ List.replicate (6 - (lg_sl ([.ref h0, .int x1, .int x2, .int x3, .ref q0])).length) Slot.unset).toArray = ls at hl ⊢
  have hl : lv_has ls 6 [(0, .ref h0), (1, .int x1), (2, .int x2), (3, .int x3), (4, .ref q0)] := hl
  obtain ⟨A, hAe⟩ : ∃ A, A = va_A (sd_OL cA h0 a0 n w cO q0 ou) s.heap.size := ⟨_, rfl⟩
  have hD : va_D A (sd_OL cA h0 a0 n w cO q0 ou) := by rw [hAe]; exact hD0.self
  have hA : ∀ q : Nat, s.heap.size ≤ q → A q := fun q h => by rw [hAe]; exact Or.inr h
  have hS : va_S A s.heap s.heap [] := va_S.rf
  have hP : va_P (dC, dI) vwCl [(h0, .inr (0, [.ref a0, .int (nI n), .int (nI (sd_sum w n))])), (a0, .inl (cA, 8, .inl (fun i => nI (w i)))), (q0, .inl (cO, 1, .inr (.inl ou)))] s.heap := hP
  have hD : va_D A [(h0, .inr (0, [.ref a0, .int (nI n), .int (nI (sd_sum w n))])), (a0, .inl (cA, 8, .inl (fun i => nI (w i)))), (q0, .inl (cO, 1, .inr (.inl ou)))] := hD
  have hPc := hP.sub (ws' := (sd_O cA h0 a0 n w)) [0, 1] rfl
  have hKc := hK.sub (tys' := [(cA, .int)]) [0] rfl
  have hDc := hD.sub (ws' := (sd_O cA h0 a0 n w)) [0, 1] (by decide) rfl
  refine lv_aload hx hb dL_share_0 (lv_at hl 4 rfl) ?_
  refine lv_iconst (v := (nI 0)) hx hb dL_share_2 (by decide +kernel) ?_
  refine lv_aload_n hx hb dL_share_3 rfl (lv_at hl 0 rfl) ?_
  refine lv_iload_n hx hb dL_share_4 rfl (lv_at hl 1 rfl) ?_
  refine lv_iload_n hx hb dL_share_5 rfl (lv_at hl 2 rfl) ?_
  refine lv_iload_n hx hb dL_share_6 rfl (lv_at hl 3 rfl) ?_
  refine sd_thrV (As := [.int x1, .int x2, .int x3]) (rest := [.int (nI 0), .ref q0]) ⟨hx, hb, hml, hown, hts0⟩ (t_share1 l hl9 dC dI cA h0 a0 n w x1 x2 x3 hbad) (cwV 3 hts0 (sd_gV k_methodLink_L_19 k_instanceMethod_X0_share k_sel_X0_share k_init_ShareDesk k_code_X0_share) rfl rfl rfl (by decide +kernel) ⟨Nat.le_of_ble_eq_true rfl, Nat.le_of_ble_eq_true rfl⟩) (sd_preVt hKc hPc hTH (q0 := 0) (ci := 0) rfl rfl) rfl hl.1 rfl (lv_room (Nat.le_of_ble_eq_true rfl)) dL_share_7 ⟨Nat.le_refl _, Nat.le_refl _⟩ (sd_catch1 (own := RL) (cls := sd_IA) (x := (⟨0, 12, 15, 13⟩ : ExceptionTableEntry)) (t := [(⟨0, 12, 19, 23⟩ : ExceptionTableEntry)]) (by rw [htb]; rfl) hown (by decide) (by decide) (hts (.classLink RL 13 sd_IA) k_classLink_L_13) (va_any rfl hTH.2.2.2.1) (fun H q9 hz hk => ?_))
  have hP := sd_keptP hP hk
  have hS : va_S A s.heap H [] := ⟨hz, fun q hq _ => hk q hq, fun _ h => nomatch h⟩
  refine W.eq (g2 := F0 m 15 ls [.ref q9]) rfl ?_
  refine lv_astore hx hb dL_share_15 hl (by decide) rfl (fun ls hl => ?_)
  have hl : lv_has ls 6 [(5, .ref q9), (0, .ref h0), (1, .int x1), (2, .int x2), (3, .int x3), (4, .ref q0)] := hl
  refine lv_iconst (v := (nI 1)) hx hb dL_share_17 (by decide +kernel) ?_
  have hP : va_P (dC, dI) vwCl (sd_OL cA h0 a0 n w cO q0 ou) H := hP
  have hD : va_D A (sd_OL cA h0 a0 n w cO q0 ou) := hD
  refine W.widen (k := 1) (n := 6) (by omega) (by omega) ?_
  exact W.iret hx hb hr (fun t ht hW => ⟨⟨_, (), rfl, rfl, by rw [ht]; exact hP, va_K.moved hW.alike hK, by rw [← hAe]; exact hD⟩, by rw [← hAe]; exact hS.F ht⟩) (fun q hq => by rw [← hAe]; exact hS.2.2 q hq) dL_share_18
set_option maxHeartbeats 4000000 in
set_option maxRecDepth 100000 in
theorem w_share2 (l : Launch) (hl9 : l.stackTraces = false) (dC : Nat → ClassId) (dI : Nat → Nat → Nat) (cA : ClassId) (h0 a0 n : Nat) (w : Nat → Nat) (cO : ClassId) (q0 : Nat) (ou : Nat → Int64) (sz : Nat) (y : Nat) (hy : y ≤ 2) (x2 x3 : Int32) (hbad : x2 < 0 ∨ nI 10000 < x2) : Met l yL_share (sd_wsW yL_share cL_share 6 (some .int) [(0, 12, 15, 13), (0, 12, 19, 23)]) (sd_rm 8 1 6) (sd_PwT (dC, dI) vwCl [(cA, .int), (cO, .long)] (sd_OL cA h0 a0 n w cO q0 ou) sz [.ref h0, .int (nI y), .int x2, .int x3, .ref q0]) (va_Qi (fun r (_ : Unit) => r = nI 1) (sd_Bw (dC, dI) vwCl [(cA, .int), (cO, .long)] (sd_OL cA h0 a0 n w cO q0 ou) sz (fun _ => (sd_OL cA h0 a0 n w cO q0 ou))) (va_A (sd_OL cA h0 a0 n w cO q0 ou) sz)) 1 6 (va_A (sd_OL cA h0 a0 n w cO q0 ou) sz) := by
  refine va_MetW (cc := cL_share) (maxL := 6) (ret := (some .int)) (hh := [(0, 12, 15, 13), (0, 12, 19, 23)]) (by decide) rfl ?_
  intro p e s m args below meth c s₁ B hml hv
  obtain ⟨rfl, hsz, hP, hK, hD0, hTH⟩ := hv
  subst hsz
  have hx := B.exec
  have hb := B.bytes
  have hr := B.returns
  have hts0 := atoms_spec (ws := (sd_wsW yL_share cL_share 6 (some .int) [(0, 12, 15, 13), (0, 12, 19, 23)])) B.pre
  have htb := sd_table B (hts0 _ List.mem_cons_self)
  have hts : ∀ w ∈ sd_WS, w.before _ s = true := fun w h => hts0 w (List.mem_cons_of_mem _ h)
  have hown : s.vm.findClass RL = some m.cls := findClass_of_methodNamed B.named
  have hlocks := B.notSynchronized
  have hl := lv_entry ([.ref h0, .int (nI y), .int x2, .int x3, .ref q0]) (n := 6) (Nat.le_of_ble_eq_true rfl)
  rw [lg_entry_eq]
  generalize (lg_sl ([.ref h0, .int (nI y), .int x2, .int x3, .ref q0]) ++ List.replicate (6 - (lg_sl ([.ref h0, .int (nI y), .int x2, .int x3, .ref q0])).length) Slot.unset).toArray = ls at hl ⊢
  have hl : lv_has ls 6 [(0, .ref h0), (1, .int (nI y)), (2, .int x2), (3, .int x3), (4, .ref q0)] := hl
  obtain ⟨A, hAe⟩ : ∃ A, A = va_A (sd_OL cA h0 a0 n w cO q0 ou) s.heap.size := ⟨_, rfl⟩
  have hD : va_D A (sd_OL cA h0 a0 n w cO q0 ou) := by rw [hAe]; exact hD0.self
  have hA : ∀ q : Nat, s.heap.size ≤ q → A q := fun q h => by rw [hAe]; exact Or.inr h
  have hS : va_S A s.heap s.heap [] := va_S.rf
  have hP : va_P (dC, dI) vwCl [(h0, .inr (0, [.ref a0, .int (nI n), .int (nI (sd_sum w n))])), (a0, .inl (cA, 8, .inl (fun i => nI (w i)))), (q0, .inl (cO, 1, .inr (.inl ou)))] s.heap := hP
  have hD : va_D A [(h0, .inr (0, [.ref a0, .int (nI n), .int (nI (sd_sum w n))])), (a0, .inl (cA, 8, .inl (fun i => nI (w i)))), (q0, .inl (cO, 1, .inr (.inl ou)))] := hD
  have hPc := hP.sub (ws' := (sd_O cA h0 a0 n w)) [0, 1] rfl
  have hKc := hK.sub (tys' := [(cA, .int)]) [0] rfl
  have hDc := hD.sub (ws' := (sd_O cA h0 a0 n w)) [0, 1] (by decide) rfl
  refine lv_aload hx hb dL_share_0 (lv_at hl 4 rfl) ?_
  refine lv_iconst (v := (nI 0)) hx hb dL_share_2 (by decide +kernel) ?_
  refine lv_aload_n hx hb dL_share_3 rfl (lv_at hl 0 rfl) ?_
  refine lv_iload_n hx hb dL_share_4 rfl (lv_at hl 1 rfl) ?_
  refine lv_iload_n hx hb dL_share_5 rfl (lv_at hl 2 rfl) ?_
  refine lv_iload_n hx hb dL_share_6 rfl (lv_at hl 3 rfl) ?_
  refine sd_thrV (As := [.int (nI y), .int x2, .int x3]) (rest := [.int (nI 0), .ref q0]) ⟨hx, hb, hml, hown, hts0⟩ (t_share2 l hl9 dC dI cA h0 a0 n w y hy x2 x3 hbad) (cwV 3 hts0 (sd_gV k_methodLink_L_19 k_instanceMethod_X0_share k_sel_X0_share k_init_ShareDesk k_code_X0_share) rfl rfl rfl (by decide +kernel) ⟨Nat.le_of_ble_eq_true rfl, Nat.le_of_ble_eq_true rfl⟩) (sd_preVt hKc hPc hTH (q0 := 0) (ci := 0) rfl rfl) rfl hl.1 rfl (lv_room (Nat.le_of_ble_eq_true rfl)) dL_share_7 ⟨Nat.le_refl _, Nat.le_refl _⟩ (sd_catch1 (own := RL) (cls := sd_IA) (x := (⟨0, 12, 15, 13⟩ : ExceptionTableEntry)) (t := [(⟨0, 12, 19, 23⟩ : ExceptionTableEntry)]) (by rw [htb]; rfl) hown (by decide) (by decide) (hts (.classLink RL 13 sd_IA) k_classLink_L_13) (va_any rfl hTH.2.2.2.1) (fun H q9 hz hk => ?_))
  have hP := sd_keptP hP hk
  have hS : va_S A s.heap H [] := ⟨hz, fun q hq _ => hk q hq, fun _ h => nomatch h⟩
  refine W.eq (g2 := F0 m 15 ls [.ref q9]) rfl ?_
  refine lv_astore hx hb dL_share_15 hl (by decide) rfl (fun ls hl => ?_)
  have hl : lv_has ls 6 [(5, .ref q9), (0, .ref h0), (1, .int (nI y)), (2, .int x2), (3, .int x3), (4, .ref q0)] := hl
  refine lv_iconst (v := (nI 1)) hx hb dL_share_17 (by decide +kernel) ?_
  have hP : va_P (dC, dI) vwCl (sd_OL cA h0 a0 n w cO q0 ou) H := hP
  have hD : va_D A (sd_OL cA h0 a0 n w cO q0 ou) := hD
  refine W.widen (k := 1) (n := 6) (by omega) (by omega) ?_
  exact W.iret hx hb hr (fun t ht hW => ⟨⟨_, (), rfl, rfl, by rw [ht]; exact hP, va_K.moved hW.alike hK, by rw [← hAe]; exact hD⟩, by rw [← hAe]; exact hS.F ht⟩) (fun q hq => by rw [← hAe]; exact hS.2.2 q hq) dL_share_18
set_option maxHeartbeats 4000000 in
set_option maxRecDepth 100000 in
theorem w_share3 (l : Launch) (hl9 : l.stackTraces = false) (dC : Nat → ClassId) (dI : Nat → Nat → Nat) (cA : ClassId) (h0 a0 n : Nat) (w : Nat → Nat) (cO : ClassId) (q0 : Nat) (ou : Nat → Int64) (sz : Nat) (y u : Nat) (hy : y ≤ 2) (hu : u ≤ 10000) (x3 : Int32) (hbad : x3 < 0 ∨ nI n ≤ x3) : Met l yL_share (sd_wsW yL_share cL_share 6 (some .int) [(0, 12, 15, 13), (0, 12, 19, 23)]) (sd_rm 8 1 6) (sd_PwT (dC, dI) vwCl [(cA, .int), (cO, .long)] (sd_OL cA h0 a0 n w cO q0 ou) sz [.ref h0, .int (nI y), .int (nI u), .int x3, .ref q0]) (va_Qi (fun r (_ : Unit) => r = nI 1) (sd_Bw (dC, dI) vwCl [(cA, .int), (cO, .long)] (sd_OL cA h0 a0 n w cO q0 ou) sz (fun _ => (sd_OL cA h0 a0 n w cO q0 ou))) (va_A (sd_OL cA h0 a0 n w cO q0 ou) sz)) 1 6 (va_A (sd_OL cA h0 a0 n w cO q0 ou) sz) := by
  refine va_MetW (cc := cL_share) (maxL := 6) (ret := (some .int)) (hh := [(0, 12, 15, 13), (0, 12, 19, 23)]) (by decide) rfl ?_
  intro p e s m args below meth c s₁ B hml hv
  obtain ⟨rfl, hsz, hP, hK, hD0, hTH⟩ := hv
  subst hsz
  have hx := B.exec
  have hb := B.bytes
  have hr := B.returns
  have hts0 := atoms_spec (ws := (sd_wsW yL_share cL_share 6 (some .int) [(0, 12, 15, 13), (0, 12, 19, 23)])) B.pre
  have htb := sd_table B (hts0 _ List.mem_cons_self)
  have hts : ∀ w ∈ sd_WS, w.before _ s = true := fun w h => hts0 w (List.mem_cons_of_mem _ h)
  have hown : s.vm.findClass RL = some m.cls := findClass_of_methodNamed B.named
  have hlocks := B.notSynchronized
  have hl := lv_entry ([.ref h0, .int (nI y), .int (nI u), .int x3, .ref q0]) (n := 6) (Nat.le_of_ble_eq_true rfl)
  rw [lg_entry_eq]
  generalize (lg_sl ([.ref h0, .int (nI y), .int (nI u), .int x3, .ref q0]) ++ List.replicate (6 - (lg_sl ([.ref h0, .int (nI y), .int (nI u), .int x3, .ref q0])).length) Slot.unset).toArray = ls at hl ⊢
  have hl : lv_has ls 6 [(0, .ref h0), (1, .int (nI y)), (2, .int (nI u)), (3, .int x3), (4, .ref q0)] := hl
  obtain ⟨A, hAe⟩ : ∃ A, A = va_A (sd_OL cA h0 a0 n w cO q0 ou) s.heap.size := ⟨_, rfl⟩
  have hD : va_D A (sd_OL cA h0 a0 n w cO q0 ou) := by rw [hAe]; exact hD0.self
  have hA : ∀ q : Nat, s.heap.size ≤ q → A q := fun q h => by rw [hAe]; exact Or.inr h
  have hS : va_S A s.heap s.heap [] := va_S.rf
  have hP : va_P (dC, dI) vwCl [(h0, .inr (0, [.ref a0, .int (nI n), .int (nI (sd_sum w n))])), (a0, .inl (cA, 8, .inl (fun i => nI (w i)))), (q0, .inl (cO, 1, .inr (.inl ou)))] s.heap := hP
  have hD : va_D A [(h0, .inr (0, [.ref a0, .int (nI n), .int (nI (sd_sum w n))])), (a0, .inl (cA, 8, .inl (fun i => nI (w i)))), (q0, .inl (cO, 1, .inr (.inl ou)))] := hD
  have hPc := hP.sub (ws' := (sd_O cA h0 a0 n w)) [0, 1] rfl
  have hKc := hK.sub (tys' := [(cA, .int)]) [0] rfl
  have hDc := hD.sub (ws' := (sd_O cA h0 a0 n w)) [0, 1] (by decide) rfl
  refine lv_aload hx hb dL_share_0 (lv_at hl 4 rfl) ?_
  refine lv_iconst (v := (nI 0)) hx hb dL_share_2 (by decide +kernel) ?_
  refine lv_aload_n hx hb dL_share_3 rfl (lv_at hl 0 rfl) ?_
  refine lv_iload_n hx hb dL_share_4 rfl (lv_at hl 1 rfl) ?_
  refine lv_iload_n hx hb dL_share_5 rfl (lv_at hl 2 rfl) ?_
  refine lv_iload_n hx hb dL_share_6 rfl (lv_at hl 3 rfl) ?_
  refine sd_thrV (As := [.int (nI y), .int (nI u), .int x3]) (rest := [.int (nI 0), .ref q0]) ⟨hx, hb, hml, hown, hts0⟩ (t_share3 l hl9 dC dI cA h0 a0 n w y u hy hu x3 hbad) (cwV 3 hts0 (sd_gV k_methodLink_L_19 k_instanceMethod_X0_share k_sel_X0_share k_init_ShareDesk k_code_X0_share) rfl rfl rfl (by decide +kernel) ⟨Nat.le_of_ble_eq_true rfl, Nat.le_of_ble_eq_true rfl⟩) (sd_preVt hKc hPc hTH (q0 := 0) (ci := 0) rfl rfl) rfl hl.1 rfl (lv_room (Nat.le_of_ble_eq_true rfl)) dL_share_7 ⟨Nat.le_refl _, Nat.le_refl _⟩ (sd_catch1 (own := RL) (cls := sd_IA) (x := (⟨0, 12, 15, 13⟩ : ExceptionTableEntry)) (t := [(⟨0, 12, 19, 23⟩ : ExceptionTableEntry)]) (by rw [htb]; rfl) hown (by decide) (by decide) (hts (.classLink RL 13 sd_IA) k_classLink_L_13) (va_any rfl hTH.2.2.2.1) (fun H q9 hz hk => ?_))
  have hP := sd_keptP hP hk
  have hS : va_S A s.heap H [] := ⟨hz, fun q hq _ => hk q hq, fun _ h => nomatch h⟩
  refine W.eq (g2 := F0 m 15 ls [.ref q9]) rfl ?_
  refine lv_astore hx hb dL_share_15 hl (by decide) rfl (fun ls hl => ?_)
  have hl : lv_has ls 6 [(5, .ref q9), (0, .ref h0), (1, .int (nI y)), (2, .int (nI u)), (3, .int x3), (4, .ref q0)] := hl
  refine lv_iconst (v := (nI 1)) hx hb dL_share_17 (by decide +kernel) ?_
  have hP : va_P (dC, dI) vwCl (sd_OL cA h0 a0 n w cO q0 ou) H := hP
  have hD : va_D A (sd_OL cA h0 a0 n w cO q0 ou) := hD
  refine W.widen (k := 1) (n := 6) (by omega) (by omega) ?_
  exact W.iret hx hb hr (fun t ht hW => ⟨⟨_, (), rfl, rfl, by rw [ht]; exact hP, va_K.moved hW.alike hK, by rw [← hAe]; exact hD⟩, by rw [← hAe]; exact hS.F ht⟩) (fun q hq => by rw [← hAe]; exact hS.2.2 q hq) dL_share_18
set_option maxHeartbeats 4000000 in
set_option maxRecDepth 100000 in
theorem w_share4 (l : Launch) (hl9 : l.stackTraces = false) (dC : Nat → ClassId) (dI : Nat → Nat → Nat) (cA : ClassId) (h0 a0 n : Nat) (w : Nat → Nat) (cO : ClassId) (q0 : Nat) (ou : Nat → Int64) (sz : Nat) (ok : sd_ok n w) (y u q : Nat) (hy : y ≤ 2) (hu : u ≤ 10000) (hq : q < n) (hz0 : sd_sum w n = 0) : Met l yL_share (sd_wsW yL_share cL_share 6 (some .int) [(0, 12, 15, 13), (0, 12, 19, 23)]) (sd_rm 8 1 6) (sd_PwT (dC, dI) vwCl [(cA, .int), (cO, .long)] (sd_OL cA h0 a0 n w cO q0 ou) sz [.ref h0, .int (nI y), .int (nI u), .int (nI q), .ref q0]) (va_Qi (fun r (_ : Unit) => r = nI 2) (sd_Bw (dC, dI) vwCl [(cA, .int), (cO, .long)] (sd_OL cA h0 a0 n w cO q0 ou) sz (fun _ => (sd_OL cA h0 a0 n w cO q0 ou))) (va_A (sd_OL cA h0 a0 n w cO q0 ou) sz)) 1 6 (va_A (sd_OL cA h0 a0 n w cO q0 ou) sz) := by
  refine va_MetW (cc := cL_share) (maxL := 6) (ret := (some .int)) (hh := [(0, 12, 15, 13), (0, 12, 19, 23)]) (by decide) rfl ?_
  intro p e s m args below meth c s₁ B hml hv
  obtain ⟨rfl, hsz, hP, hK, hD0, hTH⟩ := hv
  subst hsz
  have hx := B.exec
  have hb := B.bytes
  have hr := B.returns
  have hts0 := atoms_spec (ws := (sd_wsW yL_share cL_share 6 (some .int) [(0, 12, 15, 13), (0, 12, 19, 23)])) B.pre
  have htb := sd_table B (hts0 _ List.mem_cons_self)
  have hts : ∀ w ∈ sd_WS, w.before _ s = true := fun w h => hts0 w (List.mem_cons_of_mem _ h)
  have hown : s.vm.findClass RL = some m.cls := findClass_of_methodNamed B.named
  have hlocks := B.notSynchronized
  have hl := lv_entry ([.ref h0, .int (nI y), .int (nI u), .int (nI q), .ref q0]) (n := 6) (Nat.le_of_ble_eq_true rfl)
  rw [lg_entry_eq]
  generalize (lg_sl ([.ref h0, .int (nI y), .int (nI u), .int (nI q), .ref q0]) ++ List.replicate (6 - (lg_sl ([.ref h0, .int (nI y), .int (nI u), .int (nI q), .ref q0])).length) Slot.unset).toArray = ls at hl ⊢
  have hl : lv_has ls 6 [(0, .ref h0), (1, .int (nI y)), (2, .int (nI u)), (3, .int (nI q)), (4, .ref q0)] := hl
  obtain ⟨A, hAe⟩ : ∃ A, A = va_A (sd_OL cA h0 a0 n w cO q0 ou) s.heap.size := ⟨_, rfl⟩
  have hD : va_D A (sd_OL cA h0 a0 n w cO q0 ou) := by rw [hAe]; exact hD0.self
  have hA : ∀ q : Nat, s.heap.size ≤ q → A q := fun q h => by rw [hAe]; exact Or.inr h
  have hS : va_S A s.heap s.heap [] := va_S.rf
  have hP : va_P (dC, dI) vwCl [(h0, .inr (0, [.ref a0, .int (nI n), .int (nI (sd_sum w n))])), (a0, .inl (cA, 8, .inl (fun i => nI (w i)))), (q0, .inl (cO, 1, .inr (.inl ou)))] s.heap := hP
  have hD : va_D A [(h0, .inr (0, [.ref a0, .int (nI n), .int (nI (sd_sum w n))])), (a0, .inl (cA, 8, .inl (fun i => nI (w i)))), (q0, .inl (cO, 1, .inr (.inl ou)))] := hD
  have hPc := hP.sub (ws' := (sd_O cA h0 a0 n w)) [0, 1] rfl
  have hKc := hK.sub (tys' := [(cA, .int)]) [0] rfl
  have hDc := hD.sub (ws' := (sd_O cA h0 a0 n w)) [0, 1] (by decide) rfl
  refine lv_aload hx hb dL_share_0 (lv_at hl 4 rfl) ?_
  refine lv_iconst (v := (nI 0)) hx hb dL_share_2 (by decide +kernel) ?_
  refine lv_aload_n hx hb dL_share_3 rfl (lv_at hl 0 rfl) ?_
  refine lv_iload_n hx hb dL_share_4 rfl (lv_at hl 1 rfl) ?_
  refine lv_iload_n hx hb dL_share_5 rfl (lv_at hl 2 rfl) ?_
  refine lv_iload_n hx hb dL_share_6 rfl (lv_at hl 3 rfl) ?_
  refine sd_thrV (As := [.int (nI y), .int (nI u), .int (nI q)]) (rest := [.int (nI 0), .ref q0]) ⟨hx, hb, hml, hown, hts0⟩ (t_share4 l hl9 dC dI cA h0 a0 n w ok y u q hy hu hq hz0) (cwV 3 hts0 (sd_gV k_methodLink_L_19 k_instanceMethod_X0_share k_sel_X0_share k_init_ShareDesk k_code_X0_share) rfl rfl rfl (by decide +kernel) ⟨Nat.le_of_ble_eq_true rfl, Nat.le_of_ble_eq_true rfl⟩) (sd_preVt hKc hPc hTH (q0 := 0) (ci := 0) rfl rfl) rfl hl.1 rfl (lv_room (Nat.le_of_ble_eq_true rfl)) dL_share_7 ⟨Nat.le_refl _, Nat.le_refl _⟩ (sd_catch2 (own := RL) (cls := sd_IS) (other := sd_IA) (x := (⟨0, 12, 15, 13⟩ : ExceptionTableEntry)) (y := (⟨0, 12, 19, 23⟩ : ExceptionTableEntry)) (t := []) (by rw [htb]; rfl) hown (by decide) (by decide) (by decide) (by decide) (hts (.classLink RL 13 sd_IA) k_classLink_L_13) (hts (.classLink RL 23 sd_IS) k_classLink_L_23) hTH.2.2.2.2.2.1 (va_any rfl hTH.2.2.2.2.1) (fun H q9 hz hk => ?_))
  have hP := sd_keptP hP hk
  have hS : va_S A s.heap H [] := ⟨hz, fun q hq _ => hk q hq, fun _ h => nomatch h⟩
  refine W.eq (g2 := F0 m 19 ls [.ref q9]) rfl ?_
  refine lv_astore hx hb dL_share_19 hl (by decide) rfl (fun ls hl => ?_)
  have hl : lv_has ls 6 [(5, .ref q9), (0, .ref h0), (1, .int (nI y)), (2, .int (nI u)), (3, .int (nI q)), (4, .ref q0)] := hl
  refine lv_iconst (v := (nI 2)) hx hb dL_share_21 (by decide +kernel) ?_
  have hP : va_P (dC, dI) vwCl (sd_OL cA h0 a0 n w cO q0 ou) H := hP
  have hD : va_D A (sd_OL cA h0 a0 n w cO q0 ou) := hD
  refine W.widen (k := 1) (n := 6) (by omega) (by omega) ?_
  exact W.iret hx hb hr (fun t ht hW => ⟨⟨_, (), rfl, rfl, by rw [ht]; exact hP, va_K.moved hW.alike hK, by rw [← hAe]; exact hD⟩, by rw [← hAe]; exact hS.F ht⟩) (fun q hq => by rw [← hAe]; exact hS.2.2 q hq) dL_share_22
set_option maxHeartbeats 4000000 in
set_option maxRecDepth 100000 in
theorem w_over (l : Launch) (hl9 : l.stackTraces = false) (dC : Nat → ClassId) (dI : Nat → Nat → Nat) (cA : ClassId) (h0 a0 n : Nat) (w : Nat → Nat) (cO : ClassId) (q0 : Nat) (ou : Nat → Int64) (sz : Nat) (ok : sd_ok n w) (hW : 0 < sd_sum w n) (y u q : Nat) (hy : y ≤ 2) (hu : u ≤ 10000) (hq : q < n) : Met l yL_over (sd_wsW yL_over cL_over 6 (some .int) [(0, 11, 14, 13), (0, 11, 18, 23)]) (sd_rm 8 1 6) (sd_PwT (dC, dI) vwCl [(cA, .int), (cO, .long)] (sd_OL cA h0 a0 n w cO q0 ou) sz [.ref h0, .int (nI y), .int (nI u), .int (nI q), .ref q0]) (va_Qi (fun r (_ : Unit) => r = nI 0) (sd_Bw (dC, dI) vwCl [(cA, .int), (cO, .long)] (sd_OL cA h0 a0 n w cO q0 ou) sz (fun _ => (sd_OL cA h0 a0 n w cO q0 (vp_updL ou 0 (lN (sd_U y w n u q * sd_sum w n) - lN (u * w q)))))) (va_A (sd_OL cA h0 a0 n w cO q0 ou) sz)) 1 6 (va_A (sd_OL cA h0 a0 n w cO q0 ou) sz) := by
  refine va_MetW (cc := cL_over) (maxL := 6) (ret := (some .int)) (hh := [(0, 11, 14, 13), (0, 11, 18, 23)]) (by decide) rfl ?_
  intro p e s m args below meth c s₁ B hml hv
  obtain ⟨rfl, hsz, hP, hK, hD0, hTH⟩ := hv
  subst hsz
  have hx := B.exec
  have hb := B.bytes
  have hr := B.returns
  have hts0 := atoms_spec (ws := (sd_wsW yL_over cL_over 6 (some .int) [(0, 11, 14, 13), (0, 11, 18, 23)])) B.pre
  have htb := sd_table B (hts0 _ List.mem_cons_self)
  have hts : ∀ w ∈ sd_WS, w.before _ s = true := fun w h => hts0 w (List.mem_cons_of_mem _ h)
  have hown : s.vm.findClass RL = some m.cls := findClass_of_methodNamed B.named
  have hlocks := B.notSynchronized
  have hl := lv_entry ([.ref h0, .int (nI y), .int (nI u), .int (nI q), .ref q0]) (n := 6) (Nat.le_of_ble_eq_true rfl)
  rw [lg_entry_eq]
  generalize (lg_sl ([.ref h0, .int (nI y), .int (nI u), .int (nI q), .ref q0]) ++ List.replicate (6 - (lg_sl ([.ref h0, .int (nI y), .int (nI u), .int (nI q), .ref q0])).length) Slot.unset).toArray = ls at hl ⊢
  have hl : lv_has ls 6 [(0, .ref h0), (1, .int (nI y)), (2, .int (nI u)), (3, .int (nI q)), (4, .ref q0)] := hl
  obtain ⟨A, hAe⟩ : ∃ A, A = va_A (sd_OL cA h0 a0 n w cO q0 ou) s.heap.size := ⟨_, rfl⟩
  have hD : va_D A (sd_OL cA h0 a0 n w cO q0 ou) := by rw [hAe]; exact hD0.self
  have hA : ∀ q : Nat, s.heap.size ≤ q → A q := fun q h => by rw [hAe]; exact Or.inr h
  have hS : va_S A s.heap s.heap [] := va_S.rf
  have hP : va_P (dC, dI) vwCl [(h0, .inr (0, [.ref a0, .int (nI n), .int (nI (sd_sum w n))])), (a0, .inl (cA, 8, .inl (fun i => nI (w i)))), (q0, .inl (cO, 1, .inr (.inl ou)))] s.heap := hP
  have hD : va_D A [(h0, .inr (0, [.ref a0, .int (nI n), .int (nI (sd_sum w n))])), (a0, .inl (cA, 8, .inl (fun i => nI (w i)))), (q0, .inl (cO, 1, .inr (.inl ou)))] := hD
  have hPc := hP.sub (ws' := (sd_O cA h0 a0 n w)) [0, 1] rfl
  have hKc := hK.sub (tys' := [(cA, .int)]) [0] rfl
  have hDc := hD.sub (ws' := (sd_O cA h0 a0 n w)) [0, 1] (by decide) rfl
  refine lv_aload hx hb dL_over_0 (lv_at hl 4 rfl) ?_
  refine lv_iconst (v := (nI 0)) hx hb dL_over_2 (by decide +kernel) ?_
  refine lv_aload_n hx hb dL_over_3 rfl (lv_at hl 0 rfl) ?_
  refine lv_iload_n hx hb dL_over_4 rfl (lv_at hl 1 rfl) ?_
  refine lv_iload_n hx hb dL_over_5 rfl (lv_at hl 2 rfl) ?_
  refine lv_iload_n hx hb dL_over_6 rfl (lv_at hl 3 rfl) ?_
  refine sd_calll (va_runV (As := [.int (nI y), .int (nI u), .int (nI q)]) (rest := [.int (nI 0), .ref q0]) ⟨hx, hb, hml, hown, hts0⟩ (c_over l dC dI cA h0 a0 n w ok hW y u q hy hu hq) (cwV 3 hts0 (sd_gV k_methodLink_L_25 k_instanceMethod_X0_over k_sel_X0_over k_init_ShareDesk k_code_X0_over) rfl rfl rfl (by decide +kernel) ⟨Nat.le_of_ble_eq_true rfl, Nat.le_of_ble_eq_true rfl⟩) (sd_preV hKc hPc (q0 := 0) (ci := 0) rfl rfl) rfl rfl hl.1 rfl (lv_room (Nat.le_of_ble_eq_true rfl)) dL_over_7 ⟨Nat.zero_le _, Nat.zero_le _⟩) ?_
  refine sd_last (j := 0) hx hb hK hP hD hS 2 1 rfl rfl (by omega) (by decide) dL_over_10 (fun H locs hP hD hS => ?_)
  have hP : va_P (dC, dI) vwCl [(h0, .inr (0, [.ref a0, .int (nI n), .int (nI (sd_sum w n))])), (a0, .inl (cA, 8, .inl (fun i => nI (w i)))), (q0, .inl (cO, 1, .inr (.inl (vp_updL ou 0 (lN (sd_U y w n u q * sd_sum w n) - lN (u * w q))))))] H := hP
  have hD : va_D A [(h0, .inr (0, [.ref a0, .int (nI n), .int (nI (sd_sum w n))])), (a0, .inl (cA, 8, .inl (fun i => nI (w i)))), (q0, .inl (cO, 1, .inr (.inl (vp_updL ou 0 (lN (sd_U y w n u q * sd_sum w n) - lN (u * w q))))))] := hD
  refine lv_goto (tgt := 22) hx hb dL_over_11 (by decide) ?_
  refine lv_iconst (v := (nI 0)) hx hb dL_over_22 (by decide +kernel) ?_
  have hP : va_P (dC, dI) vwCl (sd_OL cA h0 a0 n w cO q0 (vp_updL ou 0 (lN (sd_U y w n u q * sd_sum w n) - lN (u * w q)))) H := hP
  have hD : va_D A (sd_OL cA h0 a0 n w cO q0 (vp_updL ou 0 (lN (sd_U y w n u q * sd_sum w n) - lN (u * w q)))) := hD
  refine W.widen (k := 1) (n := 6) (by omega) (by omega) ?_
  exact W.iret hx hb hr (fun t ht hW => ⟨⟨_, (), rfl, rfl, by rw [ht]; exact hP, va_K.moved hW.alike hK, by rw [← hAe]; exact hD⟩, by rw [← hAe]; exact hS.F ht⟩) (fun q hq => by rw [← hAe]; exact hS.2.2 q hq) dL_over_23
set_option maxHeartbeats 4000000 in
set_option maxRecDepth 100000 in
theorem w_over1 (l : Launch) (hl9 : l.stackTraces = false) (dC : Nat → ClassId) (dI : Nat → Nat → Nat) (cA : ClassId) (h0 a0 n : Nat) (w : Nat → Nat) (cO : ClassId) (q0 : Nat) (ou : Nat → Int64) (sz : Nat) (x1 x2 x3 : Int32) (hbad : x1 < 0 ∨ nI 2 < x1) : Met l yL_over (sd_wsW yL_over cL_over 6 (some .int) [(0, 11, 14, 13), (0, 11, 18, 23)]) (sd_rm 8 1 6) (sd_PwT (dC, dI) vwCl [(cA, .int), (cO, .long)] (sd_OL cA h0 a0 n w cO q0 ou) sz [.ref h0, .int x1, .int x2, .int x3, .ref q0]) (va_Qi (fun r (_ : Unit) => r = nI 1) (sd_Bw (dC, dI) vwCl [(cA, .int), (cO, .long)] (sd_OL cA h0 a0 n w cO q0 ou) sz (fun _ => (sd_OL cA h0 a0 n w cO q0 ou))) (va_A (sd_OL cA h0 a0 n w cO q0 ou) sz)) 1 6 (va_A (sd_OL cA h0 a0 n w cO q0 ou) sz) := by
  refine va_MetW (cc := cL_over) (maxL := 6) (ret := (some .int)) (hh := [(0, 11, 14, 13), (0, 11, 18, 23)]) (by decide) rfl ?_
  intro p e s m args below meth c s₁ B hml hv
  obtain ⟨rfl, hsz, hP, hK, hD0, hTH⟩ := hv
  subst hsz
  have hx := B.exec
  have hb := B.bytes
  have hr := B.returns
  have hts0 := atoms_spec (ws := (sd_wsW yL_over cL_over 6 (some .int) [(0, 11, 14, 13), (0, 11, 18, 23)])) B.pre
  have htb := sd_table B (hts0 _ List.mem_cons_self)
  have hts : ∀ w ∈ sd_WS, w.before _ s = true := fun w h => hts0 w (List.mem_cons_of_mem _ h)
  have hown : s.vm.findClass RL = some m.cls := findClass_of_methodNamed B.named
  have hlocks := B.notSynchronized
  have hl := lv_entry ([.ref h0, .int x1, .int x2, .int x3, .ref q0]) (n := 6) (Nat.le_of_ble_eq_true rfl)
  rw [lg_entry_eq]
  generalize (lg_sl ([.ref h0, .int x1, .int x2, .int x3, .ref q0]) ++ List.replicate (6 - (lg_sl ([.ref h0, .int x1, .int x2, .int x3, .ref q0])).length) Slot.unset).toArray = ls at hl ⊢
  have hl : lv_has ls 6 [(0, .ref h0), (1, .int x1), (2, .int x2), (3, .int x3), (4, .ref q0)] := hl
  obtain ⟨A, hAe⟩ : ∃ A, A = va_A (sd_OL cA h0 a0 n w cO q0 ou) s.heap.size := ⟨_, rfl⟩
  have hD : va_D A (sd_OL cA h0 a0 n w cO q0 ou) := by rw [hAe]; exact hD0.self
  have hA : ∀ q : Nat, s.heap.size ≤ q → A q := fun q h => by rw [hAe]; exact Or.inr h
  have hS : va_S A s.heap s.heap [] := va_S.rf
  have hP : va_P (dC, dI) vwCl [(h0, .inr (0, [.ref a0, .int (nI n), .int (nI (sd_sum w n))])), (a0, .inl (cA, 8, .inl (fun i => nI (w i)))), (q0, .inl (cO, 1, .inr (.inl ou)))] s.heap := hP
  have hD : va_D A [(h0, .inr (0, [.ref a0, .int (nI n), .int (nI (sd_sum w n))])), (a0, .inl (cA, 8, .inl (fun i => nI (w i)))), (q0, .inl (cO, 1, .inr (.inl ou)))] := hD
  have hPc := hP.sub (ws' := (sd_O cA h0 a0 n w)) [0, 1] rfl
  have hKc := hK.sub (tys' := [(cA, .int)]) [0] rfl
  have hDc := hD.sub (ws' := (sd_O cA h0 a0 n w)) [0, 1] (by decide) rfl
  refine lv_aload hx hb dL_over_0 (lv_at hl 4 rfl) ?_
  refine lv_iconst (v := (nI 0)) hx hb dL_over_2 (by decide +kernel) ?_
  refine lv_aload_n hx hb dL_over_3 rfl (lv_at hl 0 rfl) ?_
  refine lv_iload_n hx hb dL_over_4 rfl (lv_at hl 1 rfl) ?_
  refine lv_iload_n hx hb dL_over_5 rfl (lv_at hl 2 rfl) ?_
  refine lv_iload_n hx hb dL_over_6 rfl (lv_at hl 3 rfl) ?_
  refine sd_thrV (As := [.int x1, .int x2, .int x3]) (rest := [.int (nI 0), .ref q0]) ⟨hx, hb, hml, hown, hts0⟩ (t_over1 l hl9 dC dI cA h0 a0 n w x1 x2 x3 hbad) (cwV 3 hts0 (sd_gV k_methodLink_L_25 k_instanceMethod_X0_over k_sel_X0_over k_init_ShareDesk k_code_X0_over) rfl rfl rfl (by decide +kernel) ⟨Nat.le_of_ble_eq_true rfl, Nat.le_of_ble_eq_true rfl⟩) (sd_preVt hKc hPc hTH (q0 := 0) (ci := 0) rfl rfl) rfl hl.1 rfl (lv_room (Nat.le_of_ble_eq_true rfl)) dL_over_7 ⟨Nat.le_refl _, Nat.le_refl _⟩ (sd_catch1 (own := RL) (cls := sd_IA) (x := (⟨0, 11, 14, 13⟩ : ExceptionTableEntry)) (t := [(⟨0, 11, 18, 23⟩ : ExceptionTableEntry)]) (by rw [htb]; rfl) hown (by decide) (by decide) (hts (.classLink RL 13 sd_IA) k_classLink_L_13) (va_any rfl hTH.2.2.2.1) (fun H q9 hz hk => ?_))
  have hP := sd_keptP hP hk
  have hS : va_S A s.heap H [] := ⟨hz, fun q hq _ => hk q hq, fun _ h => nomatch h⟩
  refine W.eq (g2 := F0 m 14 ls [.ref q9]) rfl ?_
  refine lv_astore hx hb dL_over_14 hl (by decide) rfl (fun ls hl => ?_)
  have hl : lv_has ls 6 [(5, .ref q9), (0, .ref h0), (1, .int x1), (2, .int x2), (3, .int x3), (4, .ref q0)] := hl
  refine lv_iconst (v := (nI 1)) hx hb dL_over_16 (by decide +kernel) ?_
  have hP : va_P (dC, dI) vwCl (sd_OL cA h0 a0 n w cO q0 ou) H := hP
  have hD : va_D A (sd_OL cA h0 a0 n w cO q0 ou) := hD
  refine W.widen (k := 1) (n := 6) (by omega) (by omega) ?_
  exact W.iret hx hb hr (fun t ht hW => ⟨⟨_, (), rfl, rfl, by rw [ht]; exact hP, va_K.moved hW.alike hK, by rw [← hAe]; exact hD⟩, by rw [← hAe]; exact hS.F ht⟩) (fun q hq => by rw [← hAe]; exact hS.2.2 q hq) dL_over_17
set_option maxHeartbeats 4000000 in
set_option maxRecDepth 100000 in
theorem w_over2 (l : Launch) (hl9 : l.stackTraces = false) (dC : Nat → ClassId) (dI : Nat → Nat → Nat) (cA : ClassId) (h0 a0 n : Nat) (w : Nat → Nat) (cO : ClassId) (q0 : Nat) (ou : Nat → Int64) (sz : Nat) (y : Nat) (hy : y ≤ 2) (x2 x3 : Int32) (hbad : x2 < 0 ∨ nI 10000 < x2) : Met l yL_over (sd_wsW yL_over cL_over 6 (some .int) [(0, 11, 14, 13), (0, 11, 18, 23)]) (sd_rm 8 1 6) (sd_PwT (dC, dI) vwCl [(cA, .int), (cO, .long)] (sd_OL cA h0 a0 n w cO q0 ou) sz [.ref h0, .int (nI y), .int x2, .int x3, .ref q0]) (va_Qi (fun r (_ : Unit) => r = nI 1) (sd_Bw (dC, dI) vwCl [(cA, .int), (cO, .long)] (sd_OL cA h0 a0 n w cO q0 ou) sz (fun _ => (sd_OL cA h0 a0 n w cO q0 ou))) (va_A (sd_OL cA h0 a0 n w cO q0 ou) sz)) 1 6 (va_A (sd_OL cA h0 a0 n w cO q0 ou) sz) := by
  refine va_MetW (cc := cL_over) (maxL := 6) (ret := (some .int)) (hh := [(0, 11, 14, 13), (0, 11, 18, 23)]) (by decide) rfl ?_
  intro p e s m args below meth c s₁ B hml hv
  obtain ⟨rfl, hsz, hP, hK, hD0, hTH⟩ := hv
  subst hsz
  have hx := B.exec
  have hb := B.bytes
  have hr := B.returns
  have hts0 := atoms_spec (ws := (sd_wsW yL_over cL_over 6 (some .int) [(0, 11, 14, 13), (0, 11, 18, 23)])) B.pre
  have htb := sd_table B (hts0 _ List.mem_cons_self)
  have hts : ∀ w ∈ sd_WS, w.before _ s = true := fun w h => hts0 w (List.mem_cons_of_mem _ h)
  have hown : s.vm.findClass RL = some m.cls := findClass_of_methodNamed B.named
  have hlocks := B.notSynchronized
  have hl := lv_entry ([.ref h0, .int (nI y), .int x2, .int x3, .ref q0]) (n := 6) (Nat.le_of_ble_eq_true rfl)
  rw [lg_entry_eq]
  generalize (lg_sl ([.ref h0, .int (nI y), .int x2, .int x3, .ref q0]) ++ List.replicate (6 - (lg_sl ([.ref h0, .int (nI y), .int x2, .int x3, .ref q0])).length) Slot.unset).toArray = ls at hl ⊢
  have hl : lv_has ls 6 [(0, .ref h0), (1, .int (nI y)), (2, .int x2), (3, .int x3), (4, .ref q0)] := hl
  obtain ⟨A, hAe⟩ : ∃ A, A = va_A (sd_OL cA h0 a0 n w cO q0 ou) s.heap.size := ⟨_, rfl⟩
  have hD : va_D A (sd_OL cA h0 a0 n w cO q0 ou) := by rw [hAe]; exact hD0.self
  have hA : ∀ q : Nat, s.heap.size ≤ q → A q := fun q h => by rw [hAe]; exact Or.inr h
  have hS : va_S A s.heap s.heap [] := va_S.rf
  have hP : va_P (dC, dI) vwCl [(h0, .inr (0, [.ref a0, .int (nI n), .int (nI (sd_sum w n))])), (a0, .inl (cA, 8, .inl (fun i => nI (w i)))), (q0, .inl (cO, 1, .inr (.inl ou)))] s.heap := hP
  have hD : va_D A [(h0, .inr (0, [.ref a0, .int (nI n), .int (nI (sd_sum w n))])), (a0, .inl (cA, 8, .inl (fun i => nI (w i)))), (q0, .inl (cO, 1, .inr (.inl ou)))] := hD
  have hPc := hP.sub (ws' := (sd_O cA h0 a0 n w)) [0, 1] rfl
  have hKc := hK.sub (tys' := [(cA, .int)]) [0] rfl
  have hDc := hD.sub (ws' := (sd_O cA h0 a0 n w)) [0, 1] (by decide) rfl
  refine lv_aload hx hb dL_over_0 (lv_at hl 4 rfl) ?_
  refine lv_iconst (v := (nI 0)) hx hb dL_over_2 (by decide +kernel) ?_
  refine lv_aload_n hx hb dL_over_3 rfl (lv_at hl 0 rfl) ?_
  refine lv_iload_n hx hb dL_over_4 rfl (lv_at hl 1 rfl) ?_
  refine lv_iload_n hx hb dL_over_5 rfl (lv_at hl 2 rfl) ?_
  refine lv_iload_n hx hb dL_over_6 rfl (lv_at hl 3 rfl) ?_
  refine sd_thrV (As := [.int (nI y), .int x2, .int x3]) (rest := [.int (nI 0), .ref q0]) ⟨hx, hb, hml, hown, hts0⟩ (t_over2 l hl9 dC dI cA h0 a0 n w y hy x2 x3 hbad) (cwV 3 hts0 (sd_gV k_methodLink_L_25 k_instanceMethod_X0_over k_sel_X0_over k_init_ShareDesk k_code_X0_over) rfl rfl rfl (by decide +kernel) ⟨Nat.le_of_ble_eq_true rfl, Nat.le_of_ble_eq_true rfl⟩) (sd_preVt hKc hPc hTH (q0 := 0) (ci := 0) rfl rfl) rfl hl.1 rfl (lv_room (Nat.le_of_ble_eq_true rfl)) dL_over_7 ⟨Nat.le_refl _, Nat.le_refl _⟩ (sd_catch1 (own := RL) (cls := sd_IA) (x := (⟨0, 11, 14, 13⟩ : ExceptionTableEntry)) (t := [(⟨0, 11, 18, 23⟩ : ExceptionTableEntry)]) (by rw [htb]; rfl) hown (by decide) (by decide) (hts (.classLink RL 13 sd_IA) k_classLink_L_13) (va_any rfl hTH.2.2.2.1) (fun H q9 hz hk => ?_))
  have hP := sd_keptP hP hk
  have hS : va_S A s.heap H [] := ⟨hz, fun q hq _ => hk q hq, fun _ h => nomatch h⟩
  refine W.eq (g2 := F0 m 14 ls [.ref q9]) rfl ?_
  refine lv_astore hx hb dL_over_14 hl (by decide) rfl (fun ls hl => ?_)
  have hl : lv_has ls 6 [(5, .ref q9), (0, .ref h0), (1, .int (nI y)), (2, .int x2), (3, .int x3), (4, .ref q0)] := hl
  refine lv_iconst (v := (nI 1)) hx hb dL_over_16 (by decide +kernel) ?_
  have hP : va_P (dC, dI) vwCl (sd_OL cA h0 a0 n w cO q0 ou) H := hP
  have hD : va_D A (sd_OL cA h0 a0 n w cO q0 ou) := hD
  refine W.widen (k := 1) (n := 6) (by omega) (by omega) ?_
  exact W.iret hx hb hr (fun t ht hW => ⟨⟨_, (), rfl, rfl, by rw [ht]; exact hP, va_K.moved hW.alike hK, by rw [← hAe]; exact hD⟩, by rw [← hAe]; exact hS.F ht⟩) (fun q hq => by rw [← hAe]; exact hS.2.2 q hq) dL_over_17
set_option maxHeartbeats 4000000 in
set_option maxRecDepth 100000 in
theorem w_over3 (l : Launch) (hl9 : l.stackTraces = false) (dC : Nat → ClassId) (dI : Nat → Nat → Nat) (cA : ClassId) (h0 a0 n : Nat) (w : Nat → Nat) (cO : ClassId) (q0 : Nat) (ou : Nat → Int64) (sz : Nat) (y u : Nat) (hy : y ≤ 2) (hu : u ≤ 10000) (x3 : Int32) (hbad : x3 < 0 ∨ nI n ≤ x3) : Met l yL_over (sd_wsW yL_over cL_over 6 (some .int) [(0, 11, 14, 13), (0, 11, 18, 23)]) (sd_rm 8 1 6) (sd_PwT (dC, dI) vwCl [(cA, .int), (cO, .long)] (sd_OL cA h0 a0 n w cO q0 ou) sz [.ref h0, .int (nI y), .int (nI u), .int x3, .ref q0]) (va_Qi (fun r (_ : Unit) => r = nI 1) (sd_Bw (dC, dI) vwCl [(cA, .int), (cO, .long)] (sd_OL cA h0 a0 n w cO q0 ou) sz (fun _ => (sd_OL cA h0 a0 n w cO q0 ou))) (va_A (sd_OL cA h0 a0 n w cO q0 ou) sz)) 1 6 (va_A (sd_OL cA h0 a0 n w cO q0 ou) sz) := by
  refine va_MetW (cc := cL_over) (maxL := 6) (ret := (some .int)) (hh := [(0, 11, 14, 13), (0, 11, 18, 23)]) (by decide) rfl ?_
  intro p e s m args below meth c s₁ B hml hv
  obtain ⟨rfl, hsz, hP, hK, hD0, hTH⟩ := hv
  subst hsz
  have hx := B.exec
  have hb := B.bytes
  have hr := B.returns
  have hts0 := atoms_spec (ws := (sd_wsW yL_over cL_over 6 (some .int) [(0, 11, 14, 13), (0, 11, 18, 23)])) B.pre
  have htb := sd_table B (hts0 _ List.mem_cons_self)
  have hts : ∀ w ∈ sd_WS, w.before _ s = true := fun w h => hts0 w (List.mem_cons_of_mem _ h)
  have hown : s.vm.findClass RL = some m.cls := findClass_of_methodNamed B.named
  have hlocks := B.notSynchronized
  have hl := lv_entry ([.ref h0, .int (nI y), .int (nI u), .int x3, .ref q0]) (n := 6) (Nat.le_of_ble_eq_true rfl)
  rw [lg_entry_eq]
  generalize (lg_sl ([.ref h0, .int (nI y), .int (nI u), .int x3, .ref q0]) ++ List.replicate (6 - (lg_sl ([.ref h0, .int (nI y), .int (nI u), .int x3, .ref q0])).length) Slot.unset).toArray = ls at hl ⊢
  have hl : lv_has ls 6 [(0, .ref h0), (1, .int (nI y)), (2, .int (nI u)), (3, .int x3), (4, .ref q0)] := hl
  obtain ⟨A, hAe⟩ : ∃ A, A = va_A (sd_OL cA h0 a0 n w cO q0 ou) s.heap.size := ⟨_, rfl⟩
  have hD : va_D A (sd_OL cA h0 a0 n w cO q0 ou) := by rw [hAe]; exact hD0.self
  have hA : ∀ q : Nat, s.heap.size ≤ q → A q := fun q h => by rw [hAe]; exact Or.inr h
  have hS : va_S A s.heap s.heap [] := va_S.rf
  have hP : va_P (dC, dI) vwCl [(h0, .inr (0, [.ref a0, .int (nI n), .int (nI (sd_sum w n))])), (a0, .inl (cA, 8, .inl (fun i => nI (w i)))), (q0, .inl (cO, 1, .inr (.inl ou)))] s.heap := hP
  have hD : va_D A [(h0, .inr (0, [.ref a0, .int (nI n), .int (nI (sd_sum w n))])), (a0, .inl (cA, 8, .inl (fun i => nI (w i)))), (q0, .inl (cO, 1, .inr (.inl ou)))] := hD
  have hPc := hP.sub (ws' := (sd_O cA h0 a0 n w)) [0, 1] rfl
  have hKc := hK.sub (tys' := [(cA, .int)]) [0] rfl
  have hDc := hD.sub (ws' := (sd_O cA h0 a0 n w)) [0, 1] (by decide) rfl
  refine lv_aload hx hb dL_over_0 (lv_at hl 4 rfl) ?_
  refine lv_iconst (v := (nI 0)) hx hb dL_over_2 (by decide +kernel) ?_
  refine lv_aload_n hx hb dL_over_3 rfl (lv_at hl 0 rfl) ?_
  refine lv_iload_n hx hb dL_over_4 rfl (lv_at hl 1 rfl) ?_
  refine lv_iload_n hx hb dL_over_5 rfl (lv_at hl 2 rfl) ?_
  refine lv_iload_n hx hb dL_over_6 rfl (lv_at hl 3 rfl) ?_
  refine sd_thrV (As := [.int (nI y), .int (nI u), .int x3]) (rest := [.int (nI 0), .ref q0]) ⟨hx, hb, hml, hown, hts0⟩ (t_over3 l hl9 dC dI cA h0 a0 n w y u hy hu x3 hbad) (cwV 3 hts0 (sd_gV k_methodLink_L_25 k_instanceMethod_X0_over k_sel_X0_over k_init_ShareDesk k_code_X0_over) rfl rfl rfl (by decide +kernel) ⟨Nat.le_of_ble_eq_true rfl, Nat.le_of_ble_eq_true rfl⟩) (sd_preVt hKc hPc hTH (q0 := 0) (ci := 0) rfl rfl) rfl hl.1 rfl (lv_room (Nat.le_of_ble_eq_true rfl)) dL_over_7 ⟨Nat.le_refl _, Nat.le_refl _⟩ (sd_catch1 (own := RL) (cls := sd_IA) (x := (⟨0, 11, 14, 13⟩ : ExceptionTableEntry)) (t := [(⟨0, 11, 18, 23⟩ : ExceptionTableEntry)]) (by rw [htb]; rfl) hown (by decide) (by decide) (hts (.classLink RL 13 sd_IA) k_classLink_L_13) (va_any rfl hTH.2.2.2.1) (fun H q9 hz hk => ?_))
  have hP := sd_keptP hP hk
  have hS : va_S A s.heap H [] := ⟨hz, fun q hq _ => hk q hq, fun _ h => nomatch h⟩
  refine W.eq (g2 := F0 m 14 ls [.ref q9]) rfl ?_
  refine lv_astore hx hb dL_over_14 hl (by decide) rfl (fun ls hl => ?_)
  have hl : lv_has ls 6 [(5, .ref q9), (0, .ref h0), (1, .int (nI y)), (2, .int (nI u)), (3, .int x3), (4, .ref q0)] := hl
  refine lv_iconst (v := (nI 1)) hx hb dL_over_16 (by decide +kernel) ?_
  have hP : va_P (dC, dI) vwCl (sd_OL cA h0 a0 n w cO q0 ou) H := hP
  have hD : va_D A (sd_OL cA h0 a0 n w cO q0 ou) := hD
  refine W.widen (k := 1) (n := 6) (by omega) (by omega) ?_
  exact W.iret hx hb hr (fun t ht hW => ⟨⟨_, (), rfl, rfl, by rw [ht]; exact hP, va_K.moved hW.alike hK, by rw [← hAe]; exact hD⟩, by rw [← hAe]; exact hS.F ht⟩) (fun q hq => by rw [← hAe]; exact hS.2.2 q hq) dL_over_17
set_option maxHeartbeats 4000000 in
set_option maxRecDepth 100000 in
theorem w_over4 (l : Launch) (hl9 : l.stackTraces = false) (dC : Nat → ClassId) (dI : Nat → Nat → Nat) (cA : ClassId) (h0 a0 n : Nat) (w : Nat → Nat) (cO : ClassId) (q0 : Nat) (ou : Nat → Int64) (sz : Nat) (ok : sd_ok n w) (y u q : Nat) (hy : y ≤ 2) (hu : u ≤ 10000) (hq : q < n) (hz0 : sd_sum w n = 0) : Met l yL_over (sd_wsW yL_over cL_over 6 (some .int) [(0, 11, 14, 13), (0, 11, 18, 23)]) (sd_rm 8 1 6) (sd_PwT (dC, dI) vwCl [(cA, .int), (cO, .long)] (sd_OL cA h0 a0 n w cO q0 ou) sz [.ref h0, .int (nI y), .int (nI u), .int (nI q), .ref q0]) (va_Qi (fun r (_ : Unit) => r = nI 2) (sd_Bw (dC, dI) vwCl [(cA, .int), (cO, .long)] (sd_OL cA h0 a0 n w cO q0 ou) sz (fun _ => (sd_OL cA h0 a0 n w cO q0 ou))) (va_A (sd_OL cA h0 a0 n w cO q0 ou) sz)) 1 6 (va_A (sd_OL cA h0 a0 n w cO q0 ou) sz) := by
  refine va_MetW (cc := cL_over) (maxL := 6) (ret := (some .int)) (hh := [(0, 11, 14, 13), (0, 11, 18, 23)]) (by decide) rfl ?_
  intro p e s m args below meth c s₁ B hml hv
  obtain ⟨rfl, hsz, hP, hK, hD0, hTH⟩ := hv
  subst hsz
  have hx := B.exec
  have hb := B.bytes
  have hr := B.returns
  have hts0 := atoms_spec (ws := (sd_wsW yL_over cL_over 6 (some .int) [(0, 11, 14, 13), (0, 11, 18, 23)])) B.pre
  have htb := sd_table B (hts0 _ List.mem_cons_self)
  have hts : ∀ w ∈ sd_WS, w.before _ s = true := fun w h => hts0 w (List.mem_cons_of_mem _ h)
  have hown : s.vm.findClass RL = some m.cls := findClass_of_methodNamed B.named
  have hlocks := B.notSynchronized
  have hl := lv_entry ([.ref h0, .int (nI y), .int (nI u), .int (nI q), .ref q0]) (n := 6) (Nat.le_of_ble_eq_true rfl)
  rw [lg_entry_eq]
  generalize (lg_sl ([.ref h0, .int (nI y), .int (nI u), .int (nI q), .ref q0]) ++ List.replicate (6 - (lg_sl ([.ref h0, .int (nI y), .int (nI u), .int (nI q), .ref q0])).length) Slot.unset).toArray = ls at hl ⊢
  have hl : lv_has ls 6 [(0, .ref h0), (1, .int (nI y)), (2, .int (nI u)), (3, .int (nI q)), (4, .ref q0)] := hl
  obtain ⟨A, hAe⟩ : ∃ A, A = va_A (sd_OL cA h0 a0 n w cO q0 ou) s.heap.size := ⟨_, rfl⟩
  have hD : va_D A (sd_OL cA h0 a0 n w cO q0 ou) := by rw [hAe]; exact hD0.self
  have hA : ∀ q : Nat, s.heap.size ≤ q → A q := fun q h => by rw [hAe]; exact Or.inr h
  have hS : va_S A s.heap s.heap [] := va_S.rf
  have hP : va_P (dC, dI) vwCl [(h0, .inr (0, [.ref a0, .int (nI n), .int (nI (sd_sum w n))])), (a0, .inl (cA, 8, .inl (fun i => nI (w i)))), (q0, .inl (cO, 1, .inr (.inl ou)))] s.heap := hP
  have hD : va_D A [(h0, .inr (0, [.ref a0, .int (nI n), .int (nI (sd_sum w n))])), (a0, .inl (cA, 8, .inl (fun i => nI (w i)))), (q0, .inl (cO, 1, .inr (.inl ou)))] := hD
  have hPc := hP.sub (ws' := (sd_O cA h0 a0 n w)) [0, 1] rfl
  have hKc := hK.sub (tys' := [(cA, .int)]) [0] rfl
  have hDc := hD.sub (ws' := (sd_O cA h0 a0 n w)) [0, 1] (by decide) rfl
  refine lv_aload hx hb dL_over_0 (lv_at hl 4 rfl) ?_
  refine lv_iconst (v := (nI 0)) hx hb dL_over_2 (by decide +kernel) ?_
  refine lv_aload_n hx hb dL_over_3 rfl (lv_at hl 0 rfl) ?_
  refine lv_iload_n hx hb dL_over_4 rfl (lv_at hl 1 rfl) ?_
  refine lv_iload_n hx hb dL_over_5 rfl (lv_at hl 2 rfl) ?_
  refine lv_iload_n hx hb dL_over_6 rfl (lv_at hl 3 rfl) ?_
  refine sd_thrV (As := [.int (nI y), .int (nI u), .int (nI q)]) (rest := [.int (nI 0), .ref q0]) ⟨hx, hb, hml, hown, hts0⟩ (t_over4 l hl9 dC dI cA h0 a0 n w ok y u q hy hu hq hz0) (cwV 3 hts0 (sd_gV k_methodLink_L_25 k_instanceMethod_X0_over k_sel_X0_over k_init_ShareDesk k_code_X0_over) rfl rfl rfl (by decide +kernel) ⟨Nat.le_of_ble_eq_true rfl, Nat.le_of_ble_eq_true rfl⟩) (sd_preVt hKc hPc hTH (q0 := 0) (ci := 0) rfl rfl) rfl hl.1 rfl (lv_room (Nat.le_of_ble_eq_true rfl)) dL_over_7 ⟨Nat.le_refl _, Nat.le_refl _⟩ (sd_catch2 (own := RL) (cls := sd_IS) (other := sd_IA) (x := (⟨0, 11, 14, 13⟩ : ExceptionTableEntry)) (y := (⟨0, 11, 18, 23⟩ : ExceptionTableEntry)) (t := []) (by rw [htb]; rfl) hown (by decide) (by decide) (by decide) (by decide) (hts (.classLink RL 13 sd_IA) k_classLink_L_13) (hts (.classLink RL 23 sd_IS) k_classLink_L_23) hTH.2.2.2.2.2.1 (va_any rfl hTH.2.2.2.2.1) (fun H q9 hz hk => ?_))
  have hP := sd_keptP hP hk
  have hS : va_S A s.heap H [] := ⟨hz, fun q hq _ => hk q hq, fun _ h => nomatch h⟩
  refine W.eq (g2 := F0 m 18 ls [.ref q9]) rfl ?_
  refine lv_astore hx hb dL_over_18 hl (by decide) rfl (fun ls hl => ?_)
  have hl : lv_has ls 6 [(5, .ref q9), (0, .ref h0), (1, .int (nI y)), (2, .int (nI u)), (3, .int (nI q)), (4, .ref q0)] := hl
  refine lv_iconst (v := (nI 2)) hx hb dL_over_20 (by decide +kernel) ?_
  have hP : va_P (dC, dI) vwCl (sd_OL cA h0 a0 n w cO q0 ou) H := hP
  have hD : va_D A (sd_OL cA h0 a0 n w cO q0 ou) := hD
  refine W.widen (k := 1) (n := 6) (by omega) (by omega) ?_
  exact W.iret hx hb hr (fun t ht hW => ⟨⟨_, (), rfl, rfl, by rw [ht]; exact hP, va_K.moved hW.alike hK, by rw [← hAe]; exact hD⟩, by rw [← hAe]; exact hS.F ht⟩) (fun q hq => by rw [← hAe]; exact hS.2.2 q hq) dL_over_21
set_option maxHeartbeats 4000000 in
set_option maxRecDepth 100000 in
theorem w_next (l : Launch) (hl9 : l.stackTraces = false) (dC : Nat → ClassId) (dI : Nat → Nat → Nat) (cA : ClassId) (h0 a0 n : Nat) (w : Nat → Nat) (cO : ClassId) (q0 : Nat) (ou : Nat → Int64) (sz : Nat) (ok : sd_ok n w) (hW : 0 < sd_sum w n) (y u : Nat) (hy : y ≤ 2) (hu : u ≤ 9999) : Met l yL_next (sd_wsW yL_next cL_next 5 (some .int) [(0, 10, 13, 13), (0, 10, 17, 23)]) (sd_rm 8 1 6) (sd_PwT (dC, dI) vwCl [(cA, .int), (cO, .long)] (sd_OL cA h0 a0 n w cO q0 ou) sz [.ref h0, .int (nI y), .int (nI u), .ref q0]) (va_Qi (fun r (_ : Unit) => r = nI 0) (sd_Bw (dC, dI) vwCl [(cA, .int), (cO, .long)] (sd_OL cA h0 a0 n w cO q0 ou) sz (fun _ => (sd_OL cA h0 a0 n w cO q0 (vp_updL ou 0 ((sd_oi (sd_na (sd_nc (sd_U y w n u) (sd_U y w n (u + 1)) n))).toInt64))))) (va_A (sd_OL cA h0 a0 n w cO q0 ou) sz)) 1 6 (va_A (sd_OL cA h0 a0 n w cO q0 ou) sz) := by
  refine va_MetW (cc := cL_next) (maxL := 5) (ret := (some .int)) (hh := [(0, 10, 13, 13), (0, 10, 17, 23)]) (by decide) rfl ?_
  intro p e s m args below meth c s₁ B hml hv
  obtain ⟨rfl, hsz, hP, hK, hD0, hTH⟩ := hv
  subst hsz
  have hx := B.exec
  have hb := B.bytes
  have hr := B.returns
  have hts0 := atoms_spec (ws := (sd_wsW yL_next cL_next 5 (some .int) [(0, 10, 13, 13), (0, 10, 17, 23)])) B.pre
  have htb := sd_table B (hts0 _ List.mem_cons_self)
  have hts : ∀ w ∈ sd_WS, w.before _ s = true := fun w h => hts0 w (List.mem_cons_of_mem _ h)
  have hown : s.vm.findClass RL = some m.cls := findClass_of_methodNamed B.named
  have hlocks := B.notSynchronized
  have hl := lv_entry ([.ref h0, .int (nI y), .int (nI u), .ref q0]) (n := 5) (Nat.le_of_ble_eq_true rfl)
  rw [lg_entry_eq]
  generalize (lg_sl ([.ref h0, .int (nI y), .int (nI u), .ref q0]) ++ List.replicate (5 - (lg_sl ([.ref h0, .int (nI y), .int (nI u), .ref q0])).length) Slot.unset).toArray = ls at hl ⊢
  have hl : lv_has ls 5 [(0, .ref h0), (1, .int (nI y)), (2, .int (nI u)), (3, .ref q0)] := hl
  obtain ⟨A, hAe⟩ : ∃ A, A = va_A (sd_OL cA h0 a0 n w cO q0 ou) s.heap.size := ⟨_, rfl⟩
  have hD : va_D A (sd_OL cA h0 a0 n w cO q0 ou) := by rw [hAe]; exact hD0.self
  have hA : ∀ q : Nat, s.heap.size ≤ q → A q := fun q h => by rw [hAe]; exact Or.inr h
  have hS : va_S A s.heap s.heap [] := va_S.rf
  have hP : va_P (dC, dI) vwCl [(h0, .inr (0, [.ref a0, .int (nI n), .int (nI (sd_sum w n))])), (a0, .inl (cA, 8, .inl (fun i => nI (w i)))), (q0, .inl (cO, 1, .inr (.inl ou)))] s.heap := hP
  have hD : va_D A [(h0, .inr (0, [.ref a0, .int (nI n), .int (nI (sd_sum w n))])), (a0, .inl (cA, 8, .inl (fun i => nI (w i)))), (q0, .inl (cO, 1, .inr (.inl ou)))] := hD
  have hPc := hP.sub (ws' := (sd_O cA h0 a0 n w)) [0, 1] rfl
  have hKc := hK.sub (tys' := [(cA, .int)]) [0] rfl
  have hDc := hD.sub (ws' := (sd_O cA h0 a0 n w)) [0, 1] (by decide) rfl
  refine lv_aload_n hx hb dL_next_0 rfl (lv_at hl 3 rfl) ?_
  refine lv_iconst (v := (nI 0)) hx hb dL_next_1 (by decide +kernel) ?_
  refine lv_aload_n hx hb dL_next_2 rfl (lv_at hl 0 rfl) ?_
  refine lv_iload_n hx hb dL_next_3 rfl (lv_at hl 1 rfl) ?_
  refine lv_iload_n hx hb dL_next_4 rfl (lv_at hl 2 rfl) ?_
  refine sd_calli (va_runV (As := [.int (nI y), .int (nI u)]) (rest := [.int (nI 0), .ref q0]) ⟨hx, hb, hml, hown, hts0⟩ (c_next l dC dI cA h0 a0 n w ok hW y u hy hu) (cwV 2 hts0 (sd_gV k_methodLink_L_29 k_instanceMethod_X0_next k_sel_X0_next k_init_ShareDesk k_code_X0_next) rfl rfl rfl (by decide +kernel) ⟨Nat.le_of_ble_eq_true rfl, Nat.le_of_ble_eq_true rfl⟩) (sd_preV hKc hPc (q0 := 0) (ci := 0) rfl rfl) rfl rfl hl.1 rfl (lv_room (Nat.le_of_ble_eq_true rfl)) dL_next_5 ⟨Nat.zero_le _, Nat.zero_le _⟩) ?_
  refine lv_i2l (v := (sd_oi (sd_na (sd_nc (sd_U y w n u) (sd_U y w n (u + 1)) n))).toInt64) hx hb dL_next_8 rfl ?_
  refine sd_last (j := 0) hx hb hK hP hD hS 2 1 rfl rfl (by omega) (by decide) dL_next_9 (fun H locs hP hD hS => ?_)
  have hP : va_P (dC, dI) vwCl [(h0, .inr (0, [.ref a0, .int (nI n), .int (nI (sd_sum w n))])), (a0, .inl (cA, 8, .inl (fun i => nI (w i)))), (q0, .inl (cO, 1, .inr (.inl (vp_updL ou 0 ((sd_oi (sd_na (sd_nc (sd_U y w n u) (sd_U y w n (u + 1)) n))).toInt64)))))] H := hP
  have hD : va_D A [(h0, .inr (0, [.ref a0, .int (nI n), .int (nI (sd_sum w n))])), (a0, .inl (cA, 8, .inl (fun i => nI (w i)))), (q0, .inl (cO, 1, .inr (.inl (vp_updL ou 0 ((sd_oi (sd_na (sd_nc (sd_U y w n u) (sd_U y w n (u + 1)) n))).toInt64)))))] := hD
  refine lv_goto (tgt := 21) hx hb dL_next_10 (by decide) ?_
  refine lv_iconst (v := (nI 0)) hx hb dL_next_21 (by decide +kernel) ?_
  have hP : va_P (dC, dI) vwCl (sd_OL cA h0 a0 n w cO q0 (vp_updL ou 0 ((sd_oi (sd_na (sd_nc (sd_U y w n u) (sd_U y w n (u + 1)) n))).toInt64))) H := hP
  have hD : va_D A (sd_OL cA h0 a0 n w cO q0 (vp_updL ou 0 ((sd_oi (sd_na (sd_nc (sd_U y w n u) (sd_U y w n (u + 1)) n))).toInt64))) := hD
  refine W.widen (k := 1) (n := 6) (by omega) (by omega) ?_
  exact W.iret hx hb hr (fun t ht hW => ⟨⟨_, (), rfl, rfl, by rw [ht]; exact hP, va_K.moved hW.alike hK, by rw [← hAe]; exact hD⟩, by rw [← hAe]; exact hS.F ht⟩) (fun q hq => by rw [← hAe]; exact hS.2.2 q hq) dL_next_22
set_option maxHeartbeats 4000000 in
set_option maxRecDepth 100000 in
theorem w_next1 (l : Launch) (hl9 : l.stackTraces = false) (dC : Nat → ClassId) (dI : Nat → Nat → Nat) (cA : ClassId) (h0 a0 n : Nat) (w : Nat → Nat) (cO : ClassId) (q0 : Nat) (ou : Nat → Int64) (sz : Nat) (x1 x2 : Int32) (hbad : x1 < 0 ∨ nI 2 < x1) : Met l yL_next (sd_wsW yL_next cL_next 5 (some .int) [(0, 10, 13, 13), (0, 10, 17, 23)]) (sd_rm 8 1 6) (sd_PwT (dC, dI) vwCl [(cA, .int), (cO, .long)] (sd_OL cA h0 a0 n w cO q0 ou) sz [.ref h0, .int x1, .int x2, .ref q0]) (va_Qi (fun r (_ : Unit) => r = nI 1) (sd_Bw (dC, dI) vwCl [(cA, .int), (cO, .long)] (sd_OL cA h0 a0 n w cO q0 ou) sz (fun _ => (sd_OL cA h0 a0 n w cO q0 ou))) (va_A (sd_OL cA h0 a0 n w cO q0 ou) sz)) 1 6 (va_A (sd_OL cA h0 a0 n w cO q0 ou) sz) := by
  refine va_MetW (cc := cL_next) (maxL := 5) (ret := (some .int)) (hh := [(0, 10, 13, 13), (0, 10, 17, 23)]) (by decide) rfl ?_
  intro p e s m args below meth c s₁ B hml hv
  obtain ⟨rfl, hsz, hP, hK, hD0, hTH⟩ := hv
  subst hsz
  have hx := B.exec
  have hb := B.bytes
  have hr := B.returns
  have hts0 := atoms_spec (ws := (sd_wsW yL_next cL_next 5 (some .int) [(0, 10, 13, 13), (0, 10, 17, 23)])) B.pre
  have htb := sd_table B (hts0 _ List.mem_cons_self)
  have hts : ∀ w ∈ sd_WS, w.before _ s = true := fun w h => hts0 w (List.mem_cons_of_mem _ h)
  have hown : s.vm.findClass RL = some m.cls := findClass_of_methodNamed B.named
  have hlocks := B.notSynchronized
  have hl := lv_entry ([.ref h0, .int x1, .int x2, .ref q0]) (n := 5) (Nat.le_of_ble_eq_true rfl)
  rw [lg_entry_eq]
  generalize (lg_sl ([.ref h0, .int x1, .int x2, .ref q0]) ++ List.replicate (5 - (lg_sl ([.ref h0, .int x1, .int x2, .ref q0])).length) Slot.unset).toArray = ls at hl ⊢
  have hl : lv_has ls 5 [(0, .ref h0), (1, .int x1), (2, .int x2), (3, .ref q0)] := hl
  obtain ⟨A, hAe⟩ : ∃ A, A = va_A (sd_OL cA h0 a0 n w cO q0 ou) s.heap.size := ⟨_, rfl⟩
  have hD : va_D A (sd_OL cA h0 a0 n w cO q0 ou) := by rw [hAe]; exact hD0.self
  have hA : ∀ q : Nat, s.heap.size ≤ q → A q := fun q h => by rw [hAe]; exact Or.inr h
  have hS : va_S A s.heap s.heap [] := va_S.rf
  have hP : va_P (dC, dI) vwCl [(h0, .inr (0, [.ref a0, .int (nI n), .int (nI (sd_sum w n))])), (a0, .inl (cA, 8, .inl (fun i => nI (w i)))), (q0, .inl (cO, 1, .inr (.inl ou)))] s.heap := hP
  have hD : va_D A [(h0, .inr (0, [.ref a0, .int (nI n), .int (nI (sd_sum w n))])), (a0, .inl (cA, 8, .inl (fun i => nI (w i)))), (q0, .inl (cO, 1, .inr (.inl ou)))] := hD
  have hPc := hP.sub (ws' := (sd_O cA h0 a0 n w)) [0, 1] rfl
  have hKc := hK.sub (tys' := [(cA, .int)]) [0] rfl
  have hDc := hD.sub (ws' := (sd_O cA h0 a0 n w)) [0, 1] (by decide) rfl
  refine lv_aload_n hx hb dL_next_0 rfl (lv_at hl 3 rfl) ?_
  refine lv_iconst (v := (nI 0)) hx hb dL_next_1 (by decide +kernel) ?_
  refine lv_aload_n hx hb dL_next_2 rfl (lv_at hl 0 rfl) ?_
  refine lv_iload_n hx hb dL_next_3 rfl (lv_at hl 1 rfl) ?_
  refine lv_iload_n hx hb dL_next_4 rfl (lv_at hl 2 rfl) ?_
  refine sd_thrV (As := [.int x1, .int x2]) (rest := [.int (nI 0), .ref q0]) ⟨hx, hb, hml, hown, hts0⟩ (t_next1 l hl9 dC dI cA h0 a0 n w x1 x2 hbad) (cwV 2 hts0 (sd_gV k_methodLink_L_29 k_instanceMethod_X0_next k_sel_X0_next k_init_ShareDesk k_code_X0_next) rfl rfl rfl (by decide +kernel) ⟨Nat.le_of_ble_eq_true rfl, Nat.le_of_ble_eq_true rfl⟩) (sd_preVt hKc hPc hTH (q0 := 0) (ci := 0) rfl rfl) rfl hl.1 rfl (lv_room (Nat.le_of_ble_eq_true rfl)) dL_next_5 ⟨Nat.le_refl _, Nat.le_refl _⟩ (sd_catch1 (own := RL) (cls := sd_IA) (x := (⟨0, 10, 13, 13⟩ : ExceptionTableEntry)) (t := [(⟨0, 10, 17, 23⟩ : ExceptionTableEntry)]) (by rw [htb]; rfl) hown (by decide) (by decide) (hts (.classLink RL 13 sd_IA) k_classLink_L_13) (va_any rfl hTH.2.2.2.1) (fun H q9 hz hk => ?_))
  have hP := sd_keptP hP hk
  have hS : va_S A s.heap H [] := ⟨hz, fun q hq _ => hk q hq, fun _ h => nomatch h⟩
  refine W.eq (g2 := F0 m 13 ls [.ref q9]) rfl ?_
  refine lv_astore hx hb dL_next_13 hl (by decide) rfl (fun ls hl => ?_)
  have hl : lv_has ls 5 [(4, .ref q9), (0, .ref h0), (1, .int x1), (2, .int x2), (3, .ref q0)] := hl
  refine lv_iconst (v := (nI 1)) hx hb dL_next_15 (by decide +kernel) ?_
  have hP : va_P (dC, dI) vwCl (sd_OL cA h0 a0 n w cO q0 ou) H := hP
  have hD : va_D A (sd_OL cA h0 a0 n w cO q0 ou) := hD
  refine W.widen (k := 1) (n := 6) (by omega) (by omega) ?_
  exact W.iret hx hb hr (fun t ht hW => ⟨⟨_, (), rfl, rfl, by rw [ht]; exact hP, va_K.moved hW.alike hK, by rw [← hAe]; exact hD⟩, by rw [← hAe]; exact hS.F ht⟩) (fun q hq => by rw [← hAe]; exact hS.2.2 q hq) dL_next_16
set_option maxHeartbeats 4000000 in
set_option maxRecDepth 100000 in
theorem w_next2 (l : Launch) (hl9 : l.stackTraces = false) (dC : Nat → ClassId) (dI : Nat → Nat → Nat) (cA : ClassId) (h0 a0 n : Nat) (w : Nat → Nat) (cO : ClassId) (q0 : Nat) (ou : Nat → Int64) (sz : Nat) (y : Nat) (hy : y ≤ 2) (x2 : Int32) (hbad : x2 < 0 ∨ nI 9999 < x2) : Met l yL_next (sd_wsW yL_next cL_next 5 (some .int) [(0, 10, 13, 13), (0, 10, 17, 23)]) (sd_rm 8 1 6) (sd_PwT (dC, dI) vwCl [(cA, .int), (cO, .long)] (sd_OL cA h0 a0 n w cO q0 ou) sz [.ref h0, .int (nI y), .int x2, .ref q0]) (va_Qi (fun r (_ : Unit) => r = nI 1) (sd_Bw (dC, dI) vwCl [(cA, .int), (cO, .long)] (sd_OL cA h0 a0 n w cO q0 ou) sz (fun _ => (sd_OL cA h0 a0 n w cO q0 ou))) (va_A (sd_OL cA h0 a0 n w cO q0 ou) sz)) 1 6 (va_A (sd_OL cA h0 a0 n w cO q0 ou) sz) := by
  refine va_MetW (cc := cL_next) (maxL := 5) (ret := (some .int)) (hh := [(0, 10, 13, 13), (0, 10, 17, 23)]) (by decide) rfl ?_
  intro p e s m args below meth c s₁ B hml hv
  obtain ⟨rfl, hsz, hP, hK, hD0, hTH⟩ := hv
  subst hsz
  have hx := B.exec
  have hb := B.bytes
  have hr := B.returns
  have hts0 := atoms_spec (ws := (sd_wsW yL_next cL_next 5 (some .int) [(0, 10, 13, 13), (0, 10, 17, 23)])) B.pre
  have htb := sd_table B (hts0 _ List.mem_cons_self)
  have hts : ∀ w ∈ sd_WS, w.before _ s = true := fun w h => hts0 w (List.mem_cons_of_mem _ h)
  have hown : s.vm.findClass RL = some m.cls := findClass_of_methodNamed B.named
  have hlocks := B.notSynchronized
  have hl := lv_entry ([.ref h0, .int (nI y), .int x2, .ref q0]) (n := 5) (Nat.le_of_ble_eq_true rfl)
  rw [lg_entry_eq]
  generalize (lg_sl ([.ref h0, .int (nI y), .int x2, .ref q0]) ++ List.replicate (5 - (lg_sl ([.ref h0, .int (nI y), .int x2, .ref q0])).length) Slot.unset).toArray = ls at hl ⊢
  have hl : lv_has ls 5 [(0, .ref h0), (1, .int (nI y)), (2, .int x2), (3, .ref q0)] := hl
  obtain ⟨A, hAe⟩ : ∃ A, A = va_A (sd_OL cA h0 a0 n w cO q0 ou) s.heap.size := ⟨_, rfl⟩
  have hD : va_D A (sd_OL cA h0 a0 n w cO q0 ou) := by rw [hAe]; exact hD0.self
  have hA : ∀ q : Nat, s.heap.size ≤ q → A q := fun q h => by rw [hAe]; exact Or.inr h
  have hS : va_S A s.heap s.heap [] := va_S.rf
  have hP : va_P (dC, dI) vwCl [(h0, .inr (0, [.ref a0, .int (nI n), .int (nI (sd_sum w n))])), (a0, .inl (cA, 8, .inl (fun i => nI (w i)))), (q0, .inl (cO, 1, .inr (.inl ou)))] s.heap := hP
  have hD : va_D A [(h0, .inr (0, [.ref a0, .int (nI n), .int (nI (sd_sum w n))])), (a0, .inl (cA, 8, .inl (fun i => nI (w i)))), (q0, .inl (cO, 1, .inr (.inl ou)))] := hD
  have hPc := hP.sub (ws' := (sd_O cA h0 a0 n w)) [0, 1] rfl
  have hKc := hK.sub (tys' := [(cA, .int)]) [0] rfl
  have hDc := hD.sub (ws' := (sd_O cA h0 a0 n w)) [0, 1] (by decide) rfl
  refine lv_aload_n hx hb dL_next_0 rfl (lv_at hl 3 rfl) ?_
  refine lv_iconst (v := (nI 0)) hx hb dL_next_1 (by decide +kernel) ?_
  refine lv_aload_n hx hb dL_next_2 rfl (lv_at hl 0 rfl) ?_
  refine lv_iload_n hx hb dL_next_3 rfl (lv_at hl 1 rfl) ?_
  refine lv_iload_n hx hb dL_next_4 rfl (lv_at hl 2 rfl) ?_
  refine sd_thrV (As := [.int (nI y), .int x2]) (rest := [.int (nI 0), .ref q0]) ⟨hx, hb, hml, hown, hts0⟩ (t_next2 l hl9 dC dI cA h0 a0 n w y hy x2 hbad) (cwV 2 hts0 (sd_gV k_methodLink_L_29 k_instanceMethod_X0_next k_sel_X0_next k_init_ShareDesk k_code_X0_next) rfl rfl rfl (by decide +kernel) ⟨Nat.le_of_ble_eq_true rfl, Nat.le_of_ble_eq_true rfl⟩) (sd_preVt hKc hPc hTH (q0 := 0) (ci := 0) rfl rfl) rfl hl.1 rfl (lv_room (Nat.le_of_ble_eq_true rfl)) dL_next_5 ⟨Nat.le_refl _, Nat.le_refl _⟩ (sd_catch1 (own := RL) (cls := sd_IA) (x := (⟨0, 10, 13, 13⟩ : ExceptionTableEntry)) (t := [(⟨0, 10, 17, 23⟩ : ExceptionTableEntry)]) (by rw [htb]; rfl) hown (by decide) (by decide) (hts (.classLink RL 13 sd_IA) k_classLink_L_13) (va_any rfl hTH.2.2.2.1) (fun H q9 hz hk => ?_))
  have hP := sd_keptP hP hk
  have hS : va_S A s.heap H [] := ⟨hz, fun q hq _ => hk q hq, fun _ h => nomatch h⟩
  refine W.eq (g2 := F0 m 13 ls [.ref q9]) rfl ?_
  refine lv_astore hx hb dL_next_13 hl (by decide) rfl (fun ls hl => ?_)
  have hl : lv_has ls 5 [(4, .ref q9), (0, .ref h0), (1, .int (nI y)), (2, .int x2), (3, .ref q0)] := hl
  refine lv_iconst (v := (nI 1)) hx hb dL_next_15 (by decide +kernel) ?_
  have hP : va_P (dC, dI) vwCl (sd_OL cA h0 a0 n w cO q0 ou) H := hP
  have hD : va_D A (sd_OL cA h0 a0 n w cO q0 ou) := hD
  refine W.widen (k := 1) (n := 6) (by omega) (by omega) ?_
  exact W.iret hx hb hr (fun t ht hW => ⟨⟨_, (), rfl, rfl, by rw [ht]; exact hP, va_K.moved hW.alike hK, by rw [← hAe]; exact hD⟩, by rw [← hAe]; exact hS.F ht⟩) (fun q hq => by rw [← hAe]; exact hS.2.2 q hq) dL_next_16
set_option maxHeartbeats 4000000 in
set_option maxRecDepth 100000 in
theorem w_next4 (l : Launch) (hl9 : l.stackTraces = false) (dC : Nat → ClassId) (dI : Nat → Nat → Nat) (cA : ClassId) (h0 a0 n : Nat) (w : Nat → Nat) (cO : ClassId) (q0 : Nat) (ou : Nat → Int64) (sz : Nat) (y u : Nat) (hy : y ≤ 2) (hu : u ≤ 9999) (hz0 : sd_sum w n = 0) : Met l yL_next (sd_wsW yL_next cL_next 5 (some .int) [(0, 10, 13, 13), (0, 10, 17, 23)]) (sd_rm 8 1 6) (sd_PwT (dC, dI) vwCl [(cA, .int), (cO, .long)] (sd_OL cA h0 a0 n w cO q0 ou) sz [.ref h0, .int (nI y), .int (nI u), .ref q0]) (va_Qi (fun r (_ : Unit) => r = nI 2) (sd_Bw (dC, dI) vwCl [(cA, .int), (cO, .long)] (sd_OL cA h0 a0 n w cO q0 ou) sz (fun _ => (sd_OL cA h0 a0 n w cO q0 ou))) (va_A (sd_OL cA h0 a0 n w cO q0 ou) sz)) 1 6 (va_A (sd_OL cA h0 a0 n w cO q0 ou) sz) := by
  refine va_MetW (cc := cL_next) (maxL := 5) (ret := (some .int)) (hh := [(0, 10, 13, 13), (0, 10, 17, 23)]) (by decide) rfl ?_
  intro p e s m args below meth c s₁ B hml hv
  obtain ⟨rfl, hsz, hP, hK, hD0, hTH⟩ := hv
  subst hsz
  have hx := B.exec
  have hb := B.bytes
  have hr := B.returns
  have hts0 := atoms_spec (ws := (sd_wsW yL_next cL_next 5 (some .int) [(0, 10, 13, 13), (0, 10, 17, 23)])) B.pre
  have htb := sd_table B (hts0 _ List.mem_cons_self)
  have hts : ∀ w ∈ sd_WS, w.before _ s = true := fun w h => hts0 w (List.mem_cons_of_mem _ h)
  have hown : s.vm.findClass RL = some m.cls := findClass_of_methodNamed B.named
  have hlocks := B.notSynchronized
  have hl := lv_entry ([.ref h0, .int (nI y), .int (nI u), .ref q0]) (n := 5) (Nat.le_of_ble_eq_true rfl)
  rw [lg_entry_eq]
  generalize (lg_sl ([.ref h0, .int (nI y), .int (nI u), .ref q0]) ++ List.replicate (5 - (lg_sl ([.ref h0, .int (nI y), .int (nI u), .ref q0])).length) Slot.unset).toArray = ls at hl ⊢
  have hl : lv_has ls 5 [(0, .ref h0), (1, .int (nI y)), (2, .int (nI u)), (3, .ref q0)] := hl
  obtain ⟨A, hAe⟩ : ∃ A, A = va_A (sd_OL cA h0 a0 n w cO q0 ou) s.heap.size := ⟨_, rfl⟩
  have hD : va_D A (sd_OL cA h0 a0 n w cO q0 ou) := by rw [hAe]; exact hD0.self
  have hA : ∀ q : Nat, s.heap.size ≤ q → A q := fun q h => by rw [hAe]; exact Or.inr h
  have hS : va_S A s.heap s.heap [] := va_S.rf
  have hP : va_P (dC, dI) vwCl [(h0, .inr (0, [.ref a0, .int (nI n), .int (nI (sd_sum w n))])), (a0, .inl (cA, 8, .inl (fun i => nI (w i)))), (q0, .inl (cO, 1, .inr (.inl ou)))] s.heap := hP
  have hD : va_D A [(h0, .inr (0, [.ref a0, .int (nI n), .int (nI (sd_sum w n))])), (a0, .inl (cA, 8, .inl (fun i => nI (w i)))), (q0, .inl (cO, 1, .inr (.inl ou)))] := hD
  have hPc := hP.sub (ws' := (sd_O cA h0 a0 n w)) [0, 1] rfl
  have hKc := hK.sub (tys' := [(cA, .int)]) [0] rfl
  have hDc := hD.sub (ws' := (sd_O cA h0 a0 n w)) [0, 1] (by decide) rfl
  refine lv_aload_n hx hb dL_next_0 rfl (lv_at hl 3 rfl) ?_
  refine lv_iconst (v := (nI 0)) hx hb dL_next_1 (by decide +kernel) ?_
  refine lv_aload_n hx hb dL_next_2 rfl (lv_at hl 0 rfl) ?_
  refine lv_iload_n hx hb dL_next_3 rfl (lv_at hl 1 rfl) ?_
  refine lv_iload_n hx hb dL_next_4 rfl (lv_at hl 2 rfl) ?_
  refine sd_thrV (As := [.int (nI y), .int (nI u)]) (rest := [.int (nI 0), .ref q0]) ⟨hx, hb, hml, hown, hts0⟩ (t_next4 l hl9 dC dI cA h0 a0 n w y u hy hu hz0) (cwV 2 hts0 (sd_gV k_methodLink_L_29 k_instanceMethod_X0_next k_sel_X0_next k_init_ShareDesk k_code_X0_next) rfl rfl rfl (by decide +kernel) ⟨Nat.le_of_ble_eq_true rfl, Nat.le_of_ble_eq_true rfl⟩) (sd_preVt hKc hPc hTH (q0 := 0) (ci := 0) rfl rfl) rfl hl.1 rfl (lv_room (Nat.le_of_ble_eq_true rfl)) dL_next_5 ⟨Nat.le_refl _, Nat.le_refl _⟩ (sd_catch2 (own := RL) (cls := sd_IS) (other := sd_IA) (x := (⟨0, 10, 13, 13⟩ : ExceptionTableEntry)) (y := (⟨0, 10, 17, 23⟩ : ExceptionTableEntry)) (t := []) (by rw [htb]; rfl) hown (by decide) (by decide) (by decide) (by decide) (hts (.classLink RL 13 sd_IA) k_classLink_L_13) (hts (.classLink RL 23 sd_IS) k_classLink_L_23) hTH.2.2.2.2.2.1 (va_any rfl hTH.2.2.2.2.1) (fun H q9 hz hk => ?_))
  have hP := sd_keptP hP hk
  have hS : va_S A s.heap H [] := ⟨hz, fun q hq _ => hk q hq, fun _ h => nomatch h⟩
  refine W.eq (g2 := F0 m 17 ls [.ref q9]) rfl ?_
  refine lv_astore hx hb dL_next_17 hl (by decide) rfl (fun ls hl => ?_)
  have hl : lv_has ls 5 [(4, .ref q9), (0, .ref h0), (1, .int (nI y)), (2, .int (nI u)), (3, .ref q0)] := hl
  refine lv_iconst (v := (nI 2)) hx hb dL_next_19 (by decide +kernel) ?_
  have hP : va_P (dC, dI) vwCl (sd_OL cA h0 a0 n w cO q0 ou) H := hP
  have hD : va_D A (sd_OL cA h0 a0 n w cO q0 ou) := hD
  refine W.widen (k := 1) (n := 6) (by omega) (by omega) ?_
  exact W.iret hx hb hr (fun t ht hW => ⟨⟨_, (), rfl, rfl, by rw [ht]; exact hP, va_K.moved hW.alike hK, by rw [← hAe]; exact hD⟩, by rw [← hAe]; exact hS.F ht⟩) (fun q hq => by rw [← hAe]; exact hS.2.2 q hq) dL_next_20
set_option maxHeartbeats 4000000 in
set_option maxRecDepth 100000 in
theorem w_least (l : Launch) (hl9 : l.stackTraces = false) (dC : Nat → ClassId) (dI : Nat → Nat → Nat) (cA : ClassId) (h0 a0 n : Nat) (w : Nat → Nat) (cO : ClassId) (q0 : Nat) (ou : Nat → Int64) (sz : Nat) (ok : sd_ok n w) (hW : 0 < sd_sum w n) (y k q : Nat) (hy : y ≤ 2) (hk : k < 2 ^ 31) (hq : q < n) : Met l yL_least (sd_wsW yL_least cL_least 6 (some .int) [(0, 12, 15, 13), (0, 12, 19, 23)]) (sd_rm 8 1 6) (sd_PwT (dC, dI) vwCl [(cA, .int), (cO, .long)] (sd_OL cA h0 a0 n w cO q0 ou) sz [.ref h0, .int (nI y), .int (nI k), .int (nI q), .ref q0]) (va_Qi (fun r (_ : Unit) => r = nI 0) (sd_Bw (dC, dI) vwCl [(cA, .int), (cO, .long)] (sd_OL cA h0 a0 n w cO q0 ou) sz (fun _ => (sd_OL cA h0 a0 n w cO q0 (vp_updL ou 0 ((sd_oi (sd_lst (fun j => decide (k ≤ sd_U y w n j q)) 10001)).toInt64))))) (va_A (sd_OL cA h0 a0 n w cO q0 ou) sz)) 1 6 (va_A (sd_OL cA h0 a0 n w cO q0 ou) sz) := by
  refine va_MetW (cc := cL_least) (maxL := 6) (ret := (some .int)) (hh := [(0, 12, 15, 13), (0, 12, 19, 23)]) (by decide) rfl ?_
  intro p e s m args below meth c s₁ B hml hv
  obtain ⟨rfl, hsz, hP, hK, hD0, hTH⟩ := hv
  subst hsz
  have hx := B.exec
  have hb := B.bytes
  have hr := B.returns
  have hts0 := atoms_spec (ws := (sd_wsW yL_least cL_least 6 (some .int) [(0, 12, 15, 13), (0, 12, 19, 23)])) B.pre
  have htb := sd_table B (hts0 _ List.mem_cons_self)
  have hts : ∀ w ∈ sd_WS, w.before _ s = true := fun w h => hts0 w (List.mem_cons_of_mem _ h)
  have hown : s.vm.findClass RL = some m.cls := findClass_of_methodNamed B.named
  have hlocks := B.notSynchronized
  have hl := lv_entry ([.ref h0, .int (nI y), .int (nI k), .int (nI q), .ref q0]) (n := 6) (Nat.le_of_ble_eq_true rfl)
  rw [lg_entry_eq]
  generalize (lg_sl ([.ref h0, .int (nI y), .int (nI k), .int (nI q), .ref q0]) ++ List.replicate (6 - (lg_sl ([.ref h0, .int (nI y), .int (nI k), .int (nI q), .ref q0])).length) Slot.unset).toArray = ls at hl ⊢
  have hl : lv_has ls 6 [(0, .ref h0), (1, .int (nI y)), (2, .int (nI k)), (3, .int (nI q)), (4, .ref q0)] := hl
  obtain ⟨A, hAe⟩ : ∃ A, A = va_A (sd_OL cA h0 a0 n w cO q0 ou) s.heap.size := ⟨_, rfl⟩
  have hD : va_D A (sd_OL cA h0 a0 n w cO q0 ou) := by rw [hAe]; exact hD0.self
  have hA : ∀ q : Nat, s.heap.size ≤ q → A q := fun q h => by rw [hAe]; exact Or.inr h
  have hS : va_S A s.heap s.heap [] := va_S.rf
  have hP : va_P (dC, dI) vwCl [(h0, .inr (0, [.ref a0, .int (nI n), .int (nI (sd_sum w n))])), (a0, .inl (cA, 8, .inl (fun i => nI (w i)))), (q0, .inl (cO, 1, .inr (.inl ou)))] s.heap := hP
  have hD : va_D A [(h0, .inr (0, [.ref a0, .int (nI n), .int (nI (sd_sum w n))])), (a0, .inl (cA, 8, .inl (fun i => nI (w i)))), (q0, .inl (cO, 1, .inr (.inl ou)))] := hD
  have hPc := hP.sub (ws' := (sd_O cA h0 a0 n w)) [0, 1] rfl
  have hKc := hK.sub (tys' := [(cA, .int)]) [0] rfl
  have hDc := hD.sub (ws' := (sd_O cA h0 a0 n w)) [0, 1] (by decide) rfl
  refine lv_aload hx hb dL_least_0 (lv_at hl 4 rfl) ?_
  refine lv_iconst (v := (nI 0)) hx hb dL_least_2 (by decide +kernel) ?_
  refine lv_aload_n hx hb dL_least_3 rfl (lv_at hl 0 rfl) ?_
  refine lv_iload_n hx hb dL_least_4 rfl (lv_at hl 1 rfl) ?_
  refine lv_iload_n hx hb dL_least_5 rfl (lv_at hl 2 rfl) ?_
  refine lv_iload_n hx hb dL_least_6 rfl (lv_at hl 3 rfl) ?_
  refine sd_calli (va_runV (As := [.int (nI y), .int (nI k), .int (nI q)]) (rest := [.int (nI 0), .ref q0]) ⟨hx, hb, hml, hown, hts0⟩ (c_least l dC dI cA h0 a0 n w ok hW y k q hy hk hq) (cwV 3 hts0 (sd_gV k_methodLink_L_32 k_instanceMethod_X0_least k_sel_X0_least k_init_ShareDesk k_code_X0_least) rfl rfl rfl (by decide +kernel) ⟨Nat.le_of_ble_eq_true rfl, Nat.le_of_ble_eq_true rfl⟩) (sd_preV hKc hPc (q0 := 0) (ci := 0) rfl rfl) rfl rfl hl.1 rfl (lv_room (Nat.le_of_ble_eq_true rfl)) dL_least_7 ⟨Nat.zero_le _, Nat.zero_le _⟩) ?_
  refine lv_i2l (v := (sd_oi (sd_lst (fun j => decide (k ≤ sd_U y w n j q)) 10001)).toInt64) hx hb dL_least_10 rfl ?_
  refine sd_last (j := 0) hx hb hK hP hD hS 2 1 rfl rfl (by omega) (by decide) dL_least_11 (fun H locs hP hD hS => ?_)
  have hP : va_P (dC, dI) vwCl [(h0, .inr (0, [.ref a0, .int (nI n), .int (nI (sd_sum w n))])), (a0, .inl (cA, 8, .inl (fun i => nI (w i)))), (q0, .inl (cO, 1, .inr (.inl (vp_updL ou 0 ((sd_oi (sd_lst (fun j => decide (k ≤ sd_U y w n j q)) 10001)).toInt64)))))] H := hP
  have hD : va_D A [(h0, .inr (0, [.ref a0, .int (nI n), .int (nI (sd_sum w n))])), (a0, .inl (cA, 8, .inl (fun i => nI (w i)))), (q0, .inl (cO, 1, .inr (.inl (vp_updL ou 0 ((sd_oi (sd_lst (fun j => decide (k ≤ sd_U y w n j q)) 10001)).toInt64)))))] := hD
  refine lv_goto (tgt := 23) hx hb dL_least_12 (by decide) ?_
  refine lv_iconst (v := (nI 0)) hx hb dL_least_23 (by decide +kernel) ?_
  have hP : va_P (dC, dI) vwCl (sd_OL cA h0 a0 n w cO q0 (vp_updL ou 0 ((sd_oi (sd_lst (fun j => decide (k ≤ sd_U y w n j q)) 10001)).toInt64))) H := hP
  have hD : va_D A (sd_OL cA h0 a0 n w cO q0 (vp_updL ou 0 ((sd_oi (sd_lst (fun j => decide (k ≤ sd_U y w n j q)) 10001)).toInt64))) := hD
  refine W.widen (k := 1) (n := 6) (by omega) (by omega) ?_
  exact W.iret hx hb hr (fun t ht hW => ⟨⟨_, (), rfl, rfl, by rw [ht]; exact hP, va_K.moved hW.alike hK, by rw [← hAe]; exact hD⟩, by rw [← hAe]; exact hS.F ht⟩) (fun q hq => by rw [← hAe]; exact hS.2.2 q hq) dL_least_24
set_option maxHeartbeats 4000000 in
set_option maxRecDepth 100000 in
theorem w_least1 (l : Launch) (hl9 : l.stackTraces = false) (dC : Nat → ClassId) (dI : Nat → Nat → Nat) (cA : ClassId) (h0 a0 n : Nat) (w : Nat → Nat) (cO : ClassId) (q0 : Nat) (ou : Nat → Int64) (sz : Nat) (x1 x2 x3 : Int32) (hbad : x1 < 0 ∨ nI 2 < x1) : Met l yL_least (sd_wsW yL_least cL_least 6 (some .int) [(0, 12, 15, 13), (0, 12, 19, 23)]) (sd_rm 8 1 6) (sd_PwT (dC, dI) vwCl [(cA, .int), (cO, .long)] (sd_OL cA h0 a0 n w cO q0 ou) sz [.ref h0, .int x1, .int x2, .int x3, .ref q0]) (va_Qi (fun r (_ : Unit) => r = nI 1) (sd_Bw (dC, dI) vwCl [(cA, .int), (cO, .long)] (sd_OL cA h0 a0 n w cO q0 ou) sz (fun _ => (sd_OL cA h0 a0 n w cO q0 ou))) (va_A (sd_OL cA h0 a0 n w cO q0 ou) sz)) 1 6 (va_A (sd_OL cA h0 a0 n w cO q0 ou) sz) := by
  refine va_MetW (cc := cL_least) (maxL := 6) (ret := (some .int)) (hh := [(0, 12, 15, 13), (0, 12, 19, 23)]) (by decide) rfl ?_
  intro p e s m args below meth c s₁ B hml hv
  obtain ⟨rfl, hsz, hP, hK, hD0, hTH⟩ := hv
  subst hsz
  have hx := B.exec
  have hb := B.bytes
  have hr := B.returns
  have hts0 := atoms_spec (ws := (sd_wsW yL_least cL_least 6 (some .int) [(0, 12, 15, 13), (0, 12, 19, 23)])) B.pre
  have htb := sd_table B (hts0 _ List.mem_cons_self)
  have hts : ∀ w ∈ sd_WS, w.before _ s = true := fun w h => hts0 w (List.mem_cons_of_mem _ h)
  have hown : s.vm.findClass RL = some m.cls := findClass_of_methodNamed B.named
  have hlocks := B.notSynchronized
  have hl := lv_entry ([.ref h0, .int x1, .int x2, .int x3, .ref q0]) (n := 6) (Nat.le_of_ble_eq_true rfl)
  rw [lg_entry_eq]
  generalize (lg_sl ([.ref h0, .int x1, .int x2, .int x3, .ref q0]) ++ List.replicate (6 - (lg_sl ([.ref h0, .int x1, .int x2, .int x3, .ref q0])).length) Slot.unset).toArray = ls at hl ⊢
  have hl : lv_has ls 6 [(0, .ref h0), (1, .int x1), (2, .int x2), (3, .int x3), (4, .ref q0)] := hl
  obtain ⟨A, hAe⟩ : ∃ A, A = va_A (sd_OL cA h0 a0 n w cO q0 ou) s.heap.size := ⟨_, rfl⟩
  have hD : va_D A (sd_OL cA h0 a0 n w cO q0 ou) := by rw [hAe]; exact hD0.self
  have hA : ∀ q : Nat, s.heap.size ≤ q → A q := fun q h => by rw [hAe]; exact Or.inr h
  have hS : va_S A s.heap s.heap [] := va_S.rf
  have hP : va_P (dC, dI) vwCl [(h0, .inr (0, [.ref a0, .int (nI n), .int (nI (sd_sum w n))])), (a0, .inl (cA, 8, .inl (fun i => nI (w i)))), (q0, .inl (cO, 1, .inr (.inl ou)))] s.heap := hP
  have hD : va_D A [(h0, .inr (0, [.ref a0, .int (nI n), .int (nI (sd_sum w n))])), (a0, .inl (cA, 8, .inl (fun i => nI (w i)))), (q0, .inl (cO, 1, .inr (.inl ou)))] := hD
  have hPc := hP.sub (ws' := (sd_O cA h0 a0 n w)) [0, 1] rfl
  have hKc := hK.sub (tys' := [(cA, .int)]) [0] rfl
  have hDc := hD.sub (ws' := (sd_O cA h0 a0 n w)) [0, 1] (by decide) rfl
  refine lv_aload hx hb dL_least_0 (lv_at hl 4 rfl) ?_
  refine lv_iconst (v := (nI 0)) hx hb dL_least_2 (by decide +kernel) ?_
  refine lv_aload_n hx hb dL_least_3 rfl (lv_at hl 0 rfl) ?_
  refine lv_iload_n hx hb dL_least_4 rfl (lv_at hl 1 rfl) ?_
  refine lv_iload_n hx hb dL_least_5 rfl (lv_at hl 2 rfl) ?_
  refine lv_iload_n hx hb dL_least_6 rfl (lv_at hl 3 rfl) ?_
  refine sd_thrV (As := [.int x1, .int x2, .int x3]) (rest := [.int (nI 0), .ref q0]) ⟨hx, hb, hml, hown, hts0⟩ (t_least1 l hl9 dC dI cA h0 a0 n w x1 x2 x3 hbad) (cwV 3 hts0 (sd_gV k_methodLink_L_32 k_instanceMethod_X0_least k_sel_X0_least k_init_ShareDesk k_code_X0_least) rfl rfl rfl (by decide +kernel) ⟨Nat.le_of_ble_eq_true rfl, Nat.le_of_ble_eq_true rfl⟩) (sd_preVt hKc hPc hTH (q0 := 0) (ci := 0) rfl rfl) rfl hl.1 rfl (lv_room (Nat.le_of_ble_eq_true rfl)) dL_least_7 ⟨Nat.le_refl _, Nat.le_refl _⟩ (sd_catch1 (own := RL) (cls := sd_IA) (x := (⟨0, 12, 15, 13⟩ : ExceptionTableEntry)) (t := [(⟨0, 12, 19, 23⟩ : ExceptionTableEntry)]) (by rw [htb]; rfl) hown (by decide) (by decide) (hts (.classLink RL 13 sd_IA) k_classLink_L_13) (va_any rfl hTH.2.2.2.1) (fun H q9 hz hk => ?_))
  have hP := sd_keptP hP hk
  have hS : va_S A s.heap H [] := ⟨hz, fun q hq _ => hk q hq, fun _ h => nomatch h⟩
  refine W.eq (g2 := F0 m 15 ls [.ref q9]) rfl ?_
  refine lv_astore hx hb dL_least_15 hl (by decide) rfl (fun ls hl => ?_)
  have hl : lv_has ls 6 [(5, .ref q9), (0, .ref h0), (1, .int x1), (2, .int x2), (3, .int x3), (4, .ref q0)] := hl
  refine lv_iconst (v := (nI 1)) hx hb dL_least_17 (by decide +kernel) ?_
  have hP : va_P (dC, dI) vwCl (sd_OL cA h0 a0 n w cO q0 ou) H := hP
  have hD : va_D A (sd_OL cA h0 a0 n w cO q0 ou) := hD
  refine W.widen (k := 1) (n := 6) (by omega) (by omega) ?_
  exact W.iret hx hb hr (fun t ht hW => ⟨⟨_, (), rfl, rfl, by rw [ht]; exact hP, va_K.moved hW.alike hK, by rw [← hAe]; exact hD⟩, by rw [← hAe]; exact hS.F ht⟩) (fun q hq => by rw [← hAe]; exact hS.2.2 q hq) dL_least_18
set_option maxHeartbeats 4000000 in
set_option maxRecDepth 100000 in
theorem w_least2 (l : Launch) (hl9 : l.stackTraces = false) (dC : Nat → ClassId) (dI : Nat → Nat → Nat) (cA : ClassId) (h0 a0 n : Nat) (w : Nat → Nat) (cO : ClassId) (q0 : Nat) (ou : Nat → Int64) (sz : Nat) (y : Nat) (hy : y ≤ 2) (x2 x3 : Int32) (hbad : x3 < 0 ∨ nI n ≤ x3) : Met l yL_least (sd_wsW yL_least cL_least 6 (some .int) [(0, 12, 15, 13), (0, 12, 19, 23)]) (sd_rm 8 1 6) (sd_PwT (dC, dI) vwCl [(cA, .int), (cO, .long)] (sd_OL cA h0 a0 n w cO q0 ou) sz [.ref h0, .int (nI y), .int x2, .int x3, .ref q0]) (va_Qi (fun r (_ : Unit) => r = nI 1) (sd_Bw (dC, dI) vwCl [(cA, .int), (cO, .long)] (sd_OL cA h0 a0 n w cO q0 ou) sz (fun _ => (sd_OL cA h0 a0 n w cO q0 ou))) (va_A (sd_OL cA h0 a0 n w cO q0 ou) sz)) 1 6 (va_A (sd_OL cA h0 a0 n w cO q0 ou) sz) := by
  refine va_MetW (cc := cL_least) (maxL := 6) (ret := (some .int)) (hh := [(0, 12, 15, 13), (0, 12, 19, 23)]) (by decide) rfl ?_
  intro p e s m args below meth c s₁ B hml hv
  obtain ⟨rfl, hsz, hP, hK, hD0, hTH⟩ := hv
  subst hsz
  have hx := B.exec
  have hb := B.bytes
  have hr := B.returns
  have hts0 := atoms_spec (ws := (sd_wsW yL_least cL_least 6 (some .int) [(0, 12, 15, 13), (0, 12, 19, 23)])) B.pre
  have htb := sd_table B (hts0 _ List.mem_cons_self)
  have hts : ∀ w ∈ sd_WS, w.before _ s = true := fun w h => hts0 w (List.mem_cons_of_mem _ h)
  have hown : s.vm.findClass RL = some m.cls := findClass_of_methodNamed B.named
  have hlocks := B.notSynchronized
  have hl := lv_entry ([.ref h0, .int (nI y), .int x2, .int x3, .ref q0]) (n := 6) (Nat.le_of_ble_eq_true rfl)
  rw [lg_entry_eq]
  generalize (lg_sl ([.ref h0, .int (nI y), .int x2, .int x3, .ref q0]) ++ List.replicate (6 - (lg_sl ([.ref h0, .int (nI y), .int x2, .int x3, .ref q0])).length) Slot.unset).toArray = ls at hl ⊢
  have hl : lv_has ls 6 [(0, .ref h0), (1, .int (nI y)), (2, .int x2), (3, .int x3), (4, .ref q0)] := hl
  obtain ⟨A, hAe⟩ : ∃ A, A = va_A (sd_OL cA h0 a0 n w cO q0 ou) s.heap.size := ⟨_, rfl⟩
  have hD : va_D A (sd_OL cA h0 a0 n w cO q0 ou) := by rw [hAe]; exact hD0.self
  have hA : ∀ q : Nat, s.heap.size ≤ q → A q := fun q h => by rw [hAe]; exact Or.inr h
  have hS : va_S A s.heap s.heap [] := va_S.rf
  have hP : va_P (dC, dI) vwCl [(h0, .inr (0, [.ref a0, .int (nI n), .int (nI (sd_sum w n))])), (a0, .inl (cA, 8, .inl (fun i => nI (w i)))), (q0, .inl (cO, 1, .inr (.inl ou)))] s.heap := hP
  have hD : va_D A [(h0, .inr (0, [.ref a0, .int (nI n), .int (nI (sd_sum w n))])), (a0, .inl (cA, 8, .inl (fun i => nI (w i)))), (q0, .inl (cO, 1, .inr (.inl ou)))] := hD
  have hPc := hP.sub (ws' := (sd_O cA h0 a0 n w)) [0, 1] rfl
  have hKc := hK.sub (tys' := [(cA, .int)]) [0] rfl
  have hDc := hD.sub (ws' := (sd_O cA h0 a0 n w)) [0, 1] (by decide) rfl
  refine lv_aload hx hb dL_least_0 (lv_at hl 4 rfl) ?_
  refine lv_iconst (v := (nI 0)) hx hb dL_least_2 (by decide +kernel) ?_
  refine lv_aload_n hx hb dL_least_3 rfl (lv_at hl 0 rfl) ?_
  refine lv_iload_n hx hb dL_least_4 rfl (lv_at hl 1 rfl) ?_
  refine lv_iload_n hx hb dL_least_5 rfl (lv_at hl 2 rfl) ?_
  refine lv_iload_n hx hb dL_least_6 rfl (lv_at hl 3 rfl) ?_
  refine sd_thrV (As := [.int (nI y), .int x2, .int x3]) (rest := [.int (nI 0), .ref q0]) ⟨hx, hb, hml, hown, hts0⟩ (t_least2 l hl9 dC dI cA h0 a0 n w y hy x3 x2 hbad) (cwV 3 hts0 (sd_gV k_methodLink_L_32 k_instanceMethod_X0_least k_sel_X0_least k_init_ShareDesk k_code_X0_least) rfl rfl rfl (by decide +kernel) ⟨Nat.le_of_ble_eq_true rfl, Nat.le_of_ble_eq_true rfl⟩) (sd_preVt hKc hPc hTH (q0 := 0) (ci := 0) rfl rfl) rfl hl.1 rfl (lv_room (Nat.le_of_ble_eq_true rfl)) dL_least_7 ⟨Nat.le_refl _, Nat.le_refl _⟩ (sd_catch1 (own := RL) (cls := sd_IA) (x := (⟨0, 12, 15, 13⟩ : ExceptionTableEntry)) (t := [(⟨0, 12, 19, 23⟩ : ExceptionTableEntry)]) (by rw [htb]; rfl) hown (by decide) (by decide) (hts (.classLink RL 13 sd_IA) k_classLink_L_13) (va_any rfl hTH.2.2.2.1) (fun H q9 hz hk => ?_))
  have hP := sd_keptP hP hk
  have hS : va_S A s.heap H [] := ⟨hz, fun q hq _ => hk q hq, fun _ h => nomatch h⟩
  refine W.eq (g2 := F0 m 15 ls [.ref q9]) rfl ?_
  refine lv_astore hx hb dL_least_15 hl (by decide) rfl (fun ls hl => ?_)
  have hl : lv_has ls 6 [(5, .ref q9), (0, .ref h0), (1, .int (nI y)), (2, .int x2), (3, .int x3), (4, .ref q0)] := hl
  refine lv_iconst (v := (nI 1)) hx hb dL_least_17 (by decide +kernel) ?_
  have hP : va_P (dC, dI) vwCl (sd_OL cA h0 a0 n w cO q0 ou) H := hP
  have hD : va_D A (sd_OL cA h0 a0 n w cO q0 ou) := hD
  refine W.widen (k := 1) (n := 6) (by omega) (by omega) ?_
  exact W.iret hx hb hr (fun t ht hW => ⟨⟨_, (), rfl, rfl, by rw [ht]; exact hP, va_K.moved hW.alike hK, by rw [← hAe]; exact hD⟩, by rw [← hAe]; exact hS.F ht⟩) (fun q hq => by rw [← hAe]; exact hS.2.2 q hq) dL_least_18
set_option maxHeartbeats 4000000 in
set_option maxRecDepth 100000 in
theorem w_least3 (l : Launch) (hl9 : l.stackTraces = false) (dC : Nat → ClassId) (dI : Nat → Nat → Nat) (cA : ClassId) (h0 a0 n : Nat) (w : Nat → Nat) (cO : ClassId) (q0 : Nat) (ou : Nat → Int64) (sz : Nat) (ok : sd_ok n w) (y q : Nat) (hy : y ≤ 2) (hq : q < n) (x2 : Int32) (hbad : x2 < 0) : Met l yL_least (sd_wsW yL_least cL_least 6 (some .int) [(0, 12, 15, 13), (0, 12, 19, 23)]) (sd_rm 8 1 6) (sd_PwT (dC, dI) vwCl [(cA, .int), (cO, .long)] (sd_OL cA h0 a0 n w cO q0 ou) sz [.ref h0, .int (nI y), .int x2, .int (nI q), .ref q0]) (va_Qi (fun r (_ : Unit) => r = nI 1) (sd_Bw (dC, dI) vwCl [(cA, .int), (cO, .long)] (sd_OL cA h0 a0 n w cO q0 ou) sz (fun _ => (sd_OL cA h0 a0 n w cO q0 ou))) (va_A (sd_OL cA h0 a0 n w cO q0 ou) sz)) 1 6 (va_A (sd_OL cA h0 a0 n w cO q0 ou) sz) := by
  refine va_MetW (cc := cL_least) (maxL := 6) (ret := (some .int)) (hh := [(0, 12, 15, 13), (0, 12, 19, 23)]) (by decide) rfl ?_
  intro p e s m args below meth c s₁ B hml hv
  obtain ⟨rfl, hsz, hP, hK, hD0, hTH⟩ := hv
  subst hsz
  have hx := B.exec
  have hb := B.bytes
  have hr := B.returns
  have hts0 := atoms_spec (ws := (sd_wsW yL_least cL_least 6 (some .int) [(0, 12, 15, 13), (0, 12, 19, 23)])) B.pre
  have htb := sd_table B (hts0 _ List.mem_cons_self)
  have hts : ∀ w ∈ sd_WS, w.before _ s = true := fun w h => hts0 w (List.mem_cons_of_mem _ h)
  have hown : s.vm.findClass RL = some m.cls := findClass_of_methodNamed B.named
  have hlocks := B.notSynchronized
  have hl := lv_entry ([.ref h0, .int (nI y), .int x2, .int (nI q), .ref q0]) (n := 6) (Nat.le_of_ble_eq_true rfl)
  rw [lg_entry_eq]
  generalize (lg_sl ([.ref h0, .int (nI y), .int x2, .int (nI q), .ref q0]) ++ List.replicate (6 - (lg_sl ([.ref h0, .int (nI y), .int x2, .int (nI q), .ref q0])).length) Slot.unset).toArray = ls at hl ⊢
  have hl : lv_has ls 6 [(0, .ref h0), (1, .int (nI y)), (2, .int x2), (3, .int (nI q)), (4, .ref q0)] := hl
  obtain ⟨A, hAe⟩ : ∃ A, A = va_A (sd_OL cA h0 a0 n w cO q0 ou) s.heap.size := ⟨_, rfl⟩
  have hD : va_D A (sd_OL cA h0 a0 n w cO q0 ou) := by rw [hAe]; exact hD0.self
  have hA : ∀ q : Nat, s.heap.size ≤ q → A q := fun q h => by rw [hAe]; exact Or.inr h
  have hS : va_S A s.heap s.heap [] := va_S.rf
  have hP : va_P (dC, dI) vwCl [(h0, .inr (0, [.ref a0, .int (nI n), .int (nI (sd_sum w n))])), (a0, .inl (cA, 8, .inl (fun i => nI (w i)))), (q0, .inl (cO, 1, .inr (.inl ou)))] s.heap := hP
  have hD : va_D A [(h0, .inr (0, [.ref a0, .int (nI n), .int (nI (sd_sum w n))])), (a0, .inl (cA, 8, .inl (fun i => nI (w i)))), (q0, .inl (cO, 1, .inr (.inl ou)))] := hD
  have hPc := hP.sub (ws' := (sd_O cA h0 a0 n w)) [0, 1] rfl
  have hKc := hK.sub (tys' := [(cA, .int)]) [0] rfl
  have hDc := hD.sub (ws' := (sd_O cA h0 a0 n w)) [0, 1] (by decide) rfl
  refine lv_aload hx hb dL_least_0 (lv_at hl 4 rfl) ?_
  refine lv_iconst (v := (nI 0)) hx hb dL_least_2 (by decide +kernel) ?_
  refine lv_aload_n hx hb dL_least_3 rfl (lv_at hl 0 rfl) ?_
  refine lv_iload_n hx hb dL_least_4 rfl (lv_at hl 1 rfl) ?_
  refine lv_iload_n hx hb dL_least_5 rfl (lv_at hl 2 rfl) ?_
  refine lv_iload_n hx hb dL_least_6 rfl (lv_at hl 3 rfl) ?_
  refine sd_thrV (As := [.int (nI y), .int x2, .int (nI q)]) (rest := [.int (nI 0), .ref q0]) ⟨hx, hb, hml, hown, hts0⟩ (t_least3 l hl9 dC dI cA h0 a0 n w ok y q hy hq x2 hbad) (cwV 3 hts0 (sd_gV k_methodLink_L_32 k_instanceMethod_X0_least k_sel_X0_least k_init_ShareDesk k_code_X0_least) rfl rfl rfl (by decide +kernel) ⟨Nat.le_of_ble_eq_true rfl, Nat.le_of_ble_eq_true rfl⟩) (sd_preVt hKc hPc hTH (q0 := 0) (ci := 0) rfl rfl) rfl hl.1 rfl (lv_room (Nat.le_of_ble_eq_true rfl)) dL_least_7 ⟨Nat.le_refl _, Nat.le_refl _⟩ (sd_catch1 (own := RL) (cls := sd_IA) (x := (⟨0, 12, 15, 13⟩ : ExceptionTableEntry)) (t := [(⟨0, 12, 19, 23⟩ : ExceptionTableEntry)]) (by rw [htb]; rfl) hown (by decide) (by decide) (hts (.classLink RL 13 sd_IA) k_classLink_L_13) (va_any rfl hTH.2.2.2.1) (fun H q9 hz hk => ?_))
  have hP := sd_keptP hP hk
  have hS : va_S A s.heap H [] := ⟨hz, fun q hq _ => hk q hq, fun _ h => nomatch h⟩
  refine W.eq (g2 := F0 m 15 ls [.ref q9]) rfl ?_
  refine lv_astore hx hb dL_least_15 hl (by decide) rfl (fun ls hl => ?_)
  have hl : lv_has ls 6 [(5, .ref q9), (0, .ref h0), (1, .int (nI y)), (2, .int x2), (3, .int (nI q)), (4, .ref q0)] := hl
  refine lv_iconst (v := (nI 1)) hx hb dL_least_17 (by decide +kernel) ?_
  have hP : va_P (dC, dI) vwCl (sd_OL cA h0 a0 n w cO q0 ou) H := hP
  have hD : va_D A (sd_OL cA h0 a0 n w cO q0 ou) := hD
  refine W.widen (k := 1) (n := 6) (by omega) (by omega) ?_
  exact W.iret hx hb hr (fun t ht hW => ⟨⟨_, (), rfl, rfl, by rw [ht]; exact hP, va_K.moved hW.alike hK, by rw [← hAe]; exact hD⟩, by rw [← hAe]; exact hS.F ht⟩) (fun q hq => by rw [← hAe]; exact hS.2.2 q hq) dL_least_18
set_option maxHeartbeats 4000000 in
set_option maxRecDepth 100000 in
theorem w_least4 (l : Launch) (hl9 : l.stackTraces = false) (dC : Nat → ClassId) (dI : Nat → Nat → Nat) (cA : ClassId) (h0 a0 n : Nat) (w : Nat → Nat) (cO : ClassId) (q0 : Nat) (ou : Nat → Int64) (sz : Nat) (ok : sd_ok n w) (y k q : Nat) (hy : y ≤ 2) (hk : k < 2 ^ 31) (hq : q < n) (hz0 : sd_sum w n = 0) : Met l yL_least (sd_wsW yL_least cL_least 6 (some .int) [(0, 12, 15, 13), (0, 12, 19, 23)]) (sd_rm 8 1 6) (sd_PwT (dC, dI) vwCl [(cA, .int), (cO, .long)] (sd_OL cA h0 a0 n w cO q0 ou) sz [.ref h0, .int (nI y), .int (nI k), .int (nI q), .ref q0]) (va_Qi (fun r (_ : Unit) => r = nI 2) (sd_Bw (dC, dI) vwCl [(cA, .int), (cO, .long)] (sd_OL cA h0 a0 n w cO q0 ou) sz (fun _ => (sd_OL cA h0 a0 n w cO q0 ou))) (va_A (sd_OL cA h0 a0 n w cO q0 ou) sz)) 1 6 (va_A (sd_OL cA h0 a0 n w cO q0 ou) sz) := by
  refine va_MetW (cc := cL_least) (maxL := 6) (ret := (some .int)) (hh := [(0, 12, 15, 13), (0, 12, 19, 23)]) (by decide) rfl ?_
  intro p e s m args below meth c s₁ B hml hv
  obtain ⟨rfl, hsz, hP, hK, hD0, hTH⟩ := hv
  subst hsz
  have hx := B.exec
  have hb := B.bytes
  have hr := B.returns
  have hts0 := atoms_spec (ws := (sd_wsW yL_least cL_least 6 (some .int) [(0, 12, 15, 13), (0, 12, 19, 23)])) B.pre
  have htb := sd_table B (hts0 _ List.mem_cons_self)
  have hts : ∀ w ∈ sd_WS, w.before _ s = true := fun w h => hts0 w (List.mem_cons_of_mem _ h)
  have hown : s.vm.findClass RL = some m.cls := findClass_of_methodNamed B.named
  have hlocks := B.notSynchronized
  have hl := lv_entry ([.ref h0, .int (nI y), .int (nI k), .int (nI q), .ref q0]) (n := 6) (Nat.le_of_ble_eq_true rfl)
  rw [lg_entry_eq]
  generalize (lg_sl ([.ref h0, .int (nI y), .int (nI k), .int (nI q), .ref q0]) ++ List.replicate (6 - (lg_sl ([.ref h0, .int (nI y), .int (nI k), .int (nI q), .ref q0])).length) Slot.unset).toArray = ls at hl ⊢
  have hl : lv_has ls 6 [(0, .ref h0), (1, .int (nI y)), (2, .int (nI k)), (3, .int (nI q)), (4, .ref q0)] := hl
  obtain ⟨A, hAe⟩ : ∃ A, A = va_A (sd_OL cA h0 a0 n w cO q0 ou) s.heap.size := ⟨_, rfl⟩
  have hD : va_D A (sd_OL cA h0 a0 n w cO q0 ou) := by rw [hAe]; exact hD0.self
  have hA : ∀ q : Nat, s.heap.size ≤ q → A q := fun q h => by rw [hAe]; exact Or.inr h
  have hS : va_S A s.heap s.heap [] := va_S.rf
  have hP : va_P (dC, dI) vwCl [(h0, .inr (0, [.ref a0, .int (nI n), .int (nI (sd_sum w n))])), (a0, .inl (cA, 8, .inl (fun i => nI (w i)))), (q0, .inl (cO, 1, .inr (.inl ou)))] s.heap := hP
  have hD : va_D A [(h0, .inr (0, [.ref a0, .int (nI n), .int (nI (sd_sum w n))])), (a0, .inl (cA, 8, .inl (fun i => nI (w i)))), (q0, .inl (cO, 1, .inr (.inl ou)))] := hD
  have hPc := hP.sub (ws' := (sd_O cA h0 a0 n w)) [0, 1] rfl
  have hKc := hK.sub (tys' := [(cA, .int)]) [0] rfl
  have hDc := hD.sub (ws' := (sd_O cA h0 a0 n w)) [0, 1] (by decide) rfl
  refine lv_aload hx hb dL_least_0 (lv_at hl 4 rfl) ?_
  refine lv_iconst (v := (nI 0)) hx hb dL_least_2 (by decide +kernel) ?_
  refine lv_aload_n hx hb dL_least_3 rfl (lv_at hl 0 rfl) ?_
  refine lv_iload_n hx hb dL_least_4 rfl (lv_at hl 1 rfl) ?_
  refine lv_iload_n hx hb dL_least_5 rfl (lv_at hl 2 rfl) ?_
  refine lv_iload_n hx hb dL_least_6 rfl (lv_at hl 3 rfl) ?_
  refine sd_thrV (As := [.int (nI y), .int (nI k), .int (nI q)]) (rest := [.int (nI 0), .ref q0]) ⟨hx, hb, hml, hown, hts0⟩ (t_least4 l hl9 dC dI cA h0 a0 n w ok y q hy hq (nI k) (nI_pos' hk) hz0) (cwV 3 hts0 (sd_gV k_methodLink_L_32 k_instanceMethod_X0_least k_sel_X0_least k_init_ShareDesk k_code_X0_least) rfl rfl rfl (by decide +kernel) ⟨Nat.le_of_ble_eq_true rfl, Nat.le_of_ble_eq_true rfl⟩) (sd_preVt hKc hPc hTH (q0 := 0) (ci := 0) rfl rfl) rfl hl.1 rfl (lv_room (Nat.le_of_ble_eq_true rfl)) dL_least_7 ⟨Nat.le_refl _, Nat.le_refl _⟩ (sd_catch2 (own := RL) (cls := sd_IS) (other := sd_IA) (x := (⟨0, 12, 15, 13⟩ : ExceptionTableEntry)) (y := (⟨0, 12, 19, 23⟩ : ExceptionTableEntry)) (t := []) (by rw [htb]; rfl) hown (by decide) (by decide) (by decide) (by decide) (hts (.classLink RL 13 sd_IA) k_classLink_L_13) (hts (.classLink RL 23 sd_IS) k_classLink_L_23) hTH.2.2.2.2.2.1 (va_any rfl hTH.2.2.2.2.1) (fun H q9 hz hk => ?_))
  have hP := sd_keptP hP hk
  have hS : va_S A s.heap H [] := ⟨hz, fun q hq _ => hk q hq, fun _ h => nomatch h⟩
  refine W.eq (g2 := F0 m 19 ls [.ref q9]) rfl ?_
  refine lv_astore hx hb dL_least_19 hl (by decide) rfl (fun ls hl => ?_)
  have hl : lv_has ls 6 [(5, .ref q9), (0, .ref h0), (1, .int (nI y)), (2, .int (nI k)), (3, .int (nI q)), (4, .ref q0)] := hl
  refine lv_iconst (v := (nI 2)) hx hb dL_least_21 (by decide +kernel) ?_
  have hP : va_P (dC, dI) vwCl (sd_OL cA h0 a0 n w cO q0 ou) H := hP
  have hD : va_D A (sd_OL cA h0 a0 n w cO q0 ou) := hD
  refine W.widen (k := 1) (n := 6) (by omega) (by omega) ?_
  exact W.iret hx hb hr (fun t ht hW => ⟨⟨_, (), rfl, rfl, by rw [ht]; exact hP, va_K.moved hW.alike hK, by rw [← hAe]; exact hD⟩, by rw [← hAe]; exact hS.F ht⟩) (fun q hq => by rw [← hAe]; exact hS.2.2 q hq) dL_least_22
set_option maxHeartbeats 4000000 in
set_option maxRecDepth 100000 in
theorem w_count (l : Launch) (hl9 : l.stackTraces = false) (dC : Nat → ClassId) (dI : Nat → Nat → Nat) (cA : ClassId) (h0 a0 n : Nat) (w : Nat → Nat) (cO : ClassId) (q0 : Nat) (ou : Nat → Int64) (sz : Nat) (ok : sd_ok n w) (k : Nat) (hk : k ≤ 2) : Met l yL_count (sd_wsW yL_count cL_count 4 (some .int) [(0, 9, 12, 13)]) (sd_rm 8 1 6) (sd_PwT (dC, dI) vwCl [(cA, .int), (cO, .long)] (sd_OL cA h0 a0 n w cO q0 ou) sz [.ref h0, .int (nI k), .ref q0]) (va_Qi (fun r (_ : Unit) => r = nI 0) (sd_Bw (dC, dI) vwCl [(cA, .int), (cO, .long)] (sd_OL cA h0 a0 n w cO q0 ou) sz (fun _ => (sd_OL cA h0 a0 n w cO q0 (vp_updL ou 0 ((nI (if k = 0 then n else if k = 1 then sd_sum w n else sd_cnt (fun j => decide (0 < w j)) n)).toInt64))))) (va_A (sd_OL cA h0 a0 n w cO q0 ou) sz)) 1 6 (va_A (sd_OL cA h0 a0 n w cO q0 ou) sz) := by
  refine va_MetW (cc := cL_count) (maxL := 4) (ret := (some .int)) (hh := [(0, 9, 12, 13)]) (by decide) rfl ?_
  intro p e s m args below meth c s₁ B hml hv
  obtain ⟨rfl, hsz, hP, hK, hD0, hTH⟩ := hv
  subst hsz
  have hx := B.exec
  have hb := B.bytes
  have hr := B.returns
  have hts0 := atoms_spec (ws := (sd_wsW yL_count cL_count 4 (some .int) [(0, 9, 12, 13)])) B.pre
  have htb := sd_table B (hts0 _ List.mem_cons_self)
  have hts : ∀ w ∈ sd_WS, w.before _ s = true := fun w h => hts0 w (List.mem_cons_of_mem _ h)
  have hown : s.vm.findClass RL = some m.cls := findClass_of_methodNamed B.named
  have hlocks := B.notSynchronized
  have hl := lv_entry ([.ref h0, .int (nI k), .ref q0]) (n := 4) (Nat.le_of_ble_eq_true rfl)
  rw [lg_entry_eq]
  generalize (lg_sl ([.ref h0, .int (nI k), .ref q0]) ++ List.replicate (4 - (lg_sl ([.ref h0, .int (nI k), .ref q0])).length) Slot.unset).toArray = ls at hl ⊢
  have hl : lv_has ls 4 [(0, .ref h0), (1, .int (nI k)), (2, .ref q0)] := hl
  obtain ⟨A, hAe⟩ : ∃ A, A = va_A (sd_OL cA h0 a0 n w cO q0 ou) s.heap.size := ⟨_, rfl⟩
  have hD : va_D A (sd_OL cA h0 a0 n w cO q0 ou) := by rw [hAe]; exact hD0.self
  have hA : ∀ q : Nat, s.heap.size ≤ q → A q := fun q h => by rw [hAe]; exact Or.inr h
  have hS : va_S A s.heap s.heap [] := va_S.rf
  have hP : va_P (dC, dI) vwCl [(h0, .inr (0, [.ref a0, .int (nI n), .int (nI (sd_sum w n))])), (a0, .inl (cA, 8, .inl (fun i => nI (w i)))), (q0, .inl (cO, 1, .inr (.inl ou)))] s.heap := hP
  have hD : va_D A [(h0, .inr (0, [.ref a0, .int (nI n), .int (nI (sd_sum w n))])), (a0, .inl (cA, 8, .inl (fun i => nI (w i)))), (q0, .inl (cO, 1, .inr (.inl ou)))] := hD
  have hPc := hP.sub (ws' := (sd_O cA h0 a0 n w)) [0, 1] rfl
  have hKc := hK.sub (tys' := [(cA, .int)]) [0] rfl
  have hDc := hD.sub (ws' := (sd_O cA h0 a0 n w)) [0, 1] (by decide) rfl
  refine lv_aload_n hx hb dL_count_0 rfl (lv_at hl 2 rfl) ?_
  refine lv_iconst (v := (nI 0)) hx hb dL_count_1 (by decide +kernel) ?_
  refine lv_aload_n hx hb dL_count_2 rfl (lv_at hl 0 rfl) ?_
  refine lv_iload_n hx hb dL_count_3 rfl (lv_at hl 1 rfl) ?_
  refine sd_calli (va_runV (As := [.int (nI k)]) (rest := [.int (nI 0), .ref q0]) ⟨hx, hb, hml, hown, hts0⟩ (c_count l dC dI cA h0 a0 n w ok k hk) (cwV 1 hts0 (sd_gV k_methodLink_L_35 k_instanceMethod_X0_count k_sel_X0_count k_init_ShareDesk k_code_X0_count) rfl rfl rfl (by decide +kernel) ⟨Nat.le_of_ble_eq_true rfl, Nat.le_of_ble_eq_true rfl⟩) (sd_preV hKc hPc (q0 := 0) (ci := 0) rfl rfl) rfl rfl hl.1 rfl (lv_room (Nat.le_of_ble_eq_true rfl)) dL_count_4 ⟨Nat.zero_le _, Nat.zero_le _⟩) ?_
  refine lv_i2l (v := (nI (if k = 0 then n else if k = 1 then sd_sum w n else sd_cnt (fun j => decide (0 < w j)) n)).toInt64) hx hb dL_count_7 rfl ?_
  refine sd_last (j := 0) hx hb hK hP hD hS 2 1 rfl rfl (by omega) (by decide) dL_count_8 (fun H locs hP hD hS => ?_)
  have hP : va_P (dC, dI) vwCl [(h0, .inr (0, [.ref a0, .int (nI n), .int (nI (sd_sum w n))])), (a0, .inl (cA, 8, .inl (fun i => nI (w i)))), (q0, .inl (cO, 1, .inr (.inl (vp_updL ou 0 ((nI (if k = 0 then n else if k = 1 then sd_sum w n else sd_cnt (fun j => decide (0 < w j)) n)).toInt64)))))] H := hP
  have hD : va_D A [(h0, .inr (0, [.ref a0, .int (nI n), .int (nI (sd_sum w n))])), (a0, .inl (cA, 8, .inl (fun i => nI (w i)))), (q0, .inl (cO, 1, .inr (.inl (vp_updL ou 0 ((nI (if k = 0 then n else if k = 1 then sd_sum w n else sd_cnt (fun j => decide (0 < w j)) n)).toInt64)))))] := hD
  refine lv_goto (tgt := 15) hx hb dL_count_9 (by decide) ?_
  refine lv_iconst (v := (nI 0)) hx hb dL_count_15 (by decide +kernel) ?_
  have hP : va_P (dC, dI) vwCl (sd_OL cA h0 a0 n w cO q0 (vp_updL ou 0 ((nI (if k = 0 then n else if k = 1 then sd_sum w n else sd_cnt (fun j => decide (0 < w j)) n)).toInt64))) H := hP
  have hD : va_D A (sd_OL cA h0 a0 n w cO q0 (vp_updL ou 0 ((nI (if k = 0 then n else if k = 1 then sd_sum w n else sd_cnt (fun j => decide (0 < w j)) n)).toInt64))) := hD
  refine W.widen (k := 1) (n := 6) (by omega) (by omega) ?_
  exact W.iret hx hb hr (fun t ht hW => ⟨⟨_, (), rfl, rfl, by rw [ht]; exact hP, va_K.moved hW.alike hK, by rw [← hAe]; exact hD⟩, by rw [← hAe]; exact hS.F ht⟩) (fun q hq => by rw [← hAe]; exact hS.2.2 q hq) dL_count_16
set_option maxHeartbeats 4000000 in
set_option maxRecDepth 100000 in
theorem w_count1 (l : Launch) (hl9 : l.stackTraces = false) (dC : Nat → ClassId) (dI : Nat → Nat → Nat) (cA : ClassId) (h0 a0 n : Nat) (w : Nat → Nat) (cO : ClassId) (q0 : Nat) (ou : Nat → Int64) (sz : Nat) (x1 : Int32) (hbad : x1.toInt < 0 ∨ 2 < x1.toInt) : Met l yL_count (sd_wsW yL_count cL_count 4 (some .int) [(0, 9, 12, 13)]) (sd_rm 8 1 6) (sd_PwT (dC, dI) vwCl [(cA, .int), (cO, .long)] (sd_OL cA h0 a0 n w cO q0 ou) sz [.ref h0, .int x1, .ref q0]) (va_Qi (fun r (_ : Unit) => r = nI 1) (sd_Bw (dC, dI) vwCl [(cA, .int), (cO, .long)] (sd_OL cA h0 a0 n w cO q0 ou) sz (fun _ => (sd_OL cA h0 a0 n w cO q0 ou))) (va_A (sd_OL cA h0 a0 n w cO q0 ou) sz)) 1 6 (va_A (sd_OL cA h0 a0 n w cO q0 ou) sz) := by
  refine va_MetW (cc := cL_count) (maxL := 4) (ret := (some .int)) (hh := [(0, 9, 12, 13)]) (by decide) rfl ?_
  intro p e s m args below meth c s₁ B hml hv
  obtain ⟨rfl, hsz, hP, hK, hD0, hTH⟩ := hv
  subst hsz
  have hx := B.exec
  have hb := B.bytes
  have hr := B.returns
  have hts0 := atoms_spec (ws := (sd_wsW yL_count cL_count 4 (some .int) [(0, 9, 12, 13)])) B.pre
  have htb := sd_table B (hts0 _ List.mem_cons_self)
  have hts : ∀ w ∈ sd_WS, w.before _ s = true := fun w h => hts0 w (List.mem_cons_of_mem _ h)
  have hown : s.vm.findClass RL = some m.cls := findClass_of_methodNamed B.named
  have hlocks := B.notSynchronized
  have hl := lv_entry ([.ref h0, .int x1, .ref q0]) (n := 4) (Nat.le_of_ble_eq_true rfl)
  rw [lg_entry_eq]
  generalize (lg_sl ([.ref h0, .int x1, .ref q0]) ++ List.replicate (4 - (lg_sl ([.ref h0, .int x1, .ref q0])).length) Slot.unset).toArray = ls at hl ⊢
  have hl : lv_has ls 4 [(0, .ref h0), (1, .int x1), (2, .ref q0)] := hl
  obtain ⟨A, hAe⟩ : ∃ A, A = va_A (sd_OL cA h0 a0 n w cO q0 ou) s.heap.size := ⟨_, rfl⟩
  have hD : va_D A (sd_OL cA h0 a0 n w cO q0 ou) := by rw [hAe]; exact hD0.self
  have hA : ∀ q : Nat, s.heap.size ≤ q → A q := fun q h => by rw [hAe]; exact Or.inr h
  have hS : va_S A s.heap s.heap [] := va_S.rf
  have hP : va_P (dC, dI) vwCl [(h0, .inr (0, [.ref a0, .int (nI n), .int (nI (sd_sum w n))])), (a0, .inl (cA, 8, .inl (fun i => nI (w i)))), (q0, .inl (cO, 1, .inr (.inl ou)))] s.heap := hP
  have hD : va_D A [(h0, .inr (0, [.ref a0, .int (nI n), .int (nI (sd_sum w n))])), (a0, .inl (cA, 8, .inl (fun i => nI (w i)))), (q0, .inl (cO, 1, .inr (.inl ou)))] := hD
  have hPc := hP.sub (ws' := (sd_O cA h0 a0 n w)) [0, 1] rfl
  have hKc := hK.sub (tys' := [(cA, .int)]) [0] rfl
  have hDc := hD.sub (ws' := (sd_O cA h0 a0 n w)) [0, 1] (by decide) rfl
  refine lv_aload_n hx hb dL_count_0 rfl (lv_at hl 2 rfl) ?_
  refine lv_iconst (v := (nI 0)) hx hb dL_count_1 (by decide +kernel) ?_
  refine lv_aload_n hx hb dL_count_2 rfl (lv_at hl 0 rfl) ?_
  refine lv_iload_n hx hb dL_count_3 rfl (lv_at hl 1 rfl) ?_
  refine sd_thrV (As := [.int x1]) (rest := [.int (nI 0), .ref q0]) ⟨hx, hb, hml, hown, hts0⟩ (t_count l hl9 dC dI cA h0 a0 n w x1 hbad) (cwV 1 hts0 (sd_gV k_methodLink_L_35 k_instanceMethod_X0_count k_sel_X0_count k_init_ShareDesk k_code_X0_count) rfl rfl rfl (by decide +kernel) ⟨Nat.le_of_ble_eq_true rfl, Nat.le_of_ble_eq_true rfl⟩) (sd_preVt hKc hPc hTH (q0 := 0) (ci := 0) rfl rfl) rfl hl.1 rfl (lv_room (Nat.le_of_ble_eq_true rfl)) dL_count_4 ⟨Nat.le_refl _, Nat.le_refl _⟩ (sd_catch1 (own := RL) (cls := sd_IA) (x := (⟨0, 9, 12, 13⟩ : ExceptionTableEntry)) (t := []) (by rw [htb]; rfl) hown (by decide) (by decide) (hts (.classLink RL 13 sd_IA) k_classLink_L_13) (va_any rfl hTH.2.2.2.1) (fun H q9 hz hk => ?_))
  have hP := sd_keptP hP hk
  have hS : va_S A s.heap H [] := ⟨hz, fun q hq _ => hk q hq, fun _ h => nomatch h⟩
  refine W.eq (g2 := F0 m 12 ls [.ref q9]) rfl ?_
  refine lv_astore_n hx hb dL_count_12 rfl hl (by decide) rfl (fun ls hl => ?_)
  have hl : lv_has ls 4 [(3, .ref q9), (0, .ref h0), (1, .int x1), (2, .ref q0)] := hl
  refine lv_iconst (v := (nI 1)) hx hb dL_count_13 (by decide +kernel) ?_
  have hP : va_P (dC, dI) vwCl (sd_OL cA h0 a0 n w cO q0 ou) H := hP
  have hD : va_D A (sd_OL cA h0 a0 n w cO q0 ou) := hD
  refine W.widen (k := 1) (n := 6) (by omega) (by omega) ?_
  exact W.iret hx hb hr (fun t ht hW => ⟨⟨_, (), rfl, rfl, by rw [ht]; exact hP, va_K.moved hW.alike hK, by rw [← hAe]; exact hD⟩, by rw [← hAe]; exact hS.F ht⟩) (fun q hq => by rw [← hAe]; exact hS.2.2 q hq) dL_count_14
set_option maxHeartbeats 4000000 in
set_option maxRecDepth 100000 in
theorem w_weight (l : Launch) (hl9 : l.stackTraces = false) (dC : Nat → ClassId) (dI : Nat → Nat → Nat) (cA : ClassId) (h0 a0 n : Nat) (w : Nat → Nat) (cO : ClassId) (q0 : Nat) (ou : Nat → Int64) (sz : Nat) (ok : sd_ok n w) (q v : Nat) (hq : q < n) (hv : v ≤ 100000) : Met l yL_weight (sd_wsW yL_weight cL_weight 5 (some .int) [(0, 10, 13, 13)]) (sd_rm 8 1 6) (sd_PwT (dC, dI) vwCl [(cA, .int), (cO, .long)] (sd_OL cA h0 a0 n w cO q0 ou) sz [.ref h0, .int (nI q), .int (nI v), .ref q0]) (va_Qi (fun r (_ : Unit) => r = nI 0) (sd_Bw (dC, dI) vwCl [(cA, .int), (cO, .long)] (sd_OL cA h0 a0 n w cO q0 ou) sz (fun _ => (sd_OL cA h0 a0 n (sd_up w q v) cO q0 (vp_updL ou 0 ((nI (w q)).toInt64))))) (va_A (sd_OL cA h0 a0 n w cO q0 ou) sz)) 1 6 (va_A (sd_OL cA h0 a0 n w cO q0 ou) sz) := by
  refine va_MetW (cc := cL_weight) (maxL := 5) (ret := (some .int)) (hh := [(0, 10, 13, 13)]) (by decide) rfl ?_
  intro p e s m args below meth c s₁ B hml hv
  obtain ⟨rfl, hsz, hP, hK, hD0, hTH⟩ := hv
  subst hsz
  have hx := B.exec
  have hb := B.bytes
  have hr := B.returns
  have hts0 := atoms_spec (ws := (sd_wsW yL_weight cL_weight 5 (some .int) [(0, 10, 13, 13)])) B.pre
  have htb := sd_table B (hts0 _ List.mem_cons_self)
  have hts : ∀ w ∈ sd_WS, w.before _ s = true := fun w h => hts0 w (List.mem_cons_of_mem _ h)
  have hown : s.vm.findClass RL = some m.cls := findClass_of_methodNamed B.named
  have hlocks := B.notSynchronized
  have hl := lv_entry ([.ref h0, .int (nI q), .int (nI v), .ref q0]) (n := 5) (Nat.le_of_ble_eq_true rfl)
  rw [lg_entry_eq]
  generalize (lg_sl ([.ref h0, .int (nI q), .int (nI v), .ref q0]) ++ List.replicate (5 - (lg_sl ([.ref h0, .int (nI q), .int (nI v), .ref q0])).length) Slot.unset).toArray = ls at hl ⊢
  have hl : lv_has ls 5 [(0, .ref h0), (1, .int (nI q)), (2, .int (nI v)), (3, .ref q0)] := hl
  obtain ⟨A, hAe⟩ : ∃ A, A = va_A (sd_OL cA h0 a0 n w cO q0 ou) s.heap.size := ⟨_, rfl⟩
  have hD : va_D A (sd_OL cA h0 a0 n w cO q0 ou) := by rw [hAe]; exact hD0.self
  have hA : ∀ q : Nat, s.heap.size ≤ q → A q := fun q h => by rw [hAe]; exact Or.inr h
  have hS : va_S A s.heap s.heap [] := va_S.rf
  have hP : va_P (dC, dI) vwCl [(h0, .inr (0, [.ref a0, .int (nI n), .int (nI (sd_sum w n))])), (a0, .inl (cA, 8, .inl (fun i => nI (w i)))), (q0, .inl (cO, 1, .inr (.inl ou)))] s.heap := hP
  have hD : va_D A [(h0, .inr (0, [.ref a0, .int (nI n), .int (nI (sd_sum w n))])), (a0, .inl (cA, 8, .inl (fun i => nI (w i)))), (q0, .inl (cO, 1, .inr (.inl ou)))] := hD
  have hPc := hP.sub (ws' := (sd_O cA h0 a0 n w)) [0, 1] rfl
  have hKc := hK.sub (tys' := [(cA, .int)]) [0] rfl
  have hDc := hD.sub (ws' := (sd_O cA h0 a0 n w)) [0, 1] (by decide) rfl
  refine lv_aload_n hx hb dL_weight_0 rfl (lv_at hl 3 rfl) ?_
  refine lv_iconst (v := (nI 0)) hx hb dL_weight_1 (by decide +kernel) ?_
  refine lv_aload_n hx hb dL_weight_2 rfl (lv_at hl 0 rfl) ?_
  refine lv_iload_n hx hb dL_weight_3 rfl (lv_at hl 1 rfl) ?_
  refine lv_iload_n hx hb dL_weight_4 rfl (lv_at hl 2 rfl) ?_
  refine sd_Ji (wc := (sd_O cA h0 a0 n w)) (wr := [(q0, .inl (cO, 1, .inr (.inl ou)))]) (va_runV (As := [.int (nI q), .int (nI v)]) (rest := [.int (nI 0), .ref q0]) ⟨hx, hb, hml, hown, hts0⟩ (c_weight l dC dI cA h0 a0 n w s.heap.size q v ok hq hv) (cwV 2 hts0 (sd_gV k_methodLink_L_15 k_instanceMethod_X0_weight k_sel_X0_weight k_init_ShareDesk k_code_X0_weight) rfl rfl rfl (by decide +kernel) ⟨Nat.le_of_ble_eq_true rfl, Nat.le_of_ble_eq_true rfl⟩) (sd_preVw hKc hPc hDc (q0 := 0) (ci := 0) rfl rfl) rfl rfl hl.1 rfl (lv_room (Nat.le_of_ble_eq_true rfl)) dL_weight_5 ⟨Nat.zero_le _, Nat.zero_le _⟩) hP hD hS hA [0, 1] [2] rfl rfl (by decide) (by decide) (fun r_ u_ H locs hpo hP hD hS => ?_)
  subst hpo
  have hP := hP.sub (ws' := (sd_OL cA h0 a0 n (sd_up w q v) cO q0 ou)) [1, 2, 0] rfl
  have hD := hD.sub (ws' := (sd_OL cA h0 a0 n (sd_up w q v) cO q0 ou)) [1, 2, 0] (by decide) rfl
  have hP : va_P (dC, dI) vwCl [(h0, .inr (0, [.ref a0, .int (nI n), .int (nI (sd_sum (sd_up w q v) n))])), (a0, .inl (cA, 8, .inl (fun i => nI ((sd_up w q v) i)))), (q0, .inl (cO, 1, .inr (.inl ou)))] H := hP
  have hD : va_D A [(h0, .inr (0, [.ref a0, .int (nI n), .int (nI (sd_sum (sd_up w q v) n))])), (a0, .inl (cA, 8, .inl (fun i => nI ((sd_up w q v) i)))), (q0, .inl (cO, 1, .inr (.inl ou)))] := hD
  refine lv_i2l (v := (nI (w q)).toInt64) hx hb dL_weight_8 rfl ?_
  refine sd_last (j := 0) hx hb hK hP hD hS 2 1 rfl rfl (by omega) (by decide) dL_weight_9 (fun H locs hP hD hS => ?_)
  have hP : va_P (dC, dI) vwCl [(h0, .inr (0, [.ref a0, .int (nI n), .int (nI (sd_sum (sd_up w q v) n))])), (a0, .inl (cA, 8, .inl (fun i => nI ((sd_up w q v) i)))), (q0, .inl (cO, 1, .inr (.inl (vp_updL ou 0 ((nI (w q)).toInt64)))))] H := hP
  have hD : va_D A [(h0, .inr (0, [.ref a0, .int (nI n), .int (nI (sd_sum (sd_up w q v) n))])), (a0, .inl (cA, 8, .inl (fun i => nI ((sd_up w q v) i)))), (q0, .inl (cO, 1, .inr (.inl (vp_updL ou 0 ((nI (w q)).toInt64)))))] := hD
  refine lv_goto (tgt := 17) hx hb dL_weight_10 (by decide) ?_
  refine lv_iconst (v := (nI 0)) hx hb dL_weight_17 (by decide +kernel) ?_
  have hP : va_P (dC, dI) vwCl (sd_OL cA h0 a0 n (sd_up w q v) cO q0 (vp_updL ou 0 ((nI (w q)).toInt64))) H := hP
  have hD : va_D A (sd_OL cA h0 a0 n (sd_up w q v) cO q0 (vp_updL ou 0 ((nI (w q)).toInt64))) := hD
  refine W.widen (k := 1) (n := 6) (by omega) (by omega) ?_
  exact W.iret hx hb hr (fun t ht hW => ⟨⟨_, (), rfl, rfl, by rw [ht]; exact hP, va_K.moved hW.alike hK, by rw [← hAe]; exact hD⟩, by rw [← hAe]; exact hS.F ht⟩) (fun q hq => by rw [← hAe]; exact hS.2.2 q hq) dL_weight_18
set_option maxHeartbeats 4000000 in
set_option maxRecDepth 100000 in
theorem w_weight1 (l : Launch) (hl9 : l.stackTraces = false) (dC : Nat → ClassId) (dI : Nat → Nat → Nat) (cA : ClassId) (h0 a0 n : Nat) (w : Nat → Nat) (cO : ClassId) (q0 : Nat) (ou : Nat → Int64) (sz : Nat) (x1 x2 : Int32) (hbad : x1 < 0 ∨ nI n ≤ x1) : Met l yL_weight (sd_wsW yL_weight cL_weight 5 (some .int) [(0, 10, 13, 13)]) (sd_rm 8 1 6) (sd_PwT (dC, dI) vwCl [(cA, .int), (cO, .long)] (sd_OL cA h0 a0 n w cO q0 ou) sz [.ref h0, .int x1, .int x2, .ref q0]) (va_Qi (fun r (_ : Unit) => r = nI 1) (sd_Bw (dC, dI) vwCl [(cA, .int), (cO, .long)] (sd_OL cA h0 a0 n w cO q0 ou) sz (fun _ => (sd_OL cA h0 a0 n w cO q0 ou))) (va_A (sd_OL cA h0 a0 n w cO q0 ou) sz)) 1 6 (va_A (sd_OL cA h0 a0 n w cO q0 ou) sz) := by
  refine va_MetW (cc := cL_weight) (maxL := 5) (ret := (some .int)) (hh := [(0, 10, 13, 13)]) (by decide) rfl ?_
  intro p e s m args below meth c s₁ B hml hv
  obtain ⟨rfl, hsz, hP, hK, hD0, hTH⟩ := hv
  subst hsz
  have hx := B.exec
  have hb := B.bytes
  have hr := B.returns
  have hts0 := atoms_spec (ws := (sd_wsW yL_weight cL_weight 5 (some .int) [(0, 10, 13, 13)])) B.pre
  have htb := sd_table B (hts0 _ List.mem_cons_self)
  have hts : ∀ w ∈ sd_WS, w.before _ s = true := fun w h => hts0 w (List.mem_cons_of_mem _ h)
  have hown : s.vm.findClass RL = some m.cls := findClass_of_methodNamed B.named
  have hlocks := B.notSynchronized
  have hl := lv_entry ([.ref h0, .int x1, .int x2, .ref q0]) (n := 5) (Nat.le_of_ble_eq_true rfl)
  rw [lg_entry_eq]
  generalize (lg_sl ([.ref h0, .int x1, .int x2, .ref q0]) ++ List.replicate (5 - (lg_sl ([.ref h0, .int x1, .int x2, .ref q0])).length) Slot.unset).toArray = ls at hl ⊢
  have hl : lv_has ls 5 [(0, .ref h0), (1, .int x1), (2, .int x2), (3, .ref q0)] := hl
  obtain ⟨A, hAe⟩ : ∃ A, A = va_A (sd_OL cA h0 a0 n w cO q0 ou) s.heap.size := ⟨_, rfl⟩
  have hD : va_D A (sd_OL cA h0 a0 n w cO q0 ou) := by rw [hAe]; exact hD0.self
  have hA : ∀ q : Nat, s.heap.size ≤ q → A q := fun q h => by rw [hAe]; exact Or.inr h
  have hS : va_S A s.heap s.heap [] := va_S.rf
  have hP : va_P (dC, dI) vwCl [(h0, .inr (0, [.ref a0, .int (nI n), .int (nI (sd_sum w n))])), (a0, .inl (cA, 8, .inl (fun i => nI (w i)))), (q0, .inl (cO, 1, .inr (.inl ou)))] s.heap := hP
  have hD : va_D A [(h0, .inr (0, [.ref a0, .int (nI n), .int (nI (sd_sum w n))])), (a0, .inl (cA, 8, .inl (fun i => nI (w i)))), (q0, .inl (cO, 1, .inr (.inl ou)))] := hD
  have hPc := hP.sub (ws' := (sd_O cA h0 a0 n w)) [0, 1] rfl
  have hKc := hK.sub (tys' := [(cA, .int)]) [0] rfl
  have hDc := hD.sub (ws' := (sd_O cA h0 a0 n w)) [0, 1] (by decide) rfl
  refine lv_aload_n hx hb dL_weight_0 rfl (lv_at hl 3 rfl) ?_
  refine lv_iconst (v := (nI 0)) hx hb dL_weight_1 (by decide +kernel) ?_
  refine lv_aload_n hx hb dL_weight_2 rfl (lv_at hl 0 rfl) ?_
  refine lv_iload_n hx hb dL_weight_3 rfl (lv_at hl 1 rfl) ?_
  refine lv_iload_n hx hb dL_weight_4 rfl (lv_at hl 2 rfl) ?_
  refine sd_thrV (As := [.int x1, .int x2]) (rest := [.int (nI 0), .ref q0]) ⟨hx, hb, hml, hown, hts0⟩ (t_weight1 l hl9 dC dI cA h0 a0 n w x1 x2 hbad) (cwV 2 hts0 (sd_gV k_methodLink_L_15 k_instanceMethod_X0_weight k_sel_X0_weight k_init_ShareDesk k_code_X0_weight) rfl rfl rfl (by decide +kernel) ⟨Nat.le_of_ble_eq_true rfl, Nat.le_of_ble_eq_true rfl⟩) (sd_preVt hKc hPc hTH (q0 := 0) (ci := 0) rfl rfl) rfl hl.1 rfl (lv_room (Nat.le_of_ble_eq_true rfl)) dL_weight_5 ⟨Nat.le_refl _, Nat.le_refl _⟩ (sd_catch1 (own := RL) (cls := sd_IA) (x := (⟨0, 10, 13, 13⟩ : ExceptionTableEntry)) (t := []) (by rw [htb]; rfl) hown (by decide) (by decide) (hts (.classLink RL 13 sd_IA) k_classLink_L_13) (va_any rfl hTH.2.2.2.1) (fun H q9 hz hk => ?_))
  have hP := sd_keptP hP hk
  have hS : va_S A s.heap H [] := ⟨hz, fun q hq _ => hk q hq, fun _ h => nomatch h⟩
  refine W.eq (g2 := F0 m 13 ls [.ref q9]) rfl ?_
  refine lv_astore hx hb dL_weight_13 hl (by decide) rfl (fun ls hl => ?_)
  have hl : lv_has ls 5 [(4, .ref q9), (0, .ref h0), (1, .int x1), (2, .int x2), (3, .ref q0)] := hl
  refine lv_iconst (v := (nI 1)) hx hb dL_weight_15 (by decide +kernel) ?_
  have hP : va_P (dC, dI) vwCl (sd_OL cA h0 a0 n w cO q0 ou) H := hP
  have hD : va_D A (sd_OL cA h0 a0 n w cO q0 ou) := hD
  refine W.widen (k := 1) (n := 6) (by omega) (by omega) ?_
  exact W.iret hx hb hr (fun t ht hW => ⟨⟨_, (), rfl, rfl, by rw [ht]; exact hP, va_K.moved hW.alike hK, by rw [← hAe]; exact hD⟩, by rw [← hAe]; exact hS.F ht⟩) (fun q hq => by rw [← hAe]; exact hS.2.2 q hq) dL_weight_16
set_option maxHeartbeats 4000000 in
set_option maxRecDepth 100000 in
theorem w_weight2 (l : Launch) (hl9 : l.stackTraces = false) (dC : Nat → ClassId) (dI : Nat → Nat → Nat) (cA : ClassId) (h0 a0 n : Nat) (w : Nat → Nat) (cO : ClassId) (q0 : Nat) (ou : Nat → Int64) (sz : Nat) (ok : sd_ok n w) (q : Nat) (hq : q < n) (x2 : Int32) (hbad : x2 < 0 ∨ nI 100000 < x2) : Met l yL_weight (sd_wsW yL_weight cL_weight 5 (some .int) [(0, 10, 13, 13)]) (sd_rm 8 1 6) (sd_PwT (dC, dI) vwCl [(cA, .int), (cO, .long)] (sd_OL cA h0 a0 n w cO q0 ou) sz [.ref h0, .int (nI q), .int x2, .ref q0]) (va_Qi (fun r (_ : Unit) => r = nI 1) (sd_Bw (dC, dI) vwCl [(cA, .int), (cO, .long)] (sd_OL cA h0 a0 n w cO q0 ou) sz (fun _ => (sd_OL cA h0 a0 n w cO q0 ou))) (va_A (sd_OL cA h0 a0 n w cO q0 ou) sz)) 1 6 (va_A (sd_OL cA h0 a0 n w cO q0 ou) sz) := by
  refine va_MetW (cc := cL_weight) (maxL := 5) (ret := (some .int)) (hh := [(0, 10, 13, 13)]) (by decide) rfl ?_
  intro p e s m args below meth c s₁ B hml hv
  obtain ⟨rfl, hsz, hP, hK, hD0, hTH⟩ := hv
  subst hsz
  have hx := B.exec
  have hb := B.bytes
  have hr := B.returns
  have hts0 := atoms_spec (ws := (sd_wsW yL_weight cL_weight 5 (some .int) [(0, 10, 13, 13)])) B.pre
  have htb := sd_table B (hts0 _ List.mem_cons_self)
  have hts : ∀ w ∈ sd_WS, w.before _ s = true := fun w h => hts0 w (List.mem_cons_of_mem _ h)
  have hown : s.vm.findClass RL = some m.cls := findClass_of_methodNamed B.named
  have hlocks := B.notSynchronized
  have hl := lv_entry ([.ref h0, .int (nI q), .int x2, .ref q0]) (n := 5) (Nat.le_of_ble_eq_true rfl)
  rw [lg_entry_eq]
  generalize (lg_sl ([.ref h0, .int (nI q), .int x2, .ref q0]) ++ List.replicate (5 - (lg_sl ([.ref h0, .int (nI q), .int x2, .ref q0])).length) Slot.unset).toArray = ls at hl ⊢
  have hl : lv_has ls 5 [(0, .ref h0), (1, .int (nI q)), (2, .int x2), (3, .ref q0)] := hl
  obtain ⟨A, hAe⟩ : ∃ A, A = va_A (sd_OL cA h0 a0 n w cO q0 ou) s.heap.size := ⟨_, rfl⟩
  have hD : va_D A (sd_OL cA h0 a0 n w cO q0 ou) := by rw [hAe]; exact hD0.self
  have hA : ∀ q : Nat, s.heap.size ≤ q → A q := fun q h => by rw [hAe]; exact Or.inr h
  have hS : va_S A s.heap s.heap [] := va_S.rf
  have hP : va_P (dC, dI) vwCl [(h0, .inr (0, [.ref a0, .int (nI n), .int (nI (sd_sum w n))])), (a0, .inl (cA, 8, .inl (fun i => nI (w i)))), (q0, .inl (cO, 1, .inr (.inl ou)))] s.heap := hP
  have hD : va_D A [(h0, .inr (0, [.ref a0, .int (nI n), .int (nI (sd_sum w n))])), (a0, .inl (cA, 8, .inl (fun i => nI (w i)))), (q0, .inl (cO, 1, .inr (.inl ou)))] := hD
  have hPc := hP.sub (ws' := (sd_O cA h0 a0 n w)) [0, 1] rfl
  have hKc := hK.sub (tys' := [(cA, .int)]) [0] rfl
  have hDc := hD.sub (ws' := (sd_O cA h0 a0 n w)) [0, 1] (by decide) rfl
  refine lv_aload_n hx hb dL_weight_0 rfl (lv_at hl 3 rfl) ?_
  refine lv_iconst (v := (nI 0)) hx hb dL_weight_1 (by decide +kernel) ?_
  refine lv_aload_n hx hb dL_weight_2 rfl (lv_at hl 0 rfl) ?_
  refine lv_iload_n hx hb dL_weight_3 rfl (lv_at hl 1 rfl) ?_
  refine lv_iload_n hx hb dL_weight_4 rfl (lv_at hl 2 rfl) ?_
  refine sd_thrV (As := [.int (nI q), .int x2]) (rest := [.int (nI 0), .ref q0]) ⟨hx, hb, hml, hown, hts0⟩ (t_weight2 l hl9 dC dI cA h0 a0 n w ok q hq x2 hbad) (cwV 2 hts0 (sd_gV k_methodLink_L_15 k_instanceMethod_X0_weight k_sel_X0_weight k_init_ShareDesk k_code_X0_weight) rfl rfl rfl (by decide +kernel) ⟨Nat.le_of_ble_eq_true rfl, Nat.le_of_ble_eq_true rfl⟩) (sd_preVt hKc hPc hTH (q0 := 0) (ci := 0) rfl rfl) rfl hl.1 rfl (lv_room (Nat.le_of_ble_eq_true rfl)) dL_weight_5 ⟨Nat.le_refl _, Nat.le_refl _⟩ (sd_catch1 (own := RL) (cls := sd_IA) (x := (⟨0, 10, 13, 13⟩ : ExceptionTableEntry)) (t := []) (by rw [htb]; rfl) hown (by decide) (by decide) (hts (.classLink RL 13 sd_IA) k_classLink_L_13) (va_any rfl hTH.2.2.2.1) (fun H q9 hz hk => ?_))
  have hP := sd_keptP hP hk
  have hS : va_S A s.heap H [] := ⟨hz, fun q hq _ => hk q hq, fun _ h => nomatch h⟩
  refine W.eq (g2 := F0 m 13 ls [.ref q9]) rfl ?_
  refine lv_astore hx hb dL_weight_13 hl (by decide) rfl (fun ls hl => ?_)
  have hl : lv_has ls 5 [(4, .ref q9), (0, .ref h0), (1, .int (nI q)), (2, .int x2), (3, .ref q0)] := hl
  refine lv_iconst (v := (nI 1)) hx hb dL_weight_15 (by decide +kernel) ?_
  have hP : va_P (dC, dI) vwCl (sd_OL cA h0 a0 n w cO q0 ou) H := hP
  have hD : va_D A (sd_OL cA h0 a0 n w cO q0 ou) := hD
  refine W.widen (k := 1) (n := 6) (by omega) (by omega) ?_
  exact W.iret hx hb hr (fun t ht hW => ⟨⟨_, (), rfl, rfl, by rw [ht]; exact hP, va_K.moved hW.alike hK, by rw [← hAe]; exact hD⟩, by rw [← hAe]; exact hS.F ht⟩) (fun q hq => by rw [← hAe]; exact hS.2.2 q hq) dL_weight_16
set_option maxHeartbeats 4000000 in
set_option maxRecDepth 100000 in
theorem w_begin (l : Launch) (hl9 : l.stackTraces = false) (dC : Nat → ClassId) (dI : Nat → Nat → Nat) (cA : ClassId) (h0 a0 n : Nat) (w : Nat → Nat) (cO : ClassId) (q0 : Nat) (ou : Nat → Int64) (sz : Nat) (ok : sd_ok n w) (j : Nat) (hj1 : 1 ≤ j) (hj8 : j ≤ 8) : Met l yL_begin (sd_wsW yL_begin cL_begin 3 (some .int) [(0, 5, 8, 13)]) (sd_rm 8 1 6) (sd_PwT (dC, dI) vwCl [(cA, .int)] (sd_O cA h0 a0 n w) sz [.ref h0, .int (nI j)]) (va_Qi (fun r (_ : Unit) => r = nI 0) (sd_Bw (dC, dI) vwCl [(cA, .int)] (sd_O cA h0 a0 n w) sz (fun _ => sd_O cA h0 a0 j (fun _ => 0))) (va_A (sd_O cA h0 a0 n w) sz)) 1 6 (va_A (sd_O cA h0 a0 n w) sz) := by
  refine va_MetW (cc := cL_begin) (maxL := 3) (ret := (some .int)) (hh := [(0, 5, 8, 13)]) (by decide) rfl ?_
  intro p e s m args below meth c s₁ B hml hv
  obtain ⟨rfl, hsz, hP, hK, hD0, hTH⟩ := hv
  subst hsz
  have hx := B.exec
  have hb := B.bytes
  have hr := B.returns
  have hts0 := atoms_spec (ws := (sd_wsW yL_begin cL_begin 3 (some .int) [(0, 5, 8, 13)])) B.pre
  have htb := sd_table B (hts0 _ List.mem_cons_self)
  have hts : ∀ w ∈ sd_WS, w.before _ s = true := fun w h => hts0 w (List.mem_cons_of_mem _ h)
  have hown : s.vm.findClass RL = some m.cls := findClass_of_methodNamed B.named
  have hlocks := B.notSynchronized
  have hl := lv_entry ([.ref h0, .int (nI j)]) (n := 3) (Nat.le_of_ble_eq_true rfl)
  rw [lg_entry_eq]
  generalize (lg_sl ([.ref h0, .int (nI j)]) ++ List.replicate (3 - (lg_sl ([.ref h0, .int (nI j)])).length) Slot.unset).toArray = ls at hl ⊢
  have hl : lv_has ls 3 [(0, .ref h0), (1, .int (nI j))] := hl
  obtain ⟨A, hAe⟩ : ∃ A, A = va_A (sd_O cA h0 a0 n w) s.heap.size := ⟨_, rfl⟩
  have hD : va_D A (sd_O cA h0 a0 n w) := by rw [hAe]; exact hD0.self
  have hA : ∀ q : Nat, s.heap.size ≤ q → A q := fun q h => by rw [hAe]; exact Or.inr h
  have hS : va_S A s.heap s.heap [] := va_S.rf
  have hP : va_P (dC, dI) vwCl [(h0, .inr (0, [.ref a0, .int (nI n), .int (nI (sd_sum w n))])), (a0, .inl (cA, 8, .inl (fun i => nI (w i))))] s.heap := hP
  have hD : va_D A [(h0, .inr (0, [.ref a0, .int (nI n), .int (nI (sd_sum w n))])), (a0, .inl (cA, 8, .inl (fun i => nI (w i))))] := hD
  have hPc : va_P (dC, dI) vwCl (sd_O cA h0 a0 n w) s.heap := hP
  have hKc := hK
  have hDc : va_D A (sd_O cA h0 a0 n w) := hD
  refine lv_aload_n hx hb dL_begin_0 rfl (lv_at hl 0 rfl) ?_
  refine lv_iload_n hx hb dL_begin_1 rfl (lv_at hl 1 rfl) ?_
  refine sd_wv (va_runV (As := [.int (nI j)]) (rest := []) ⟨hx, hb, hml, hown, hts0⟩ (c_begin l dC dI cA h0 a0 n w s.heap.size j ok hj1 hj8) (cwV 1 hts0 (sd_gV k_methodLink_L_7 k_instanceMethod_X0_begin k_sel_X0_begin k_init_ShareDesk k_code_X0_begin) rfl rfl rfl (by decide +kernel) ⟨Nat.le_of_ble_eq_true rfl, Nat.le_of_ble_eq_true rfl⟩) (sd_preVw hKc hPc hDc (q0 := 0) (ci := 0) rfl rfl) rfl rfl hl.1 rfl (lv_room (Nat.le_of_ble_eq_true rfl)) dL_begin_2 ⟨Nat.zero_le _, Nat.zero_le _⟩) hDc hS hA (fun u_ H locs hpo hP hD hS => ?_)
  refine lv_goto (tgt := 11) hx hb dL_begin_5 (by decide) ?_
  refine lv_iconst (v := (nI 0)) hx hb dL_begin_11 (by decide +kernel) ?_
  refine W.widen (k := 1) (n := 6) (by omega) (by omega) ?_
  exact W.iret hx hb hr (fun t ht hW => ⟨⟨_, (), rfl, rfl, by rw [ht]; exact hP, va_K.moved hW.alike hK, by rw [← hAe]; exact hD⟩, by rw [← hAe]; exact hS.F ht⟩) (fun q hq => by rw [← hAe]; exact hS.2.2 q hq) dL_begin_12
set_option maxHeartbeats 4000000 in
set_option maxRecDepth 100000 in
theorem w_begin1 (l : Launch) (hl9 : l.stackTraces = false) (dC : Nat → ClassId) (dI : Nat → Nat → Nat) (cA : ClassId) (h0 a0 n : Nat) (w : Nat → Nat) (cO : ClassId) (q0 : Nat) (ou : Nat → Int64) (sz : Nat) (x1 : Int32) (hbad : x1 < nI 1 ∨ nI 8 < x1) : Met l yL_begin (sd_wsW yL_begin cL_begin 3 (some .int) [(0, 5, 8, 13)]) (sd_rm 8 1 6) (sd_PwT (dC, dI) vwCl [(cA, .int)] (sd_O cA h0 a0 n w) sz [.ref h0, .int x1]) (va_Qi (fun r (_ : Unit) => r = nI 1) (sd_Bw (dC, dI) vwCl [(cA, .int)] (sd_O cA h0 a0 n w) sz (fun _ => (sd_O cA h0 a0 n w))) (va_A (sd_O cA h0 a0 n w) sz)) 1 6 (va_A (sd_O cA h0 a0 n w) sz) := by
  refine va_MetW (cc := cL_begin) (maxL := 3) (ret := (some .int)) (hh := [(0, 5, 8, 13)]) (by decide) rfl ?_
  intro p e s m args below meth c s₁ B hml hv
  obtain ⟨rfl, hsz, hP, hK, hD0, hTH⟩ := hv
  subst hsz
  have hx := B.exec
  have hb := B.bytes
  have hr := B.returns
  have hts0 := atoms_spec (ws := (sd_wsW yL_begin cL_begin 3 (some .int) [(0, 5, 8, 13)])) B.pre
  have htb := sd_table B (hts0 _ List.mem_cons_self)
  have hts : ∀ w ∈ sd_WS, w.before _ s = true := fun w h => hts0 w (List.mem_cons_of_mem _ h)
  have hown : s.vm.findClass RL = some m.cls := findClass_of_methodNamed B.named
  have hlocks := B.notSynchronized
  have hl := lv_entry ([.ref h0, .int x1]) (n := 3) (Nat.le_of_ble_eq_true rfl)
  rw [lg_entry_eq]
  generalize (lg_sl ([.ref h0, .int x1]) ++ List.replicate (3 - (lg_sl ([.ref h0, .int x1])).length) Slot.unset).toArray = ls at hl ⊢
  have hl : lv_has ls 3 [(0, .ref h0), (1, .int x1)] := hl
  obtain ⟨A, hAe⟩ : ∃ A, A = va_A (sd_O cA h0 a0 n w) s.heap.size := ⟨_, rfl⟩
  have hD : va_D A (sd_O cA h0 a0 n w) := by rw [hAe]; exact hD0.self
  have hA : ∀ q : Nat, s.heap.size ≤ q → A q := fun q h => by rw [hAe]; exact Or.inr h
  have hS : va_S A s.heap s.heap [] := va_S.rf
  have hP : va_P (dC, dI) vwCl [(h0, .inr (0, [.ref a0, .int (nI n), .int (nI (sd_sum w n))])), (a0, .inl (cA, 8, .inl (fun i => nI (w i))))] s.heap := hP
  have hD : va_D A [(h0, .inr (0, [.ref a0, .int (nI n), .int (nI (sd_sum w n))])), (a0, .inl (cA, 8, .inl (fun i => nI (w i))))] := hD
  have hPc : va_P (dC, dI) vwCl (sd_O cA h0 a0 n w) s.heap := hP
  have hKc := hK
  have hDc : va_D A (sd_O cA h0 a0 n w) := hD
  refine lv_aload_n hx hb dL_begin_0 rfl (lv_at hl 0 rfl) ?_
  refine lv_iload_n hx hb dL_begin_1 rfl (lv_at hl 1 rfl) ?_
  refine sd_thrV (As := [.int x1]) (rest := []) ⟨hx, hb, hml, hown, hts0⟩ (t_begin l hl9 dC dI cA h0 a0 n w x1 hbad) (cwV 1 hts0 (sd_gV k_methodLink_L_7 k_instanceMethod_X0_begin k_sel_X0_begin k_init_ShareDesk k_code_X0_begin) rfl rfl rfl (by decide +kernel) ⟨Nat.le_of_ble_eq_true rfl, Nat.le_of_ble_eq_true rfl⟩) (sd_preVt hKc hPc hTH (q0 := 0) (ci := 0) rfl rfl) rfl hl.1 rfl (lv_room (Nat.le_of_ble_eq_true rfl)) dL_begin_2 ⟨Nat.le_refl _, Nat.le_refl _⟩ (sd_catch1 (own := RL) (cls := sd_IA) (x := (⟨0, 5, 8, 13⟩ : ExceptionTableEntry)) (t := []) (by rw [htb]; rfl) hown (by decide) (by decide) (hts (.classLink RL 13 sd_IA) k_classLink_L_13) (va_any rfl hTH.2.2.2.1) (fun H q9 hz hk => ?_))
  have hP := sd_keptP hP hk
  have hS : va_S A s.heap H [] := ⟨hz, fun q hq _ => hk q hq, fun _ h => nomatch h⟩
  refine W.eq (g2 := F0 m 8 ls [.ref q9]) rfl ?_
  refine lv_astore_n hx hb dL_begin_8 rfl hl (by decide) rfl (fun ls hl => ?_)
  have hl : lv_has ls 3 [(2, .ref q9), (0, .ref h0), (1, .int x1)] := hl
  refine lv_iconst (v := (nI 1)) hx hb dL_begin_9 (by decide +kernel) ?_
  have hP : va_P (dC, dI) vwCl (sd_O cA h0 a0 n w) H := hP
  have hD : va_D A (sd_O cA h0 a0 n w) := hD
  refine W.widen (k := 1) (n := 6) (by omega) (by omega) ?_
  exact W.iret hx hb hr (fun t ht hW => ⟨⟨_, (), rfl, rfl, by rw [ht]; exact hP, va_K.moved hW.alike hK, by rw [← hAe]; exact hD⟩, by rw [← hAe]; exact hS.F ht⟩) (fun q hq => by rw [← hAe]; exact hS.2.2 q hq) dL_begin_10
end
