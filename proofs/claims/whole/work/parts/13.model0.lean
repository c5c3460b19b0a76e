/-! The reference's world, and ranges of its arguments. -/
def sd_M (cL cZ : ClassId) (h1 a1 a2 a3 a4 er n : Nat) (w : Nat → Nat) (sh ke : Nat → Int64) (go : Nat → Int32) : va_W :=
  [(h1, .inr (1, [.int (nI er), .int (nI n), .ref a1, .ref a2, .ref a3, .ref a4])), (a1, .inl (cL, 8, .inr (.inl (fun z => lN (w z))))), (a2, .inl (cL, 8, .inr (.inl sh))), (a3, .inl (cL, 8, .inr (.inl ke))), (a4, .inl (cZ, 8, .inl go))]
abbrev sd_S : Type := (Nat → Int64) × (Nat → Int64) × (Nat → Int32)
def sd_bi (b : Bool) : Int32 := if b then nI 1 else nI 0
def sd_in3 (v a b : Int64) : Bool := decide (a ≤ v) && decide (v ≤ b)
/-- an int between two numbers, as the reference asks it -/
def sd_rg (x : Int32) (a b : Nat) : Bool := sd_in3 x.toInt64 (lN a) (lN b)
theorem sd_bi_nar (b : Bool) : narrow .boolean (.int (sd_bi b)) = .int (sd_bi b) := by cases b <;> rfl
theorem sd_bi_0 {b : Bool} : sd_bi b = 0 ↔ b = false := by
  cases b
  · exact ⟨fun _ => rfl, fun _ => by decide +kernel⟩
  · exact ⟨fun h => absurd h (by decide +kernel), fun h => by cases h⟩
theorem sd_rgI {x : Int32} {a b : Nat} (ha : a < 2 ^ 31) (hb : b < 2 ^ 31) : sd_rg x a b = (decide ((a : Int) ≤ x.toInt) && decide (x.toInt ≤ (b : Int))) := by
  unfold sd_rg sd_in3
  have e := Jvm.Kit.i64_of_i32 x
  have h1 : (lN a ≤ x.toInt64) ↔ (a : Int) ≤ x.toInt := by rw [Int64.le_iff_toInt_le, e, pk_lT (by omega)]
  have h2 : (x.toInt64 ≤ lN b) ↔ x.toInt ≤ (b : Int) := by rw [Int64.le_iff_toInt_le, e, pk_lT (by omega)]
  rw [decide_eq_decide.mpr h1, decide_eq_decide.mpr h2]
theorem sd_rg_yes {x : Int32} {a b : Nat} (ha : a < 2 ^ 31) (hb : b < 2 ^ 31) (h : sd_rg x a b = true) : ∃ j, a ≤ j ∧ j ≤ b ∧ x = nI j := by
  rw [sd_rgI ha hb, Bool.and_eq_true, decide_eq_true_eq, decide_eq_true_eq] at h
  refine ⟨x.toInt.toNat, by omega, by omega, Int32.toInt_inj.mp ?_⟩
  rw [nI_toInt (by omega)]
  omega
theorem sd_rg_no {x : Int32} {a b : Nat} (ha : a < 2 ^ 31) (hb : b < 2 ^ 31) (h : sd_rg x a b = false) : x < nI a ∨ nI b < x := by
  rw [sd_rgI ha hb, Bool.and_eq_false_iff, decide_eq_false_iff_not, decide_eq_false_iff_not] at h
  rcases h with h | h
  · left; rw [Int32.lt_iff_toInt_lt, nI_toInt ha]; omega
  · right; rw [Int32.lt_iff_toInt_lt, nI_toInt hb]; omega
theorem sd_rg_nI {j a b : Nat} (ha : a < 2 ^ 31) (hb : b < 2 ^ 31) (h1 : a ≤ j) (h2 : j ≤ b) : sd_rg (nI j) a b = true := by
  rw [sd_rgI ha hb, nI_toInt (by omega), Bool.and_eq_true, decide_eq_true_eq, decide_eq_true_eq]
  omega
section SDB
variable {p : Program} {l : Launch} {e : Env} {R : Room} {s : State} {m : MethodId} {args : Array Value} {below : List Frame} {meth : Method} {c : Code} {H : Heap} {locs : List Loc} {cells slots : Nat} {Q : State → Prop} {cc : ByteArray} {pc : Nat} {ls : Array Slot} {rest : List Value}
theorem sd_bz_eq (hexec : p.tables.exec = Jvm.exec) (hb : c.code = cc) {b : Bool} {off : Int} {tgt : Nat} (hdg : decode cc pc = .ok (.ifCond .eq off, 3)) (ht : (pc : Int) + off = (tgt : Int)) (kt : b = false → W p l e R s m args below meth c H locs cells slots Q (F0 m tgt ls rest)) (kf : b = true → W p l e R s m args below meth c H locs cells slots Q (F0 m (pc + 3) ls rest)) : W p l e R s m args below meth c H locs cells slots Q (F0 m pc ls (.int (sd_bi b) :: rest)) :=
  lv_if_eq hexec hb hdg ht (fun h => kt (sd_bi_0.mp h)) (fun h => kf (by cases b; exact absurd (sd_bi_0.mpr rfl) h; rfl))
theorem sd_bz_ne (hexec : p.tables.exec = Jvm.exec) (hb : c.code = cc) {b : Bool} {off : Int} {tgt : Nat} (hdg : decode cc pc = .ok (.ifCond .ne off, 3)) (ht : (pc : Int) + off = (tgt : Int)) (kt : b = true → W p l e R s m args below meth c H locs cells slots Q (F0 m tgt ls rest)) (kf : b = false → W p l e R s m args below meth c H locs cells slots Q (F0 m (pc + 3) ls rest)) : W p l e R s m args below meth c H locs cells slots Q (F0 m pc ls (.int (sd_bi b) :: rest)) :=
  lv_if_ne hexec hb hdg ht (fun h => kt (by cases b; exact absurd (sd_bi_0.mpr rfl) h; rfl)) (fun h => kf (sd_bi_0.mp h))
end SDB
