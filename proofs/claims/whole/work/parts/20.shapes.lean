def yBook (sh : yS) (i su : Nat) : Prop := ((sh i).1 = 0) ∧ ((sh i).2.2 0 = some su) ∧ ((sh i).2.2 2 = some (i + 1)) ∧ ((sh i).2.2 3 = some (i + 2)) ∧ ((sh i).2.2 6 = some (i + 3)) ∧ ((sh i).2.2 7 = some (i + 4)) ∧ ((sh i).2.2 8 = some (i + 5)) ∧ ((sh i).2.2 9 = some (i + 6)) ∧ ((sh i).2.2 11 = some (i + 7)) ∧ ((sh i).2.2 12 = some (i + 8)) ∧ ((sh i).2.2 13 = some (i + 9)) ∧ ((sh i).2.2 14 = some (i + 10)) ∧ ((sh i).2.2 15 = some (i + 11)) ∧ ((sh i).2.2 16 = some (i + 12)) ∧ ((sh i).2.2 17 = some (i + 13)) ∧ (yArr sh (i + 1) 10 4) ∧ (yArr sh (i + 2) 10 4) ∧ (yArr sh (i + 3) 10 24) ∧ (yArr sh (i + 4) 10 24) ∧ (yArr sh (i + 5) 10 24) ∧ (yArr sh (i + 6) 10 24) ∧ (yArr sh (i + 7) 10 20) ∧ (yArr sh (i + 8) 10 20) ∧ (yArr sh (i + 9) 10 20) ∧ (yArr sh (i + 10) 10 20) ∧ (yArr sh (i + 11) 10 20) ∧ (yArr sh (i + 12) 10 20) ∧ (yArr sh (i + 13) 10 20)
theorem yB_o {sh : yS} {i su : Nat} (hh : yBook sh i su) : (sh i).1 = 0 := hh.1
theorem yB_r0 {sh : yS} {i su : Nat} (hh : yBook sh i su) : (sh i).2.2 0 = some su := hh.2.1
theorem yB_r2 {sh : yS} {i su : Nat} (hh : yBook sh i su) : (sh i).2.2 2 = some (i + 1) := hh.2.2.1
theorem yB_r3 {sh : yS} {i su : Nat} (hh : yBook sh i su) : (sh i).2.2 3 = some (i + 2) := hh.2.2.2.1
theorem yB_r6 {sh : yS} {i su : Nat} (hh : yBook sh i su) : (sh i).2.2 6 = some (i + 3) := hh.2.2.2.2.1
theorem yB_r7 {sh : yS} {i su : Nat} (hh : yBook sh i su) : (sh i).2.2 7 = some (i + 4) := hh.2.2.2.2.2.1
theorem yB_r8 {sh : yS} {i su : Nat} (hh : yBook sh i su) : (sh i).2.2 8 = some (i + 5) := hh.2.2.2.2.2.2.1
theorem yB_r9 {sh : yS} {i su : Nat} (hh : yBook sh i su) : (sh i).2.2 9 = some (i + 6) := hh.2.2.2.2.2.2.2.1
theorem yB_r11 {sh : yS} {i su : Nat} (hh : yBook sh i su) : (sh i).2.2 11 = some (i + 7) := hh.2.2.2.2.2.2.2.2.1
theorem yB_r12 {sh : yS} {i su : Nat} (hh : yBook sh i su) : (sh i).2.2 12 = some (i + 8) := hh.2.2.2.2.2.2.2.2.2.1
theorem yB_r13 {sh : yS} {i su : Nat} (hh : yBook sh i su) : (sh i).2.2 13 = some (i + 9) := hh.2.2.2.2.2.2.2.2.2.2.1
theorem yB_r14 {sh : yS} {i su : Nat} (hh : yBook sh i su) : (sh i).2.2 14 = some (i + 10) := hh.2.2.2.2.2.2.2.2.2.2.2.1
theorem yB_r15 {sh : yS} {i su : Nat} (hh : yBook sh i su) : (sh i).2.2 15 = some (i + 11) := hh.2.2.2.2.2.2.2.2.2.2.2.2.1
theorem yB_r16 {sh : yS} {i su : Nat} (hh : yBook sh i su) : (sh i).2.2 16 = some (i + 12) := hh.2.2.2.2.2.2.2.2.2.2.2.2.2.1
theorem yB_r17 {sh : yS} {i su : Nat} (hh : yBook sh i su) : (sh i).2.2 17 = some (i + 13) := hh.2.2.2.2.2.2.2.2.2.2.2.2.2.2.1
theorem yB_a2 {sh : yS} {i su : Nat} (hh : yBook sh i su) : yArr sh (i + 1) 10 4 := hh.2.2.2.2.2.2.2.2.2.2.2.2.2.2.2.1
theorem yB_a3 {sh : yS} {i su : Nat} (hh : yBook sh i su) : yArr sh (i + 2) 10 4 := hh.2.2.2.2.2.2.2.2.2.2.2.2.2.2.2.2.1
theorem yB_a6 {sh : yS} {i su : Nat} (hh : yBook sh i su) : yArr sh (i + 3) 10 24 := hh.2.2.2.2.2.2.2.2.2.2.2.2.2.2.2.2.2.1
theorem yB_a7 {sh : yS} {i su : Nat} (hh : yBook sh i su) : yArr sh (i + 4) 10 24 := hh.2.2.2.2.2.2.2.2.2.2.2.2.2.2.2.2.2.2.1
theorem yB_a8 {sh : yS} {i su : Nat} (hh : yBook sh i su) : yArr sh (i + 5) 10 24 := hh.2.2.2.2.2.2.2.2.2.2.2.2.2.2.2.2.2.2.2.1
theorem yB_a9 {sh : yS} {i su : Nat} (hh : yBook sh i su) : yArr sh (i + 6) 10 24 := hh.2.2.2.2.2.2.2.2.2.2.2.2.2.2.2.2.2.2.2.2.1
theorem yB_a11 {sh : yS} {i su : Nat} (hh : yBook sh i su) : yArr sh (i + 7) 10 20 := hh.2.2.2.2.2.2.2.2.2.2.2.2.2.2.2.2.2.2.2.2.2.1
theorem yB_a12 {sh : yS} {i su : Nat} (hh : yBook sh i su) : yArr sh (i + 8) 10 20 := hh.2.2.2.2.2.2.2.2.2.2.2.2.2.2.2.2.2.2.2.2.2.2.1
theorem yB_a13 {sh : yS} {i su : Nat} (hh : yBook sh i su) : yArr sh (i + 9) 10 20 := hh.2.2.2.2.2.2.2.2.2.2.2.2.2.2.2.2.2.2.2.2.2.2.2.1
theorem yB_a14 {sh : yS} {i su : Nat} (hh : yBook sh i su) : yArr sh (i + 10) 10 20 := hh.2.2.2.2.2.2.2.2.2.2.2.2.2.2.2.2.2.2.2.2.2.2.2.2.1
theorem yB_a15 {sh : yS} {i su : Nat} (hh : yBook sh i su) : yArr sh (i + 11) 10 20 := hh.2.2.2.2.2.2.2.2.2.2.2.2.2.2.2.2.2.2.2.2.2.2.2.2.2.1
theorem yB_a16 {sh : yS} {i su : Nat} (hh : yBook sh i su) : yArr sh (i + 12) 10 20 := hh.2.2.2.2.2.2.2.2.2.2.2.2.2.2.2.2.2.2.2.2.2.2.2.2.2.2.1
theorem yB_a17 {sh : yS} {i su : Nat} (hh : yBook sh i su) : yArr sh (i + 13) 10 20 := hh.2.2.2.2.2.2.2.2.2.2.2.2.2.2.2.2.2.2.2.2.2.2.2.2.2.2.2
def ySet (sh : yS) (a f : Nat) : Prop := ((sh a).1 = 4) ∧ ((sh a).2.2 5 = some f) ∧ ((sh a).2.2 7 = some (a + 4)) ∧ ((sh a).2.2 8 = some (a + 5)) ∧ ((sh a).2.2 9 = some (a + 6)) ∧ ((sh a).2.2 10 = some (a + 7)) ∧ ((sh a).2.2 11 = some (a + 8)) ∧ ((sh a).2.2 12 = some (a + 9)) ∧ (yArr sh (a + 4) 10 8) ∧ (yArr sh (a + 5) 10 8) ∧ (yArr sh (a + 6) 10 8) ∧ (yArr sh (a + 7) 10 8) ∧ (yArr sh (a + 8) 10 8) ∧ (yArr sh (a + 9) 10 8)
theorem yS_o {sh : yS} {a f : Nat} (hh : ySet sh a f) : (sh a).1 = 4 := hh.1
theorem yS_r5 {sh : yS} {a f : Nat} (hh : ySet sh a f) : (sh a).2.2 5 = some f := hh.2.1
theorem yS_r7 {sh : yS} {a f : Nat} (hh : ySet sh a f) : (sh a).2.2 7 = some (a + 4) := hh.2.2.1
theorem yS_r8 {sh : yS} {a f : Nat} (hh : ySet sh a f) : (sh a).2.2 8 = some (a + 5) := hh.2.2.2.1
theorem yS_r9 {sh : yS} {a f : Nat} (hh : ySet sh a f) : (sh a).2.2 9 = some (a + 6) := hh.2.2.2.2.1
theorem yS_r10 {sh : yS} {a f : Nat} (hh : ySet sh a f) : (sh a).2.2 10 = some (a + 7) := hh.2.2.2.2.2.1
theorem yS_r11 {sh : yS} {a f : Nat} (hh : ySet sh a f) : (sh a).2.2 11 = some (a + 8) := hh.2.2.2.2.2.2.1
theorem yS_r12 {sh : yS} {a f : Nat} (hh : ySet sh a f) : (sh a).2.2 12 = some (a + 9) := hh.2.2.2.2.2.2.2.1
theorem yS_a7 {sh : yS} {a f : Nat} (hh : ySet sh a f) : yArr sh (a + 4) 10 8 := hh.2.2.2.2.2.2.2.2.1
theorem yS_a8 {sh : yS} {a f : Nat} (hh : ySet sh a f) : yArr sh (a + 5) 10 8 := hh.2.2.2.2.2.2.2.2.2.1
theorem yS_a9 {sh : yS} {a f : Nat} (hh : ySet sh a f) : yArr sh (a + 6) 10 8 := hh.2.2.2.2.2.2.2.2.2.2.1
theorem yS_a10 {sh : yS} {a f : Nat} (hh : ySet sh a f) : yArr sh (a + 7) 10 8 := hh.2.2.2.2.2.2.2.2.2.2.2.1
theorem yS_a11 {sh : yS} {a f : Nat} (hh : ySet sh a f) : yArr sh (a + 8) 10 8 := hh.2.2.2.2.2.2.2.2.2.2.2.2.1
theorem yS_a12 {sh : yS} {a f : Nat} (hh : ySet sh a f) : yArr sh (a + 9) 10 8 := hh.2.2.2.2.2.2.2.2.2.2.2.2.2
def yFor (sh : yS) (f m : Nat) : Prop := ((sh f).1 = 1) ∧ ((sh f).2.2 0 = some (f + 1)) ∧ ((sh f).2.2 1 = some (f + 2)) ∧ (yArr sh (f + 1) 10 m) ∧ (yArr sh (f + 2) 10 11)
theorem yF_o {sh : yS} {f m : Nat} (hh : yFor sh f m) : (sh f).1 = 1 := hh.1
theorem yF_r0 {sh : yS} {f m : Nat} (hh : yFor sh f m) : (sh f).2.2 0 = some (f + 1) := hh.2.1
theorem yF_r1 {sh : yS} {f m : Nat} (hh : yFor sh f m) : (sh f).2.2 1 = some (f + 2) := hh.2.2.1
theorem yF_a0 {sh : yS} {f m : Nat} (hh : yFor sh f m) : yArr sh (f + 1) 10 m := hh.2.2.2.1
theorem yF_a1 {sh : yS} {f m : Nat} (hh : yFor sh f m) : yArr sh (f + 2) 10 11 := hh.2.2.2.2
def yInp (sh : yS) (a : Nat) : Prop := ((sh a).1 = 3) ∧ ((sh a).2.2 0 = some (a + 1)) ∧ (yArr sh (a + 1) 9 900)
theorem yI_o {sh : yS} {a : Nat} (hh : yInp sh a) : (sh a).1 = 3 := hh.1
theorem yI_r0 {sh : yS} {a : Nat} (hh : yInp sh a) : (sh a).2.2 0 = some (a + 1) := hh.2.1
theorem yI_a0 {sh : yS} {a : Nat} (hh : yInp sh a) : yArr sh (a + 1) 9 900 := hh.2.2
def yTok (sh : yS) (t b m len : Nat) : Prop := ((sh t).1 = 6) ∧ ((sh t).2.2 0 = some b) ∧ ((sh t).2.2 2 = some (t + 1)) ∧ ((sh t).2.2 3 = some (t + 2)) ∧ ((sh t).2.2 4 = some (t + 3)) ∧ (yArr sh b 9 len) ∧ (yArr sh (t + 1) 10 m) ∧ (yArr sh (t + 2) 10 m) ∧ (yArr sh (t + 3) 10 m)
theorem yK_o {sh : yS} {t b m len : Nat} (hh : yTok sh t b m len) : (sh t).1 = 6 := hh.1
theorem yK_r0 {sh : yS} {t b m len : Nat} (hh : yTok sh t b m len) : (sh t).2.2 0 = some b := hh.2.1
theorem yK_r2 {sh : yS} {t b m len : Nat} (hh : yTok sh t b m len) : (sh t).2.2 2 = some (t + 1) := hh.2.2.1
theorem yK_r3 {sh : yS} {t b m len : Nat} (hh : yTok sh t b m len) : (sh t).2.2 3 = some (t + 2) := hh.2.2.2.1
theorem yK_r4 {sh : yS} {t b m len : Nat} (hh : yTok sh t b m len) : (sh t).2.2 4 = some (t + 3) := hh.2.2.2.2.1
theorem yK_a0 {sh : yS} {t b m len : Nat} (hh : yTok sh t b m len) : yArr sh b 9 len := hh.2.2.2.2.2.1
theorem yK_a2 {sh : yS} {t b m len : Nat} (hh : yTok sh t b m len) : yArr sh (t + 1) 10 m := hh.2.2.2.2.2.2.1
theorem yK_a3 {sh : yS} {t b m len : Nat} (hh : yTok sh t b m len) : yArr sh (t + 2) 10 m := hh.2.2.2.2.2.2.2.1
theorem yK_a4 {sh : yS} {t b m len : Nat} (hh : yTok sh t b m len) : yArr sh (t + 3) 10 m := hh.2.2.2.2.2.2.2.2
def yRdr (sh : yS) (r t a : Nat) : Prop := ((sh r).1 = 5) ∧ ((sh r).2.2 0 = some t) ∧ ((sh r).2.2 1 = some a)
theorem yR_o {sh : yS} {r t a : Nat} (hh : yRdr sh r t a) : (sh r).1 = 5 := hh.1
theorem yR_r0 {sh : yS} {r t a : Nat} (hh : yRdr sh r t a) : (sh r).2.2 0 = some t := hh.2.1
theorem yR_r1 {sh : yS} {r t a : Nat} (hh : yRdr sh r t a) : (sh r).2.2 1 = some a := hh.2.2
def yHis (sh : yS) (h r b : Nat) : Prop := ((sh h).1 = 2) ∧ ((sh h).2.2 0 = some r) ∧ (yArr sh r 12 9) ∧ (∀ j, j < 9 → (sh r).2.2 j = some (b + 14 * j))
theorem yH_o {sh : yS} {h r b : Nat} (hh : yHis sh h r b) : (sh h).1 = 2 := hh.1
theorem yH_r0 {sh : yS} {h r b : Nat} (hh : yHis sh h r b) : (sh h).2.2 0 = some r := hh.2.1
theorem yH_a0 {sh : yS} {h r b : Nat} (hh : yHis sh h r b) : yArr sh r 12 9 := hh.2.2.1
theorem yH_e0 {sh : yS} {h r b : Nat} (hh : yHis sh h r b) : ∀ j, j < 9 → (sh r).2.2 j = some (b + 14 * j) := hh.2.2.2
def yCha (sh : yS) (c : Nat) : Prop := ((sh c).1 = 7) ∧ ((sh c).2.2 0 = some (c + 1)) ∧ ((sh c).2.2 1 = some (c + 3))
theorem yC_o {sh : yS} {c : Nat} (hh : yCha sh c) : (sh c).1 = 7 := hh.1
theorem yC_r0 {sh : yS} {c : Nat} (hh : yCha sh c) : (sh c).2.2 0 = some (c + 1) := hh.2.1
theorem yC_r1 {sh : yS} {c : Nat} (hh : yCha sh c) : (sh c).2.2 1 = some (c + 3) := hh.2.2
def yMod (sh : yS) (q : Nat) : Prop := ((sh q).1 = 8) ∧ ((sh q).2.2 1 = some (q + 1)) ∧ ((sh q).2.2 8 = some (q + 2)) ∧ ((sh q).2.2 9 = some (q + 3)) ∧ ((sh q).2.2 10 = some (q + 4)) ∧ ((sh q).2.2 11 = some (q + 5)) ∧ ((sh q).2.2 16 = some (q + 14)) ∧ (yArr sh (q + 1) 10 900) ∧ (yArr sh (q + 2) 10 1824) ∧ (yArr sh (q + 3) 10 1824) ∧ (yArr sh (q + 4) 10 1824) ∧ (yArr sh (q + 5) 13 8) ∧ (yArr sh (q + 14) 11 1500) ∧ (∀ j, j < 8 → (sh (q + 5)).2.2 j = some (q + 6 + j)) ∧ (∀ j, j < 8 → yArr sh (q + 6 + j) 10 1824)
theorem yM_o {sh : yS} {q : Nat} (hh : yMod sh q) : (sh q).1 = 8 := hh.1
theorem yM_r1 {sh : yS} {q : Nat} (hh : yMod sh q) : (sh q).2.2 1 = some (q + 1) := hh.2.1
theorem yM_r8 {sh : yS} {q : Nat} (hh : yMod sh q) : (sh q).2.2 8 = some (q + 2) := hh.2.2.1
theorem yM_r9 {sh : yS} {q : Nat} (hh : yMod sh q) : (sh q).2.2 9 = some (q + 3) := hh.2.2.2.1
theorem yM_r10 {sh : yS} {q : Nat} (hh : yMod sh q) : (sh q).2.2 10 = some (q + 4) := hh.2.2.2.2.1
theorem yM_r11 {sh : yS} {q : Nat} (hh : yMod sh q) : (sh q).2.2 11 = some (q + 5) := hh.2.2.2.2.2.1
theorem yM_r16 {sh : yS} {q : Nat} (hh : yMod sh q) : (sh q).2.2 16 = some (q + 14) := hh.2.2.2.2.2.2.1
theorem yM_a1 {sh : yS} {q : Nat} (hh : yMod sh q) : yArr sh (q + 1) 10 900 := hh.2.2.2.2.2.2.2.1
theorem yM_a8 {sh : yS} {q : Nat} (hh : yMod sh q) : yArr sh (q + 2) 10 1824 := hh.2.2.2.2.2.2.2.2.1
theorem yM_a9 {sh : yS} {q : Nat} (hh : yMod sh q) : yArr sh (q + 3) 10 1824 := hh.2.2.2.2.2.2.2.2.2.1
theorem yM_a10 {sh : yS} {q : Nat} (hh : yMod sh q) : yArr sh (q + 4) 10 1824 := hh.2.2.2.2.2.2.2.2.2.2.1
theorem yM_a11 {sh : yS} {q : Nat} (hh : yMod sh q) : yArr sh (q + 5) 13 8 := hh.2.2.2.2.2.2.2.2.2.2.2.1
theorem yM_a16 {sh : yS} {q : Nat} (hh : yMod sh q) : yArr sh (q + 14) 11 1500 := hh.2.2.2.2.2.2.2.2.2.2.2.2.1
theorem yM_e11 {sh : yS} {q : Nat} (hh : yMod sh q) : ∀ j, j < 8 → (sh (q + 5)).2.2 j = some (q + 6 + j) := hh.2.2.2.2.2.2.2.2.2.2.2.2.2.1
theorem yM_h {sh : yS} {q : Nat} (hh : yMod sh q) : ∀ j, j < 8 → yArr sh (q + 6 + j) 10 1824 := hh.2.2.2.2.2.2.2.2.2.2.2.2.2.2
def b2i (p : Prop) [Decidable p] : Int32 := if p then 1 else 0
theorem b2i_t {p : Prop} [Decidable p] (h : p) : b2i p = 1 := if_pos h
theorem b2i_f {p : Prop} [Decidable p] (h : ¬ p) : b2i p = 0 := if_neg h
theorem b2i_0 {p : Prop} [Decidable p] : b2i p = 0 ↔ ¬ p := by
  unfold b2i
  by_cases h : p
  · simp [h]
  · simp [h]
theorem b2i_nz {p : Prop} [Decidable p] : ¬ b2i p = 0 ↔ p := by
  rw [b2i_0]; exact Decidable.not_not
theorem b2i_z {p : Prop} [Decidable p] : narrow .boolean (.int (b2i p)) = .int (b2i p) := by
  unfold b2i
  split <;> rfl
theorem b2i_c {p q : Prop} [Decidable p] [Decidable q] (h : p ↔ q) : b2i p = b2i q := by
  unfold b2i
  by_cases hp : p
  · rw [if_pos hp, if_pos (h.mp hp)]
  · rw [if_neg hp, if_neg (fun x => hp (h.mpr x))]
/-- a number as an index -/
abbrev tn (x : Int32) : Nat := x.toNatClampNeg
theorem tn_nI {n : Nat} (h : n < 2 ^ 31) : tn (nI n) = n := nI_clamp h
/-- it returns just r, and leaves just this heap -/
abbrev yF (r : Option Value) (n : Nat) (sh : yS) (I : yI) (L : yL) : Option Value → Nat → yS → yI → yL → Prop := fun v n2 sh2 I2 L2 => v = r ∧ n2 = n ∧ sh2 = sh ∧ I2 = I ∧ L2 = L
theorem yF.mk {r : Option Value} {n : Nat} {sh : yS} {I : yI} {L : yL} {v : Option Value} (h : v = r) : yF r n sh I L v n sh I L := ⟨h, rfl, rfl, rfl, rfl⟩
section CallsF
variable {X : yX} {D : yD} {z nL n n2 : Nat} {sh sh2 : yS} {I I2 : yI} {L L2 : yL} {k w : Nat} {Q : State → Prop} {pc : Nat} {lv : List (Option Value)} {st stk : List Value} {cc : ByteArray} {own : String} {dep : Nat}
variable {y : MethodName} {bytes : ByteArray} {maxL : Nat} {ret : Option FieldType} {d2 mc ms idx ci b : Nat} {As : List Value} {v : Value}
theorem y_callV1 (hC : yC X D z cc own nL dep) (hM : yM X.2.1 D z y bytes maxL ret d2 0 0 (.ref b :: As) n sh I L (yF (some v) n2 sh2 I2 L2) yno) (cw : yCV own idx ci y bytes maxL ret As.length) (hs : stk = ypush (.ref b :: As) st) (hb : (sh b).1 = ci) (hdep : d2 + 1 ≤ dep) (hst : (st.map fun v => v.category).sum ≤ 8) (hk : k ≤ (yR X).cells) (hw : w ≤ (yR X).slots) (hd : decode cc pc = .ok (.invokevirtual idx, 3)) (kk : Y X D z nL n2 sh2 I2 L2 k w Q (pc + 3) lv (v :: st)) : Y X D z nL n sh I L k w Q pc lv stk := y_callV hC hM cw hs hb hdep hst ⟨hk, hw⟩ hd (fun _ _ _ _ _ h => h.elim) (fun _ _ _ _ _ h => by obtain ⟨rfl, rfl, rfl, rfl, rfl⟩ := h; exact kk)
theorem y_callV1c (hC : yC X D z cc own nL dep) (hM : yM X.2.1 D z y bytes maxL ret d2 mc ms (.ref b :: As) n sh I L (yF (some v) n2 sh2 I2 L2) yno) (cw : yCV own idx ci y bytes maxL ret As.length) (hs : stk = ypush (.ref b :: As) st) (hb : (sh b).1 = ci) (hdep : d2 + 1 ≤ dep) (hst : (st.map fun v => v.category).sum ≤ 8) (hk : k + mc ≤ (yR X).cells) (hw : w + ms ≤ (yR X).slots) (hd : decode cc pc = .ok (.invokevirtual idx, 3)) (kk : Y X D z nL n2 sh2 I2 L2 (k + mc) (w + ms) Q (pc + 3) lv (v :: st)) : Y X D z nL n sh I L k w Q pc lv stk := y_callV hC hM cw hs hb hdep hst ⟨hk, hw⟩ hd (fun _ _ _ _ _ h => h.elim) (fun _ _ _ _ _ h => by obtain ⟨rfl, rfl, rfl, rfl, rfl⟩ := h; exact kk)
theorem y_callV0 (hC : yC X D z cc own nL dep) (hM : yM X.2.1 D z y bytes maxL ret d2 0 0 (.ref b :: As) n sh I L (yF none n2 sh2 I2 L2) yno) (cw : yCV own idx ci y bytes maxL ret As.length) (hs : stk = ypush (.ref b :: As) st) (hb : (sh b).1 = ci) (hdep : d2 + 1 ≤ dep) (hst : (st.map fun v => v.category).sum ≤ 8) (hk : k ≤ (yR X).cells) (hw : w ≤ (yR X).slots) (hd : decode cc pc = .ok (.invokevirtual idx, 3)) (kk : Y X D z nL n2 sh2 I2 L2 k w Q (pc + 3) lv st) : Y X D z nL n sh I L k w Q pc lv stk := y_callV hC hM cw hs hb hdep hst ⟨hk, hw⟩ hd (fun _ _ _ _ _ h => h.elim) (fun _ _ _ _ _ h => by obtain ⟨rfl, rfl, rfl, rfl, rfl⟩ := h; exact kk)
theorem y_callV0c (hC : yC X D z cc own nL dep) (hM : yM X.2.1 D z y bytes maxL ret d2 mc ms (.ref b :: As) n sh I L (yF none n2 sh2 I2 L2) yno) (cw : yCV own idx ci y bytes maxL ret As.length) (hs : stk = ypush (.ref b :: As) st) (hb : (sh b).1 = ci) (hdep : d2 + 1 ≤ dep) (hst : (st.map fun v => v.category).sum ≤ 8) (hk : k + mc ≤ (yR X).cells) (hw : w + ms ≤ (yR X).slots) (hd : decode cc pc = .ok (.invokevirtual idx, 3)) (kk : Y X D z nL n2 sh2 I2 L2 (k + mc) (w + ms) Q (pc + 3) lv st) : Y X D z nL n sh I L k w Q pc lv stk := y_callV hC hM cw hs hb hdep hst ⟨hk, hw⟩ hd (fun _ _ _ _ _ h => h.elim) (fun _ _ _ _ _ h => by obtain ⟨rfl, rfl, rfl, rfl, rfl⟩ := h; exact kk)
theorem y_callS1 (hC : yC X D z cc own nL dep) (hM : yM X.2.1 D z y bytes maxL ret d2 0 0 As n sh I L (yF (some v) n2 sh2 I2 L2) yno) (cw : yCS own idx y bytes maxL ret As.length) (hs : stk = ypush As st) (hdep : d2 + 1 ≤ dep) (hst : (st.map fun v => v.category).sum ≤ 8) (hk : k ≤ (yR X).cells) (hw : w ≤ (yR X).slots) (hd : decode cc pc = .ok (.invokestatic idx, 3)) (kk : Y X D z nL n2 sh2 I2 L2 k w Q (pc + 3) lv (v :: st)) : Y X D z nL n sh I L k w Q pc lv stk := y_callS hC hM cw hs hdep hst ⟨hk, hw⟩ hd (fun _ _ _ _ _ h => h.elim) (fun _ _ _ _ _ h => by obtain ⟨rfl, rfl, rfl, rfl, rfl⟩ := h; exact kk)
theorem y_callS1c (hC : yC X D z cc own nL dep) (hM : yM X.2.1 D z y bytes maxL ret d2 mc ms As n sh I L (yF (some v) n2 sh2 I2 L2) yno) (cw : yCS own idx y bytes maxL ret As.length) (hs : stk = ypush As st) (hdep : d2 + 1 ≤ dep) (hst : (st.map fun v => v.category).sum ≤ 8) (hk : k + mc ≤ (yR X).cells) (hw : w + ms ≤ (yR X).slots) (hd : decode cc pc = .ok (.invokestatic idx, 3)) (kk : Y X D z nL n2 sh2 I2 L2 (k + mc) (w + ms) Q (pc + 3) lv (v :: st)) : Y X D z nL n sh I L k w Q pc lv stk := y_callS hC hM cw hs hdep hst ⟨hk, hw⟩ hd (fun _ _ _ _ _ h => h.elim) (fun _ _ _ _ _ h => by obtain ⟨rfl, rfl, rfl, rfl, rfl⟩ := h; exact kk)
theorem y_callS0 (hC : yC X D z cc own nL dep) (hM : yM X.2.1 D z y bytes maxL ret d2 0 0 As n sh I L (yF none n2 sh2 I2 L2) yno) (cw : yCS own idx y bytes maxL ret As.length) (hs : stk = ypush As st) (hdep : d2 + 1 ≤ dep) (hst : (st.map fun v => v.category).sum ≤ 8) (hk : k ≤ (yR X).cells) (hw : w ≤ (yR X).slots) (hd : decode cc pc = .ok (.invokestatic idx, 3)) (kk : Y X D z nL n2 sh2 I2 L2 k w Q (pc + 3) lv st) : Y X D z nL n sh I L k w Q pc lv stk := y_callS hC hM cw hs hdep hst ⟨hk, hw⟩ hd (fun _ _ _ _ _ h => h.elim) (fun _ _ _ _ _ h => by obtain ⟨rfl, rfl, rfl, rfl, rfl⟩ := h; exact kk)
theorem y_callS0c (hC : yC X D z cc own nL dep) (hM : yM X.2.1 D z y bytes maxL ret d2 mc ms As n sh I L (yF none n2 sh2 I2 L2) yno) (cw : yCS own idx y bytes maxL ret As.length) (hs : stk = ypush As st) (hdep : d2 + 1 ≤ dep) (hst : (st.map fun v => v.category).sum ≤ 8) (hk : k + mc ≤ (yR X).cells) (hw : w + ms ≤ (yR X).slots) (hd : decode cc pc = .ok (.invokestatic idx, 3)) (kk : Y X D z nL n2 sh2 I2 L2 (k + mc) (w + ms) Q (pc + 3) lv st) : Y X D z nL n sh I L k w Q pc lv stk := y_callS hC hM cw hs hdep hst ⟨hk, hw⟩ hd (fun _ _ _ _ _ h => h.elim) (fun _ _ _ _ _ h => by obtain ⟨rfl, rfl, rfl, rfl, rfl⟩ := h; exact kk)
theorem y_callI0 (hC : yC X D z cc own nL dep) (hM : yM X.2.1 D z y bytes maxL none d2 0 0 (.ref b :: As) n sh I L (yF none n2 sh2 I2 L2) yno) (cw : yCI own idx y bytes maxL As.length) (hs : stk = ypush (.ref b :: As) st) (hdep : d2 + 1 ≤ dep) (hst : (st.map fun v => v.category).sum ≤ 8) (hk : k ≤ (yR X).cells) (hw : w ≤ (yR X).slots) (hd : decode cc pc = .ok (.invokespecial idx, 3)) (kk : Y X D z nL n2 sh2 I2 L2 k w Q (pc + 3) lv st) : Y X D z nL n sh I L k w Q pc lv stk := y_callI hC hM cw hs hdep hst ⟨hk, hw⟩ hd (fun _ _ _ _ _ h => h.elim) (fun _ _ _ _ _ h => by obtain ⟨rfl, rfl, rfl, rfl, rfl⟩ := h; exact kk)
theorem y_callI0c (hC : yC X D z cc own nL dep) (hM : yM X.2.1 D z y bytes maxL none d2 mc ms (.ref b :: As) n sh I L (yF none n2 sh2 I2 L2) yno) (cw : yCI own idx y bytes maxL As.length) (hs : stk = ypush (.ref b :: As) st) (hdep : d2 + 1 ≤ dep) (hst : (st.map fun v => v.category).sum ≤ 8) (hk : k + mc ≤ (yR X).cells) (hw : w + ms ≤ (yR X).slots) (hd : decode cc pc = .ok (.invokespecial idx, 3)) (kk : Y X D z nL n2 sh2 I2 L2 (k + mc) (w + ms) Q (pc + 3) lv st) : Y X D z nL n sh I L k w Q pc lv stk := y_callI hC hM cw hs hdep hst ⟨hk, hw⟩ hd (fun _ _ _ _ _ h => h.elim) (fun _ _ _ _ _ h => by obtain ⟨rfl, rfl, rfl, rfl, rfl⟩ := h; exact kk)
theorem y_if_eqB (hC : yC X D z cc own nL dep) {p : Prop} [Decidable p] {off : Int} {tgt : Nat} (hd : decode cc pc = .ok (.ifCond .eq off, 3)) (ht : (pc : Int) + off = (tgt : Int)) (kt : ¬ p → Y X D z nL n sh I L k w Q tgt lv st) (kf : p → Y X D z nL n sh I L k w Q (pc + 3) lv st) : Y X D z nL n sh I L k w Q pc lv (.int (b2i p) :: st) := y_if_eq hC hd ht (fun h => kt (b2i_0.mp h)) (fun h => kf (b2i_nz.mp h))
theorem y_if_neB (hC : yC X D z cc own nL dep) {p : Prop} [Decidable p] {off : Int} {tgt : Nat} (hd : decode cc pc = .ok (.ifCond .ne off, 3)) (ht : (pc : Int) + off = (tgt : Int)) (kt : p → Y X D z nL n sh I L k w Q tgt lv st) (kf : ¬ p → Y X D z nL n sh I L k w Q (pc + 3) lv st) : Y X D z nL n sh I L k w Q pc lv (.int (b2i p) :: st) := y_if_ne hC hd ht (fun h => kt (b2i_nz.mp h)) (fun h => kf (b2i_0.mp h))
end CallsF
