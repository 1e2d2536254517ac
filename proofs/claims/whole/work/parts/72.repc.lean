/-- what always holds of the reader: Z are its 18 rows, the formula has row fr (room fm) -/
def rcS (k v s : Nat → Int32) (cnt fr fm : Nat) (Z : yI) (P : yPs) : Prop :=
  (Z 2 = k ∧ Z 3 = s ∧ Z 4 = v ∧ Z 1 5 = nI cnt) ∧ (Z 0 2 = nI P.1 ∧ P.1 < cnt) ∧ Z 0 7 = P.2.1 ∧ (¬ P.2.1 = 0 → Z 0 8 = P.2.2.1) ∧ (∃ nr, nr ≤ 8 ∧ Z 5 6 = nI nr ∧ P.2.2.2.1 2 = nI nr) ∧ (∃ len, len ≤ fm ∧ Z fr 2 = nI len) ∧ ((Z 0 3 = 0 ∨ Z 0 3 = 1) ∧ (Z 0 4 = 0 ∨ Z 0 4 = 1) ∧ (Z 0 5 = 0 ∨ Z 0 5 = 1) ∧ (Z 0 6 = 0 ∨ Z 0 6 = 1))
/-- the draft's numbers -/
def rcD (Z : yI) (d : Nat → Int32) : Prop := (Z 0 3 = d 2000 ∧ Z 0 4 = d 2001 ∧ Z 0 5 = d 2002 ∧ Z 0 6 = d 2003) ∧ (Z 5 0 = d 0 ∧ Z 5 1 = d 1 ∧ Z 5 2 = d 6 ∧ Z 5 3 = d 7 ∧ Z 5 4 = d 8 ∧ Z 5 6 = d 2) ∧ (∀ j, j < tn (d 2) → ∀ c, c < 6 → Z (9 + c) j = d (20 + 6 * j + c)) ∧ d 9 = d 2002
/-- the score's items -/
def rcF (fr : Nat) (Z : yI) (cd : List Int32) : Prop := Z fr 2 = nI cd.length ∧ ∀ j, j < cd.length → Z (fr + 1) j = cd.getD j 0
/-- the reader stands for P, in the score (the items are at most as many as the tokens read) -/
def rcP (k v s : Nat → Int32) (cnt fr fm : Nat) (Z : yI) (P : yPs) : Prop := rcS k v s cnt fr fm Z P ∧ (P.2.1 = 0 → rcD Z P.2.2.2.1 ∧ rcF fr Z (if fr = 15 then P.2.2.2.2 else [-1]) ∧ (fr ≠ 15 → P.2.2.2.2 = []) ∧ P.2.2.2.2.length ≤ P.1)
theorem faZ_e {Z : yI} {i : Nat} {c : Int32} (h : ¬ Z 0 7 = 0) : faZ Z i c = Z := if_neg h
theorem faZ_r {Z : yI} {i : Nat} {c : Int32} {r : Nat} (h : r ≠ 0) : faZ Z i c r = Z r := by
  unfold faZ
  split
  · rw [up2_r h, up2_r h]
  · rfl
theorem faZ_0 {Z : yI} {i : Nat} {c : Int32} {j : Nat} (h7 : j ≠ 7) (h8 : j ≠ 8) : faZ Z i c 0 j = Z 0 j := by
  unfold faZ
  split
  · show upd (upd (Z 0) 7 c) 8 _ j = Z 0 j
    rw [upd_ne9 h8, upd_ne9 h7]
  · rfl
theorem rcS.fa {k v s : Nat → Int32} {cnt fr fm : Nat} {Z : yI} {P : yPs} (h : rcS k v s cnt fr fm Z P) (hfr : fr ≠ 0) {c : Int32} : rcS k v s cnt fr fm (faZ Z P.1 c) (gErr s c P) := by
  obtain ⟨⟨t1, t2, t3, t4⟩, ⟨i1, i2⟩, e1, e2, n1, l1, f1⟩ := h
  by_cases h0 : P.2.1 = 0
  · rw [gErr, if_pos h0]
    refine ⟨⟨(faZ_r (by decide)).trans t1, (faZ_r (by decide)).trans t2, (faZ_r (by decide)).trans t3, (congrFun (faZ_r (by decide)) 5).trans t4⟩, ⟨(faZ_0 (by decide) (by decide)).trans i1, i2⟩, ?_, fun _ => ?_, ?_, ?_, ?_⟩
    · rw [faZ, if_pos (e1.trans h0)]
      show upd (upd (Z 0) 7 c) 8 (Z 3 P.1) 7 = c
      rw [upd_ne9 (by decide), upd_same]
    · rw [faZ, if_pos (e1.trans h0)]
      show upd (upd (Z 0) 7 c) 8 (Z 3 P.1) 8 = s P.1
      rw [upd_same, t2]
    · obtain ⟨nr, a, b⟩ := n1
      exact ⟨nr, a, (congrFun (faZ_r (by decide)) 6).trans b.1, b.2⟩
    · obtain ⟨len, a, b⟩ := l1
      exact ⟨len, a, (congrFun (faZ_r hfr) 2).trans b⟩
    · rw [faZ_0 (j := 3) (by decide) (by decide), faZ_0 (j := 4) (by decide) (by decide), faZ_0 (j := 5) (by decide) (by decide), faZ_0 (j := 6) (by decide) (by decide)]
      exact f1
  · rw [gErr, if_neg h0, faZ_e (fun q => h0 (e1.symm.trans q))]
    exact ⟨⟨t1, t2, t3, t4⟩, ⟨i1, i2⟩, e1, e2, n1, l1, f1⟩
theorem gErr_e {s : Nat → Int32} {c : Int32} {P : yPs} (hc : ¬ c = 0) : ¬ (gErr s c P).2.1 = 0 := by
  unfold gErr
  split
  · exact hc
  · assumption
theorem rcP.fa {k v s : Nat → Int32} {cnt fr fm : Nat} {Z : yI} {P : yPs} (h : rcP k v s cnt fr fm Z P) (hfr : fr ≠ 0) {c : Int32} (hc : ¬ c = 0) : rcP k v s cnt fr fm (faZ Z P.1 c) (gErr s c P) := ⟨h.1.fa hfr, fun q => absurd q (gErr_e hc)⟩
theorem rcS.st {k v s : Nat → Int32} {cnt fr fm : Nat} {Z : yI} {P : yPs} (h : rcS k v s cnt fr fm Z P) (hfr : fr ≠ 0) (hi : P.1 + 1 < cnt) : rcS k v s cnt fr fm (stpZ Z cnt P.1) (gStp P) := by
  obtain ⟨⟨t1, t2, t3, t4⟩, ⟨i1, i2⟩, e1, e2, ⟨nr, n1, n2⟩, ⟨len, l1, l2⟩, f1⟩ := h
  rw [stpZ, if_pos hi]
  exact ⟨⟨t1, t2, t3, t4⟩, ⟨up2_at, hi⟩, e1, e2, ⟨nr, n1, n2⟩, ⟨len, l1, (congrFun (up2_r hfr) 2).trans l2⟩, f1⟩
theorem rcD.st {Z : yI} {d : Nat → Int32} {cnt i : Nat} (h : rcD Z d) : rcD (stpZ Z cnt i) d := by
  unfold stpZ
  split
  · exact ⟨h.1, h.2.1, fun j hj c hc => (congrFun (up2_r (by omega)) j).trans (h.2.2.1 j hj c hc), h.2.2.2⟩
  · exact h
theorem rcF.st {fr : Nat} {Z : yI} {cd : List Int32} {cnt i : Nat} (h : rcF fr Z cd) (hfr : fr ≠ 0) : rcF fr (stpZ Z cnt i) cd := by
  unfold stpZ
  split
  · exact ⟨(congrFun (up2_r hfr) 2).trans h.1, fun j hj => (congrFun (up2_r (by omega)) j).trans (h.2 j hj)⟩
  · exact h
theorem rcP.st {k v s : Nat → Int32} {cnt fr fm : Nat} {Z : yI} {P : yPs} (h : rcP k v s cnt fr fm Z P) (hfr : fr ≠ 0) (hi : P.1 + 1 < cnt) : rcP k v s cnt fr fm (stpZ Z cnt P.1) (gStp P) := ⟨h.1.st hfr hi, fun q => by
  obtain ⟨a, b, c, d⟩ := h.2 q
  exact ⟨a.st, b.st hfr, c, Nat.le_succ_of_le d⟩⟩
/-- every token but the last is none of the end -/
def tkE (k : Nat → Int32) (cnt : Nat) : Prop := ∀ j, j < cnt → ¬ k j = -1 → j + 1 < cnt
theorem rcP.tak {k v s : Nat → Int32} {cnt fr fm : Nat} {Z : yI} {P : yPs} (h : rcP k v s cnt fr fm Z P) (hfr : fr ≠ 0) (hE : tkE k cnt) {c : Int32} (hc : ¬ c = -1) : rcP k v s cnt fr fm (takZ Z cnt P.1 c) (gTak k s c P) := by
  have e1 := h.1.2.2.1
  have t1 := h.1.1.1
  unfold takZ gTak
  by_cases h0 : P.2.1 = 0
  · rw [if_pos h0]
    by_cases h1 : k P.1 = c
    · rw [if_pos h1, if_pos ⟨e1.trans h0, by rw [t1]; exact h1⟩]
      exact h.st hfr (hE _ h.1.2.1.2 (fun q => hc (h1.symm.trans q)))
    · rw [if_neg h1, if_neg (fun q => h1 (by rw [← t1]; exact q.2))]
      exact h.fa hfr (by decide)
  · rw [if_neg h0, if_neg (fun q => h0 (e1.symm.trans q.1)), faZ_e (fun q => h0 (e1.symm.trans q))]
    exact h
theorem rcP.num {k v s : Nat → Int32} {cnt fr fm : Nat} {Z : yI} {P : yPs} (h : rcP k v s cnt fr fm Z P) (hfr : fr ≠ 0) (hE : tkE k cnt) {lo hi : Int32} : rcP k v s cnt fr fm (numZ Z cnt P.1 lo hi).2 (gNum k v s lo hi P).2 ∧ ((gNum k v s lo hi P).2.2.1 = 0 → (numZ Z cnt P.1 lo hi).1 = (gNum k v s lo hi P).1) := by
  have e1 := h.1.2.2.1
  have t1 := h.1.1.1
  have t3 := h.1.1.2.2.1
  unfold numZ gNum
  by_cases h0 : P.2.1 = 0
  · rw [if_pos h0, if_neg (Decidable.not_not.mpr (e1.trans h0)), t1, t3]
    by_cases h1 : k P.1 = 256
    · rw [if_pos h1, if_neg (Decidable.not_not.mpr h1)]
      by_cases h2 : v P.1 < lo ∨ ¬ v P.1 ≤ hi
      · rw [if_pos h2, if_pos h2]
        exact ⟨h.fa hfr (by decide), fun q => absurd q (gErr_e (by decide))⟩
      · rw [if_neg h2, if_neg h2]
        exact ⟨h.st hfr (hE _ h.1.2.1.2 (fun q => absurd (h1.symm.trans q) (by decide))), fun _ => rfl⟩
    · rw [if_neg h1, if_pos h1]
      exact ⟨h.fa hfr (by decide), fun q => absurd q (gErr_e (by decide))⟩
  · rw [if_neg h0, if_pos (fun q => h0 (e1.symm.trans q))]
    exact ⟨h, fun q => absurd q h0⟩
