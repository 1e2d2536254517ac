theorem rcF.row {fr : Nat} {Z : yI} {cd : List Int32} (h : rcF fr Z cd) {a j : Nat} {x : Int32} (h1 : a ≠ fr) (h2 : a ≠ fr + 1) : rcF fr (up2 Z a j x) cd := ⟨(congrFun (up2_r h1.symm) 2).trans h.1, fun i hi => (congrFun (up2_r h2.symm) i).trans (h.2 i hi)⟩
theorem rcS.set {k v s : Nat → Int32} {cnt fr fm : Nat} {Z : yI} {P : yPs} (h : rcS k v s cnt fr fm Z P) (hfr : fr = 6 ∨ fr = 15) {a j : Nat} (ha : a ≠ 6) (hj : 2 ≠ j) {x y : Int32} : rcS k v s cnt fr fm (up2 Z 5 a x) (gPut j y P) := by
  obtain ⟨⟨t1, t2, t3, t4⟩, ⟨i1, i2⟩, e1, e2, ⟨nr, n1, n2⟩, ⟨len, l1, l2⟩, f1⟩ := h
  exact ⟨⟨t1, t2, t3, t4⟩, ⟨i1, i2⟩, e1, e2, ⟨nr, n1, (upd_ne9 (d := Z 5) (Ne.symm ha)).trans n2.1, (upd_ne9 (d := P.2.2.2.1) hj).trans n2.2⟩, ⟨len, l1, (congrFun (up2_r (by omega)) 2).trans l2⟩, f1⟩
theorem rcD.set0 {Z : yI} {d : Nat → Int32} (h : rcD Z d) {x : Int32} : rcD (up2 Z 5 0 x) (upd d 0 x) := by
  obtain ⟨a0, a1, a2, a3, a4, a6⟩ := h.2.1
  exact ⟨h.1, ⟨rfl, a1, a2, a3, a4, a6⟩, fun j hj c hc => (congrFun (up2_r (by omega)) j).trans ((h.2.2.1 j hj c hc).trans (upd_ne9 (by omega)).symm), h.2.2.2⟩
theorem rcP.set0 {k v s : Nat → Int32} {cnt fr fm : Nat} {Z : yI} {P : yPs} (h : rcP k v s cnt fr fm Z P) (hfr : fr = 6 ∨ fr = 15) {x y : Int32} (e : P.2.1 = 0 → x = y) : rcP k v s cnt fr fm (up2 Z 5 0 x) (gPut 0 y P) := ⟨h.1.set hfr (by decide) (by decide), fun q => by
  obtain ⟨a, b, c, d⟩ := h.2 q
  have := e q
  subst this
  exact ⟨a.set0, b.row (by omega) (by omega), c, d⟩⟩
theorem rcD.set1 {Z : yI} {d : Nat → Int32} (h : rcD Z d) {x : Int32} : rcD (up2 Z 5 1 x) (upd d 1 x) := by
  obtain ⟨a0, a1, a2, a3, a4, a6⟩ := h.2.1
  exact ⟨h.1, ⟨a0, rfl, a2, a3, a4, a6⟩, fun j hj c hc => (congrFun (up2_r (by omega)) j).trans ((h.2.2.1 j hj c hc).trans (upd_ne9 (by omega)).symm), h.2.2.2⟩
theorem rcP.set1 {k v s : Nat → Int32} {cnt fr fm : Nat} {Z : yI} {P : yPs} (h : rcP k v s cnt fr fm Z P) (hfr : fr = 6 ∨ fr = 15) {x y : Int32} (e : P.2.1 = 0 → x = y) : rcP k v s cnt fr fm (up2 Z 5 1 x) (gPut 1 y P) := ⟨h.1.set hfr (by decide) (by decide), fun q => by
  obtain ⟨a, b, c, d⟩ := h.2 q
  have := e q
  subst this
  exact ⟨a.set1, b.row (by omega) (by omega), c, d⟩⟩
theorem rcD.set2 {Z : yI} {d : Nat → Int32} (h : rcD Z d) {x : Int32} : rcD (up2 Z 5 2 x) (upd d 6 x) := by
  obtain ⟨a0, a1, a2, a3, a4, a6⟩ := h.2.1
  exact ⟨h.1, ⟨a0, a1, rfl, a3, a4, a6⟩, fun j hj c hc => (congrFun (up2_r (by omega)) j).trans ((h.2.2.1 j hj c hc).trans (upd_ne9 (by omega)).symm), h.2.2.2⟩
theorem rcP.set2 {k v s : Nat → Int32} {cnt fr fm : Nat} {Z : yI} {P : yPs} (h : rcP k v s cnt fr fm Z P) (hfr : fr = 6 ∨ fr = 15) {x y : Int32} (e : P.2.1 = 0 → x = y) : rcP k v s cnt fr fm (up2 Z 5 2 x) (gPut 6 y P) := ⟨h.1.set hfr (by decide) (by decide), fun q => by
  obtain ⟨a, b, c, d⟩ := h.2 q
  have := e q
  subst this
  exact ⟨a.set2, b.row (by omega) (by omega), c, d⟩⟩
theorem rcD.set3 {Z : yI} {d : Nat → Int32} (h : rcD Z d) {x : Int32} : rcD (up2 Z 5 3 x) (upd d 7 x) := by
  obtain ⟨a0, a1, a2, a3, a4, a6⟩ := h.2.1
  exact ⟨h.1, ⟨a0, a1, a2, rfl, a4, a6⟩, fun j hj c hc => (congrFun (up2_r (by omega)) j).trans ((h.2.2.1 j hj c hc).trans (upd_ne9 (by omega)).symm), h.2.2.2⟩
theorem rcP.set3 {k v s : Nat → Int32} {cnt fr fm : Nat} {Z : yI} {P : yPs} (h : rcP k v s cnt fr fm Z P) (hfr : fr = 6 ∨ fr = 15) {x y : Int32} (e : P.2.1 = 0 → x = y) : rcP k v s cnt fr fm (up2 Z 5 3 x) (gPut 7 y P) := ⟨h.1.set hfr (by decide) (by decide), fun q => by
  obtain ⟨a, b, c, d⟩ := h.2 q
  have := e q
  subst this
  exact ⟨a.set3, b.row (by omega) (by omega), c, d⟩⟩
theorem rcD.set4 {Z : yI} {d : Nat → Int32} (h : rcD Z d) {x : Int32} : rcD (up2 Z 5 4 x) (upd d 8 x) := by
  obtain ⟨a0, a1, a2, a3, a4, a6⟩ := h.2.1
  exact ⟨h.1, ⟨a0, a1, a2, a3, rfl, a6⟩, fun j hj c hc => (congrFun (up2_r (by omega)) j).trans ((h.2.2.1 j hj c hc).trans (upd_ne9 (by omega)).symm), h.2.2.2⟩
theorem rcP.set4 {k v s : Nat → Int32} {cnt fr fm : Nat} {Z : yI} {P : yPs} (h : rcP k v s cnt fr fm Z P) (hfr : fr = 6 ∨ fr = 15) {x y : Int32} (e : P.2.1 = 0 → x = y) : rcP k v s cnt fr fm (up2 Z 5 4 x) (gPut 8 y P) := ⟨h.1.set hfr (by decide) (by decide), fun q => by
  obtain ⟨a, b, c, d⟩ := h.2 q
  have := e q
  subst this
  exact ⟨a.set4, b.row (by omega) (by omega), c, d⟩⟩
theorem rcP.flag3 {k v s : Nat → Int32} {cnt fr fm : Nat} {Z : yI} {P : yPs} (h : rcP k v s cnt fr fm Z P) (hfr : fr = 6 ∨ fr = 15) : rcP k v s cnt fr fm (up2 Z 0 3 1) (gPut 2000 1 P) := by
  obtain ⟨⟨⟨t1, t2, t3, t4⟩, ⟨i1, i2⟩, e1, e2, ⟨nr, n1, n2⟩, ⟨len, l1, l2⟩, f3, f4, f5, f6⟩, hh⟩ := h
  refine ⟨⟨⟨t1, t2, t3, t4⟩, ⟨i1, i2⟩, e1, e2, ⟨nr, n1, n2⟩, ⟨len, l1, (congrFun (up2_r (by omega)) 2).trans l2⟩, Or.inr rfl, f4, f5, f6⟩, fun q => ?_⟩
  obtain ⟨h, b, c, dl⟩ := hh q
  refine ⟨?_, b.row (by omega) (by omega), c, dl⟩
  show rcD (up2 Z 0 3 1) (upd P.2.2.2.1 2000 1)
  obtain ⟨b3, b4, b5, b6⟩ := h.1
  have h8 : tn (P.2.2.2.1 2) ≤ 8 := by rw [← h.2.1.2.2.2.2.2, n2.1, tn_nI (by omega)]; exact n1
  refine ⟨⟨rfl, b4, b5, b6⟩, h.2.1, fun j hj c hc => ?_, h.2.2.2⟩
  have hj : j < tn (P.2.2.2.1 2) := hj
  exact (congrFun (up2_r (by omega)) j).trans ((h.2.2.1 j hj c hc).trans (upd_ne9 (by omega)).symm)
theorem rcP.flag4 {k v s : Nat → Int32} {cnt fr fm : Nat} {Z : yI} {P : yPs} (h : rcP k v s cnt fr fm Z P) (hfr : fr = 6 ∨ fr = 15) : rcP k v s cnt fr fm (up2 Z 0 4 1) (gPut 2001 1 P) := by
  obtain ⟨⟨⟨t1, t2, t3, t4⟩, ⟨i1, i2⟩, e1, e2, ⟨nr, n1, n2⟩, ⟨len, l1, l2⟩, f3, f4, f5, f6⟩, hh⟩ := h
  refine ⟨⟨⟨t1, t2, t3, t4⟩, ⟨i1, i2⟩, e1, e2, ⟨nr, n1, n2⟩, ⟨len, l1, (congrFun (up2_r (by omega)) 2).trans l2⟩, f3, Or.inr rfl, f5, f6⟩, fun q => ?_⟩
  obtain ⟨h, b, c, dl⟩ := hh q
  refine ⟨?_, b.row (by omega) (by omega), c, dl⟩
  show rcD (up2 Z 0 4 1) (upd P.2.2.2.1 2001 1)
  obtain ⟨b3, b4, b5, b6⟩ := h.1
  have h8 : tn (P.2.2.2.1 2) ≤ 8 := by rw [← h.2.1.2.2.2.2.2, n2.1, tn_nI (by omega)]; exact n1
  refine ⟨⟨b3, rfl, b5, b6⟩, h.2.1, fun j hj c hc => ?_, h.2.2.2⟩
  have hj : j < tn (P.2.2.2.1 2) := hj
  exact (congrFun (up2_r (by omega)) j).trans ((h.2.2.1 j hj c hc).trans (upd_ne9 (by omega)).symm)
theorem rcP.flag5 {k v s : Nat → Int32} {cnt fr fm : Nat} {Z : yI} {P : yPs} (h : rcP k v s cnt fr fm Z P) (hfr : fr = 6 ∨ fr = 15) : rcP k v s cnt fr fm (up2 Z 0 5 1) (gPut 9 1 (gPut 2002 1 P)) := by
  obtain ⟨⟨⟨t1, t2, t3, t4⟩, ⟨i1, i2⟩, e1, e2, ⟨nr, n1, n2⟩, ⟨len, l1, l2⟩, f3, f4, f5, f6⟩, hh⟩ := h
  refine ⟨⟨⟨t1, t2, t3, t4⟩, ⟨i1, i2⟩, e1, e2, ⟨nr, n1, n2⟩, ⟨len, l1, (congrFun (up2_r (by omega)) 2).trans l2⟩, f3, f4, Or.inr rfl, f6⟩, fun q => ?_⟩
  obtain ⟨h, b, c, dl⟩ := hh q
  refine ⟨?_, b.row (by omega) (by omega), c, dl⟩
  show rcD (up2 Z 0 5 1) (upd (upd P.2.2.2.1 2002 1) 9 1)
  obtain ⟨b3, b4, b5, b6⟩ := h.1
  have h8 : tn (P.2.2.2.1 2) ≤ 8 := by rw [← h.2.1.2.2.2.2.2, n2.1, tn_nI (by omega)]; exact n1
  refine ⟨⟨b3, b4, rfl, b6⟩, h.2.1, fun j hj c hc => ?_, rfl⟩
  have hj : j < tn (P.2.2.2.1 2) := hj
  exact (congrFun (up2_r (by omega)) j).trans ((h.2.2.1 j hj c hc).trans ((upd_ne9 (by omega)).trans (upd_ne9 (by omega))).symm)
theorem rcP.flag6 {k v s : Nat → Int32} {cnt fr fm : Nat} {Z : yI} {P : yPs} (h : rcP k v s cnt fr fm Z P) (hfr : fr = 6 ∨ fr = 15) : rcP k v s cnt fr fm (up2 Z 0 6 1) (gPut 2003 1 P) := by
  obtain ⟨⟨⟨t1, t2, t3, t4⟩, ⟨i1, i2⟩, e1, e2, ⟨nr, n1, n2⟩, ⟨len, l1, l2⟩, f3, f4, f5, f6⟩, hh⟩ := h
  refine ⟨⟨⟨t1, t2, t3, t4⟩, ⟨i1, i2⟩, e1, e2, ⟨nr, n1, n2⟩, ⟨len, l1, (congrFun (up2_r (by omega)) 2).trans l2⟩, f3, f4, f5, Or.inr rfl⟩, fun q => ?_⟩
  obtain ⟨h, b, c, dl⟩ := hh q
  refine ⟨?_, b.row (by omega) (by omega), c, dl⟩
  show rcD (up2 Z 0 6 1) (upd P.2.2.2.1 2003 1)
  obtain ⟨b3, b4, b5, b6⟩ := h.1
  have h8 : tn (P.2.2.2.1 2) ≤ 8 := by rw [← h.2.1.2.2.2.2.2, n2.1, tn_nI (by omega)]; exact n1
  refine ⟨⟨b3, b4, b5, rfl⟩, h.2.1, fun j hj c hc => ?_, h.2.2.2⟩
  have hj : j < tn (P.2.2.2.1 2) := hj
  exact (congrFun (up2_r (by omega)) j).trans ((h.2.2.1 j hj c hc).trans (upd_ne9 (by omega)).symm)
theorem rcP.far {k v s : Nat → Int32} {cnt fr fm : Nat} {Z : yI} {P : yPs} (h : rcP k v s cnt fr fm Z P) {nr j : Nat} {y : Int32} (hn : P.2.1 = 0 → P.2.2.2.1 2 = nI nr) (hr8 : nr ≤ 8) (hj : 20 + 6 * nr ≤ j ∧ j < 26 + 6 * nr) : rcP k v s cnt fr fm Z (gPut j y P) := ⟨by
  obtain ⟨t1, t2, e1, e2, ⟨n9, n1, n2⟩, l1, f1⟩ := h.1
  exact ⟨t1, t2, e1, e2, ⟨n9, n1, n2.1, (upd_ne9 (d := P.2.2.2.1) (by omega)).trans n2.2⟩, l1, f1⟩, fun q => by
  obtain ⟨h, b, c, dl⟩ := h.2 q
  have hn := hn q
  refine ⟨?_, b, c, dl⟩
  have ne : ∀ i, i ≠ j → upd P.2.2.2.1 j y i = P.2.2.2.1 i := fun i hi => upd_ne9 hi
  show rcD Z (upd P.2.2.2.1 j y)
  unfold rcD
  rw [ne 2000 (by omega), ne 2001 (by omega), ne 2002 (by omega), ne 2003 (by omega), ne 0 (by omega), ne 1 (by omega), ne 2 (by omega), ne 6 (by omega), ne 7 (by omega), ne 8 (by omega), ne 9 (by omega)]
  refine ⟨h.1, h.2.1, fun i hi c hc => ?_, h.2.2.2⟩
  have hi2 : i < nr := by rw [hn, tn_nI (by omega)] at hi; exact hi
  rw [ne _ (by omega)]
  exact h.2.2.1 i hi c hc⟩
theorem gNum_d {k v s : Nat → Int32} {lo hi : Int32} {P : yPs} : (gNum k v s lo hi P).2.2.2.2 = P.2.2.2 := by
  unfold gNum gErr
  split
  · split
    · split <;> rfl
    · rfl
  · rfl
/-- the reason's numbers are there -/
def adrZ (Z : yI) (nr : Nat) (c1 c2 c3 c4 c5 c6 : Int32) : yI := up2 (up2 (up2 (up2 (up2 (up2 (up2 Z 9 nr c1) 10 nr c2) 11 nr c3) 12 nr c4) 13 nr c5) 14 nr c6) 5 6 (nI (nr + 1))
theorem rcP.adr {k v s : Nat → Int32} {cnt fr fm : Nat} {Z : yI} {P : yPs} (h : rcP k v s cnt fr fm Z P) (hfr : fr = 6 ∨ fr = 15) {nr : Nat} (hn : Z 5 6 = nI nr) (hr8 : nr < 8) {c1 c2 c3 c4 c5 c6 : Int32} (he : P.2.1 = 0 → P.2.2.2.1 2 = nI nr ∧ c1 = P.2.2.2.1 (20 + 6 * nr) ∧ c2 = P.2.2.2.1 (20 + 6 * nr + 1) ∧ c3 = P.2.2.2.1 (20 + 6 * nr + 2) ∧ c4 = P.2.2.2.1 (20 + 6 * nr + 3) ∧ c5 = P.2.2.2.1 (20 + 6 * nr + 4) ∧ c6 = P.2.2.2.1 (20 + 6 * nr + 5)) : rcP k v s cnt fr fm (adrZ Z nr c1 c2 c3 c4 c5 c6) (gPut 2 (nI (nr + 1)) P) := by
  obtain ⟨⟨⟨t1, t2, t3, t4⟩, ⟨i1, i2⟩, e1, e2, -, ⟨len, l1, l2⟩, f1⟩, hh⟩ := h
  have hrow : ∀ a, a ≠ 5 → a ≠ 9 → a ≠ 10 → a ≠ 11 → a ≠ 12 → a ≠ 13 → a ≠ 14 → adrZ Z nr c1 c2 c3 c4 c5 c6 a = Z a := fun a h5 h9 h10 h11 h12 h13 h14 => by
    unfold adrZ
    rw [up2_r h5, up2_r h14, up2_r h13, up2_r h12, up2_r h11, up2_r h10, up2_r h9]
  refine ⟨⟨⟨t1, t2, t3, t4⟩, ⟨i1, i2⟩, e1, e2, ⟨nr + 1, by omega, rfl, rfl⟩, ⟨len, l1, (congrFun (hrow fr (by omega) (by omega) (by omega) (by omega) (by omega) (by omega) (by omega)) 2).trans l2⟩, f1⟩, fun q => ?_⟩
  obtain ⟨h, b, c, dl⟩ := hh q
  obtain ⟨m0, m1, m2, m3, m4, m5, m6⟩ := he q
  have b2 : rcF fr (adrZ Z nr c1 c2 c3 c4 c5 c6) (if fr = 15 then P.2.2.2.2 else [-1]) := ⟨(congrFun (hrow fr (by omega) (by omega) (by omega) (by omega) (by omega) (by omega) (by omega)) 2).trans b.1, fun i hi => (congrFun (hrow (fr + 1) (by omega) (by omega) (by omega) (by omega) (by omega) (by omega) (by omega)) i).trans (b.2 i hi)⟩
  refine ⟨?_, b2, c, dl⟩
  obtain ⟨a0, a1, a2, a3, a4, a6⟩ := h.2.1
  refine ⟨h.1, ⟨a0, a1, a2, a3, a4, rfl⟩, fun j hj c hc => ?_, h.2.2.2⟩
  have hj : j < tn (nI (nr + 1)) := hj
  rw [tn_nI (by omega)] at hj
  show _ = upd P.2.2.2.1 2 _ (20 + 6 * j + c)
  rw [upd_ne9 (by omega)]
  have hcs : c = 0 ∨ c = 1 ∨ c = 2 ∨ c = 3 ∨ c = 4 ∨ c = 5 := by omega
  by_cases e : j = nr
  · subst e
    rcases hcs with rfl | rfl | rfl | rfl | rfl | rfl
    · show upd (Z 9) j c1 j = P.2.2.2.1 (20 + 6 * j); rw [← m1]; exact upd_same
    · rw [← m2]; show upd (Z 10) j c2 j = c2; exact upd_same
    · rw [← m3]; show upd (Z 11) j c3 j = c3; exact upd_same
    · rw [← m4]; show upd (Z 12) j c4 j = c4; exact upd_same
    · rw [← m5]; show upd (Z 13) j c5 j = c5; exact upd_same
    · rw [← m6]; show upd (Z 14) j c6 j = c6; exact upd_same
  · rw [← h.2.2.1 j (by rw [m0, tn_nI (by omega)]; omega) c hc]
    rcases hcs with rfl | rfl | rfl | rfl | rfl | rfl
    · show upd (Z 9) nr c1 j = _; exact upd_ne9 e
    · show upd (Z 10) nr c2 j = _; exact upd_ne9 e
    · show upd (Z 11) nr c3 j = _; exact upd_ne9 e
    · show upd (Z 12) nr c4 j = _; exact upd_ne9 e
    · show upd (Z 13) nr c5 j = _; exact upd_ne9 e
    · show upd (Z 14) nr c6 j = _; exact upd_ne9 e
theorem rwc_dup {cd d : Nat → Int32} {x : Int32} : ∀ (f j : Nat), j + f ≤ 8 → (∀ i, i < j + f → cd i = d (20 + 6 * i)) → (rwc cd x j f = -1 ↔ ∀ i, j ≤ i → i < j + f → ¬ d (20 + 6 * i) = x)
  | 0, j, _, _ => ⟨fun _ i h1 h2 => by omega, fun _ => rfl⟩
  | f + 1, j, hf, h => by
    unfold rwc
    by_cases e : cd j = x
    · rw [if_pos e]
      refine ⟨fun q => ?_, fun q => absurd ((h j (by omega)).symm.trans e) (q j (Nat.le_refl _) (by omega))⟩
      have h0 := (nI_leI (a := 0) (b := j) (by decide) (by omega)).mpr (Nat.zero_le _)
      rw [q] at h0
      exact absurd h0 (by decide)
    · rw [if_neg e, rwc_dup f (j + 1) (by omega) (fun i hi => h i (by omega))]
      refine ⟨fun q i h1 h2 => ?_, fun q i h1 h2 => q i (by omega) (by omega)⟩
      by_cases e2 : i = j
      · subst e2; rw [← h i (by omega)]; exact e
      · exact q i (by omega) (by omega)
theorem gDup_iff {d : Nat → Int32} {x : Int32} : ∀ n, (gDup d x n = true ↔ ∃ i, i < n ∧ d (20 + 6 * i) = x)
  | 0 => by simp [gDup]
  | n + 1 => by
    unfold gDup
    rw [Bool.or_eq_true, decide_eq_true_iff, gDup_iff n]
    refine ⟨fun q => ?_, fun ⟨i, h1, h2⟩ => ?_⟩
    · rcases q with q | ⟨i, h1, h2⟩
      · exact ⟨n, by omega, q⟩
      · exact ⟨i, by omega, h2⟩
    · by_cases e : i = n
      · subst e; exact Or.inl h2
      · exact Or.inr ⟨i, by omega, h2⟩
section PW2
variable (l : Launch) (D : yD) (z : Nat) {n : Nat} {sh : yS} {I : yI} {L : yL} {r b m cnt fr fm fo : Nat} {k v s : Nat → Int32} {Z : yI} {P : yPs}
theorem p_onc (hX : yPx k sh r b m cnt) (h : rcP k v s cnt fr fm Z P) (hfr : fr = 6 ∨ fr = 15) (hk : ¬ k P.1 = -1) {x y : Int32} (hx : x = 0 ∨ x = 1) (e : x = y) : yM l D z yX5_takeOnce cX5_takeOnce 2 none 1 0 0 [.ref r, .int x] n sh (sR 18 I r Z) L (yZ (fun Z2 => rcP k v s cnt fr fm Z2 (if y = 0 then gStp P else gErr s (-2) P)) n sh I r L) yno := by
  subst e
  rcases hx with rfl | rfl
  · exact (c_X5_takeOnce0 l D z hX.1 hX.2.1 h.1.2.1.1 h.1.2.1.2 h.1.1.2.2.2 hX.2.2.1).imp (fun _ _ _ _ _ q => by obtain ⟨rfl, rfl, rfl, rfl, rfl⟩ := q; exact yZ.mk (by rw [if_pos rfl]; exact h.st (by omega) (hX.2.2.2.1 _ h.1.2.1.2 hk))) (fun _ _ _ _ _ q => q)
  · exact (c_X5_takeOnce1 l D z hX.1 hX.2.1 h.1.2.1.1 h.1.2.1.2 h.1.1.2.2.2 hX.2.2.1).imp (fun _ _ _ _ _ q => by obtain ⟨rfl, rfl, rfl, rfl, rfl⟩ := q; exact yZ.mk (by rw [if_neg (by decide)]; exact h.fa (by omega) (by decide))) (fun _ _ _ _ _ q => q)
theorem p_rwc (hT : ySet sh (r + 5) fo) {nr : Nat} (hn : Z 5 6 = nI nr) (hr8 : nr ≤ 8) {x : Int32} : yM l D z yX4_reasonWithCode cX4_reasonWithCode 3 (some .int) 0 0 0 [.ref (r + 5), .int x] n sh (sR 18 I r Z) L (yF (some (.int (rwc (Z 9) x 0 nr))) n sh (sR 18 I r Z) L) yno := by
  have h0 := c_X4_reasonWithCode l D z (n := n) (I := sR 18 I r Z) (L := L) (x := x) hT ((congrFun (sR_at (by decide)) 6).trans hn) hr8
  rw [show r + 5 + 4 = r + 9 from rfl, sR_at (by decide)] at h0
  exact h0
theorem p_adr (hT : ySet sh (r + 5) fo) {nr : Nat} (hn : Z 5 6 = nI nr) (hr8 : nr < 8) {c1 c2 c3 c4 c5 c6 : Int32} : yM l D z yX4_addReason cX4_addReason 7 none 0 0 0 [.ref (r + 5), .int c1, .int c2, .int c3, .int c4, .int c5, .int c6] n sh (sR 18 I r Z) L (yF none n sh (sR 18 I r (adrZ Z nr c1 c2 c3 c4 c5 c6)) L) yno := by
  have h := c_X4_addReason l D z (n := n) (I := sR 18 I r Z) (L := L) (S := gR (sR 18 I r Z) (r + 5)) hT (nr := nr) ((congrFun (sR_at (by decide)) 6).trans hn) hr8 (c1 := c1) (c2 := c2) (c3 := c3) (c4 := c4) (c5 := c5) (c6 := c6)
  rw [sR_get] at h
  unfold addR at h
  rw [← sR_up0 (by decide), ← sR_up (by decide), ← sR_up (by decide), ← sR_up (by decide), ← sR_up (by decide), ← sR_up (by decide), ← sR_up (by decide), sR_get, show r + 5 + 4 = r + 9 from rfl, show r + 5 + 5 = r + 10 from rfl, show r + 5 + 6 = r + 11 from rfl, show r + 5 + 7 = r + 12 from rfl, show r + 5 + 8 = r + 13 from rfl, show r + 5 + 9 = r + 14 from rfl, sR_up (by decide), sR_up (by decide), sR_up (by decide), sR_up (by decide), sR_up (by decide), sR_up (by decide), sR_up (by decide)] at h
  exact h
end PW2
set_option maxRecDepth 100000 in
set_option maxHeartbeats 4000000 in
theorem c_X5_readParties (l : Launch) (D : yD) (z : Nat) {n : Nat} {sh : yS} {I : yI} {L : yL} {r b m cnt fr fm fo : Nat} {k v s : Nat → Int32} (hX : yPx k sh r b m cnt) (hfr : fr = 6 ∨ fr = 15) (hT : ySet sh (r + 5) fo) {Z : yI} {P : yPs} (hZ : rcP k v s cnt fr fm Z P) (h0 : P.2.1 = 0) (hk : ¬ k P.1 = -1) : yM l D z yX5_readParties cX5_readParties 1 none 2 0 0 [.ref r] n sh (sR 18 I r Z) L (yZ (fun Z2 => rcP k v s cnt fr fm Z2 (gPrt k v s P)) n sh I r L) (yno) := by
  refine yM_of (by decide) (Nat.le_of_ble_eq_true rfl) rfl ?_
  intro X hC hr hnm hRc hRs htb
  have hC : yC X D z cX5_readParties RX5 1 2 := hC
  refine y_aload_n hC dX5_readParties_0 rfl ?_
  refine y_aload_n hC dX5_readParties_1 rfl ?_
  refine y_getIR (w9 := 18) hC (by decide) (yP_o hX.1) f_X5_61 rfl dX5_readParties_2 ?_
  refine y_callZ hC (p_onc X.2.1 D z hX hZ hfr hk hZ.1.2.2.2.2.2.2.1 (hZ.2 h0).1.1.1) m_X5_65 rfl (yP_o hX.1) (by omega) (Nat.le_of_ble_eq_true rfl) (Nat.zero_le _) (Nat.zero_le _) dX5_readParties_5 (fun Z1 g1 => ?_)
  refine y_aload_n hC dX5_readParties_8 rfl ?_
  refine y_iconst (v := 1) hC dX5_readParties_9 (by decide) ?_
  refine y_putZR (w9 := 18) hC (by decide) (yP_o hX.1) f_X5_61 rfl (by constructor <;> rfl) dX5_readParties_10 ?_
  have b2 := g1.flag3 hfr
  refine y_aload_n hC dX5_readParties_13 rfl ?_
  refine y_getR hC (yP_o hX.1) (yP_r1 hX.1) f_X5_18 rfl dX5_readParties_14 ?_
  refine y_aload_n hC dX5_readParties_17 rfl ?_
  refine y_iconst (v := 1) hC dX5_readParties_18 (by decide) ?_
  refine y_iconst (v := 4) hC dX5_readParties_19 (by decide) ?_
  refine y_callN hC (p_num X.2.1 D z hX b2 (by omega)) m_X5_69 rfl (yP_o hX.1) (by omega) (Nat.le_of_ble_eq_true rfl) (Nat.zero_le _) (Nat.zero_le _) dX5_readParties_20 (fun x3 Z3 g3 => ?_)
  refine y_putIK (w9 := 18) (r := 5) hC (by decide) hX.2.2.2.2 f_X5_73 rfl (Or.inl rfl) dX5_readParties_23 ?_
  have b4 := g3.1.set0 hfr g3.2
  refine y_aload_n hC dX5_readParties_26 rfl ?_
  refine y_getR hC (yP_o hX.1) (yP_r1 hX.1) f_X5_18 rfl dX5_readParties_27 ?_
  refine y_aload_n hC dX5_readParties_30 rfl ?_
  refine y_iconst (v := 1) hC dX5_readParties_31 (by decide) ?_
  refine y_iconst (v := 4) hC dX5_readParties_32 (by decide) ?_
  refine y_callN hC (p_num X.2.1 D z hX b4 (by omega)) m_X5_69 rfl (yP_o hX.1) (by omega) (Nat.le_of_ble_eq_true rfl) (Nat.zero_le _) (Nat.zero_le _) dX5_readParties_33 (fun x5 Z5 g5 => ?_)
  refine y_putIK (w9 := 18) (r := 5) hC (by decide) hX.2.2.2.2 f_X5_76 rfl (Or.inl rfl) dX5_readParties_36 ?_
  have b6 := g5.1.set1 hfr g5.2
  exact y_vret hC hr (Nat.zero_le _) (Nat.zero_le _) dX5_readParties_39 (yZ.mk b6)
set_option maxRecDepth 100000 in
set_option maxHeartbeats 4000000 in
theorem c_X5_readFees (l : Launch) (D : yD) (z : Nat) {n : Nat} {sh : yS} {I : yI} {L : yL} {r b m cnt fr fm fo : Nat} {k v s : Nat → Int32} (hX : yPx k sh r b m cnt) (hfr : fr = 6 ∨ fr = 15) (hT : ySet sh (r + 5) fo) {Z : yI} {P : yPs} (hZ : rcP k v s cnt fr fm Z P) (h0 : P.2.1 = 0) (hk : ¬ k P.1 = -1) : yM l D z yX5_readFees cX5_readFees 1 none 2 0 0 [.ref r] n sh (sR 18 I r Z) L (yZ (fun Z2 => rcP k v s cnt fr fm Z2 (gFee k v s P)) n sh I r L) (yno) := by
  refine yM_of (by decide) (Nat.le_of_ble_eq_true rfl) rfl ?_
  intro X hC hr hnm hRc hRs htb
  have hC : yC X D z cX5_readFees RX5 1 2 := hC
  refine y_aload_n hC dX5_readFees_0 rfl ?_
  refine y_aload_n hC dX5_readFees_1 rfl ?_
  refine y_getIR (w9 := 18) hC (by decide) (yP_o hX.1) f_X5_95 rfl dX5_readFees_2 ?_
  refine y_callZ hC (p_onc X.2.1 D z hX hZ hfr hk hZ.1.2.2.2.2.2.2.2.1 (hZ.2 h0).1.1.2.1) m_X5_65 rfl (yP_o hX.1) (by omega) (Nat.le_of_ble_eq_true rfl) (Nat.zero_le _) (Nat.zero_le _) dX5_readFees_5 (fun Z1 g1 => ?_)
  refine y_aload_n hC dX5_readFees_8 rfl ?_
  refine y_iconst (v := 1) hC dX5_readFees_9 (by decide) ?_
  refine y_putZR (w9 := 18) hC (by decide) (yP_o hX.1) f_X5_95 rfl (by constructor <;> rfl) dX5_readFees_10 ?_
  have b2 := g1.flag4 hfr
  refine y_aload_n hC dX5_readFees_13 rfl ?_
  refine y_getR hC (yP_o hX.1) (yP_r1 hX.1) f_X5_18 rfl dX5_readFees_14 ?_
  refine y_aload_n hC dX5_readFees_17 rfl ?_
  refine y_iconst (v := 0) hC dX5_readFees_18 (by decide) ?_
  refine y_sipush (v := 999) hC dX5_readFees_19 (by decide) ?_
  refine y_callN hC (p_num X.2.1 D z hX b2 (by omega)) m_X5_69 rfl (yP_o hX.1) (by omega) (Nat.le_of_ble_eq_true rfl) (Nat.zero_le _) (Nat.zero_le _) dX5_readFees_22 (fun x3 Z3 g3 => ?_)
  refine y_putIK (w9 := 18) (r := 5) hC (by decide) hX.2.2.2.2 f_X5_98 rfl (Or.inl rfl) dX5_readFees_25 ?_
  have b4 := g3.1.set2 hfr g3.2
  refine y_aload_n hC dX5_readFees_28 rfl ?_
  refine y_getR hC (yP_o hX.1) (yP_r1 hX.1) f_X5_18 rfl dX5_readFees_29 ?_
  refine y_aload_n hC dX5_readFees_32 rfl ?_
  refine y_iconst (v := 0) hC dX5_readFees_33 (by decide) ?_
  refine y_sipush (v := 999) hC dX5_readFees_34 (by decide) ?_
  refine y_callN hC (p_num X.2.1 D z hX b4 (by omega)) m_X5_69 rfl (yP_o hX.1) (by omega) (Nat.le_of_ble_eq_true rfl) (Nat.zero_le _) (Nat.zero_le _) dX5_readFees_37 (fun x5 Z5 g5 => ?_)
  refine y_putIK (w9 := 18) (r := 5) hC (by decide) hX.2.2.2.2 f_X5_101 rfl (Or.inl rfl) dX5_readFees_40 ?_
  have b6 := g5.1.set3 hfr g5.2
  exact y_vret hC hr (Nat.zero_le _) (Nat.zero_le _) dX5_readFees_43 (yZ.mk b6)
set_option maxRecDepth 100000 in
set_option maxHeartbeats 4000000 in
theorem c_X5_readLimit (l : Launch) (D : yD) (z : Nat) {n : Nat} {sh : yS} {I : yI} {L : yL} {r b m cnt fr fm fo : Nat} {k v s : Nat → Int32} (hX : yPx k sh r b m cnt) (hfr : fr = 6 ∨ fr = 15) (hT : ySet sh (r + 5) fo) {Z : yI} {P : yPs} (hZ : rcP k v s cnt fr fm Z P) (h0 : P.2.1 = 0) (hk : ¬ k P.1 = -1) : yM l D z yX5_readLimit cX5_readLimit 1 none 2 0 0 [.ref r] n sh (sR 18 I r Z) L (yZ (fun Z2 => rcP k v s cnt fr fm Z2 (gLim k v s P)) n sh I r L) (yno) := by
  refine yM_of (by decide) (Nat.le_of_ble_eq_true rfl) rfl ?_
  intro X hC hr hnm hRc hRs htb
  have hC : yC X D z cX5_readLimit RX5 1 2 := hC
  refine y_aload_n hC dX5_readLimit_0 rfl ?_
  refine y_aload_n hC dX5_readLimit_1 rfl ?_
  refine y_getIR (w9 := 18) hC (by decide) (yP_o hX.1) f_X5_118 rfl dX5_readLimit_2 ?_
  refine y_callZ hC (p_onc X.2.1 D z hX hZ hfr hk hZ.1.2.2.2.2.2.2.2.2.2 (hZ.2 h0).1.1.2.2.2) m_X5_65 rfl (yP_o hX.1) (by omega) (Nat.le_of_ble_eq_true rfl) (Nat.zero_le _) (Nat.zero_le _) dX5_readLimit_5 (fun Z1 g1 => ?_)
  refine y_aload_n hC dX5_readLimit_8 rfl ?_
  refine y_iconst (v := 1) hC dX5_readLimit_9 (by decide) ?_
  refine y_putZR (w9 := 18) hC (by decide) (yP_o hX.1) f_X5_118 rfl (by constructor <;> rfl) dX5_readLimit_10 ?_
  have b2 := g1.flag6 hfr
  refine y_aload_n hC dX5_readLimit_13 rfl ?_
  refine y_getR hC (yP_o hX.1) (yP_r1 hX.1) f_X5_18 rfl dX5_readLimit_14 ?_
  refine y_aload_n hC dX5_readLimit_17 rfl ?_
  refine y_iconst (v := 0) hC dX5_readLimit_18 (by decide) ?_
  refine y_sipush (v := 9999) hC dX5_readLimit_19 (by decide) ?_
  refine y_callN hC (p_num X.2.1 D z hX b2 (by omega)) m_X5_69 rfl (yP_o hX.1) (by omega) (Nat.le_of_ble_eq_true rfl) (Nat.zero_le _) (Nat.zero_le _) dX5_readLimit_22 (fun x3 Z3 g3 => ?_)
  refine y_putIK (w9 := 18) (r := 5) hC (by decide) hX.2.2.2.2 f_X5_121 rfl (Or.inl rfl) dX5_readLimit_25 ?_
  have b4 := g3.1.set4 hfr g3.2
  exact y_vret hC hr (Nat.zero_le _) (Nat.zero_le _) dX5_readLimit_28 (yZ.mk b4)
