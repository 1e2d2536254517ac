/-- places that the text never sets -/
def gZ (j : Nat) : Prop := j = 3 ∨ j = 4 ∨ j = 5 ∨ (11 ≤ j ∧ j < 20) ∨ (68 ≤ j ∧ j < 324)
def gR1 (d : Nat → Int32) (r : Nat) : Prop := (∃ e, e < 256 ∧ d (20 + 6 * r + 5) = nI e) ∧ (∃ a, a ≤ 60 ∧ d (20 + 6 * r + 2) = nI a) ∧ (∃ a, a ≤ 60 ∧ d (20 + 6 * r + 3) = nI a)
/-- the ranges of what was read -/
def gI (P : yPs) (nr : Nat) : Prop := (∃ i, i ≤ 4 ∧ P.2.2.2.1 0 = nI i) ∧ (∃ m, m ≤ 4 ∧ P.2.2.2.1 1 = nI m) ∧ (nr ≤ 8 ∧ P.2.2.2.1 2 = nI nr) ∧ (∀ r, r < nr → gR1 P.2.2.2.1 r) ∧ (∀ j, gZ j → P.2.2.2.1 j = 0) ∧ (P.2.2.2.1 2002 = 0 → P.2.2.2.2 = []) ∧ (¬ P.2.2.2.1 2002 = 0 → okc 11 P.2.2.2.2 0 ∧ (∀ y ∈ P.2.2.2.2, -8 ≤ y ∧ y ≤ 9999) ∧ 2 * (cC P.2.2.2.2).length ≤ 3 * P.1 + 1)
theorem gI.mv {P P2 : yPs} {nr : Nat} (h : gI P nr) (h1 : P.1 ≤ P2.1) (h2 : P2.2.2.2 = P.2.2.2) : gI P2 nr := by
  obtain ⟨a, b, c, d, e, f, g⟩ := h
  unfold gI
  rw [h2]
  exact ⟨a, b, c, d, e, f, fun q => ⟨(g q).1, (g q).2.1, by have := (g q).2.2; omega⟩⟩
theorem gI.put {P : yPs} {nr j : Nat} {x : Int32} (h : gI P nr) (h0 : j = 6 ∨ j = 7 ∨ j = 8 ∨ j = 2000 ∨ j = 2001 ∨ j = 2003 ∨ (20 + 6 * nr ≤ j ∧ j < 68)) : gI (gPut j x P) nr := by
  obtain ⟨a, b, ⟨c1, c2⟩, d, e, f, g⟩ := h
  have ne : ∀ i, i ≠ j → (gPut j x P).2.2.2.1 i = P.2.2.2.1 i := fun i hi => upd_ne9 (d := P.2.2.2.1) hi
  unfold gI
  rw [ne 0 (by omega), ne 1 (by omega), ne 2 (by omega), ne 2002 (by omega)]
  refine ⟨a, b, ⟨c1, c2⟩, fun r hr => ?_, fun i hi => ?_, f, g⟩
  · unfold gR1
    rw [ne (20 + 6 * r + 5) (by omega), ne (20 + 6 * r + 2) (by omega), ne (20 + 6 * r + 3) (by omega)]
    exact d r hr
  · have : i ≠ j := by unfold gZ at hi; omega
    rw [ne i this]; exact e i hi
theorem gI.num {k v s : Nat → Int32} {P : yPs} {nr : Nat} {lo hi : Int32} (h : gI P nr) (h0 : (gNum k v s lo hi P).2.2.1 = 0) : gI (gNum k v s lo hi P).2 nr := by
  rw [(gNum_0 h0).2.2.1]
  exact h.mv (Nat.le_succ _) rfl
theorem gI.nu2 {k v s : Nat → Int32} {P : yPs} {nr j : Nat} {lo hi : Int32} (h : gI P nr) (h0 : j = 6 ∨ j = 7 ∨ j = 8 ∨ j = 2000 ∨ j = 2001 ∨ j = 2003 ∨ (20 + 6 * nr ≤ j ∧ j < 68)) (he : (gNu2 k v s j lo hi P).2.1 = 0) : gI (gNu2 k v s j lo hi P) nr := (h.num he).put h0
theorem gV {x : Int32} {lo : Int32} {hi : Nat} (hl : 0 ≤ lo) (hh : hi < 1000000) (h : ¬ (x < lo ∨ ¬ x ≤ nI hi)) : ∃ a, a ≤ hi ∧ x = nI a := by
  have h1 : ¬ x < 0 := fun q => h (Or.inl (Int32.lt_of_lt_of_le q hl))
  have h2 : x ≤ nI hi := Decidable.not_not.mp (fun q => h (Or.inr q))
  have e : x = nI (tn x) := nI_tn (n := tn x + 1) (fun q => q.elim h1 (fun w => Nat.not_succ_le_self _ w))
  refine ⟨tn x, ?_, e⟩
  have h3 : nI (tn x) ≤ nI hi := by rw [← e]; exact h2
  have lt : tn x < 2147483648 := by
    have := x.toInt_lt
    show x.toInt.toNat < 2147483648
    omega
  exact nI_le2 h3
theorem gNv {k v s : Nat → Int32} {P : yPs} {lo : Int32} {hi : Nat} (hl : 0 ≤ lo) (hh : hi < 1000000) (h0 : (gNum k v s lo (nI hi) P).2.2.1 = 0) : ∃ a, a ≤ hi ∧ (gNum k v s lo (nI hi) P).1 = nI a := by
  obtain ⟨-, -, -, e, r⟩ := gNum_0 h0
  rw [e]
  exact gV hl hh r
theorem gI.p01 {k v s : Nat → Int32} {P : yPs} {nr j : Nat} (hj : j = 0 ∨ j = 1) (h : gI P nr) (he : (gNu2 k v s j 1 4 P).2.1 = 0) : gI (gNu2 k v s j 1 4 P) nr := by
  obtain ⟨a9, a1, a2⟩ : ∃ a, a ≤ 4 ∧ (gNum k v s 1 4 P).1 = nI a := gNv (hi := 4) (by decide) (by decide) he
  obtain ⟨a, b, ⟨c1, c2⟩, d, e, f, g⟩ := h.num he
  have ne : ∀ i, i ≠ j → (gNu2 k v s j 1 4 P).2.2.2.1 i = (gNum k v s 1 4 P).2.2.2.2.1 i := fun i hi => upd_ne9 (d := (gNum k v s 1 4 P).2.2.2.2.1) hi
  have eq : (gNu2 k v s j 1 4 P).2.2.2.1 j = nI a9 := upd_same.trans a2
  unfold gI
  rw [ne 2 (by omega), ne 2002 (by omega)]
  refine ⟨?_, ?_, ⟨c1, c2⟩, fun r hr => ?_, fun i hi => ?_, f, g⟩
  · rcases hj with rfl | rfl
    · exact ⟨a9, a1, eq⟩
    · rw [ne 0 (by decide)]; exact a
  · rcases hj with rfl | rfl
    · rw [ne 1 (by decide)]; exact b
    · exact ⟨a9, a1, eq⟩
  · unfold gR1
    rw [ne (20 + 6 * r + 5) (by omega), ne (20 + 6 * r + 2) (by omega), ne (20 + 6 * r + 3) (by omega)]
    exact d r hr
  · have : i ≠ j := by unfold gZ at hi; omega
    rw [ne i this]; exact e i hi
theorem gOnc_0 {s : Nat → Int32} {j : Nat} {P : yPs} (h : (gOnc s j P).2.1 = 0) : P.2.1 = 0 ∧ P.2.2.2.1 j = 0 ∧ gOnc s j P = gPut j 1 (gStp P) := by
  unfold gOnc at h ⊢
  by_cases c : P.2.2.2.1 j = 0
  · rw [if_pos c] at h ⊢
    exact ⟨h, c, rfl⟩
  · rw [if_neg c] at h
    exact absurd h (gErr_e (s := s) (c := -2) (P := P) (by decide))
theorem gI.onc {s : Nat → Int32} {P : yPs} {nr j : Nat} (h : gI P nr) (h0 : j = 2000 ∨ j = 2001 ∨ j = 2003) (he : (gOnc s j P).2.1 = 0) : gI (gOnc s j P) nr := by
  rw [(gOnc_0 he).2.2]
  exact (h.mv (P2 := gStp P) (Nat.le_succ _) rfl).put (by omega)
theorem gI.cod {k v s : Nat → Int32} {P : yPs} {nr : Nat} (h : gI P nr) (h8 : nr < 8) (he : (gCod k v s nr (20 + 6 * nr) P).2.1 = 0) : gI (gCod k v s nr (20 + 6 * nr) P) nr := by
  unfold gCod at he ⊢
  split at he
  · exact absurd he (gErr_e (by decide))
  · rename_i c
    rw [if_neg c]
    exact h.nu2 (by omega) he
theorem sh_8 : ∀ a, a ≤ 7 → ∃ e, e < 256 ∧ (1 : Int32) <<< (nI a &&& 31) = nI e := by
  have : ∀ a, a ≤ 7 → (1 : Int32) <<< (nI a &&& 31) = nI (2 ^ a) ∧ 2 ^ a < 256 := by decide +kernel
  exact fun a ha => ⟨2 ^ a, (this a ha).2, (this a ha).1⟩
theorem gI.typ {k v s : Nat → Int32} {nr : Nat} (h8 : nr < 8) : ∀ (f : Nat) (P : yPs), gI P nr → (∃ e, e < 256 ∧ P.2.2.2.1 (20 + 6 * nr + 5) = nI e) → (gTyp k v s (20 + 6 * nr + 5) f P).2.1 = 0 → gI (gTyp k v s (20 + 6 * nr + 5) f P) nr ∧ ∃ e, e < 256 ∧ (gTyp k v s (20 + 6 * nr + 5) f P).2.2.2.1 (20 + 6 * nr + 5) = nI e
  | 0, P, h, q, _ => ⟨h, q⟩
  | f + 1, P, h, q, he => by
    unfold gTyp at he ⊢
    split at he
    · rename_i c
      rw [if_pos c]
      split at he
      · rename_i c2
        exact absurd (gTyp_e f _ he) (gErr_e (by decide))
      · rename_i c2
        rw [if_neg c2]
        have e0 := gTyp_e f _ he
        have e0 : (gNum k v s 0 7 P).2.2.1 = 0 := e0
        obtain ⟨a, a1, a2⟩ : ∃ a, a ≤ 7 ∧ (gNum k v s 0 7 P).1 = nI a := gNv (hi := 7) (by decide) (by decide) e0
        refine gI.typ h8 f _ ((h.num e0).put (by omega)) ?_ he
        obtain ⟨e, e1, e2⟩ := q
        obtain ⟨g, g1, g2⟩ := sh_8 a a1
        refine ⟨e ||| g, or_8 e e1 g g1, ?_⟩
        show upd (gNum k v s 0 7 P).2.2.2.2.1 _ _ _ = _
        rw [upd_same, e2, a2, g2, nI_or]
    · rename_i c
      rw [if_neg c]
      exact ⟨h, q⟩
theorem gI.nee {k v s : Nat → Int32} {nr : Nat} (h8 : nr < 8) {P : yPs} (h : gI P nr) (q : ∃ e, e < 256 ∧ P.2.2.2.1 (20 + 6 * nr + 5) = nI e) (he : (gNee k v s (20 + 6 * nr + 5) P).2.1 = 0) : gI (gNee k v s (20 + 6 * nr + 5) P) nr ∧ ∃ e, e < 256 ∧ (gNee k v s (20 + 6 * nr + 5) P).2.2.2.1 (20 + 6 * nr + 5) = nI e := by
  unfold gNee at he ⊢
  split at he
  · rename_i c
    rw [if_pos c]
    have e0 := gTyp_e 8 _ he
    have e0 : (gNum k v s 0 7 (gStp P)).2.2.1 = 0 := e0
    obtain ⟨a, a1, a2⟩ : ∃ a, a ≤ 7 ∧ (gNum k v s 0 7 (gStp P)).1 = nI a := gNv (hi := 7) (by decide) (by decide) e0
    refine gI.typ h8 8 _ (((h.mv (P2 := gStp P) (Nat.le_succ _) rfl).num e0).put (by omega)) ?_ he
    obtain ⟨g, g1, g2⟩ := sh_8 a a1
    refine ⟨g, g1, ?_⟩
    show upd (gNum k v s 0 7 (gStp P)).2.2.2.2.1 _ _ _ = _
    rw [upd_same, a2, g2]
  · rename_i c
    rw [if_neg c]
    exact ⟨h, q⟩
theorem gI.rea {k v s : Nat → Int32} {nr : Nat} {P : yPs} (h : gI P nr) (he : (gRea k v s nr P).2.1 = 0) : gI (gRea k v s nr P) (nr + 1) := by
  unfold gRea at he ⊢
  split at he
  · exact absurd he (gErr_e (by decide))
  · rename_i c
    rw [if_neg c]
    have h8 : nr < 8 := by omega
    obtain ⟨P0, p0⟩ : ∃ q, q = gCod k v s nr (20 + 6 * nr) (gStp P) := ⟨_, rfl⟩
    obtain ⟨P1, p1⟩ : ∃ q, q = gNu2 k v s (20 + 6 * nr + 1) 0 200 P0 := ⟨_, rfl⟩
    obtain ⟨P2, p2⟩ : ∃ q, q = gNu2 k v s (20 + 6 * nr + 2) 1 60 P1 := ⟨_, rfl⟩
    obtain ⟨P3, p3⟩ : ∃ q, q = gNu2 k v s (20 + 6 * nr + 3) 1 60 P2 := ⟨_, rfl⟩
    obtain ⟨P4, p4⟩ : ∃ q, q = gNu2 k v s (20 + 6 * nr + 4) 0 9999 P3 := ⟨_, rfl⟩
    obtain ⟨P5, p5⟩ : ∃ q, q = gPut (20 + 6 * nr + 5) 0 P4 := ⟨_, rfl⟩
    obtain ⟨P6, p6⟩ : ∃ q, q = gNee k v s (20 + 6 * nr + 5) P5 := ⟨_, rfl⟩
    rw [← p0, ← p1, ← p2, ← p3, ← p4, ← p5, ← p6] at he ⊢
    have e6 : P6.2.1 = 0 := he
    have e5 : P5.2.1 = 0 := gNee_e (by rw [← p6]; exact e6)
    have e4 : P4.2.1 = 0 := by rw [p5] at e5; exact e5
    have e3 : P3.2.1 = 0 := by rw [p4] at e4; exact (gNum_0 e4).1
    have e2 : P2.2.1 = 0 := by rw [p3] at e3; exact (gNum_0 e3).1
    have e1 : P1.2.1 = 0 := by rw [p2] at e2; exact (gNum_0 e2).1
    have e0 : P0.2.1 = 0 := by rw [p1] at e1; exact (gNum_0 e1).1
    have i0 : gI P0 nr := by rw [p0]; exact (h.mv (P2 := gStp P) (Nat.le_succ _) rfl).cod h8 (by rw [← p0]; exact e0)
    have i1 : gI P1 nr := by rw [p1]; exact i0.nu2 (by omega) (by rw [← p1]; exact e1)
    have i2 : gI P2 nr := by rw [p2]; exact i1.nu2 (by omega) (by rw [← p2]; exact e2)
    have i3 : gI P3 nr := by rw [p3]; exact i2.nu2 (by omega) (by rw [← p3]; exact e3)
    have i4 : gI P4 nr := by rw [p4]; exact i3.nu2 (by omega) (by rw [← p4]; exact e4)
    have i5 : gI P5 nr := by rw [p5]; exact i4.put (by omega)
    have v2 : ∃ a, a ≤ 60 ∧ P2.2.2.2.1 (20 + 6 * nr + 2) = nI a := by
      rw [p2]
      obtain ⟨a, a1, a2⟩ : ∃ a, a ≤ 60 ∧ (gNum k v s 1 60 P1).1 = nI a := gNv (hi := 60) (by decide) (by decide) (by rw [p2] at e2; exact e2)
      exact ⟨a, a1, by rw [gNu2_dr, upd_same]; exact a2⟩
    have v3 : ∃ a, a ≤ 60 ∧ P3.2.2.2.1 (20 + 6 * nr + 3) = nI a := by
      rw [p3]
      obtain ⟨a, a1, a2⟩ : ∃ a, a ≤ 60 ∧ (gNum k v s 1 60 P2).1 = nI a := gNv (hi := 60) (by decide) (by decide) (by rw [p3] at e3; exact e3)
      exact ⟨a, a1, by rw [gNu2_dr, upd_same]; exact a2⟩
    have hn := gI.nee h8 (k := k) (v := v) (s := s) i5 (by rw [p5]; exact ⟨0, by decide, upd_same⟩) (by rw [← p6]; exact e6)
    rw [← p6] at hn
    obtain ⟨i6, v5⟩ := hn
    have k3 : P3.2.2.2.1 (20 + 6 * nr + 2) = P2.2.2.2.1 (20 + 6 * nr + 2) := by rw [p3, gNu2_dr, upd_ne9 (by omega)]
    have k4 : ∀ i, i ≠ 20 + 6 * nr + 4 → P4.2.2.2.1 i = P3.2.2.2.1 i := fun i hi => by rw [p4, gNu2_dr, upd_ne9 hi]
    have k5 : ∀ i, i ≠ 20 + 6 * nr + 5 → P6.2.2.2.1 i = P4.2.2.2.1 i := fun i hi => by
      rw [p6, gNee_dr hi, p5]; exact upd_ne9 hi
    have w2 : P6.2.2.2.1 (20 + 6 * nr + 2) = P2.2.2.2.1 (20 + 6 * nr + 2) := by rw [k5 _ (by omega), k4 _ (by omega), k3]
    have w3 : P6.2.2.2.1 (20 + 6 * nr + 3) = P3.2.2.2.1 (20 + 6 * nr + 3) := by rw [k5 _ (by omega), k4 _ (by omega)]
    obtain ⟨a, b, -, d, e, f, g⟩ := i6
    have ne : ∀ i, i ≠ 2 → (gPut 2 (nI (nr + 1)) P6).2.2.2.1 i = P6.2.2.2.1 i := fun i hi => upd_ne9 (d := P6.2.2.2.1) hi
    unfold gI
    rw [ne 0 (by decide), ne 1 (by decide), ne 2002 (by decide)]
    refine ⟨a, b, ⟨by omega, (show upd P6.2.2.2.1 2 (nI (nr + 1)) 2 = _ from upd_same)⟩, fun r hr => ?_, fun i hi => ?_, f, g⟩
    · unfold gR1
      rw [ne (20 + 6 * r + 5) (by omega), ne (20 + 6 * r + 2) (by omega), ne (20 + 6 * r + 3) (by omega)]
      by_cases c9 : r < nr
      · exact d r c9
      · rw [show r = nr by omega]
        exact ⟨v5, by rw [w2]; exact v2, by rw [w3]; exact v3⟩
    · have : i ≠ 2 := by unfold gZ at hi; omega
      rw [ne i this]; exact e i hi
theorem gI.sco {k v s : Nat → Int32} {nr f : Nat} {P : yPs} (h : gI P nr) (he : (gSco k v s f P).2.1 = 0) : gI (gSco k v s f P) nr := by
  have had := gSum_ad2 (f := f) (gPar_ad2 (k := k) (v := v) (s := s) (f := f) 4) (gPut 9 1 (gOnc s 2002 P)) he
  obtain ⟨e1, e2, e3⟩ := had
  obtain ⟨o1, o2, o3⟩ := gOnc_0 (show (gOnc s 2002 P).2.1 = 0 from e1)
  have hcd : P.2.2.2.2 = [] := h.2.2.2.2.2.1 o2
  obtain ⟨k1, k2⟩ := gSco_ok hcd he
  have dr : (gSco k v s f P).2.2.2.1 = upd (upd P.2.2.2.1 2002 1) 9 1 := by
    unfold gSco
    rw [gSum_d (gPar_d 4), o3]; rfl
  have lc : (gPut 9 1 (gOnc s 2002 P)).2.2.2.2 = [] := by
    show (gOnc s 2002 P).2.2.2.2 = []
    rw [gOnc_cd, hcd]
  have ne : ∀ i, i ≠ 9 → i ≠ 2002 → (gSco k v s f P).2.2.2.1 i = P.2.2.2.1 i := fun i h1 h2 => by rw [dr, upd_ne9 h1, upd_ne9 h2]
  have e9 : (gSco k v s f P).2.2.2.1 2002 = 1 := gSco_d
  have ln : 2 * (cC (gSco k v s f P).2.2.2.2).length ≤ 3 * (gSco k v s f P).1 + 1 := by
    have e3 : 2 * (cC (gSco k v s f P).2.2.2.2).length + 3 * (gPut 9 1 (gOnc s 2002 P)).1 ≤ 2 * (cC (gPut 9 1 (gOnc s 2002 P)).2.2.2.2).length + 3 * (gSco k v s f P).1 + 1 := e3
    rw [lc] at e3
    have : (cC []).length = 0 := rfl
    omega
  obtain ⟨a, b, ⟨c1, c2⟩, d, e, -, -⟩ := h
  unfold gI
  rw [ne 0 (by decide) (by decide), ne 1 (by decide) (by decide), ne 2 (by decide) (by decide), e9]
  refine ⟨a, b, ⟨c1, c2⟩, fun r hr => ?_, fun i hi => ?_, fun q => absurd q (by decide), fun _ => ⟨k1, k2, ln⟩⟩
  · unfold gR1
    rw [ne (20 + 6 * r + 5) (by omega) (by omega), ne (20 + 6 * r + 2) (by omega) (by omega), ne (20 + 6 * r + 3) (by omega) (by omega)]
    exact d r hr
  · have : i ≠ 9 ∧ i ≠ 2002 := by unfold gZ at hi; omega
    rw [ne i this.1 this.2]; exact e i hi
theorem gI.sta {k v s : Nat → Int32} {f nr : Nat} {P : yPs} (h : gI P nr) (he : (gSta k v s f P).2.1 = 0) : ∃ nr2, gI (gSta k v s f P) nr2 := by
  have main : ∀ P2 : yPs, (P2.2.1 = 0 → ∃ n2, gI P2 n2) → (gTak k s 59 P2).2.1 = 0 → ∃ n2, gI (gTak k s 59 P2) n2 := fun P2 m q => by
    obtain ⟨q1, -, q3⟩ := gTak_0 q
    rw [q3]
    obtain ⟨n2, m2⟩ := m q1
    exact ⟨n2, m2.mv (Nat.le_succ _) rfl⟩
  unfold gSta at he ⊢
  have ht : tn (P.2.2.2.1 2) = nr := by rw [h.2.2.1.2, tn_nI (by have := h.2.2.1.1; omega)]
  split at he
  · rename_i c; rw [if_pos c]
    refine main _ (fun q => ⟨nr, ?_⟩) he
    unfold gPrt at q ⊢
    have q2 : (gNu2 k v s 0 1 4 (gOnc s 2000 P)).2.1 = 0 := (gNum_0 q).1
    have q1 : (gOnc s 2000 P).2.1 = 0 := (gNum_0 q2).1
    exact ((h.onc (by omega) q1).p01 (Or.inl rfl) q2).p01 (Or.inr rfl) q
  · rename_i c1
    rw [if_neg c1]
    split at he
    · rename_i c
      rw [if_pos c, ht]; rw [ht] at he
      exact main _ (fun q => ⟨nr + 1, h.rea q⟩) he
    · rename_i c2
      rw [if_neg c2]
      split at he
      · rename_i c; rw [if_pos c]
        refine main _ (fun q => ⟨nr, ?_⟩) he
        unfold gFee at q ⊢
        have q2 : (gNu2 k v s 6 0 999 (gOnc s 2001 P)).2.1 = 0 := (gNum_0 q).1
        have q1 : (gOnc s 2001 P).2.1 = 0 := (gNum_0 q2).1
        exact ((h.onc (by omega) q1).nu2 (by omega) q2).nu2 (by omega) q
      · rename_i c3
        rw [if_neg c3]
        split at he
        · rename_i c; rw [if_pos c]; exact main _ (fun q => ⟨nr, h.sco q⟩) he
        · rename_i c4
          rw [if_neg c4]
          split at he
          · rename_i c; rw [if_pos c]
            refine main _ (fun q => ⟨nr, ?_⟩) he
            unfold gLim at q ⊢
            have q1 : (gOnc s 2003 P).2.1 = 0 := (gNum_0 q).1
            exact (h.onc (by omega) q1).nu2 (by omega) q
          · rename_i c5
            exact absurd (gTak_0 he).1 (gErr_e (by decide))
theorem gI.all {k v s : Nat → Int32} {f : Nat} : ∀ (g : Nat) (P : yPs) (nr : Nat), (P.2.1 = 0 → gI P nr) → (gAll k v s f g P).2.1 = 0 → ∃ nr2, gI (gAll k v s f g P) nr2
  | 0, P, nr, h, he => ⟨nr, h he⟩
  | g + 1, P, nr, h, he => by
    unfold gAll at he ⊢
    split at he
    · rename_i c
      rw [if_pos c]
      by_cases c2 : (gSta k v s f P).2.1 = 0
      · obtain ⟨n2, h2⟩ := (h c.1).sta c2
        exact gI.all g _ n2 (fun _ => h2) he
      · exact gI.all g _ 0 (fun q => absurd q c2) he
    · rename_i c
      rw [if_neg c]
      exact ⟨nr, h he⟩
theorem gI_0 : gI gP0 0 := by
  refine ⟨⟨1, by decide, rfl⟩, ⟨1, by decide, rfl⟩, ⟨by decide, rfl⟩, fun r hr => absurd hr (by omega), fun j hj => ?_, fun _ => rfl, fun q => absurd rfl q⟩
  have h0 : j ≠ 0 ∧ j ≠ 1 ∧ j ≠ 8 := by unfold gZ at hj; omega
  show (if j = 0 then 1 else if j = 1 then 1 else if j = 8 then 100 else (0 : Int32)) = 0
  rw [if_neg h0.1, if_neg h0.2.1, if_neg h0.2.2]
/-- the ranges of a text that was read without error -/
theorem gI_txt {b : Nat → Int32} {len : Nat} (h : (gTxt b len).2.1 = 0) : ∃ nr, gI (gTxt b len) nr := gI.all _ _ 0 (fun _ => gI_0) h
