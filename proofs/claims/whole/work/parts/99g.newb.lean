/-- the book of a text that was read without error -/
theorem eB_new {n n2 cnt fr fm k9 w9 : Nat} {sh2 : yS} {k v s : Nat → Int32} {Z B : yI} {P : yPs} {nr : Nat} {d : Nat → Int32}
    (h0 : P.2.1 = 0) (hg : gI P nr) (hc : cnt ≤ 901) (hr : rcP k v s cnt fr fm Z P) (hp : yPh n cnt n2 sh2 k9 w9 fr fm P)
    (hd : ∀ j, j < 324 → j ≠ 10 → d j = P.2.2.2.1 j) (hd10 : d 10 = nI (cC P.2.2.2.2).length) (hdc : ∀ i, i < (cC P.2.2.2.2).length → d (324 + i) = (cC P.2.2.2.2).getD i 0)
    (hB : B 0 1 = 0 ∧ B 0 4 = 0 ∧ B 0 5 = 0 ∧ B 0 10 = 0) (hB2 : ∀ i, i < 4 → B 1 i = 0 ∧ B 2 i = 0)
    {σ : yI} (hσ : ∀ k, (k = 0 ∨ 4 ≤ k) → k < 10 → σ k = Z (5 + k)) :
    ∃ len ni nm, len ≤ fm ∧ Z fr 2 = nI len ∧ (fr = 6 ∨ fr = 15) ∧ fm ≤ 901 ∧ n2 ≤ n + 18 ∧ n + fr + 3 ≤ n2 ∧ ySet sh2 (n + 5) (n + fr) ∧ yFor sh2 (n + fr) fm ∧ (∀ c nn a d s0, fval c nn a d (Z (fr + 1)) s0 len = fval c nn a d (Z (fr + 1)) (fun _ => 0) len) ∧ eB σ B (Z (fr + 1)) len d ni nm nr 0 0 P.2.2.2.2 ∧ eT d 0 ∧ n + 15 ≤ n2 := by
  obtain ⟨hS, hF⟩ := hr
  obtain ⟨hD, hFo, hcd, hlen⟩ := hF h0
  obtain ⟨-, ⟨-, hi⟩, -, -, -, ⟨ln, ln1, ln2⟩, -⟩ := hS
  obtain ⟨-, ⟨z0, z1, z2, z3, z4, z6⟩, hrow, h9⟩ := hD
  obtain ⟨⟨ni, a1, a2⟩, ⟨nm, b1, b2⟩, ⟨c1, c2⟩, hR, hZ, hk0, hk1⟩ := hg
  have s0 : σ 0 = Z 5 := hσ 0 (Or.inl rfl) (by decide)
  have zz : ∀ j, gZ j → j ≠ 10 → d j = 0 := fun j hj h10 => by rw [hd j (by unfold gZ at hj; omega) h10]; exact hZ j hj
  have g3 : d 3 = 0 := zz 3 (by unfold gZ; omega) (by decide)
  have g4 : d 4 = 0 := zz 4 (by unfold gZ; omega) (by decide)
  have g5 : d 5 = 0 := zz 5 (by unfold gZ; omega) (by decide)
  have g11 : d 11 = 0 := zz 11 (by unfold gZ; omega) (by decide)
  have tn2 : tn (P.2.2.2.1 2) = nr := by rw [c2, tn_nI (by omega)]
  have base : ∀ (it : Nat → Int32) (len : Nat), eF it len d P.2.2.2.2 → eB σ B it len d ni nm nr 0 0 P.2.2.2.2 := fun it len hf => by
    refine ⟨⟨⟨by rw [s0, z0]; exact a2, by rw [hd 0 (by decide) (by decide)]; exact a2, a1⟩, ⟨by rw [s0, z1]; exact b2, by rw [hd 1 (by decide) (by decide)]; exact b2, b1⟩, ⟨by rw [s0, z6]; exact c2, by rw [hd 2 (by decide) (by decide)]; exact c2, c1⟩, ⟨hB.2.2.1, g3, by decide⟩, ⟨hB.2.2.2, g4, by decide⟩⟩, ⟨by rw [hB.1, g5], by rw [s0, z2, hd 6 (by decide) (by decide)], by rw [s0, z3, hd 7 (by decide) (by decide)], by rw [s0, z4, hd 8 (by decide) (by decide)], by rw [hB.2.1, g11]⟩, fun i h4 => ⟨by rw [(hB2 i h4).1, zz (12 + i) (by unfold gZ; omega) (by omega)], by rw [(hB2 i h4).2, zz (16 + i) (by unfold gZ; omega) (by omega)]⟩, fun r hr => ?_, fun p hp => absurd hp (by omega), fun k hk => absurd hk (by omega), hf⟩
    have row : ∀ c, c < 6 → σ (4 + c) r = P.2.2.2.1 (20 + 6 * r + c) := fun c hc6 => by
      rw [hσ (4 + c) (Or.inr (by omega)) (by omega), show 5 + (4 + c) = 9 + c by omega]
      exact hrow r (by rw [tn2]; exact hr) c hc6
    obtain ⟨⟨e, e1, e2⟩, ⟨x, x1, x2⟩, ⟨y, y1, y2⟩⟩ := hR r hr
    refine ⟨fun c hc6 => ?_, ⟨e, e1, (row 5 (by decide)).trans e2⟩, ⟨x, x1, (row 2 (by decide)).trans x2⟩, ⟨y, y1, (row 3 (by decide)).trans y2⟩⟩
    rw [row c hc6, hd (20 + 6 * r + c) (by omega) (by omega)]
  have hT : eT d 0 := ⟨0, by decide, g5, fun k hk => absurd hk (by omega)⟩
  have d9 : d 9 = P.2.2.2.1 2002 := by rw [hd 9 (by decide) (by decide), h9]
  rcases hp with ⟨rfl, rfl, e2, -, -, hset, hfor, h2⟩ | ⟨rfl, rfl, e2, -, -, hset, hfor, h2⟩ | ⟨-, -, -, -, -, h2⟩
  · rw [if_neg (by decide)] at hFo
    obtain ⟨f1, f2⟩ := hFo
    have it0 : Z 7 0 = -1 := f2 0 (by decide)
    refine ⟨1, ni, nm, Nat.le_refl _, f1, Or.inl rfl, by decide, by omega, by omega, hset, hfor, ?_, base _ _ (Or.inl ⟨by rw [d9]; exact h2 h0, rfl, it0⟩), hT, by omega⟩
    exact fval_ind (cd := [-1]) rfl (fun j hj => f2 j hj) (by unfold okc; rw [if_neg (by decide)]; exact ⟨by decide, rfl⟩)
  · rw [if_pos rfl] at hFo
    obtain ⟨f1, f2⟩ := hFo
    have n2002 : ¬ P.2.2.2.1 2002 = 0 := h2 h0
    obtain ⟨o1, o2, o3⟩ := hk1 n2002
    have el : ln = P.2.2.2.2.length := nI_eq2 (ln2.symm.trans f1)
    refine ⟨P.2.2.2.2.length, ni, nm, by omega, f1, Or.inr rfl, hc, by omega, by omega, hset, hfor, fval_ind rfl (fun j hj => f2 j hj) o1, base _ _ (Or.inr ⟨by rw [d9]; exact n2002, ?_, o1, rfl, fun j hj => f2 j hj, o2⟩), hT, by omega⟩
    exact cAt_of hd10 (by omega) P.2.2.2.2 0 (by omega) (fun j hj => by rw [Nat.zero_add]; exact hdc j hj) o2
  · exact absurd h0 h2
