/-- what is used of the number of types in a set -/
def pcH (pc : Nat → Nat) : Prop := (∀ s, s < 256 → pc s ≤ 8) ∧ (∀ s, s < 255 → s ||| (s + 1) < 256 ∧ pc (s ||| (s + 1)) = pc s + 1 ∧ s ||| (s ||| (s + 1)) = s ||| (s + 1)) ∧ pc 255 = 8
theorem pcH_31 : pcH (popc 31) := ⟨popc_8, nx_1, pc_p8⟩
theorem nx_ok {pc : Nat → Nat} (H : pcH pc) : ∀ (j s : Nat), s < 256 → pc s + j ≤ 8 → nxS j s < 256 ∧ pc (nxS j s) = pc s + j ∧ s ||| nxS j s = nxS j s
  | 0, s, hs, _ => ⟨hs, rfl, Nat.or_self s⟩
  | j + 1, s, hs, hp => by
    have h255 : s < 255 := by
      rcases Nat.lt_or_ge s 255 with q | q
      · exact q
      · have : s = 255 := by omega
        subst this
        have := H.2.2
        omega
    obtain ⟨a1, a2, a3⟩ := H.2.1 s h255
    obtain ⟨b1, b2, b3⟩ := nx_ok H j (s ||| (s + 1)) a1 (by omega)
    refine ⟨b1, by show pc (nxS j (s ||| (s + 1))) = _; rw [b2, a2]; omega, ?_⟩
    show s ||| nxS j (s ||| (s + 1)) = nxS j (s ||| (s + 1))
    rw [← b3, ← Nat.or_assoc, ← Nat.or_assoc, Nat.or_self]
/-- the class's search: the first of the sets that convinces -/
theorem lst_eq {pc : Nat → Nat} (H : pcH pc) {P : Int32 → Prop} [DecidablePred P] : ∀ (f s : Nat), s < 256 → pc s + f = 9 → (∃ j, pc s + j ≤ 8 ∧ P (nI (nxS j s)) ∧ (∀ i, i < j → ¬ P (nI (nxS i s))) ∧ lstS P f (nI s) = nI (nxS j s)) ∨ ((∀ j, pc s + j ≤ 8 → ¬ P (nI (nxS j s))) ∧ lstS P f (nI s) = -1)
  | 0, s, hs, h => by have := H.1 s hs; omega
  | f + 1, s, hs, h => by
    unfold lstS
    rw [if_pos (show nI s ≤ 255 from (nI_leI (b := 255) (by omega) (by decide)).mpr (by omega))]
    by_cases c : P (nI s)
    · rw [if_pos c]
      exact Or.inl ⟨0, by omega, c, fun i hi => absurd hi (Nat.not_lt_zero _), rfl⟩
    · rw [if_neg c]
      have e1 : nI s ||| (nI s + 1) = nI (s ||| (s + 1)) := by rw [nI_1, nI_or]
      rw [e1]
      by_cases q : s = 255
      · subst q
        have p8 := H.2.2
        have f0 : f = 0 := by omega
        subst f0
        refine Or.inr ⟨fun j hj => ?_, rfl⟩
        have : j = 0 := by omega
        subst this
        exact c
      · obtain ⟨a1, a2, a3⟩ := H.2.1 s (by omega)
        rcases lst_eq H (P := P) f (s ||| (s + 1)) a1 (by omega) with ⟨j, j1, j2, j3, j4⟩ | ⟨j1, j2⟩
        · refine Or.inl ⟨j + 1, by omega, j2, fun i hi => ?_, j4⟩
          rcases i with _ | i
          · exact c
          · exact j3 i (by omega)
        · refine Or.inr ⟨fun j hj => ?_, j2⟩
          rcases j with _ | j
          · exact c
          · exact j1 j (by omega)
theorem lst_more {pc : Nat → Nat} (H : pcH pc) {P : Int32 → Prop} [DecidablePred P] : ∀ (f g s : Nat), s < 256 → 9 ≤ pc s + f → 9 ≤ pc s + g → lstS P f (nI s) = lstS P g (nI s)
  | 0, g, s, hs, h, _ => by have := H.1 s hs; omega
  | f + 1, 0, s, hs, _, h => by have := H.1 s hs; omega
  | f + 1, g + 1, s, hs, h1, h2 => by
    unfold lstS
    have hle : nI s ≤ 255 := (nI_leI (b := 255) (by omega) (by decide)).mpr (by omega)
    rw [if_pos hle, if_pos hle, nI_1, nI_or]
    by_cases c : P (nI s)
    · rw [if_pos c, if_pos c]
    · rw [if_neg c, if_neg c]
      by_cases q : s = 255
      · subst q
        rw [nx_255]
        have z : ∀ f, lstS P f (nI 511) = -1 := fun f => by
          cases f with
          | zero => rfl
          | succ f => unfold lstS; rw [if_neg (show ¬ nI 511 ≤ 255 by decide)]
        rw [z f, z g]
      · obtain ⟨a1, a2, a3⟩ := H.2.1 s (by omega)
        exact lst_more H f g _ a1 (by omega) (by omega)
theorem lst_any {pc : Nat → Nat} (H : pcH pc) {P : Int32 → Prop} [DecidablePred P] {s : Nat} (hs : s < 256) : (∃ j, pc s + j ≤ 8 ∧ P (nI (nxS j s)) ∧ (∀ i, i < j → ¬ P (nI (nxS i s))) ∧ lstS P 9 (nI s) = nI (nxS j s)) ∨ ((∀ j, pc s + j ≤ 8 → ¬ P (nI (nxS j s))) ∧ lstS P 9 (nI s) = -1) := by
  have h8 := H.1 s hs
  rw [lst_more H 9 (9 - pc s) s hs (by omega) (by omega)]
  exact lst_eq H (9 - pc s) s hs (by omega)
/-- the model's search -/
theorem bst_eq {W : Nat → Prop} [DecidablePred W] {own : Int32} : ∀ n, match bst W own n with
    | none => ∀ e, e < n → ¬ (own &&& (nI e ^^^ -1) = 0 ∧ W e)
    | some f => f < n ∧ (own &&& (nI f ^^^ -1) = 0 ∧ W f) ∧ ∀ e, e < n → (own &&& (nI e ^^^ -1) = 0 ∧ W e) → popc 31 f < popc 31 e ∨ (popc 31 f = popc 31 e ∧ f ≤ e)
  | 0 => fun e he => absurd he (Nat.not_lt_zero _)
  | n + 1 => by
    have ih := bst_eq (W := W) (own := own) n
    unfold bst
    by_cases c : own &&& (nI n ^^^ -1) = 0 ∧ btB (bst W own n) n = true ∧ W n
    · rw [if_pos c]
      refine ⟨by omega, ⟨c.1, c.2.2⟩, fun e he hw => ?_⟩
      by_cases q : e = n
      · subst q; exact Or.inr ⟨rfl, Nat.le_refl _⟩
      · revert ih c
        cases hb : bst W own n with
        | none => intro ih c; exact absurd hw (ih e (by omega))
        | some f =>
          intro ih c
          have h1 := btB_s.mp c.2.1
          rcases ih.2.2 e (by omega) hw with w | w
          · exact Or.inl (by omega)
          · exact Or.inl (by omega)
    · rw [if_neg c]
      revert ih c
      cases hb : bst W own n with
      | none =>
        intro ih c e he hw
        by_cases q : e = n
        · subst q; exact c ⟨hw.1, rfl, hw.2⟩
        · exact ih e (by omega) hw
      | some f =>
        intro ih c
        refine ⟨by have := ih.1; omega, ih.2.1, fun e he hw => ?_⟩
        by_cases q : e = n
        · subst q
          have h1 : ¬ popc 31 e < popc 31 f := fun w => c ⟨hw.1, btB_s.mpr w, hw.2⟩
          have := ih.1
          rcases Nat.lt_or_ge (popc 31 f) (popc 31 e) with w | w
          · exact Or.inl w
          · exact Or.inr ⟨by omega, by omega⟩
        · exact ih.2.2 e (by omega) hw
theorem or_sub {a b e : Nat} : (a ||| b) ||| e = e ↔ a ||| e = e ∧ b ||| e = e := by
  constructor
  · intro h
    constructor
    · rw [← h, ← Nat.or_assoc, ← Nat.or_assoc, Nat.or_self]
    · rw [← h, ← Nat.or_assoc, ← Nat.or_assoc, Nat.or_comm b a, Nat.or_assoc a b b, Nat.or_self]
  · intro ⟨h1, h2⟩
    rw [Nat.or_assoc, h2, h1]
section Best
variable {σ B : yI} {it : Nat → Int32} {len : Nat} {d : Nat → Int32} {ni nm nr np nd : Nat} {cd : List Int32}
/-- sets that hold what is needed and have one number of types win alike -/
theorem wn_pc {k p r ne e e2 : Nat} (hn : ne < 256) (he : e < 256) (he2 : e2 < 256) (h1 : ne ||| e = e) (h2 : ne ||| e2 = e2) (hp : popc 31 e = popc 31 e2) (hw : wnM d k p r e ne cd) : wnM d k p r e2 ne cd := by
  refine ⟨?_, (sub_iff ne hn e2 he2).mpr h2⟩
  have hs : scM d k p e2 ne cd = scM d k p e ne cd := by
    unfold scM valM
    rw [pc_or ne hn e he h1, pc_or ne hn e2 he2 h2, hp]
  rw [hs]
  exact hw.1
theorem eq_best (h : eB σ B it len d ni nm nr np nd cd) {k : Nat} (hk : k < nd) : lstS (cvP σ it len B k) 9 (B 11 k ||| σ 9 (tn (B 8 k))) = bI (bst (fun e => wnM d k (pD d k) (rD d k) e (nD d k) cd) (d (164 + 8 * k + 4)) 256) := by
  obtain ⟨p, i, m, r, eo, ne, x1, x2, x3, x4, x5, x6, y1, y2, y3, y4, y5, y6, z1, z2, z3, z4, z5, z6, w1, w2, w3, w4, w5, w6⟩ := h.k hk
  have nr8 := h.1.2.2.1.2.2
  have cv : ∀ e, e < 256 → (cvP σ it len B k (nI e) ↔ wnM d k p r e ne cd) := fun e he => by
    have := eq_cv h hk he
    rw [x1, x4, x6] at this
    exact this
  have e0 : B 11 k ||| σ 9 (tn (B 8 k)) = nI (eo ||| ne) := by rw [z3, z2, tn_nI (by omega), z6, nI_or]
  rw [e0, w3, x1, x4, x6]
  have hb := or_8 eo y5 ne y6
  have sub : ∀ e, e < 256 → ((nI eo &&& (nI e ^^^ -1) = 0 ∧ wnM d k p r e ne cd) ↔ ((eo ||| ne) ||| e = e ∧ wnM d k p r e ne cd)) := fun e he => by
    rw [sub_iff eo y5 e he, or_sub]
    exact ⟨fun q => ⟨⟨q.1, (sub_iff ne y6 e he).mp q.2.2⟩, q.2⟩, fun q => ⟨q.1.1, q.2⟩⟩
  have hbs := bst_eq (W := fun e => wnM d k p r e ne cd) (own := nI eo) 256
  -- 9 rounds are enough from the first set on; the search from a set of more types ends sooner
  have lst9 : ∀ (P : Int32 → Prop) [DecidablePred P] (s : Nat), s < 256 → (∃ j, popc 31 s + j ≤ 8 ∧ P (nI (nxS j s)) ∧ (∀ i, i < j → ¬ P (nI (nxS i s))) ∧ lstS P 9 (nI s) = nI (nxS j s)) ∨ ((∀ j, popc 31 s + j ≤ 8 → ¬ P (nI (nxS j s))) ∧ lstS P 9 (nI s) = -1) := fun P _ s hs => lst_any pcH_31 hs
  have key : ∀ e, e < 256 → ((eo ||| ne) ||| e = e ∧ wnM d k p r e ne cd) → ∃ j, popc 31 (eo ||| ne) + j ≤ 8 ∧ popc 31 e = popc 31 (eo ||| ne) + j ∧ nxS j (eo ||| ne) ≤ e ∧ wnM d k p r (nxS j (eo ||| ne)) ne cd := fun e he hw => by
    obtain ⟨m1, m2⟩ := nx_min _ hb e he hw.1
    have m3 := popc_8 e he
    obtain ⟨n1, n2, n3⟩ := nx_ok pcH_31 (popc 31 e - popc 31 (eo ||| ne)) _ hb (by omega)
    refine ⟨popc 31 e - popc 31 (eo ||| ne), by omega, by omega, m2, wn_pc y6 he n1 (or_sub.mp hw.1).2 (or_sub.mp n3).2 (by rw [n2]; omega) hw.2⟩
  rcases lst9 (cvP σ it len B k) (eo ||| ne) hb with ⟨j, j1, j2, j3, j4⟩ | ⟨j1, j2⟩
  · rw [j4]
    obtain ⟨n1, n2, n3⟩ := nx_ok pcH_31 j _ hb j1
    have hW := (cv _ n1).mp j2
    revert hbs
    cases hb2 : bst (fun e => wnM d k p r e ne cd) (nI eo) 256 with
    | none => intro hbs; exact absurd ((sub _ n1).mpr ⟨n3, hW⟩) (hbs _ n1)
    | some f =>
      intro hbs
      obtain ⟨f1, f2, f3⟩ := hbs
      obtain ⟨i2, i3, i4, i5, i6⟩ := key f f1 ((sub f f1).mp f2)
      have hij : ¬ i2 < j := fun q => j3 i2 q ((cv _ (nx_ok pcH_31 i2 _ hb i3).1).mpr i6)
      have f4 := f3 _ n1 ((sub _ n1).mpr ⟨n3, hW⟩)
      have : i2 = j := by omega
      subst this
      have : f = nxS i2 (eo ||| ne) := by omega
      rw [this]
      rfl
  · rw [j2]
    revert hbs
    cases hb2 : bst (fun e => wnM d k p r e ne cd) (nI eo) 256 with
    | none => intro _; rfl
    | some f =>
      intro hbs
      obtain ⟨f1, f2, f3⟩ := hbs
      obtain ⟨i2, i3, i4, i5, i6⟩ := key f f1 ((sub f f1).mp f2)
      exact absurd ((cv _ (nx_ok pcH_31 i2 _ hb i3).1).mpr i6) (j1 i2 i3)
end Best
