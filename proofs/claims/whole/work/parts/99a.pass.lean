theorem end_keep {d : Nat → Int32} {k i m : Nat} {W b : Prop} [Decidable W] [Decidable b] {j : Nat} (h1 : j ≠ 11) (h2 : j ≠ 12 + i) (h3 : j ≠ 16 + m) (h5 : j ≠ 164 + 8 * k + 5) (h6 : j ≠ 164 + 8 * k + 6) (h7 : j ≠ 164 + 8 * k + 7) : endD d k i m W b j = d j := by
  have g : giveD d k i m W j = d j := by
    unfold giveD give1D give0D
    by_cases w : W
    · rw [if_pos w, pay_n h2 h3]
      split
      · rfl
      · rw [upd_ne9 h7, pay_n h2 h3]
    · rw [if_neg w]
      split
      · rw [upd_ne9 h7, pay_n h3 h2]
      · rfl
  unfold endD arbD
  rw [upd_ne9 h6, upd_ne9 h5]
  split
  · rw [pay_n (by split <;> assumption) h1]; exact g
  · exact g
theorem end_st {d : Nat → Int32} {k i m : Nat} {W b : Prop} [Decidable W] [Decidable b] : ¬ endD d k i m W b (164 + 8 * k + 5) < 4 := by
  unfold endD
  rw [upd_ne9 (by omega), upd_same]
  split <;> decide
section EB6
variable {σ B : yI} {it : Nat → Int32} {len : Nat} {d : Nat → Int32} {ni nm nr np nd : Nat} {cd : List Int32}
/-- the deadlines while a day ends: up to j all are looked at -/
def eTj (d : Nat → Int32) (nd t j : Nat) : Prop := d 5 = nI t ∧ ∀ k, k < nd → d (164 + 8 * k + 5) < 4 → ∃ e, d (164 + 8 * k + 6) = nI e ∧ (if k < j then t else t - 1) ≤ e ∧ e ≤ t + 60
theorem eT_day (h : eB σ B it len d ni nm nr np nd cd) {t : Nat} (ht : t < 9999) (h0 : eTj d nd t nd) : ∀ n, n ≤ nd → eTj (pdS d cd n).1 nd (t + 1) n
  | 0, _ => by
    refine ⟨?_, fun k hk hs => ?_⟩
    · show upd d 5 (d 5 + 1) 5 = _
      rw [upd_same, h0.1]; exact nI_1 t
    · have hs : upd d 5 (d 5 + 1) (164 + 8 * k + 5) < 4 := hs
      rw [upd_ne9 (by omega)] at hs
      obtain ⟨e, e1, e2, e3⟩ := h0.2 k hk hs
      rw [if_pos hk] at e2
      refine ⟨e, ?_, ?_, by omega⟩
      · show upd d 5 (d 5 + 1) (164 + 8 * k + 6) = _
        rw [upd_ne9 (by omega)]; exact e1
      · rw [if_neg (Nat.not_lt_zero _)]; omega
  | n + 1, hn => by
    obtain ⟨h5, hj⟩ := eT_day h ht h0 n (by omega)
    obtain ⟨h1, -⟩ := eq_daS h n (by omega)
    have nd20 := h1.1.2.2.2.2.2.2
    unfold pdS
    by_cases c : duP (pdS d cd n).1 n
    · rw [if_pos c]
      obtain ⟨p, i, m, r, e9, ne, x1, x2, x3, x4, x5, x6, y1, y2, y3, y4, -⟩ := h1.k (k := n) (by omega)
      have ni4 := h1.1.1.2.2
      have nm4 := h1.1.2.1.2.2
      show eTj (endD _ n _ _ _ _) nd (t + 1) (n + 1)
      rw [x2, x3]
      refine ⟨by rw [end_keep (by omega) (by omega) (by omega) (by omega) (by omega) (by omega)]; exact h5, fun k hk hs => ?_⟩
      by_cases e : k = n
      · subst e; exact absurd hs end_st
      · rw [end_keep (by omega) (by omega) (by omega) (by omega) (by omega) (by omega)] at hs
        obtain ⟨e, e1, e2, e3⟩ := hj k hk hs
        refine ⟨e, by rw [end_keep (by omega) (by omega) (by omega) (by omega) (by omega) (by omega)]; exact e1, ?_, e3⟩
        by_cases q : k < n
        · rw [if_pos q] at e2; rw [if_pos (by omega)]; exact e2
        · rw [if_neg q] at e2; rw [if_neg (by omega)]; exact e2
    · rw [if_neg c]
      refine ⟨h5, fun k hk hs => ?_⟩
      obtain ⟨e, e1, e2, e3⟩ := hj k hk hs
      refine ⟨e, e1, ?_, e3⟩
      by_cases q : k < n
      · rw [if_pos q] at e2; rw [if_pos (by omega)]; exact e2
      · by_cases q2 : k = n
        · subst q2
          rw [if_pos (by omega)]
          have : ¬ (pdS d cd k).1 (164 + 8 * k + 6) < (pdS d cd k).1 5 := fun w => c ⟨hs, w⟩
          rw [e1, h5, nI_ltI (by omega) (by omega)] at this
          omega
        · rw [if_neg q] at e2; rw [if_neg (by omega)]; exact e2
theorem eT_pass (h : eB σ B it len d ni nm nr np nd cd) {t : Nat} (h0 : eTj d nd t nd) : ∀ n, t + n ≤ 9999 → eTj (pmS d cd nd n).1 nd (t + n) nd
  | 0, _ => h0
  | n + 1, hn => by
    obtain ⟨h1, -⟩ := eq_paS h n
    have h2 := eT_pass h h0 n (by omega)
    exact eT_day h1 (by omega) h2 nd (Nat.le_refl _)
theorem eT.j (h : eT d nd) : ∃ t, t ≤ 9999 ∧ eTj d nd t nd := by
  obtain ⟨t, t1, t2, t3⟩ := h
  exact ⟨t, t1, t2, fun k hk hs => by
    obtain ⟨e, e1, e2, e3⟩ := t3 k hk hs
    exact ⟨e, e1, by rw [if_pos hk]; exact e2, e3⟩⟩
theorem eTj.t {t : Nat} (h : eTj d nd t nd) (ht : t ≤ 9999) : eT d nd := ⟨t, ht, h.1, fun k hk hs => by
  obtain ⟨e, e1, e2, e3⟩ := h.2 k hk hs
  rw [if_pos hk] at e2
  exact ⟨e, e1, e2, e3⟩⟩
theorem eq_pass (h : eB σ B it len d ni nm nr np nd cd) (ht : eT d nd) {dy : Nat} (hdy : dy ≤ 100) (hb : d 5 + nI dy ≤ 9999) : eT (pmS d cd nd dy).1 nd := by
  obtain ⟨t, t1, t2⟩ := ht.j
  have : t + dy ≤ 9999 := by
    rw [t2.1, nI_add] at hb
    exact (nI_leI (b := 9999) (by omega) (by decide)).mp hb
  exact (eT_pass h t2 dy this).t this
theorem eT.opn (h : eT d nd) : opn d nd 200 := by
  obtain ⟨t, t1, t2, t3⟩ := h
  refine ⟨by rw [t2, nI_toInt (by omega)]; omega, by rw [t2, nI_toInt (by omega)]; omega, fun k hk hs => ?_⟩
  obtain ⟨e, e1, e2, e3⟩ := t3 k hk hs
  rw [t2, e1, nI_toInt (by omega), nI_toInt (by omega)]
  omega
theorem sm_pt {f g : Nat → Int32} {k : Nat} : ∀ n, k < n → (∀ j, j ≠ k → g j = f j) → sm g n = sm f n - f k + g k
  | 0, h, _ => absurd h (Nat.not_lt_zero _)
  | n + 1, h, e => by
    unfold sm
    by_cases q : k = n
    · subst q
      rw [sm_cg (f := g) (g := f) k (fun j hj => e j (by omega))]
      grind
    · rw [sm_pt n (by omega) e, e n (by omega)]
      grind
theorem sm_0 {f : Nat → Int32} : ∀ n, (∀ j, j < n → f j = 0) → sm f n = 0
  | 0, _ => rfl
  | n + 1, h => by unfold sm; rw [sm_0 n (fun j hj => h j (by omega)), h n (by omega)]; decide
/-- what a merchant will have when all is over -/
def phB (σ : yI) (it : Nat → Int32) (len : Nat) (B : yI) (nd mr : Nat) : Int32 := B 2 mr + sm (fun k => if B 4 (tn (B 7 k)) = nI mr ∧ ¬ (B 12 k = 4 ∨ B 12 k = 5) then gainB σ B k (idO σ it len B k) else 0) nd
theorem ph_day {mr : Nat} {x : Int32} : phB σ it len (up2 B 0 1 x) nd mr = phB σ it len B nd mr := rfl
theorem ph_fin (h : eB σ B it len d ni nm nr np nd cd) {k mr : Nat} (hk : k < nd) (hmr : mr < nm) (ho : ¬ (B 12 k = 4 ∨ B 12 k = 5)) : phB σ it len (finB σ B k (idO σ it len B k)) nd mr = phB σ it len B nd mr := by
  obtain ⟨p, i, m, r, e9, ne, x1, x2, x3, x4, x5, x6, y1, y2, y3, y4, y5, y6, z1, z2, z3, z4, z5, z6, -⟩ := h.k hk
  have ni4 := h.1.1.2.2
  have nm4 := h.1.2.1.2.2
  have np24 := h.1.2.2.2.1.2.2
  obtain ⟨b0, ⟨b1, b2, b3, b4⟩, b5, b6, b7, b8, b9⟩ := finB_U (σ := σ) (o := idO σ it len B k) z1 z4 z5 (by omega) (show i < 4 by omega) (show m < 4 by omega)
  obtain ⟨B2, hB2⟩ : ∃ B2, B2 = finB σ B k (idO σ it len B k) := ⟨_, rfl⟩
  rw [← hB2] at b0 b1 b2 b3 b4 b5 b6 b7 b8 b9 ⊢
  have r4 : B2 4 = B 4 := b0 4 (by decide) (by decide) (by decide) (by decide) (by decide) (by decide)
  have r6 : B2 6 = B 6 := b0 6 (by decide) (by decide) (by decide) (by decide) (by decide) (by decide)
  have r7 : B2 7 = B 7 := b0 7 (by decide) (by decide) (by decide) (by decide) (by decide) (by decide)
  have r8 : B2 8 = B 8 := b0 8 (by decide) (by decide) (by decide) (by decide) (by decide) (by decide)
  have r9 : B2 9 = B 9 := b0 9 (by decide) (by decide) (by decide) (by decide) (by decide) (by decide)
  have r10 : B2 10 = B 10 := b0 10 (by decide) (by decide) (by decide) (by decide) (by decide) (by decide)
  have r11 : B2 11 = B 11 := funext fun j => by
    rw [b7 j]
    by_cases q : j = k
    · rw [if_pos q, q]
    · rw [if_neg q]
  have r12 : ∀ j, j ≠ k → B2 12 j = B 12 j := fun j hj => by rw [b8 j, if_neg hj]
  have r12k : B2 12 k = idO σ it len B k := by rw [b8 k, if_pos rfl]
  have hid : idO σ it len B k = 4 ∨ idO σ it len B k = 5 := by
    unfold idO
    split
    · exact Or.inr rfl
    · split
      · split
        · exact Or.inr rfl
        · exact Or.inl rfl
      · exact Or.inl rfl
  unfold phB
  rw [sm_pt (k := k) (f := fun k => if B 4 (tn (B 7 k)) = nI mr ∧ ¬ (B 12 k = 4 ∨ B 12 k = 5) then gainB σ B k (idO σ it len B k) else 0) nd hk (fun j hj => ?_)]
  · have e1 : nI m = nI mr ↔ m = mr := nI_eq (by omega) (by omega)
    show B2 2 mr + (_ - (if B 4 (tn (B 7 k)) = nI mr ∧ ¬ (B 12 k = 4 ∨ B 12 k = 5) then gainB σ B k (idO σ it len B k) else 0) + (if B2 4 (tn (B2 7 k)) = nI mr ∧ ¬ (B2 12 k = 4 ∨ B2 12 k = 5) then gainB σ B2 k (idO σ it len B2 k) else 0)) = _
    rw [if_neg (show ¬ (B2 4 (tn (B2 7 k)) = nI mr ∧ ¬ (B2 12 k = 4 ∨ B2 12 k = 5)) from fun q => q.2 (by rw [r12k]; exact hid)), b6 mr, z1, tn_nI (by omega), z5]
    by_cases q : mr = m
    · subst q
      rw [if_pos rfl, if_pos ⟨rfl, ho⟩]
      grind
    · rw [if_neg q, if_neg (fun w => q (e1.mp w.1).symm)]
      grind
  · show (if B2 4 (tn (B2 7 j)) = nI mr ∧ ¬ (B2 12 j = 4 ∨ B2 12 j = 5) then gainB σ B2 j (idO σ it len B2 j) else 0) = (if B 4 (tn (B 7 j)) = nI mr ∧ ¬ (B 12 j = 4 ∨ B 12 j = 5) then gainB σ B j (idO σ it len B j) else 0)
    have e1 : idO σ it len B2 j = idO σ it len B j := by
      unfold idO cvP scV
      rw [r12 j hj, r11, r6, r7, r8, r9, r10]
    have e2 : ∀ o, gainB σ B2 j o = gainB σ B j o := fun o => by
      unfold gainB
      rw [r12 j hj, r9]
    rw [e1, e2, r12 j hj, r4, r7]
theorem ph_daS (h : eB σ B it len d ni nm nr np nd cd) {mr : Nat} (hmr : mr < nm) : ∀ n, n ≤ nd → phB σ it len (daS σ it len B n).1 nd mr = phB σ it len B nd mr
  | 0, _ => rfl
  | n + 1, hn => by
    obtain ⟨h1, -⟩ := eq_daS h n (by omega)
    have ih := ph_daS h hmr n (by omega)
    unfold daS
    split
    · rename_i c
      rw [← ih]; exact ph_fin h1 (by omega) hmr c.1
    · exact ih
theorem ph_paS (h : eB σ B it len d ni nm nr np nd cd) {mr : Nat} (hmr : mr < nm) : ∀ t, phB σ it len (paS σ it len B nd t).1 nd mr = phB σ it len B nd mr
  | 0 => rfl
  | t + 1 => by
    obtain ⟨h1, -⟩ := eq_paS h t
    rw [← ph_paS h hmr t]
    exact ph_daS h1 hmr nd (Nat.le_refl _)
theorem eq_set (h : eB σ B it len d ni nm nr np nd cd) {C : Nat → Int32} (hC : ∀ j, j < 1824 → C j = d j) {mr t : Nat} (hmr : mr < nm) (hf : ∀ k, k < nd → ¬ (pmS C cd nd t).1 (164 + 8 * k + 5) < 4) : phB σ it len B nd mr = (pmS C cd nd t).1 (16 + mr) := by
  have h1 := h.cgD hC
  obtain ⟨h2, -⟩ := eq_paS h1 t
  have nm4 := h.1.2.1.2.2
  rw [← ph_paS h1 hmr t, ← (h2.2.2.1 mr (by omega)).2]
  unfold phB
  rw [sm_0 nd (fun k hk => if_neg (fun q => q.2 ((eq_fin h2 hk).mpr (hf k hk))))]
  grind
end EB6
