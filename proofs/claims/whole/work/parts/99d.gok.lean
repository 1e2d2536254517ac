/-- a piece of the score adds items that are worked off with at most H more on the stack, and leave one -/
def gSeg (H : Nat) (f : yPs → yPs) : Prop := ∀ P, (f P).2.1 = 0 → ∃ x, (f P).2.2.2.2 = P.2.2.2.2 ++ x ∧ (∀ y ∈ x, -8 ≤ y ∧ y ≤ 9999) ∧ ∀ rest t, t + H ≤ 11 → okc 11 rest (t + 1) → okc 11 (x ++ rest) t
theorem gSeg.le {H H2 : Nat} {f : yPs → yPs} (h : gSeg H f) (hh : H ≤ H2) : gSeg H2 f := fun P q => by
  obtain ⟨x, x1, x2, x3⟩ := h P q
  exact ⟨x, x1, x2, fun rest t ht ho => x3 rest t (by omega) ho⟩
theorem gSeg_one {P P2 : yPs} {y : Int32} (e : P2.2.2.2.2 = P.2.2.2.2 ++ [y]) (h1 : ¬ y ≤ -5) (h2 : -8 ≤ y ∧ y ≤ 9999) {H : Nat} (hH : 1 ≤ H) : ∃ x, P2.2.2.2.2 = P.2.2.2.2 ++ x ∧ (∀ y ∈ x, -8 ≤ y ∧ y ≤ 9999) ∧ ∀ rest t, t + H ≤ 11 → okc 11 rest (t + 1) → okc 11 (x ++ rest) t := ⟨[y], e, fun z hz => by rw [List.mem_singleton.mp hz]; exact h2, fun rest t ht ho => by
  show okc 11 (y :: rest) t
  unfold okc
  rw [if_neg h1]
  exact ⟨by omega, ho⟩⟩
theorem gFac_seg {k v s : Nat → Int32} {par : yPs → yPs} {H : Nat} (hH : 1 ≤ H) (hp : gSeg H par) : gSeg H (gFac k v s par) := by
  intro P h
  unfold gFac at h ⊢
  by_cases h0 : P.2.1 = 0
  · rw [if_neg (Decidable.not_not.mpr h0)] at h ⊢
    by_cases h1 : k P.1 = 256
    · rw [if_pos h1] at h ⊢
      obtain ⟨-, -, e, e2, e3⟩ := gNum_0 (P := P) h
      have l1 : ¬ v P.1 < 0 := fun q => e3 (Or.inl q)
      have l2 : v P.1 ≤ 9999 := Decidable.not_not.mp (fun q => e3 (Or.inr q))
      refine gSeg_one (y := (gNum k v s 0 9999 P).1) (by show (gNum k v s 0 9999 P).2.2.2.2.2 ++ [_] = _; rw [e]; rfl) ?_ ?_ hH
      · rw [e2]; exact fun q => l1 (Int32.lt_of_le_of_lt q (by decide))
      · rw [e2]; exact ⟨Int32.le_trans (by decide) (Int32.not_lt.mp l1), l2⟩
    rw [if_neg h1] at h ⊢
    by_cases h2 : k P.1 = 263
    · rw [if_pos h2]; exact gSeg_one (y := -1) rfl (by decide) (by decide) hH
    rw [if_neg h2] at h ⊢
    by_cases h3 : k P.1 = 264
    · rw [if_pos h3]; exact gSeg_one (y := -2) rfl (by decide) (by decide) hH
    rw [if_neg h3] at h ⊢
    by_cases h4 : k P.1 = 265
    · rw [if_pos h4]; exact gSeg_one (y := -3) rfl (by decide) (by decide) hH
    rw [if_neg h4] at h ⊢
    by_cases h5 : k P.1 = 266
    · rw [if_pos h5]; exact gSeg_one (y := -4) rfl (by decide) (by decide) hH
    rw [if_neg h5] at h ⊢
    by_cases h6 : k P.1 = 40
    · rw [if_pos h6] at h ⊢; exact hp P h
    rw [if_neg h6] at h; exact absurd h (gErr_e (by decide))
  · rw [if_pos h0] at h; exact absurd h h0
theorem gLop_seg {k : Nat → Int32} {a b x y : Int32} (hx : x ≤ -5 ∧ -8 ≤ x) (hy : y ≤ -5 ∧ -8 ≤ y) {sub : yPs → yPs} {H : Nat} (hs : gSeg H sub) (ha : gAd2 1 sub) : ∀ (f : Nat) (P : yPs), (gLop k a b x y sub f P).2.1 = 0 → ∃ z, (gLop k a b x y sub f P).2.2.2.2 = P.2.2.2.2 ++ z ∧ (∀ y ∈ z, -8 ≤ y ∧ y ≤ 9999) ∧ ∀ rest t, 1 ≤ t → t + H ≤ 11 → okc 11 rest t → okc 11 (z ++ rest) t
  | 0, P, _ => ⟨[], by rw [List.append_nil]; rfl, fun y hy => absurd hy List.not_mem_nil, fun _ _ _ _ ho => ho⟩
  | f + 1, P, h => by
    unfold gLop at h ⊢
    split at h
    · rename_i hc
      rw [if_pos hc]
      obtain ⟨z, z1, z2, z3⟩ := gLop_seg hx hy hs ha f _ h
      have he : (sub (gStp P)).2.1 = 0 := by
        have := gLop_ad2 (k := k) (a := a) (b := b) (x := x) (y := y) (by
          have c1 : ∀ w : Int32, w ≤ -5 → (cE w).length = 1 := fun w hw => by
            unfold cE
            rw [if_neg (fun q => absurd (Int32.le_trans q hw) (by decide)), if_neg (fun q => absurd (Int32.lt_of_lt_of_le q hw) (by decide))]
            rfl
          exact ⟨c1 x hx.1, c1 y hy.1⟩) ha f _ h
        exact this.1
      obtain ⟨w, w1, w2, w3⟩ := hs _ he
      obtain ⟨o, ho⟩ : ∃ o, o = if k P.1 = a then x else y := ⟨_, rfl⟩
      have o1 : o ≤ -5 ∧ -8 ≤ o := by
        rw [ho]
        split
        · exact hx
        · exact hy
      rw [← ho] at z1 ⊢
      refine ⟨w ++ (o :: z), ?_, fun q hq => ?_, fun rest t t1 t2 ok => ?_⟩
      · rw [z1]
        show (sub (gStp P)).2.2.2.2 ++ [o] ++ z = _
        rw [w1]
        show P.2.2.2.2 ++ w ++ [o] ++ z = _
        simp
      · rcases List.mem_append.mp hq with q1 | q1
        · exact w2 q q1
        · rcases List.mem_cons.mp q1 with q2 | q2
          · rw [q2]; exact ⟨o1.2, Int32.le_trans o1.1 (by decide)⟩
          · exact z2 q q2
      · rw [List.append_assoc]
        refine w3 _ t t2 ?_
        show okc 11 (o :: (z ++ rest)) (t + 1)
        unfold okc
        rw [if_pos o1.1]
        exact ⟨by omega, z3 rest t t1 t2 ok⟩
    · rename_i hc
      rw [if_neg hc]
      exact ⟨[], by rw [List.append_nil], fun y hy => absurd hy List.not_mem_nil, fun _ _ _ _ ho => ho⟩
theorem gCmp_seg {k : Nat → Int32} {a b x y : Int32} (hx : x ≤ -5 ∧ -8 ≤ x) (hy : y ≤ -5 ∧ -8 ≤ y) {sub : yPs → yPs} {H : Nat} (hs : gSeg H sub) (ha : gAd2 1 sub) {f : Nat} : gSeg (H + 1) (fun P => gLop k a b x y sub f (sub P)) := fun P h => by
  obtain ⟨z, z1, z2, z3⟩ := gLop_seg hx hy hs ha f _ h
  have he : (sub P).2.1 = 0 := by
    have c1 : ∀ w : Int32, w ≤ -5 → (cE w).length = 1 := fun w hw => by
      unfold cE
      rw [if_neg (fun q => absurd (Int32.le_trans q hw) (by decide)), if_neg (fun q => absurd (Int32.lt_of_lt_of_le q hw) (by decide))]
      rfl
    exact (gLop_ad2 ⟨c1 x hx.1, c1 y hy.1⟩ ha f _ h).1
  obtain ⟨w, w1, w2, w3⟩ := hs _ he
  refine ⟨w ++ z, ?_, fun q hq => (List.mem_append.mp hq).elim (w2 q) (z2 q), fun rest t ht ok => ?_⟩
  · show (gLop k a b x y sub f (sub P)).2.2.2.2 = _
    rw [z1, w1, List.append_assoc]
  · rw [List.append_assoc]
    exact w3 _ t (by omega) (z3 rest (t + 1) (by omega) (by omega) ok)
theorem gTer_seg {k v s : Nat → Int32} {par : yPs → yPs} {H f : Nat} (hs : gSeg H (gFac k v s par)) (hp : gAd2 1 par) : gSeg (H + 1) (gTer k v s par f) := gCmp_seg (k := k) (a := 42) (b := 47) (x := -7) (y := -8) (by decide) (by decide) hs (gFac_ad2 hp)
theorem gSum_seg {k v s : Nat → Int32} {par : yPs → yPs} {H f : Nat} (hs : gSeg H (gFac k v s par)) (hp : gAd2 1 par) : gSeg (H + 2) (gSum k v s par f) := gCmp_seg (k := k) (a := 43) (b := 45) (x := -5) (y := -6) (by decide) (by decide) (gTer_seg hs hp) (gTer_ad2 hp)
theorem gPar_seg {k v s : Nat → Int32} {f : Nat} : ∀ d, gSeg (2 * d + 1) (gPar k v s f d)
  | 0 => fun P h => absurd h (gErr_e (by decide))
  | d + 1 => fun P h => by
    obtain ⟨h1, -, h3⟩ := gTak_0 (P := gSum k v s (gPar k v s f d) f (gStp P)) h
    have hs := gSum_seg (f := f) (gFac_seg (k := k) (v := v) (s := s) (show 1 ≤ 2 * d + 1 by omega) (gPar_seg (k := k) (v := v) (s := s) (f := f) d)) (gPar_ad2 d)
    obtain ⟨x, x1, x2, x3⟩ := hs _ h1
    refine ⟨x, ?_, x2, fun rest t ht ok => x3 rest t (by omega) ok⟩
    rw [show gPar k v s f (d + 1) P = _ from h3]
    exact x1
theorem gSco_ok {k v s : Nat → Int32} {f : Nat} {P : yPs} (hcd : P.2.2.2.2 = []) (h : (gSco k v s f P).2.1 = 0) : okc 11 (gSco k v s f P).2.2.2.2 0 ∧ ∀ y ∈ (gSco k v s f P).2.2.2.2, -8 ≤ y ∧ y ≤ 9999 := by
  have hs := gSum_seg (f := f) (gFac_seg (k := k) (v := v) (s := s) (show 1 ≤ 2 * 4 + 1 by decide) (gPar_seg (k := k) (v := v) (s := s) (f := f) 4)) (gPar_ad2 4)
  obtain ⟨x, x1, x2, x3⟩ := hs _ h
  have e : (gSco k v s f P).2.2.2.2 = x := by
    rw [gSco, x1]
    show (gOnc s 2002 P).2.2.2.2 ++ x = x
    rw [gOnc_cd, hcd]
    rfl
  rw [e]
  refine ⟨?_, x2⟩
  have := x3 [] 0 (by decide) rfl
  rw [List.append_nil] at this
  exact this
/-- the model's code in the draft is that of the items -/
theorem cAt_of {d : Nat → Int32} {N : Nat} (h10 : d 10 = nI N) (hN : N < 1499) : ∀ (cd : List Int32) (i : Nat), i + (cC cd).length = N → (∀ j, j < (cC cd).length → d (324 + (i + j)) = (cC cd).getD j 0) → (∀ y ∈ cd, -8 ≤ y ∧ y ≤ 9999) → cAt d i cd
  | [], i, h, _, _ => by
    unfold cAt
    have h : i + 0 = N := h
    exact ⟨by rw [h10]; congr 1; omega, by omega⟩
  | y :: r, i, h, hc, hy => by
    have hcc : cC (y :: r) = cE y ++ cC r := rfl
    have hr : ∀ y ∈ r, -8 ≤ y ∧ y ≤ 9999 := fun z hz => hy z (List.mem_cons_of_mem _ hz)
    rw [hcc, List.length_append] at h
    rw [hcc] at hc
    have get : ∀ j, j < (cC r).length → (cE y ++ cC r).getD ((cE y).length + j) 0 = (cC r).getD j 0 := fun j hj => by simp [List.getD, List.getElem?_append_right]
    have tl : ∀ L, (cE y).length = L → cAt d (i + L) r := fun L hL => cAt_of h10 hN r (i + L) (by omega) (fun j hj => by
      have := hc (L + j) (by rw [List.length_append]; omega)
      rw [show i + (L + j) = i + L + j by omega] at this
      rw [this, ← hL]; exact get j hj) hr
    have pos : 0 < (cE y).length := by
      unfold cE
      split
      · exact Nat.succ_pos _
      · split <;> exact Nat.succ_pos _
    have tnN : tn (d 10) = N := by rw [h10, tn_nI (by omega)]
    unfold cAt
    rw [tnN]
    refine ⟨by omega, ⟨h10, by omega, by omega⟩, ?_⟩
    have two : ∀ p q : Int32, cE y = [p, q] → d (324 + i) = p ∧ d (324 + (i + 1)) = q ∧ cAt d (i + 1 + 1) r := fun p q e => by
      refine ⟨?_, ?_, tl 2 (by rw [e]; rfl)⟩
      · have := hc 0 (by rw [List.length_append]; omega)
        rw [e] at this; exact this
      · have := hc 1 (by rw [e, List.length_append]; show 1 < 2 + _; omega)
        rw [e] at this; exact this
    have one : ∀ p : Int32, cE y = [p] → d (324 + i) = p ∧ cAt d (i + 1) r := fun p e => by
      refine ⟨?_, tl 1 (by rw [e]; rfl)⟩
      have := hc 0 (by rw [List.length_append]; omega)
      rw [e] at this; exact this
    by_cases y0 : 0 ≤ y
    · exact Or.inl ⟨y0, two 0 y (if_pos y0)⟩
    have hv : y = -1 ∨ y = -2 ∨ y = -3 ∨ y = -4 ∨ y = -5 ∨ y = -6 ∨ y = -7 ∨ y = -8 := by
      have a := Int32.le_iff_toInt_le.mp (hy y List.mem_cons_self).1
      have b : ¬ (0 : Int32).toInt ≤ y.toInt := fun q => y0 (Int32.le_iff_toInt_le.mpr q)
      have a : (-8 : Int) ≤ y.toInt := a
      have b : ¬ (0 : Int) ≤ y.toInt := b
      have c : y.toInt = -1 ∨ y.toInt = -2 ∨ y.toInt = -3 ∨ y.toInt = -4 ∨ y.toInt = -5 ∨ y.toInt = -6 ∨ y.toInt = -7 ∨ y.toInt = -8 := by omega
      rcases c with c | c | c | c | c | c | c | c
      · exact Or.inl (Int32.toInt_inj.mp c)
      · exact Or.inr (Or.inl (Int32.toInt_inj.mp c))
      · exact Or.inr (Or.inr (Or.inl (Int32.toInt_inj.mp c)))
      · exact Or.inr (Or.inr (Or.inr (Or.inl (Int32.toInt_inj.mp c))))
      · exact Or.inr (Or.inr (Or.inr (Or.inr (Or.inl (Int32.toInt_inj.mp c)))))
      · exact Or.inr (Or.inr (Or.inr (Or.inr (Or.inr (Or.inl (Int32.toInt_inj.mp c))))))
      · exact Or.inr (Or.inr (Or.inr (Or.inr (Or.inr (Or.inr (Or.inl (Int32.toInt_inj.mp c)))))))
      · exact Or.inr (Or.inr (Or.inr (Or.inr (Or.inr (Or.inr (Or.inr (Int32.toInt_inj.mp c)))))))
    rcases hv with e | e | e | e | e | e | e | e
    · exact Or.inr (Or.inl ⟨e, two 1 0 (by rw [e]; decide)⟩)
    · exact Or.inr (Or.inr (Or.inl ⟨e, two 1 1 (by rw [e]; decide)⟩))
    · exact Or.inr (Or.inr (Or.inr (Or.inl ⟨e, two 1 2 (by rw [e]; decide)⟩)))
    · exact Or.inr (Or.inr (Or.inr (Or.inr (Or.inl ⟨e, two 1 3 (by rw [e]; decide)⟩))))
    · exact Or.inr (Or.inr (Or.inr (Or.inr (Or.inr (Or.inl ⟨e, one 2 (by rw [e]; decide)⟩)))))
    · exact Or.inr (Or.inr (Or.inr (Or.inr (Or.inr (Or.inr (Or.inl ⟨e, one 3 (by rw [e]; decide)⟩))))))
    · exact Or.inr (Or.inr (Or.inr (Or.inr (Or.inr (Or.inr (Or.inr (Or.inl ⟨e, one 4 (by rw [e]; decide)⟩)))))))
    · exact Or.inr (Or.inr (Or.inr (Or.inr (Or.inr (Or.inr (Or.inr (Or.inr ⟨e, one 5 (by rw [e]; decide)⟩)))))))
