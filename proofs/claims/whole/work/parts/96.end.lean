theorem st_hold : ∀ s, s ≤ 3 → ((nI s = 1 ∨ nI s = 5) ↔ s = 1) ∧ (nI s = 3 ↔ s = 3) ∧ (nI s = 1 ↔ s = 1) ∧ nI s < 4 := by decide +kernel
/-- the money that moves, in a book -/
theorem mv_b {B : yI} {p i m : Nat} {g w : Int32} (e3 : B 3 p = nI i) (e4 : B 4 p = nI m) (hi : i < 4) (hm : m < 4) : (∀ r, r ≠ 0 → r ≠ 1 → r ≠ 2 → moveB B p g w r = B r) ∧ (∀ j, j ≠ 4 → moveB B p g w 0 j = B 0 j) ∧ moveB B p g w 0 4 = B 0 4 + w ∧ (∀ j, moveB B p g w 1 j = if j = i then B 1 i - (g + w) else B 1 j) ∧ (∀ j, moveB B p g w 2 j = if j = m then B 2 m + g else B 2 j) := by
  unfold moveB
  rw [e3, e4, tn_nI (by omega), tn_nI (by omega)]
  refine ⟨fun r h0 h1 h2 => by rw [up2_r h1, up2_r h0, up2_r h2], fun j hj => ?_, ?_, fun j => ?_, fun j => ?_⟩
  · rw [up2_r (by decide)]
    show upd (B 0) 4 _ j = _
    exact upd_ne9 hj
  · rfl
  · show upd (B 1) i _ j = _
    unfold upd
    rfl
  · show upd (B 2) m _ j = _
    unfold upd
    rfl
theorem pay_f {d : Nat → Int32} {f t : Nat} {x : Int32} (h : f ≠ t) : payD d f t x f = d f - x := by
  unfold payD
  rw [upd_ne9 h, upd_same]
theorem pay_t {d : Nat → Int32} {f t : Nat} {x : Int32} (h : f ≠ t) : payD d f t x t = d t + x := by
  unfold payD
  rw [upd_same, upd_ne9 (Ne.symm h)]
theorem pay_n {d : Nat → Int32} {f t j : Nat} {x : Int32} (h1 : j ≠ f) (h2 : j ≠ t) : payD d f t x j = d j := by
  unfold payD
  rw [upd_ne9 h2, upd_ne9 h1]
section EndD
variable {d : Nat → Int32} {k i m s : Nat} {W b : Prop}
/-- what giveD does -/
theorem give_at [Decidable W] (hk : k < 20) (hi : i < 4) (hm : m < 4) (s4 : s ≤ 3) (wm : d (164 + 8 * k + 7) = if s = 1 then 1 else 0) : (∀ j, j ≠ 12 + i → j ≠ 16 + m → j ≠ 164 + 8 * k + 7 → giveD d k i m W j = d j) ∧ giveD d k i m W (164 + 8 * k + 7) = (if W then 1 else 0) ∧ giveD d k i m W (12 + i) = d (12 + i) - (if W then ((if s = 1 then 0 else d (164 + 8 * k + 2)) + d 6) else -(if s = 1 then d (164 + 8 * k + 2) else 0)) ∧ giveD d k i m W (16 + m) = d (16 + m) + (if W then ((if s = 1 then 0 else d (164 + 8 * k + 2)) + d 6) else -(if s = 1 then d (164 + 8 * k + 2) else 0)) := by
  unfold giveD give1D give0D
  by_cases qW : W
  · rw [if_pos qW, if_pos qW, if_pos qW]
    by_cases q1 : s = 1
    · rw [if_pos q1] at wm
      rw [if_pos wm, if_pos q1]
      refine ⟨fun j h1 h2 _ => pay_n h1 h2, by rw [pay_n (by omega) (by omega)]; exact wm, ?_, ?_⟩
      · rw [pay_f (by omega)]; grind
      · rw [pay_t (by omega)]; grind
    · rw [if_neg q1] at wm
      rw [if_neg (by rw [wm]; decide), if_neg q1]
      have e6 : upd (payD d (12 + i) (16 + m) (d (164 + 8 * k + 2))) (164 + 8 * k + 7) 1 6 = d 6 := by rw [upd_ne9 (by omega), pay_n (by omega) (by omega)]
      rw [e6]
      refine ⟨fun j h1 h2 h3 => by rw [pay_n h1 h2, upd_ne9 h3, pay_n h1 h2], by rw [pay_n (by omega) (by omega), upd_same], ?_, ?_⟩
      · rw [pay_f (by omega), upd_ne9 (by omega), pay_f (by omega)]; grind
      · rw [pay_t (by omega), upd_ne9 (by omega), pay_t (by omega)]; grind
  · rw [if_neg qW, if_neg qW, if_neg qW]
    by_cases q1 : s = 1
    · rw [if_pos q1] at wm
      rw [if_pos wm, if_pos q1]
      refine ⟨fun j h1 h2 h3 => by rw [upd_ne9 h3, pay_n h2 h1], upd_same, ?_, ?_⟩
      · rw [upd_ne9 (by omega), pay_t (by omega)]; grind
      · rw [upd_ne9 (by omega), pay_f (by omega)]; grind
    · rw [if_neg q1] at wm
      rw [if_neg (by rw [wm]; decide), if_neg q1]
      refine ⟨fun j _ _ _ => rfl, wm, ?_, ?_⟩
      · grind
      · grind
theorem endD_U [Decidable W] [Decidable b] (hk : k < 20) (hi : i < 4) (hm : m < 4) (s4 : s ≤ 3) (wm : d (164 + 8 * k + 7) = if s = 1 then 1 else 0) (hb3 : b ↔ s = 3) : dU d (endD d k i m W b) i m k (if W then ((if s = 1 then 0 else d (164 + 8 * k + 2)) + d 6) else (-(if s = 1 then d (164 + 8 * k + 2) else 0) - (if s = 3 then d 7 else 0))) (if s = 3 then d 7 else 0) (d (164 + 8 * k + 4)) (if W then 5 else 4) (-1) (if W then 1 else 0) := by
  obtain ⟨g1, g2, g3, g4⟩ := give_at (W := W) hk hi hm s4 wm
  have a1 : ∀ j, j ≠ 12 + i → j ≠ 16 + m → j ≠ 11 → j ≠ 164 + 8 * k + 7 → arbD (giveD d k i m W) i m W b j = d j := fun j h1 h2 h3 h4 => by
    unfold arbD
    split
    · rw [pay_n (by split <;> omega) h3]; exact g1 j h1 h2 h4
    · exact g1 j h1 h2 h4
  have e7 : giveD d k i m W 7 = d 7 := g1 7 (by omega) (by omega) (by omega)
  have e11 : giveD d k i m W 11 = d 11 := g1 11 (by omega) (by omega) (by omega)
  have a2 : arbD (giveD d k i m W) i m W b (164 + 8 * k + 7) = (if W then 1 else 0) := by
    unfold arbD
    split
    · rw [pay_n (by split <;> omega) (by omega)]; exact g2
    · exact g2
  have a345 : arbD (giveD d k i m W) i m W b (12 + i) = d (12 + i) - ((if W then ((if s = 1 then 0 else d (164 + 8 * k + 2)) + d 6) else (-(if s = 1 then d (164 + 8 * k + 2) else 0) - (if s = 3 then d 7 else 0))) + (if s = 3 then d 7 else 0)) ∧ arbD (giveD d k i m W) i m W b (16 + m) = d (16 + m) + (if W then ((if s = 1 then 0 else d (164 + 8 * k + 2)) + d 6) else (-(if s = 1 then d (164 + 8 * k + 2) else 0) - (if s = 3 then d 7 else 0))) ∧ arbD (giveD d k i m W) i m W b 11 = d 11 + (if s = 3 then d 7 else 0) := by
    unfold arbD
    rw [e7]
    by_cases q3 : s = 3
    · rw [if_pos (hb3.mpr q3), if_pos q3]
      by_cases qW : W
      · rw [if_pos qW, pay_f (by omega), pay_n (by omega) (by omega), pay_t (by omega), g3, g4, e11, if_pos qW, if_pos qW]
        exact ⟨by grind, rfl, rfl⟩
      · rw [if_neg qW, pay_f (by omega), pay_n (by omega) (by omega), pay_t (by omega), g3, g4, e11, if_neg qW, if_neg qW]
        exact ⟨by grind, by grind, rfl⟩
    · rw [if_neg (fun w => q3 (hb3.mp w)), if_neg q3, g3, g4, e11]
      by_cases qW : W
      · rw [if_pos qW, if_pos qW]
        exact ⟨by grind, rfl, by grind⟩
      · rw [if_neg qW, if_neg qW]
        exact ⟨by grind, by grind, by grind⟩
  unfold endD
  refine ⟨fun j _ j1 j2 j3 j4 j5 j6 j7 => by rw [upd_ne9 j6, upd_ne9 j5]; exact a1 j j1 j2 j3 j7, ⟨?_, ?_, ?_⟩, ⟨?_, ?_, ?_, ?_⟩⟩
  · rw [upd_ne9 (by omega), upd_ne9 (by omega)]; exact a345.1
  · rw [upd_ne9 (by omega), upd_ne9 (by omega)]; exact a345.2.1
  · rw [upd_ne9 (by omega), upd_ne9 (by omega)]; exact a345.2.2
  · rw [upd_ne9 (by omega), upd_ne9 (by omega), a1 _ (by omega) (by omega) (by omega) (by omega)]
  · rw [upd_ne9 (by omega), upd_same]
  · rw [upd_same]
  · rw [upd_ne9 (by omega), upd_ne9 (by omega)]; exact a2
end EndD
section EB3
variable {σ B : yI} {it : Nat → Int32} {len : Nat} {d : Nat → Int32} {ni nm nr np nd : Nat} {cd : List Int32}
theorem finB_U {k p i m : Nat} {o : Int32} (z1 : B 7 k = nI p) (z4 : B 3 p = nI i) (z5 : B 4 p = nI m) (hp : p < 24) (hi : i < 4) (hm : m < 4) : bU B (finB σ B k o) i m k (gainB σ B k o) (if B 12 k = 3 then σ 0 3 else 0) (B 11 k) o (-1) := by
  obtain ⟨v1, v2, v3, v4, v5⟩ := mv_b (g := gainB σ B k o) (w := if B 12 k = 3 then σ 0 3 else 0) z4 z5 hi hm
  unfold finB
  rw [z1, tn_nI (by omega)]
  refine ⟨fun r h0 h1 h2 h11 h12 h13 => by rw [up2_r h13, up2_r h12, v1 r h0 h1 h2], ⟨?_, ?_, ?_, ?_⟩, fun j => ?_, fun j => ?_, fun j => ?_, fun j => ?_, fun j => ?_⟩
  · rw [up2_r (by decide), up2_r (by decide)]; exact v2 1 (by decide)
  · rw [up2_r (by decide), up2_r (by decide)]; exact v2 5 (by decide)
  · rw [up2_r (by decide), up2_r (by decide)]; exact v2 10 (by decide)
  · rw [up2_r (by decide), up2_r (by decide)]; exact v3
  · rw [up2_r (by decide), up2_r (by decide)]; exact v4 j
  · rw [up2_r (by decide), up2_r (by decide)]; exact v5 j
  · rw [up2_r (by decide), up2_r (by decide), v1 11 (by decide) (by decide) (by decide)]
    by_cases q : j = k
    · rw [if_pos q, q]
    · rw [if_neg q]
  · rw [up2_r (by decide)]
    show upd (moveB B p _ _ 12) k o j = _
    rw [v1 12 (by decide) (by decide) (by decide)]
    rfl
  · show upd (up2 (moveB B p _ _) 12 k o 13) k (-1) j = _
    rw [up2_r (by decide), v1 13 (by decide) (by decide) (by decide)]
    rfl
theorem gain_eq {k s : Nat} {W : Prop} [Decidable W] {o : Int32} (ho : o = if W then 5 else 4) (s4 : s ≤ 3) (s2 : B 12 k = nI s) (k9 : B 9 k = d (164 + 8 * k + 2)) (h6 : σ 0 2 = d 6) (h7 : σ 0 3 = d 7) : gainB σ B k o = (if W then ((if s = 1 then 0 else d (164 + 8 * k + 2)) + d 6) else (-(if s = 1 then d (164 + 8 * k + 2) else 0) - (if s = 3 then d 7 else 0))) ∧ (if B 12 k = 3 then σ 0 3 else 0) = (if s = 3 then d 7 else 0) := by
  obtain ⟨t1, t2, t3, t4⟩ := st_hold s s4
  have fe : (if B 12 k = 3 then σ 0 3 else 0) = (if s = 3 then d 7 else 0) := by
    rw [s2, h7]
    by_cases q3 : s = 3
    · rw [if_pos (t2.mpr q3), if_pos q3]
    · rw [if_neg (fun w => q3 (t2.mp w)), if_neg q3]
  refine ⟨?_, fe⟩
  unfold gainB
  rw [fe, ho, s2, k9, h6]
  by_cases q : W
  · rw [if_pos q, if_pos q, if_pos rfl]
    by_cases q1 : s = 1
    · rw [if_pos (t1.mpr q1), if_pos q1]
    · rw [if_neg (fun w => q1 (t1.mp w)), if_neg q1]
  · rw [if_neg q, if_neg q, if_neg (by decide)]
    by_cases q1 : s = 1
    · rw [if_pos (t1.mpr q1), if_pos q1]
    · rw [if_neg (fun w => q1 (t1.mp w)), if_neg q1]
theorem eq_end (h : eB σ B it len d ni nm nr np nd cd) {k : Nat} (hk : k < nd) {W b : Prop} [Decidable W] [Decidable b] (hst : d (164 + 8 * k + 5) < 4) (hb : b ↔ d (164 + 8 * k + 5) = 3) {o : Int32} (ho : o = if W then 5 else 4) : eB σ (finB σ B k o) it len (endD d k (iD d k) (mD d k) W b) ni nm nr np nd cd ∧ (eT d nd → eT (endD d k (iD d k) (mD d k) W b) nd) := by
  obtain ⟨p, i, m, r, e9, ne, x1, x2, x3, x4, x5, x6, y1, y2, y3, y4, y5, y6, z1, z2, z3, z4, z5, z6, w1, w2, w3, w4, w5, w6⟩ := h.k hk
  obtain ⟨⟨k7, k8, k9, k10, k11, k12, k13⟩, -, -, -, -, -, ⟨s, s1, s2, s3⟩⟩ := h.2.2.2.2.2.1 k hk
  have ni4 := h.1.1.2.2
  have nm4 := h.1.2.1.2.2
  have np24 := h.1.2.2.2.1.2.2
  have nd20 := h.1.2.2.2.2.2.2
  have s4 : s ≤ 3 := by
    rw [← k12, s2] at hst
    have := (nI_ltI (b := 4) (by omega) (by decide)).mp hst
    omega
  rw [x2, x3]
  have wm : d (164 + 8 * k + 7) = if s = 1 then 1 else 0 := by
    rw [s3]
    by_cases q : s = 1
    · rw [if_pos (Or.inl q), if_pos q]
    · rw [if_neg (by omega), if_neg q]
  have hb3 : b ↔ s = 3 := by rw [hb, ← k12, s2]; exact (st_hold s s4).2.1
  have hB := finB_U (σ := σ) (o := o) z1 z4 z5 (by omega) (show i < 4 by omega) (show m < 4 by omega)
  obtain ⟨g1, g2⟩ := gain_eq (σ := σ) (B := B) (d := d) (k := k) (W := W) ho s4 s2 k9 h.2.1.2.1 h.2.1.2.2.1
  rw [g1, g2] at hB
  have hD := endD_U (d := d) (k := k) (W := W) (b := b) (by omega) (show i < 4 by omega) (show m < 4 by omega) s4 wm hb3
  rw [← k11, ← ho] at hD
  refine ⟨h.U hk (by omega) (by omega) hB hD ⟨e9, y5, z3⟩ ?_, fun ht => ht.U nd20 (by omega) (by omega) hD (fun q => ?_)⟩
  · by_cases qW : W
    · exact ⟨5, by decide, by rw [ho, if_pos qW]; decide, by rw [if_pos qW]; decide⟩
    · exact ⟨4, by decide, by rw [ho, if_neg qW]; decide, by rw [if_neg qW]; decide⟩
  · rw [ho] at q
    by_cases qW : W
    · rw [if_pos qW] at q; exact absurd q (by decide)
    · rw [if_neg qW] at q; exact absurd q (by decide)
end EB3
