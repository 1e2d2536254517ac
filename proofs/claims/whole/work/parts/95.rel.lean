section EB2
variable {σ B : yI} {it : Nat → Int32} {len : Nat} {d : Nat → Int32} {ni nm nr np nd : Nat} {cd : List Int32}
theorem pc_and {a b : Nat} (ha : a < 256) : a &&& b < 256 := Nat.lt_of_le_of_lt Nat.and_le_left ha
theorem bd_nI {a : Nat} (h : a ≤ 1000000) : bd64 (nI a).toInt64 := by
  unfold bd64
  rw [Int32.toInt_toInt64, nI_toInt (by omega)]
  omega
theorem bd_fop {c nn a t1 t2 : Nat} (hc : c ≤ 8) (hn : nn ≤ 8) (ha : a ≤ 99999) (h1 : t1 ≤ 9999) (h2 : t2 ≤ 9999) {it : Int32} (hi : ¬ it ≤ -5) (hj : it ≤ 9999) : bd64 (fop it (nI c) (nI nn) (nI a) (nI t1 - nI t2)).toInt64 := by
  unfold fop
  by_cases e4 : it = -4
  · rw [if_pos e4]
    unfold bd64
    rw [Int32.toInt_toInt64, Int32.toInt_sub, nI_toInt (by omega), nI_toInt (by omega), Int.bmod_eq_of_le (by omega) (by omega)]
    omega
  rw [if_neg e4]
  by_cases e3 : it = -3
  · rw [if_pos e3]; exact bd_nI (by omega)
  rw [if_neg e3]
  by_cases e2 : it = -2
  · rw [if_pos e2]; exact bd_nI (by omega)
  rw [if_neg e2]
  by_cases e1 : it = -1
  · rw [if_pos e1]; exact bd_nI (by omega)
  rw [if_neg e1]
  unfold bd64
  rw [Int32.toInt_toInt64]
  have a1 : ¬ it.toInt ≤ -5 := fun q => hi (Int32.le_iff_toInt_le.mpr q)
  have a2 : it.toInt ≤ 9999 := Int32.le_iff_toInt_le.mp hj
  omega
theorem eq_sc (h : eB σ B it len d ni nm nr np nd cd) {k : Nat} (hk : k < nd) {e : Nat} (he : e < 256) : scV σ it len B k (nI e) = scM d k (pD d k) e (nD d k) cd := by
  obtain ⟨p, i, m, r, e9, ne, x1, x2, x3, x4, x5, x6, y1, y2, y3, y4, y5, y6, z1, z2, z3, z4, z5, z6, -⟩ := h.k hk
  obtain ⟨⟨-, -, k9, k10, -, -, -⟩, -, -, ⟨am, am1, am2⟩, ⟨t1, t11, t12⟩, -⟩ := h.2.2.2.2.2.1 k hk
  obtain ⟨⟨-, -, -, q6⟩, -, -, ⟨t2, t21, t22⟩⟩ := h.2.2.2.2.1 p y1
  have np24 := h.1.2.2.2.1.2.2
  have nr8 := h.1.2.2.1.2.2
  unfold scV scM
  rw [z2, tn_nI (by omega), z6, z1, tn_nI (by omega), x1, x6, nI_and, bcn_8 e he, bcn_8 _ (pc_and he)]
  rcases h.2.2.2.2.2.2 with ⟨f1, f2, f3⟩ | ⟨f1, f2, f3, f4, f5, f6⟩
  · rw [if_pos f1, f2]
    have hr : ∀ c nn a dd : Int32, frun c nn a dd it (fun _ => 0) 1 = (1, upd (fun _ => 0) 0 c) := fun c nn a dd => by
      show fstp c nn a dd (it 0) 0 (fun _ => 0) = _
      rw [f3]
      unfold fstp
      rw [if_neg (show ¬ (-1 : Int32) ≤ -5 by decide), if_neg (show ¬ 11 ≤ 0 by decide)]
      rfl
    unfold fval
    rw [hr]
    rfl
  · rw [if_neg f1]
    refine fval_eq (fun it h1 h2 => ⟨?_, ?_⟩) f4 f5 f6 f3
    · unfold valM
      rw [← k9, ← k10, ← q6]
    · unfold valM
      rw [← k9, ← k10, ← q6, am2, t12, t22]
      exact bd_fop (popc_8 e he) (popc_8 _ (pc_and he)) am1 t11 t21 h1 h2
theorem eq_cv (h : eB σ B it len d ni nm nr np nd cd) {k : Nat} (hk : k < nd) {e : Nat} (he : e < 256) : cvP σ it len B k (nI e) ↔ wnM d k (pD d k) (rD d k) e (nD d k) cd := by
  obtain ⟨p, i, m, r, e9, ne, x1, x2, x3, x4, x5, x6, y1, y2, y3, y4, y5, y6, z1, z2, z3, z4, z5, z6, -⟩ := h.k hk
  have nr8 := h.1.2.2.1.2.2
  have s8 := (h.2.2.2.1 r y4).1 4 (by decide)
  unfold cvP wnM
  rw [eq_sc h hk he, z2, tn_nI (by omega), z6, x4, x6, show σ 8 r = d (20 + 6 * r + 4) from s8]
  exact and_comm
theorem eq_id (h : eB σ B it len d ni nm nr np nd cd) {k : Nat} (hk : k < nd) : idO σ it len B k = if mwP d cd k then 5 else 4 := by
  obtain ⟨⟨-, -, -, -, k11, k12, -⟩, -, -, -, -, ⟨e, e1, e2⟩, -⟩ := h.2.2.2.2.2.1 k hk
  have hc := eq_cv h hk e1
  have ee : eD d k = e := by unfold eD; rw [← k11, e2, tn_nI (by omega)]
  unfold idO mwP
  rw [k12, e2, ee]
  by_cases c1 : d (164 + 8 * k + 5) = 1
  · rw [if_pos c1, if_pos (Or.inl c1)]
  rw [if_neg c1]
  by_cases c3 : d (164 + 8 * k + 5) = 3
  · rw [if_pos c3]
    by_cases c : cvP σ it len B k (nI e)
    · rw [if_pos c, if_pos (Or.inr ⟨c3, hc.mp c⟩)]
    · rw [if_neg c, if_neg (fun q => q.elim c1 (fun w => c (hc.mpr w.2)))]
  · rw [if_neg c3, if_neg (fun q => q.elim c1 (fun w => c3 w.1))]
theorem lsm_c {f g : Int64 → Nat → Int64} {a b : Int64} (hab : a = b) : ∀ n, (∀ s k, k < n → f s k = g s k) → lsm f a n = lsm g b n
  | 0, _ => hab
  | n + 1, h => by unfold lsm; rw [lsm_c hab n (fun s k hk => h s k (by omega)), h _ n (by omega)]
theorem eq_ck (h : eB σ B it len d ni nm nr np nd cd) : ckS B ni nm np nd = ckM d ni nm np nd := by
  have ni4 := h.1.1.2.2
  have nm4 := h.1.2.1.2.2
  unfold ckS ckM
  refine lsm_c (lsm_c ?_ np (fun s p hp => ?_)) nd (fun s k hk => ?_)
  · rw [h.2.1.2.2.2.2, lsm_c (lsm_c (by rw [h.2.1.1]) ni (fun s k hk => by rw [(h.2.2.1 k (by omega)).1])) nm (fun s k hk => by rw [(h.2.2.1 k (by omega)).2])]
  · rw [eq_dsp h]
  · obtain ⟨⟨-, -, -, -, k11, k12, k13⟩, -⟩ := h.2.2.2.2.2.1 k hk
    rw [k11, k12, k13]
theorem cAt_cg {d d2 : Nat → Int32} (h : ∀ j, (j = 10 ∨ (324 ≤ j ∧ j < 1824)) → d2 j = d j) : ∀ (cd : List Int32) (i : Nat), cAt d i cd → cAt d2 i cd
  | [], i, hc => by
    unfold cAt at hc ⊢
    rw [h 10 (Or.inl rfl)]; exact hc
  | x :: r, i, hc => by
    unfold cAt at hc ⊢
    obtain ⟨h1, h2, h3⟩ := hc
    rw [h 10 (Or.inl rfl), h (324 + i) (Or.inr (by omega)), h (324 + (i + 1)) (Or.inr (by omega))]
    refine ⟨h1, h2, ?_⟩
    have t1 := cAt_cg h r (i + 1 + 1)
    have t2 := cAt_cg h r (i + 1)
    rcases h3 with q | q | q | q | q | q | q | q | q
    · exact Or.inl ⟨q.1, q.2.1, q.2.2.1, t1 q.2.2.2⟩
    · exact Or.inr (Or.inl ⟨q.1, q.2.1, q.2.2.1, t1 q.2.2.2⟩)
    · exact Or.inr (Or.inr (Or.inl ⟨q.1, q.2.1, q.2.2.1, t1 q.2.2.2⟩))
    · exact Or.inr (Or.inr (Or.inr (Or.inl ⟨q.1, q.2.1, q.2.2.1, t1 q.2.2.2⟩)))
    · exact Or.inr (Or.inr (Or.inr (Or.inr (Or.inl ⟨q.1, q.2.1, q.2.2.1, t1 q.2.2.2⟩))))
    · exact Or.inr (Or.inr (Or.inr (Or.inr (Or.inr (Or.inl ⟨q.1, q.2.1, t2 q.2.2⟩)))))
    · exact Or.inr (Or.inr (Or.inr (Or.inr (Or.inr (Or.inr (Or.inl ⟨q.1, q.2.1, t2 q.2.2⟩))))))
    · exact Or.inr (Or.inr (Or.inr (Or.inr (Or.inr (Or.inr (Or.inr (Or.inl ⟨q.1, q.2.1, t2 q.2.2⟩)))))))
    · exact Or.inr (Or.inr (Or.inr (Or.inr (Or.inr (Or.inr (Or.inr (Or.inr ⟨q.1, q.2.1, t2 q.2.2⟩)))))))
theorem eF.cg {d2 : Nat → Int32} (h : eF it len d cd) (e : ∀ j, (j = 9 ∨ j = 10 ∨ (324 ≤ j ∧ j < 1824)) → d2 j = d j) : eF it len d2 cd := by
  unfold eF at h ⊢
  rw [e 9 (Or.inl rfl)]
  rcases h with h | ⟨h1, h2, h3⟩
  · exact Or.inl h
  · exact Or.inr ⟨h1, cAt_cg (fun j hj => e j (hj.elim (fun q => Or.inr (Or.inl q)) (fun q => Or.inr (Or.inr q)))) cd 0 h2, h3⟩
/-- a book's change at dispute k: money, evidence, state, deadline -/
def bU (B B2 : yI) (i m k : Nat) (g w ev s dl : Int32) : Prop := (∀ r, r ≠ 0 → r ≠ 1 → r ≠ 2 → r ≠ 11 → r ≠ 12 → r ≠ 13 → B2 r = B r) ∧ (B2 0 1 = B 0 1 ∧ B2 0 5 = B 0 5 ∧ B2 0 10 = B 0 10 ∧ B2 0 4 = B 0 4 + w) ∧ (∀ j, B2 1 j = if j = i then B 1 i - (g + w) else B 1 j) ∧ (∀ j, B2 2 j = if j = m then B 2 m + g else B 2 j) ∧ (∀ j, B2 11 j = if j = k then ev else B 11 j) ∧ (∀ j, B2 12 j = if j = k then s else B 12 j) ∧ (∀ j, B2 13 j = if j = k then dl else B 13 j)
def dU (d d2 : Nat → Int32) (i m k : Nat) (g w ev s dl wm : Int32) : Prop := (∀ j, j < 1824 → j ≠ 12 + i → j ≠ 16 + m → j ≠ 11 → j ≠ 164 + 8 * k + 4 → j ≠ 164 + 8 * k + 5 → j ≠ 164 + 8 * k + 6 → j ≠ 164 + 8 * k + 7 → d2 j = d j) ∧ (d2 (12 + i) = d (12 + i) - (g + w) ∧ d2 (16 + m) = d (16 + m) + g ∧ d2 11 = d 11 + w) ∧ (d2 (164 + 8 * k + 4) = ev ∧ d2 (164 + 8 * k + 5) = s ∧ d2 (164 + 8 * k + 6) = dl ∧ d2 (164 + 8 * k + 7) = wm)
theorem eB.U (h : eB σ B it len d ni nm nr np nd cd) {B2 : yI} {d2 : Nat → Int32} {i m k : Nat} {g w ev s dl wm : Int32} (hk : k < nd) (hi : i < 4) (hm : m < 4) (hb : bU B B2 i m k g w ev s dl) (hd : dU d d2 i m k g w ev s dl wm) (hev : ∃ e, e < 256 ∧ ev = nI e) (hs : ∃ s1, s1 ≤ 5 ∧ s = nI s1 ∧ wm = if s1 = 1 ∨ s1 = 5 then 1 else 0) : eB σ B2 it len d2 ni nm nr np nd cd := by
  obtain ⟨⟨⟨c1, c2, c3⟩, ⟨c4, c5, c6⟩, ⟨c7, c8, c9⟩, ⟨c10, c11, c12⟩, ⟨c13, c14, c15⟩⟩, ⟨s1, s2, s3, s4, s5⟩, hA, hR, hP, hK, hF⟩ := h
  obtain ⟨b0, ⟨b1, b2, b3, b4⟩, b5, b6, b7, b8, b9⟩ := hb
  obtain ⟨e0, ⟨e1, e2, e3⟩, ⟨e4, e5, e6, e7⟩⟩ := hd
  have f : ∀ j, j < 11 → d2 j = d j := fun j hj => e0 j (by omega) (by omega) (by omega) (by omega) (by omega) (by omega) (by omega) (by omega)
  refine ⟨⟨⟨c1, (f 0 (by decide)).trans c2, c3⟩, ⟨c4, (f 1 (by decide)).trans c5, c6⟩, ⟨c7, (f 2 (by decide)).trans c8, c9⟩, ⟨b2.trans c10, (f 3 (by decide)).trans c11, c12⟩, ⟨b3.trans c13, (f 4 (by decide)).trans c14, c15⟩⟩, ⟨by rw [b1, f 5 (by decide)]; exact s1, by rw [f 6 (by decide)]; exact s2, by rw [f 7 (by decide)]; exact s3, by rw [f 8 (by decide)]; exact s4, by rw [b4, e3, s5]⟩, fun j hj => ⟨?_, ?_⟩, fun r hr => ?_, fun p hp => ?_, fun k2 hk2 => ?_, hF.cg (fun j hj => ?_)⟩
  · rw [b5 j]
    by_cases ej : j = i
    · rw [if_pos ej, ej, e1, (hA i hi).1]
    · rw [if_neg ej, e0 (12 + j) (by omega) (by omega) (by omega) (by omega) (by omega) (by omega) (by omega) (by omega)]; exact (hA j hj).1
  · rw [b6 j]
    by_cases ej : j = m
    · rw [if_pos ej, ej, e2, (hA m hm).2]
    · rw [if_neg ej, e0 (16 + j) (by omega) (by omega) (by omega) (by omega) (by omega) (by omega) (by omega) (by omega)]; exact (hA j hj).2
  · obtain ⟨r1, r2⟩ := hR r hr
    exact ⟨fun c hc => by rw [e0 _ (by omega) (by omega) (by omega) (by omega) (by omega) (by omega) (by omega) (by omega)]; exact r1 c hc, r2⟩
  · obtain ⟨⟨p1, p2, p3, p4⟩, p5⟩ := hP p hp
    rw [b0 3 (by decide) (by decide) (by decide) (by decide) (by decide) (by decide), b0 4 (by decide) (by decide) (by decide) (by decide) (by decide) (by decide), b0 5 (by decide) (by decide) (by decide) (by decide) (by decide) (by decide), b0 6 (by decide) (by decide) (by decide) (by decide) (by decide) (by decide)]
    refine ⟨⟨?_, ?_, ?_, ?_⟩, p5⟩
    · rw [e0 _ (by omega) (by omega) (by omega) (by omega) (by omega) (by omega) (by omega) (by omega)]; exact p1
    · rw [e0 _ (by omega) (by omega) (by omega) (by omega) (by omega) (by omega) (by omega) (by omega)]; exact p2
    · rw [e0 _ (by omega) (by omega) (by omega) (by omega) (by omega) (by omega) (by omega) (by omega)]; exact p3
    · rw [e0 _ (by omega) (by omega) (by omega) (by omega) (by omega) (by omega) (by omega) (by omega)]; exact p4
  · obtain ⟨⟨k7, k8, k9, k10, k11, k12, k13⟩, kp, kr, ka, kt, ke, ks⟩ := hK k2 hk2
    unfold eK
    rw [b0 7 (by decide) (by decide) (by decide) (by decide) (by decide) (by decide), b0 8 (by decide) (by decide) (by decide) (by decide) (by decide) (by decide), b0 9 (by decide) (by decide) (by decide) (by decide) (by decide) (by decide), b0 10 (by decide) (by decide) (by decide) (by decide) (by decide) (by decide), b7 k2, b8 k2, b9 k2, e0 (164 + 8 * k2) (by omega) (by omega) (by omega) (by omega) (by omega) (by omega) (by omega) (by omega), e0 (164 + 8 * k2 + 1) (by omega) (by omega) (by omega) (by omega) (by omega) (by omega) (by omega) (by omega), e0 (164 + 8 * k2 + 2) (by omega) (by omega) (by omega) (by omega) (by omega) (by omega) (by omega) (by omega), e0 (164 + 8 * k2 + 3) (by omega) (by omega) (by omega) (by omega) (by omega) (by omega) (by omega) (by omega)]
    by_cases ek : k2 = k
    · subst ek
      rw [if_pos rfl, if_pos rfl, if_pos rfl, e4, e5, e6, e7]
      exact ⟨⟨k7, k8, k9, k10, rfl, rfl, rfl⟩, kp, kr, ka, kt, hev, hs⟩
    · rw [if_neg ek, if_neg ek, if_neg ek, e0 (164 + 8 * k2 + 4) (by omega) (by omega) (by omega) (by omega) (by omega) (by omega) (by omega) (by omega), e0 (164 + 8 * k2 + 5) (by omega) (by omega) (by omega) (by omega) (by omega) (by omega) (by omega) (by omega), e0 (164 + 8 * k2 + 6) (by omega) (by omega) (by omega) (by omega) (by omega) (by omega) (by omega) (by omega), e0 (164 + 8 * k2 + 7) (by omega) (by omega) (by omega) (by omega) (by omega) (by omega) (by omega) (by omega)]
      exact ⟨⟨k7, k8, k9, k10, k11, k12, k13⟩, kp, kr, ka, kt, ke, ks⟩
  · exact e0 j (by omega) (by omega) (by omega) (by omega) (by omega) (by omega) (by omega) (by omega)
/-- the deadlines behind a change at dispute k -/
theorem eT.U {d d2 : Nat → Int32} {nd i m k : Nat} {g w ev s dl wm : Int32} (h : eT d nd) (hnd : nd ≤ 20) (hi : i < 4) (hm : m < 4) (hd : dU d d2 i m k g w ev s dl wm) (hdl : s < 4 → ∃ t e, d 5 = nI t ∧ t ≤ 9999 ∧ dl = nI e ∧ t ≤ e ∧ e ≤ t + 60) : eT d2 nd := by
  obtain ⟨t, t1, t2, t3⟩ := h
  obtain ⟨e0, ⟨e1, e2, e3⟩, ⟨e4, e5, e6, e7⟩⟩ := hd
  refine ⟨t, t1, by rw [e0 5 (by omega) (by omega) (by omega) (by omega) (by omega) (by omega) (by omega) (by omega)]; exact t2, fun k2 hk2 hst => ?_⟩
  by_cases ek : k2 = k
  · subst ek
    rw [e5] at hst
    obtain ⟨t9, e9, q1, q2, q3, q4, q5⟩ := hdl hst
    have : t9 = t := nI_eq2 (q1.symm.trans t2)
    subst this
    exact ⟨e9, e6.trans q3, q4, q5⟩
  · rw [e0 (164 + 8 * k2 + 5) (by omega) (by omega) (by omega) (by omega) (by omega) (by omega) (by omega) (by omega)] at hst
    rw [e0 (164 + 8 * k2 + 6) (by omega) (by omega) (by omega) (by omega) (by omega) (by omega) (by omega) (by omega)]
    exact t3 k2 hk2 hst
end EB2
