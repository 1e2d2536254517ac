/-- book B, setup σ and formula (it, len) against the model's data d -/
def eC (σ B : yI) (d : Nat → Int32) (ni nm nr np nd : Nat) : Prop := (σ 0 0 = nI ni ∧ d 0 = nI ni ∧ ni ≤ 4) ∧ (σ 0 1 = nI nm ∧ d 1 = nI nm ∧ nm ≤ 4) ∧ (σ 0 6 = nI nr ∧ d 2 = nI nr ∧ nr ≤ 8) ∧ (B 0 5 = nI np ∧ d 3 = nI np ∧ np ≤ 24) ∧ (B 0 10 = nI nd ∧ d 4 = nI nd ∧ nd ≤ 20)
def eS (σ B : yI) (d : Nat → Int32) : Prop := B 0 1 = d 5 ∧ σ 0 2 = d 6 ∧ σ 0 3 = d 7 ∧ σ 0 4 = d 8 ∧ B 0 4 = d 11
def eA (B : yI) (d : Nat → Int32) : Prop := ∀ i, i < 4 → B 1 i = d (12 + i) ∧ B 2 i = d (16 + i)
def eR (σ : yI) (d : Nat → Int32) (nr : Nat) : Prop := ∀ r, r < nr → (∀ c, c < 6 → σ (4 + c) r = d (20 + 6 * r + c)) ∧ (∃ e, e < 256 ∧ σ 9 r = nI e) ∧ (∃ a, a ≤ 60 ∧ σ 6 r = nI a) ∧ (∃ a, a ≤ 60 ∧ σ 7 r = nI a)
def eP (B : yI) (d : Nat → Int32) (ni nm np : Nat) : Prop := ∀ p, p < np → (B 3 p = d (68 + 4 * p) ∧ B 4 p = d (68 + 4 * p + 1) ∧ B 5 p = d (68 + 4 * p + 2) ∧ B 6 p = d (68 + 4 * p + 3)) ∧ (∃ i, i < ni ∧ B 3 p = nI i) ∧ (∃ m, m < nm ∧ B 4 p = nI m) ∧ (∃ t, t ≤ 9999 ∧ B 6 p = nI t)
def eK (B : yI) (d : Nat → Int32) (np nr k : Nat) : Prop := (B 7 k = d (164 + 8 * k) ∧ B 8 k = d (164 + 8 * k + 1) ∧ B 9 k = d (164 + 8 * k + 2) ∧ B 10 k = d (164 + 8 * k + 3) ∧ B 11 k = d (164 + 8 * k + 4) ∧ B 12 k = d (164 + 8 * k + 5) ∧ B 13 k = d (164 + 8 * k + 6)) ∧ (∃ p, p < np ∧ B 7 k = nI p) ∧ (∃ r, r < nr ∧ B 8 k = nI r) ∧ (∃ a, a ≤ 99999 ∧ B 9 k = nI a) ∧ (∃ t, t ≤ 9999 ∧ B 10 k = nI t) ∧ (∃ e, e < 256 ∧ B 11 k = nI e) ∧ (∃ s, s ≤ 5 ∧ B 12 k = nI s ∧ d (164 + 8 * k + 7) = (if s = 1 ∨ s = 5 then 1 else 0))
def eF (it : Nat → Int32) (len : Nat) (d : Nat → Int32) (cd : List Int32) : Prop := (d 9 = 0 ∧ len = 1 ∧ it 0 = -1) ∨ (¬ d 9 = 0 ∧ cAt d 0 cd ∧ okc 11 cd 0 ∧ len = cd.length ∧ (∀ j, j < len → it j = cd.getD j 0) ∧ ∀ x ∈ cd, -8 ≤ x ∧ x ≤ 9999)
def eT (d : Nat → Int32) (nd : Nat) : Prop := ∃ t, t ≤ 9999 ∧ d 5 = nI t ∧ ∀ k, k < nd → d (164 + 8 * k + 5) < 4 → ∃ e, d (164 + 8 * k + 6) = nI e ∧ t ≤ e ∧ e ≤ t + 60
def eB (σ B : yI) (it : Nat → Int32) (len : Nat) (d : Nat → Int32) (ni nm nr np nd : Nat) (cd : List Int32) : Prop := eC σ B d ni nm nr np nd ∧ eS σ B d ∧ eA B d ∧ eR σ d nr ∧ eP B d ni nm np ∧ (∀ k, k < nd → eK B d np nr k) ∧ eF it len d cd
section EB
variable {σ B : yI} {it : Nat → Int32} {len : Nat} {d : Nat → Int32} {ni nm nr np nd : Nat} {cd : List Int32}
theorem eB.val (h : eB σ B it len d ni nm nr np nd cd) : yVal σ B ni nm nr np nd := by
  obtain ⟨⟨⟨a1, -, a2⟩, ⟨b1, -, b2⟩, ⟨c1, -, c2⟩, ⟨d1, -, d2⟩, ⟨e1, -, e2⟩⟩, -, -, -, hP, hK, -⟩ := h
  refine ⟨a1, b1, c1, a2, b2, c2, d1, d2, e1, e2, fun k hk => ?_, fun k hk => ?_⟩
  · obtain ⟨-, ⟨i, i1, i2⟩, ⟨m, m1, m2⟩, -⟩ := hP k hk
    rw [i2, m2]
    exact ⟨vp_in_nI (by omega) (by decide), vp_in_nI (by omega) (by decide)⟩
  · obtain ⟨-, ⟨p, p1, p2⟩, ⟨r, r1, r2⟩, -⟩ := hK k hk
    rw [p2, r2]
    exact ⟨vp_in_nI p1 (by omega), vp_in_nI r1 (by omega)⟩
theorem okc_mono {a b : Nat} (hab : a ≤ b) : ∀ (cd : List Int32) (t : Nat), okc a cd t → okc b cd t
  | [], t, h => h
  | it :: r, t, h => by
    unfold okc at h ⊢
    split
    · rename_i hc
      rw [if_pos hc] at h
      exact ⟨h.1, okc_mono hab r _ h.2⟩
    · rename_i hc
      rw [if_neg hc] at h
      exact ⟨Nat.lt_of_lt_of_le h.1 hab, okc_mono hab r _ h.2⟩
/-- a dispute's places in the model's data -/
theorem eB.k (h : eB σ B it len d ni nm nr np nd cd) {k : Nat} (hk : k < nd) : ∃ p i m r e ne, pD d k = p ∧ iD d k = i ∧ mD d k = m ∧ rD d k = r ∧ eD d k = e ∧ nD d k = ne ∧ p < np ∧ i < ni ∧ m < nm ∧ r < nr ∧ e < 256 ∧ ne < 256 ∧ B 7 k = nI p ∧ B 8 k = nI r ∧ B 11 k = nI e ∧ B 3 p = nI i ∧ B 4 p = nI m ∧ σ 9 r = nI ne ∧ d (164 + 8 * k) = nI p ∧ d (164 + 8 * k + 1) = nI r ∧ d (164 + 8 * k + 4) = nI e ∧ d (68 + 4 * p) = nI i ∧ d (68 + 4 * p + 1) = nI m ∧ d (20 + 6 * r + 5) = nI ne := by
  obtain ⟨⟨⟨-, -, a2⟩, ⟨-, -, b2⟩, ⟨-, -, c2⟩, ⟨-, -, d2⟩, ⟨-, -, e2⟩⟩, -, -, hR, hP, hK, -⟩ := h
  obtain ⟨⟨k7, k8, -, -, k11, -, -⟩, ⟨p, p1, p2⟩, ⟨r, r1, r2⟩, -, -, ⟨e, e1, e3⟩, -⟩ := hK k hk
  obtain ⟨⟨q3, q4, -, -⟩, ⟨i, i1, i2⟩, ⟨m, m1, m2⟩, -⟩ := hP p p1
  obtain ⟨s1, ⟨ne, n1, n2⟩, -⟩ := hR r r1
  have s9 := s1 5 (by decide)
  have ep : pD d k = p := by unfold pD; rw [← k7, p2, tn_nI (by omega)]
  have er : rD d k = r := by unfold rD; rw [← k8, r2, tn_nI (by omega)]
  refine ⟨p, i, m, r, e, ne, ep, ?_, ?_, er, ?_, ?_, p1, i1, m1, r1, e1, n1, p2, r2, e3, i2, m2, n2, k7.symm.trans p2, k8.symm.trans r2, k11.symm.trans e3, q3.symm.trans i2, q4.symm.trans m2, s9.symm.trans n2⟩
  · unfold iD; rw [ep, ← q3, i2, tn_nI (by omega)]
  · unfold mD; rw [ep, ← q4, m2, tn_nI (by omega)]
  · unfold eD; rw [← k11, e3, tn_nI (by omega)]
  · unfold nD; rw [er, ← s9]
    show tn (σ 9 r) = ne
    rw [n2, tn_nI (by omega)]
theorem eB.dv (h : eB σ B it len d ni nm nr np nd cd) : dV d nd cd := by
  have hh := h
  obtain ⟨⟨⟨-, -, a2⟩, ⟨-, -, b2⟩, ⟨-, -, c2⟩, ⟨-, -, d2⟩, ⟨-, e1, e2⟩⟩, -, -, hR, hP, hK, hF⟩ := h
  refine ⟨e2, e1, fun k hk => ?_, ?_⟩
  · obtain ⟨p, i, m, r, e, ne, x1, x2, x3, x4, x5, x6, y1, y2, y3, y4, y5, y6, z1, z2, z3, z4, z5, z6, w1, w2, w3, w4, w5, w6⟩ := hh.k hk
    rw [x1, x2, x3, x4, x5, x6]
    exact ⟨⟨by omega, w1, by omega, w4, by omega, w5, by omega, w2, by omega⟩, w6, y6, w3, y5⟩
  · rcases hF with ⟨f1, -⟩ | ⟨-, f2, f3, -⟩
    · exact Or.inl f1
    · exact Or.inr ⟨f2, okc_mono (by decide) cd 0 f3⟩
end EB
/-- the class's outcome o and the model's (t, v); ec: the number of an exception in the law -/
def rl (ec : String → Int32) (o : yRes) (m : Int32 × Int32) : Prop := (∃ r, o = .ok r ∧ m = (0, r)) ∨ ∃ E, o = .error E ∧ m = (ec E, 0) ∧ ¬ ec E = 0
theorem rl_ok {ec : String → Int32} {r v : Int32} (h : r = v) : rl ec (.ok r) (0, v) := Or.inl ⟨r, rfl, by rw [h]⟩
theorem rl_I {ec : String → Int32} (he : ec "java/lang/IndexOutOfBoundsException" = 1) {n : Nat} {x : Int32} {o : yRes} {m : Int32 × Int32} (h : ¬ (x < 0 ∨ n ≤ tn x) → rl ec o m) : rl ec (oI n x o) (mI n x m) := by
  unfold oI mI
  by_cases c : x < 0 ∨ n ≤ tn x
  · rw [if_pos c, if_pos c]; exact Or.inr ⟨_, rfl, by rw [he], by rw [he]; decide⟩
  · rw [if_neg c, if_neg c]; exact h c
theorem rl_A {ec : String → Int32} {k : Int32} (he : ec "java/lang/IllegalArgumentException" = k) (hk : ¬ k = 0) {p : Prop} [Decidable p] {o : yRes} {m : Int32 × Int32} (h : p → rl ec o m) : rl ec (oA p o) (mA k p m) := by
  unfold oA mA
  by_cases c : p
  · rw [if_pos c, if_pos c]; exact h c
  · rw [if_neg c, if_neg c]; exact Or.inr ⟨_, rfl, by rw [he], by rw [he]; exact hk⟩
theorem rl_S {ec : String → Int32} {k : Int32} (he : ec "java/lang/IllegalStateException" = k) (hk : ¬ k = 0) {p p2 : Prop} [Decidable p] [Decidable p2] (hp : p ↔ p2) {o : yRes} {m : Int32 × Int32} (h : p → rl ec o m) : rl ec (oS p o) (mA k p2 m) := by
  unfold oS mA
  by_cases c : p
  · rw [if_pos c, if_pos (hp.mp c)]; exact h c
  · rw [if_neg c, if_neg (fun q => c (hp.mpr q))]; exact Or.inr ⟨_, rfl, by rw [he], by rw [he]; exact hk⟩
theorem sm_cg {f g : Nat → Int32} : ∀ n, (∀ k, k < n → f k = g k) → sm f n = sm g n
  | 0, _ => rfl
  | n + 1, h => by unfold sm; rw [sm_cg n (fun k hk => h k (by omega)), h n (by omega)]
theorem s4_iff : ∀ s, s ≤ 5 → ((nI s = 4 ∨ nI s = 5) ↔ ¬ nI s < 4) := by decide +kernel
section EQ
variable {σ B : yI} {it : Nat → Int32} {len : Nat} {d : Nat → Int32} {ni nm nr np nd : Nat} {cd : List Int32} (h : eB σ B it len d ni nm nr np nd cd)
theorem eq_dsp (h : eB σ B it len d ni nm nr np nd cd) {p : Nat} : sm (fun k => if B 7 k = nI p ∧ ¬ B 12 k = 5 then B 9 k else 0) nd = sm (fun k => if d (164 + 8 * k) = nI p ∧ ¬ d (164 + 8 * k + 5) = 5 then d (164 + 8 * k + 2) else 0) nd := sm_cg nd (fun k hk => by
  obtain ⟨⟨k7, -, k9, -, -, k12, -⟩, -⟩ := h.2.2.2.2.2.1 k hk
  rw [k7, k9, k12])
theorem eq_fin (h : eB σ B it len d ni nm nr np nd cd) {k : Nat} (hk : k < nd) : (B 12 k = 4 ∨ B 12 k = 5) ↔ ¬ d (164 + 8 * k + 5) < 4 := by
  obtain ⟨⟨-, -, -, -, -, k12, -⟩, -, -, -, -, -, ⟨s, s1, s2, -⟩⟩ := h.2.2.2.2.2.1 k hk
  rw [← k12, s2]; exact s4_iff s s1
theorem eq_exp (h : eB σ B it len d ni nm nr np nd cd) {mr : Nat} (hm : mr < nm) : sm (fun k => if B 4 (tn (B 7 k)) = nI mr ∧ ¬ (B 12 k = 4 ∨ B 12 k = 5) then B 9 k else 0) nd = sm (fun k => if mD d k = mr ∧ d (164 + 8 * k + 5) < 4 then d (164 + 8 * k + 2) else 0) nd := sm_cg nd (fun k hk => by
  obtain ⟨p, i, m, r, e, ne, x1, x2, x3, x4, x5, x6, y1, y2, y3, y4, y5, y6, z1, z2, z3, z4, z5, z6, -⟩ := h.k hk
  have n4 := h.1.2.1.2.2
  have n24 := h.1.2.2.2.1.2.2
  rw [z1, tn_nI (by omega), z5, x3, (h.2.2.2.2.2.1 k hk).1.2.2.1]
  have e1 : nI m = nI mr ↔ m = mr := nI_eq (by omega) (by omega)
  have e2 := eq_fin h hk
  by_cases c : m = mr ∧ d (164 + 8 * k + 5) < 4
  · rw [if_pos c, if_pos ⟨e1.mpr c.1, fun q => (e2.mp q) c.2⟩]
  · rw [if_neg c, if_neg (fun q => c ⟨e1.mp q.1, Decidable.not_not.mp (fun w => q.2 (e2.mpr w))⟩)])
theorem eq_rat (h : eB σ B it len d ni nm nr np nd cd) {mr : Nat} (hm : mr < nm) : rateB B np nd (nI mr) = ratM d np nd mr := by
  have s1 : sm (fun k => if B 4 k = nI mr ∧ ¬ B 6 k ≤ B 0 1 - 30 then (1 : Int32) else 0) np = sm (fun k => if d (68 + 4 * k + 1) = nI mr ∧ ¬ d (68 + 4 * k + 3) ≤ d 5 - 30 then 1 else 0) np := sm_cg np (fun k hk => by
    obtain ⟨⟨-, q4, -, q6⟩, -⟩ := h.2.2.2.2.1 k hk
    rw [q4, q6, h.2.1.1])
  have s2 : sm (fun k => if B 4 (tn (B 7 k)) = nI mr ∧ ¬ B 10 k ≤ B 0 1 - 30 then (1 : Int32) else 0) nd = sm (fun k => if mD d k = mr ∧ ¬ d (164 + 8 * k + 3) ≤ d 5 - 30 then 1 else 0) nd := sm_cg nd (fun k hk => by
    obtain ⟨p, i, m, r, e, ne, x1, x2, x3, x4, x5, x6, y1, y2, y3, y4, y5, y6, z1, z2, z3, z4, z5, z6, -⟩ := h.k hk
    have n4 := h.1.2.1.2.2
    have n24 := h.1.2.2.2.1.2.2
    rw [z1, tn_nI (by omega), z5, x3, (h.2.2.2.2.2.1 k hk).1.2.2.2.1, h.2.1.1]
    have e1 : nI m = nI mr ↔ m = mr := nI_eq (by omega) (by omega)
    by_cases c : m = mr ∧ ¬ d (164 + 8 * k + 3) ≤ d 5 - 30
    · rw [if_pos c, if_pos ⟨e1.mpr c.1, c.2⟩]
    · rw [if_neg c, if_neg (fun q => c ⟨e1.mp q.1, q.2⟩)])
  unfold rateB ratM
  rw [s1, s2]
theorem eq_rwc {a b : Nat → Int32} {x : Int32} : ∀ f j, (∀ i, i < j + f → a i = b i) → rwc a x j f = rwc b x j f
  | 0, _, _ => rfl
  | f + 1, j, h => by
    unfold rwc
    rw [h j (by omega), eq_rwc f (j + 1) (fun i hi => h i (by omega))]
theorem eq_edl (h : eB σ B it len d ni nm nr np nd cd) : ∀ n, n ≤ nd → edl (B 12) (B 13) n = edl4 d n
  | 0, _ => rfl
  | n + 1, hn => by
    unfold edl edl4
    rw [eq_edl h n (by omega)]
    have e2 := eq_fin h (k := n) (by omega)
    have e3 : B 13 n = d (164 + 8 * n + 6) := (h.2.2.2.2.2.1 n (by omega)).1.2.2.2.2.2.2
    rw [e3]
    by_cases c : ¬ d (164 + 8 * n + 5) < 4
    · rw [if_pos c, if_pos (e2.mpr c)]
    · rw [if_neg c, if_neg (fun q => c (e2.mp q))]
      by_cases c2 : edl4 d n = -1 ∨ d (164 + 8 * n + 6) < edl4 d n
      · rw [if_pos c2, if_pos (c2.imp id (fun q => Int32.not_le.mpr q))]
      · rw [if_neg c2, if_neg (fun q => c2 (q.imp id (fun w => Int32.not_le.mp w)))]
theorem lsm_cg {α : Type} {f g : α → Nat → α} {a b : α} (hab : a = b) {n : Nat} {F : (α → Nat → α) → α → Nat → α} (hF : F f a n = F g b n) : F f a n = F g b n := hF
end EQ
