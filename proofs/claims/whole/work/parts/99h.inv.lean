/-- a setup's place -/
def yLoc (c n su f : Nat) : Prop := ((su = c + 4 ∧ f = c + 5) ∨ (c + 157 ≤ su ∧ c + 157 ≤ f)) ∧ su + 10 ≤ n ∧ f + 3 ≤ n
/-- the book at i and the model's data d are one -/
def bkR (c n : Nat) (sh : yS) (I : yI) (i : Nat) (d : Nat → Int32) : Prop := ∃ su f m len it σ ni nm nr np nd cd, yBook sh i su ∧ yEra sh I su f m len it σ ∧ eB σ (gR I i) it len d ni nm nr np nd cd ∧ eT d nd ∧ yLoc c n su f
theorem yFor.f2 {sh : yS} {f9 m9 f m : Nat} (h9 : yFor sh f9 m9) (h : yFor sh f m) {k : Nat} (hk : k < 2) : f + k ≠ f9 + 2 := fun q => by
  have e9 : (sh (f9 + 2)).1 = 10 := (yF_a1 h9).1
  have k1 : k = 0 ∨ k = 1 := by omega
  rcases k1 with rfl | rfl
  · have : (sh (f9 + 2)).1 = 1 := by rw [← q]; exact yF_o h
    omega
  · have q2 : f = f9 + 1 := by omega
    have e1 : (sh (f9 + 1)).1 = 10 := (yF_a0 h9).1
    have : (sh (f9 + 1)).1 = 1 := by rw [← q2]; exact yF_o h
    omega
theorem ySet.f2 {sh : yS} {f9 m9 su f : Nat} (h9 : yFor sh f9 m9) (h : ySet sh su f) {k : Nat} (hk : k = 0 ∨ 4 ≤ k) (hk2 : k < 10) : su + k ≠ f9 + 2 := fun q => by
  have e9 := yF_a1 h9
  have l9 : (sh (f9 + 2)).1 = 10 ∧ (sh (f9 + 2)).2.1 = 11 := e9
  have k1 : k = 0 ∨ k = 4 ∨ k = 5 ∨ k = 6 ∨ k = 7 ∨ k = 8 ∨ k = 9 := by omega
  obtain ⟨o, -, -, -, -, -, -, -, x4, x5, x6, x7, x8, x9⟩ := h
  rw [← q] at l9
  rcases k1 with rfl | rfl | rfl | rfl | rfl | rfl | rfl
  · have := l9.1; have o : (sh (su + 0)).1 = 4 := o; omega
  · have := l9.2; have := x4.2; omega
  · have := l9.2; have := x5.2; omega
  · have := l9.2; have := x6.2; omega
  · have := l9.2; have := x7.2; omega
  · have := l9.2; have := x8.2; omega
  · have := l9.2; have := x9.2; omega
theorem eB.rows {σ B B2 : yI} {it : Nat → Int32} {len : Nat} {d : Nat → Int32} {ni nm nr np nd : Nat} {cd : List Int32} (h : eB σ B it len d ni nm nr np nd cd) (e : ∀ k, k < 14 → B2 k = B k) : eB σ B2 it len d ni nm nr np nd cd := h.cgB (fun j _ => by rw [e 0 (by decide)]) (fun r j hr _ => by rw [e r (by omega)]) (fun r j h1 h2 _ => by rw [e r (by omega)]) (fun r j h1 h2 _ => by rw [e r (by omega)])
theorem bkR.mv {c n n2 : Nat} {sh sh2 : yS} {I I2 : yI} {i : Nat} {d d2 : Nat → Int32} (h : bkR c n sh I i d) (hn : n ≤ n2) (hb : ∀ k, k < 14 → sh2 (i + k) = sh (i + k) ∧ I2 (i + k) = I (i + k)) {f9 m9 : Nat} (h9 : yFor sh f9 m9) (hfr : ∀ a, a < n → ((c + 4 ≤ a ∧ a ≤ c + 13) ∨ c + 157 ≤ a) → sh2 a = sh a ∧ (a ≠ f9 + 2 → I2 a = I a)) (hd : ∀ j, j < 1824 → d2 j = d j) : bkR c n2 sh2 I2 i d2 := by
  obtain ⟨su, f, m, len, it, σ, ni, nm, nr, np, nd, cd, h1, h2, h3, h4, h5, h6, h7⟩ := h
  refine ⟨su, f, m, len, it, σ, ni, nm, nr, np, nd, cd, h1.cg (fun a a1 a2 => ?_), h2.of (fun k k1 k2 => (hfr _ (by omega) (by omega)).1) (fun k k2 => (hfr _ (by omega) (by omega)).1) (fun k k1 k2 => (hfr _ (by omega) (by omega)).2 (h2.1.f2 h9 k1 k2)) (fun k k2 => (hfr _ (by omega) (by omega)).2 (h9.f2 h2.2.1 k2)), (h3.rows (fun k hk => (hb k hk).2)).cgD hd, h4.cgD h3.1.2.2.2.2.2.2 hd, h5, by omega, by omega⟩
  have := (hb (a - i) (by omega)).1
  rw [show i + (a - i) = a by omega] at this
  exact this
/-- the shapes, the numbers, the books -/
def lS (c : Nat) (sh : yS) : Prop := yCha sh c ∧ yHis sh (c + 3) (c + 14) (c + 15) ∧ yInp sh (c + 1) ∧ yMod sh (c + 141) ∧ yArr sh (c + 156) 11 1 ∧ ∀ j, j < 9 → ∃ s, yBook sh (c + 15 + 14 * j) s
def lV (c : Nat) (I : yI) (at0 u bl : Nat) : Prop := (at0 < 9 ∧ I (c + 3) 1 = nI at0) ∧ (I (c + 3) 2 = nI u ∧ u ≤ 8 ∧ I (c + 141) 12 = nI u) ∧ (I (c + 1) 1 = nI bl ∧ bl ≤ 900 ∧ I (c + 141) 2 = nI bl) ∧ I c 2 = I (c + 141) 7 ∧ byR (I (c + 2)) (I (c + 142))
def lB (c n : Nat) (sh : yS) (I : yI) (at0 u : Nat) : Prop := ∀ t, t ≤ u → bkR c n sh I (c + 15 + 14 * ((at0 + 9 - t) % 9)) (I (if t = 0 then c + 143 else c + 147 + (u - t)))
def LI (c n : Nat) (sh : yS) (I : yI) (at0 u bl : Nat) : Prop := c + 157 ≤ n ∧ lS c sh ∧ lV c I at0 u bl ∧ lB c n sh I at0 u
def lA (c n : Nat) (sh : yS) (I : yI) : Prop := ∃ at0 u bl, LI c n sh I at0 u bl
theorem yHis.cg {sh sh2 : yS} {h r b : Nat} (q : yHis sh h r b) (e1 : sh2 h = sh h) (e2 : sh2 r = sh r) : yHis sh2 h r b := by
  unfold yHis yArr at q ⊢
  rw [e1, e2]; exact q
theorem yMod.cg {sh sh2 : yS} {q : Nat} (h : yMod sh q) (e : ∀ k, k < 15 → sh2 (q + k) = sh (q + k)) : yMod sh2 q := by
  unfold yMod yArr at h ⊢
  have e0 : sh2 q = sh q := e 0 (by decide)
  rw [e0, e 1 (by decide), e 2 (by decide), e 3 (by decide), e 4 (by decide), e 5 (by decide), e 14 (by decide)]
  obtain ⟨a1, a2, a3, a4, a5, a6, a7, a8, a9, b1, b2, b3, b4, b5, b6⟩ := h
  refine ⟨a1, a2, a3, a4, a5, a6, a7, a8, a9, b1, b2, b3, b4, b5, fun j hj => ?_⟩
  rw [show q + 6 + j = q + (6 + j) by omega, e (6 + j) (by omega), show q + (6 + j) = q + 6 + j by omega]
  exact b6 j hj
theorem lS.cg {c : Nat} {sh sh2 : yS} (h : lS c sh) (e : ∀ a, c ≤ a → a < c + 157 → sh2 a = sh a) : lS c sh2 := by
  obtain ⟨h1, h2, h3, h4, h5, h6⟩ := h
  refine ⟨?_, h2.cg (e _ (by omega) (by omega)) (e _ (by omega) (by omega)), ?_, h4.cg (fun k hk => e _ (by omega) (by omega)), ?_, fun j hj => ?_⟩
  · unfold yCha at h1 ⊢; rw [e c (by omega) (by omega)]; exact h1
  · unfold yInp yArr at h3 ⊢; rw [e (c + 1) (by omega) (by omega), e (c + 1 + 1) (by omega) (by omega)]; exact h3
  · unfold yArr at h5 ⊢; rw [e (c + 156) (by omega) (by omega)]; exact h5
  · obtain ⟨s, hs⟩ := h6 j hj
    exact ⟨s, hs.cg (fun a a1 a2 => e a (by omega) (by omega))⟩
theorem upr_ne {sh : yS} {i j a : Nat} {v : Option Nat} (h : a ≠ i) : upr sh i j v a = sh a := va_up_ne _ _ h
theorem lS.up {c : Nat} {sh : yS} (h : lS c sh) {q s2 : Nat} (hq : q < 9) : lS c (upr sh (c + 15 + 14 * q) 0 (some s2)) := by
  obtain ⟨h1, h2, h3, h4, h5, h6⟩ := h
  refine ⟨?_, h2.cg (upr_ne (by omega)) (upr_ne (by omega)), ?_, h4.cg (fun k hk => upr_ne (by omega)), ?_, fun j hj => ?_⟩
  · unfold yCha at h1 ⊢; rw [upr_ne (a := c) (by omega)]; exact h1
  · unfold yInp yArr at h3 ⊢; rw [upr_ne (a := c + 1) (by omega), upr_ne (a := c + 1 + 1) (by omega)]; exact h3
  · unfold yArr at h5 ⊢; rw [upr_ne (a := c + 156) (by omega)]; exact h5
  · obtain ⟨s, hs⟩ := h6 j hj
    by_cases hjq : j = q
    · subst hjq; exact ⟨s2, hs.up⟩
    · exact ⟨s, hs.cg (fun a a1 a2 => upr_ne (by omega))⟩
/-- nothing that counts has changed -/
theorem LI.keep {c n n2 : Nat} {sh sh2 : yS} {I I2 : yI} {at0 u bl : Nat} (h : LI c n sh I at0 u bl) (hn : n ≤ n2) (hsh : ∀ a, a < n → sh2 a = sh a) {f9 m9 : Nat} (h9 : yFor sh f9 m9) (hf9 : f9 = c + 5 ∨ c + 157 ≤ f9) (hI : ∀ a, a < n → a ≠ f9 + 2 → a ≠ c + 141 → a ≠ c + 144 → a ≠ c + 145 → I2 a = I a) (hq : ∀ j, (j = 2 ∨ j = 7 ∨ j = 12) → I2 (c + 141) j = I (c + 141) j) : LI c n2 sh2 I2 at0 u bl := by
  obtain ⟨h0, hS, ⟨⟨a1, a2⟩, ⟨b1, b2, b3⟩, ⟨c1, c2, c3⟩, d1, e1⟩, hB⟩ := h
  have kp : ∀ a, a < n → (a < c + 7 ∨ (c + 14 ≤ a ∧ a < c + 141) ∨ a = c + 142 ∨ a = c + 143 ∨ (c + 147 ≤ a ∧ a < c + 157)) → I2 a = I a := fun a x y => hI a x (by omega) (by omega) (by omega) (by omega)
  refine ⟨by omega, hS.cg (fun a _ x => hsh a (by omega)), ⟨⟨a1, ?_⟩, ⟨?_, b2, ?_⟩, ⟨?_, c2, ?_⟩, ?_, ?_⟩, fun t ht => ?_⟩
  · rw [kp (c + 3) (by omega) (by omega)]; exact a2
  · rw [kp (c + 3) (by omega) (by omega)]; exact b1
  · rw [hq 12 (by omega)]; exact b3
  · rw [kp (c + 1) (by omega) (by omega)]; exact c1
  · rw [hq 2 (by omega)]; exact c3
  · rw [kp c (by omega) (by omega), hq 7 (by omega)]; exact d1
  · rw [kp (c + 2) (by omega) (by omega), kp (c + 142) (by omega) (by omega)]; exact e1
  · have r : I2 (if t = 0 then c + 143 else c + 147 + (u - t)) = I (if t = 0 then c + 143 else c + 147 + (u - t)) := by
      split
      · exact kp _ (by omega) (by omega)
      · exact kp _ (by omega) (by omega)
    rw [r]
    exact (hB t ht).mv hn (fun k hk => ⟨hsh _ (by omega), kp _ (by omega) (by omega)⟩) h9 (fun a x y => ⟨hsh a x, fun z => hI a x z (by omega) (by omega) (by omega)⟩) (fun _ _ => rfl)
/-- a new book is the present one -/
theorem LI.push {c n n2 : Nat} {sh sh2 : yS} {I I2 : yI} {at0 u bl at1 u1 bl2 su2 : Nat} (h : LI c n sh I at0 u bl) (hn : n ≤ n2) (h1 : at1 = (at0 + 1) % 9) (hu1 : u1 = min (u + 1) 8) (hsh : ∀ a, a < n → sh2 a = upr sh (c + 15 + 14 * at1) 0 (some su2) a) {f9 m9 : Nat} (h9 : yFor sh f9 m9) (hf9 : f9 = c + 5 ∨ c + 157 ≤ f9)
    (hI : ∀ a, a < n → a ≠ f9 + 2 → ((c + 4 ≤ a ∧ a < c + 15 + 14 * at1) ∨ (c + 15 + 14 * at1 + 14 ≤ a ∧ a < c + 141) ∨ c + 157 ≤ a) → I2 a = I a)
    (hV : lV c I2 at1 u1 bl2) (hnew : bkR c n2 sh2 I2 (c + 15 + 14 * at1) (I2 (c + 143))) (hd1 : ∀ j, j < 1824 → I2 (c + 147 + (u1 - 1)) j = I (c + 143) j) (hd2 : ∀ t, 1 ≤ t → t < u1 → ∀ j, j < 1824 → I2 (c + 147 + (u1 - 1 - t)) j = I (c + 147 + (u - t)) j) : LI c n2 sh2 I2 at1 u1 bl2 := by
  obtain ⟨h0, hS, ⟨⟨a1, a2⟩, ⟨b1, b2, b3⟩, -, -, -⟩, hB⟩ := h
  have q9 : at1 < 9 := by omega
  refine ⟨by omega, (hS.up (s2 := su2) q9).cg (fun a _ x => hsh a (by omega)), hV, fun t ht => ?_⟩
  by_cases t0 : t = 0
  · subst t0
    rw [if_pos rfl, show (at1 + 9 - 0) % 9 = at1 by omega]
    exact hnew
  · rw [if_neg t0]
    have hb := hB (t - 1) (by omega)
    have ei : (at0 + 9 - (t - 1)) % 9 = (at1 + 9 - t) % 9 := by omega
    have ne : (at1 + 9 - t) % 9 ≠ at1 := by omega
    rw [ei] at hb
    obtain ⟨j9, hj9⟩ : ∃ q, q = (at1 + 9 - t) % 9 := ⟨_, rfl⟩
    rw [← hj9] at hb ne ⊢
    have j9l : j9 < 9 := by omega
    have sep : ∀ a, a < n → (a < c + 15 + 14 * at1 ∨ c + 15 + 14 * at1 + 14 ≤ a) → sh2 a = sh a := fun a x y => by rw [hsh a x, upr_ne (by omega)]
    have rg : c + 15 + 14 * j9 + 14 ≤ c + 15 + 14 * at1 ∨ c + 15 + 14 * at1 + 14 ≤ c + 15 + 14 * j9 := by omega
    refine hb.mv hn (fun k hk => ⟨sep _ (by omega) (by omega), hI _ (by omega) (by omega) (by omega)⟩) h9 (fun a x y => ⟨sep a x (by omega), fun z => hI a x z (by omega)⟩) (fun j hj => ?_)
    by_cases t1 : t = 1
    · subst t1
      rw [if_pos rfl]
      exact hd1 j hj
    · rw [if_neg (by omega)]
      have := hd2 (t - 1) (by omega) (by omega) j hj
      rw [show u1 - 1 - (t - 1) = u1 - t by omega] at this
      exact this
