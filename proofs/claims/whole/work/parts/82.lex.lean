theorem tk_fuel {b : Nat → Int32} {N : Nat} : ∀ (f g a : Nat), N ≤ a + f → N ≤ a + g → tk b N f a = tk b N g a
  | 0, 0, a, _, _ => rfl
  | 0, g + 1, a, h, _ => by rw [tk, tk, if_pos (by omega)]
  | f + 1, 0, a, _, h => by rw [tk, tk, if_pos (by omega)]
  | f + 1, g + 1, a, h1, h2 => by
    unfold tk
    by_cases h3 : N ≤ a
    · rw [if_pos h3, if_pos h3]
    rw [if_neg h3, if_neg h3]
    by_cases h4 : dgP (b a)
    · rw [if_pos h4, if_pos h4]
      have := rn_gt (f := N - a) h4 (by omega)
      rw [tk_fuel f g _ (by omega) (by omega)]
    rw [if_neg h4, if_neg h4]
    by_cases h5 : ltP (b a)
    · rw [if_pos h5, if_pos h5]
      have := rn_gt (f := N - a) h5 (by omega)
      rw [tk_fuel f g _ (by omega) (by omega)]
    rw [if_neg h5, if_neg h5]
    by_cases h6 : b a = 32
    · rw [if_pos h6, if_pos h6, tk_fuel f g _ (by omega) (by omega)]
    · rw [if_neg h6, if_neg h6, tk_fuel f g _ (by omega) (by omega)]
theorem tk_un {b : Nat → Int32} {N a : Nat} (h : a < N) : tk b N N a = if dgP (b a) then (256, a, dv b (rn dgP b (N - a) a - a) a 0) :: tk b N N (rn dgP b (N - a) a) else if ltP (b a) then (kwd b a (rn ltP b (N - a) a), a, 0) :: tk b N N (rn ltP b (N - a) a) else if b a = 32 then tk b N N (a + 1) else (b a &&& 255, a, 0) :: tk b N N (a + 1) := by
  rw [tk_fuel N (N + 1) a (by omega) (by omega), tk, if_neg (by omega)]
theorem tk_skp {b : Nat → Int32} {N : Nat} : ∀ (f a : Nat), a + f = N → tk b N N (rn spP b f a) = tk b N N a
  | 0, a, _ => rfl
  | f + 1, a, h => by
    by_cases e : spP (b a)
    · rw [rn_1 e, tk_skp f (a + 1) (by omega), tk_un (a := a) (by omega), if_neg (by rw [show b a = 32 from e]; decide), if_neg (by rw [show b a = 32 from e]; decide), if_pos e]
    · rw [rn_0 e]
theorem rn_stop {P : Int32 → Prop} [DecidablePred P] {b : Nat → Int32} : ∀ (f a : Nat), rn P b f a < a + f → ¬ P (b (rn P b f a))
  | 0, a, h => by have : a < a + 0 := h; omega
  | f + 1, a, h => by
    by_cases e : P (b a)
    · rw [rn_1 e] at h ⊢
      exact rn_stop f (a + 1) (by omega)
    · rw [rn_0 e]; exact e
theorem rn_all {P : Int32 → Prop} [DecidablePred P] {b : Nat → Int32} : ∀ (f a j : Nat), a ≤ j → j < rn P b f a → P (b j)
  | 0, a, j, h1, h2 => by have : j < a := h2; omega
  | f + 1, a, j, h1, h2 => by
    by_cases e : P (b a)
    · rw [rn_1 e] at h2
      by_cases e2 : j = a
      · subst e2; exact e
      · exact rn_all f (a + 1) j (by omega) h2
    · rw [rn_0 e] at h2; omega
theorem rn_eq {P : Int32 → Prop} [DecidablePred P] {b : Nat → Int32} : ∀ (f a m : Nat), m ≤ f → (∀ j, j < m → P (b (a + j))) → (m < f → ¬ P (b (a + m))) → rn P b f a = a + m
  | 0, a, m, h, _, _ => by have : m = 0 := by omega
                           subst this; rfl
  | f + 1, a, 0, h, h1, h2 => rn_0 (h2 (by omega))
  | f + 1, a, m + 1, h, h1, h2 => by
    rw [rn_1 (show P (b a) from h1 0 (by omega)), rn_eq f (a + 1) m (by omega) (fun j hj => by rw [show a + 1 + j = a + (j + 1) by omega]; exact h1 (j + 1) (by omega)) (fun hm => by rw [show a + 1 + m = a + (m + 1) by omega]; exact h2 (by omega))]
    omega
theorem drop_hd {S t : List (Int32 × Nat × Int32)} {x : Int32 × Nat × Int32} {i : Nat} (h : S.drop i = x :: t) : i < S.length ∧ S.getD i (0, 0, 0) = x ∧ S.drop (i + 1) = t := by
  have hl : i < S.length := by
    rcases Nat.lt_or_ge i S.length with q | q
    · exact q
    · rw [List.drop_eq_nil_of_le q] at h; cases h
  rw [List.drop_eq_getElem_cons hl] at h
  injection h with h1 h2
  refine ⟨hl, ?_, h2⟩
  rw [← h1]
  simp [List.getD, List.getElem?_eq_getElem hl]
/-- the bytes are from 0 to 255 -/
def byP (b : Nat → Int32) : Prop := ∀ j, ∃ m, m < 256 ∧ b j = nI m
theorem by_and {b : Nat → Int32} (h : byP b) (j : Nat) : b j &&& 255 = b j := by
  obtain ⟨m, hm, e⟩ := h j
  rw [e, show (255 : Int32) = nI 255 from rfl, nI_and]
  congr 1
  rw [show 255 = 2 ^ 8 - 1 from rfl, Nat.and_two_pow_sub_one_eq_mod]
  exact Nat.mod_eq_of_lt hm
theorem nI_sm {m g : Nat} (hm : m < 256) (hg : g < 256) (h : nI m = nI g) : m = g := nI_eq2 h
/-- at p the text stands before token i -/
def atP (b : Nat → Int32) (len : Nat) (S : List (Int32 × Nat × Int32)) (i p : Nat) : Prop := p ≤ len ∧ tk b len len p = S.drop i
/-- what stands at p, spaces skipped -/
def lxP (b : Nat → Int32) (len : Nat) (S : List (Int32 × Nat × Int32)) (i a : Nat) : Prop := tkS S i = nI a ∧ a ≤ len ∧ atP b len S i a ∧ skp b len a = a ∧
  ((bA b len a = -1 ∧ a = len ∧ tkK S i = -1) ∨
   (dgP (bA b len a) ∧ a < len ∧ tkK S i = 256 ∧ tkV S i = dv b (dgE b len a - a) a 0 ∧ atP b len S (i + 1) (dgE b len a)) ∨
   (ltP (bA b len a) ∧ a < len ∧ tkK S i = kwd b a (rn ltP b (len - a) a) ∧ atP b len S (i + 1) (rn ltP b (len - a) a)) ∨
   (¬ dgP (bA b len a) ∧ ¬ ltP (bA b len a) ∧ a < len ∧ tkK S i = bA b len a ∧ (∃ m, m < 256 ∧ bA b len a = nI m) ∧ atP b len S (i + 1) (a + 1)))
theorem lx {b : Nat → Int32} {len : Nat} {S : List (Int32 × Nat × Int32)} {i p : Nat} (hb : byP b) (h : atP b len S i p) : lxP b len S i (skp b len p) := by
  obtain ⟨hp, ht⟩ := h
  have hs := skp_le (b := b) hp
  have ha : tk b len len (skp b len p) = S.drop i := (tk_skp (len - p) p (by omega)).trans ht
  have hn : skp b len p < len → ¬ b (skp b len p) = 32 := fun q => rn_stop (P := spP) (len - p) p (by unfold skp at q; omega)
  obtain ⟨a, ea⟩ : ∃ a, a = skp b len p := ⟨_, rfl⟩
  rw [← ea] at hs ha hn ⊢
  have hsk : skp b len a = a := by
    unfold skp
    rcases Nat.lt_or_ge a len with q | q
    · rw [show len - a = len - a - 1 + 1 by omega]; exact rn_0 (hn q)
    · rw [show len - a = 0 by omega]; rfl
  have hat : atP b len S i a := ⟨hs, ha⟩
  rcases Nat.lt_or_ge a len with q | q
  · have eb : bA b len a = b a := if_pos q
    rw [tk_un q] at ha
    by_cases h4 : dgP (b a)
    · rw [if_pos h4] at ha
      obtain ⟨d1, d2, d3⟩ := drop_hd ha.symm
      have hle := rn_le (P := dgP) (b := b) (len - a) a
      exact ⟨by unfold tkS; rw [d2], hs, hat, hsk, Or.inr (Or.inl ⟨by rw [eb]; exact h4, q, by unfold tkK; rw [d2], by unfold tkV; rw [d2]; rfl, by unfold dgE; omega, d3.symm⟩)⟩
    rw [if_neg h4] at ha
    by_cases h5 : ltP (b a)
    · rw [if_pos h5] at ha
      obtain ⟨d1, d2, d3⟩ := drop_hd ha.symm
      have hle := rn_le (P := ltP) (b := b) (len - a) a
      exact ⟨by unfold tkS; rw [d2], hs, hat, hsk, Or.inr (Or.inr (Or.inl ⟨by rw [eb]; exact h5, q, by unfold tkK; rw [d2], by omega, d3.symm⟩))⟩
    rw [if_neg h5, if_neg (hn q)] at ha
    obtain ⟨d1, d2, d3⟩ := drop_hd ha.symm
    refine ⟨by unfold tkS; rw [d2], hs, hat, hsk, Or.inr (Or.inr (Or.inr ⟨by rw [eb]; exact h4, by rw [eb]; exact h5, q, ?_, ?_, by omega, d3.symm⟩))⟩
    · unfold tkK; rw [d2, eb]; exact by_and hb a
    · rw [eb]; exact hb a
  · have e : a = len := by omega
    have hz : tk b len len a = [(-1, len, 0)] := by
      rw [tk_fuel len (len + 1) a (by omega) (by omega), tk, if_pos (by omega)]
    rw [hz] at ha
    obtain ⟨d1, d2, d3⟩ := drop_hd ha.symm
    exact ⟨by unfold tkS; rw [d2, e], hs, hat, hsk, Or.inl ⟨if_neg (by omega), e, by unfold tkK; rw [d2]⟩⟩
theorem kwd_in {b : Nat → Int32} {s e : Nat} : ∃ w, w < 11 ∧ kwd b s e = nI (257 + w) := by
  unfold kwd
  split; · exact ⟨0, by decide, rfl⟩
  split; · exact ⟨1, by decide, rfl⟩
  split; · exact ⟨2, by decide, rfl⟩
  split; · exact ⟨3, by decide, rfl⟩
  split; · exact ⟨4, by decide, rfl⟩
  split; · exact ⟨5, by decide, rfl⟩
  split; · exact ⟨6, by decide, rfl⟩
  split; · exact ⟨7, by decide, rfl⟩
  split; · exact ⟨8, by decide, rfl⟩
  split; · exact ⟨9, by decide, rfl⟩
  exact ⟨10, by decide, rfl⟩
theorem sg_dl : ∀ g, g < 256 → (g < 48 ∨ (57 < g ∧ g < 97) ∨ 122 < g) → ¬ dgP (nI g) ∧ ¬ ltP (nI g) := by decide +kernel
/-- a sign is a token of its own -/
theorem lx_sg {b : Nat → Int32} {len : Nat} {S : List (Int32 × Nat × Int32)} {i a g : Nat} (h : lxP b len S i a) (hg : g < 256) (hn : g < 48 ∨ (57 < g ∧ g < 97) ∨ 122 < g) : bA b len a = nI g ↔ tkK S i = nI g := by
  obtain ⟨n1, n2⟩ := sg_dl g hg hn
  obtain ⟨-, -, -, -, h | h | h | h⟩ := h
  · rw [h.1, h.2.2]
  · refine ⟨fun q => absurd h.1 (by rw [q]; exact n1), fun q => ?_⟩
    rw [h.2.2.1] at q
    have : 256 = g := nI_eq2 (a := 256) (b := g) q
    omega
  · refine ⟨fun q => absurd h.1 (by rw [q]; exact n2), fun q => ?_⟩
    obtain ⟨w, hw, e⟩ := kwd_in (b := b) (s := a) (e := rn ltP b (len - a) a)
    rw [h.2.2.1, e] at q
    have : 257 + w = g := nI_eq2 q
    omega
  · rw [h.2.2.2.1]
theorem lx_nx {b : Nat → Int32} {len : Nat} {S : List (Int32 × Nat × Int32)} {i a g : Nat} (h : lxP b len S i a) (hg : g < 256) (hn : g < 48 ∨ (57 < g ∧ g < 97) ∨ 122 < g) (e : bA b len a = nI g) : a < len ∧ atP b len S (i + 1) (a + 1) := by
  obtain ⟨n1, n2⟩ := sg_dl g hg hn
  obtain ⟨-, -, -, -, h | h | h | h⟩ := h
  · rw [h.1] at e
    have h0 := (nI_leI (a := 0) (b := g) (by decide) (by omega)).mpr (Nat.zero_le _)
    rw [← e] at h0; exact absurd h0 (by decide)
  · exact absurd h.1 (by rw [e]; exact n1)
  · exact absurd h.1 (by rw [e]; exact n2)
  · exact ⟨h.2.2.1, h.2.2.2.2.2⟩
theorem lx_dg {b : Nat → Int32} {len : Nat} {S : List (Int32 × Nat × Int32)} {i a : Nat} (h : lxP b len S i a) : dgP (bA b len a) ↔ tkK S i = 256 := by
  obtain ⟨-, -, -, -, h | h | h | h⟩ := h
  · rw [h.1, h.2.2]; decide
  · exact ⟨fun _ => h.2.2.1, fun _ => h.1⟩
  · refine ⟨fun q => absurd h.1 (fun w => ?_), fun q => ?_⟩
    · exact absurd (Int32.le_trans (Int32.not_lt.mp w.1) q.2) (by decide)
    · obtain ⟨w, hw, e⟩ := kwd_in (b := b) (s := a) (e := rn ltP b (len - a) a)
      rw [h.2.2.1, e] at q
      have : 257 + w = 256 := nI_eq2 (b := 256) q
      omega
  · refine ⟨fun q => absurd q h.1, fun q => ?_⟩
    obtain ⟨m, hm, e⟩ := h.2.2.2.2.1
    rw [h.2.2.2.1, e] at q
    have : m = 256 := nI_eq2 (b := 256) q
    omega
theorem lx_end {b : Nat → Int32} {len : Nat} {S : List (Int32 × Nat × Int32)} {i a : Nat} (h : lxP b len S i a) : bA b len a = -1 ↔ tkK S i = -1 := by
  obtain ⟨-, -, -, -, h | h | h | h⟩ := h
  · rw [h.1, h.2.2]
  · rw [h.2.2.1]; exact ⟨fun q => absurd h.1 (by rw [q]; decide), fun q => absurd q (by decide)⟩
  · rw [h.2.2.1]; exact ⟨fun q => absurd h.1 (by rw [q]; decide), fun q => absurd q kwd_ne⟩
  · rw [h.2.2.2.1]
theorem wd_uni : ∀ i, i < 10 → ∀ j, j < 10 → sN i = sN j → (∀ k, k < sN i → sB i k = sB j k) → i = j := by decide +kernel
theorem sN_pos : ∀ i, i < 10 → 0 < sN i ∧ sN i < 8 := by decide +kernel
theorem sB_lt : ∀ i, i < 10 → ∀ k, k < sN i → ltP (sB i k) := by decide +kernel
theorem wd_one {b : Nat → Int32} {s e i j : Nat} (hi : i < 10) (hj : j < 10) (h1 : wdP b s e i) (h2 : wdP b s e j) : i = j := wd_uni i hi j hj (h1.1.symm.trans h2.1) (fun k hk => (h1.2 k hk).symm.trans (h2.2 k (by rw [← h2.1, h1.1]; exact hk)))
theorem kwd_iff {b : Nat → Int32} {s e : Nat} : ∀ i, i < 10 → (kwd b s e = nI (257 + i) ↔ wdP b s e i) := by
  intro i hi
  have key : ∀ j, j < 10 → wdP b s e j → kwd b s e = nI (257 + j) → (kwd b s e = nI (257 + i) ↔ wdP b s e i) := fun j hj hw he => by
    refine ⟨fun q => ?_, fun q => ?_⟩
    · rw [he] at q
      have : 257 + j = 257 + i := nI_eq2 q
      have : j = i := by omega
      subst this; exact hw
    · have := wd_one hj hi hw q
      subst this; exact he
  by_cases h0 : wdP b s e 0
  · exact key 0 (by decide) h0 (by rw [kwd, if_pos h0]; rfl)
  by_cases h1 : wdP b s e 1
  · exact key 1 (by decide) h1 (by rw [kwd, if_neg h0, if_pos h1]; rfl)
  by_cases h2 : wdP b s e 2
  · exact key 2 (by decide) h2 (by rw [kwd, if_neg h0, if_neg h1, if_pos h2]; rfl)
  by_cases h3 : wdP b s e 3
  · exact key 3 (by decide) h3 (by rw [kwd, if_neg h0, if_neg h1, if_neg h2, if_pos h3]; rfl)
  by_cases h4 : wdP b s e 4
  · exact key 4 (by decide) h4 (by rw [kwd, if_neg h0, if_neg h1, if_neg h2, if_neg h3, if_pos h4]; rfl)
  by_cases h5 : wdP b s e 5
  · exact key 5 (by decide) h5 (by rw [kwd, if_neg h0, if_neg h1, if_neg h2, if_neg h3, if_neg h4, if_pos h5]; rfl)
  by_cases h6 : wdP b s e 6
  · exact key 6 (by decide) h6 (by rw [kwd, if_neg h0, if_neg h1, if_neg h2, if_neg h3, if_neg h4, if_neg h5, if_pos h6]; rfl)
  by_cases h7 : wdP b s e 7
  · exact key 7 (by decide) h7 (by rw [kwd, if_neg h0, if_neg h1, if_neg h2, if_neg h3, if_neg h4, if_neg h5, if_neg h6, if_pos h7]; rfl)
  by_cases h8 : wdP b s e 8
  · exact key 8 (by decide) h8 (by rw [kwd, if_neg h0, if_neg h1, if_neg h2, if_neg h3, if_neg h4, if_neg h5, if_neg h6, if_neg h7, if_pos h8]; rfl)
  by_cases h9 : wdP b s e 9
  · exact key 9 (by decide) h9 (by rw [kwd, if_neg h0, if_neg h1, if_neg h2, if_neg h3, if_neg h4, if_neg h5, if_neg h6, if_neg h7, if_neg h8, if_pos h9]; rfl)
  have he : kwd b s e = nI 267 := by rw [kwd, if_neg h0, if_neg h1, if_neg h2, if_neg h3, if_neg h4, if_neg h5, if_neg h6, if_neg h7, if_neg h8, if_neg h9]; rfl
  refine ⟨fun q => ?_, fun q => ?_⟩
  · rw [he] at q
    have : 267 = 257 + i := nI_eq2 q
    omega
  · rcases (show i = 0 ∨ i = 1 ∨ i = 2 ∨ i = 3 ∨ i = 4 ∨ i = 5 ∨ i = 6 ∨ i = 7 ∨ i = 8 ∨ i = 9 by omega) with rfl | rfl | rfl | rfl | rfl | rfl | rfl | rfl | rfl | rfl <;> exact absurd q (by assumption)
theorem bA_l {b : Nat → Int32} {len j : Nat} (h : ltP (bA b len j)) : j < len := by
  rcases Nat.lt_or_ge j len with h1 | h1
  · exact h1
  · rw [bA, if_neg (by omega)] at h; exact absurd h.1 (by decide)
/-- a word in the text is a token of its own -/
theorem lx_wd {b : Nat → Int32} {len : Nat} {S : List (Int32 × Nat × Int32)} {i a w : Nat} (h : lxP b len S i a) (hw : w < 10) : (mtP b len a w ↔ tkK S i = nI (257 + w)) ∧ (mtP b len a w → atP b len S (i + 1) (a + sN w)) := by
  obtain ⟨p1, p2⟩ := sN_pos w hw
  have f0 : mtP b len a w → ltP (bA b len a) := fun q => by
    have := q.1 0 p1
    rw [Nat.add_zero] at this
    rw [this]; exact sB_lt w hw 0 p1
  have nl : ¬ ltP (bA b len a) → ¬ tkK S i = nI (257 + w) → (mtP b len a w ↔ tkK S i = nI (257 + w)) ∧ (mtP b len a w → atP b len S (i + 1) (a + sN w)) := fun q1 q2 => ⟨⟨fun q => absurd (f0 q) q1, fun q => absurd q q2⟩, fun q => absurd (f0 q) q1⟩
  obtain ⟨-, hal, -, -, h | h | h | h⟩ := h
  · exact nl (by rw [h.1]; decide) (by
      rw [h.2.2]; intro q
      have h0 := (nI_leI (a := 0) (b := 257 + w) (by decide) (by omega)).mpr (Nat.zero_le _)
      rw [← q] at h0; exact absurd h0 (by decide))
  · exact nl (fun q => absurd (Int32.le_trans (Int32.not_lt.mp q.1) h.1.2) (by decide)) (by
      rw [h.2.2.1]; intro q
      have : 256 = 257 + w := nI_eq2 (a := 256) q
      omega)
  · have hrn : mtP b len a w → rn ltP b (len - a) a = a + sN w := fun q => by
      have hin : ∀ k, k < sN w → a + k < len := fun k hk => bA_l (by rw [q.1 k hk]; exact sB_lt w hw k hk)
      have hlast := hin (sN w - 1) (by omega)
      refine rn_eq (len - a) a (sN w) (by omega) (fun j hj => ?_) (fun hm => ?_)
      · have := q.1 j hj
        rw [bA, if_pos (hin j hj)] at this
        rw [this]; exact sB_lt w hw j hj
      · have := q.2
        rw [bA, if_pos (by omega)] at this
        exact this
    have hiff : mtP b len a w ↔ wdP b a (rn ltP b (len - a) a) w := by
      refine ⟨fun q => ⟨by rw [hrn q]; omega, fun k hk => ?_⟩, fun q => ⟨fun k hk => ?_, ?_⟩⟩
      · have hin : a + k < len := bA_l (by rw [q.1 k hk]; exact sB_lt w hw k hk)
        rw [← q.1 k hk, bA, if_pos hin]
      · have hge := rn_ge (P := ltP) (b := b) (len - a) a
        have hle := rn_le (P := ltP) (b := b) (len - a) a
        have := q.1
        rw [bA, if_pos (by omega)]; exact q.2 k hk
      · have hge := rn_ge (P := ltP) (b := b) (len - a) a
        have hle := rn_le (P := ltP) (b := b) (len - a) a
        have e : rn ltP b (len - a) a = a + sN w := by have := q.1; omega
        rcases Nat.lt_or_ge (a + sN w) len with g | g
        · rw [bA, if_pos g]
          have := rn_stop (P := ltP) (b := b) (len - a) a (by omega)
          rw [e] at this; exact this
        · rw [bA, if_neg (by omega)]; decide
    refine ⟨?_, fun q => ?_⟩
    · rw [h.2.2.1, kwd_iff w hw]; exact hiff
    · rw [← hrn q]; exact h.2.2.2
  · exact nl h.2.1 (by
      obtain ⟨m, hm, e⟩ := h.2.2.2.2.1
      rw [h.2.2.2.1, e]; intro q
      have : m = 257 + w := nI_eq2 q
      omega)
theorem nI_dg {x m : Nat} (hm : ¬ m < 48) (hm2 : m < 58) : 10 * nI x + nI m - 48 = nI (10 * x + (m - 48)) := by
  have h1 : (10 : Int32) * nI x = nI (10 * x) := by
    have := pk_mul (a := 10) (b := x)
    exact this
  rw [h1, nI_add, show 10 * x + m = 10 * x + (m - 48) + 48 by omega, ← nI_add, show (48 : Int32) = nI 48 from rfl]
  rw [Int32.add_sub_cancel]
