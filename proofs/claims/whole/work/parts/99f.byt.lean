/-- a signed byte -/
def sx (g : Nat) : Int32 := (nI g).toInt8.toInt32
/-- the class's bytes a are the model's m, with a sign -/
def byR (a m : Nat → Int32) : Prop := ∀ j, ∃ g, g < 256 ∧ m j = nI g ∧ a j = sx g
theorem sx_f : ∀ g, g < 256 → (dgP (sx g) ↔ dgP (nI g)) ∧ (ltP (sx g) ↔ ltP (nI g)) ∧ (dgP (nI g) → sx g = nI g) ∧ (ltP (nI g) → sx g = nI g) ∧ (sx g = 32 ↔ nI g = 32) ∧ sx g &&& 255 = nI g &&& 255 := by decide +kernel
theorem byR.by {a m : Nat → Int32} (h : byR a m) : byP m := fun j => by
  obtain ⟨g, g1, g2, -⟩ := h j
  exact ⟨g, g1, g2⟩
theorem byR.f {a m : Nat → Int32} (h : byR a m) (j : Nat) : (dgP (a j) ↔ dgP (m j)) ∧ (ltP (a j) ↔ ltP (m j)) ∧ (dgP (m j) → a j = m j) ∧ (ltP (m j) → a j = m j) ∧ (a j = 32 ↔ m j = 32) ∧ a j &&& 255 = m j &&& 255 := by
  obtain ⟨g, g1, g2, g3⟩ := h j
  rw [g2, g3]
  exact sx_f g g1
theorem rn_cg {P : Int32 → Prop} [DecidablePred P] {a m : Nat → Int32} (h : ∀ j, P (a j) ↔ P (m j)) : ∀ f s, rn P a f s = rn P m f s
  | 0, s => rfl
  | f + 1, s => by
    unfold rn
    by_cases c : P (m s)
    · rw [if_pos c, if_pos ((h s).mpr c)]; exact rn_cg h f (s + 1)
    · rw [if_neg c, if_neg (fun q => c ((h s).mp q))]
theorem dv_cg {a m : Nat → Int32} : ∀ (f s : Nat) (v : Int32), (∀ j, s ≤ j → j < s + f → a j = m j) → dv a f s v = dv m f s v
  | 0, s, v, _ => rfl
  | f + 1, s, v, h => by
    unfold dv
    rw [h s (Nat.le_refl _) (by omega)]
    exact dv_cg f (s + 1) _ (fun j h1 h2 => h j (by omega) (by omega))
theorem wd_cg {a m : Nat → Int32} (h : byR a m) {s e i : Nat} (hi : i < 10) : wdP a s e i ↔ wdP m s e i := by
  have key : ∀ k, k < sN i → (a (s + k) = sB i k ↔ m (s + k) = sB i k) := fun k hk => by
    obtain ⟨-, f2, -, f4, -⟩ := h.f (s + k)
    have hl := sB_lt i hi k hk
    constructor
    · intro q
      have : ltP (m (s + k)) := f2.mp (by rw [q]; exact hl)
      rw [← f4 this]; exact q
    · intro q
      have : ltP (m (s + k)) := by rw [q]; exact hl
      rw [f4 this]; exact q
  exact ⟨fun q => ⟨q.1, fun k hk => (key k hk).mp (q.2 k hk)⟩, fun q => ⟨q.1, fun k hk => (key k hk).mpr (q.2 k hk)⟩⟩
theorem kwd_cg {a m : Nat → Int32} (h : byR a m) {s e : Nat} : kwd a s e = kwd m s e := by
  unfold kwd
  have w : ∀ i, i < 10 → (wdP a s e i ↔ wdP m s e i) := fun i hi => wd_cg h hi
  simp only [w 0 (by decide), w 1 (by decide), w 2 (by decide), w 3 (by decide), w 4 (by decide), w 5 (by decide), w 6 (by decide), w 7 (by decide), w 8 (by decide), w 9 (by decide)]
theorem tk_cg {a m : Nat → Int32} (h : byR a m) {N : Nat} : ∀ f s, tk a N f s = tk m N f s
  | 0, s => rfl
  | f + 1, s => by
    have r1 : ∀ f s, rn dgP a f s = rn dgP m f s := rn_cg (fun j => (h.f j).1)
    have r2 : ∀ f s, rn ltP a f s = rn ltP m f s := rn_cg (fun j => (h.f j).2.1)
    have ih := tk_cg h (N := N) f
    unfold tk
    rw [r1, r2, kwd_cg h, ih, ih, ih]
    by_cases c0 : N ≤ s
    · rw [if_pos c0, if_pos c0]
    rw [if_neg c0, if_neg c0]
    by_cases c1 : dgP (m s)
    · rw [if_pos c1, if_pos ((h.f s).1.mpr c1), dv_cg _ s 0 (fun j j1 j2 => (h.f j).2.2.1 (rn_all (P := dgP) (N - s) s j j1 (by omega)))]
    rw [if_neg c1, if_neg (fun q => c1 ((h.f s).1.mp q))]
    by_cases c2 : ltP (m s)
    · rw [if_pos c2, if_pos ((h.f s).2.1.mpr c2)]
    rw [if_neg c2, if_neg (fun q => c2 ((h.f s).2.1.mp q))]
    by_cases c3 : m s = 32
    · rw [if_pos c3, if_pos ((h.f s).2.2.2.2.1.mpr c3)]
    rw [if_neg c3, if_neg (fun q => c3 ((h.f s).2.2.2.2.1.mp q)), (h.f s).2.2.2.2.2]
/-- both read the same text -/
theorem gTxt_cg {a m : Nat → Int32} (h : byR a m) {len : Nat} : gTxt a len = gTxt m len := by
  unfold gTxt
  rw [tk_cg h]
theorem sx_of (x : Int32) : ∃ g, g < 256 ∧ x &&& 255 = nI g ∧ x.toInt8.toInt32.toInt8.toInt32 = sx g := by
  obtain ⟨g, g1, g2⟩ : ∃ g, g < 256 ∧ x &&& 255 = nI g := by
    refine ⟨(x &&& 255).toBitVec.toNat, ?_, ?_⟩
    · rw [Int32.toBitVec_and]
      show (x.toBitVec &&& 255#32).toNat < 256
      rw [BitVec.toNat_and]
      exact Nat.lt_of_le_of_lt Nat.and_le_right (by decide)
    · apply Int32.toBitVec_inj.mp
      apply BitVec.eq_of_toNat_eq
      show _ = (BitVec.ofNat 32 _).toNat
      rw [BitVec.toNat_ofNat, Nat.mod_eq_of_lt (BitVec.isLt _)]
  refine ⟨g, g1, g2, ?_⟩
  unfold sx
  rw [← g2, Int32.toInt8_and, show (255 : Int32).toInt8 = -1 from by decide, Int8.and_neg_one, Int8.toInt8_toInt32]
abbrev bm (w k : Int32) : Int32 := (w >>> (k &&& 31)) &&& 255
theorem byR.up {a m : Nat → Int32} (h : byR a m) (j : Nat) (w k : Int32) : byR (upd a j (wB w k)) (upd m j (bm w k)) := fun i => by
  by_cases c : i = j
  · subst c
    rw [upd_same, upd_same]
    exact sx_of _
  · rw [upd_ne9 c, upd_ne9 c]
    exact h i
theorem wordB_1 {B : yI} {len : Nat} {w : Int32} : wordB B len w 1 = upd (upd (upd (upd (B 1) (len + 0) (wB w 24)) (len + 1) (wB w 16)) (len + 2) (wB w 8)) (len + 3) (wB w 0) := rfl
theorem byR.wd {B : yI} {m : Nat → Int32} (h : byR (B 1) m) {len : Nat} {w : Int32} : byR (wordB B len w 1) (upd (upd (upd (upd m (len + 0) (bm w 24)) (len + 1) (bm w 16)) (len + 2) (bm w 8)) (len + 3) (bm w 0)) := by
  rw [wordB_1]
  exact (((h.up _ w 24).up _ w 16).up _ w 8).up _ w 0
theorem ap4_0 {b : Nat → Int32} {len : Nat} {w0 w1 w2 w3 w4 : Int32} : apB b len w0 w1 w2 w3 w4 4 = upd (upd (upd (upd (apB b len w0 w1 w2 w3 w4 0) (len + 0 + 0) (bm w0 24)) (len + 0 + 1) (bm w0 16)) (len + 0 + 2) (bm w0 8)) (len + 0 + 3) (bm w0 0) := rfl
theorem ap4_1 {b : Nat → Int32} {len : Nat} {w0 w1 w2 w3 w4 : Int32} : apB b len w0 w1 w2 w3 w4 8 = upd (upd (upd (upd (apB b len w0 w1 w2 w3 w4 4) (len + 4 + 0) (bm w1 24)) (len + 4 + 1) (bm w1 16)) (len + 4 + 2) (bm w1 8)) (len + 4 + 3) (bm w1 0) := rfl
theorem ap4_2 {b : Nat → Int32} {len : Nat} {w0 w1 w2 w3 w4 : Int32} : apB b len w0 w1 w2 w3 w4 12 = upd (upd (upd (upd (apB b len w0 w1 w2 w3 w4 8) (len + 8 + 0) (bm w2 24)) (len + 8 + 1) (bm w2 16)) (len + 8 + 2) (bm w2 8)) (len + 8 + 3) (bm w2 0) := rfl
theorem ap4_3 {b : Nat → Int32} {len : Nat} {w0 w1 w2 w3 w4 : Int32} : apB b len w0 w1 w2 w3 w4 16 = upd (upd (upd (upd (apB b len w0 w1 w2 w3 w4 12) (len + 12 + 0) (bm w3 24)) (len + 12 + 1) (bm w3 16)) (len + 12 + 2) (bm w3 8)) (len + 12 + 3) (bm w3 0) := rfl
theorem ap4_4 {b : Nat → Int32} {len : Nat} {w0 w1 w2 w3 w4 : Int32} : apB b len w0 w1 w2 w3 w4 20 = upd (upd (upd (upd (apB b len w0 w1 w2 w3 w4 16) (len + 16 + 0) (bm w4 24)) (len + 16 + 1) (bm w4 16)) (len + 16 + 2) (bm w4 8)) (len + 16 + 3) (bm w4 0) := rfl
/-- appending keeps the bytes together -/
theorem byR.app {B : yI} {m : Nat → Int32} (h : byR (B 1) m) {len : Nat} {w0 w1 w2 w3 w4 : Int32} : byR (appB B len w0 w1 w2 w3 w4 1) (apB m len w0 w1 w2 w3 w4 20) := by
  rw [ap4_4, ap4_3, ap4_2, ap4_1, ap4_0]
  exact ((((h.wd (len := len + 0) (w := w0)).wd (len := len + 4) (w := w1)).wd (len := len + 8) (w := w2)).wd (len := len + 12) (w := w3)).wd (len := len + 16) (w := w4)
theorem appB_0 {B : yI} {len : Nat} {w0 w1 w2 w3 w4 : Int32} : appB B len w0 w1 w2 w3 w4 0 1 = nI (len + 20) := rfl
