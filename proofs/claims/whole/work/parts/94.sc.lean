def bd64 (x : Int64) : Prop := -1000000 ≤ x.toInt ∧ x.toInt ≤ 1000000
theorem lim_bd (v : Int64) : bd64 (lim v) := by
  unfold lim bd64
  by_cases h1 : v ≤ 1000000
  · rw [if_pos h1]
    have h1 := Int64.le_iff_toInt_le.mp h1
    by_cases h2 : -1000000 ≤ v
    · rw [if_pos h2]
      have h2 := Int64.le_iff_toInt_le.mp h2
      exact ⟨h2, h1⟩
    · rw [if_neg h2]; decide
  · rw [if_neg h1]; decide
theorem lim_id {v : Int64} (h : bd64 v) : lim v = v := by
  unfold lim
  rw [if_pos (show v ≤ 1000000 from Int64.le_iff_toInt_le.mpr h.2), if_pos (show -1000000 ≤ v from Int64.le_iff_toInt_le.mpr h.1)]
theorem cl_lim (v : Int64) : clL v = (lim v).toInt32 := by
  unfold clL lim
  by_cases h1 : v < 1000000
  · rw [if_pos h1, if_pos (Int64.le_iff_toInt_le.mpr (Int.le_of_lt (Int64.lt_iff_toInt_lt.mp h1)))]
    by_cases h2 : v < -1000000
    · rw [if_pos h2, if_neg (fun q => by have a := Int64.le_iff_toInt_le.mp q; have b := Int64.lt_iff_toInt_lt.mp h2; omega)]
    · rw [if_neg h2, if_pos (Int64.le_iff_toInt_le.mpr (by
        have b : ¬ v.toInt < (-1000000 : Int64).toInt := fun q => h2 (Int64.lt_iff_toInt_lt.mpr q)
        omega))]
  · rw [if_neg h1, if_neg (by decide)]
    by_cases h2 : v ≤ 1000000
    · have e : v = 1000000 := Int64.toInt_inj.mp (by
        have a := Int64.le_iff_toInt_le.mp h2
        have b : ¬ v.toInt < (1000000 : Int64).toInt := fun q => h1 (Int64.lt_iff_toInt_lt.mpr q)
        omega)
      subst e
      decide
    · rw [if_neg h2]
theorem bd_32 {x : Int64} (h : bd64 x) : x.toInt32.toInt64 = x := Int64.toInt_inj.mp (by
  rw [Int32.toInt_toInt64, Int64.toInt_toInt32]
  exact Int.bmod_eq_of_le (by have := h.1; omega) (by have := h.2; omega))
theorem bd_div {x y : Int64} (h : bd64 x) : bd64 (x / y) := by
  have hne : x ≠ Int64.minValue := fun q => by
    have := h.1
    rw [q] at this
    exact absurd this (by decide)
  unfold bd64
  rw [Int64.toInt_div_of_ne_left _ _ hne]
  have h1 := Int.natAbs_tdiv_le_natAbs x.toInt y.toInt
  have := h.1
  have := h.2
  omega
theorem op_eq {it : Int32} (hi : -8 ≤ it ∧ it ≤ -5) {x y : Int64} (hx : bd64 x) : fres it x y = (opM (-3 - it) x y).toInt32 ∧ bd64 (opM (-3 - it) x y) := by
  have hc : it = -8 ∨ it = -7 ∨ it = -6 ∨ it = -5 := by
    have a := Int32.le_iff_toInt_le.mp hi.1
    have b := Int32.le_iff_toInt_le.mp hi.2
    have c : it.toInt = -8 ∨ it.toInt = -7 ∨ it.toInt = -6 ∨ it.toInt = -5 := by
      have a : (-8 : Int) ≤ it.toInt := a
      have b : it.toInt ≤ -5 := b
      omega
    rcases c with c | c | c | c
    · exact Or.inl (Int32.toInt_inj.mp c)
    · exact Or.inr (Or.inl (Int32.toInt_inj.mp c))
    · exact Or.inr (Or.inr (Or.inl (Int32.toInt_inj.mp c)))
    · exact Or.inr (Or.inr (Or.inr (Int32.toInt_inj.mp c)))
  rcases hc with rfl | rfl | rfl | rfl
  · rw [show (-3 : Int32) - -8 = 5 from by decide]
    unfold fres opM
    rw [if_neg (by decide), if_neg (by decide), if_neg (by decide), if_pos rfl]
    have hb : bd64 (if y = 0 then 0 else x / y) := by
      split
      · unfold bd64; decide
      · exact bd_div hx
    exact ⟨by rw [cl_lim, lim_id hb], hb⟩
  · rw [show (-3 : Int32) - -7 = 4 from by decide]
    unfold fres opM
    rw [if_pos rfl, if_neg (by decide), if_neg (by decide), if_neg (by decide)]
    exact ⟨cl_lim _, lim_bd _⟩
  · rw [show (-3 : Int32) - -6 = 3 from by decide]
    unfold fres opM
    rw [if_neg (by decide), if_pos rfl, if_neg (by decide), if_neg (by decide), if_pos rfl]
    exact ⟨cl_lim _, lim_bd _⟩
  · rw [show (-3 : Int32) - -5 = 2 from by decide]
    unfold fres opM
    rw [if_neg (by decide), if_neg (by decide), if_pos rfl, if_neg (by decide), if_pos rfl]
    exact ⟨cl_lim _, lim_bd _⟩
/-- the class's stack s holds what is in the model's list -/
def stR (s : Nat → Int32) : List Int64 → Prop
  | [] => True
  | v :: r => (s r.length).toInt64 = v ∧ bd64 v ∧ stR s r
theorem stR.up {s : Nat → Int32} {x : Int32} {j : Nat} : ∀ {r : List Int64}, stR s r → r.length ≤ j → stR (upd s j x) r
  | [], _, _ => trivial
  | v :: r, h, hj => by
    have hj : r.length + 1 ≤ j := hj
    exact ⟨by rw [upd_ne9 (by omega)]; exact h.1, h.2.1, stR.up h.2.2 (by omega)⟩
/-- the items worked off from the left -/
def frL (c nn a d : Int32) : List Int32 → Nat × (Nat → Int32) → Nat × (Nat → Int32)
  | [], p => p
  | it :: r, p => frL c nn a d r (fstp c nn a d it p.1 p.2)
theorem frL_app {c nn a d : Int32} {x : Int32} : ∀ (l : List Int32) (p : Nat × (Nat → Int32)), frL c nn a d (l ++ [x]) p = fstp c nn a d x (frL c nn a d l p).1 (frL c nn a d l p).2
  | [], p => rfl
  | y :: l, p => frL_app l _
theorem frun_L {c nn a d : Int32} {items s0 : Nat → Int32} : ∀ k, frun c nn a d items s0 k = frL c nn a d ((List.range k).map items) (0, s0)
  | 0 => rfl
  | k + 1 => by
    rw [List.range_succ, List.map_append, List.map_singleton, frL_app, ← frun_L k]
    rfl
theorem map_cd {items : Nat → Int32} {cd : List Int32} (h : ∀ j, j < cd.length → items j = cd.getD j 0) : (List.range cd.length).map items = cd := by
  apply List.ext_getElem
  · simp
  · intro i h1 h2
    simp [h i h2, List.getD, List.getElem?_eq_getElem h2]
theorem run_eq {c nn a d : Int32} {val : Int32 → Int64} (hv : ∀ it, ¬ it ≤ -5 → it ≤ 9999 → (fop it c nn a d).toInt64 = val it ∧ bd64 (val it)) : ∀ (cd : List Int32) (s : Nat → Int32) (st : List Int64), (∀ x ∈ cd, -8 ≤ x ∧ x ≤ 9999) → okc 11 cd st.length → stR s st → (frL c nn a d cd (st.length, s)).1 = (mrun val cd st).length ∧ (mrun val cd st).length = 1 ∧ stR (frL c nn a d cd (st.length, s)).2 (mrun val cd st)
  | [], s, st, _, h, hs => ⟨rfl, h, hs⟩
  | it :: r, s, st, hx, h, hs => by
    have hr : ∀ x ∈ r, -8 ≤ x ∧ x ≤ 9999 := fun x q => hx x (List.mem_cons_of_mem _ q)
    obtain ⟨x1, x2⟩ := hx it List.mem_cons_self
    unfold okc at h
    unfold frL mrun mstp
    by_cases hc : it ≤ -5
    · rw [if_pos hc] at h ⊢
      match st, h, hs with
      | [], h, _ => exact absurd h.1 (by decide)
      | [v], h, _ => exact absurd h.1 (show ¬ 2 ≤ 1 by decide)
      | y :: x :: st, h, hs =>
        obtain ⟨hy, by1, hxx, bx, hst⟩ := hs
        obtain ⟨o1, o2⟩ := op_eq ⟨x1, hc⟩ (y := y) bx
        have e : fstp c nn a d it (y :: x :: st).length s = ((opM (-3 - it) x y :: st).length, upd s st.length (fres it x y)) := by
          unfold fstp
          rw [if_pos hc, if_neg (by show ¬ st.length + 1 + 1 < 2; omega)]
          have l1 : (y :: x :: st).length - 2 = st.length := by show st.length + 1 + 1 - 2 = _; omega
          have l2 : (y :: x :: st).length - 1 = st.length + 1 := by show st.length + 1 + 1 - 1 = _; omega
          rw [l1, l2, show (s (st.length + 1)).toInt64 = y from hy, show (s st.length).toInt64 = x from hxx]
          rfl
        show (frL c nn a d r (fstp c nn a d it (y :: x :: st).length s)).1 = _ ∧ _
        rw [e]
        refine run_eq hv r _ (opM (-3 - it) x y :: st) hr h.2 ⟨?_, o2, hst.up (Nat.le_refl _)⟩
        rw [upd_same, o1, bd_32 o2]
    · rw [if_neg hc] at h ⊢
      obtain ⟨v1, v2⟩ := hv it hc x2
      have e : fstp c nn a d it st.length s = ((val it :: st).length, upd s st.length (fop it c nn a d)) := by
        unfold fstp
        rw [if_neg hc, if_neg (by omega)]
        rfl
      show (frL c nn a d r (fstp c nn a d it st.length s)).1 = _ ∧ _
      rw [e]
      exact run_eq hv r _ (val it :: st) hr h.2 ⟨by rw [upd_same]; exact v1, v2, hs.up (Nat.le_refl _)⟩
theorem i32_64 (x : Int32) : x.toInt64.toInt32 = x := Int32.toInt_inj.mp (by
  rw [Int64.toInt_toInt32, Int32.toInt_toInt64]
  exact Int.bmod_eq_of_le (by have := Int32.le_toInt x; omega) (by have := Int32.toInt_lt x; omega))
theorem fval_eq {c nn a d : Int32} {val : Int32 → Int64} (hv : ∀ it, ¬ it ≤ -5 → it ≤ 9999 → (fop it c nn a d).toInt64 = val it ∧ bd64 (val it)) {cd : List Int32} {it s0 : Nat → Int32} {len : Nat} (hl : len = cd.length) (hi : ∀ j, j < len → it j = cd.getD j 0) (hx : ∀ x ∈ cd, -8 ≤ x ∧ x ≤ 9999) (ho : okc 11 cd 0) : fval c nn a d it s0 len = (hdL (mrun val cd [])).toInt32 := by
  subst hl
  unfold fval
  rw [frun_L, map_cd hi]
  obtain ⟨r1, r2, r3⟩ := run_eq hv cd s0 [] hx ho trivial
  show (if (frL c nn a d cd (([] : List Int64).length, s0)).1 = 0 then 0 else _) = _
  rw [r1, r2, if_neg (by decide)]
  match hm : mrun val cd [], r2, r3 with
  | [v], _, r3 =>
    have e1 : (frL c nn a d cd (0, s0)).1 = 1 := by rw [show (frL c nn a d cd (0, s0)).1 = _ from r1, hm]; rfl
    rw [e1]
    show (frL c nn a d cd (0, s0)).2 0 = v.toInt32
    have h1 : ((frL c nn a d cd (0, s0)).2 0).toInt64 = v := r3.1
    rw [← h1, i32_64]
/-- the formula's worth doesn't hang on what its stack held before -/
theorem run_ind {c nn a d : Int32} : ∀ (cd : List Int32) (t : Nat) (s s2 : Nat → Int32), okc 11 cd t → (∀ j, j < t → s j = s2 j) → (frL c nn a d cd (t, s)).1 = (frL c nn a d cd (t, s2)).1 ∧ ∀ j, j < (frL c nn a d cd (t, s)).1 → (frL c nn a d cd (t, s)).2 j = (frL c nn a d cd (t, s2)).2 j
  | [], t, s, s2, _, h => ⟨rfl, h⟩
  | it :: r, t, s, s2, ho, h => by
    unfold okc at ho
    unfold frL fstp
    by_cases hc : it ≤ -5
    · rw [if_pos hc] at ho
      rw [if_pos hc, if_pos hc, if_neg (by show ¬ t < 2; omega), if_neg (by show ¬ t < 2; omega)]
      refine run_ind r (t - 1) _ _ ho.2 (fun j hj => ?_)
      show upd s (t - 2) (fres it (s (t - 2)).toInt64 (s (t - 1)).toInt64) j = upd s2 (t - 2) (fres it (s2 (t - 2)).toInt64 (s2 (t - 1)).toInt64) j
      rw [h (t - 2) (by omega), h (t - 1) (by omega)]
      by_cases e : j = t - 2
      · subst e; rw [upd_same, upd_same]
      · rw [upd_ne9 e, upd_ne9 e]; exact h j (by omega)
    · rw [if_neg hc] at ho
      rw [if_neg hc, if_neg hc, if_neg (by show ¬ 11 ≤ t; omega), if_neg (by show ¬ 11 ≤ t; omega)]
      refine run_ind r (t + 1) _ _ ho.2 (fun j hj => ?_)
      show upd s t _ j = upd s2 t _ j
      by_cases e : j = t
      · subst e; rw [upd_same, upd_same]
      · rw [upd_ne9 e, upd_ne9 e]; exact h j (by omega)
theorem fval_ind {cd : List Int32} {it : Nat → Int32} {len : Nat} (hl : len = cd.length) (hi : ∀ j, j < len → it j = cd.getD j 0) (ho : okc 11 cd 0) : ∀ c nn a d s0, fval c nn a d it s0 len = fval c nn a d it (fun _ => 0) len := by
  intro c nn a d s0
  subst hl
  unfold fval
  rw [frun_L, frun_L, map_cd hi]
  obtain ⟨r1, r2⟩ := run_ind (c := c) (nn := nn) (a := a) (d := d) cd 0 s0 (fun _ => 0) ho (fun j hj => absurd hj (Nat.not_lt_zero _))
  rw [← r1]
  by_cases e : (frL c nn a d cd (0, s0)).1 = 0
  · rw [if_pos e, if_pos e]
  · rw [if_neg e, if_neg e]; exact r2 _ (by omega)
theorem bcn_8 : ∀ e, e < 256 → bcn (nI e) = nI (popc 31 e) := by decide +kernel
