/-- the model's code of an item -/
def cE (it : Int32) : List Int32 := if 0 ≤ it then [0, it] else if -5 < it then [1, -1 - it] else [-3 - it]
def cC (cd : List Int32) : List Int32 := cd.flatMap cE
/-- what the model's parser leaves alone -/
def rmF (M0 M : yI) : Prop := (∀ r, r ≠ 0 → r ≠ 3 → M r = M0 r) ∧ (M 0 0 = M0 0 0 ∧ M 0 2 = M0 0 2 ∧ M 0 3 = M0 0 3 ∧ M 0 7 = M0 0 7 ∧ M 0 12 = M0 0 12)
def rmD (M : yI) (d : Nat → Int32) : Prop := ∀ j, j < 324 → j ≠ 10 → M 3 j = d j
def rmC (M : yI) (K : List Int32) : Prop := M 3 10 = nI K.length ∧ ∀ i, i < K.length → M 3 (324 + i) = K.getD i 0
/-- which statements were seen -/
def rmB (M : yI) (d : Nat → Int32) : Prop := ((d 2000 = 0 ∨ d 2000 = 1) ∧ (d 2001 = 0 ∨ d 2001 = 1) ∧ (d 2002 = 0 ∨ d 2002 = 1) ∧ (d 2003 = 0 ∨ d 2003 = 1)) ∧ M 0 15 = d 2000 + 2 * d 2001 + 4 * d 2002 + 8 * d 2003
/-- the text that the model reads -/
def mX (b : Nat → Int32) (len : Nat) (M0 : yI) : Prop := byP b ∧ M0 1 = b ∧ M0 0 3 = nI len ∧ len ≤ 900
def eatP (P : yPs) : Int32 := if P.2.1 = 0 then -1 else P.2.2.1
/-- the model's rows M stand for P; K is the code so far -/
def rmK (b : Nat → Int32) (len : Nat) (S : List (Int32 × Nat × Int32)) (M0 : yI) (e : Nat) (K : List Int32) (M : yI) (P : yPs) : Prop :=
  rmF M0 M ∧ (∃ p, M 0 4 = nI p ∧ p ≤ len ∧ (P.2.1 = 0 → atP b len S P.1 p)) ∧ M 0 5 = P.2.1 ∧ M 0 6 = eatP P ∧ M 0 14 = nI e ∧ (∃ nr, nr ≤ 8 ∧ M 3 2 = nI nr ∧ P.2.2.2.1 2 = nI nr) ∧ (∃ c, c < 1500 ∧ M 3 10 = nI c) ∧ (P.2.1 = 0 → rmD M P.2.2.2.1 ∧ rmC M K ∧ rmB M P.2.2.2.1)
section RM
variable {b : Nat → Int32} {len : Nat} {S : List (Int32 × Nat × Int32)} {M0 : yI} {e : Nat} {K : List Int32} {M : yI} {P : yPs}
theorem rmK.b1 (h : rmK b len S M0 e K M P) (hx : mX b len M0) : M 1 = b := (h.1.1 1 (by decide) (by decide)).trans hx.2.1
theorem rmK.ln (h : rmK b len S M0 e K M P) (hx : mX b len M0) : M 0 3 = nI len := h.1.2.2.2.1.trans hx.2.2.1
theorem rmF.pos (h : rmF M0 M) {j : Nat} {x : Int32} (hj : j = 4 ∨ j = 5 ∨ j = 6 ∨ j = 13 ∨ j = 14 ∨ j = 15) : rmF M0 (up2 M 0 j x) := by
  obtain ⟨h1, h2, h3, h4, h5, h6⟩ := h
  have u : ∀ i, i ≠ j → up2 M 0 j x 0 i = M 0 i := fun i hi => upd_ne9 (d := M 0) hi
  refine ⟨fun r h0 h3 => (up2_r h0).trans (h1 r h0 h3), ?_⟩
  rw [u 0 (by omega), u 2 (by omega), u 3 (by omega), u 7 (by omega), u 12 (by omega)]
  exact ⟨h2, h3, h4, h5, h6⟩
theorem rmF.dr (h : rmF M0 M) {j : Nat} {x : Int32} : rmF M0 (up2 M 3 j x) := ⟨fun r h0 h3 => (up2_r h3).trans (h.1 r h0 h3), h.2⟩
/-- to another place in the text -/
theorem rmK.mv (h : rmK b len S M0 e K M P) {p i : Nat} (hp : p ≤ len) (ha : P.2.1 = 0 → atP b len S i p) : rmK b len S M0 e K (posM M p) (i, P.2) := by
  obtain ⟨h1, -, h3, h4, h5, h6, h7, h8⟩ := h
  exact ⟨h1.pos (Or.inl rfl), ⟨p, rfl, hp, ha⟩, h3, h4, h5, h6, h7, h8⟩
theorem rmK.rp (h : rmK b len S M0 e K M P) {c o : Int32} (hc : ¬ c = 0) (ho : o = tkS S P.1) : rmK b len S M0 e K (rptM M c o) (gErr (tkS S) c P) := by
  have hh := h
  obtain ⟨h1, ⟨p, p1, p2, p3⟩, h3, h4, h5, h6, h7, h8⟩ := h
  unfold rptM gErr
  by_cases h0 : P.2.1 = 0
  · rw [if_pos (h3.trans h0), if_pos h0]
    exact ⟨(h1.pos (Or.inr (Or.inl rfl))).pos (Or.inr (Or.inr (Or.inl rfl))), ⟨p, p1, p2, fun q => absurd q hc⟩, rfl, ho.trans (if_neg hc).symm, h5, h6, h7, fun q => absurd q hc⟩
  · rw [if_neg (fun q => h0 (h3.symm.trans q)), if_neg h0]
    exact hh
theorem rmK.nerr (h : rmK b len S M0 e K M P) {p : Nat} (hp : p ≤ len) (h0 : P.2.1 = 0) {c o x : Int32} (hc : ¬ c = 0) (ho : o = tkS S P.1) : rmK b len S M0 e K (rptM (up2 (posM M p) 0 13 x) c o) (gErr (tkS S) c P) := by
  obtain ⟨h1, -, h3, h4, h5, h6, h7, h8⟩ := h
  unfold rptM gErr
  have h9 : up2 (posM M p) 0 13 x 0 5 = 0 := h3.trans h0
  rw [if_pos h9, if_pos h0]
  exact ⟨(((h1.pos (Or.inl rfl)).pos (Or.inr (Or.inr (Or.inr (Or.inl rfl))))).pos (Or.inr (Or.inl rfl))).pos (Or.inr (Or.inr (Or.inl rfl))), ⟨p, rfl, hp, fun q => absurd q hc⟩, rfl, ho.trans (if_neg hc).symm, h5, h6, h7, fun q => absurd q hc⟩
/-- a number into the draft -/
theorem rmK.put (h : rmK b len S M0 e K M P) {j : Nat} {x y : Int32} (hj : j < 324 ∧ j ≠ 10 ∧ j ≠ 2) (hxy : P.2.1 = 0 → x = y) : rmK b len S M0 e K (up2 M 3 j x) (gPut j y P) := by
  obtain ⟨h1, ⟨p, p1, p2, p3⟩, h3, h4, h5, ⟨nr, n1, n2, n3⟩, ⟨c, c1, c2⟩, h8⟩ := h
  have u : ∀ i, i ≠ j → up2 M 3 j x 3 i = M 3 i := fun i hi => upd_ne9 (d := M 3) hi
  have w : ∀ i, i ≠ j → (gPut j y P).2.2.2.1 i = P.2.2.2.1 i := fun i hi => upd_ne9 (d := P.2.2.2.1) hi
  refine ⟨h1.dr, ⟨p, p1, p2, p3⟩, h3, h4, h5, ⟨nr, n1, (u 2 (by omega)).trans n2, (w 2 (by omega)).trans n3⟩, ⟨c, c1, (u 10 (by omega)).trans c2⟩, fun q => ?_⟩
  obtain ⟨d1, d2, d3⟩ := h8 q
  refine ⟨fun i hi h10 => ?_, ⟨(u 10 (by omega)).trans d2.1, fun i hi => (u _ (by omega)).trans (d2.2 i hi)⟩, ?_⟩
  · by_cases ei : i = j
    · subst ei
      show upd (M 3) i x i = upd P.2.2.2.1 i y i
      rw [upd_same, upd_same]; exact hxy q
    · rw [u i ei, w i ei]; exact d1 i hi h10
  · unfold rmB
    rw [w 2000 (by omega), w 2001 (by omega), w 2002 (by omega), w 2003 (by omega)]
    exact d3
/-- one reason more -/
theorem rmK.cnt (h : rmK b len S M0 e K M P) {nr : Nat} (hn : P.2.2.2.1 2 = nI nr) (hr : nr < 8) : rmK b len S M0 e K (up2 M 3 2 (nI (nr + 1))) (gPut 2 (nI (nr + 1)) P) := by
  obtain ⟨h1, ⟨p, p1, p2, p3⟩, h3, h4, h5, -, ⟨c, c1, c2⟩, h8⟩ := h
  have u : ∀ i, i ≠ 2 → up2 M 3 2 (nI (nr + 1)) 3 i = M 3 i := fun i hi => upd_ne9 (d := M 3) hi
  have w : ∀ i, i ≠ 2 → (gPut 2 (nI (nr + 1)) P).2.2.2.1 i = P.2.2.2.1 i := fun i hi => upd_ne9 (d := P.2.2.2.1) hi
  refine ⟨h1.dr, ⟨p, p1, p2, p3⟩, h3, h4, h5, ⟨nr + 1, by omega, rfl, rfl⟩, ⟨c, c1, c2⟩, fun q => ?_⟩
  obtain ⟨d1, d2, d3⟩ := h8 q
  refine ⟨fun i hi h10 => ?_, ⟨d2.1, fun i hi => (u _ (by omega)).trans (d2.2 i hi)⟩, d3⟩
  by_cases ei : i = 2
  · subst ei; rfl
  · rw [u i ei, w i ei]; exact d1 i hi h10
theorem rmK.em (h : rmK b len S M0 e K M P) {c : Nat} (hc : M 3 10 = nI c) (hc5 : c < 1500) (hk : P.2.1 = 0 → K.length + 1 < 1500) {v : Int32} : rmK b len S M0 e (K ++ [v]) (emiM M c v) P := by
  have hh := h
  obtain ⟨h1, ⟨p, p1, p2, p3⟩, h3, h4, h5, ⟨nr, n1, n2, n3⟩, ⟨c9, c1, c2⟩, h8⟩ := h
  unfold emiM
  by_cases h0 : P.2.1 = 0
  · rw [if_pos (h3.trans h0)]
    obtain ⟨d1, d2, d3⟩ := h8 h0
    have ec : c = K.length := nI_eq2 (hc.symm.trans d2.1) (by omega) (by have := hk h0; omega)
    subst ec
    have u : ∀ i, i ≠ 324 + K.length → i ≠ 10 → up2 (up2 M 3 (324 + K.length) v) 3 10 (nI (K.length + 1)) 3 i = M 3 i := fun i h1 h2 => (upd_ne9 (d := upd (M 3) (324 + K.length) v) h2).trans (upd_ne9 (d := M 3) h1)
    refine ⟨h1.dr.dr, ⟨p, p1, p2, p3⟩, h3, h4, h5, ⟨nr, n1, (u 2 (by omega) (by decide)).trans n2, n3⟩, ⟨K.length + 1, hk h0, rfl⟩, fun _ => ⟨fun i hi h10 => (u i (by omega) h10).trans (d1 i hi h10), ⟨?_, fun i hi => ?_⟩, d3⟩⟩
    · rw [List.length_append]; rfl
    · rw [List.length_append] at hi
      have hi : i < K.length + 1 := hi
      by_cases ei : i = K.length
      · subst ei
        show upd (upd (M 3) (324 + K.length) v) 10 _ (324 + K.length) = _
        rw [upd_ne9 (by omega), upd_same]; simp [List.getD]
      · rw [u _ (by omega) (by omega), d2.2 i (by omega)]
        simp [List.getD, List.getElem?_append_left (show i < K.length by omega)]
  · rw [if_neg (fun q => h0 (h3.symm.trans q))]
    exact ⟨h1, ⟨p, p1, p2, p3⟩, h3, h4, h5, ⟨nr, n1, n2, n3⟩, ⟨c9, c1, c2⟩, fun q => absurd q h0⟩
theorem rmK.nst (h : rmK b len S M0 e K M P) {e2 : Nat} : rmK b len S M0 e2 K (up2 M 0 14 (nI e2)) P := by
  obtain ⟨h1, h2, h3, h4, -, h6, h7, h8⟩ := h
  exact ⟨h1.pos (Or.inr (Or.inr (Or.inr (Or.inr (Or.inl rfl))))), h2, h3, h4, rfl, h6, h7, h8⟩
theorem rmK.ns (h : rmK b len S M0 e K M P) {x : Int32} : rmK b len S M0 e K (up2 M 0 13 x) P := by
  obtain ⟨h1, h2, h3, h4, h5, h6, h7, h8⟩ := h
  exact ⟨h1.pos (Or.inr (Or.inr (Or.inr (Or.inl rfl)))), h2, h3, h4, h5, h6, h7, h8⟩
/-- the model stands at the token itself -/
def rmA (b : Nat → Int32) (len : Nat) (S : List (Int32 × Nat × Int32)) (M0 : yI) (e : Nat) (K : List Int32) (M : yI) (P : yPs) (a : Nat) : Prop := rmK b len S M0 e K M P ∧ M 0 4 = nI a ∧ lxP b len S P.1 a
theorem rmA.sp {a : Nat} (h : rmA b len S M0 e K M P a) {g : Nat} (hg : g < 256) (hn : g < 48 ∨ (57 < g ∧ g < 97) ∨ 122 < g) (hc : bA b len a = nI g) : rmK b len S M0 e K (posM M (a + 1)) (gStp P) := by
  obtain ⟨q1, q2⟩ := lx_nx h.2.2 hg hn hc
  exact h.1.mv (i := P.1 + 1) (by omega) (fun _ => q2)
end RM
abbrev yV (R : yI → Prop) (n : Nat) (sh : yS) (I : yI) (q : Nat) (L : yL) : Option Value → Nat → yS → yI → yL → Prop := fun v n2 sh2 I2 L2 => v = none ∧ n2 = n ∧ sh2 = sh ∧ (∃ M2, I2 = sR 15 I q M2 ∧ R M2) ∧ L2 = L
theorem yV.mk {R : yI → Prop} {n : Nat} {sh : yS} {I : yI} {q : Nat} {L : yL} {M : yI} (h : R M) : yV R n sh I q L none n sh (sR 15 I q M) L := ⟨rfl, rfl, rfl, ⟨M, rfl, h⟩, rfl⟩
abbrev yVn (R : Int32 → yI → Prop) (n : Nat) (sh : yS) (I : yI) (q : Nat) (L : yL) : Option Value → Nat → yS → yI → yL → Prop := fun v n2 sh2 I2 L2 => n2 = n ∧ sh2 = sh ∧ (∃ x M2, v = some (.int x) ∧ I2 = sR 15 I q M2 ∧ R x M2) ∧ L2 = L
theorem yVn.mk {R : Int32 → yI → Prop} {n : Nat} {sh : yS} {I : yI} {q : Nat} {L : yL} {x : Int32} {M : yI} (h : R x M) : yVn R n sh I q L (some (.int x)) n sh (sR 15 I q M) L := ⟨rfl, rfl, ⟨x, M, rfl, rfl, h⟩, rfl⟩
section CallsV
variable {X : yX} {D : yD} {z nL n : Nat} {sh : yS} {I J : yI} {L : yL} {k w : Nat} {Q : State → Prop} {pc : Nat} {lv : List (Option Value)} {st stk : List Value} {cc : ByteArray} {own : String} {dep : Nat} {y : MethodName} {bytes : ByteArray} {maxL : Nat} {ret : Option FieldType} {d2 idx ci b q : Nat} {As : List Value}
theorem y_callY {R : yI → Prop} (hC : yC X D z cc own nL dep) (hM : yM X.2.1 D z y bytes maxL ret d2 0 0 (.ref b :: As) n sh J L (yV R n sh I q L) yno) (cw : yCV own idx ci y bytes maxL ret As.length) (hs : stk = ypush (.ref b :: As) st) (hb : (sh b).1 = ci) (hdep : d2 + 1 ≤ dep) (hst : (st.map fun v => v.category).sum ≤ 8) (hk : k ≤ (yR X).cells) (hw : w ≤ (yR X).slots) (hd : decode cc pc = .ok (.invokevirtual idx, 3)) (kk : ∀ M2, R M2 → Y X D z nL n sh (sR 15 I q M2) L k w Q (pc + 3) lv st) : Y X D z nL n sh J L k w Q pc lv stk := y_callV hC hM cw hs hb hdep hst ⟨hk, hw⟩ hd (fun _ _ _ _ _ h => h.elim) (fun _ _ _ _ _ h => by obtain ⟨rfl, rfl, rfl, ⟨M2, rfl, hP⟩, rfl⟩ := h; exact kk M2 hP)
theorem y_callYn {R : Int32 → yI → Prop} (hC : yC X D z cc own nL dep) (hM : yM X.2.1 D z y bytes maxL ret d2 0 0 (.ref b :: As) n sh J L (yVn R n sh I q L) yno) (cw : yCV own idx ci y bytes maxL ret As.length) (hs : stk = ypush (.ref b :: As) st) (hb : (sh b).1 = ci) (hdep : d2 + 1 ≤ dep) (hst : (st.map fun v => v.category).sum ≤ 8) (hk : k ≤ (yR X).cells) (hw : w ≤ (yR X).slots) (hd : decode cc pc = .ok (.invokevirtual idx, 3)) (kk : ∀ x M2, R x M2 → Y X D z nL n sh (sR 15 I q M2) L k w Q (pc + 3) lv (.int x :: st)) : Y X D z nL n sh J L k w Q pc lv stk := y_callV hC hM cw hs hb hdep hst ⟨hk, hw⟩ hd (fun _ _ _ _ _ h => h.elim) (fun _ _ _ _ _ h => by obtain ⟨rfl, rfl, ⟨x, M2, rfl, rfl, hP⟩, rfl⟩ := h; exact kk x M2 hP)
end CallsV
theorem posM_2 {M : yI} {a p : Nat} : posM (posM M a) p = posM M p := up2_up2
/-- a number's digits, worked off by both -/
def dvR (x y : Int32) : Prop := ∃ a c, x = nI a ∧ y = nI c ∧ a < 1000000 ∧ c ≤ 1000000 ∧ ((a = c ∧ a < 100000) ∨ (100000 ≤ a ∧ 100000 ≤ c))
theorem dv_R {b : Nat → Int32} : ∀ (f s : Nat) (x y : Int32), (∀ j, s ≤ j → j < s + f → dgP (b j)) → dvR x y → dvR (dv b f s x) (dvM b f s y)
  | 0, s, x, y, _, h => h
  | f + 1, s, x, y, hd, h => by
    unfold dv dvM
    refine dv_R f (s + 1) _ _ (fun j h1 h2 => hd j (by omega) (by omega)) ?_
    obtain ⟨a, c, rfl, rfl, ha, hc, hr⟩ := h
    obtain ⟨g1, g2⟩ := hd s (Nat.le_refl _) (by omega)
    obtain ⟨m, hm, e⟩ := nI_of (x := b s) (fun q => g1 (Int32.lt_of_lt_of_le q (by decide)))
    rw [e] at g1 g2 ⊢
    have m1 : ¬ m < 48 := fun q => g1 ((nI_ltI (b := 48) (by omega) (by decide)).mpr q)
    have m2 : m ≤ 57 := (nI_leI (b := 57) (by omega) (by decide)).mp g2
    have e10 : ∀ x, 10 * nI x + nI m - 48 = nI (10 * x + (m - 48)) := fun x => nI_dg m1 (by omega)
    have e11 : 10 * nI a + (nI m - 48) = nI (10 * a + (m - 48)) := by
      rw [← e10 a, Int32.sub_eq_add_neg, Int32.sub_eq_add_neg, Int32.add_assoc]
    rw [e10]
    rcases hr with ⟨rfl, hl⟩ | ⟨h1, h2⟩
    · rw [if_pos (show nI a < 100000 from (nI_ltI (b := 100000) (by omega) (by decide)).mpr hl), if_pos (show nI (10 * a + (m - 48)) ≤ 1000000 from (nI_leI (b := 1000000) (by omega) (by decide)).mpr (by omega)), e11]
      refine ⟨10 * a + (m - 48), 10 * a + (m - 48), rfl, rfl, by omega, by omega, ?_⟩
      rcases Nat.lt_or_ge (10 * a + (m - 48)) 100000 with q | q
      · exact Or.inl ⟨rfl, q⟩
      · exact Or.inr ⟨q, q⟩
    · rw [if_neg (show ¬ nI a < 100000 from fun q => absurd ((nI_ltI (a := a) (b := 100000) (by omega) (by decide)).mp q) (by omega))]
      by_cases q : nI (10 * c + (m - 48)) ≤ 1000000
      · rw [if_pos q]
        have := (nI_leI (b := 1000000) (by omega) (by decide)).mp q
        exact ⟨a, 10 * c + (m - 48), rfl, rfl, ha, this, Or.inr ⟨h1, by omega⟩⟩
      · rw [if_neg q]
        exact ⟨a, 1000000, rfl, rfl, ha, Nat.le_refl _, Or.inr ⟨h1, by decide⟩⟩
/-- a range below 10000 sees the same number -/
theorem dvR.rg {x y : Int32} (h : dvR x y) {lo hi : Nat} (hl : lo ≤ hi) (hh : hi ≤ 9999) : ((x < nI lo ∨ ¬ x ≤ nI hi) ∧ ¬ (¬ y < nI lo ∧ y ≤ nI hi)) ∨ (¬ (x < nI lo ∨ ¬ x ≤ nI hi) ∧ (¬ y < nI lo ∧ y ≤ nI hi) ∧ x = y) := by
  obtain ⟨a, c, rfl, rfl, ha, hc, hr⟩ := h
  rw [nI_ltI (by omega) (by omega), nI_ltI (by omega) (by omega), nI_leI (by omega) (by omega), nI_leI (by omega) (by omega)]
  rcases hr with ⟨rfl, hl⟩ | ⟨h1, h2⟩
  · by_cases q : a < lo ∨ ¬ a ≤ hi
    · exact Or.inl ⟨q, by omega⟩
    · exact Or.inr ⟨q, by omega, rfl⟩
  · exact Or.inl ⟨by omega, by omega⟩
section WM
variable (l : Launch) (D : yD) (z : Nat) {n : Nat} {sh : yS} {I : yI} {L : yL} {q : Nat} {b : Nat → Int32} {len : Nat} {S : List (Int32 × Nat × Int32)} {M0 : yI} {e : Nat} {K : List Int32} {M : yI} {P : yPs}
theorem w_isGood (hQ : yMod sh q) (h : rmK b len S M0 e K M P) : yM l D z yX8_isGood cX8_isGood 1 (some .boolean) 0 0 0 [.ref q] n sh (sR 15 I q M) L (yF (some (.int (b2i (P.2.1 = 0)))) n sh (sR 15 I q M) L) yno := by
  have h0 := c_X8_isGood l D z (n := n) (I := I) (L := L) (M := M) hQ
  rw [h.2.2.1] at h0
  exact h0
theorem w_next (hQ : yMod sh q) (hx : mX b len M0) (h : rmK b len S M0 e K M P) (h0 : P.2.1 = 0) : yM l D z yX8_next cX8_next 1 (some .int) 1 0 0 [.ref q] n sh (sR 15 I q M) L (yVn (fun x M2 => ∃ a, x = bA b len a ∧ rmA b len S M0 e K M2 P a) n sh I q L) yno := by
  obtain ⟨p, p1, p2, p3⟩ := h.2.1
  have h1 := c_X8_next l D z (n := n) (I := I) (L := L) (M := M) hQ (h.ln hx) hx.2.2.2 p1 p2
  rw [h.b1 hx] at h1
  have hl := lx hx.1 (p3 h0)
  refine h1.imp (fun _ _ _ _ _ q => ?_) (fun _ _ _ _ _ q => q)
  obtain ⟨rfl, rfl, rfl, rfl, rfl⟩ := q
  exact yVn.mk ⟨skp b len p, rfl, h.mv (i := P.1) hl.2.1 (fun _ => hl.2.2.1), rfl, hl⟩
theorem w_nextA (hQ : yMod sh q) (hx : mX b len M0) {a : Nat} (h : rmA b len S M0 e K M P a) : yM l D z yX8_next cX8_next 1 (some .int) 1 0 0 [.ref q] n sh (sR 15 I q M) L (yF (some (.int (bA b len a))) n sh (sR 15 I q M) L) yno := by
  have h1 := c_X8_next l D z (n := n) (I := I) (L := L) (M := M) hQ (h.1.ln hx) hx.2.2.2 h.2.1 h.2.2.2.1
  rw [h.1.b1 hx, h.2.2.2.2.2.1, posM_id h.2.1] at h1
  exact h1
theorem w_report (hQ : yMod sh q) (h : rmK b len S M0 e K M P) {c o : Int32} (hc : ¬ c = 0) (ho : P.2.1 = 0 → o = tkS S P.1) : yM l D z yX8_report cX8_report 3 none 0 0 0 [.ref q, .int c, .int o] n sh (sR 15 I q M) L (yV (fun M2 => rmK b len S M0 e K M2 (gErr (tkS S) c P)) n sh I q L) yno := by
  refine (c_X8_report l D z (n := n) (I := I) (L := L) (M := M) hQ).imp (fun _ _ _ _ _ q => ?_) (fun _ _ _ _ _ q => q)
  obtain ⟨rfl, rfl, rfl, rfl, rfl⟩ := q
  by_cases h0 : P.2.1 = 0
  · exact yV.mk (h.rp hc (ho h0))
  · have e1 : rptM M c o = M := if_neg (fun q => h0 (h.2.2.1.symm.trans q))
    rw [e1]
    exact yV.mk (by rw [gErr, if_neg h0]; exact h)
theorem w_expect (hQ : yMod sh q) (hx : mX b len M0) (h : rmK b len S M0 e K M P) {g : Nat} (hg : g < 256) (hn : g < 48 ∨ (57 < g ∧ g < 97) ∨ 122 < g) : yM l D z yX8_expect cX8_expect 2 none 2 0 0 [.ref q, .int (nI g)] n sh (sR 15 I q M) L (yV (fun M2 => rmK b len S M0 e K M2 (gTak (tkK S) (tkS S) (nI g) P)) n sh I q L) yno := by
  obtain ⟨p, p1, p2, p3⟩ := h.2.1
  have h1 := c_X8_expect l D z (n := n) (I := I) (L := L) (M := M) hQ (h.ln hx) hx.2.2.2 p1 p2 (c := nI g)
  refine h1.imp (fun _ _ _ _ _ q => ?_) (fun _ _ _ _ _ q => q)
  obtain ⟨rfl, rfl, rfl, rfl, rfl⟩ := q
  refine yV.mk ?_
  unfold expM gTak
  by_cases h0 : P.2.1 = 0
  · rw [if_pos (h.2.2.1.trans h0), if_pos h0, h.b1 hx]
    have hl := lx hx.1 (p3 h0)
    by_cases hc : bA b len (skp b len p) = nI g
    · rw [if_pos hc, if_pos ((lx_sg hl hg hn).mp hc)]
      obtain ⟨q1, q2⟩ := lx_nx hl hg hn hc
      exact h.mv (i := P.1 + 1) (by omega) (fun _ => q2)
    · rw [if_neg hc, if_neg (fun w => hc ((lx_sg hl hg hn).mpr w))]
      exact (h.mv (i := P.1) hl.2.1 (fun _ => hl.2.2.1)).rp (by decide) hl.1.symm
  · rw [if_neg (fun w => h0 (h.2.2.1.symm.trans w)), if_neg h0]
    exact h
theorem w_number (hQ : yMod sh q) (hx : mX b len M0) (h : rmK b len S M0 e K M P) {lo hi : Nat} (hlo : lo ≤ hi) (hhi : hi ≤ 9999) : yM l D z yX8_number cX8_number 4 (some .int) 2 0 0 [.ref q, .int (nI lo), .int (nI hi)] n sh (sR 15 I q M) L (yVn (fun x M2 => rmK b len S M0 e K M2 (gNum (tkK S) (tkV S) (tkS S) (nI lo) (nI hi) P).2 ∧ ((gNum (tkK S) (tkV S) (tkS S) (nI lo) (nI hi) P).2.2.1 = 0 → x = (gNum (tkK S) (tkV S) (tkS S) (nI lo) (nI hi) P).1 ∧ M2 0 13 = tkS S P.1)) n sh I q L) yno := by
  obtain ⟨p, p1, p2, p3⟩ := h.2.1
  have h1 := c_X8_number l D z (n := n) (I := I) (L := L) (M := M) hQ (h.ln hx) hx.2.2.2 p1 p2 (lo := nI lo) (hi9 := nI hi)
  refine h1.imp (fun _ _ _ _ _ q => ?_) (fun _ _ _ _ _ q => q)
  obtain ⟨rfl, rfl, rfl, rfl, rfl⟩ := q
  refine yVn.mk ?_
  unfold numM gNum
  by_cases h0 : P.2.1 = 0
  · rw [if_neg (Decidable.not_not.mpr (h.2.2.1.trans h0)), if_pos h0, h.b1 hx]
    have hl := lx hx.1 (p3 h0)
    obtain ⟨a, ea⟩ : ∃ a, a = skp b len p := ⟨_, rfl⟩
    rw [← ea] at hl ⊢
    by_cases hc : dgP (bA b len a)
    · rw [if_neg (Decidable.not_not.mpr hc), if_pos ((lx_dg hl).mp hc)]
      obtain ⟨s1, -, -, -, w | w | w | w⟩ := hl
      · rw [w.1] at hc; exact absurd hc (by decide)
      · obtain ⟨-, w2, w3, w4, w5⟩ := w
        have hle := rn_le (P := dgP) (b := b) (len - a) a
        have hge := rn_ge (P := dgP) (b := b) (len - a) a
        have hR := dv_R (b := b) (dgE b len a - a) a 0 0 (fun j j1 j2 => rn_all (len - a) a j j1 (by unfold dgE at j2; omega)) ⟨0, 0, rfl, rfl, by decide, by decide, Or.inl ⟨rfl, by decide⟩⟩
        rw [← w4] at hR
        have hm := (h.mv (i := P.1 + 1) w5.1 (fun _ => w5)).ns (x := nI a)
        rcases hR.rg hlo hhi with ⟨r1, r2⟩ | ⟨r1, r2, r3⟩
        · rw [if_neg r2, if_pos r1]
          refine ⟨?_, fun w => absurd w (gErr_e (by decide))⟩
          exact h.nerr w5.1 h0 (by decide) s1.symm
        · rw [if_pos r2, if_neg r1]
          exact ⟨hm, fun _ => ⟨r3.symm, s1.symm⟩⟩
      · exact absurd (Int32.le_trans (Int32.not_lt.mp w.1.1) hc.2) (by decide)
      · exact absurd hc w.1
    · rw [if_pos hc, if_neg (fun w => hc ((lx_dg hl).mpr w))]
      exact ⟨(h.mv (i := P.1) hl.2.1 (fun _ => hl.2.2.1)).rp (by decide) hl.1.symm, fun w => absurd w (gErr_e (by decide))⟩
  · rw [if_pos (fun w => h0 (h.2.2.1.symm.trans w)), if_neg h0]
    exact ⟨h, fun w => absurd w h0⟩
end WM
