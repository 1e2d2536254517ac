theorem rmK.bd {b : Nat → Int32} {len : Nat} {S : List (Int32 × Nat × Int32)} {M0 : yI} {e : Nat} {K : List Int32} {M : yI} {P : yPs} (h : rmK b len S M0 e K M P) (h0 : P.2.1 = 0) : P.1 < S.length := by
  obtain ⟨p, -, -, p3⟩ := h.2.1
  have h1 := (p3 h0).2
  have h2 := tk_pos (b := b) (N := len) len p
  rw [h1, List.length_drop] at h2
  omega
theorem rmK.k {b : Nat → Int32} {len : Nat} {S : List (Int32 × Nat × Int32)} {M0 : yI} {e : Nat} {K K2 : List Int32} {M : yI} {P : yPs} (h : rmK b len S M0 e K M P) (hk : P.2.1 = 0 → K = K2) : rmK b len S M0 e K2 M P := by
  obtain ⟨h1, h2, h3, h4, h5, h6, h7, h8⟩ := h
  exact ⟨h1, h2, h3, h4, h5, h6, h7, fun q => by have := hk q; subst this; exact h8 q⟩
section WM2
variable (l : Launch) (D : yD) (z : Nat) {n : Nat} {sh : yS} {I : yI} {L : yL} {q : Nat} {b : Nat → Int32} {len : Nat} {S : List (Int32 × Nat × Int32)} {M0 : yI} {e : Nat} {K : List Int32} {M : yI} {P : yPs}
theorem w_num (hQ : yMod sh q) (hx : mX b len M0) (h : rmK b len S M0 e K M P) {a c : Int32} {lo hi : Nat} (ea : nI lo = a) (ec : nI hi = c) (hlo : lo ≤ hi) (hhi : hi ≤ 9999) : yM l D z yX8_number cX8_number 4 (some .int) 2 0 0 [.ref q, .int a, .int c] n sh (sR 15 I q M) L (yVn (fun x M2 => rmK b len S M0 e K M2 (gNum (tkK S) (tkV S) (tkS S) a c P).2 ∧ ((gNum (tkK S) (tkV S) (tkS S) a c P).2.2.1 = 0 → x = (gNum (tkK S) (tkV S) (tkS S) a c P).1 ∧ M2 0 13 = tkS S P.1)) n sh I q L) yno := by
  subst ea
  subst ec
  exact w_number l D z hQ hx h hlo hhi
theorem w_exp (hQ : yMod sh q) (hx : mX b len M0) (h : rmK b len S M0 e K M P) {c : Int32} {g : Nat} (ec : nI g = c) (hg : g < 256) (hn : g < 48 ∨ (57 < g ∧ g < 97) ∨ 122 < g) : yM l D z yX8_expect cX8_expect 2 none 2 0 0 [.ref q, .int c] n sh (sR 15 I q M) L (yV (fun M2 => rmK b len S M0 e K M2 (gTak (tkK S) (tkS S) c P)) n sh I q L) yno := by
  subst ec
  exact w_expect l D z hQ hx h hg hn
theorem w_takeWord (hQ : yMod sh q) (hx : mX b len M0) (h : rmK b len S M0 e K M P) {w : Nat} (hw : w < 10) : yM l D z yX8_takeWord cX8_takeWord 3 (some .boolean) 5 0 0 [.ref q, .ref (D.2.2.1 w)] n sh (sR 15 I q M) L (yVn (fun x M2 => (x = 1 ∧ (P.2.1 = 0 ∧ tkK S P.1 = nI (257 + w)) ∧ rmK b len S M0 e K M2 (gStp P)) ∨ (x = 0 ∧ ¬ (P.2.1 = 0 ∧ tkK S P.1 = nI (257 + w)) ∧ rmK b len S M0 e K M2 P)) n sh I q L) yno := by
  obtain ⟨p, p1, p2, p3⟩ := h.2.1
  have h1 := c_X8_takeWord l D z (n := n) (I := I) (L := L) (M := M) hQ (h.ln hx) hx.2.2.2 p1 p2 hw
  refine h1.imp (fun _ _ _ _ _ q => ?_) (fun _ _ _ _ _ q => q)
  obtain ⟨rfl, rfl, rfl, rfl, rfl⟩ := q
  refine yVn.mk ?_
  unfold twM
  by_cases h0 : P.2.1 = 0
  · rw [if_neg (Decidable.not_not.mpr (h.2.2.1.trans h0)), h.b1 hx]
    have hl := lx hx.1 (p3 h0)
    obtain ⟨w1, w2⟩ := lx_wd hl hw
    by_cases hc : mtP b len (skp b len p) w
    · rw [if_pos hc]
      exact Or.inl ⟨rfl, ⟨h0, w1.mp hc⟩, h.mv (i := P.1 + 1) (w2 hc).1 (fun _ => w2 hc)⟩
    · rw [if_neg hc]
      exact Or.inr ⟨rfl, fun q => hc (w1.mpr q.2), h.mv (i := P.1) hl.2.1 (fun _ => hl.2.2.1)⟩
  · rw [if_pos (fun q => h0 (h.2.2.1.symm.trans q))]
    exact Or.inr ⟨rfl, fun q => h0 q.1, h⟩
theorem w_emit (hQ : yMod sh q) (h : rmK b len S M0 e K M P) (hk : P.2.1 = 0 → K.length + 1 < 1500) {x : Int32} : yM l D z yX8_emit cX8_emit 2 none 1 0 0 [.ref q, .int x] n sh (sR 15 I q M) L (yV (fun M2 => rmK b len S M0 e (K ++ [x]) M2 P) n sh I q L) yno := by
  obtain ⟨c, c1, c2⟩ := h.2.2.2.2.2.2.1
  refine (c_X8_emit l D z (n := n) (I := I) (L := L) (M := M) hQ c2 c1).imp (fun _ _ _ _ _ q => ?_) (fun _ _ _ _ _ q => q)
  obtain ⟨rfl, rfl, rfl, rfl, rfl⟩ := q
  exact yV.mk (h.em c2 c1 hk)
theorem seen_at {x y : Int32} {d0 d1 d2 d3 : Int32} (h0 : d0 = 0 ∨ d0 = 1) (h1 : d1 = 0 ∨ d1 = 1) (h2 : d2 = 0 ∨ d2 = 1) (h3 : d3 = 0 ∨ d3 = 1) (hx : x = d0 + 2 * d1 + 4 * d2 + 8 * d3) : ((x >>> ((0 : Int32) &&& 31)) &&& 1 = d0 ∧ (x >>> ((1 : Int32) &&& 31)) &&& 1 = d1 ∧ (x >>> ((2 : Int32) &&& 31)) &&& 1 = d2 ∧ (x >>> ((3 : Int32) &&& 31)) &&& 1 = d3) ∧ (x ||| ((1 : Int32) <<< ((0 : Int32) &&& 31)) = 1 + 2 * d1 + 4 * d2 + 8 * d3 ∧ x ||| ((1 : Int32) <<< ((1 : Int32) &&& 31)) = d0 + 2 * 1 + 4 * d2 + 8 * d3 ∧ x ||| ((1 : Int32) <<< ((2 : Int32) &&& 31)) = d0 + 2 * d1 + 4 * 1 + 8 * d3 ∧ x ||| ((1 : Int32) <<< ((3 : Int32) &&& 31)) = d0 + 2 * d1 + 4 * d2 + 8 * 1) := by
  subst hx
  rcases h0 with rfl | rfl <;> rcases h1 with rfl | rfl <;> rcases h2 with rfl | rfl <;> rcases h3 with rfl | rfl <;> decide
theorem rmK.sn (h : rmK b len S M0 e K M P) {x : Int32} {j : Nat} (hj : 324 ≤ j) (hb : P.2.1 = 0 → rmB (up2 M 0 15 x) (upd P.2.2.2.1 j 1)) : rmK b len S M0 e K (up2 M 0 15 x) (gPut j 1 P) := by
  obtain ⟨h1, h2, h3, h4, h5, ⟨nr, n1, n2, n3⟩, h7, h8⟩ := h
  refine ⟨h1.pos (Or.inr (Or.inr (Or.inr (Or.inr (Or.inr rfl))))), h2, h3, h4, h5, ⟨nr, n1, n2, (upd_ne9 (d := P.2.2.2.1) (by omega)).trans n3⟩, h7, fun q => ?_⟩
  obtain ⟨d1, d2, d3⟩ := h8 q
  exact ⟨fun i hi h10 => (d1 i hi h10).trans (upd_ne9 (d := P.2.2.2.1) (by omega)).symm, d2, hb q⟩
theorem w_once0 (hQ : yMod sh q) (h : rmK b len S M0 e K M (gStp P)) (h0 : P.2.1 = 0) {o : Int32} (ho : o = tkS S P.1) : yM l D z yX8_once cX8_once 3 none 1 0 0 [.ref q, .int 0, .int o] n sh (sR 15 I q M) L (yV (fun M2 => rmK b len S M0 e K M2 (gOnc (tkS S) 2000 P)) n sh I q L) yno := by
  refine (c_X8_once l D z (n := n) (I := I) (L := L) (M := M) hQ (b := 0) (o := o)).imp (fun _ _ _ _ _ q => ?_) (fun _ _ _ _ _ q => q)
  obtain ⟨rfl, rfl, rfl, rfl, rfl⟩ := q
  refine yV.mk ?_
  obtain ⟨-, -, ⟨f0, f1, f2, f3⟩, hs⟩ := h.2.2.2.2.2.2.2 h0
  obtain ⟨g1, g2⟩ := seen_at (y := 0) f0 f1 f2 f3 hs
  unfold oncM gOnc
  rw [g1.1]
  by_cases hd : P.2.2.2.1 2000 = 0
  · rw [if_neg (by rw [show (gStp P).2.2.2.1 2000 = P.2.2.2.1 2000 from rfl, hd]; decide), if_pos hd]
    exact h.sn (by decide) (fun _ => ⟨⟨Or.inr rfl, f1, f2, f3⟩, g2.1⟩)
  · have h1 : P.2.2.2.1 2000 = 1 := (f0).resolve_left hd
    rw [if_pos (show (gStp P).2.2.2.1 2000 = 1 from h1), if_neg hd]
    have hr : rmK b len S M0 e K (rptM M (-2) o) (gErr (tkS S) (-2) P) := by
      obtain ⟨k1, ⟨p, p1, p2, -⟩, k3, k4, k5, k6, k7, k8⟩ := h
      have e0 : M 0 5 = 0 := k3.trans h0
      unfold rptM gErr
      rw [if_pos e0, if_pos h0]
      exact ⟨(k1.pos (Or.inr (Or.inl rfl))).pos (Or.inr (Or.inr (Or.inl rfl))), ⟨p, p1, p2, fun q => absurd q (show ¬ (-2 : Int32) = 0 by decide)⟩, rfl, ho.trans (if_neg (show ¬ (-2 : Int32) = 0 by decide)).symm, k5, k6, k7, fun q => absurd q (show ¬ (-2 : Int32) = 0 by decide)⟩
    exact hr.sn (by decide) (fun q => absurd q (gErr_e (by decide)))
theorem w_once1 (hQ : yMod sh q) (h : rmK b len S M0 e K M (gStp P)) (h0 : P.2.1 = 0) {o : Int32} (ho : o = tkS S P.1) : yM l D z yX8_once cX8_once 3 none 1 0 0 [.ref q, .int 1, .int o] n sh (sR 15 I q M) L (yV (fun M2 => rmK b len S M0 e K M2 (gOnc (tkS S) 2001 P)) n sh I q L) yno := by
  refine (c_X8_once l D z (n := n) (I := I) (L := L) (M := M) hQ (b := 1) (o := o)).imp (fun _ _ _ _ _ q => ?_) (fun _ _ _ _ _ q => q)
  obtain ⟨rfl, rfl, rfl, rfl, rfl⟩ := q
  refine yV.mk ?_
  obtain ⟨-, -, ⟨f0, f1, f2, f3⟩, hs⟩ := h.2.2.2.2.2.2.2 h0
  obtain ⟨g1, g2⟩ := seen_at (y := 0) f0 f1 f2 f3 hs
  unfold oncM gOnc
  rw [g1.2.1]
  by_cases hd : P.2.2.2.1 2001 = 0
  · rw [if_neg (by rw [show (gStp P).2.2.2.1 2001 = P.2.2.2.1 2001 from rfl, hd]; decide), if_pos hd]
    exact h.sn (by decide) (fun _ => ⟨⟨f0, Or.inr rfl, f2, f3⟩, g2.2.1⟩)
  · have h1 : P.2.2.2.1 2001 = 1 := (f1).resolve_left hd
    rw [if_pos (show (gStp P).2.2.2.1 2001 = 1 from h1), if_neg hd]
    have hr : rmK b len S M0 e K (rptM M (-2) o) (gErr (tkS S) (-2) P) := by
      obtain ⟨k1, ⟨p, p1, p2, -⟩, k3, k4, k5, k6, k7, k8⟩ := h
      have e0 : M 0 5 = 0 := k3.trans h0
      unfold rptM gErr
      rw [if_pos e0, if_pos h0]
      exact ⟨(k1.pos (Or.inr (Or.inl rfl))).pos (Or.inr (Or.inr (Or.inl rfl))), ⟨p, p1, p2, fun q => absurd q (show ¬ (-2 : Int32) = 0 by decide)⟩, rfl, ho.trans (if_neg (show ¬ (-2 : Int32) = 0 by decide)).symm, k5, k6, k7, fun q => absurd q (show ¬ (-2 : Int32) = 0 by decide)⟩
    exact hr.sn (by decide) (fun q => absurd q (gErr_e (by decide)))
theorem w_once2 (hQ : yMod sh q) (h : rmK b len S M0 e K M (gStp P)) (h0 : P.2.1 = 0) {o : Int32} (ho : o = tkS S P.1) : yM l D z yX8_once cX8_once 3 none 1 0 0 [.ref q, .int 2, .int o] n sh (sR 15 I q M) L (yV (fun M2 => rmK b len S M0 e K M2 (gOnc (tkS S) 2002 P)) n sh I q L) yno := by
  refine (c_X8_once l D z (n := n) (I := I) (L := L) (M := M) hQ (b := 2) (o := o)).imp (fun _ _ _ _ _ q => ?_) (fun _ _ _ _ _ q => q)
  obtain ⟨rfl, rfl, rfl, rfl, rfl⟩ := q
  refine yV.mk ?_
  obtain ⟨-, -, ⟨f0, f1, f2, f3⟩, hs⟩ := h.2.2.2.2.2.2.2 h0
  obtain ⟨g1, g2⟩ := seen_at (y := 0) f0 f1 f2 f3 hs
  unfold oncM gOnc
  rw [g1.2.2.1]
  by_cases hd : P.2.2.2.1 2002 = 0
  · rw [if_neg (by rw [show (gStp P).2.2.2.1 2002 = P.2.2.2.1 2002 from rfl, hd]; decide), if_pos hd]
    exact h.sn (by decide) (fun _ => ⟨⟨f0, f1, Or.inr rfl, f3⟩, g2.2.2.1⟩)
  · have h1 : P.2.2.2.1 2002 = 1 := (f2).resolve_left hd
    rw [if_pos (show (gStp P).2.2.2.1 2002 = 1 from h1), if_neg hd]
    have hr : rmK b len S M0 e K (rptM M (-2) o) (gErr (tkS S) (-2) P) := by
      obtain ⟨k1, ⟨p, p1, p2, -⟩, k3, k4, k5, k6, k7, k8⟩ := h
      have e0 : M 0 5 = 0 := k3.trans h0
      unfold rptM gErr
      rw [if_pos e0, if_pos h0]
      exact ⟨(k1.pos (Or.inr (Or.inl rfl))).pos (Or.inr (Or.inr (Or.inl rfl))), ⟨p, p1, p2, fun q => absurd q (show ¬ (-2 : Int32) = 0 by decide)⟩, rfl, ho.trans (if_neg (show ¬ (-2 : Int32) = 0 by decide)).symm, k5, k6, k7, fun q => absurd q (show ¬ (-2 : Int32) = 0 by decide)⟩
    exact hr.sn (by decide) (fun q => absurd q (gErr_e (by decide)))
theorem w_once3 (hQ : yMod sh q) (h : rmK b len S M0 e K M (gStp P)) (h0 : P.2.1 = 0) {o : Int32} (ho : o = tkS S P.1) : yM l D z yX8_once cX8_once 3 none 1 0 0 [.ref q, .int 3, .int o] n sh (sR 15 I q M) L (yV (fun M2 => rmK b len S M0 e K M2 (gOnc (tkS S) 2003 P)) n sh I q L) yno := by
  refine (c_X8_once l D z (n := n) (I := I) (L := L) (M := M) hQ (b := 3) (o := o)).imp (fun _ _ _ _ _ q => ?_) (fun _ _ _ _ _ q => q)
  obtain ⟨rfl, rfl, rfl, rfl, rfl⟩ := q
  refine yV.mk ?_
  obtain ⟨-, -, ⟨f0, f1, f2, f3⟩, hs⟩ := h.2.2.2.2.2.2.2 h0
  obtain ⟨g1, g2⟩ := seen_at (y := 0) f0 f1 f2 f3 hs
  unfold oncM gOnc
  rw [g1.2.2.2]
  by_cases hd : P.2.2.2.1 2003 = 0
  · rw [if_neg (by rw [show (gStp P).2.2.2.1 2003 = P.2.2.2.1 2003 from rfl, hd]; decide), if_pos hd]
    exact h.sn (by decide) (fun _ => ⟨⟨f0, f1, f2, Or.inr rfl⟩, g2.2.2.2⟩)
  · have h1 : P.2.2.2.1 2003 = 1 := (f3).resolve_left hd
    rw [if_pos (show (gStp P).2.2.2.1 2003 = 1 from h1), if_neg hd]
    have hr : rmK b len S M0 e K (rptM M (-2) o) (gErr (tkS S) (-2) P) := by
      obtain ⟨k1, ⟨p, p1, p2, -⟩, k3, k4, k5, k6, k7, k8⟩ := h
      have e0 : M 0 5 = 0 := k3.trans h0
      unfold rptM gErr
      rw [if_pos e0, if_pos h0]
      exact ⟨(k1.pos (Or.inr (Or.inl rfl))).pos (Or.inr (Or.inr (Or.inl rfl))), ⟨p, p1, p2, fun q => absurd q (show ¬ (-2 : Int32) = 0 by decide)⟩, rfl, ho.trans (if_neg (show ¬ (-2 : Int32) = 0 by decide)).symm, k5, k6, k7, fun q => absurd q (show ¬ (-2 : Int32) = 0 by decide)⟩
    exact hr.sn (by decide) (fun q => absurd q (gErr_e (by decide)))
end WM2
theorem cC_app (cd : List Int32) (it : Int32) : cC (cd ++ [it]) = cC cd ++ cE it := by
  unfold cC
  rw [List.flatMap_append]
  simp
theorem cE_num {it : Int32} (h : 0 ≤ it) : cE it = [0, it] := if_pos h
theorem cE_len (it : Int32) : (cE it).length ≤ 2 := by
  unfold cE
  split
  · exact Nat.le_refl _
  · split
    · exact Nat.le_refl _
    · exact Nat.le_succ _
/-- what a piece of the score reads and how much code it adds -/
def gAd2 (c : Nat) (f : yPs → yPs) : Prop := ∀ P, (f P).2.1 = 0 → P.2.1 = 0 ∧ P.1 ≤ (f P).1 ∧ 2 * (cC (f P).2.2.2.2).length + 3 * P.1 ≤ 2 * (cC P.2.2.2.2).length + 3 * (f P).1 + c
theorem gFac_ad2 {k v s : Nat → Int32} {par : yPs → yPs} (hp : gAd2 1 par) : gAd2 1 (gFac k v s par) := by
  intro P h
  unfold gFac at h ⊢
  by_cases h0 : P.2.1 = 0
  · rw [if_neg (Decidable.not_not.mpr h0)] at h ⊢
    refine ⟨h0, ?_⟩
    have hh : ∀ (w : Int32) (P2 : yPs), P2.1 = P.1 + 1 → P2.2.2.2.2 = P.2.2.2.2 ++ [w] → P.1 ≤ P2.1 ∧ 2 * (cC P2.2.2.2.2).length + 3 * P.1 ≤ 2 * (cC P.2.2.2.2).length + 3 * P2.1 + 1 := fun w P2 e1 e2 => by
      rw [e1, e2, cC_app, List.length_append]
      have := cE_len w
      omega
    by_cases h1 : k P.1 = 256
    · rw [if_pos h1] at h ⊢
      obtain ⟨-, -, e, -, -⟩ := gNum_0 (P := P) h
      exact hh (gNum k v s 0 9999 P).1 _ (by show (gNum k v s 0 9999 P).2.1 = _; rw [e]; rfl) (by show (gNum k v s 0 9999 P).2.2.2.2.2 ++ [_] = _; rw [e]; rfl)
    rw [if_neg h1] at h ⊢
    by_cases h2 : k P.1 = 263
    · rw [if_pos h2]; exact hh _ _ rfl rfl
    rw [if_neg h2] at h ⊢
    by_cases h3 : k P.1 = 264
    · rw [if_pos h3]; exact hh _ _ rfl rfl
    rw [if_neg h3] at h ⊢
    by_cases h4 : k P.1 = 265
    · rw [if_pos h4]; exact hh _ _ rfl rfl
    rw [if_neg h4] at h ⊢
    by_cases h5 : k P.1 = 266
    · rw [if_pos h5]; exact hh _ _ rfl rfl
    rw [if_neg h5] at h ⊢
    by_cases h6 : k P.1 = 40
    · rw [if_pos h6] at h ⊢; exact (hp P h).2
    rw [if_neg h6] at h; exact absurd h (gErr_e (by decide))
  · rw [if_pos h0] at h; exact absurd h h0
theorem gLop_ad2 {k : Nat → Int32} {a b x y : Int32} (hxy : (cE x).length = 1 ∧ (cE y).length = 1) {sub : yPs → yPs} (hs : gAd2 1 sub) : ∀ f, gAd2 0 (gLop k a b x y sub f)
  | 0 => fun P h => ⟨h, Nat.le_refl _, Nat.le_refl _⟩
  | f + 1 => fun P h => by
    unfold gLop at h ⊢
    split at h
    · rename_i hc
      rw [if_pos hc]
      obtain ⟨h1, h2, h2b⟩ := gLop_ad2 hxy hs f _ h
      obtain ⟨h3, h4, h4b⟩ := hs _ (show (sub (gStp P)).2.1 = 0 from h1)
      refine ⟨h3, ?_⟩
      have h5 : (cC (gAdd (if k P.1 = a then x else y) (sub (gStp P))).2.2.2.2).length = (cC (sub (gStp P)).2.2.2.2).length + 1 := by
        show (cC (_ ++ [_])).length = _
        rw [cC_app, List.length_append]
        split
        · rw [hxy.1]
        · rw [hxy.2]
      have h6 : ∀ w : Int32, (gAdd w (sub (gStp P))).1 = (sub (gStp P)).1 := fun w => rfl
      rw [h6] at h2 h2b
      rw [h5] at h2b
      have h7 : P.1 + 1 ≤ (sub (gStp P)).1 := h4
      have h8 : 2 * (cC (sub (gStp P)).2.2.2.2).length + 3 * (P.1 + 1) ≤ 2 * (cC P.2.2.2.2).length + 3 * (sub (gStp P)).1 + 1 := h4b
      omega
    · rename_i hc
      rw [if_neg hc]
      exact ⟨h, Nat.le_refl _, Nat.le_refl _⟩
theorem gAd2.comp {f g : yPs → yPs} (hf : gAd2 0 f) (hg : gAd2 1 g) : gAd2 1 (fun P => f (g P)) := fun P h => by
  obtain ⟨h1, h2, h2b⟩ := hf _ h
  obtain ⟨h3, h4, h4b⟩ := hg _ h1
  refine ⟨h3, ?_⟩
  show P.1 ≤ (f (g P)).1 ∧ 2 * (cC (f (g P)).2.2.2.2).length + 3 * P.1 ≤ 2 * (cC P.2.2.2.2).length + 3 * (f (g P)).1 + 1
  omega
theorem gTer_ad2 {k v s : Nat → Int32} {par : yPs → yPs} (hp : gAd2 1 par) {f : Nat} : gAd2 1 (gTer k v s par f) := gAd2.comp (f := gLop k 42 47 (-7) (-8) (gFac k v s par) f) (g := gFac k v s par) (gLop_ad2 (by decide) (gFac_ad2 hp) f) (gFac_ad2 hp)
theorem gSum_ad2 {k v s : Nat → Int32} {par : yPs → yPs} (hp : gAd2 1 par) {f : Nat} : gAd2 1 (gSum k v s par f) := gAd2.comp (f := gLop k 43 45 (-5) (-6) (gTer k v s par f) f) (g := gTer k v s par f) (gLop_ad2 (by decide) (gTer_ad2 hp) f) (gTer_ad2 hp)
theorem gPar_ad2 {k v s : Nat → Int32} {f : Nat} : ∀ d, gAd2 1 (gPar k v s f d)
  | 0 => fun P h => absurd h (gErr_e (by decide))
  | d + 1 => fun P h => by
    obtain ⟨h1, -, h3⟩ := gTak_0 (P := gSum k v s (gPar k v s f d) f (gStp P)) h
    obtain ⟨h4, h5, h6⟩ := gSum_ad2 (gPar_ad2 d) _ h1
    refine ⟨h4, ?_⟩
    rw [show gPar k v s f (d + 1) P = _ from h3]
    have h7 : 2 * (cC (gSum k v s (gPar k v s f d) f (gStp P)).2.2.2.2).length + 3 * (P.1 + 1) ≤ 2 * (cC P.2.2.2.2).length + 3 * (gSum k v s (gPar k v s f d) f (gStp P)).1 + 1 := h6
    have h8 : P.1 + 1 ≤ (gSum k v s (gPar k v s f d) f (gStp P)).1 := h5
    show P.1 ≤ (gSum k v s (gPar k v s f d) f (gStp P)).1 + 1 ∧ 2 * (cC (gSum k v s (gPar k v s f d) f (gStp P)).2.2.2.2).length + 3 * P.1 ≤ 2 * (cC P.2.2.2.2).length + 3 * ((gSum k v s (gPar k v s f d) f (gStp P)).1 + 1) + 1
    omega
theorem gAd2.nx {sub : yPs → yPs} (ha : gAd2 1 sub) {P : yPs} (hS : P.2.1 = 0 → 2 * (cC P.2.2.2.2).length ≤ 3 * P.1 + 1) (h : (sub (gStp P)).2.1 = 0) : P.1 + 1 ≤ (sub (gStp P)).1 ∧ 2 * (cC (sub (gStp P)).2.2.2.2).length + 1 ≤ 3 * (sub (gStp P)).1 := by
  obtain ⟨h1, h2, h3⟩ := ha _ h
  have h4 := hS h1
  have h5 : 2 * (cC (sub (gStp P)).2.2.2.2).length + 3 * (P.1 + 1) ≤ 2 * (cC P.2.2.2.2).length + 3 * (sub (gStp P)).1 + 1 := h3
  have h6 : P.1 + 1 ≤ (sub (gStp P)).1 := h2
  omega
/-- the contract of a piece of the model's score parser -/
abbrev yMM (l : Launch) (D : yD) (z n : Nat) (sh : yS) (I : yI) (L : yL) (q : Nat) (b : Nat → Int32) (len : Nat) (S : List (Int32 × Nat × Int32)) (M0 : yI) (e : Nat) (y : MethodName) (cc : ByteArray) (nL dep : Nat) (g : yPs → yPs) : Prop := ∀ (M : yI) (P : yPs), rmK b len S M0 e (cC P.2.2.2.2) M P → (P.2.1 = 0 → 2 * (cC P.2.2.2.2).length ≤ 3 * P.1) → yM l D z y cc nL none dep 0 0 [.ref q] n sh (sR 15 I q M) L (yV (fun M2 => rmK b len S M0 e (cC (g P).2.2.2.2) M2 (g P)) n sh I q L) yno
