theorem yM.imp {l : Launch} {D : yD} {z : Nat} {y : MethodName} {cc : ByteArray} {nL : Nat} {ret : Option FieldType} {dep mc ms : Nat} {av : List Value} {n : Nat} {sh : yS} {I : yI} {L : yL} {Qr Qr2 : Option Value → Nat → yS → yI → yL → Prop} {Qx Qx2 : String → Nat → yS → yI → yL → Prop} (h : yM l D z y cc nL ret dep mc ms av n sh I L Qr Qx) (hr : ∀ v n sh I L, Qr v n sh I L → Qr2 v n sh I L) (hx : ∀ E n sh I L, Qx E n sh I L → Qx2 E n sh I L) : yM l D z y cc nL ret dep mc ms av n sh I L Qr2 Qx2 := by
  intro hst p e ha hf hc s m args below h1 h2 h3 h4
  obtain ⟨n9, o, g1, g2, g3, g4⟩ := h hst p e ha hf hc s m args below h1 h2 h3 h4
  refine ⟨n9, o, g1, g2, g3, ?_⟩
  rcases g4 with ⟨⟨v, n, sh, I, L, e1, e2, e3, e4⟩, r⟩ | ⟨q, e0, E, ce, Ls, ⟨n, sh, I, L, e1, e2, e3⟩, r⟩
  · exact Or.inl ⟨⟨v, n, sh, I, L, e1, hr _ _ _ _ _ e2, e3, e4⟩, r⟩
  · exact Or.inr ⟨q, e0, E, ce, Ls, ⟨n, sh, I, L, hx _ _ _ _ _ e1, e2, e3⟩, r⟩
/-- the reader, its tokens and its setup are there -/
def yPx (k : Nat → Int32) (sh : yS) (r b m cnt : Nat) : Prop := yPar sh r b m ∧ m < 2147483648 ∧ cnt ≤ m ∧ tkE k cnt ∧ (sh (r + 5)).1 = 4
/-- the score's formula is there -/
def yPf (sh : yS) (r cnt : Nat) : Prop := (sh (r + 5)).2.2 5 = some (r + 15) ∧ yFor sh (r + 15) cnt
theorem rcP.ad {k v s : Nat → Int32} {cnt : Nat} {Z : yI} {P : yPs} (h : rcP k v s cnt 15 cnt Z P) (hS : P.2.1 = 0 → P.2.2.2.2.length + 1 ≤ P.1) {len : Nat} (hl : Z 15 2 = nI len) (hlc : len ≤ cnt) (hc : cnt < 2147483648) {it : Int32} : rcP k v s cnt 15 cnt (adZ Z cnt len it) (gAdd it P) := ⟨h.1.ad hl hlc, fun q => by
  obtain ⟨a, b, c, d⟩ := h.2 q
  rw [if_pos rfl] at b
  have i2 := h.1.2.1.2
  have e : len = P.2.2.2.2.length := nI_eq2 (hl.symm.trans b.1)
  subst e
  refine ⟨a.ad, ?_, fun q => absurd rfl q, ?_⟩
  · rw [if_pos rfl]; exact b.ad (by omega)
  · show (P.2.2.2.2 ++ [it]).length ≤ P.1
    rw [List.length_append]; exact hS q⟩
theorem rcP.cg {k v s : Nat → Int32} {cnt fr fm : Nat} {Z : yI} {P : yPs} {x y : Int32} (h : rcP k v s cnt fr fm Z (gAdd x P)) (e : P.2.1 = 0 → x = y) : rcP k v s cnt fr fm Z (gAdd y P) := ⟨h.1, fun q => by
  have := e q
  subst this
  exact h.2 q⟩
abbrev yZn (R : Int32 → yI → Prop) (n : Nat) (sh : yS) (I : yI) (r : Nat) (L : yL) : Option Value → Nat → yS → yI → yL → Prop := fun v n2 sh2 I2 L2 => n2 = n ∧ sh2 = sh ∧ (∃ x Z2, v = some (.int x) ∧ I2 = sR 18 I r Z2 ∧ R x Z2) ∧ L2 = L
theorem yZn.mk {R : Int32 → yI → Prop} {n : Nat} {sh : yS} {I : yI} {r : Nat} {L : yL} {x : Int32} {Z : yI} (h : R x Z) : yZn R n sh I r L (some (.int x)) n sh (sR 18 I r Z) L := ⟨rfl, rfl, ⟨x, Z, rfl, rfl, h⟩, rfl⟩
theorem y_callN {X : yX} {D : yD} {z nL n : Nat} {sh : yS} {I J : yI} {L : yL} {k w : Nat} {Q : State → Prop} {pc : Nat} {lv : List (Option Value)} {st stk : List Value} {cc : ByteArray} {own : String} {dep : Nat} {y : MethodName} {bytes : ByteArray} {maxL : Nat} {ret : Option FieldType} {d2 idx ci b r : Nat} {As : List Value} {R : Int32 → yI → Prop} (hC : yC X D z cc own nL dep) (hM : yM X.2.1 D z y bytes maxL ret d2 0 0 (.ref b :: As) n sh J L (yZn R n sh I r L) yno) (cw : yCV own idx ci y bytes maxL ret As.length) (hs : stk = ypush (.ref b :: As) st) (hb : (sh b).1 = ci) (hdep : d2 + 1 ≤ dep) (hst : (st.map fun v => v.category).sum ≤ 8) (hk : k ≤ (yR X).cells) (hw : w ≤ (yR X).slots) (hd : decode cc pc = .ok (.invokevirtual idx, 3)) (kk : ∀ x Z2, R x Z2 → Y X D z nL n sh (sR 18 I r Z2) L k w Q (pc + 3) lv (.int x :: st)) : Y X D z nL n sh J L k w Q pc lv stk := y_callV hC hM cw hs hb hdep hst ⟨hk, hw⟩ hd (fun _ _ _ _ _ h => h.elim) (fun _ _ _ _ _ h => by obtain ⟨rfl, rfl, ⟨x, Z2, rfl, rfl, hP⟩, rfl⟩ := h; exact kk x Z2 hP)
section PW
variable (l : Launch) (D : yD) (z : Nat) {n : Nat} {sh : yS} {I : yI} {L : yL} {r b m cnt fr fm : Nat} {k v s : Nat → Int32} {Z : yI} {P : yPs}
theorem p_isFine (hX : yPx k sh r b m cnt) (h : rcP k v s cnt fr fm Z P) : yM l D z yX5_isFine cX5_isFine 1 (some .boolean) 0 0 0 [.ref r] n sh (sR 18 I r Z) L (yF (some (.int (b2i (P.2.1 = 0)))) n sh (sR 18 I r Z) L) yno := by
  have h0 := c_X5_isFine l D z (n := n) (I := I) (L := L) (Z := Z) hX.1 hX.2.1
  rw [h.1.2.2.1] at h0
  exact h0
theorem p_kind (hX : yPx k sh r b m cnt) (h : rcP k v s cnt fr fm Z P) : yM l D z yX5_kind cX5_kind 1 (some .int) 0 0 0 [.ref r] n sh (sR 18 I r Z) L (yF (some (.int (k P.1))) n sh (sR 18 I r Z) L) yno := by
  have h0 := c_X5_kind l D z (n := n) (I := I) (L := L) (Z := Z) hX.1 hX.2.1 h.1.2.1.1 h.1.2.1.2 h.1.1.2.2.2 hX.2.2.1
  rw [h.1.1.1] at h0
  exact h0
theorem p_value (hX : yPx k sh r b m cnt) (h : rcP k v s cnt fr fm Z P) : yM l D z yX5_value cX5_value 1 (some .int) 0 0 0 [.ref r] n sh (sR 18 I r Z) L (yF (some (.int (v P.1))) n sh (sR 18 I r Z) L) yno := by
  have h0 := c_X5_value l D z (n := n) (I := I) (L := L) (Z := Z) hX.1 hX.2.1 h.1.2.1.1 h.1.2.1.2 h.1.1.2.2.2 hX.2.2.1
  rw [h.1.1.2.2.1] at h0
  exact h0
theorem p_step (hX : yPx k sh r b m cnt) (h : rcP k v s cnt fr fm Z P) (hfr : fr ≠ 0) (hk : ¬ k P.1 = -1) : yM l D z yX5_step cX5_step 1 none 0 0 0 [.ref r] n sh (sR 18 I r Z) L (yZ (fun Z2 => rcP k v s cnt fr fm Z2 (gStp P)) n sh I r L) yno := (c_X5_step l D z hX.1 hX.2.1 h.1.2.1.1 h.1.2.1.2 h.1.1.2.2.2 hX.2.2.1).imp (fun _ _ _ _ _ q => by obtain ⟨rfl, rfl, rfl, rfl, rfl⟩ := q; exact yZ.mk (h.st hfr (hX.2.2.2.1 _ h.1.2.1.2 hk))) (fun _ _ _ _ _ q => q)
theorem p_fail (hX : yPx k sh r b m cnt) (h : rcP k v s cnt fr fm Z P) (hfr : fr ≠ 0) {c : Int32} (hc : ¬ c = 0) : yM l D z yX5_fail cX5_fail 2 none 0 0 0 [.ref r, .int c] n sh (sR 18 I r Z) L (yZ (fun Z2 => rcP k v s cnt fr fm Z2 (gErr s c P)) n sh I r L) yno := (c_X5_fail l D z hX.1 hX.2.1 h.1.2.1.1 h.1.2.1.2 h.1.1.2.2.2 hX.2.2.1).imp (fun _ _ _ _ _ q => by obtain ⟨rfl, rfl, rfl, rfl, rfl⟩ := q; exact yZ.mk (h.fa hfr hc)) (fun _ _ _ _ _ q => q)
theorem p_take (hX : yPx k sh r b m cnt) (h : rcP k v s cnt fr fm Z P) (hfr : fr ≠ 0) {c : Int32} (hc : ¬ c = -1) : yM l D z yX5_take cX5_take 2 none 1 0 0 [.ref r, .int c] n sh (sR 18 I r Z) L (yZ (fun Z2 => rcP k v s cnt fr fm Z2 (gTak k s c P)) n sh I r L) yno := (c_X5_take l D z hX.1 hX.2.1 h.1.2.1.1 h.1.2.1.2 h.1.1.2.2.2 hX.2.2.1).imp (fun _ _ _ _ _ q => by obtain ⟨rfl, rfl, rfl, rfl, rfl⟩ := q; exact yZ.mk (h.tak hfr hX.2.2.2.1 hc)) (fun _ _ _ _ _ q => q)
theorem p_num (hX : yPx k sh r b m cnt) (h : rcP k v s cnt fr fm Z P) (hfr : fr ≠ 0) {lo hi : Int32} : yM l D z yX5_takeNumber cX5_takeNumber 4 (some .int) 1 0 0 [.ref r, .int lo, .int hi] n sh (sR 18 I r Z) L (yZn (fun x Z2 => rcP k v s cnt fr fm Z2 (gNum k v s lo hi P).2 ∧ ((gNum k v s lo hi P).2.2.1 = 0 → x = (gNum k v s lo hi P).1)) n sh I r L) yno := (c_X5_takeNumber l D z hX.1 hX.2.1 h.1.2.1.1 h.1.2.1.2 h.1.1.2.2.2 hX.2.2.1).imp (fun _ _ _ _ _ q => by obtain ⟨rfl, rfl, rfl, rfl, rfl⟩ := q; exact yZn.mk (h.num hfr hX.2.2.2.1)) (fun _ _ _ _ _ q => q)
theorem p_add (hX : yPx k sh r b m cnt) (hf : yPf sh r cnt) (h : rcP k v s cnt 15 cnt Z P) (hS : P.2.1 = 0 → P.2.2.2.2.length + 1 ≤ P.1) {it : Int32} : yM l D z yX1_add cX1_add 2 none 0 0 0 [.ref (r + 15), .int it] n sh (sR 18 I r Z) L (yZ (fun Z2 => rcP k v s cnt 15 cnt Z2 (gAdd it P)) n sh I r L) yno := by
  obtain ⟨len, l1, l2⟩ := h.1.2.2.2.2.2.1
  have hc : cnt < 2147483648 := Nat.lt_of_le_of_lt hX.2.2.1 hX.2.1
  exact (c_addZ l D z hf.2 l2 l1 hc).imp (fun _ _ _ _ _ q => by obtain ⟨rfl, rfl, rfl, rfl, rfl⟩ := q; exact yZ.mk (h.ad hS l2 l1 hc)) (fun _ _ _ _ _ q => q)
end PW
/-- what a piece of the score reads and adds -/
def gAdv (f : yPs → yPs) : Prop := ∀ P, (f P).2.1 = 0 → P.2.1 = 0 ∧ (f P).2.2.2.2.length + P.1 ≤ P.2.2.2.2.length + (f P).1
theorem gNum_0 {k v s : Nat → Int32} {lo hi : Int32} {P : yPs} (h : (gNum k v s lo hi P).2.2.1 = 0) : P.2.1 = 0 ∧ k P.1 = 256 ∧ (gNum k v s lo hi P).2 = gStp P ∧ (gNum k v s lo hi P).1 = v P.1 ∧ ¬ (v P.1 < lo ∨ ¬ v P.1 ≤ hi) := by
  unfold gNum at h ⊢
  by_cases h0 : P.2.1 = 0
  · rw [if_pos h0] at h ⊢
    by_cases h1 : k P.1 = 256
    · rw [if_pos h1] at h ⊢
      by_cases h2 : v P.1 < lo ∨ ¬ v P.1 ≤ hi
      · rw [if_pos h2] at h; exact absurd h (gErr_e (by decide))
      · rw [if_neg h2] at h ⊢
        exact ⟨h0, h1, rfl, rfl, h2⟩
    · rw [if_neg h1] at h; exact absurd h (gErr_e (by decide))
  · rw [if_neg h0] at h; exact absurd h h0
theorem gTak_0 {k s : Nat → Int32} {c : Int32} {P : yPs} (h : (gTak k s c P).2.1 = 0) : P.2.1 = 0 ∧ k P.1 = c ∧ gTak k s c P = gStp P := by
  unfold gTak at h ⊢
  by_cases h0 : P.2.1 = 0
  · rw [if_pos h0] at h ⊢
    by_cases h1 : k P.1 = c
    · rw [if_pos h1]; exact ⟨h0, h1, rfl⟩
    · rw [if_neg h1] at h; exact absurd h (gErr_e (by decide))
  · rw [if_neg h0] at h; exact absurd h h0
theorem gFac_adv {k v s : Nat → Int32} {par : yPs → yPs} (hp : gAdv par) : gAdv (gFac k v s par) := by
  intro P h
  unfold gFac at h ⊢
  by_cases h0 : P.2.1 = 0
  · rw [if_neg (Decidable.not_not.mpr h0)] at h ⊢
    refine ⟨h0, ?_⟩
    by_cases h1 : k P.1 = 256
    · rw [if_pos h1] at h ⊢
      obtain ⟨-, -, e, -, -⟩ := gNum_0 (P := P) h
      show (((gNum k v s 0 9999 P).2).2.2.2.2 ++ [_]).length + P.1 ≤ _ + ((gNum k v s 0 9999 P).2).1
      rw [e, List.length_append]
      show P.2.2.2.2.length + 1 + P.1 ≤ P.2.2.2.2.length + (P.1 + 1)
      omega
    rw [if_neg h1] at h ⊢
    have hh : ∀ w : Int32, (gStp (gAdd w P)).2.2.2.2.length + P.1 ≤ P.2.2.2.2.length + (gStp (gAdd w P)).1 := fun w => by
      show (P.2.2.2.2 ++ [w]).length + P.1 ≤ P.2.2.2.2.length + (P.1 + 1)
      rw [List.length_append]
      show P.2.2.2.2.length + 1 + P.1 ≤ P.2.2.2.2.length + (P.1 + 1)
      omega
    by_cases h2 : k P.1 = 263
    · rw [if_pos h2]; exact hh _
    rw [if_neg h2] at h ⊢
    by_cases h3 : k P.1 = 264
    · rw [if_pos h3]; exact hh _
    rw [if_neg h3] at h ⊢
    by_cases h4 : k P.1 = 265
    · rw [if_pos h4]; exact hh _
    rw [if_neg h4] at h ⊢
    by_cases h5 : k P.1 = 266
    · rw [if_pos h5]; exact hh _
    rw [if_neg h5] at h ⊢
    by_cases h6 : k P.1 = 40
    · rw [if_pos h6] at h ⊢; exact (hp P h).2
    rw [if_neg h6] at h; exact absurd h (gErr_e (by decide))
  · rw [if_pos h0] at h; exact absurd h h0
theorem gAdv.nx {sub : yPs → yPs} (ha : gAdv sub) {P : yPs} (hS : P.2.1 = 0 → P.2.2.2.2.length + 1 ≤ P.1) (h : (sub (gStp P)).2.1 = 0) : (sub (gStp P)).2.2.2.2.length + 2 ≤ (sub (gStp P)).1 := by
  obtain ⟨h1, h2⟩ := ha _ h
  have h3 := hS h1
  have h4 : (sub (gStp P)).2.2.2.2.length + (P.1 + 1) ≤ P.2.2.2.2.length + (sub (gStp P)).1 := h2
  omega
theorem gLop_adv {k : Nat → Int32} {a b x y : Int32} {sub : yPs → yPs} (hs : gAdv sub) : ∀ f, gAdv (gLop k a b x y sub f)
  | 0 => fun P h => ⟨h, Nat.le_refl _⟩
  | f + 1 => fun P h => by
    unfold gLop at h ⊢
    split at h
    · rename_i hc
      rw [if_pos hc]
      obtain ⟨h1, h2⟩ := gLop_adv hs f _ h
      obtain ⟨h3, h4⟩ := hs _ (show (sub (gStp P)).2.1 = 0 from h1)
      refine ⟨h3, ?_⟩
      have h5 : ∀ w : Int32, (gAdd w (sub (gStp P))).2.2.2.2.length = (sub (gStp P)).2.2.2.2.length + 1 := fun w => List.length_append
      have h6 : ∀ w : Int32, (gAdd w (sub (gStp P))).1 = (sub (gStp P)).1 := fun w => rfl
      rw [h5, h6] at h2
      have h7 : (sub (gStp P)).2.2.2.2.length + (P.1 + 1) ≤ P.2.2.2.2.length + (sub (gStp P)).1 := h4
      omega
    · rename_i hc
      rw [if_neg hc]
      exact ⟨h, Nat.le_refl _⟩
theorem gAdv.comp {f g : yPs → yPs} (hf : gAdv f) (hg : gAdv g) : gAdv (fun P => f (g P)) := fun P h => by
  obtain ⟨h1, h2⟩ := hf _ h
  obtain ⟨h3, h4⟩ := hg _ h1
  exact ⟨h3, by show (f (g P)).2.2.2.2.length + P.1 ≤ P.2.2.2.2.length + (f (g P)).1; omega⟩
theorem gTer_adv {k v s : Nat → Int32} {par : yPs → yPs} (hp : gAdv par) {f : Nat} : gAdv (gTer k v s par f) := gAdv.comp (f := gLop k 42 47 (-7) (-8) (gFac k v s par) f) (g := gFac k v s par) (gLop_adv (gFac_adv hp) f) (gFac_adv hp)
theorem gSum_adv {k v s : Nat → Int32} {par : yPs → yPs} (hp : gAdv par) {f : Nat} : gAdv (gSum k v s par f) := gAdv.comp (f := gLop k 43 45 (-5) (-6) (gTer k v s par f) f) (g := gTer k v s par f) (gLop_adv (gTer_adv hp) f) (gTer_adv hp)
theorem gPar_adv {k v s : Nat → Int32} {f : Nat} : ∀ d, gAdv (gPar k v s f d)
  | 0 => fun P h => absurd h (gErr_e (by decide))
  | d + 1 => fun P h => by
    obtain ⟨h1, -, h3⟩ := gTak_0 (P := gSum k v s (gPar k v s f d) f (gStp P)) h
    obtain ⟨h4, h5⟩ := gSum_adv (gPar_adv d) _ h1
    refine ⟨h4, ?_⟩
    rw [show gPar k v s f (d + 1) P = _ from h3]
    have h6 : (gSum k v s (gPar k v s f d) f (gStp P)).2.2.2.2.length + (P.1 + 1) ≤ P.2.2.2.2.length + (gSum k v s (gPar k v s f d) f (gStp P)).1 := h5
    show (gSum k v s (gPar k v s f d) f (gStp P)).2.2.2.2.length + P.1 ≤ P.2.2.2.2.length + ((gSum k v s (gPar k v s f d) f (gStp P)).1 + 1)
    omega
/-- the contract of a piece of the score's reader -/
abbrev yPP (l : Launch) (D : yD) (z n : Nat) (sh : yS) (I : yI) (L : yL) (r cnt : Nat) (k v s : Nat → Int32) (y : MethodName) (cc : ByteArray) (nL dep : Nat) (e : Nat) (pre : yPs → Prop) (g : yPs → yPs) : Prop := ∀ (Z : yI) (P : yPs), rcP k v s cnt 15 cnt Z P → (P.2.1 = 0 → P.2.2.2.2.length + 1 ≤ P.1) → pre P → yM l D z y cc nL none dep 0 0 [.ref r, .int (nI e)] n sh (sR 18 I r Z) L (yZ (fun Z2 => rcP k v s cnt 15 cnt Z2 (g P)) n sh I r L) yno
set_option maxRecDepth 100000 in
set_option maxHeartbeats 4000000 in
theorem c_X5_takeName (l : Launch) (D : yD) (z : Nat) {n : Nat} {sh : yS} {I : yI} {L : yL} {r b m cnt : Nat} {k v s : Nat → Int32} (hX : yPx k sh r b m cnt) (hf : yPf sh r cnt) (Z : yI) (P : yPs) (hZ : rcP k v s cnt 15 cnt Z P) (hS : P.2.1 = 0 → P.2.2.2.2.length + 1 ≤ P.1) (hk : ¬ k P.1 = -1) {it : Int32} : yM l D z yX5_takeName cX5_takeName 2 none 1 0 0 [.ref r, .int it] n sh (sR 18 I r Z) L (yZ (fun Z2 => rcP k v s cnt 15 cnt Z2 (gStp (gAdd it P))) n sh I r L) (yno) := by
  refine yM_of (by decide) (Nat.le_of_ble_eq_true rfl) rfl ?_
  intro X hC hr hnm hRc hRs htb
  have hC : yC X D z cX5_takeName RX5 2 1 := hC
  refine y_aload_n hC dX5_takeName_0 rfl ?_
  refine y_getR hC (yP_o hX.1) (yP_r1 hX.1) f_X5_18 rfl dX5_takeName_1 ?_
  refine y_getR hC hX.2.2.2.2 hf.1 f_X5_111 rfl dX5_takeName_4 ?_
  refine y_iload_n hC dX5_takeName_7 rfl ?_
  refine y_callZ hC (p_add X.2.1 D z hX hf hZ hS) m_X5_127 rfl hf.2.1 (by omega) (Nat.le_of_ble_eq_true rfl) (Nat.zero_le _) (Nat.zero_le _) dX5_takeName_8 (fun Z1 g1 => ?_)
  refine y_aload_n hC dX5_takeName_11 rfl ?_
  refine y_callZ hC (p_step X.2.1 D z hX g1 (by decide) hk) m_X5_82 rfl (yP_o hX.1) (by omega) (Nat.le_of_ble_eq_true rfl) (Nat.zero_le _) (Nat.zero_le _) dX5_takeName_12 (fun Z2 g2 => ?_)
  exact y_vret hC hr (Nat.zero_le _) (Nat.zero_le _) dX5_takeName_15 (yZ.mk g2)
set_option maxRecDepth 100000 in
set_option maxHeartbeats 4000000 in
theorem c_X5_readFac0 (l : Launch) (D : yD) (z : Nat) {n : Nat} {sh : yS} {I : yI} {L : yL} {r b m cnt : Nat} {k v s : Nat → Int32} (hX : yPx k sh r b m cnt) (hf : yPf sh r cnt) {dp : Nat} (hdp : 2 ≤ dp) (Z : yI) (P : yPs) (hZ : rcP k v s cnt 15 cnt Z P) (hS : P.2.1 = 0 → P.2.2.2.2.length + 1 ≤ P.1) : yM l D z yX5_readFactor cX5_readFactor 2 none (dp + 1) 0 0 [.ref r, .int (nI 4)] n sh (sR 18 I r Z) L (yZ (fun Z2 => rcP k v s cnt 15 cnt Z2 (gFac k v s (gErr s (-5)) P)) n sh I r L) (yno) := by
  refine yM_of (by decide) (Nat.le_of_ble_eq_true rfl) rfl ?_
  intro X hC hr hnm hRc hRs htb
  have hC : yC X D z cX5_readFactor RX5 2 (dp + 1) := hC
  refine y_aload_n hC dX5_readFactor_0 rfl ?_
  refine y_callV1 hC (p_isFine X.2.1 D z hX hZ) m_X5_31 rfl (yP_o hX.1) (by omega) (Nat.le_of_ble_eq_true rfl) (Nat.zero_le _) (Nat.zero_le _) dX5_readFactor_1 ?_
  refine y_if_neB (tgt := 8) hC dX5_readFactor_4 (by decide) (fun c4 => ?_) (fun c4 => ?_)
  · refine y_aload_n hC dX5_readFactor_8 rfl ?_
    refine y_callV1 hC (p_kind X.2.1 D z hX hZ) m_X5_35 rfl (yP_o hX.1) (by omega) (Nat.le_of_ble_eq_true rfl) (Nat.zero_le _) (Nat.zero_le _) dX5_readFactor_9 ?_
    by_cases e12_0 : k P.1 = 40
    · refine y_lookup (tgt := 128) hC dX5_readFactor_12 (by decide) (by rw [e12_0] <;> rfl) (by decide) ?_
      skip
      refine y_iload_n hC dX5_readFactor_128 rfl ?_
      refine y_iconst (v := 4) hC dX5_readFactor_129 (by decide) ?_
      refine y_icmp_lt (tgt := 142) hC dX5_readFactor_130 (by decide) (fun c130 => absurd c130 (by decide)) (fun c130 => ?_)
      refine y_aload_n hC dX5_readFactor_133 rfl ?_
      refine y_bipush (v := (-5)) hC dX5_readFactor_134 (by decide) ?_
      refine y_callZ hC (p_fail X.2.1 D z hX hZ (by decide) (by decide)) m_X5_54 rfl (yP_o hX.1) (by omega) (Nat.le_of_ble_eq_true rfl) (Nat.zero_le _) (Nat.zero_le _) dX5_readFactor_136 (fun Z1 g1 => ?_)
      refine y_goto (tgt := 168) hC dX5_readFactor_139 (by decide) ?_
      exact y_vret hC hr (Nat.zero_le _) (Nat.zero_le _) dX5_readFactor_168 (yZ.mk (by rw [gFac, if_neg (Decidable.not_not.mpr c4), if_neg (by rw [e12_0]; decide), if_neg (by rw [e12_0]; decide), if_neg (by rw [e12_0]; decide), if_neg (by rw [e12_0]; decide), if_neg (by rw [e12_0]; decide), if_pos e12_0]; exact g1))
    by_cases e12_1 : k P.1 = 256
    · refine y_lookup (tgt := 72) hC dX5_readFactor_12 (by decide) (by rw [e12_1] <;> rfl) (by decide) ?_
      skip
      refine y_aload_n hC dX5_readFactor_72 rfl ?_
      refine y_getR hC (yP_o hX.1) (yP_r1 hX.1) f_X5_18 rfl dX5_readFactor_73 ?_
      refine y_getR hC hX.2.2.2.2 hf.1 f_X5_111 rfl dX5_readFactor_76 ?_
      refine y_aload_n hC dX5_readFactor_79 rfl ?_
      refine y_iconst (v := 0) hC dX5_readFactor_80 (by decide) ?_
      refine y_sipush (v := 9999) hC dX5_readFactor_81 (by decide) ?_
      refine y_callN hC (p_num X.2.1 D z hX hZ (by decide)) m_X5_69 rfl (yP_o hX.1) (by omega) (Nat.le_of_ble_eq_true rfl) (Nat.zero_le _) (Nat.zero_le _) dX5_readFactor_84 (fun x2 Z2 g2 => ?_)
      skip
      refine y_callZ hC (p_add X.2.1 D z hX hf g2.1 (fun q => by obtain ⟨q0, -, q1, -, -⟩ := gNum_0 (P := P) q; rw [q1]; exact Nat.le_succ_of_le (hS q0))) m_X5_127 rfl hf.2.1 (by omega) (Nat.le_of_ble_eq_true rfl) (Nat.zero_le _) (Nat.zero_le _) dX5_readFactor_87 (fun Z3 g3 => ?_)
      refine y_goto (tgt := 168) hC dX5_readFactor_90 (by decide) ?_
      exact y_vret hC hr (Nat.zero_le _) (Nat.zero_le _) dX5_readFactor_168 (yZ.mk (by rw [gFac, if_neg (Decidable.not_not.mpr c4), if_pos e12_1]; exact g3.cg g2.2))
    by_cases e12_2 : k P.1 = 263
    · refine y_lookup (tgt := 93) hC dX5_readFactor_12 (by decide) (by rw [e12_2] <;> rfl) (by decide) ?_
      skip
      refine y_aload_n hC dX5_readFactor_93 rfl ?_
      refine y_iconst (v := (-1)) hC dX5_readFactor_94 (by decide) ?_
      refine y_callZ hC (c_X5_takeName X.2.1 D z hX hf _ _ hZ hS (by intro q; rw [e12_2] at q; exact absurd q (by decide))) m_X5_133 rfl (yP_o hX.1) (by omega) (Nat.le_of_ble_eq_true rfl) (Nat.zero_le _) (Nat.zero_le _) dX5_readFactor_95 (fun Z4 g4 => ?_)
      refine y_goto (tgt := 168) hC dX5_readFactor_98 (by decide) ?_
      exact y_vret hC hr (Nat.zero_le _) (Nat.zero_le _) dX5_readFactor_168 (yZ.mk (by rw [gFac, if_neg (Decidable.not_not.mpr c4), if_neg e12_1, if_pos e12_2]; exact g4))
    by_cases e12_3 : k P.1 = 264
    · refine y_lookup (tgt := 101) hC dX5_readFactor_12 (by decide) (by rw [e12_3] <;> rfl) (by decide) ?_
      skip
      refine y_aload_n hC dX5_readFactor_101 rfl ?_
      refine y_bipush (v := (-2)) hC dX5_readFactor_102 (by decide) ?_
      refine y_callZ hC (c_X5_takeName X.2.1 D z hX hf _ _ hZ hS (by intro q; rw [e12_3] at q; exact absurd q (by decide))) m_X5_133 rfl (yP_o hX.1) (by omega) (Nat.le_of_ble_eq_true rfl) (Nat.zero_le _) (Nat.zero_le _) dX5_readFactor_104 (fun Z5 g5 => ?_)
      refine y_goto (tgt := 168) hC dX5_readFactor_107 (by decide) ?_
      exact y_vret hC hr (Nat.zero_le _) (Nat.zero_le _) dX5_readFactor_168 (yZ.mk (by rw [gFac, if_neg (Decidable.not_not.mpr c4), if_neg e12_1, if_neg e12_2, if_pos e12_3]; exact g5))
    by_cases e12_4 : k P.1 = 265
    · refine y_lookup (tgt := 110) hC dX5_readFactor_12 (by decide) (by rw [e12_4] <;> rfl) (by decide) ?_
      skip
      refine y_aload_n hC dX5_readFactor_110 rfl ?_
      refine y_bipush (v := (-3)) hC dX5_readFactor_111 (by decide) ?_
      refine y_callZ hC (c_X5_takeName X.2.1 D z hX hf _ _ hZ hS (by intro q; rw [e12_4] at q; exact absurd q (by decide))) m_X5_133 rfl (yP_o hX.1) (by omega) (Nat.le_of_ble_eq_true rfl) (Nat.zero_le _) (Nat.zero_le _) dX5_readFactor_113 (fun Z6 g6 => ?_)
      refine y_goto (tgt := 168) hC dX5_readFactor_116 (by decide) ?_
      exact y_vret hC hr (Nat.zero_le _) (Nat.zero_le _) dX5_readFactor_168 (yZ.mk (by rw [gFac, if_neg (Decidable.not_not.mpr c4), if_neg e12_1, if_neg e12_2, if_neg e12_3, if_pos e12_4]; exact g6))
    by_cases e12_5 : k P.1 = 266
    · refine y_lookup (tgt := 119) hC dX5_readFactor_12 (by decide) (by rw [e12_5] <;> rfl) (by decide) ?_
      skip
      refine y_aload_n hC dX5_readFactor_119 rfl ?_
      refine y_bipush (v := (-4)) hC dX5_readFactor_120 (by decide) ?_
      refine y_callZ hC (c_X5_takeName X.2.1 D z hX hf _ _ hZ hS (by intro q; rw [e12_5] at q; exact absurd q (by decide))) m_X5_133 rfl (yP_o hX.1) (by omega) (Nat.le_of_ble_eq_true rfl) (Nat.zero_le _) (Nat.zero_le _) dX5_readFactor_122 (fun Z7 g7 => ?_)
      refine y_goto (tgt := 168) hC dX5_readFactor_125 (by decide) ?_
      exact y_vret hC hr (Nat.zero_le _) (Nat.zero_le _) dX5_readFactor_168 (yZ.mk (by rw [gFac, if_neg (Decidable.not_not.mpr c4), if_neg e12_1, if_neg e12_2, if_neg e12_3, if_neg e12_4, if_pos e12_5]; exact g7))
    refine y_lookup (off := 150) (tgt := 162) hC dX5_readFactor_12 (by decide) (by show Op.lookupswitch.offset [(40, 116), (256, 60), (263, 81), (264, 89), (265, 98), (266, 107)] _ _ = _; rw [lv_osw (k := 40) e12_0 (by decide), lv_osw (k := 256) e12_1 (by decide), lv_osw (k := 263) e12_2 (by decide), lv_osw (k := 264) e12_3 (by decide), lv_osw (k := 265) e12_4 (by decide), lv_osw (k := 266) e12_5 (by decide)] <;> rfl) (by decide) ?_
    skip
    refine y_aload_n hC dX5_readFactor_162 rfl ?_
    refine y_bipush (v := (-2)) hC dX5_readFactor_163 (by decide) ?_
    refine y_callZ hC (p_fail X.2.1 D z hX hZ (by decide) (by decide)) m_X5_54 rfl (yP_o hX.1) (by omega) (Nat.le_of_ble_eq_true rfl) (Nat.zero_le _) (Nat.zero_le _) dX5_readFactor_165 (fun Z8 g8 => ?_)
    exact y_vret hC hr (Nat.zero_le _) (Nat.zero_le _) dX5_readFactor_168 (yZ.mk (by rw [gFac, if_neg (Decidable.not_not.mpr c4), if_neg e12_1, if_neg e12_2, if_neg e12_3, if_neg e12_4, if_neg e12_5, if_neg e12_0]; exact g8))
  · exact y_vret hC hr (Nat.zero_le _) (Nat.zero_le _) dX5_readFactor_7 (yZ.mk (by rw [gFac, if_pos c4]; exact hZ))
set_option maxRecDepth 100000 in
set_option maxHeartbeats 4000000 in
theorem c_X5_readFacS (l : Launch) (D : yD) (z : Nat) {n : Nat} {sh : yS} {I : yI} {L : yL} {r b m cnt : Nat} {k v s : Nat → Int32} (hX : yPx k sh r b m cnt) (hf : yPf sh r cnt) {sm : yPs → yPs} {dp e : Nat} (hsum : ∀ l, yPP l D z n sh I L r cnt k v s yX5_readSum cX5_readSum 4 dp (e + 1) (fun _ => True) sm) (hdp : 2 ≤ dp) (he : e < 4) (Z : yI) (P : yPs) (hZ : rcP k v s cnt 15 cnt Z P) (hS : P.2.1 = 0 → P.2.2.2.2.length + 1 ≤ P.1) : yM l D z yX5_readFactor cX5_readFactor 2 none (dp + 1) 0 0 [.ref r, .int (nI e)] n sh (sR 18 I r Z) L (yZ (fun Z2 => rcP k v s cnt 15 cnt Z2 (gFac k v s (fun P => gTak k s 41 (sm (gStp P))) P)) n sh I r L) (yno) := by
  refine yM_of (by decide) (Nat.le_of_ble_eq_true rfl) rfl ?_
  intro X hC hr hnm hRc hRs htb
  have hC : yC X D z cX5_readFactor RX5 2 (dp + 1) := hC
  refine y_aload_n hC dX5_readFactor_0 rfl ?_
  refine y_callV1 hC (p_isFine X.2.1 D z hX hZ) m_X5_31 rfl (yP_o hX.1) (by omega) (Nat.le_of_ble_eq_true rfl) (Nat.zero_le _) (Nat.zero_le _) dX5_readFactor_1 ?_
  refine y_if_neB (tgt := 8) hC dX5_readFactor_4 (by decide) (fun c4 => ?_) (fun c4 => ?_)
  · refine y_aload_n hC dX5_readFactor_8 rfl ?_
    refine y_callV1 hC (p_kind X.2.1 D z hX hZ) m_X5_35 rfl (yP_o hX.1) (by omega) (Nat.le_of_ble_eq_true rfl) (Nat.zero_le _) (Nat.zero_le _) dX5_readFactor_9 ?_
    by_cases e12_0 : k P.1 = 40
    · refine y_lookup (tgt := 128) hC dX5_readFactor_12 (by decide) (by rw [e12_0] <;> rfl) (by decide) ?_
      skip
      refine y_iload_n hC dX5_readFactor_128 rfl ?_
      refine y_iconst (v := nI 4) hC dX5_readFactor_129 (by decide) ?_
      refine y_icmp_lt (tgt := 142) hC dX5_readFactor_130 (by decide) (fun c130 => ?_) (fun c130 => absurd ((nI_ltI (by omega) (by decide)).mpr he) c130)
      refine y_aload_n hC dX5_readFactor_142 rfl ?_
      refine y_callZ hC (p_step X.2.1 D z hX hZ (by decide) (by intro q; rw [e12_0] at q; exact absurd q (by decide))) m_X5_82 rfl (yP_o hX.1) (by omega) (Nat.le_of_ble_eq_true rfl) (Nat.zero_le _) (Nat.zero_le _) dX5_readFactor_143 (fun Z1 g1 => ?_)
      refine y_aload_n hC dX5_readFactor_146 rfl ?_
      refine y_iload_n hC dX5_readFactor_147 rfl ?_
      refine y_iconst (v := nI 1) hC dX5_readFactor_148 (by decide) ?_
      refine y_iaddN hC dX5_readFactor_149 ?_
      refine y_callZ hC (hsum X.2.1 _ _ g1 (fun q => Nat.le_succ_of_le (hS q)) trivial) m_X5_115 rfl (yP_o hX.1) (by omega) (Nat.le_of_ble_eq_true rfl) (Nat.zero_le _) (Nat.zero_le _) dX5_readFactor_150 (fun Z2 g2 => ?_)
      refine y_aload_n hC dX5_readFactor_153 rfl ?_
      refine y_bipush (v := 41) hC dX5_readFactor_154 (by decide) ?_
      refine y_callZ hC (p_take X.2.1 D z hX g2 (by decide) (by decide)) m_X5_58 rfl (yP_o hX.1) (by omega) (Nat.le_of_ble_eq_true rfl) (Nat.zero_le _) (Nat.zero_le _) dX5_readFactor_156 (fun Z3 g3 => ?_)
      refine y_goto (tgt := 168) hC dX5_readFactor_159 (by decide) ?_
      exact y_vret hC hr (Nat.zero_le _) (Nat.zero_le _) dX5_readFactor_168 (yZ.mk (by rw [gFac, if_neg (Decidable.not_not.mpr c4), if_neg (by rw [e12_0]; decide), if_neg (by rw [e12_0]; decide), if_neg (by rw [e12_0]; decide), if_neg (by rw [e12_0]; decide), if_neg (by rw [e12_0]; decide), if_pos e12_0]; exact g3))
    by_cases e12_1 : k P.1 = 256
    · refine y_lookup (tgt := 72) hC dX5_readFactor_12 (by decide) (by rw [e12_1] <;> rfl) (by decide) ?_
      skip
      refine y_aload_n hC dX5_readFactor_72 rfl ?_
      refine y_getR hC (yP_o hX.1) (yP_r1 hX.1) f_X5_18 rfl dX5_readFactor_73 ?_
      refine y_getR hC hX.2.2.2.2 hf.1 f_X5_111 rfl dX5_readFactor_76 ?_
      refine y_aload_n hC dX5_readFactor_79 rfl ?_
      refine y_iconst (v := 0) hC dX5_readFactor_80 (by decide) ?_
      refine y_sipush (v := 9999) hC dX5_readFactor_81 (by decide) ?_
      refine y_callN hC (p_num X.2.1 D z hX hZ (by decide)) m_X5_69 rfl (yP_o hX.1) (by omega) (Nat.le_of_ble_eq_true rfl) (Nat.zero_le _) (Nat.zero_le _) dX5_readFactor_84 (fun x4 Z4 g4 => ?_)
      skip
      refine y_callZ hC (p_add X.2.1 D z hX hf g4.1 (fun q => by obtain ⟨q0, -, q1, -, -⟩ := gNum_0 (P := P) q; rw [q1]; exact Nat.le_succ_of_le (hS q0))) m_X5_127 rfl hf.2.1 (by omega) (Nat.le_of_ble_eq_true rfl) (Nat.zero_le _) (Nat.zero_le _) dX5_readFactor_87 (fun Z5 g5 => ?_)
      refine y_goto (tgt := 168) hC dX5_readFactor_90 (by decide) ?_
      exact y_vret hC hr (Nat.zero_le _) (Nat.zero_le _) dX5_readFactor_168 (yZ.mk (by rw [gFac, if_neg (Decidable.not_not.mpr c4), if_pos e12_1]; exact g5.cg g4.2))
    by_cases e12_2 : k P.1 = 263
    · refine y_lookup (tgt := 93) hC dX5_readFactor_12 (by decide) (by rw [e12_2] <;> rfl) (by decide) ?_
      skip
      refine y_aload_n hC dX5_readFactor_93 rfl ?_
      refine y_iconst (v := (-1)) hC dX5_readFactor_94 (by decide) ?_
      refine y_callZ hC (c_X5_takeName X.2.1 D z hX hf _ _ hZ hS (by intro q; rw [e12_2] at q; exact absurd q (by decide))) m_X5_133 rfl (yP_o hX.1) (by omega) (Nat.le_of_ble_eq_true rfl) (Nat.zero_le _) (Nat.zero_le _) dX5_readFactor_95 (fun Z6 g6 => ?_)
      refine y_goto (tgt := 168) hC dX5_readFactor_98 (by decide) ?_
      exact y_vret hC hr (Nat.zero_le _) (Nat.zero_le _) dX5_readFactor_168 (yZ.mk (by rw [gFac, if_neg (Decidable.not_not.mpr c4), if_neg e12_1, if_pos e12_2]; exact g6))
    by_cases e12_3 : k P.1 = 264
    · refine y_lookup (tgt := 101) hC dX5_readFactor_12 (by decide) (by rw [e12_3] <;> rfl) (by decide) ?_
      skip
      refine y_aload_n hC dX5_readFactor_101 rfl ?_
      refine y_bipush (v := (-2)) hC dX5_readFactor_102 (by decide) ?_
      refine y_callZ hC (c_X5_takeName X.2.1 D z hX hf _ _ hZ hS (by intro q; rw [e12_3] at q; exact absurd q (by decide))) m_X5_133 rfl (yP_o hX.1) (by omega) (Nat.le_of_ble_eq_true rfl) (Nat.zero_le _) (Nat.zero_le _) dX5_readFactor_104 (fun Z7 g7 => ?_)
      refine y_goto (tgt := 168) hC dX5_readFactor_107 (by decide) ?_
      exact y_vret hC hr (Nat.zero_le _) (Nat.zero_le _) dX5_readFactor_168 (yZ.mk (by rw [gFac, if_neg (Decidable.not_not.mpr c4), if_neg e12_1, if_neg e12_2, if_pos e12_3]; exact g7))
    by_cases e12_4 : k P.1 = 265
    · refine y_lookup (tgt := 110) hC dX5_readFactor_12 (by decide) (by rw [e12_4] <;> rfl) (by decide) ?_
      skip
      refine y_aload_n hC dX5_readFactor_110 rfl ?_
      refine y_bipush (v := (-3)) hC dX5_readFactor_111 (by decide) ?_
      refine y_callZ hC (c_X5_takeName X.2.1 D z hX hf _ _ hZ hS (by intro q; rw [e12_4] at q; exact absurd q (by decide))) m_X5_133 rfl (yP_o hX.1) (by omega) (Nat.le_of_ble_eq_true rfl) (Nat.zero_le _) (Nat.zero_le _) dX5_readFactor_113 (fun Z8 g8 => ?_)
      refine y_goto (tgt := 168) hC dX5_readFactor_116 (by decide) ?_
      exact y_vret hC hr (Nat.zero_le _) (Nat.zero_le _) dX5_readFactor_168 (yZ.mk (by rw [gFac, if_neg (Decidable.not_not.mpr c4), if_neg e12_1, if_neg e12_2, if_neg e12_3, if_pos e12_4]; exact g8))
    by_cases e12_5 : k P.1 = 266
    · refine y_lookup (tgt := 119) hC dX5_readFactor_12 (by decide) (by rw [e12_5] <;> rfl) (by decide) ?_
      skip
      refine y_aload_n hC dX5_readFactor_119 rfl ?_
      refine y_bipush (v := (-4)) hC dX5_readFactor_120 (by decide) ?_
      refine y_callZ hC (c_X5_takeName X.2.1 D z hX hf _ _ hZ hS (by intro q; rw [e12_5] at q; exact absurd q (by decide))) m_X5_133 rfl (yP_o hX.1) (by omega) (Nat.le_of_ble_eq_true rfl) (Nat.zero_le _) (Nat.zero_le _) dX5_readFactor_122 (fun Z9 g9 => ?_)
      refine y_goto (tgt := 168) hC dX5_readFactor_125 (by decide) ?_
      exact y_vret hC hr (Nat.zero_le _) (Nat.zero_le _) dX5_readFactor_168 (yZ.mk (by rw [gFac, if_neg (Decidable.not_not.mpr c4), if_neg e12_1, if_neg e12_2, if_neg e12_3, if_neg e12_4, if_pos e12_5]; exact g9))
    refine y_lookup (off := 150) (tgt := 162) hC dX5_readFactor_12 (by decide) (by show Op.lookupswitch.offset [(40, 116), (256, 60), (263, 81), (264, 89), (265, 98), (266, 107)] _ _ = _; rw [lv_osw (k := 40) e12_0 (by decide), lv_osw (k := 256) e12_1 (by decide), lv_osw (k := 263) e12_2 (by decide), lv_osw (k := 264) e12_3 (by decide), lv_osw (k := 265) e12_4 (by decide), lv_osw (k := 266) e12_5 (by decide)] <;> rfl) (by decide) ?_
    skip
    refine y_aload_n hC dX5_readFactor_162 rfl ?_
    refine y_bipush (v := (-2)) hC dX5_readFactor_163 (by decide) ?_
    refine y_callZ hC (p_fail X.2.1 D z hX hZ (by decide) (by decide)) m_X5_54 rfl (yP_o hX.1) (by omega) (Nat.le_of_ble_eq_true rfl) (Nat.zero_le _) (Nat.zero_le _) dX5_readFactor_165 (fun Z10 g10 => ?_)
    exact y_vret hC hr (Nat.zero_le _) (Nat.zero_le _) dX5_readFactor_168 (yZ.mk (by rw [gFac, if_neg (Decidable.not_not.mpr c4), if_neg e12_1, if_neg e12_2, if_neg e12_3, if_neg e12_4, if_neg e12_5, if_neg e12_0]; exact g10))
  · exact y_vret hC hr (Nat.zero_le _) (Nat.zero_le _) dX5_readFactor_7 (yZ.mk (by rw [gFac, if_pos c4]; exact hZ))
set_option maxRecDepth 100000 in
set_option maxHeartbeats 4000000 in
theorem c_X5_readTerm (l : Launch) (D : yD) (z : Nat) {n : Nat} {sh : yS} {I : yI} {L : yL} {r b m cnt : Nat} {k v s : Nat → Int32} (hX : yPx k sh r b m cnt) (hf : yPf sh r cnt) {par : yPs → yPs} {dp e : Nat} (hsub : ∀ l, yPP l D z n sh I L r cnt k v s yX5_readFactor cX5_readFactor 2 dp e (fun _ => True) (gFac k v s par)) (hadv : gAdv (gFac k v s par)) (hdp : 2 ≤ dp) (Z : yI) (P : yPs) (hZ : rcP k v s cnt 15 cnt Z P) (hS : P.2.1 = 0 → P.2.2.2.2.length + 1 ≤ P.1) : yM l D z yX5_readTerm cX5_readTerm 4 none (dp + 1) 0 0 [.ref r, .int (nI e)] n sh (sR 18 I r Z) L (yZ (fun Z2 => rcP k v s cnt 15 cnt Z2 (gTer k v s par cnt P)) n sh I r L) (yno) := by
  refine yM_of (by decide) (Nat.le_of_ble_eq_true rfl) rfl ?_
  intro X hC hr hnm hRc hRs htb
  have hC : yC X D z cX5_readTerm RX5 4 (dp + 1) := hC
  have hc9 : cnt < 2147483648 := Nat.lt_of_le_of_lt hX.2.2.1 hX.2.1
  refine y_aload_n hC dX5_readTerm_0 rfl ?_
  refine y_iload_n hC dX5_readTerm_1 rfl ?_
  refine y_callZ hC (hsub X.2.1 _ _ hZ hS trivial) m_X5_130 rfl (yP_o hX.1) (by omega) (Nat.le_of_ble_eq_true rfl) (Nat.zero_le _) (Nat.zero_le _) dX5_readTerm_2 (fun Z1 g1 => ?_)
  have hS1 : (gFac k v s par P).2.1 = 0 → (gFac k v s par P).2.2.2.2.length + 1 ≤ (gFac k v s par P).1 := fun q => by have h1 := hadv P q; have h2 := hS h1.1; omega
  refine y_iconst (v := nI 0) hC dX5_readTerm_5 (by decide) ?_
  refine y_istore_n hC dX5_readTerm_6 (by decide) rfl ?_
  have lp7 : ∀ (f9 j : Nat) (Z : yI) (P2 : yPs) (q3 : Option Value), j + f9 = cnt → (rcP k v s cnt 15 cnt Z P2 ∧ (P2.2.1 = 0 → P2.2.2.2.2.length + 1 ≤ P2.1) ∧ gLop k 42 47 (-7) (-8) (gFac k v s par) f9 P2 = gTer k v s par cnt P) → Y X D z 4 n sh (sR 18 I r Z) L 0 0 (yEnd X D z (yZ (fun Z2 => rcP k v s cnt 15 cnt Z2 (gTer k v s par cnt P)) n sh I r L) (yno) 0 0) 7 [some (.ref r), some (.int (nI e)), some (.int (nI j)), q3] [] := by
    intro f9
    induction f9 with
    | zero =>
      intro j Z P2 q3 hm hi
      refine y_iload_n hC dX5_readTerm_7 rfl ?_
      refine y_aload_n hC dX5_readTerm_8 rfl ?_
      refine y_getR hC (yP_o hX.1) (yP_r0 hX.1) f_X5_9 rfl dX5_readTerm_9 ?_
      refine y_getIK (w9 := 18) (r := 1) hC (by decide) (yP_t hX.1) f_X5_27 rfl dX5_readTerm_12 ?_
      rw [hi.1.1.1.2.2.2]
      refine y_icmp_ge (tgt := 86) hC dX5_readTerm_15 (by decide) (fun c15 => ?_) (fun c15 => absurd (nI_le (by omega) (by omega)) c15)
      exact y_vret hC hr (Nat.zero_le _) (Nat.zero_le _) dX5_readTerm_86 (yZ.mk (by first | (rw [← hi.2.2, gLop, if_neg (fun q => c22 q.1)]; exact hi.1) | (rw [← hi.2.2, gLop, if_neg (fun q => q.2.elim c31 c40)]; exact hi.1) | (rw [← hi.2.2]; exact hi.1)))
    | succ f9 ih =>
      intro j Z P2 q3 hm hi
      refine y_iload_n hC dX5_readTerm_7 rfl ?_
      refine y_aload_n hC dX5_readTerm_8 rfl ?_
      refine y_getR hC (yP_o hX.1) (yP_r0 hX.1) f_X5_9 rfl dX5_readTerm_9 ?_
      refine y_getIK (w9 := 18) (r := 1) hC (by decide) (yP_t hX.1) f_X5_27 rfl dX5_readTerm_12 ?_
      rw [hi.1.1.1.2.2.2]
      refine y_icmp_ge (tgt := 86) hC dX5_readTerm_15 (by decide) (fun c15 => absurd c15 (nI_ge (by omega) (by omega))) (fun c15 => ?_)
      refine y_aload_n hC dX5_readTerm_18 rfl ?_
      refine y_callV1 hC (p_isFine X.2.1 D z hX hi.1) m_X5_31 rfl (yP_o hX.1) (by omega) (Nat.le_of_ble_eq_true rfl) (Nat.zero_le _) (Nat.zero_le _) dX5_readTerm_19 ?_
      refine y_if_eqB (tgt := 86) hC dX5_readTerm_22 (by decide) (fun c22 => ?_) (fun c22 => ?_)
      · exact y_vret hC hr (Nat.zero_le _) (Nat.zero_le _) dX5_readTerm_86 (yZ.mk (by first | (rw [← hi.2.2, gLop, if_neg (fun q => c22 q.1)]; exact hi.1) | (rw [← hi.2.2, gLop, if_neg (fun q => q.2.elim c31 c40)]; exact hi.1) | (rw [← hi.2.2]; exact hi.1)))
      · refine y_aload_n hC dX5_readTerm_25 rfl ?_
        refine y_callV1 hC (p_kind X.2.1 D z hX hi.1) m_X5_35 rfl (yP_o hX.1) (by omega) (Nat.le_of_ble_eq_true rfl) (Nat.zero_le _) (Nat.zero_le _) dX5_readTerm_26 ?_
        refine y_bipush (v := 42) hC dX5_readTerm_29 (by decide) ?_
        refine y_icmp_eq (tgt := 43) hC dX5_readTerm_31 (by decide) (fun c31 => ?_) (fun c31 => ?_)
        · refine y_aload_n hC dX5_readTerm_43 rfl ?_
          refine y_callV1 hC (p_kind X.2.1 D z hX hi.1) m_X5_35 rfl (yP_o hX.1) (by omega) (Nat.le_of_ble_eq_true rfl) (Nat.zero_le _) (Nat.zero_le _) dX5_readTerm_44 ?_
          refine y_bipush (v := 42) hC dX5_readTerm_47 (by decide) ?_
          refine y_icmp_ne (tgt := 57) hC dX5_readTerm_49 (by decide) (fun c49 => absurd c31 c49) (fun c49 => ?_)
          refine y_bipush (v := (-7)) hC dX5_readTerm_52 (by decide) ?_
          refine y_goto (tgt := 59) hC dX5_readTerm_54 (by decide) ?_
          refine y_istore_n hC dX5_readTerm_59 (by decide) rfl ?_
          refine y_aload_n hC dX5_readTerm_60 rfl ?_
          refine y_callZ hC (p_step X.2.1 D z hX hi.1 (by decide) (by intro q; first | (rw [c31] at q; exact absurd q (by decide)) | (rw [c40] at q; exact absurd q (by decide)))) m_X5_82 rfl (yP_o hX.1) (by omega) (Nat.le_of_ble_eq_true rfl) (Nat.zero_le _) (Nat.zero_le _) dX5_readTerm_61 (fun Z2 g2 => ?_)
          refine y_aload_n hC dX5_readTerm_64 rfl ?_
          refine y_iload_n hC dX5_readTerm_65 rfl ?_
          refine y_callZ hC (hsub X.2.1 _ _ g2 (fun q => Nat.le_succ_of_le (hi.2.1 q)) trivial) m_X5_130 rfl (yP_o hX.1) (by omega) (Nat.le_of_ble_eq_true rfl) (Nat.zero_le _) (Nat.zero_le _) dX5_readTerm_66 (fun Z3 g3 => ?_)
          refine y_aload_n hC dX5_readTerm_69 rfl ?_
          refine y_getR hC (yP_o hX.1) (yP_r1 hX.1) f_X5_18 rfl dX5_readTerm_70 ?_
          refine y_getR hC hX.2.2.2.2 hf.1 f_X5_111 rfl dX5_readTerm_73 ?_
          refine y_iload_n hC dX5_readTerm_76 rfl ?_
          refine y_callZ hC (p_add X.2.1 D z hX hf g3 (fun q => Nat.le_of_succ_le (hadv.nx hi.2.1 q))) m_X5_127 rfl hf.2.1 (by omega) (Nat.le_of_ble_eq_true rfl) (Nat.zero_le _) (Nat.zero_le _) dX5_readTerm_77 (fun Z4 g4 => ?_)
          refine y_iincN hC dX5_readTerm_80 rfl rfl (by decide) rfl ?_
          refine y_goto (tgt := 7) hC dX5_readTerm_83 (by decide) ?_
          exact ih (j + 1) _ _ _ (by omega) ⟨g4, fun q => by have := hadv.nx hi.2.1 q; show (_ ++ [_]).length + 1 ≤ _; rw [List.length_append]; exact this, by rw [← hi.2.2, gLop, if_pos ⟨c22, Or.inl c31⟩, if_pos c31]⟩
        · skip
          refine y_aload_n hC dX5_readTerm_34 rfl ?_
          refine y_callV1 hC (p_kind X.2.1 D z hX hi.1) m_X5_35 rfl (yP_o hX.1) (by omega) (Nat.le_of_ble_eq_true rfl) (Nat.zero_le _) (Nat.zero_le _) dX5_readTerm_35 ?_
          refine y_bipush (v := 47) hC dX5_readTerm_38 (by decide) ?_
          refine y_icmp_ne (tgt := 86) hC dX5_readTerm_40 (by decide) (fun c40 => ?_) (fun c40 => ?_)
          · exact y_vret hC hr (Nat.zero_le _) (Nat.zero_le _) dX5_readTerm_86 (yZ.mk (by first | (rw [← hi.2.2, gLop, if_neg (fun q => c22 q.1)]; exact hi.1) | (rw [← hi.2.2, gLop, if_neg (fun q => q.2.elim c31 c40)]; exact hi.1) | (rw [← hi.2.2]; exact hi.1)))
          · refine y_aload_n hC dX5_readTerm_43 rfl ?_
            refine y_callV1 hC (p_kind X.2.1 D z hX hi.1) m_X5_35 rfl (yP_o hX.1) (by omega) (Nat.le_of_ble_eq_true rfl) (Nat.zero_le _) (Nat.zero_le _) dX5_readTerm_44 ?_
            refine y_bipush (v := 42) hC dX5_readTerm_47 (by decide) ?_
            refine y_icmp_ne (tgt := 57) hC dX5_readTerm_49 (by decide) (fun c49 => ?_) (fun c49 => absurd c49 c31)
            refine y_bipush (v := (-8)) hC dX5_readTerm_57 (by decide) ?_
            refine y_istore_n hC dX5_readTerm_59 (by decide) rfl ?_
            refine y_aload_n hC dX5_readTerm_60 rfl ?_
            refine y_callZ hC (p_step X.2.1 D z hX hi.1 (by decide) (by intro q; first | (rw [c31] at q; exact absurd q (by decide)) | (rw [c40] at q; exact absurd q (by decide)))) m_X5_82 rfl (yP_o hX.1) (by omega) (Nat.le_of_ble_eq_true rfl) (Nat.zero_le _) (Nat.zero_le _) dX5_readTerm_61 (fun Z5 g5 => ?_)
            refine y_aload_n hC dX5_readTerm_64 rfl ?_
            refine y_iload_n hC dX5_readTerm_65 rfl ?_
            refine y_callZ hC (hsub X.2.1 _ _ g5 (fun q => Nat.le_succ_of_le (hi.2.1 q)) trivial) m_X5_130 rfl (yP_o hX.1) (by omega) (Nat.le_of_ble_eq_true rfl) (Nat.zero_le _) (Nat.zero_le _) dX5_readTerm_66 (fun Z6 g6 => ?_)
            refine y_aload_n hC dX5_readTerm_69 rfl ?_
            refine y_getR hC (yP_o hX.1) (yP_r1 hX.1) f_X5_18 rfl dX5_readTerm_70 ?_
            refine y_getR hC hX.2.2.2.2 hf.1 f_X5_111 rfl dX5_readTerm_73 ?_
            refine y_iload_n hC dX5_readTerm_76 rfl ?_
            refine y_callZ hC (p_add X.2.1 D z hX hf g6 (fun q => Nat.le_of_succ_le (hadv.nx hi.2.1 q))) m_X5_127 rfl hf.2.1 (by omega) (Nat.le_of_ble_eq_true rfl) (Nat.zero_le _) (Nat.zero_le _) dX5_readTerm_77 (fun Z7 g7 => ?_)
            refine y_iincN hC dX5_readTerm_80 rfl rfl (by decide) rfl ?_
            refine y_goto (tgt := 7) hC dX5_readTerm_83 (by decide) ?_
            exact ih (j + 1) _ _ _ (by omega) ⟨g7, fun q => by have := hadv.nx hi.2.1 q; show (_ ++ [_]).length + 1 ≤ _; rw [List.length_append]; exact this, by rw [← hi.2.2, gLop, if_pos ⟨c22, Or.inr c40⟩, if_neg c31]⟩
  exact lp7 cnt 0 _ _ none (by omega) ⟨g1, hS1, rfl⟩
set_option maxRecDepth 100000 in
set_option maxHeartbeats 4000000 in
theorem c_X5_readSum (l : Launch) (D : yD) (z : Nat) {n : Nat} {sh : yS} {I : yI} {L : yL} {r b m cnt : Nat} {k v s : Nat → Int32} (hX : yPx k sh r b m cnt) (hf : yPf sh r cnt) {par : yPs → yPs} {dp e : Nat} (hsub : ∀ l, yPP l D z n sh I L r cnt k v s yX5_readTerm cX5_readTerm 4 dp e (fun _ => True) (gTer k v s par cnt)) (hadv : gAdv (gTer k v s par cnt)) (hdp : 2 ≤ dp) (Z : yI) (P : yPs) (hZ : rcP k v s cnt 15 cnt Z P) (hS : P.2.1 = 0 → P.2.2.2.2.length + 1 ≤ P.1) : yM l D z yX5_readSum cX5_readSum 4 none (dp + 1) 0 0 [.ref r, .int (nI e)] n sh (sR 18 I r Z) L (yZ (fun Z2 => rcP k v s cnt 15 cnt Z2 (gSum k v s par cnt P)) n sh I r L) (yno) := by
  refine yM_of (by decide) (Nat.le_of_ble_eq_true rfl) rfl ?_
  intro X hC hr hnm hRc hRs htb
  have hC : yC X D z cX5_readSum RX5 4 (dp + 1) := hC
  have hc9 : cnt < 2147483648 := Nat.lt_of_le_of_lt hX.2.2.1 hX.2.1
  refine y_aload_n hC dX5_readSum_0 rfl ?_
  refine y_iload_n hC dX5_readSum_1 rfl ?_
  refine y_callZ hC (hsub X.2.1 _ _ hZ hS trivial) m_X5_124 rfl (yP_o hX.1) (by omega) (Nat.le_of_ble_eq_true rfl) (Nat.zero_le _) (Nat.zero_le _) dX5_readSum_2 (fun Z1 g1 => ?_)
  have hS1 : (gTer k v s par cnt P).2.1 = 0 → (gTer k v s par cnt P).2.2.2.2.length + 1 ≤ (gTer k v s par cnt P).1 := fun q => by have h1 := hadv P q; have h2 := hS h1.1; omega
  refine y_iconst (v := nI 0) hC dX5_readSum_5 (by decide) ?_
  refine y_istore_n hC dX5_readSum_6 (by decide) rfl ?_
  have lp7 : ∀ (f9 j : Nat) (Z : yI) (P2 : yPs) (q3 : Option Value), j + f9 = cnt → (rcP k v s cnt 15 cnt Z P2 ∧ (P2.2.1 = 0 → P2.2.2.2.2.length + 1 ≤ P2.1) ∧ gLop k 43 45 (-5) (-6) (gTer k v s par cnt) f9 P2 = gSum k v s par cnt P) → Y X D z 4 n sh (sR 18 I r Z) L 0 0 (yEnd X D z (yZ (fun Z2 => rcP k v s cnt 15 cnt Z2 (gSum k v s par cnt P)) n sh I r L) (yno) 0 0) 7 [some (.ref r), some (.int (nI e)), some (.int (nI j)), q3] [] := by
    intro f9
    induction f9 with
    | zero =>
      intro j Z P2 q3 hm hi
      refine y_iload_n hC dX5_readSum_7 rfl ?_
      refine y_aload_n hC dX5_readSum_8 rfl ?_
      refine y_getR hC (yP_o hX.1) (yP_r0 hX.1) f_X5_9 rfl dX5_readSum_9 ?_
      refine y_getIK (w9 := 18) (r := 1) hC (by decide) (yP_t hX.1) f_X5_27 rfl dX5_readSum_12 ?_
      rw [hi.1.1.1.2.2.2]
      refine y_icmp_ge (tgt := 86) hC dX5_readSum_15 (by decide) (fun c15 => ?_) (fun c15 => absurd (nI_le (by omega) (by omega)) c15)
      exact y_vret hC hr (Nat.zero_le _) (Nat.zero_le _) dX5_readSum_86 (yZ.mk (by first | (rw [← hi.2.2, gLop, if_neg (fun q => c22 q.1)]; exact hi.1) | (rw [← hi.2.2, gLop, if_neg (fun q => q.2.elim c31 c40)]; exact hi.1) | (rw [← hi.2.2]; exact hi.1)))
    | succ f9 ih =>
      intro j Z P2 q3 hm hi
      refine y_iload_n hC dX5_readSum_7 rfl ?_
      refine y_aload_n hC dX5_readSum_8 rfl ?_
      refine y_getR hC (yP_o hX.1) (yP_r0 hX.1) f_X5_9 rfl dX5_readSum_9 ?_
      refine y_getIK (w9 := 18) (r := 1) hC (by decide) (yP_t hX.1) f_X5_27 rfl dX5_readSum_12 ?_
      rw [hi.1.1.1.2.2.2]
      refine y_icmp_ge (tgt := 86) hC dX5_readSum_15 (by decide) (fun c15 => absurd c15 (nI_ge (by omega) (by omega))) (fun c15 => ?_)
      refine y_aload_n hC dX5_readSum_18 rfl ?_
      refine y_callV1 hC (p_isFine X.2.1 D z hX hi.1) m_X5_31 rfl (yP_o hX.1) (by omega) (Nat.le_of_ble_eq_true rfl) (Nat.zero_le _) (Nat.zero_le _) dX5_readSum_19 ?_
      refine y_if_eqB (tgt := 86) hC dX5_readSum_22 (by decide) (fun c22 => ?_) (fun c22 => ?_)
      · exact y_vret hC hr (Nat.zero_le _) (Nat.zero_le _) dX5_readSum_86 (yZ.mk (by first | (rw [← hi.2.2, gLop, if_neg (fun q => c22 q.1)]; exact hi.1) | (rw [← hi.2.2, gLop, if_neg (fun q => q.2.elim c31 c40)]; exact hi.1) | (rw [← hi.2.2]; exact hi.1)))
      · refine y_aload_n hC dX5_readSum_25 rfl ?_
        refine y_callV1 hC (p_kind X.2.1 D z hX hi.1) m_X5_35 rfl (yP_o hX.1) (by omega) (Nat.le_of_ble_eq_true rfl) (Nat.zero_le _) (Nat.zero_le _) dX5_readSum_26 ?_
        refine y_bipush (v := 43) hC dX5_readSum_29 (by decide) ?_
        refine y_icmp_eq (tgt := 43) hC dX5_readSum_31 (by decide) (fun c31 => ?_) (fun c31 => ?_)
        · refine y_aload_n hC dX5_readSum_43 rfl ?_
          refine y_callV1 hC (p_kind X.2.1 D z hX hi.1) m_X5_35 rfl (yP_o hX.1) (by omega) (Nat.le_of_ble_eq_true rfl) (Nat.zero_le _) (Nat.zero_le _) dX5_readSum_44 ?_
          refine y_bipush (v := 43) hC dX5_readSum_47 (by decide) ?_
          refine y_icmp_ne (tgt := 57) hC dX5_readSum_49 (by decide) (fun c49 => absurd c31 c49) (fun c49 => ?_)
          refine y_bipush (v := (-5)) hC dX5_readSum_52 (by decide) ?_
          refine y_goto (tgt := 59) hC dX5_readSum_54 (by decide) ?_
          refine y_istore_n hC dX5_readSum_59 (by decide) rfl ?_
          refine y_aload_n hC dX5_readSum_60 rfl ?_
          refine y_callZ hC (p_step X.2.1 D z hX hi.1 (by decide) (by intro q; first | (rw [c31] at q; exact absurd q (by decide)) | (rw [c40] at q; exact absurd q (by decide)))) m_X5_82 rfl (yP_o hX.1) (by omega) (Nat.le_of_ble_eq_true rfl) (Nat.zero_le _) (Nat.zero_le _) dX5_readSum_61 (fun Z2 g2 => ?_)
          refine y_aload_n hC dX5_readSum_64 rfl ?_
          refine y_iload_n hC dX5_readSum_65 rfl ?_
          refine y_callZ hC (hsub X.2.1 _ _ g2 (fun q => Nat.le_succ_of_le (hi.2.1 q)) trivial) m_X5_124 rfl (yP_o hX.1) (by omega) (Nat.le_of_ble_eq_true rfl) (Nat.zero_le _) (Nat.zero_le _) dX5_readSum_66 (fun Z3 g3 => ?_)
          refine y_aload_n hC dX5_readSum_69 rfl ?_
          refine y_getR hC (yP_o hX.1) (yP_r1 hX.1) f_X5_18 rfl dX5_readSum_70 ?_
          refine y_getR hC hX.2.2.2.2 hf.1 f_X5_111 rfl dX5_readSum_73 ?_
          refine y_iload_n hC dX5_readSum_76 rfl ?_
          refine y_callZ hC (p_add X.2.1 D z hX hf g3 (fun q => Nat.le_of_succ_le (hadv.nx hi.2.1 q))) m_X5_127 rfl hf.2.1 (by omega) (Nat.le_of_ble_eq_true rfl) (Nat.zero_le _) (Nat.zero_le _) dX5_readSum_77 (fun Z4 g4 => ?_)
          refine y_iincN hC dX5_readSum_80 rfl rfl (by decide) rfl ?_
          refine y_goto (tgt := 7) hC dX5_readSum_83 (by decide) ?_
          exact ih (j + 1) _ _ _ (by omega) ⟨g4, fun q => by have := hadv.nx hi.2.1 q; show (_ ++ [_]).length + 1 ≤ _; rw [List.length_append]; exact this, by rw [← hi.2.2, gLop, if_pos ⟨c22, Or.inl c31⟩, if_pos c31]⟩
        · skip
          refine y_aload_n hC dX5_readSum_34 rfl ?_
          refine y_callV1 hC (p_kind X.2.1 D z hX hi.1) m_X5_35 rfl (yP_o hX.1) (by omega) (Nat.le_of_ble_eq_true rfl) (Nat.zero_le _) (Nat.zero_le _) dX5_readSum_35 ?_
          refine y_bipush (v := 45) hC dX5_readSum_38 (by decide) ?_
          refine y_icmp_ne (tgt := 86) hC dX5_readSum_40 (by decide) (fun c40 => ?_) (fun c40 => ?_)
          · exact y_vret hC hr (Nat.zero_le _) (Nat.zero_le _) dX5_readSum_86 (yZ.mk (by first | (rw [← hi.2.2, gLop, if_neg (fun q => c22 q.1)]; exact hi.1) | (rw [← hi.2.2, gLop, if_neg (fun q => q.2.elim c31 c40)]; exact hi.1) | (rw [← hi.2.2]; exact hi.1)))
          · refine y_aload_n hC dX5_readSum_43 rfl ?_
            refine y_callV1 hC (p_kind X.2.1 D z hX hi.1) m_X5_35 rfl (yP_o hX.1) (by omega) (Nat.le_of_ble_eq_true rfl) (Nat.zero_le _) (Nat.zero_le _) dX5_readSum_44 ?_
            refine y_bipush (v := 43) hC dX5_readSum_47 (by decide) ?_
            refine y_icmp_ne (tgt := 57) hC dX5_readSum_49 (by decide) (fun c49 => ?_) (fun c49 => absurd c49 c31)
            refine y_bipush (v := (-6)) hC dX5_readSum_57 (by decide) ?_
            refine y_istore_n hC dX5_readSum_59 (by decide) rfl ?_
            refine y_aload_n hC dX5_readSum_60 rfl ?_
            refine y_callZ hC (p_step X.2.1 D z hX hi.1 (by decide) (by intro q; first | (rw [c31] at q; exact absurd q (by decide)) | (rw [c40] at q; exact absurd q (by decide)))) m_X5_82 rfl (yP_o hX.1) (by omega) (Nat.le_of_ble_eq_true rfl) (Nat.zero_le _) (Nat.zero_le _) dX5_readSum_61 (fun Z5 g5 => ?_)
            refine y_aload_n hC dX5_readSum_64 rfl ?_
            refine y_iload_n hC dX5_readSum_65 rfl ?_
            refine y_callZ hC (hsub X.2.1 _ _ g5 (fun q => Nat.le_succ_of_le (hi.2.1 q)) trivial) m_X5_124 rfl (yP_o hX.1) (by omega) (Nat.le_of_ble_eq_true rfl) (Nat.zero_le _) (Nat.zero_le _) dX5_readSum_66 (fun Z6 g6 => ?_)
            refine y_aload_n hC dX5_readSum_69 rfl ?_
            refine y_getR hC (yP_o hX.1) (yP_r1 hX.1) f_X5_18 rfl dX5_readSum_70 ?_
            refine y_getR hC hX.2.2.2.2 hf.1 f_X5_111 rfl dX5_readSum_73 ?_
            refine y_iload_n hC dX5_readSum_76 rfl ?_
            refine y_callZ hC (p_add X.2.1 D z hX hf g6 (fun q => Nat.le_of_succ_le (hadv.nx hi.2.1 q))) m_X5_127 rfl hf.2.1 (by omega) (Nat.le_of_ble_eq_true rfl) (Nat.zero_le _) (Nat.zero_le _) dX5_readSum_77 (fun Z7 g7 => ?_)
            refine y_iincN hC dX5_readSum_80 rfl rfl (by decide) rfl ?_
            refine y_goto (tgt := 7) hC dX5_readSum_83 (by decide) ?_
            exact ih (j + 1) _ _ _ (by omega) ⟨g7, fun q => by have := hadv.nx hi.2.1 q; show (_ ++ [_]).length + 1 ≤ _; rw [List.length_append]; exact this, by rw [← hi.2.2, gLop, if_pos ⟨c22, Or.inr c40⟩, if_neg c31]⟩
  exact lp7 cnt 0 _ _ none (by omega) ⟨g1, hS1, rfl⟩
theorem c_fac_all (D : yD) (z : Nat) {n : Nat} {sh : yS} {I : yI} {L : yL} {r b m cnt : Nat} {k v s : Nat → Int32} (hX : yPx k sh r b m cnt) (hf : yPf sh r cnt) : ∀ d e, e + d = 4 → ∀ l, yPP l D z n sh I L r cnt k v s yX5_readFactor cX5_readFactor 2 (3 * d + 7) e (fun _ => True) (gFac k v s (gPar k v s cnt d))
  | 0, e, h, l => fun Z P hZ hS _ => by
    have : e = 4 := h
    subst this
    exact c_X5_readFac0 l D z (dp := 6) hX hf (by omega) Z P hZ hS
  | d + 1, e, h, l => fun Z P hZ hS _ => by
    have ih := c_fac_all D z (n := n) (I := I) (L := L) (v := v) (s := s) hX hf d (e + 1) (by omega)
    have h2 := fun l => c_X5_readTerm l D z (n := n) (I := I) (L := L) (v := v) (s := s) (par := gPar k v s cnt d) (dp := 3 * d + 7) (e := e + 1) hX hf ih (gFac_adv (gPar_adv d)) (by omega)
    have h3 := fun l => c_X5_readSum l D z (n := n) (I := I) (L := L) (v := v) (s := s) (par := gPar k v s cnt d) (dp := 3 * d + 7 + 1) (e := e + 1) hX hf (fun l Z P a b _ => h2 l Z P a b) (gTer_adv (gPar_adv d)) (by omega)
    rw [show 3 * (d + 1) + 7 = 3 * d + 7 + 1 + 1 + 1 by omega]
    exact c_X5_readFacS l D z hX hf (fun l Z P a b _ => h3 l Z P a b) (by omega) (by omega) Z P hZ hS
theorem c_sum_all (l : Launch) (D : yD) (z : Nat) {n : Nat} {sh : yS} {I : yI} {L : yL} {r b m cnt : Nat} {k v s : Nat → Int32} (hX : yPx k sh r b m cnt) (hf : yPf sh r cnt) : yPP l D z n sh I L r cnt k v s yX5_readSum cX5_readSum 4 21 0 (fun _ => True) (gSum k v s (gPar k v s cnt 4) cnt) := by
  have h1 := c_fac_all D z (n := n) (I := I) (L := L) (v := v) (s := s) hX hf 4 0 rfl
  have h2 := fun l => c_X5_readTerm l D z (n := n) (I := I) (L := L) (v := v) (s := s) (par := gPar k v s cnt 4) (dp := 3 * 4 + 7) (e := 0) hX hf h1 (gFac_adv (gPar_adv 4)) (by omega)
  exact fun Z P a b _ => c_X5_readSum l D z (n := n) (I := I) (L := L) (v := v) (s := s) (par := gPar k v s cnt 4) (dp := 3 * 4 + 7 + 1) (e := 0) hX hf (fun l Z P a b _ => h2 l Z P a b) (gTer_adv (gPar_adv 4)) (by omega) Z P a b
