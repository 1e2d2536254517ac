theorem sR_in {w w2 : Nat} {I : yI} {i o : Nat} {Z W : yI} (h : o + w2 ≤ w) : sR w2 (sR w I i Z) (i + o) W = sR w I i (sR w2 Z o W) := by
  funext a
  unfold sR
  by_cases h1 : i + o ≤ a ∧ a < i + o + w2
  · rw [if_pos h1, if_pos (by omega), if_pos (by omega), show a - (i + o) = a - i - o by omega]
  · rw [if_neg h1]
    by_cases h2 : i ≤ a ∧ a < i + w
    · rw [if_pos h2, if_pos h2, if_neg (by omega)]
    · rw [if_neg h2, if_neg h2]
/-- the tokens of a text: kind, start, value -/
def tk (b : Nat → Int32) (N : Nat) : Nat → Nat → List (Int32 × Nat × Int32)
  | 0, _ => [(-1, N, 0)]
  | f + 1, a => if N ≤ a then [(-1, N, 0)]
    else if dgP (b a) then (256, a, dv b (rn dgP b (N - a) a - a) a 0) :: tk b N f (rn dgP b (N - a) a)
    else if ltP (b a) then (kwd b a (rn ltP b (N - a) a), a, 0) :: tk b N f (rn ltP b (N - a) a)
    else if b a = 32 then tk b N f (a + 1)
    else (b a &&& 255, a, 0) :: tk b N f (a + 1)
def tkK (S : List (Int32 × Nat × Int32)) (i : Nat) : Int32 := (S.getD i (0, 0, 0)).1
def tkS (S : List (Int32 × Nat × Int32)) (i : Nat) : Int32 := nI (S.getD i (0, 0, 0)).2.1
def tkV (S : List (Int32 × Nat × Int32)) (i : Nat) : Int32 := (S.getD i (0, 0, 0)).2.2
/-- the arrays hold these tokens from c on, and nothing behind them -/
def cuP (T W : yI) (c : Nat) (S : List (Int32 × Nat × Int32)) : Prop := W 0 5 = nI (c + S.length) ∧ (∀ i, i < c → W 1 i = T 1 i ∧ W 2 i = T 2 i ∧ W 3 i = T 3 i) ∧ ∀ i, W 1 (c + i) = tkK S i ∧ W 2 (c + i) = tkS S i ∧ W 3 (c + i) = tkV S i
theorem addT_at {T : yI} {c i : Nat} {k s v : Int32} : (addT T c k s v 1 i = if i = c then k else T 1 i) ∧ (addT T c k s v 2 i = if i = c then s else T 2 i) ∧ (addT T c k s v 3 i = if i = c then v else T 3 i) := ⟨rfl, rfl, rfl⟩
theorem cuP.one {T : yI} {c : Nat} (hz : ∀ i, c ≤ i → T 1 i = 0 ∧ T 2 i = 0 ∧ T 3 i = 0) {k v : Int32} {s : Nat} : cuP T (addT T c k (nI s) v) c [(k, s, v)] := by
  refine ⟨rfl, fun i hi => ?_, fun i => ?_⟩
  · obtain ⟨a1, a2, a3⟩ := addT_at (T := T) (c := c) (i := i) (k := k) (s := nI s) (v := v)
    rw [a1, a2, a3, if_neg (by omega), if_neg (by omega), if_neg (by omega)]
    exact ⟨rfl, rfl, rfl⟩
  · obtain ⟨a1, a2, a3⟩ := addT_at (T := T) (c := c) (i := c + i) (k := k) (s := nI s) (v := v)
    rw [a1, a2, a3]
    rcases i with _ | i
    · rw [if_pos (Nat.add_zero c), if_pos (Nat.add_zero c), if_pos (Nat.add_zero c)]; exact ⟨rfl, rfl, rfl⟩
    · rw [if_neg (by omega), if_neg (by omega), if_neg (by omega)]
      obtain ⟨z1, z2, z3⟩ := hz (c + (i + 1)) (by omega)
      exact ⟨z1, z2, z3⟩
theorem cuP.cons {T W : yI} {c : Nat} {k v : Int32} {s : Nat} {S : List (Int32 × Nat × Int32)} (h : cuP (addT T c k (nI s) v) W (c + 1) S) : cuP T W c ((k, s, v) :: S) := by
  obtain ⟨h1, h2, h3⟩ := h
  refine ⟨by rw [h1, List.length_cons]; congr 1; omega, fun i hi => ?_, fun i => ?_⟩
  · obtain ⟨b1, b2, b3⟩ := h2 i (by omega)
    obtain ⟨a1, a2, a3⟩ := addT_at (T := T) (c := c) (i := i) (k := k) (s := nI s) (v := v)
    rw [b1, b2, b3, a1, a2, a3, if_neg (by omega), if_neg (by omega), if_neg (by omega)]
    exact ⟨rfl, rfl, rfl⟩
  · rcases i with _ | i
    · obtain ⟨b1, b2, b3⟩ := h2 c (by omega)
      obtain ⟨a1, a2, a3⟩ := addT_at (T := T) (c := c) (i := c) (k := k) (s := nI s) (v := v)
      rw [if_pos rfl] at a1 a2 a3
      exact ⟨b1.trans a1, b2.trans a2, b3.trans a3⟩
    · have := h3 i
      rw [show c + 1 + i = c + (i + 1) by omega] at this
      exact this
theorem cuS_tk {b : Nat → Int32} {N : Nat} : ∀ (f a c : Nat) (T : yI), (∀ i, c ≤ i → T 1 i = 0 ∧ T 2 i = 0 ∧ T 3 i = 0) → cuP T (cuS b N f a c T) c (tk b N f a)
  | 0, a, c, T, hz => cuP.one hz
  | f + 1, a, c, T, hz => by
    have hz2 : ∀ (k s v : Int32) i, c + 1 ≤ i → addT T c k s v 1 i = 0 ∧ addT T c k s v 2 i = 0 ∧ addT T c k s v 3 i = 0 := fun k s v i hi => by
      obtain ⟨a1, a2, a3⟩ := addT_at (T := T) (c := c) (i := i) (k := k) (s := s) (v := v)
      rw [a1, a2, a3, if_neg (by omega), if_neg (by omega), if_neg (by omega)]
      exact hz i (by omega)
    unfold cuS tk
    by_cases h1 : N ≤ a
    · rw [if_pos h1, if_pos h1]; exact cuP.one hz
    rw [if_neg h1, if_neg h1]
    by_cases h2 : dgP (b a)
    · rw [if_pos h2, if_pos h2]; exact cuP.cons (cuS_tk f _ _ _ (hz2 _ _ _))
    rw [if_neg h2, if_neg h2]
    by_cases h3 : ltP (b a)
    · rw [if_pos h3, if_pos h3]; exact cuP.cons (cuS_tk f _ _ _ (hz2 _ _ _))
    rw [if_neg h3, if_neg h3]
    by_cases h4 : b a = 32
    · rw [if_pos h4, if_pos h4]; exact cuS_tk f _ _ _ hz
    · rw [if_neg h4, if_neg h4]; exact cuP.cons (cuS_tk f _ _ _ (hz2 _ _ _))
theorem tk_pos {b : Nat → Int32} {N : Nat} : ∀ (f a : Nat), 0 < (tk b N f a).length
  | 0, a => by show 0 < 1; decide
  | f + 1, a => by
    unfold tk
    split
    · show 0 < 1; decide
    · split
      · exact Nat.succ_pos _
      · split
        · exact Nat.succ_pos _
        · split
          · exact tk_pos f _
          · exact Nat.succ_pos _
theorem kwd_ne {b : Nat → Int32} {s e : Nat} : ¬ kwd b s e = -1 := by
  unfold kwd
  repeat (split; · decide)
  decide
theorem and_ne (x : Int32) : ¬ x &&& 255 = -1 := by
  intro h
  have h2 : x &&& 255 &&& 256 = -1 &&& 256 := by rw [h]
  rw [Int32.and_assoc, show (255 : Int32) &&& 256 = 0 by decide, Int32.and_zero] at h2
  exact absurd h2 (by decide)
/-- the last token and no other one is the end -/
theorem tk_end {b : Nat → Int32} {N : Nat} : ∀ (f a i : Nat), i < (tk b N f a).length → (tkK (tk b N f a) i = -1 ↔ i + 1 = (tk b N f a).length)
  | 0, a, i, h => by
    have : i = 0 := by have h : i < 1 := h; omega
    subst this
    exact ⟨fun _ => rfl, fun _ => rfl⟩
  | f + 1, a, i, h => by
    have hc : ∀ (x : Int32 × Nat × Int32) (S : List (Int32 × Nat × Int32)), ¬ x.1 = -1 → 0 < S.length → (∀ j, j < S.length → (tkK S j = -1 ↔ j + 1 = S.length)) → i < (x :: S).length → (tkK (x :: S) i = -1 ↔ i + 1 = (x :: S).length) := fun x S hx hS hj hi => by
      rcases i with _ | i
      · refine ⟨fun q => absurd q hx, fun q => ?_⟩
        rw [List.length_cons] at q; omega
      · rw [List.length_cons] at hi ⊢
        have := hj i (by omega)
        refine ⟨fun q => ?_, fun q => ?_⟩
        · have := this.mp q; omega
        · exact this.mpr (by omega)
    unfold tk at h ⊢
    split at h
    · rename_i h1
      rw [if_pos h1]
      have : i = 0 := by have h : i < 1 := h; omega
      subst this
      exact ⟨fun _ => rfl, fun _ => rfl⟩
    · rename_i h1
      rw [if_neg h1]
      split at h
      · rename_i h2
        rw [if_pos h2]; exact hc _ _ (show ¬ (256 : Int32) = -1 by decide) (tk_pos f _) (tk_end f _) h
      · rename_i h2
        rw [if_neg h2]
        split at h
        · rename_i h3
          rw [if_pos h3]; exact hc _ _ kwd_ne (tk_pos f _) (tk_end f _) h
        · rename_i h3
          rw [if_neg h3]
          split at h
          · rename_i h4
            rw [if_pos h4]; exact tk_end f _ i h
          · rename_i h4
            rw [if_neg h4]; exact hc _ _ (and_ne _) (tk_pos f _) (tk_end f _) h
theorem tk_len {b : Nat → Int32} {N : Nat} : ∀ (f a : Nat), (tk b N f a).length ≤ f + 1
  | 0, a => Nat.le_refl _
  | f + 1, a => by
    unfold tk
    split
    · show 1 ≤ _; omega
    · split
      · rw [List.length_cons]; have := tk_len (b := b) (N := N) f (rn dgP b (N - a) a); omega
      · split
        · rw [List.length_cons]; have := tk_len (b := b) (N := N) f (rn ltP b (N - a) a); omega
        · split
          · have := tk_len (b := b) (N := N) f (a + 1); omega
          · rw [List.length_cons]; have := tk_len (b := b) (N := N) f (a + 1); omega
/-- the draft at the beginning -/
def gD0 : Nat → Int32 := fun j => if j = 0 then 1 else if j = 1 then 1 else if j = 8 then 100 else 0
def gP0 : yPs := (0, 0, 0, gD0, [])
/-- how far the heap has grown, and which formula is there -/
def yPh (r cnt n2 : Nat) (sh2 : yS) (k9 w9 fr fm : Nat) (P : yPs) : Prop := (fr = 6 ∧ fm = 1 ∧ n2 = r + 15 ∧ k9 = 0 ∧ w9 = 0 ∧ ySet sh2 (r + 5) (r + 6) ∧ yFor sh2 (r + 6) 1 ∧ (P.2.1 = 0 → P.2.2.2.1 2002 = 0)) ∨ (fr = 15 ∧ fm = cnt ∧ n2 = r + 18 ∧ k9 = 3 ∧ w9 = cnt + 14 ∧ ySet sh2 (r + 5) (r + 15) ∧ yFor sh2 (r + 15) cnt ∧ (P.2.1 = 0 → ¬ P.2.2.2.1 2002 = 0)) ∨ (fr = 15 ∧ fm = cnt ∧ n2 = r + 21 ∧ k9 = 6 ∧ w9 = cnt + 14 + (cnt + 14) ∧ ¬ P.2.1 = 0)
def gKp (P P2 : yPs) : Prop := P2.2.1 = 0 → P.2.1 = 0 ∧ P2.2.2.2.1 2002 = P.2.2.2.1 2002
theorem yPh.mv {r cnt n2 : Nat} {sh2 : yS} {k9 w9 fr fm : Nat} {P P2 : yPs} (h : yPh r cnt n2 sh2 k9 w9 fr fm P) (hk : gKp P P2) : yPh r cnt n2 sh2 k9 w9 fr fm P2 := by
  rcases h with ⟨a1, a2, a3, a4, a5, a6, a7, a8⟩ | ⟨a1, a2, a3, a4, a5, a6, a7, a8⟩ | ⟨a1, a2, a3, a4, a5, a6⟩
  · exact Or.inl ⟨a1, a2, a3, a4, a5, a6, a7, fun q => (hk q).2.trans (a8 (hk q).1)⟩
  · exact Or.inr (Or.inl ⟨a1, a2, a3, a4, a5, a6, a7, fun q => by rw [(hk q).2]; exact a8 (hk q).1⟩)
  · exact Or.inr (Or.inr ⟨a1, a2, a3, a4, a5, fun q => a6 (hk q).1⟩)
theorem gKp.tr {P P2 P3 : yPs} (h1 : gKp P P2) (h2 : gKp P2 P3) : gKp P P3 := fun q => ⟨(h1 (h2 q).1).1, (h2 q).2.trans (h1 (h2 q).1).2⟩
theorem gKp_err {s : Nat → Int32} {c : Int32} (hc : ¬ c = 0) {P : yPs} : gKp P (gErr s c P) := fun q => absurd q (gErr_e hc)
theorem gKp_stp {P : yPs} : gKp P (gStp P) := fun q => ⟨q, rfl⟩
theorem gKp_put {j : Nat} {x : Int32} (hj : 2002 ≠ j) {P : yPs} : gKp P (gPut j x P) := fun q => ⟨q, upd_ne9 (d := P.2.2.2.1) hj⟩
theorem gKp_nu2 {k v s : Nat → Int32} {j : Nat} {lo hi : Int32} (hj : 2002 ≠ j) {P : yPs} : gKp P (gNu2 k v s j lo hi P) := fun q => ⟨(gNum_0 q).1, by rw [gNu2_dr, upd_ne9 hj]⟩
theorem gKp_tak {k s : Nat → Int32} {c : Int32} {P : yPs} : gKp P (gTak k s c P) := fun q => ⟨(gTak_0 q).1, by rw [(gTak_0 q).2.2]; rfl⟩
theorem gKp_onc {s : Nat → Int32} {j : Nat} (hj : 2002 ≠ j) {P : yPs} : gKp P (gOnc s j P) := fun q => by
  have q2 : (if P.2.2.2.1 j = 0 then gStp P else gErr s (-2) P).2.1 = 0 := q
  split at q2
  · rename_i h
    refine ⟨q2, ?_⟩
    show upd (if P.2.2.2.1 j = 0 then gStp P else gErr s (-2) P).2.2.2.1 j 1 2002 = _
    rw [upd_ne9 hj, if_pos h]; rfl
  · exact absurd q2 (gErr_e (by decide))
theorem gKp_prt {k v s : Nat → Int32} {P : yPs} : gKp P (gPrt k v s P) := ((gKp_onc (by decide)).tr (gKp_nu2 (by decide))).tr (gKp_nu2 (by decide))
theorem gKp_fee {k v s : Nat → Int32} {P : yPs} : gKp P (gFee k v s P) := ((gKp_onc (by decide)).tr (gKp_nu2 (by decide))).tr (gKp_nu2 (by decide))
theorem gKp_lim {k v s : Nat → Int32} {P : yPs} : gKp P (gLim k v s P) := (gKp_onc (by decide)).tr (gKp_nu2 (by decide))
theorem gKp_cod {k v s : Nat → Int32} {nr j : Nat} (hj : 2002 ≠ j) {P : yPs} : gKp P (gCod k v s nr j P) := by
  unfold gCod
  split
  · exact gKp_err (by decide)
  · exact gKp_nu2 hj
theorem gKp_nee {k v s : Nat → Int32} {j : Nat} (hj : 2002 ≠ j) {P : yPs} : gKp P (gNee k v s j P) := fun q => ⟨gNee_e q, gNee_dr hj⟩
theorem gKp_rea {k v s : Nat → Int32} {nr : Nat} (hn : nr ≤ 8) {P : yPs} : gKp P (gRea k v s nr P) := by
  unfold gRea
  split
  · exact gKp_err (by decide)
  · exact (((((((gKp_stp.tr (gKp_cod (by omega))).tr (gKp_nu2 (by omega))).tr (gKp_nu2 (by omega))).tr (gKp_nu2 (by omega))).tr (gKp_nu2 (by omega))).tr (gKp_put (by omega))).tr (gKp_nee (by omega))).tr (gKp_put (by omega))
theorem gLop_d {k : Nat → Int32} {a b x y : Int32} {sub : yPs → yPs} (hs : ∀ P, (sub P).2.2.2.1 = P.2.2.2.1) : ∀ f P, (gLop k a b x y sub f P).2.2.2.1 = P.2.2.2.1
  | 0, P => rfl
  | f + 1, P => by
    unfold gLop
    split
    · rw [gLop_d hs f]; exact hs (gStp P)
    · rfl
theorem gFac_d {k v s : Nat → Int32} {par : yPs → yPs} (hp : ∀ P, (par P).2.2.2.1 = P.2.2.2.1) (P : yPs) : (gFac k v s par P).2.2.2.1 = P.2.2.2.1 := by
  unfold gFac
  split
  · rfl
  · split
    · show (gNum k v s 0 9999 P).2.2.2.2.1 = _; rw [gNum_d]
    · split
      · rfl
      · split
        · rfl
        · split
          · rfl
          · split
            · rfl
            · split
              · exact hp P
              · rw [gErr_d]
theorem gTer_d {k v s : Nat → Int32} {par : yPs → yPs} (hp : ∀ P, (par P).2.2.2.1 = P.2.2.2.1) {f : Nat} (P : yPs) : (gTer k v s par f P).2.2.2.1 = P.2.2.2.1 := by
  rw [gTer, gLop_d (gFac_d hp), gFac_d hp]
theorem gSum_d {k v s : Nat → Int32} {par : yPs → yPs} (hp : ∀ P, (par P).2.2.2.1 = P.2.2.2.1) {f : Nat} (P : yPs) : (gSum k v s par f P).2.2.2.1 = P.2.2.2.1 := by
  rw [gSum, gLop_d (gTer_d hp), gTer_d hp]
theorem gTak_d {k s : Nat → Int32} {c : Int32} {P : yPs} : (gTak k s c P).2.2.2 = P.2.2.2 := by
  unfold gTak
  split
  · split
    · rfl
    · rw [gErr_d]
  · rfl
theorem gPar_d {k v s : Nat → Int32} {f : Nat} : ∀ d P, (gPar k v s f d P).2.2.2.1 = P.2.2.2.1
  | 0, P => by show (gErr s (-5) P).2.2.2.1 = _; rw [gErr_d]
  | d + 1, P => by show (gTak k s 41 _).2.2.2.1 = _; rw [gTak_d, gSum_d (gPar_d d)]; rfl
theorem gSco_d {k v s : Nat → Int32} {f : Nat} {P : yPs} : (gSco k v s f P).2.2.2.1 2002 = 1 := by
  rw [gSco, gSum_d (gPar_d 4)]
  rfl
/-- what readAll leaves: from r on rows that stand for the end of the grammar -/
def raQ (sh : yS) (I : yI) (L : yL) (r b m cnt : Nat) (k v s : Nat → Int32) (P : yPs) : Option Value → Nat → yS → yI → yL → Prop := fun v9 n2 sh2 I2 L2 => v9 = none ∧ (∀ a, a < r → sh2 a = sh a ∧ I2 a = I a ∧ L2 a = L a) ∧ yPx k sh2 r b m cnt ∧ ∃ fr fm k9 w9 I3 Z2, I2 = sR 18 I3 r Z2 ∧ rcP k v s cnt fr fm Z2 (gAll k v s cnt cnt P) ∧ yPh r cnt n2 sh2 k9 w9 fr fm (gAll k v s cnt cnt P)
theorem raE {sh sh2 : yS} {I I3 : yI} {L L2 : yL} {r b m cnt n2 k9 w9 fr fm : Nat} {k v s : Nat → Int32} {Z : yI} {P P2 : yPs} (h1 : ∀ a, a < r → sh2 a = sh a ∧ I3 a = I a ∧ L2 a = L a) (hX : yPx k sh2 r b m cnt) (h2 : rcP k v s cnt fr fm Z P2) (h3 : yPh r cnt n2 sh2 k9 w9 fr fm P2) (e : P2 = gAll k v s cnt cnt P) : (raQ sh I L r b m cnt k v s P) none n2 sh2 (sR 18 I3 r Z) L2 := by
  subst e
  exact ⟨rfl, fun a ha => ⟨(h1 a ha).1, by rw [sR_out (by omega)]; exact (h1 a ha).2.1, (h1 a ha).2.2⟩, hX, fr, fm, k9, w9, I3, Z, rfl, h2, h3⟩
set_option maxRecDepth 100000 in
set_option maxHeartbeats 4000000 in
theorem c_readAll_loop (X : yX) (D : yD) (z : Nat) {sh : yS} {I : yI} {L : yL} {r b m cnt : Nat} {k v s : Nat → Int32} {P : yPs} (hb : b < r) (hc9 : cnt ≤ 901) (hC : yC X D z cX5_readAll RX5 2 23) (hr : (ymeth X).sig.returnType = none) (hRc : (yR X).cells = 6) (hRs : (yR X).slots = cnt + 14 + (cnt + 14)) : ∀ (f9 j : Nat) (n2 : Nat) (sh2 : yS) (I3 : yI) (L2 : yL) (k9 w9 fr fm : Nat) (Z : yI) (P2 : yPs), j + f9 = cnt → ((∀ a, a < r → sh2 a = sh a ∧ I3 a = I a ∧ L2 a = L a) ∧ yPx k sh2 r b m cnt ∧ rcP k v s cnt fr fm Z P2 ∧ yPh r cnt n2 sh2 k9 w9 fr fm P2 ∧ (k9 ≤ 6 ∧ w9 ≤ cnt + 14 + (cnt + 14)) ∧ (fr = 6 ∨ fr = 15)) → gAll k v s cnt f9 P2 = gAll k v s cnt cnt P → Y X D z 2 n2 sh2 (sR 18 I3 r Z) L2 k9 w9 (yEnd X D z (raQ sh I L r b m cnt k v s P) yno 6 (cnt + 14 + (cnt + 14))) 9 [some (.ref r), some (.int (nI j))] [] := by
  intro f9
  induction f9 with
  | zero =>
    intro j n2 sh2 I3 L2 k9 w9 fr fm Z P2 hm hi hR
    have hX2 := hi.2.1
    have hkw := hi.2.2.2.2.1
    have hfr := hi.2.2.2.2.2
    refine y_iload_n hC dX5_readAll_9 rfl ?_
    refine y_aload_n hC dX5_readAll_10 rfl ?_
    refine y_getR hC (yP_o hX2.1) (yP_r0 hX2.1) f_X5_9 rfl dX5_readAll_11 ?_
    refine y_getIK (w9 := 18) (r := 1) hC (by decide) (yP_t hX2.1) f_X5_27 rfl dX5_readAll_14 ?_
    rw [hi.2.2.1.1.1.2.2.2]
    refine y_icmp_ge (tgt := 129) hC dX5_readAll_17 (by decide) (fun c17 => ?_) (fun c17 => absurd (nI_le (by omega) (by omega)) c17)
    exact y_vret hC hr hkw.1 hkw.2 dX5_readAll_129 (by first | exact raE hi.1 hi.2.1 hi.2.2.1 hi.2.2.2.1 (by rw [← hR, gAll, if_neg (fun q => c24 q.1)]) | exact raE hi.1 hi.2.1 hi.2.2.1 hi.2.2.2.1 (by rw [← hR, gAll, if_neg (fun q => q.2 c32)]) | exact raE hi.1 hi.2.1 hi.2.2.1 hi.2.2.2.1 (by rw [← hR]; rfl))
  | succ f9 ih =>
    intro j
    have tl : ∀ (n2 : Nat) (sh2 : yS) (I3 : yI) (L2 : yL) (k9 w9 fr fm : Nat) (Z : yI) (P2 : yPs), ((∀ a, a < r → sh2 a = sh a ∧ I3 a = I a ∧ L2 a = L a) ∧ yPx k sh2 r b m cnt ∧ rcP k v s cnt fr fm Z P2 ∧ yPh r cnt n2 sh2 k9 w9 fr fm P2 ∧ (k9 ≤ 6 ∧ w9 ≤ cnt + 14 + (cnt + 14)) ∧ (fr = 6 ∨ fr = 15)) → gAll k v s cnt f9 (gTak k s 59 P2) = gAll k v s cnt cnt P → j + (f9 + 1) = cnt → Y X D z 2 n2 sh2 (sR 18 I3 r Z) L2 k9 w9 (yEnd X D z (raQ sh I L r b m cnt k v s P) yno 6 (cnt + 14 + (cnt + 14))) 117 [some (.ref r), some (.int (nI j))] [] := by
      intro n2 sh2 I3 L2 k9 w9 fr fm Z P2 hi hR hm
      have hX2 := hi.2.1
      have hkw := hi.2.2.2.2.1
      have hfr := hi.2.2.2.2.2
      refine y_aload_n hC dX5_readAll_117 rfl ?_
      refine y_bipush (v := 59) hC dX5_readAll_118 (by decide) ?_
      refine y_callZ hC (p_take X.2.1 D z hX2 hi.2.2.1 (by omega) (by decide)) m_X5_58 rfl (yP_o hX2.1) (by decide) (Nat.le_of_ble_eq_true rfl) (by rw [hRc]; exact hkw.1) (by rw [hRs]; exact hkw.2) dX5_readAll_120 (fun Z1 g1 => ?_)
      refine y_iincN hC dX5_readAll_123 rfl rfl (by decide) rfl ?_
      refine y_goto (tgt := 9) hC dX5_readAll_126 (by decide) ?_
      exact ih (j + 1) _ sh2 I3 L2 _ _ fr fm Z1 _ (by omega) ⟨hi.1, hX2, g1, hi.2.2.2.1.mv gKp_tak, hkw, hfr⟩ hR
    intro n2 sh2 I3 L2 k9 w9 fr fm Z P2 hm hi hR
    have tl := fun n2 sh2 I3 L2 k9 w9 fr fm Z P2 a b => tl n2 sh2 I3 L2 k9 w9 fr fm Z P2 a b hm
    have hX2 := hi.2.1
    have hkw := hi.2.2.2.2.1
    have hfr := hi.2.2.2.2.2
    refine y_iload_n hC dX5_readAll_9 rfl ?_
    refine y_aload_n hC dX5_readAll_10 rfl ?_
    refine y_getR hC (yP_o hX2.1) (yP_r0 hX2.1) f_X5_9 rfl dX5_readAll_11 ?_
    refine y_getIK (w9 := 18) (r := 1) hC (by decide) (yP_t hX2.1) f_X5_27 rfl dX5_readAll_14 ?_
    rw [hi.2.2.1.1.1.2.2.2]
    refine y_icmp_ge (tgt := 129) hC dX5_readAll_17 (by decide) (fun c17 => absurd c17 (nI_ge (by omega) (by omega))) (fun c17 => ?_)
    refine y_aload_n hC dX5_readAll_20 rfl ?_
    refine y_callV1 hC (p_isFine X.2.1 D z hX2 hi.2.2.1) m_X5_31 rfl (yP_o hX2.1) (by decide) (Nat.le_of_ble_eq_true rfl) (by rw [hRc]; exact hkw.1) (by rw [hRs]; exact hkw.2) dX5_readAll_21 ?_
    refine y_if_eqB (tgt := 129) hC dX5_readAll_24 (by decide) (fun c24 => ?_) (fun c24 => ?_)
    · exact y_vret hC hr hkw.1 hkw.2 dX5_readAll_129 (by first | exact raE hi.1 hi.2.1 hi.2.2.1 hi.2.2.2.1 (by rw [← hR, gAll, if_neg (fun q => c24 q.1)]) | exact raE hi.1 hi.2.1 hi.2.2.1 hi.2.2.2.1 (by rw [← hR, gAll, if_neg (fun q => q.2 c32)]) | exact raE hi.1 hi.2.1 hi.2.2.1 hi.2.2.2.1 (by rw [← hR]; rfl))
    · refine y_aload_n hC dX5_readAll_27 rfl ?_
      refine y_callV1 hC (p_kind X.2.1 D z hX2 hi.2.2.1) m_X5_35 rfl (yP_o hX2.1) (by decide) (Nat.le_of_ble_eq_true rfl) (by rw [hRc]; exact hkw.1) (by rw [hRs]; exact hkw.2) dX5_readAll_28 ?_
      refine y_iconst (v := (-1)) hC dX5_readAll_31 (by decide) ?_
      refine y_icmp_eq (tgt := 129) hC dX5_readAll_32 (by decide) (fun c32 => ?_) (fun c32 => ?_)
      · exact y_vret hC hr hkw.1 hkw.2 dX5_readAll_129 (by first | exact raE hi.1 hi.2.1 hi.2.2.1 hi.2.2.2.1 (by rw [← hR, gAll, if_neg (fun q => c24 q.1)]) | exact raE hi.1 hi.2.1 hi.2.2.1 hi.2.2.2.1 (by rw [← hR, gAll, if_neg (fun q => q.2 c32)]) | exact raE hi.1 hi.2.1 hi.2.2.1 hi.2.2.2.1 (by rw [← hR]; rfl))
      · obtain ⟨fo, hT2⟩ : ∃ fo, ySet sh2 (r + 5) fo := by
          rcases hi.2.2.2.1 with ⟨-, -, -, -, -, t6, -, -⟩ | ⟨-, -, -, -, -, t6, -, -⟩ | ⟨-, -, -, -, -, a6⟩
          · exact ⟨_, t6⟩
          · exact ⟨_, t6⟩
          · exact absurd c24 a6
        refine y_aload_n hC dX5_readAll_35 rfl ?_
        refine y_callV1 hC (p_kind X.2.1 D z hX2 hi.2.2.1) m_X5_35 rfl (yP_o hX2.1) (by decide) (Nat.le_of_ble_eq_true rfl) (by rw [hRc]; exact hkw.1) (by rw [hRs]; exact hkw.2) dX5_readAll_36 ?_
        by_cases e39_0 : (k P2.1) = 257
        · refine y_tableIn (tgt := 76) hC dX5_readAll_39 (by rw [e39_0]; decide) (by rw [e39_0]; decide) (by rw [e39_0]; rfl) (by decide) ?_
          refine y_aload_n hC dX5_readAll_76 rfl ?_
          refine y_callZ hC (c_X5_readParties X.2.1 D z hX2 hfr hT2 hi.2.2.1 c24 (by intro q; rw [e39_0] at q; exact absurd q (by decide))) m_X5_39 rfl (yP_o hX2.1) (by decide) (Nat.le_of_ble_eq_true rfl) (by rw [hRc]; exact hkw.1) (by rw [hRs]; exact hkw.2) dX5_readAll_77 (fun Z4 g4 => ?_)
          refine y_goto (tgt := 117) hC dX5_readAll_80 (by decide) ?_
          exact tl _ sh2 I3 L2 _ _ fr fm Z4 _ ⟨hi.1, hX2, g4, hi.2.2.2.1.mv gKp_prt, hkw, hfr⟩ (by rw [← hR, gAll, if_pos ⟨c24, c32⟩, gSta, if_pos e39_0])
        by_cases e39_1 : (k P2.1) = 258
        · refine y_tableIn (tgt := 83) hC dX5_readAll_39 (by rw [e39_1]; decide) (by rw [e39_1]; decide) (by rw [e39_1]; rfl) (by decide) ?_
          refine y_aload_n hC dX5_readAll_83 rfl ?_
          obtain ⟨nr, hr8, hzn, hd2⟩ := hi.2.2.1.1.2.2.2.2.1
          have htn : tn (P2.2.2.2.1 2) = nr := by rw [hd2, tn_nI (by omega)]
          refine y_callZ hC (c_X5_readReason X.2.1 D z hX2 hfr hT2 hi.2.2.1 c24 e39_1 hr8 hzn hd2) m_X5_42 rfl (yP_o hX2.1) (by decide) (Nat.le_of_ble_eq_true rfl) (by rw [hRc]; exact hkw.1) (by rw [hRs]; exact hkw.2) dX5_readAll_84 (fun Z4 g4 => ?_)
          refine y_goto (tgt := 117) hC dX5_readAll_87 (by decide) ?_
          exact tl _ sh2 I3 L2 _ _ fr fm Z4 _ ⟨hi.1, hX2, g4, hi.2.2.2.1.mv (gKp_rea hr8), hkw, hfr⟩ (by rw [← hR, gAll, if_pos ⟨c24, c32⟩, gSta, if_neg (by rw [e39_1]; decide), if_pos e39_1, htn])
        by_cases e39_2 : (k P2.1) = 259
        · refine y_tableIn (tgt := 111) hC dX5_readAll_39 (by rw [e39_2]; decide) (by rw [e39_2]; decide) (by rw [e39_2]; rfl) (by decide) ?_
          refine y_aload_n hC dX5_readAll_111 rfl ?_
          refine y_bipush (v := (-2)) hC dX5_readAll_112 (by decide) ?_
          refine y_callZ hC (p_fail X.2.1 D z hX2 hi.2.2.1 (by omega) (by decide)) m_X5_54 rfl (yP_o hX2.1) (by decide) (Nat.le_of_ble_eq_true rfl) (by rw [hRc]; exact hkw.1) (by rw [hRs]; exact hkw.2) dX5_readAll_114 (fun Z4 g4 => ?_)
          exact tl _ sh2 I3 L2 _ _ fr fm Z4 _ ⟨hi.1, hX2, g4, hi.2.2.2.1.mv (gKp_err (by decide)), hkw, hfr⟩ (by rw [← hR, gAll, if_pos ⟨c24, c32⟩, gSta, if_neg e39_0, if_neg e39_1, if_neg (by first | exact e39_3 | (rw [e39_2]; decide)), if_neg (by first | exact e39_4 | (rw [e39_2]; decide)), if_neg (by first | exact e39_5 | (rw [e39_2]; decide))])
        by_cases e39_3 : (k P2.1) = 260
        · refine y_tableIn (tgt := 90) hC dX5_readAll_39 (by rw [e39_3]; decide) (by rw [e39_3]; decide) (by rw [e39_3]; rfl) (by decide) ?_
          refine y_aload_n hC dX5_readAll_90 rfl ?_
          refine y_callZ hC (c_X5_readFees X.2.1 D z hX2 hfr hT2 hi.2.2.1 c24 (by intro q; rw [e39_3] at q; exact absurd q (by decide))) m_X5_45 rfl (yP_o hX2.1) (by decide) (Nat.le_of_ble_eq_true rfl) (by rw [hRc]; exact hkw.1) (by rw [hRs]; exact hkw.2) dX5_readAll_91 (fun Z4 g4 => ?_)
          refine y_goto (tgt := 117) hC dX5_readAll_94 (by decide) ?_
          exact tl _ sh2 I3 L2 _ _ fr fm Z4 _ ⟨hi.1, hX2, g4, hi.2.2.2.1.mv gKp_fee, hkw, hfr⟩ (by rw [← hR, gAll, if_pos ⟨c24, c32⟩, gSta, if_neg (by rw [e39_3]; decide), if_neg (by rw [e39_3]; decide), if_pos e39_3])
        by_cases e39_4 : (k P2.1) = 261
        · refine y_tableIn (tgt := 97) hC dX5_readAll_39 (by rw [e39_4]; decide) (by rw [e39_4]; decide) (by rw [e39_4]; rfl) (by decide) ?_
          refine y_aload_n hC dX5_readAll_97 rfl ?_
          rcases hi.2.2.2.1 with ⟨rfl, rfl, rfl, rfl, rfl, t6, t7, t8⟩ | ⟨rfl, rfl, rfl, rfl, rfl, t6, t7, t8⟩ | ⟨a1, a2, a3, a4, a5, a6⟩
          · refine y_callV hC (c_X5_readScoreA X.2.1 D z hX2 t6 hb hc9 hi.2.2.1 c24 e39_4 (t8 c24)) m_X5_48 rfl (yP_o hX2.1) (by decide) (Nat.le_of_ble_eq_true rfl) ⟨(by rw [hRc]; decide), (by rw [hRs]; omega)⟩ dX5_readAll_98 (fun _ _ _ _ _ h => h.elim) (fun v9 n9 sh9 I9 L9 hq9 => ?_)
            obtain ⟨rfl, rfl, u1, u2, u3, ⟨u4, u5, u6⟩, I4, Z4, rfl, u7⟩ := hq9
            refine y_goto (tgt := 117) hC dX5_readAll_101 (by decide) ?_
            exact tl _ sh9 I4 L9 _ _ 15 _ Z4 _ ⟨fun a ha => ⟨(u4 a ha).trans (hi.1 a ha).1, by have := u5 a ha; rw [sR_out (by omega)] at this; exact this.trans (hi.1 a ha).2.1, (u6 a ha).trans (hi.1 a ha).2.2⟩, u1, u7, Or.inr (Or.inl ⟨rfl, rfl, rfl, rfl, by omega, u2, u3, fun _ => by rw [gSco_d]; decide⟩), by omega, Or.inr rfl⟩ (by rw [← hR, gAll, if_pos ⟨c24, c32⟩, gSta, if_neg (by rw [e39_4]; decide), if_neg (by rw [e39_4]; decide), if_neg (by rw [e39_4]; decide), if_pos e39_4])
          · refine y_callV hC (c_X5_readScoreB X.2.1 D z hX2 t6 hb hc9 hi.2.2.1 c24 e39_4 (t8 c24)) m_X5_48 rfl (yP_o hX2.1) (by decide) (Nat.le_of_ble_eq_true rfl) ⟨(by rw [hRc]; decide), (by rw [hRs]; omega)⟩ dX5_readAll_98 (fun _ _ _ _ _ h => h.elim) (fun v9 n9 sh9 I9 L9 hq9 => ?_)
            obtain ⟨rfl, rfl, u1, ⟨u4, u5, u6⟩, I4, Z4, rfl, u7, u8⟩ := hq9
            refine y_goto (tgt := 117) hC dX5_readAll_101 (by decide) ?_
            exact tl _ sh9 I4 L9 _ _ 15 _ Z4 _ ⟨fun a ha => ⟨(u4 a ha).trans (hi.1 a ha).1, by have := u5 a ha; rw [sR_out (by omega)] at this; exact this.trans (hi.1 a ha).2.1, (u6 a ha).trans (hi.1 a ha).2.2⟩, u1, u7, Or.inr (Or.inr ⟨rfl, rfl, rfl, rfl, rfl, u8⟩), by omega, Or.inr rfl⟩ (by rw [← hR, gAll, if_pos ⟨c24, c32⟩, gSta, if_neg (by rw [e39_4]; decide), if_neg (by rw [e39_4]; decide), if_neg (by rw [e39_4]; decide), if_pos e39_4])
          · exact absurd c24 a6
        by_cases e39_5 : (k P2.1) = 262
        · refine y_tableIn (tgt := 104) hC dX5_readAll_39 (by rw [e39_5]; decide) (by rw [e39_5]; decide) (by rw [e39_5]; rfl) (by decide) ?_
          refine y_aload_n hC dX5_readAll_104 rfl ?_
          refine y_callZ hC (c_X5_readLimit X.2.1 D z hX2 hfr hT2 hi.2.2.1 c24 (by intro q; rw [e39_5] at q; exact absurd q (by decide))) m_X5_51 rfl (yP_o hX2.1) (by decide) (Nat.le_of_ble_eq_true rfl) (by rw [hRc]; exact hkw.1) (by rw [hRs]; exact hkw.2) dX5_readAll_105 (fun Z4 g4 => ?_)
          refine y_goto (tgt := 117) hC dX5_readAll_108 (by decide) ?_
          exact tl _ sh2 I3 L2 _ _ fr fm Z4 _ ⟨hi.1, hX2, g4, hi.2.2.2.1.mv gKp_lim, hkw, hfr⟩ (by rw [← hR, gAll, if_pos ⟨c24, c32⟩, gSta, if_neg (by rw [e39_5]; decide), if_neg (by rw [e39_5]; decide), if_neg (by rw [e39_5]; decide), if_neg (by rw [e39_5]; decide), if_pos e39_5])
        have hout39 : (k P2.1).toInt < 257 ∨ 262 < (k P2.1).toInt := by
          refine ts_out (fun v g1 g2 => ?_)
          rcases (show v = 257 ∨ v = 258 ∨ v = 259 ∨ v = 260 ∨ v = 261 ∨ v = 262 by omega) with rfl | rfl | rfl | rfl | rfl | rfl
          · exact fun q => e39_0 (Int32.toInt_inj.mp (q.trans (by decide)))
          · exact fun q => e39_1 (Int32.toInt_inj.mp (q.trans (by decide)))
          · exact fun q => e39_2 (Int32.toInt_inj.mp (q.trans (by decide)))
          · exact fun q => e39_3 (Int32.toInt_inj.mp (q.trans (by decide)))
          · exact fun q => e39_4 (Int32.toInt_inj.mp (q.trans (by decide)))
          · exact fun q => e39_5 (Int32.toInt_inj.mp (q.trans (by decide)))
        refine y_tableOut (tgt := 111) hC dX5_readAll_39 hout39 (by decide) ?_
        refine y_aload_n hC dX5_readAll_111 rfl ?_
        refine y_bipush (v := (-2)) hC dX5_readAll_112 (by decide) ?_
        refine y_callZ hC (p_fail X.2.1 D z hX2 hi.2.2.1 (by omega) (by decide)) m_X5_54 rfl (yP_o hX2.1) (by decide) (Nat.le_of_ble_eq_true rfl) (by rw [hRc]; exact hkw.1) (by rw [hRs]; exact hkw.2) dX5_readAll_114 (fun Z4 g4 => ?_)
        exact tl _ sh2 I3 L2 _ _ fr fm Z4 _ ⟨hi.1, hX2, g4, hi.2.2.2.1.mv (gKp_err (by decide)), hkw, hfr⟩ (by rw [← hR, gAll, if_pos ⟨c24, c32⟩, gSta, if_neg e39_0, if_neg e39_1, if_neg (by first | exact e39_3 | (rw [e39_2]; decide)), if_neg (by first | exact e39_4 | (rw [e39_2]; decide)), if_neg (by first | exact e39_5 | (rw [e39_2]; decide))])
