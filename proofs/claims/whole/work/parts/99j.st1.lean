theorem yMH.imp {l : Launch} {D : yD} {z : Nat} {y : MethodName} {cc : ByteArray} {nL : Nat} {ret : Option FieldType} {hh : List (Nat × Nat × Nat × Nat)} {dep mc ms : Nat} {av : List Value} {n : Nat} {sh : yS} {I : yI} {L : yL} {Qr Qr2 : Option Value → Nat → yS → yI → yL → Prop} (h : yMH l D z y cc nL ret hh dep mc ms av n sh I L Qr) (hr : ∀ v n sh I L, Qr v n sh I L → Qr2 v n sh I L) : yMH l D z y cc nL ret hh dep mc ms av n sh I L Qr2 := by
  intro hst p e ha hf hc s m args below h1 h2 h3 h4
  obtain ⟨n9, o, g1, g2, g3, g4⟩ := h hst p e ha hf hc s m args below h1 h2 h3 h4
  refine ⟨n9, o, g1, g2, g3, ?_⟩
  rcases g4 with ⟨⟨v, n, sh, I, L, e1, e2, e3, e4⟩, r⟩ | ⟨q, e0, E, ce, Ls, ⟨n, sh, I, L, e1, e2, e3⟩, r⟩
  · exact Or.inl ⟨⟨v, n, sh, I, L, e1, hr _ _ _ _ _ e2, e3, e4⟩, r⟩
  · exact e1.elim
/-- the end of a call that may throw: k is the wrapper's answer -/
def lfQ (c : Nat) (cv : Int32 → Int64) (k : Int32) : Option Value → Nat → yS → yI → yL → Prop := fun v n3 sh3 I3 L3 => ∃ b, v = some (.int b) ∧ I3 (c + 141) 0 = k ∧ (k = 0 → L3 (c + 156) 0 = cv b) ∧ lA c n3 sh3 I3
/-- the end of a call that never throws -/
def lpQ (c : Nat) (r : Value) : Option Value → Nat → yS → yI → yL → Prop := fun v n3 sh3 I3 _ => v = some r ∧ lA c n3 sh3 I3
theorem lA.s {c n : Nat} {sh : yS} {I : yI} (h : lA c n sh I) : lS c sh := by
  obtain ⟨_, _, _, h⟩ := h
  exact h.2.1
theorem up2_ne {M : yI} {r j b : Nat} {x : Int32} (h : b ≠ j) : up2 M r j x r b = M r b := by
  unfold up2
  rw [va_up_self]
  exact upd_ne9 h
theorem up2L_at {L : yL} {a : Nat} {x : Int64} : up2L L a 0 x a 0 = x := by
  unfold up2L
  rw [va_up_self]
  simp [vp_updL]
theorem sR_m0 {I : yI} {q : Nat} {x : Int32} : sR 15 I q (up2 (gR I q) 0 0 x) = up2 I q 0 x := by rw [← sR_up0 (by decide), sR_get]
section ST
variable {c n n2 : Nat} {sh : yS} {I I2 : yI} {L L2 : yL} {at0 u bl f m : Nat}
/-- the model only set thrown -/
theorem st_c (hL2 : LI c n2 sh I2 at0 u bl) (hF : yFor sh f m) (hf : f = c + 5 ∨ c + 157 ≤ f) {mo : Int32 × Int32} {v3 : Option Value} {n3 : Nat} {sh3 : yS} {I3 : yI} {L3 : yL} (hq : yMo mo n2 sh I2 (c + 141) (gR I2 (c + 141)) L2 v3 n3 sh3 I3 L3) : v3 = some (.int mo.2) ∧ I3 (c + 141) 0 = mo.1 ∧ L3 (c + 156) = L2 (c + 156) ∧ lA c n3 sh3 I3 := by
  obtain ⟨rfl, rfl, rfl, rfl, S, rfl⟩ := hq
  rw [sR_m0]
  refine ⟨rfl, up2_at, va_up_c _ _ _ _ (by omega), at0, u, bl, ?_⟩
  exact hL2.keep (Nat.le_refl _) (fun _ _ => rfl) hF hf (fun a _ _ x _ _ => up2_r x) (fun j hj => up2_ne (by omega))
/-- only the formula's stack has changed -/
theorem st_k (hL : LI c n sh I at0 u bl) (hF : yFor sh f m) (hf : f = c + 5 ∨ c + 157 ≤ f) (hn : n ≤ n2) (hI : ∀ a, a ≠ f + 2 → I2 a = I a) : LI c n2 sh I2 at0 u bl ∧ I2 (c + 143) = I (c + 143) := ⟨hL.keep hn (fun _ _ => rfl) hF hf (fun a _ x _ _ _ => hI a x) (fun j _ => by rw [hI (c + 141) (by omega)]), hI _ (by omega)⟩
theorem sR_scr {i : Nat} {J : yI} {f : Nat} (h : yScr f I J) : ∀ a, a ≠ f + 2 → sR 14 J i (gR I i) a = I a := fun a ha => by
  obtain ⟨g, rfl⟩ := h
  unfold sR
  split
  · rename_i q
    show I (i + (a - i)) = I a
    rw [show i + (a - i) = a by omega]
  · exact va_up_c _ _ _ _ ha
/-- a getter that may throw -/
theorem st_G (hL : LI c n sh I at0 u bl) (hF : yFor sh f m) (hf : f = c + 5 ∨ c + 157 ≤ f) {i : Nat} {o : yRes} {ec : String → Int32} {cv : Int32 → Int64} {v : Option Value} {sh2 : yS} (hq : lwQ ec cv (c + 156) (yOr o n sh I f i (gR I i) L) (yOx o n sh I i (gR I i) L) v n2 sh2 I2 L2) : ∃ k, v = some (.int k) ∧ sh2 = sh ∧ LI c n2 sh I2 at0 u bl ∧ I2 (c + 143) = I (c + 143) ∧ ∀ mo, rl ec o mo → mo.1 = k ∧ (k = 0 → L2 (c + 156) 0 = cv mo.2) := by
  rcases hq with ⟨r, L1, rfl, rfl, r', ho, hv, rfl, rfl, ⟨J, hJ, rfl⟩, rfl⟩ | ⟨E, rfl, ho, hn, rfl, rfl, rfl⟩
  · have hrr : r = r' := Value.int.inj (Option.some.inj hv)
    subst hrr
    obtain ⟨k1, k2⟩ := st_k hL hF hf (Nat.le_refl _) (sR_scr hJ)
    refine ⟨0, rfl, rfl, k1, k2, fun mo hm => ?_⟩
    rcases hm with ⟨r2, h1, rfl⟩ | ⟨E, h1, -⟩
    · rw [ho] at h1
      cases h1
      exact ⟨rfl, fun _ => up2L_at⟩
    · rw [ho] at h1; cases h1
  · obtain ⟨k1, k2⟩ := st_k hL hF hf hn (sR_scr (i := i) (yScr.rf (f := f) (I := I)))
    refine ⟨ec E, rfl, rfl, k1, k2, fun mo hm => ?_⟩
    rcases hm with ⟨r2, h1, -⟩ | ⟨E2, h1, rfl, h3⟩
    · rw [ho] at h1; cases h1
    · rw [ho] at h1
      cases h1
      exact ⟨rfl, fun q => absurd q h3⟩
theorem st_Gf (hL2 : LI c n2 sh I2 at0 u bl) (hF : yFor sh f m) (hf : f = c + 5 ∨ c + 157 ≤ f) {mo : Int32 × Int32} {k : Int32} {cv : Int32 → Int64} (hm : mo.1 = k ∧ (k = 0 → L2 (c + 156) 0 = cv mo.2)) {v3 : Option Value} {n3 : Nat} {sh3 : yS} {I3 : yI} {L3 : yL} (hq : yMo mo n2 sh I2 (c + 141) (gR I2 (c + 141)) L2 v3 n3 sh3 I3 L3) : lfQ c cv k v3 n3 sh3 I3 L3 := by
  obtain ⟨a1, a2, a3, a4⟩ := st_c hL2 hF hf hq
  exact ⟨mo.2, a1, a2.trans hm.1, fun q => by rw [a3]; exact hm.2 q, a4⟩
/-- a getter that never throws -/
theorem st_P (hL : LI c n sh I at0 u bl) (hF : yFor sh f m) (hf : f = c + 5 ∨ c + 157 ≤ f) {i : Nat} {r : Int32} {v : Option Value} {sh2 : yS} (hq : yOr (.ok r) n sh I f i (gR I i) L v n2 sh2 I2 L2) : v = some (.int r) ∧ sh2 = sh ∧ LI c n2 sh I2 at0 u bl ∧ I2 (c + 143) = I (c + 143) := by
  obtain ⟨r', ho, rfl, rfl, rfl, ⟨J, hJ, rfl⟩, rfl⟩ := hq
  cases ho
  obtain ⟨k1, k2⟩ := st_k hL hF hf (Nat.le_refl _) (sR_scr hJ)
  exact ⟨rfl, rfl, k1, k2⟩
theorem st_Pf (hL2 : LI c n2 sh I2 at0 u bl) (hF : yFor sh f m) (hf : f = c + 5 ∨ c + 157 ≤ f) {r r2 : Int32} (hr : r = r2) {v3 : Option Value} {n3 : Nat} {sh3 : yS} {I3 : yI} {L3 : yL} (hq : yMo (0, r2) n2 sh I2 (c + 141) (gR I2 (c + 141)) L2 v3 n3 sh3 I3 L3) : lpQ c (.int r) v3 n3 sh3 I3 L3 := by
  obtain ⟨a1, -, -, a4⟩ := st_c hL2 hF hf hq
  exact ⟨by rw [a1, hr], a4⟩
/-- the present book -/
theorem LI.cur (hL : LI c n sh I at0 u bl) : ∃ su f m len it σ ni nm nr np nd cd, yPro sh I c at0 ∧ yBook sh (c + 15 + 14 * at0) su ∧ yEra sh I su f m len it σ ∧ eB σ (gR I (c + 15 + 14 * at0)) it len (I (c + 143)) ni nm nr np nd cd ∧ eT (I (c + 143)) nd ∧ yLoc c n su f := by
  obtain ⟨h0, hS, hV, hB⟩ := hL
  have h := hB 0 (Nat.zero_le _)
  rw [if_pos rfl, show (at0 + 9 - 0) % 9 = at0 by have := hV.1.1; omega] at h
  obtain ⟨su, f, m, len, it, σ, ni, nm, nr, np, nd, cd, h1, h2, h3, h4, h5⟩ := h
  exact ⟨su, f, m, len, it, σ, ni, nm, nr, np, nd, cd, ⟨hS.1, hS.2.1, hV.1.1, hV.1.2⟩, h1, h2, h3, h4, h5⟩
theorem yLoc.fo {su f : Nat} (h : yLoc c n su f) : f = c + 5 ∨ c + 157 ≤ f := by unfold yLoc at h; omega
end ST
theorem s15 : ∀ s, s ≤ 5 → ((nI s = 1 ∨ nI s = 5) ↔ (if s = 1 ∨ s = 5 then (1 : Int32) else 0) = 1) := by decide +kernel
theorem b2i_cg {p q : Prop} [Decidable p] [Decidable q] (h : p ↔ q) : b2i p = b2i q := by
  by_cases c : p
  · simp only [b2i, if_pos c, if_pos (h.mp c)]
  · simp only [b2i, if_neg c, if_neg (fun x => c (h.mpr x))]
/-- what the law's walk needs of a call that may throw -/
def lawT (D : yD) (z c : Nat) (cv : Int32 → Int64) (yl : MethodName) (cl : ByteArray) (nl : Nat) (hh : List (Nat × Nat × Nat × Nat)) (dl mc ms : Nat) (ym : MethodName) (cm : ByteArray) (nm : Nat) (rm : FieldType) (dm : Nat) (as : List Value) (n : Nat) (sh : yS) (I : yI) (L : yL) : Prop :=
  ∀ l, yMH l D z yl cl nl (some .int) hh dl mc ms (.ref c :: (as ++ [.ref (c + 156)])) n sh I L (fun v n2 sh2 I2 L2 => ∃ k, v = some (.int k) ∧ lS c sh2 ∧ ∀ l, yM l D z ym cm nm (some rm) dm 0 0 (.ref (c + 141) :: as) n2 sh2 I2 L2 (lfQ c cv k) yno)
/-- and of one that never throws -/
def lawP (D : yD) (z c : Nat) (yx : MethodName) (cx : ByteArray) (nx : Nat) (dx : Nat) (ym : MethodName) (cm : ByteArray) (nm : Nat) (dm : Nat) (rt : FieldType) (as : List Value) (n : Nat) (sh : yS) (I : yI) (L : yL) : Prop :=
  ∀ l, yM l D z yx cx nx (some rt) dx 0 0 (.ref c :: as) n sh I L (fun v n2 sh2 I2 L2 => ∃ r, v = some r ∧ (rt = .int → ∃ x, r = .int x) ∧ (rt = .long → ∃ x, r = .long x) ∧ lS c sh2 ∧ ∀ l, yM l D z ym cm nm (some rt) dm 0 0 (.ref (c + 141) :: as) n2 sh2 I2 L2 (lpQ c r) yno) yno
theorem oI_e {n : Nat} {x : Int32} {r : yRes} {E : String} (h : oI n x r = .error E) : E = "java/lang/IndexOutOfBoundsException" ∨ r = .error E := by
  unfold oI at h
  split at h
  · cases h; exact Or.inl rfl
  · exact Or.inr h
theorem oA_e {p : Prop} [Decidable p] {r : yRes} {E : String} (h : oA p r = .error E) : E = "java/lang/IllegalArgumentException" ∨ r = .error E := by
  unfold oA at h
  split at h
  · exact Or.inr h
  · cases h; exact Or.inl rfl
theorem oS_e {p : Prop} [Decidable p] {r : yRes} {E : String} (h : oS p r = .error E) : E = "java/lang/IllegalStateException" ∨ r = .error E := by
  unfold oS at h
  split at h
  · exact Or.inr h
  · cases h; exact Or.inl rfl
theorem ok_e {r : Int32} {E : String} (h : (Except.ok r : yRes) = .error E) : False := by cases h
theorem st_issuerAccount (D : yD) (z : Nat) {n : Nat} {sh : yS} {I : yI} {L : yL} {c : Nat} {x : Int32} (hA : lA c n sh I) : lawT D z c Int32.toInt64 yL_issuerAccount cL_issuerAccount 4 [(0, 9, 12, 18)] 9 1 6 yX8_issuerAccount cX8_issuerAccount 2 .int 2 [.int x] n sh I L := by
  obtain ⟨at0, u, bl, hL⟩ := hA
  obtain ⟨su, f, m, len, it, σ, ni, nm, nr, np, nd, cd, hP, hB, hE, hE1, hE2, hlc⟩ := hL.cur
  intro l
  refine (w_issuerAccount l D z (o := c + 156) (fun l => by
    have h := c_X7_issuerAccount l D z (n := n) (L := L) (B := gR I (c + 15 + 14 * at0)) hP hB hE hE1.val (x := x) (fun q => ⟨nI_tn q, tn_lt q⟩)
    rw [sR_get] at h; exact h) (yC_o hP.1) (fun v n2 sh2 I2 L2 q => ?_) (fun E n2 sh2 I2 L2 q => ?_)).imp (fun v n2 sh2 I2 L2 hq => ?_)
  · obtain ⟨r, -, rfl, -, rfl, -⟩ := q
    exact ⟨⟨r, rfl⟩, hL.2.1.2.2.2.2.1⟩
  · exact (oI_e q.1).elim id (fun w => (ok_e w).elim)
  · obtain ⟨k, rfl, rfl, hL2, hd, hm⟩ := st_G hL hE.2.1 hlc.fo hq
    refine ⟨k, rfl, hL2.2.1, fun l => ?_⟩
    have h2 : eB σ (gR I (c + 15 + 14 * at0)) it len (gR I2 (c + 141) 2) ni nm nr np nd cd := by rw [show gR I2 (c + 141) 2 = I (c + 143) from hd]; exact hE1
    obtain ⟨⟨-, e0, ni4⟩, ⟨-, e1, nm4⟩, ⟨-, e2, nr8⟩, ⟨-, e3, np24⟩, ⟨-, e4, nd20⟩⟩ := h2.1
    have h := c_X8_issuerAccount l D z (n := n2) (L := L2) (I := I2) (M := gR I2 (c + 141)) hL2.2.1.2.2.2.1 e0 ni4 (x := x) (fun q => ⟨nI_tn q, tn_lt q⟩)
    rw [sR_get] at h
    refine h.imp (fun v3 n3 sh3 I3 L3 h3 => st_Gf hL2 hE.2.1 hlc.fo (hm _ (rl_I rfl (fun hc => rl_ok (h2.2.2.1 (tn x) (by have := tn_lt hc; omega)).1))) h3) (fun _ _ _ _ _ w => w)
theorem st_merchantAccount (D : yD) (z : Nat) {n : Nat} {sh : yS} {I : yI} {L : yL} {c : Nat} {x : Int32} (hA : lA c n sh I) : lawT D z c Int32.toInt64 yL_merchantAccount cL_merchantAccount 4 [(0, 9, 12, 18)] 9 1 6 yX8_merchantAccount cX8_merchantAccount 2 .int 2 [.int x] n sh I L := by
  obtain ⟨at0, u, bl, hL⟩ := hA
  obtain ⟨su, f, m, len, it, σ, ni, nm, nr, np, nd, cd, hP, hB, hE, hE1, hE2, hlc⟩ := hL.cur
  intro l
  refine (w_merchantAccount l D z (o := c + 156) (fun l => by
    have h := c_X7_merchantAccount l D z (n := n) (L := L) (B := gR I (c + 15 + 14 * at0)) hP hB hE hE1.val (x := x) (fun q => ⟨nI_tn q, tn_lt q⟩)
    rw [sR_get] at h; exact h) (yC_o hP.1) (fun v n2 sh2 I2 L2 q => ?_) (fun E n2 sh2 I2 L2 q => ?_)).imp (fun v n2 sh2 I2 L2 hq => ?_)
  · obtain ⟨r, -, rfl, -, rfl, -⟩ := q
    exact ⟨⟨r, rfl⟩, hL.2.1.2.2.2.2.1⟩
  · exact (oI_e q.1).elim id (fun w => (ok_e w).elim)
  · obtain ⟨k, rfl, rfl, hL2, hd, hm⟩ := st_G hL hE.2.1 hlc.fo hq
    refine ⟨k, rfl, hL2.2.1, fun l => ?_⟩
    have h2 : eB σ (gR I (c + 15 + 14 * at0)) it len (gR I2 (c + 141) 2) ni nm nr np nd cd := by rw [show gR I2 (c + 141) 2 = I (c + 143) from hd]; exact hE1
    obtain ⟨⟨-, e0, ni4⟩, ⟨-, e1, nm4⟩, ⟨-, e2, nr8⟩, ⟨-, e3, np24⟩, ⟨-, e4, nd20⟩⟩ := h2.1
    have h := c_X8_merchantAccount l D z (n := n2) (L := L2) (I := I2) (M := gR I2 (c + 141)) hL2.2.1.2.2.2.1 e1 nm4 (x := x) (fun q => ⟨nI_tn q, tn_lt q⟩)
    rw [sR_get] at h
    refine h.imp (fun v3 n3 sh3 I3 L3 h3 => st_Gf hL2 hE.2.1 hlc.fo (hm _ (rl_I rfl (fun hc => rl_ok (h2.2.2.1 (tn x) (by have := tn_lt hc; omega)).2))) h3) (fun _ _ _ _ _ w => w)
theorem st_disputed (D : yD) (z : Nat) {n : Nat} {sh : yS} {I : yI} {L : yL} {c : Nat} {x : Int32} (hA : lA c n sh I) : lawT D z c Int32.toInt64 yL_disputed cL_disputed 4 [(0, 9, 12, 18)] 9 1 6 yX8_disputed cX8_disputed 2 .int 2 [.int x] n sh I L := by
  obtain ⟨at0, u, bl, hL⟩ := hA
  obtain ⟨su, f, m, len, it, σ, ni, nm, nr, np, nd, cd, hP, hB, hE, hE1, hE2, hlc⟩ := hL.cur
  intro l
  refine (w_disputed l D z (o := c + 156) (fun l => by
    have h := c_X7_disputed l D z (n := n) (L := L) (B := gR I (c + 15 + 14 * at0)) hP hB hE hE1.val (x := x) (fun q => ⟨nI_tn q, tn_lt q⟩)
    rw [sR_get] at h; exact h) (yC_o hP.1) (fun v n2 sh2 I2 L2 q => ?_) (fun E n2 sh2 I2 L2 q => ?_)).imp (fun v n2 sh2 I2 L2 hq => ?_)
  · obtain ⟨r, -, rfl, -, rfl, -⟩ := q
    exact ⟨⟨r, rfl⟩, hL.2.1.2.2.2.2.1⟩
  · exact (oI_e q.1).elim id (fun w => (ok_e w).elim)
  · obtain ⟨k, rfl, rfl, hL2, hd, hm⟩ := st_G hL hE.2.1 hlc.fo hq
    refine ⟨k, rfl, hL2.2.1, fun l => ?_⟩
    have h2 : eB σ (gR I (c + 15 + 14 * at0)) it len (gR I2 (c + 141) 2) ni nm nr np nd cd := by rw [show gR I2 (c + 141) 2 = I (c + 143) from hd]; exact hE1
    obtain ⟨⟨-, e0, ni4⟩, ⟨-, e1, nm4⟩, ⟨-, e2, nr8⟩, ⟨-, e3, np24⟩, ⟨-, e4, nd20⟩⟩ := h2.1
    have h := c_X8_disputed l D z (n := n2) (L := L2) (I := I2) (M := gR I2 (c + 141)) hL2.2.1.2.2.2.1 e4 nd20 e3 np24 (x := x) (fun q => ⟨nI_tn q, tn_lt q⟩)
    rw [sR_get] at h
    refine h.imp (fun v3 n3 sh3 I3 L3 h3 => st_Gf hL2 hE.2.1 hlc.fo (hm _ (rl_I rfl (fun hc => rl_ok (eq_dsp h2)))) h3) (fun _ _ _ _ _ w => w)
theorem st_state (D : yD) (z : Nat) {n : Nat} {sh : yS} {I : yI} {L : yL} {c : Nat} {x : Int32} (hA : lA c n sh I) : lawT D z c Int32.toInt64 yL_state cL_state 4 [(0, 9, 12, 18)] 9 1 6 yX8_state cX8_state 2 .int 2 [.int x] n sh I L := by
  obtain ⟨at0, u, bl, hL⟩ := hA
  obtain ⟨su, f, m, len, it, σ, ni, nm, nr, np, nd, cd, hP, hB, hE, hE1, hE2, hlc⟩ := hL.cur
  intro l
  refine (w_state l D z (o := c + 156) (fun l => by
    have h := c_X7_state l D z (n := n) (L := L) (B := gR I (c + 15 + 14 * at0)) hP hB hE hE1.val (x := x) (fun q => ⟨nI_tn q, tn_lt q⟩)
    rw [sR_get] at h; exact h) (yC_o hP.1) (fun v n2 sh2 I2 L2 q => ?_) (fun E n2 sh2 I2 L2 q => ?_)).imp (fun v n2 sh2 I2 L2 hq => ?_)
  · obtain ⟨r, -, rfl, -, rfl, -⟩ := q
    exact ⟨⟨r, rfl⟩, hL.2.1.2.2.2.2.1⟩
  · exact (oI_e q.1).elim id (fun w => (ok_e w).elim)
  · obtain ⟨k, rfl, rfl, hL2, hd, hm⟩ := st_G hL hE.2.1 hlc.fo hq
    refine ⟨k, rfl, hL2.2.1, fun l => ?_⟩
    have h2 : eB σ (gR I (c + 15 + 14 * at0)) it len (gR I2 (c + 141) 2) ni nm nr np nd cd := by rw [show gR I2 (c + 141) 2 = I (c + 143) from hd]; exact hE1
    obtain ⟨⟨-, e0, ni4⟩, ⟨-, e1, nm4⟩, ⟨-, e2, nr8⟩, ⟨-, e3, np24⟩, ⟨-, e4, nd20⟩⟩ := h2.1
    have h := c_X8_state l D z (n := n2) (L := L2) (I := I2) (M := gR I2 (c + 141)) hL2.2.1.2.2.2.1 e4 nd20 (x := x) (fun q => ⟨nI_tn q, tn_lt q⟩)
    rw [sR_get] at h
    refine h.imp (fun v3 n3 sh3 I3 L3 h3 => st_Gf hL2 hE.2.1 hlc.fo (hm _ (rl_I rfl (fun hc => rl_ok (h2.2.2.2.2.2.1 (tn x) (tn_lt hc)).1.2.2.2.2.2.1))) h3) (fun _ _ _ _ _ w => w)
theorem st_deadline (D : yD) (z : Nat) {n : Nat} {sh : yS} {I : yI} {L : yL} {c : Nat} {x : Int32} (hA : lA c n sh I) : lawT D z c Int32.toInt64 yL_deadline cL_deadline 4 [(0, 9, 12, 18)] 9 1 6 yX8_deadline cX8_deadline 2 .int 2 [.int x] n sh I L := by
  obtain ⟨at0, u, bl, hL⟩ := hA
  obtain ⟨su, f, m, len, it, σ, ni, nm, nr, np, nd, cd, hP, hB, hE, hE1, hE2, hlc⟩ := hL.cur
  intro l
  refine (w_deadline l D z (o := c + 156) (fun l => by
    have h := c_X7_deadline l D z (n := n) (L := L) (B := gR I (c + 15 + 14 * at0)) hP hB hE hE1.val (x := x) (fun q => ⟨nI_tn q, tn_lt q⟩)
    rw [sR_get] at h; exact h) (yC_o hP.1) (fun v n2 sh2 I2 L2 q => ?_) (fun E n2 sh2 I2 L2 q => ?_)).imp (fun v n2 sh2 I2 L2 hq => ?_)
  · obtain ⟨r, -, rfl, -, rfl, -⟩ := q
    exact ⟨⟨r, rfl⟩, hL.2.1.2.2.2.2.1⟩
  · exact (oI_e q.1).elim id (fun w => (ok_e w).elim)
  · obtain ⟨k, rfl, rfl, hL2, hd, hm⟩ := st_G hL hE.2.1 hlc.fo hq
    refine ⟨k, rfl, hL2.2.1, fun l => ?_⟩
    have h2 : eB σ (gR I (c + 15 + 14 * at0)) it len (gR I2 (c + 141) 2) ni nm nr np nd cd := by rw [show gR I2 (c + 141) 2 = I (c + 143) from hd]; exact hE1
    obtain ⟨⟨-, e0, ni4⟩, ⟨-, e1, nm4⟩, ⟨-, e2, nr8⟩, ⟨-, e3, np24⟩, ⟨-, e4, nd20⟩⟩ := h2.1
    have h := c_X8_deadline l D z (n := n2) (L := L2) (I := I2) (M := gR I2 (c + 141)) hL2.2.1.2.2.2.1 e4 nd20 (x := x) (fun q => ⟨nI_tn q, tn_lt q⟩)
    rw [sR_get] at h
    refine h.imp (fun v3 n3 sh3 I3 L3 h3 => st_Gf hL2 hE.2.1 hlc.fo (hm _ (rl_I rfl (fun hc => rl_ok (h2.2.2.2.2.2.1 (tn x) (tn_lt hc)).1.2.2.2.2.2.2))) h3) (fun _ _ _ _ _ w => w)
theorem st_evidence (D : yD) (z : Nat) {n : Nat} {sh : yS} {I : yI} {L : yL} {c : Nat} {x : Int32} (hA : lA c n sh I) : lawT D z c Int32.toInt64 yL_evidence cL_evidence 4 [(0, 9, 12, 18)] 9 1 6 yX8_evidence cX8_evidence 2 .int 2 [.int x] n sh I L := by
  obtain ⟨at0, u, bl, hL⟩ := hA
  obtain ⟨su, f, m, len, it, σ, ni, nm, nr, np, nd, cd, hP, hB, hE, hE1, hE2, hlc⟩ := hL.cur
  intro l
  refine (w_evidence l D z (o := c + 156) (fun l => by
    have h := c_X7_evidence l D z (n := n) (L := L) (B := gR I (c + 15 + 14 * at0)) hP hB hE hE1.val (x := x) (fun q => ⟨nI_tn q, tn_lt q⟩)
    rw [sR_get] at h; exact h) (yC_o hP.1) (fun v n2 sh2 I2 L2 q => ?_) (fun E n2 sh2 I2 L2 q => ?_)).imp (fun v n2 sh2 I2 L2 hq => ?_)
  · obtain ⟨r, -, rfl, -, rfl, -⟩ := q
    exact ⟨⟨r, rfl⟩, hL.2.1.2.2.2.2.1⟩
  · exact (oI_e q.1).elim id (fun w => (ok_e w).elim)
  · obtain ⟨k, rfl, rfl, hL2, hd, hm⟩ := st_G hL hE.2.1 hlc.fo hq
    refine ⟨k, rfl, hL2.2.1, fun l => ?_⟩
    have h2 : eB σ (gR I (c + 15 + 14 * at0)) it len (gR I2 (c + 141) 2) ni nm nr np nd cd := by rw [show gR I2 (c + 141) 2 = I (c + 143) from hd]; exact hE1
    obtain ⟨⟨-, e0, ni4⟩, ⟨-, e1, nm4⟩, ⟨-, e2, nr8⟩, ⟨-, e3, np24⟩, ⟨-, e4, nd20⟩⟩ := h2.1
    have h := c_X8_evidence l D z (n := n2) (L := L2) (I := I2) (M := gR I2 (c + 141)) hL2.2.1.2.2.2.1 e4 nd20 (x := x) (fun q => ⟨nI_tn q, tn_lt q⟩)
    rw [sR_get] at h
    refine h.imp (fun v3 n3 sh3 I3 L3 h3 => st_Gf hL2 hE.2.1 hlc.fo (hm _ (rl_I rfl (fun hc => rl_ok (h2.2.2.2.2.2.1 (tn x) (tn_lt hc)).1.2.2.2.2.1))) h3) (fun _ _ _ _ _ w => w)
theorem st_isWithMerchant (D : yD) (z : Nat) {n : Nat} {sh : yS} {I : yI} {L : yL} {c : Nat} {x : Int32} (hA : lA c n sh I) : lawT D z c cvB yL_isWithMerchant cL_isWithMerchant 4 [(0, 16, 19, 18)] 9 1 6 yX8_isWithMerchant cX8_isWithMerchant 2 .boolean 2 [.int x] n sh I L := by
  obtain ⟨at0, u, bl, hL⟩ := hA
  obtain ⟨su, f, m, len, it, σ, ni, nm, nr, np, nd, cd, hP, hB, hE, hE1, hE2, hlc⟩ := hL.cur
  intro l
  refine (w_isWithMerchant l D z (o := c + 156) (fun l => by
    have h := c_X7_isWithMerchant l D z (n := n) (L := L) (B := gR I (c + 15 + 14 * at0)) hP hB hE hE1.val (x := x) (fun q => ⟨nI_tn q, tn_lt q⟩)
    rw [sR_get] at h; exact h) (yC_o hP.1) (fun v n2 sh2 I2 L2 q => ?_) (fun E n2 sh2 I2 L2 q => ?_)).imp (fun v n2 sh2 I2 L2 hq => ?_)
  · obtain ⟨r, -, rfl, -, rfl, -⟩ := q
    exact ⟨⟨r, rfl⟩, hL.2.1.2.2.2.2.1⟩
  · exact (oI_e q.1).elim id (fun w => (ok_e w).elim)
  · obtain ⟨k, rfl, rfl, hL2, hd, hm⟩ := st_G hL hE.2.1 hlc.fo hq
    refine ⟨k, rfl, hL2.2.1, fun l => ?_⟩
    have h2 : eB σ (gR I (c + 15 + 14 * at0)) it len (gR I2 (c + 141) 2) ni nm nr np nd cd := by rw [show gR I2 (c + 141) 2 = I (c + 143) from hd]; exact hE1
    obtain ⟨⟨-, e0, ni4⟩, ⟨-, e1, nm4⟩, ⟨-, e2, nr8⟩, ⟨-, e3, np24⟩, ⟨-, e4, nd20⟩⟩ := h2.1
    have h := c_X8_isWithMerchant l D z (n := n2) (L := L2) (I := I2) (M := gR I2 (c + 141)) hL2.2.1.2.2.2.1 e4 nd20 (x := x) (fun q => ⟨nI_tn q, tn_lt q⟩)
    rw [sR_get] at h
    refine h.imp (fun v3 n3 sh3 I3 L3 h3 => st_Gf hL2 hE.2.1 hlc.fo (hm _ (rl_I rfl (fun hc => rl_ok (by
      obtain ⟨s, s1, s2, s3⟩ := (h2.2.2.2.2.2.1 (tn x) (tn_lt hc)).2.2.2.2.2.2
      rw [s3]
      exact b2i_cg (by rw [s2]; exact s15 s s1))))) h3) (fun _ _ _ _ _ w => w)
theorem st_score (D : yD) (z : Nat) {n : Nat} {sh : yS} {I : yI} {L : yL} {c : Nat} {x : Int32} (hA : lA c n sh I) : lawT D z c Int32.toInt64 yL_score cL_score 4 [(0, 9, 12, 18)] 9 1 6 yX8_score cX8_score 2 .int 3 [.int x] n sh I L := by
  obtain ⟨at0, u, bl, hL⟩ := hA
  obtain ⟨su, f, m, len, it, σ, ni, nm, nr, np, nd, cd, hP, hB, hE, hE1, hE2, hlc⟩ := hL.cur
  intro l
  refine (w_score l D z (o := c + 156) (fun l => by
    have h := c_X7_score l D z (n := n) (L := L) (B := gR I (c + 15 + 14 * at0)) hP hB hE hE1.val (x := x) (fun q => ⟨nI_tn q, tn_lt q⟩)
    rw [sR_get] at h; exact h) (yC_o hP.1) (fun v n2 sh2 I2 L2 q => ?_) (fun E n2 sh2 I2 L2 q => ?_)).imp (fun v n2 sh2 I2 L2 hq => ?_)
  · obtain ⟨r, -, rfl, -, rfl, -⟩ := q
    exact ⟨⟨r, rfl⟩, hL.2.1.2.2.2.2.1⟩
  · exact (oI_e q.1).elim id (fun w => (ok_e w).elim)
  · obtain ⟨k, rfl, rfl, hL2, hd, hm⟩ := st_G hL hE.2.1 hlc.fo hq
    refine ⟨k, rfl, hL2.2.1, fun l => ?_⟩
    have h2 : eB σ (gR I (c + 15 + 14 * at0)) it len (gR I2 (c + 141) 2) ni nm nr np nd cd := by rw [show gR I2 (c + 141) 2 = I (c + 143) from hd]; exact hE1
    obtain ⟨⟨-, e0, ni4⟩, ⟨-, e1, nm4⟩, ⟨-, e2, nr8⟩, ⟨-, e3, np24⟩, ⟨-, e4, nd20⟩⟩ := h2.1
    have h := c_X8_score l D z (n := n2) (L := L2) (I := I2) (M := gR I2 (c + 141)) hL2.2.1.2.2.2.1 e4 nd20 (x := x) (fun q => ⟨nI_tn q, tn_lt q⟩) h2.dv
    rw [sR_get] at h
    refine h.imp (fun v3 n3 sh3 I3 L3 h3 => st_Gf hL2 hE.2.1 hlc.fo (hm _ (rl_I rfl (fun hc => rl_ok (by
      obtain ⟨p, i, m9, r, e, ne, -, -, -, -, x5, -, -, -, -, -, y5, -, -, -, z3, -⟩ := h2.k (tn_lt hc)
      rw [z3, x5]
      exact eq_sc h2 (tn_lt hc) y5)))) h3) (fun _ _ _ _ _ w => w)
theorem st_bestEvidence (D : yD) (z : Nat) {n : Nat} {sh : yS} {I : yI} {L : yL} {c : Nat} {x : Int32} (hA : lA c n sh I) : lawT D z c Int32.toInt64 yL_bestEvidence cL_bestEvidence 4 [(0, 9, 12, 18)] 9 1 6 yX8_bestEvidence cX8_bestEvidence 5 .int 4 [.int x] n sh I L := by
  obtain ⟨at0, u, bl, hL⟩ := hA
  obtain ⟨su, f, m, len, it, σ, ni, nm, nr, np, nd, cd, hP, hB, hE, hE1, hE2, hlc⟩ := hL.cur
  intro l
  refine (w_bestEvidence l D z (o := c + 156) (fun l => by
    have h := c_X7_bestEvidence l D z (n := n) (L := L) (B := gR I (c + 15 + 14 * at0)) hP hB hE hE1.val (x := x) (fun q => ⟨nI_tn q, tn_lt q⟩)
    rw [sR_get] at h; exact h) (yC_o hP.1) (fun v n2 sh2 I2 L2 q => ?_) (fun E n2 sh2 I2 L2 q => ?_)).imp (fun v n2 sh2 I2 L2 hq => ?_)
  · obtain ⟨r, -, rfl, -, rfl, -⟩ := q
    exact ⟨⟨r, rfl⟩, hL.2.1.2.2.2.2.1⟩
  · exact (oI_e q.1).elim id (fun w => (ok_e w).elim)
  · obtain ⟨k, rfl, rfl, hL2, hd, hm⟩ := st_G hL hE.2.1 hlc.fo hq
    refine ⟨k, rfl, hL2.2.1, fun l => ?_⟩
    have h2 : eB σ (gR I (c + 15 + 14 * at0)) it len (gR I2 (c + 141) 2) ni nm nr np nd cd := by rw [show gR I2 (c + 141) 2 = I (c + 143) from hd]; exact hE1
    obtain ⟨⟨-, e0, ni4⟩, ⟨-, e1, nm4⟩, ⟨-, e2, nr8⟩, ⟨-, e3, np24⟩, ⟨-, e4, nd20⟩⟩ := h2.1
    have h := c_X8_bestEvidence l D z (n := n2) (L := L2) (I := I2) (M := gR I2 (c + 141)) hL2.2.1.2.2.2.1 e4 nd20 (x := x) (fun q => ⟨nI_tn q, tn_lt q⟩) h2.dv
    rw [sR_get] at h
    refine h.imp (fun v3 n3 sh3 I3 L3 h3 => st_Gf hL2 hE.2.1 hlc.fo (hm _ (rl_I rfl (fun hc => rl_ok (eq_best h2 (tn_lt hc))))) h3) (fun _ _ _ _ _ w => w)
theorem st_rate (D : yD) (z : Nat) {n : Nat} {sh : yS} {I : yI} {L : yL} {c : Nat} {x : Int32} (hA : lA c n sh I) : lawT D z c Int32.toInt64 yL_rate cL_rate 4 [(0, 9, 12, 18)] 9 1 6 yX8_rate cX8_rate 2 .int 3 [.int x] n sh I L := by
  obtain ⟨at0, u, bl, hL⟩ := hA
  obtain ⟨su, f, m, len, it, σ, ni, nm, nr, np, nd, cd, hP, hB, hE, hE1, hE2, hlc⟩ := hL.cur
  intro l
  refine (w_rate l D z (o := c + 156) (fun l => by
    have h := c_X7_rate l D z (n := n) (L := L) (B := gR I (c + 15 + 14 * at0)) hP hB hE hE1.val (x := x) (fun q => ⟨nI_tn q, tn_lt q⟩)
    rw [sR_get] at h; exact h) (yC_o hP.1) (fun v n2 sh2 I2 L2 q => ?_) (fun E n2 sh2 I2 L2 q => ?_)).imp (fun v n2 sh2 I2 L2 hq => ?_)
  · obtain ⟨r, -, rfl, -, rfl, -⟩ := q
    exact ⟨⟨r, rfl⟩, hL.2.1.2.2.2.2.1⟩
  · exact (oI_e q.1).elim id (fun w => (ok_e w).elim)
  · obtain ⟨k, rfl, rfl, hL2, hd, hm⟩ := st_G hL hE.2.1 hlc.fo hq
    refine ⟨k, rfl, hL2.2.1, fun l => ?_⟩
    have h2 : eB σ (gR I (c + 15 + 14 * at0)) it len (gR I2 (c + 141) 2) ni nm nr np nd cd := by rw [show gR I2 (c + 141) 2 = I (c + 143) from hd]; exact hE1
    obtain ⟨⟨-, e0, ni4⟩, ⟨-, e1, nm4⟩, ⟨-, e2, nr8⟩, ⟨-, e3, np24⟩, ⟨-, e4, nd20⟩⟩ := h2.1
    have h := c_X8_rate l D z (n := n2) (L := L2) (I := I2) (M := gR I2 (c + 141)) hL2.2.1.2.2.2.1 e4 nd20 e3 np24 e1 nm4 (x := x) (fun q => ⟨nI_tn q, tn_lt q⟩) h2.dv
    rw [sR_get] at h
    refine h.imp (fun v3 n3 sh3 I3 L3 h3 => st_Gf hL2 hE.2.1 hlc.fo (hm _ (rl_I rfl (fun hc => rl_ok (eq_rat h2 (tn_lt hc))))) h3) (fun _ _ _ _ _ w => w)
theorem st_isWatched (D : yD) (z : Nat) {n : Nat} {sh : yS} {I : yI} {L : yL} {c : Nat} {x : Int32} (hA : lA c n sh I) : lawT D z c cvB yL_isWatched cL_isWatched 4 [(0, 16, 19, 18)] 9 1 6 yX8_isWatched cX8_isWatched 2 .boolean 3 [.int x] n sh I L := by
  obtain ⟨at0, u, bl, hL⟩ := hA
  obtain ⟨su, f, m, len, it, σ, ni, nm, nr, np, nd, cd, hP, hB, hE, hE1, hE2, hlc⟩ := hL.cur
  intro l
  refine (w_isWatched l D z (o := c + 156) (fun l => by
    have h := c_X7_isWatched l D z (n := n) (L := L) (B := gR I (c + 15 + 14 * at0)) hP hB hE hE1.val (x := x) (fun q => ⟨nI_tn q, tn_lt q⟩)
    rw [sR_get] at h; exact h) (yC_o hP.1) (fun v n2 sh2 I2 L2 q => ?_) (fun E n2 sh2 I2 L2 q => ?_)).imp (fun v n2 sh2 I2 L2 hq => ?_)
  · obtain ⟨r, -, rfl, -, rfl, -⟩ := q
    exact ⟨⟨r, rfl⟩, hL.2.1.2.2.2.2.1⟩
  · exact (oI_e q.1).elim id (fun w => (ok_e w).elim)
  · obtain ⟨k, rfl, rfl, hL2, hd, hm⟩ := st_G hL hE.2.1 hlc.fo hq
    refine ⟨k, rfl, hL2.2.1, fun l => ?_⟩
    have h2 : eB σ (gR I (c + 15 + 14 * at0)) it len (gR I2 (c + 141) 2) ni nm nr np nd cd := by rw [show gR I2 (c + 141) 2 = I (c + 143) from hd]; exact hE1
    obtain ⟨⟨-, e0, ni4⟩, ⟨-, e1, nm4⟩, ⟨-, e2, nr8⟩, ⟨-, e3, np24⟩, ⟨-, e4, nd20⟩⟩ := h2.1
    have h := c_X8_isWatched l D z (n := n2) (L := L2) (I := I2) (M := gR I2 (c + 141)) hL2.2.1.2.2.2.1 e4 nd20 e3 np24 e1 nm4 (x := x) (fun q => ⟨nI_tn q, tn_lt q⟩) h2.dv
    rw [sR_get] at h
    refine h.imp (fun v3 n3 sh3 I3 L3 h3 => st_Gf hL2 hE.2.1 hlc.fo (hm _ (rl_I rfl (fun hc => rl_ok (b2i_cg (by rw [eq_rat h2 (tn_lt hc), h2.2.1.2.2.2.1]))))) h3) (fun _ _ _ _ _ w => w)
theorem st_exposure (D : yD) (z : Nat) {n : Nat} {sh : yS} {I : yI} {L : yL} {c : Nat} {x : Int32} (hA : lA c n sh I) : lawT D z c Int32.toInt64 yL_exposure cL_exposure 4 [(0, 9, 12, 18)] 9 1 6 yX8_exposure cX8_exposure 4 .int 3 [.int x] n sh I L := by
  obtain ⟨at0, u, bl, hL⟩ := hA
  obtain ⟨su, f, m, len, it, σ, ni, nm, nr, np, nd, cd, hP, hB, hE, hE1, hE2, hlc⟩ := hL.cur
  intro l
  refine (w_exposure l D z (o := c + 156) (fun l => by
    have h := c_X7_exposure l D z (n := n) (L := L) (B := gR I (c + 15 + 14 * at0)) hP hB hE hE1.val (x := x) (fun q => ⟨nI_tn q, tn_lt q⟩)
    rw [sR_get] at h; exact h) (yC_o hP.1) (fun v n2 sh2 I2 L2 q => ?_) (fun E n2 sh2 I2 L2 q => ?_)).imp (fun v n2 sh2 I2 L2 hq => ?_)
  · obtain ⟨r, -, rfl, -, rfl, -⟩ := q
    exact ⟨⟨r, rfl⟩, hL.2.1.2.2.2.2.1⟩
  · exact (oI_e q.1).elim id (fun w => (ok_e w).elim)
  · obtain ⟨k, rfl, rfl, hL2, hd, hm⟩ := st_G hL hE.2.1 hlc.fo hq
    refine ⟨k, rfl, hL2.2.1, fun l => ?_⟩
    have h2 : eB σ (gR I (c + 15 + 14 * at0)) it len (gR I2 (c + 141) 2) ni nm nr np nd cd := by rw [show gR I2 (c + 141) 2 = I (c + 143) from hd]; exact hE1
    obtain ⟨⟨-, e0, ni4⟩, ⟨-, e1, nm4⟩, ⟨-, e2, nr8⟩, ⟨-, e3, np24⟩, ⟨-, e4, nd20⟩⟩ := h2.1
    have h := c_X8_exposure l D z (n := n2) (L := L2) (I := I2) (M := gR I2 (c + 141)) hL2.2.1.2.2.2.1 e4 nd20 e1 nm4 (x := x) (fun q => ⟨nI_tn q, tn_lt q⟩) h2.dv
    rw [sR_get] at h
    refine h.imp (fun v3 n3 sh3 I3 L3 h3 => st_Gf hL2 hE.2.1 hlc.fo (hm _ (rl_I rfl (fun hc => rl_ok (eq_exp h2 (tn_lt hc))))) h3) (fun _ _ _ _ _ w => w)
theorem ev_8 {ev : Int32} (h : ¬ ev < 0 ∧ ev ≤ 255) : ev = nI (tn ev) ∧ tn ev < 256 := by
  obtain ⟨a, a1, a2⟩ := gV (x := ev) (lo := 0) (hi := 255) (by decide) (by decide) (fun q => q.elim h.1 (fun w => w h.2))
  rw [a2, tn_nI (by omega)]
  exact ⟨rfl, by omega⟩
theorem st_wouldWin (D : yD) (z : Nat) {n : Nat} {sh : yS} {I : yI} {L : yL} {c : Nat} {x ev : Int32} (hA : lA c n sh I) : lawT D z c cvB yL_wouldWin cL_wouldWin 5 [(0, 17, 20, 18), (0, 17, 24, 13)] 9 2 12 yX8_wouldWin cX8_wouldWin 3 .boolean 4 [.int x, .int ev] n sh I L := by
  obtain ⟨at0, u, bl, hL⟩ := hA
  obtain ⟨su, f, m, len, it, σ, ni, nm, nr, np, nd, cd, hP, hB, hE, hE1, hE2, hlc⟩ := hL.cur
  intro l
  refine (w_wouldWin l D z (o := c + 156) (fun l => by
    have h := c_X7_wouldWin l D z (n := n) (L := L) (B := gR I (c + 15 + 14 * at0)) hP hB hE hE1.val (x := x) (fun q => ⟨nI_tn q, tn_lt q⟩) (ev := ev)
    rw [sR_get] at h; exact h) (yC_o hP.1) (fun v n2 sh2 I2 L2 q => ?_) (fun E n2 sh2 I2 L2 q => ?_)).imp (fun v n2 sh2 I2 L2 hq => ?_)
  · obtain ⟨r, -, rfl, -, rfl, -⟩ := q
    exact ⟨⟨r, rfl⟩, hL.2.1.2.2.2.2.1⟩
  · exact (oI_e q.1).imp id (fun w => (oA_e w).elim id (fun w => (ok_e w).elim))
  · obtain ⟨k, rfl, rfl, hL2, hd, hm⟩ := st_G hL hE.2.1 hlc.fo hq
    refine ⟨k, rfl, hL2.2.1, fun l => ?_⟩
    have h2 : eB σ (gR I (c + 15 + 14 * at0)) it len (gR I2 (c + 141) 2) ni nm nr np nd cd := by rw [show gR I2 (c + 141) 2 = I (c + 143) from hd]; exact hE1
    obtain ⟨⟨-, e0, ni4⟩, ⟨-, e1, nm4⟩, ⟨-, e2, nr8⟩, ⟨-, e3, np24⟩, ⟨-, e4, nd20⟩⟩ := h2.1
    have h := c_X8_wouldWin l D z (n := n2) (L := L2) (I := I2) (M := gR I2 (c + 141)) hL2.2.1.2.2.2.1 e4 nd20 (x := x) (fun q => ⟨nI_tn q, tn_lt q⟩) h2.dv (ev := ev) ev_8
    rw [sR_get] at h
    refine h.imp (fun v3 n3 sh3 I3 L3 h3 => st_Gf hL2 hE.2.1 hlc.fo (hm _ (rl_I rfl (fun hc => rl_A rfl (by decide) (fun ha => rl_ok (b2i_cg (by
      have := eq_cv h2 (tn_lt hc) (ev_8 ha).2
      rw [← (ev_8 ha).1] at this
      exact this)))))) h3) (fun _ _ _ _ _ w => w)
theorem st_settled (D : yD) (z : Nat) {n : Nat} {sh : yS} {I : yI} {L : yL} {c : Nat} {x : Int32} (hA : lA c n sh I) : lawT D z c Int32.toInt64 yL_settled cL_settled 4 [(0, 9, 12, 18)] 9 1 6 yX8_settled cX8_settled 2 .int 5 [.int x] n sh I L := by
  obtain ⟨at0, u, bl, hL⟩ := hA
  obtain ⟨su, f, m, len, it, σ, ni, nm, nr, np, nd, cd, hP, hB, hE, hE1, hE2, hlc⟩ := hL.cur
  intro l
  refine (w_settled l D z (o := c + 156) (fun l => by
    have h := c_X7_settled l D z (n := n) (L := L) (B := gR I (c + 15 + 14 * at0)) hP hB hE hE1.val (x := x) (fun q => ⟨nI_tn q, tn_lt q⟩)
    rw [sR_get] at h; exact h) (yC_o hP.1) (fun v n2 sh2 I2 L2 q => ?_) (fun E n2 sh2 I2 L2 q => ?_)).imp (fun v n2 sh2 I2 L2 hq => ?_)
  · obtain ⟨r, -, rfl, -, rfl, -⟩ := q
    exact ⟨⟨r, rfl⟩, hL.2.1.2.2.2.2.1⟩
  · exact (oI_e q.1).elim id (fun w => (ok_e w).elim)
  · obtain ⟨k, rfl, rfl, hL2, hd, hm⟩ := st_G hL hE.2.1 hlc.fo hq
    refine ⟨k, rfl, hL2.2.1, fun l => ?_⟩
    have e9 : gR I2 (c + 141) 2 = I (c + 143) := hd
    have h2 : eB σ (gR I (c + 15 + 14 * at0)) it len (gR I2 (c + 141) 2) ni nm nr np nd cd := by rw [e9]; exact hE1
    have hT2 : eT (gR I2 (c + 141) 2) nd := by rw [e9]; exact hE2
    obtain ⟨⟨-, e0, ni4⟩, ⟨-, e1, nm4⟩, ⟨-, e2, nr8⟩, ⟨-, e3, np24⟩, ⟨-, e4, nd20⟩⟩ := h2.1
    have h := c_X8_settled l D z (n := n2) (L := L2) (I := I2) (M := gR I2 (c + 141)) hL2.2.1.2.2.2.1 e4 nd20 e1 nm4 (x := x) (fun q => ⟨nI_tn q, tn_lt q⟩) h2.dv hT2.opn
    rw [sR_get] at h
    refine h.imp (fun v3 n3 sh3 I3 L3 h3 => ?_) (fun _ _ _ _ _ w => w)
    obtain ⟨rfl, rfl, ⟨S, rfl⟩, h3⟩ := h3
    rcases h3 with ⟨hc, rfl, rfl⟩ | ⟨hc, t, g, hfin, rfl, rfl⟩
    · exact st_Gf hL2 hE.2.1 hlc.fo (mo := (1, 0)) (hm _ (by
        have := rl_I (ec := ecA) rfl (n := nm) (x := x) (o := .ok (gR I (c + 15 + 14 * at0) 2 (tn x) + sm (fun k => if gR I (c + 15 + 14 * at0) 4 (tn (gR I (c + 15 + 14 * at0) 7 k)) = nI (tn x) ∧ ¬ (gR I (c + 15 + 14 * at0) 12 k = 4 ∨ gR I (c + 15 + 14 * at0) 12 k = 5) then gainB σ (gR I (c + 15 + 14 * at0)) k (idO σ it len (gR I (c + 15 + 14 * at0)) k) else 0) nd)) (m := (0, 0)) (fun q => absurd q hc)
        rw [mI_f hc] at this
        exact this)) ⟨rfl, rfl, rfl, rfl, S, rfl⟩
    · have hv := eq_set h2 (C := cpyD (gR I2 (c + 141) 2) (gR I2 (c + 141) 4) 1824) (fun j hj => if_pos hj) (tn_lt hc) hfin
      have hmm := hm (0, (pmS (cpyD (gR I2 (c + 141) 2) (gR I2 (c + 141) 4) 1824) cd nd t).1 (16 + tn x)) (by
        have := rl_I (ec := ecA) rfl (n := nm) (x := x) (o := .ok (phB σ it len (gR I (c + 15 + 14 * at0)) nd (tn x))) (m := (0, (pmS (cpyD (gR I2 (c + 141) 2) (gR I2 (c + 141) 4) 1824) cd nd t).1 (16 + tn x))) (fun _ => rl_ok hv)
        rw [mI_t hc] at this
        exact this)
      refine ⟨_, rfl, ?_, fun q => ?_, at0, u, bl, ?_⟩
      · rw [show c + 141 = c + 141 + 0 from rfl, sR_at (by decide), va_up_c _ _ _ _ (by decide), up2_at]; exact hmm.1
      · rw [va_up_c _ _ _ _ (by omega)]; exact hmm.2 q
      · refine hL2.keep (Nat.le_refl _) (fun _ _ => rfl) hE.2.1 hlc.fo (fun a _ _ x1 x2 x3 => ?_) (fun j hj => ?_)
        · by_cases q : c + 141 ≤ a ∧ a < c + 141 + 15
          · obtain ⟨b, rfl⟩ : ∃ b, a = c + 141 + b := ⟨a - (c + 141), by omega⟩
            rw [sR_at (by omega), va_up_c _ _ _ _ (by omega), up2_r (by omega)]; rfl
          · exact sR_out (by omega)
        · rw [show c + 141 = c + 141 + 0 from rfl, sR_at (by decide), va_up_c _ _ _ _ (by decide), up2_ne (by omega)]; rfl
theorem st_issuerCount (D : yD) (z : Nat) {n : Nat} {sh : yS} {I : yI} {L : yL} {c : Nat} (hA : lA c n sh I) : lawP D z c yX7_issuerCount cX7_issuerCount 1 1 yX8_issuerCount cX8_issuerCount 1 0 .int [] n sh I L := by
  obtain ⟨at0, u, bl, hL⟩ := hA
  obtain ⟨su, f, m, len, it, σ, ni, nm, nr, np, nd, cd, hP, hB, hE, hE1, hE2, hlc⟩ := hL.cur
  intro l
  have h0 := c_X7_issuerCount l D z (n := n) (L := L) (B := gR I (c + 15 + 14 * at0)) hP hB hE hE1.val
  rw [sR_get] at h0
  refine h0.imp (fun v n2 sh2 I2 L2 hq => ?_) (fun _ _ _ _ _ w => w)
  obtain ⟨rfl, rfl, hL2, hd⟩ := st_P hL hE.2.1 hlc.fo hq
  refine ⟨_, rfl, fun _ => ⟨_, rfl⟩, (fun q => by cases q), hL2.2.1, fun l => ?_⟩
  have h2 : eB σ (gR I (c + 15 + 14 * at0)) it len (gR I2 (c + 141) 2) ni nm nr np nd cd := by rw [show gR I2 (c + 141) 2 = I (c + 143) from hd]; exact hE1
  obtain ⟨⟨-, e0, ni4⟩, ⟨-, e1, nm4⟩, ⟨-, e2, nr8⟩, ⟨-, e3, np24⟩, ⟨-, e4, nd20⟩⟩ := h2.1
  have h := c_X8_issuerCount l D z (n := n2) (L := L2) (I := I2) (M := gR I2 (c + 141)) hL2.2.1.2.2.2.1 
  rw [sR_get] at h
  exact h.imp (fun v3 n3 sh3 I3 L3 h3 => st_Pf hL2 hE.2.1 hlc.fo (h2.1.1.1.trans h2.1.1.2.1.symm) h3) (fun _ _ _ _ _ w => w)
theorem st_merchantCount (D : yD) (z : Nat) {n : Nat} {sh : yS} {I : yI} {L : yL} {c : Nat} (hA : lA c n sh I) : lawP D z c yX7_merchantCount cX7_merchantCount 1 1 yX8_merchantCount cX8_merchantCount 1 0 .int [] n sh I L := by
  obtain ⟨at0, u, bl, hL⟩ := hA
  obtain ⟨su, f, m, len, it, σ, ni, nm, nr, np, nd, cd, hP, hB, hE, hE1, hE2, hlc⟩ := hL.cur
  intro l
  have h0 := c_X7_merchantCount l D z (n := n) (L := L) (B := gR I (c + 15 + 14 * at0)) hP hB hE hE1.val
  rw [sR_get] at h0
  refine h0.imp (fun v n2 sh2 I2 L2 hq => ?_) (fun _ _ _ _ _ w => w)
  obtain ⟨rfl, rfl, hL2, hd⟩ := st_P hL hE.2.1 hlc.fo hq
  refine ⟨_, rfl, fun _ => ⟨_, rfl⟩, (fun q => by cases q), hL2.2.1, fun l => ?_⟩
  have h2 : eB σ (gR I (c + 15 + 14 * at0)) it len (gR I2 (c + 141) 2) ni nm nr np nd cd := by rw [show gR I2 (c + 141) 2 = I (c + 143) from hd]; exact hE1
  obtain ⟨⟨-, e0, ni4⟩, ⟨-, e1, nm4⟩, ⟨-, e2, nr8⟩, ⟨-, e3, np24⟩, ⟨-, e4, nd20⟩⟩ := h2.1
  have h := c_X8_merchantCount l D z (n := n2) (L := L2) (I := I2) (M := gR I2 (c + 141)) hL2.2.1.2.2.2.1 
  rw [sR_get] at h
  exact h.imp (fun v3 n3 sh3 I3 L3 h3 => st_Pf hL2 hE.2.1 hlc.fo (h2.1.2.1.1.trans h2.1.2.1.2.1.symm) h3) (fun _ _ _ _ _ w => w)
theorem st_reasonCount (D : yD) (z : Nat) {n : Nat} {sh : yS} {I : yI} {L : yL} {c : Nat} (hA : lA c n sh I) : lawP D z c yX7_reasonCount cX7_reasonCount 1 1 yX8_reasonCount cX8_reasonCount 1 0 .int [] n sh I L := by
  obtain ⟨at0, u, bl, hL⟩ := hA
  obtain ⟨su, f, m, len, it, σ, ni, nm, nr, np, nd, cd, hP, hB, hE, hE1, hE2, hlc⟩ := hL.cur
  intro l
  have h0 := c_X7_reasonCount l D z (n := n) (L := L) (B := gR I (c + 15 + 14 * at0)) hP hB hE hE1.val
  rw [sR_get] at h0
  refine h0.imp (fun v n2 sh2 I2 L2 hq => ?_) (fun _ _ _ _ _ w => w)
  obtain ⟨rfl, rfl, hL2, hd⟩ := st_P hL hE.2.1 hlc.fo hq
  refine ⟨_, rfl, fun _ => ⟨_, rfl⟩, (fun q => by cases q), hL2.2.1, fun l => ?_⟩
  have h2 : eB σ (gR I (c + 15 + 14 * at0)) it len (gR I2 (c + 141) 2) ni nm nr np nd cd := by rw [show gR I2 (c + 141) 2 = I (c + 143) from hd]; exact hE1
  obtain ⟨⟨-, e0, ni4⟩, ⟨-, e1, nm4⟩, ⟨-, e2, nr8⟩, ⟨-, e3, np24⟩, ⟨-, e4, nd20⟩⟩ := h2.1
  have h := c_X8_reasonCount l D z (n := n2) (L := L2) (I := I2) (M := gR I2 (c + 141)) hL2.2.1.2.2.2.1 
  rw [sR_get] at h
  exact h.imp (fun v3 n3 sh3 I3 L3 h3 => st_Pf hL2 hE.2.1 hlc.fo (h2.1.2.2.1.1.trans h2.1.2.2.1.2.1.symm) h3) (fun _ _ _ _ _ w => w)
theorem st_purchaseCount (D : yD) (z : Nat) {n : Nat} {sh : yS} {I : yI} {L : yL} {c : Nat} (hA : lA c n sh I) : lawP D z c yX7_purchaseCount cX7_purchaseCount 1 1 yX8_purchaseCount cX8_purchaseCount 1 0 .int [] n sh I L := by
  obtain ⟨at0, u, bl, hL⟩ := hA
  obtain ⟨su, f, m, len, it, σ, ni, nm, nr, np, nd, cd, hP, hB, hE, hE1, hE2, hlc⟩ := hL.cur
  intro l
  have h0 := c_X7_purchaseCount l D z (n := n) (L := L) (B := gR I (c + 15 + 14 * at0)) hP hB hE hE1.val
  rw [sR_get] at h0
  refine h0.imp (fun v n2 sh2 I2 L2 hq => ?_) (fun _ _ _ _ _ w => w)
  obtain ⟨rfl, rfl, hL2, hd⟩ := st_P hL hE.2.1 hlc.fo hq
  refine ⟨_, rfl, fun _ => ⟨_, rfl⟩, (fun q => by cases q), hL2.2.1, fun l => ?_⟩
  have h2 : eB σ (gR I (c + 15 + 14 * at0)) it len (gR I2 (c + 141) 2) ni nm nr np nd cd := by rw [show gR I2 (c + 141) 2 = I (c + 143) from hd]; exact hE1
  obtain ⟨⟨-, e0, ni4⟩, ⟨-, e1, nm4⟩, ⟨-, e2, nr8⟩, ⟨-, e3, np24⟩, ⟨-, e4, nd20⟩⟩ := h2.1
  have h := c_X8_purchaseCount l D z (n := n2) (L := L2) (I := I2) (M := gR I2 (c + 141)) hL2.2.1.2.2.2.1 
  rw [sR_get] at h
  exact h.imp (fun v3 n3 sh3 I3 L3 h3 => st_Pf hL2 hE.2.1 hlc.fo (h2.1.2.2.2.1.1.trans h2.1.2.2.2.1.2.1.symm) h3) (fun _ _ _ _ _ w => w)
theorem st_disputeCount (D : yD) (z : Nat) {n : Nat} {sh : yS} {I : yI} {L : yL} {c : Nat} (hA : lA c n sh I) : lawP D z c yX7_disputeCount cX7_disputeCount 1 1 yX8_disputeCount cX8_disputeCount 1 0 .int [] n sh I L := by
  obtain ⟨at0, u, bl, hL⟩ := hA
  obtain ⟨su, f, m, len, it, σ, ni, nm, nr, np, nd, cd, hP, hB, hE, hE1, hE2, hlc⟩ := hL.cur
  intro l
  have h0 := c_X7_disputeCount l D z (n := n) (L := L) (B := gR I (c + 15 + 14 * at0)) hP hB hE hE1.val
  rw [sR_get] at h0
  refine h0.imp (fun v n2 sh2 I2 L2 hq => ?_) (fun _ _ _ _ _ w => w)
  obtain ⟨rfl, rfl, hL2, hd⟩ := st_P hL hE.2.1 hlc.fo hq
  refine ⟨_, rfl, fun _ => ⟨_, rfl⟩, (fun q => by cases q), hL2.2.1, fun l => ?_⟩
  have h2 : eB σ (gR I (c + 15 + 14 * at0)) it len (gR I2 (c + 141) 2) ni nm nr np nd cd := by rw [show gR I2 (c + 141) 2 = I (c + 143) from hd]; exact hE1
  obtain ⟨⟨-, e0, ni4⟩, ⟨-, e1, nm4⟩, ⟨-, e2, nr8⟩, ⟨-, e3, np24⟩, ⟨-, e4, nd20⟩⟩ := h2.1
  have h := c_X8_disputeCount l D z (n := n2) (L := L2) (I := I2) (M := gR I2 (c + 141)) hL2.2.1.2.2.2.1 
  rw [sR_get] at h
  exact h.imp (fun v3 n3 sh3 I3 L3 h3 => st_Pf hL2 hE.2.1 hlc.fo (h2.1.2.2.2.2.1.trans h2.1.2.2.2.2.2.1.symm) h3) (fun _ _ _ _ _ w => w)
theorem st_today (D : yD) (z : Nat) {n : Nat} {sh : yS} {I : yI} {L : yL} {c : Nat} (hA : lA c n sh I) : lawP D z c yX7_today cX7_today 1 1 yX8_today cX8_today 1 0 .int [] n sh I L := by
  obtain ⟨at0, u, bl, hL⟩ := hA
  obtain ⟨su, f, m, len, it, σ, ni, nm, nr, np, nd, cd, hP, hB, hE, hE1, hE2, hlc⟩ := hL.cur
  intro l
  have h0 := c_X7_today l D z (n := n) (L := L) (B := gR I (c + 15 + 14 * at0)) hP hB hE hE1.val
  rw [sR_get] at h0
  refine h0.imp (fun v n2 sh2 I2 L2 hq => ?_) (fun _ _ _ _ _ w => w)
  obtain ⟨rfl, rfl, hL2, hd⟩ := st_P hL hE.2.1 hlc.fo hq
  refine ⟨_, rfl, fun _ => ⟨_, rfl⟩, (fun q => by cases q), hL2.2.1, fun l => ?_⟩
  have h2 : eB σ (gR I (c + 15 + 14 * at0)) it len (gR I2 (c + 141) 2) ni nm nr np nd cd := by rw [show gR I2 (c + 141) 2 = I (c + 143) from hd]; exact hE1
  obtain ⟨⟨-, e0, ni4⟩, ⟨-, e1, nm4⟩, ⟨-, e2, nr8⟩, ⟨-, e3, np24⟩, ⟨-, e4, nd20⟩⟩ := h2.1
  have h := c_X8_today l D z (n := n2) (L := L2) (I := I2) (M := gR I2 (c + 141)) hL2.2.1.2.2.2.1 
  rw [sR_get] at h
  exact h.imp (fun v3 n3 sh3 I3 L3 h3 => st_Pf hL2 hE.2.1 hlc.fo (h2.2.1.1) h3) (fun _ _ _ _ _ w => w)
theorem st_networkAccount (D : yD) (z : Nat) {n : Nat} {sh : yS} {I : yI} {L : yL} {c : Nat} (hA : lA c n sh I) : lawP D z c yX7_networkAccount cX7_networkAccount 1 1 yX8_networkAccount cX8_networkAccount 1 0 .int [] n sh I L := by
  obtain ⟨at0, u, bl, hL⟩ := hA
  obtain ⟨su, f, m, len, it, σ, ni, nm, nr, np, nd, cd, hP, hB, hE, hE1, hE2, hlc⟩ := hL.cur
  intro l
  have h0 := c_X7_networkAccount l D z (n := n) (L := L) (B := gR I (c + 15 + 14 * at0)) hP hB hE hE1.val
  rw [sR_get] at h0
  refine h0.imp (fun v n2 sh2 I2 L2 hq => ?_) (fun _ _ _ _ _ w => w)
  obtain ⟨rfl, rfl, hL2, hd⟩ := st_P hL hE.2.1 hlc.fo hq
  refine ⟨_, rfl, fun _ => ⟨_, rfl⟩, (fun q => by cases q), hL2.2.1, fun l => ?_⟩
  have h2 : eB σ (gR I (c + 15 + 14 * at0)) it len (gR I2 (c + 141) 2) ni nm nr np nd cd := by rw [show gR I2 (c + 141) 2 = I (c + 143) from hd]; exact hE1
  obtain ⟨⟨-, e0, ni4⟩, ⟨-, e1, nm4⟩, ⟨-, e2, nr8⟩, ⟨-, e3, np24⟩, ⟨-, e4, nd20⟩⟩ := h2.1
  have h := c_X8_networkAccount l D z (n := n2) (L := L2) (I := I2) (M := gR I2 (c + 141)) hL2.2.1.2.2.2.1 
  rw [sR_get] at h
  exact h.imp (fun v3 n3 sh3 I3 L3 h3 => st_Pf hL2 hE.2.1 hlc.fo (h2.2.1.2.2.2.2) h3) (fun _ _ _ _ _ w => w)
theorem st_nextDeadline (D : yD) (z : Nat) {n : Nat} {sh : yS} {I : yI} {L : yL} {c : Nat} (hA : lA c n sh I) : lawP D z c yX7_nextDeadline cX7_nextDeadline 1 2 yX8_nextDeadline cX8_nextDeadline 3 2 .int [] n sh I L := by
  obtain ⟨at0, u, bl, hL⟩ := hA
  obtain ⟨su, f, m, len, it, σ, ni, nm, nr, np, nd, cd, hP, hB, hE, hE1, hE2, hlc⟩ := hL.cur
  intro l
  have h0 := c_X7_nextDeadline l D z (n := n) (L := L) (B := gR I (c + 15 + 14 * at0)) hP hB hE hE1.val
  rw [sR_get] at h0
  refine h0.imp (fun v n2 sh2 I2 L2 hq => ?_) (fun _ _ _ _ _ w => w)
  obtain ⟨rfl, rfl, hL2, hd⟩ := st_P hL hE.2.1 hlc.fo hq
  refine ⟨_, rfl, fun _ => ⟨_, rfl⟩, (fun q => by cases q), hL2.2.1, fun l => ?_⟩
  have h2 : eB σ (gR I (c + 15 + 14 * at0)) it len (gR I2 (c + 141) 2) ni nm nr np nd cd := by rw [show gR I2 (c + 141) 2 = I (c + 143) from hd]; exact hE1
  obtain ⟨⟨-, e0, ni4⟩, ⟨-, e1, nm4⟩, ⟨-, e2, nr8⟩, ⟨-, e3, np24⟩, ⟨-, e4, nd20⟩⟩ := h2.1
  have h := c_X8_nextDeadline l D z (n := n2) (L := L2) (I := I2) (M := gR I2 (c + 141)) hL2.2.1.2.2.2.1 e4 nd20
  rw [sR_get] at h
  exact h.imp (fun v3 n3 sh3 I3 L3 h3 => st_Pf hL2 hE.2.1 hlc.fo (eq_edl h2 nd (Nat.le_refl _)) h3) (fun _ _ _ _ _ w => w)
theorem st_reasonOf (D : yD) (z : Nat) {n : Nat} {sh : yS} {I : yI} {L : yL} {c : Nat} {x : Int32} (hA : lA c n sh I) : lawP D z c yX7_reasonOf cX7_reasonOf 2 1 yX8_reasonOf cX8_reasonOf 3 2 .int [.int x] n sh I L := by
  obtain ⟨at0, u, bl, hL⟩ := hA
  obtain ⟨su, f, m, len, it, σ, ni, nm, nr, np, nd, cd, hP, hB, hE, hE1, hE2, hlc⟩ := hL.cur
  intro l
  have h0 := c_X7_reasonOf l D z (n := n) (L := L) (B := gR I (c + 15 + 14 * at0)) hP hB hE hE1.val (x := x)
  rw [sR_get] at h0
  refine h0.imp (fun v n2 sh2 I2 L2 hq => ?_) (fun _ _ _ _ _ w => w)
  obtain ⟨rfl, rfl, hL2, hd⟩ := st_P hL hE.2.1 hlc.fo hq
  refine ⟨_, rfl, fun _ => ⟨_, rfl⟩, (fun q => by cases q), hL2.2.1, fun l => ?_⟩
  have h2 : eB σ (gR I (c + 15 + 14 * at0)) it len (gR I2 (c + 141) 2) ni nm nr np nd cd := by rw [show gR I2 (c + 141) 2 = I (c + 143) from hd]; exact hE1
  obtain ⟨⟨-, e0, ni4⟩, ⟨-, e1, nm4⟩, ⟨-, e2, nr8⟩, ⟨-, e3, np24⟩, ⟨-, e4, nd20⟩⟩ := h2.1
  have h := c_X8_reasonOf l D z (n := n2) (L := L2) (I := I2) (M := gR I2 (c + 141)) hL2.2.1.2.2.2.1 e2 nr8 (x := x)
  rw [sR_get] at h
  exact h.imp (fun v3 n3 sh3 I3 L3 h3 => st_Pf hL2 hE.2.1 hlc.fo (eq_rwc nr 0 (fun i hi => (h2.2.2.2.1 i (by omega)).1 0 (by decide))) h3) (fun _ _ _ _ _ w => w)
