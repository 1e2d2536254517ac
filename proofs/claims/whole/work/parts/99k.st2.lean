theorem mI_0 {n : Nat} {x : Int32} {m : Int32 × Int32} (h : (mI n x m).1 = 0) : vp_in x n ∧ m.1 = 0 := by
  unfold mI at h
  split at h
  · exact absurd h (by decide)
  · rename_i c; exact ⟨c, h⟩
theorem mA_0 {k : Int32} (hk : ¬ k = 0) {p : Prop} [Decidable p] {m : Int32 × Int32} (h : (mA k p m).1 = 0) : p ∧ m.1 = 0 := by
  unfold mA at h
  split at h
  · rename_i c; exact ⟨c, h⟩
  · exact absurd h hk
theorem rl_AA {ec : String → Int32} {k : Int32} (he : ec "java/lang/IllegalArgumentException" = k) (hk : ¬ k = 0) {p q p2 : Prop} [Decidable p] [Decidable q] [Decidable p2] (hp : p2 ↔ p ∧ q) {o : yRes} {m : Int32 × Int32} (h : p ∧ q → rl ec o m) : rl ec (oA p (oA q o)) (mA k p2 m) := by
  unfold oA mA
  by_cases c : p
  · by_cases c2 : q
    · rw [if_pos c, if_pos c2, if_pos (hp.mpr ⟨c, c2⟩)]; exact h ⟨c, c2⟩
    · rw [if_pos c, if_neg c2, if_neg (fun w => c2 (hp.mp w).2)]; exact Or.inr ⟨_, rfl, by rw [he], by rw [he]; exact hk⟩
  · rw [if_neg c, if_neg (fun w => c (hp.mp w).1)]; exact Or.inr ⟨_, rfl, by rw [he], by rw [he]; exact hk⟩
section STW
variable {c n n2 : Nat} {sh : yS} {I I2 : yI} {L L2 : yL} {at0 u bl : Nat}
/-- a call that writes -/
theorem st_W (hL : LI c n sh I at0 u bl) {su f m len : Nat} {it : Nat → Int32} {σ : yI} (hE : yEra sh I su f m len it σ) (hlc : yLoc c n su f) {at1 i0 : Nat} (hat : at1 = (at0 + 1) % 9) {Bx : yI} {o : yRes} {ec : String → Int32} {v : Option Value} {sh2 : yS} (hq : lwQ ec Int32.toInt64 (c + 156) (yOr o n (upr sh (c + 15 + 14 * at1) 0 (some su)) (hsI I (c + 3) at1 (min (u + 1) 8)) f (c + 15 + 14 * at1) Bx L) (yOx o n sh I i0 (gR I i0) L) v n2 sh2 I2 L2) : ∃ k, v = some (.int k) ∧ lS c sh2 ∧ I2 (c + 143) = I (c + 143) ∧ I2 (c + 141) 12 = nI u ∧ ∀ mo d2, rl ec o mo → (mo.1 = 0 → ∃ ni nm nr np nd cd, eB σ Bx it len d2 ni nm nr np nd cd ∧ eT d2 nd) → ∀ v3 n3 sh3 I3 L3, yMw mo d2 n2 sh2 I2 (c + 141) (gR I2 (c + 141)) u L2 v3 n3 sh3 I3 L3 → lfQ c Int32.toInt64 k v3 n3 sh3 I3 L3 := by
  have hF := hE.2.1
  have hf := hlc.fo
  have h9 : at1 < 9 := by omega
  obtain ⟨u1, hu1⟩ : ∃ q, q = min (u + 1) 8 := ⟨_, rfl⟩
  rw [← hu1] at hq
  rcases hq with ⟨r, L1, rfl, rfl, r', ho, hv, rfl, rfl, ⟨J, ⟨g, rfl⟩, rfl⟩, rfl⟩ | ⟨E, rfl, ho, hn, rfl, rfl, rfl⟩
  · have hrr : r = r' := Value.int.inj (Option.some.inj hv)
    subst hrr
    obtain ⟨J2, hJ2⟩ : ∃ q, q = sR 14 (va_up (hsI I (c + 3) at1 u1) (f + 2) g) (c + 15 + 14 * at1) Bx := ⟨_, rfl⟩
    have hJ : ∀ a, a ≠ f + 2 → a ≠ c + 3 → (a < c + 15 + 14 * at1 ∨ c + 15 + 14 * at1 + 14 ≤ a) → J2 a = I a := fun a x y z => by rw [hJ2, sR_out z, va_up_c _ _ _ _ x, hsI_ne y]
    have hJ3 : J2 (c + 3) = hsI I (c + 3) at1 u1 (c + 3) := by rw [hJ2, sR_out (by omega), va_up_c _ _ _ _ (by omega)]
    have hJb : ∀ k, k < 14 → J2 (c + 15 + 14 * at1 + k) = Bx k := fun k hk => by rw [hJ2]; exact sR_at hk
    rw [← hJ2]
    have q41 : J2 (c + 141) = I (c + 141) := hJ _ (by omega) (by omega) (by omega)
    refine ⟨0, rfl, hL.2.1.up h9, hJ _ (by omega) (by omega) (by omega), by rw [q41]; exact hL.2.2.1.2.1.2.2, fun mo d2 hm hnew v3 n3 sh3 I3 L3 h3 => ?_⟩
    have hmo : mo = (0, r) := by
      rcases hm with ⟨r2, h1, rfl⟩ | ⟨E, h1, -⟩
      · rw [ho] at h1; cases h1; rfl
      · rw [ho] at h1; cases h1
    subst hmo
    obtain ⟨rfl, rfl, rfl, ⟨M2, rfl, hM2⟩, S, rfl⟩ := h3
    rcases hM2 with ⟨-, hM2, M3, hR, hM3⟩ | ⟨h9, -⟩
    rotate_left
    · exact absurd rfl h9
    unfold rmP at hR
    rw [← hu1] at hR
    obtain ⟨r2, r1, r0, r12, rh1, rh2, -⟩ := hR
    obtain ⟨K3, hK3⟩ : ∃ q, q = sR 15 J2 (c + 141) M2 := ⟨_, rfl⟩
    have o3 : ∀ a, (a < c + 141 ∨ c + 156 ≤ a) → K3 a = J2 a := fun a ha => by rw [hK3]; exact sR_out (by omega)
    have i3 : ∀ b, b < 15 → K3 (c + 141 + b) = M2 b := fun b hb => by rw [hK3]; exact sR_at hb
    have i0' : K3 (c + 141) = M2 0 := i3 0 (by decide)
    rw [← hK3]
    have m0 : ∀ j, j ≠ 0 → j ≠ 12 → K3 (c + 141) j = I (c + 141) j := fun j x y => by
      rw [i0', hM3 0 (by decide), r0 j y, up2_ne x]
      show J2 (c + 141) j = _
      rw [q41]
    have hd3 : K3 (c + 143) = d2 := (i3 2 (by decide)).trans hM2
    refine ⟨r, rfl, ?_, fun _ => ?_, at1, u1, bl, ?_⟩
    · rw [i0', hM3 0 (by decide), r0 0 (by decide)]; exact up2_at
    · rw [va_up_c _ _ _ _ (by omega)]; exact up2L_at
    · refine hL.push (Nat.le_refl _) hat hu1 (fun a _ => rfl) hF hf (fun a x y z => ?_) ?_ ?_ (fun j hj => ?_) (fun t t1 t2 j hj => ?_)
      · rw [o3 a (by omega)]; exact hJ a y (by omega) (by omega)
      · obtain ⟨-, -, ⟨-, ⟨-, hu8, -⟩, ⟨b1, b2, b3⟩, d1, e1⟩, -⟩ := hL
        refine ⟨⟨h9, ?_⟩, ⟨?_, by omega, ?_⟩, ⟨?_, b2, ?_⟩, ?_, ?_⟩
        · rw [o3 _ (by omega), hJ3]
          unfold hsI
          rw [up2_ne (by decide), up2_at]
        · rw [o3 _ (by omega), hJ3]
          unfold hsI
          rw [up2_at]
        · rw [i0', hM3 0 (by decide)]; exact r12
        · rw [o3 _ (by omega), hJ _ (by omega) (by omega) (by omega)]; exact b1
        · rw [m0 2 (by decide) (by decide)]; exact b3
        · rw [o3 _ (by omega), hJ _ (by omega) (by omega) (by omega), m0 7 (by decide) (by decide)]; exact d1
        · rw [o3 _ (by omega), hJ _ (by omega) (by omega) (by omega), show K3 (c + 142) = M2 1 from i3 1 (by decide), hM3 1 (by decide), r1, up2_r (by decide), show gR J2 (c + 141) 1 = J2 (c + 142) from rfl, hJ _ (by omega) (by omega) (by omega)]; exact e1
      · obtain ⟨ni, nm, nr, np, nd, cd, e, t⟩ := hnew rfl
        obtain ⟨s9, hs9⟩ := hL.2.1.2.2.2.2.2 at1 h9
        have hl := hlc
        unfold yLoc at hl
        refine ⟨su, f, m, len, it, σ, ni, nm, nr, np, nd, cd, hs9.up, hE.of (fun k k1 k2 => upr_ne (by omega)) (fun k k2 => upr_ne (by omega)) (fun k k1 k2 => ?_) (fun k k2 => ?_), ?_, by rw [hd3]; exact t, hlc⟩
        · rw [o3 _ (by omega)]; exact hJ _ (hE.1.f2 hF k1 k2) (by omega) (by omega)
        · rw [o3 _ (by omega)]; exact hJ _ (by omega) (by omega) (by omega)
        · rw [hd3]
          exact e.rows (fun k hk => by
            show K3 (c + 15 + 14 * at1 + k) = Bx k
            rw [o3 _ (by omega)]; exact hJb k hk)
      · have e := rh1 j hj
        rw [show c + 147 + (u1 - 1) = c + 141 + (6 + (u1 - 1)) by omega, i3 _ (by omega), hM3 _ (by omega), e, up2_r (by decide)]
        show J2 (c + 143) j = _
        rw [hJ _ (by omega) (by omega) (by omega)]
      · have e := rh2 t t1 t2 j hj
        have hu8 := hL.2.2.1.2.1.2.1
        rw [show c + 147 + (u1 - 1 - t) = c + 141 + (6 + (u1 - 1 - t)) by omega, i3 _ (by omega), hM3 _ (by omega), e, up2_r (by omega)]
        show J2 (c + 141 + (6 + (u - t))) j = _
        rw [hJ _ (by omega) (by omega) (by omega), show c + 141 + (6 + (u - t)) = c + 147 + (u - t) by omega]
  · obtain ⟨k1, k2⟩ := st_k hL hF hf hn (sR_scr (i := i0) (yScr.rf (f := f) (I := I)))
    refine ⟨ec E, rfl, k1.2.1, k2, k1.2.2.1.2.1.2.2, fun mo d2 hm _ v3 n3 sh3 I3 L3 h3 => ?_⟩
    have hmo : mo = (ec E, 0) ∧ ¬ ec E = 0 := by
      rcases hm with ⟨r2, h1, -⟩ | ⟨E2, h1, h2, h3⟩
      · rw [ho] at h1; cases h1
      · rw [ho] at h1; cases h1; exact ⟨h2, h3⟩
    obtain ⟨rfl, hne⟩ := hmo
    obtain ⟨rfl, rfl, rfl, ⟨M2, rfl, hM2⟩, S, rfl⟩ := h3
    rcases hM2 with ⟨h0, -⟩ | ⟨-, rfl⟩
    · exact absurd h0 hne
    · exact st_Gf k1 hF hf (mo := (ec E, 0)) ⟨rfl, fun q => absurd q hne⟩ ⟨rfl, rfl, rfl, rfl, S, rfl⟩
end STW
section ACT
variable {σ B : yI} {it : Nat → Int32} {len : Nat} {d : Nat → Int32} {ni nm nr np nd : Nat} {cd : List Int32}
theorem eB.or (h : eB σ B it len d ni nm nr np nd cd) {k : Nat} (hk : k < nd) {ev : Int32} (he : ¬ ev < 0 ∧ ev ≤ 255) : ∃ e2, e2 < 256 ∧ B 11 k ||| ev = nI e2 ∧ d (164 + 8 * k + 4) ||| ev = nI e2 := by
  obtain ⟨e, e1, e2⟩ := (h.2.2.2.2.2.1 k hk).2.2.2.2.2.1
  have e3 : B 11 k = d (164 + 8 * k + 4) := (h.2.2.2.2.2.1 k hk).1.2.2.2.2.1
  obtain ⟨v1, v2⟩ := ev_8 he
  refine ⟨e ||| tn ev, or_8 e e1 _ v2, ?_, ?_⟩
  · rw [e2, v1, nI_or, tn_nI (by omega)]
  · rw [← e3, e2, v1, nI_or, tn_nI (by omega)]
theorem moveB_r {B : yI} {p : Nat} {g w : Int32} {r : Nat} (hr : 3 ≤ r) : moveB B p g w r = B r := by
  unfold moveB
  rw [up2_r (by omega), up2_r (by omega), up2_r (by omega)]
/-- the score behind a representment -/
theorem eq_rsc (h : eB σ B it len d ni nm nr np nd cd) {k e2 : Nat} (hk : k < nd) {ev : Int32} (hev : B 11 k ||| ev = nI e2) (he2 : e2 < 256) {d2 : Nat → Int32} (hn : eB σ (repB σ B k ev) it len d2 ni nm nr np nd cd) : scV σ it len (repB σ B k ev) k (repB σ B k ev 11 k) = scM d2 k (pD d k) e2 (nD d k) cd := by
  have r7 : repB σ B k ev 7 = B 7 := by unfold repB; rw [moveB_r (by decide), up2_r (by decide), up2_r (by decide), up2_r (by decide)]
  have r8 : repB σ B k ev 8 = B 8 := by unfold repB; rw [moveB_r (by decide), up2_r (by decide), up2_r (by decide), up2_r (by decide)]
  have r11 : repB σ B k ev 11 k = nI e2 := by unfold repB; rw [moveB_r (by decide), up2_r (by decide), up2_r (by decide), up2_at]; exact hev
  have b1 := h.1.2.2.1.2.2
  have b2 := h.1.2.2.2.1.2.2
  obtain ⟨p, i, m, r, e9, ne, x1, x2, x3, x4, x5, x6, y1, y2, y3, y4, y5, y6, z1, z2, z3, z4, z5, z6, -⟩ := h.k hk
  obtain ⟨p', i', m', r', e9', ne', x1', x2', x3', x4', x5', x6', y1', y2', y3', y4', y5', y6', z1', z2', z3', z4', z5', z6', -⟩ := hn.k hk
  rw [r7, z1] at z1'
  rw [r8, z2] at z2'
  have ep : p = p' := nI_eq2 z1'
  have er : r = r' := nI_eq2 z2'
  subst ep er
  rw [z6] at z6'
  have en : ne = ne' := nI_eq2 z6'
  subst en
  have := eq_sc hn hk he2
  rw [x1', x6'] at this
  rw [r11, this, x1, x6]
end ACT
theorem cp_K {σ B C : yI} {it : Nat → Int32} {len : Nat} {d : Nat → Int32} {ni nm nr np nd : Nat} {cd : List Int32} (h : eB σ B it len d ni nm nr np nd cd) {k : Nat} (hk : k < nd) : cpB B C 12 k = B 12 k ∧ cpB B C 11 k = B 11 k := by
  have a := (h.2.2.2.2.2.1 k hk).1
  have b := ((h.cp (C := C)).2.2.2.2.2.1 k hk).1
  exact ⟨b.2.2.2.2.2.1.trans a.2.2.2.2.2.1.symm, b.2.2.2.2.1.trans a.2.2.2.2.1.symm⟩
theorem st_purchase (D : yD) (z : Nat) {n : Nat} {sh : yS} {I : yI} {L : yL} {c : Nat} {x x2 am : Int32} (hA : lA c n sh I) : lawT D z c Int32.toInt64 yL_purchase cL_purchase 6 [(0, 12, 15, 18), (0, 12, 19, 13), (0, 12, 23, 65)] 11 4 24 yX8_purchase_ cX8_purchase_ 6 .int 5 [.int x, .int x2, .int am] n sh I L := by
  obtain ⟨at0, u, bl, hL⟩ := hA
  obtain ⟨su, f, m, len, it, σ, ni, nm, nr, np, nd, cd, hP, hB, hE, hE1, hE2, hlc⟩ := hL.cur
  intro l
  obtain ⟨at1, hat⟩ : ∃ q, q = (at0 + 1) % 9 := ⟨_, rfl⟩
  have h9 : at1 < 9 := by omega
  have hu8 := hL.2.2.1.2.1.2.1
  obtain ⟨Bp, hBp⟩ : ∃ q, q = gR I (c + 15 + 14 * at0) := ⟨_, rfl⟩
  obtain ⟨Bn, hBn⟩ : ∃ q, q = cpB Bp (gR I (c + 15 + 14 * at1)) := ⟨_, rfl⟩
  rw [← hBp] at hE1
  refine (w_purchase l D z (o := c + 156) (fun l => by
    have h := c_X7_purchase l D z (n := n) (L := L) (B := Bp) hP hB hE hE1.val hBp (i1 := c + 15 + 14 * at1) (K := hsI I (c + 3) at1 (min (u + 1) 8)) (Bn := Bn) (by rw [hat]) (by rw [hat]) hBn hL.2.1.2.2.2.2.2 hL.2.2.1.2.1.1 hu8 (x := x) (fun q => ⟨nI_tn q, tn_lt q⟩) (x2 := x2) (fun q => ⟨nI_tn q, tn_lt q⟩) (am := am)
    rw [hBp, sR_get, ← hBp] at h; exact h) (yC_o hP.1) (fun v n2 sh2 I2 L2 q => ?_) (fun E n2 sh2 I2 L2 q => ?_)).imp (fun v n2 sh2 I2 L2 hq => ?_)
  · obtain ⟨r, -, rfl, -, rfl, -⟩ := q
    exact ⟨⟨r, rfl⟩, (hL.2.1.up h9).2.2.2.2.1⟩
  · exact (oI_e q.1).elim Or.inl (fun w => (oI_e w).elim Or.inl (fun w => (oA_e w).elim (fun e => Or.inr (Or.inl e)) (fun w => (oS_e w).elim (fun e => Or.inr (Or.inr e)) (fun w => (ok_e w).elim))))
  · rw [hBp] at hq
    obtain ⟨k, rfl, hS2, hd, hu, hfin⟩ := st_W hL hE hlc hat hq
    try rw [← hBp] at hfin
    refine ⟨k, rfl, hS2, fun l => ?_⟩
    obtain ⟨d9, hd9⟩ : ∃ q, q = gR I2 (c + 141) 2 := ⟨_, rfl⟩
    have e9 : d9 = I (c + 143) := hd9.trans hd
    rw [← e9] at hE1 hE2
    have hN : eB σ Bn it len d9 ni nm nr np nd cd := by rw [hBn]; exact hE1.cp
    obtain ⟨⟨-, e0, ni4⟩, ⟨-, e1, nm4⟩, ⟨-, e2, nr8⟩, ⟨-, e3, np24⟩, ⟨-, e4, nd20⟩⟩ := hE1.1
    have hdv := hE1.dv
    rw [hd9] at e0 e1 e2 e3 e4 hdv
    have h := c_X8_purchase_ l D z (n := n2) (L := L2) (I := I2) (M := gR I2 (c + 141)) hS2.2.2.2.1 hu hu8 e0 ni4 e1 nm4 e3 np24 (x := x) (fun q => ⟨nI_tn q, tn_lt q⟩) (x2 := x2) (fun q => ⟨nI_tn q, tn_lt q⟩) (am := am)
    rw [sR_get, ← hd9] at h
    refine h.imp (fun v3 n3 sh3 I3 L3 h3 => hfin _ _ ?_ (fun q => ?_) _ _ _ _ _ h3) (fun _ _ _ _ _ w => w)
    · exact rl_I rfl (fun _ => rl_I rfl (fun _ => rl_A rfl (by decide) (fun _ => rl_S rfl (by decide) (by omega) (fun _ => rl_ok rfl))))
    · obtain ⟨c1, q⟩ := mI_0 q
      obtain ⟨c2, q⟩ := mI_0 q
      obtain ⟨c3, q⟩ := mA_0 (by decide) q
      obtain ⟨c4, q⟩ := mA_0 (by decide) q
      obtain ⟨a1, a2⟩ := eq_pur hN hE2 (tn_lt c1) (tn_lt c2) (by omega) (am := am)
      exact ⟨_, _, _, _, _, _, a1, a2⟩
theorem st_file (D : yD) (z : Nat) {n : Nat} {sh : yS} {I : yI} {L : yL} {c : Nat} {x x2 am : Int32} (hA : lA c n sh I) : lawT D z c Int32.toInt64 yL_file cL_file 6 [(0, 12, 15, 18), (0, 12, 19, 13), (0, 12, 23, 65)] 11 4 24 yX8_file cX8_file 8 .int 5 [.int x, .int x2, .int am] n sh I L := by
  obtain ⟨at0, u, bl, hL⟩ := hA
  obtain ⟨su, f, m, len, it, σ, ni, nm, nr, np, nd, cd, hP, hB, hE, hE1, hE2, hlc⟩ := hL.cur
  intro l
  obtain ⟨at1, hat⟩ : ∃ q, q = (at0 + 1) % 9 := ⟨_, rfl⟩
  have h9 : at1 < 9 := by omega
  have hu8 := hL.2.2.1.2.1.2.1
  obtain ⟨Bp, hBp⟩ : ∃ q, q = gR I (c + 15 + 14 * at0) := ⟨_, rfl⟩
  obtain ⟨Bn, hBn⟩ : ∃ q, q = cpB Bp (gR I (c + 15 + 14 * at1)) := ⟨_, rfl⟩
  rw [← hBp] at hE1
  refine (w_file l D z (o := c + 156) (fun l => by
    have h := c_X7_file l D z (n := n) (L := L) (B := Bp) hP hB hE hE1.val hBp (i1 := c + 15 + 14 * at1) (K := hsI I (c + 3) at1 (min (u + 1) 8)) (Bn := Bn) (by rw [hat]) (by rw [hat]) hBn hL.2.1.2.2.2.2.2 hL.2.2.1.2.1.1 hu8 (x := x) (fun q => ⟨nI_tn q, tn_lt q⟩) (x2 := x2) (fun q => ⟨nI_tn q, tn_lt q⟩) (am := am)
    rw [hBp, sR_get, ← hBp] at h; exact h) (yC_o hP.1) (fun v n2 sh2 I2 L2 q => ?_) (fun E n2 sh2 I2 L2 q => ?_)).imp (fun v n2 sh2 I2 L2 hq => ?_)
  · obtain ⟨r, -, rfl, -, rfl, -⟩ := q
    exact ⟨⟨r, rfl⟩, (hL.2.1.up h9).2.2.2.2.1⟩
  · exact (oI_e q.1).elim Or.inl (fun w => (oI_e w).elim Or.inl (fun w => (oA_e w).elim (fun e => Or.inr (Or.inl e)) (fun w => (oA_e w).elim (fun e => Or.inr (Or.inl e)) (fun w => (oS_e w).elim (fun e => Or.inr (Or.inr e)) (fun w => (ok_e w).elim)))))
  · rw [hBp] at hq
    obtain ⟨k, rfl, hS2, hd, hu, hfin⟩ := st_W hL hE hlc hat hq
    try rw [← hBp] at hfin
    refine ⟨k, rfl, hS2, fun l => ?_⟩
    obtain ⟨d9, hd9⟩ : ∃ q, q = gR I2 (c + 141) 2 := ⟨_, rfl⟩
    have e9 : d9 = I (c + 143) := hd9.trans hd
    rw [← e9] at hE1 hE2
    have hN : eB σ Bn it len d9 ni nm nr np nd cd := by rw [hBn]; exact hE1.cp
    obtain ⟨⟨-, e0, ni4⟩, ⟨-, e1, nm4⟩, ⟨-, e2, nr8⟩, ⟨-, e3, np24⟩, ⟨-, e4, nd20⟩⟩ := hE1.1
    have hdv := hE1.dv
    rw [hd9] at e0 e1 e2 e3 e4 hdv
    have hpi : tn x < np → d9 (68 + 4 * tn x) = nI (tn (d9 (68 + 4 * tn x))) ∧ tn (d9 (68 + 4 * tn x)) < 4 ∧ d9 (68 + 4 * tn x + 1) = nI (tn (d9 (68 + 4 * tn x + 1))) ∧ tn (d9 (68 + 4 * tn x + 1)) < 4 := fun hp => by
      obtain ⟨⟨p3, p4, -, -⟩, ⟨i, i1, i2⟩, ⟨m9, m1, m2⟩, -⟩ := hE1.2.2.2.2.1 _ hp
      rw [← p3, ← p4, i2, m2, tn_nI (by omega), tn_nI (by omega)]
      exact ⟨rfl, by omega, rfl, by omega⟩
    have h := c_X8_file l D z (n := n2) (L := L2) (I := I2) (M := gR I2 (c + 141)) hS2.2.2.2.1 hu hu8 e4 nd20 e3 np24 e2 nr8 (x := x) (fun q => ⟨nI_tn q, tn_lt q⟩) (x2 := x2) (fun q => ⟨nI_tn q, tn_lt q⟩) (am := am) (i := tn (d9 (68 + 4 * tn x))) (m := tn (d9 (68 + 4 * tn x + 1))) (by rw [← hd9]; exact hpi)
    rw [sR_get, ← hd9] at h
    refine h.imp (fun v3 n3 sh3 I3 L3 h3 => hfin _ _ ?_ (fun q => ?_) _ _ _ _ _ h3) (fun _ _ _ _ _ w => w)
    · refine rl_I rfl (fun c1 => rl_I rfl (fun c2 => rl_AA rfl (by decide) ?_ (fun _ => rl_S rfl (by decide) ?_ (fun _ => rl_ok rfl))))
      · rw [eq_dsp hE1, (hE1.2.2.2.2.1 _ (tn_lt c1)).1.2.2.1]
      · rw [hE1.2.1.1, (hE1.2.2.2.2.1 _ (tn_lt c1)).1.2.2.2, show σ 5 (tn x2) = d9 (20 + 6 * tn x2 + 1) from (hE1.2.2.2.1 _ (tn_lt c2)).1 1 (by decide)]
        exact and_congr Iff.rfl (by omega)
    · obtain ⟨c1, q⟩ := mI_0 q
      obtain ⟨c2, q⟩ := mI_0 q
      obtain ⟨⟨c3, -⟩, q⟩ := mA_0 (by decide) q
      obtain ⟨⟨-, c4⟩, q⟩ := mA_0 (by decide) q
      obtain ⟨a, a1, a2⟩ := gV (x := am) (lo := 1) (hi := 99999) (by decide) (by decide) (fun w => w.elim c3.1 (fun w => w c3.2))
      obtain ⟨p1, p2, p3, p4⟩ := hpi (tn_lt c1)
      obtain ⟨b1, b2⟩ := eq_fil hN hE2 (tn_lt c1) (tn_lt c2) (by omega) a1 p1 p3 p2 p4
      rw [a2]
      exact ⟨_, _, _, _, _, _, b1, b2⟩
theorem st_represent (D : yD) (z : Nat) {n : Nat} {sh : yS} {I : yI} {L : yL} {c : Nat} {x ev : Int32} (hA : lA c n sh I) : lawT D z c Int32.toInt64 yL_represent cL_represent 5 [(0, 10, 13, 18), (0, 10, 17, 13), (0, 10, 21, 65)] 11 3 18 yX8_represent cX8_represent 4 .int 6 [.int x, .int ev] n sh I L := by
  obtain ⟨at0, u, bl, hL⟩ := hA
  obtain ⟨su, f, m, len, it, σ, ni, nm, nr, np, nd, cd, hP, hB, hE, hE1, hE2, hlc⟩ := hL.cur
  intro l
  obtain ⟨at1, hat⟩ : ∃ q, q = (at0 + 1) % 9 := ⟨_, rfl⟩
  have h9 : at1 < 9 := by omega
  have hu8 := hL.2.2.1.2.1.2.1
  obtain ⟨Bp, hBp⟩ : ∃ q, q = gR I (c + 15 + 14 * at0) := ⟨_, rfl⟩
  obtain ⟨Bn, hBn⟩ : ∃ q, q = cpB Bp (gR I (c + 15 + 14 * at1)) := ⟨_, rfl⟩
  rw [← hBp] at hE1
  refine (w_represent l D z (o := c + 156) (fun l => by
    have h := c_X7_represent l D z (n := n) (L := L) (B := Bp) hP hB hE hE1.val hBp (i1 := c + 15 + 14 * at1) (K := hsI I (c + 3) at1 (min (u + 1) 8)) (Bn := Bn) (by rw [hat]) (by rw [hat]) hBn hL.2.1.2.2.2.2.2 hL.2.2.1.2.1.1 hu8 (x := x) (fun q => ⟨nI_tn q, tn_lt q⟩) (ev := ev)
    rw [hBp, sR_get, ← hBp] at h; exact h) (yC_o hP.1) (fun v n2 sh2 I2 L2 q => ?_) (fun E n2 sh2 I2 L2 q => ?_)).imp (fun v n2 sh2 I2 L2 hq => ?_)
  · obtain ⟨r, -, rfl, -, rfl, -⟩ := q
    exact ⟨⟨r, rfl⟩, (hL.2.1.up h9).2.2.2.2.1⟩
  · exact (oI_e q.1).elim Or.inl (fun w => (oA_e w).elim (fun e => Or.inr (Or.inl e)) (fun w => (oS_e w).elim (fun e => Or.inr (Or.inr e)) (fun w => (ok_e w).elim)))
  · rw [hBp] at hq
    obtain ⟨k, rfl, hS2, hd, hu, hfin⟩ := st_W hL hE hlc hat hq
    try rw [← hBp] at hfin
    refine ⟨k, rfl, hS2, fun l => ?_⟩
    obtain ⟨d9, hd9⟩ : ∃ q, q = gR I2 (c + 141) 2 := ⟨_, rfl⟩
    have e9 : d9 = I (c + 143) := hd9.trans hd
    rw [← e9] at hE1 hE2
    have hN : eB σ Bn it len d9 ni nm nr np nd cd := by rw [hBn]; exact hE1.cp
    obtain ⟨⟨-, e0, ni4⟩, ⟨-, e1, nm4⟩, ⟨-, e2, nr8⟩, ⟨-, e3, np24⟩, ⟨-, e4, nd20⟩⟩ := hE1.1
    have hdv := hE1.dv
    rw [hd9] at e0 e1 e2 e3 e4 hdv
    have hev : vp_in x nd → (¬ ev < 1 ∧ ev ≤ 255) → tn (d9 (164 + 8 * tn x + 4) ||| ev) < 256 ∧ d9 (164 + 8 * tn x + 4) ||| ev = nI (tn (d9 (164 + 8 * tn x + 4) ||| ev)) := fun c1 c2 => by
      obtain ⟨e2v, g1, -, g3⟩ := hE1.or (tn_lt c1) (ev := ev) ⟨fun q => c2.1 (Int32.lt_trans q (by decide)), c2.2⟩
      rw [g3, tn_nI (by omega)]
      exact ⟨g1, rfl⟩
    have h := c_X8_represent l D z (n := n2) (L := L2) (I := I2) (M := gR I2 (c + 141)) hS2.2.2.2.1 hu hu8 e4 nd20 (x := x) (fun q => ⟨nI_tn q, tn_lt q⟩) hdv (ev := ev) (e2v := tn (d9 (164 + 8 * tn x + 4) ||| ev)) (by rw [← hd9]; exact hev)
    rw [sR_get, ← hd9] at h
    refine h.imp (fun v3 n3 sh3 I3 L3 h3 => hfin _ _ ?_ (fun q => ?_) _ _ _ _ _ h3) (fun _ _ _ _ _ w => w)
    · refine rl_I rfl (fun c1 => rl_A rfl (by decide) (fun c2 => rl_S rfl (by decide) ?_ (fun c3 => rl_ok ?_)))
      · rw [(hE1.2.2.2.2.2.1 _ (tn_lt c1)).1.2.2.2.2.2.1]
      · obtain ⟨g1, g2⟩ := hev c1 c2
        obtain ⟨b1, -⟩ := eq_rep hN hE2 (tn_lt c1) (by rw [hBn, (cp_K hE1 (tn_lt c1)).1]; exact c3) (e2 := tn (d9 (164 + 8 * tn x + 4) ||| ev)) (ev := ev) (by rw [hBn, (cp_K hE1 (tn_lt c1)).2, (hE1.2.2.2.2.2.1 _ (tn_lt c1)).1.2.2.2.2.1]; exact g2) g1
        exact eq_rsc hN (tn_lt c1) (by rw [hBn, (cp_K hE1 (tn_lt c1)).2, (hE1.2.2.2.2.2.1 _ (tn_lt c1)).1.2.2.2.2.1]; exact g2) g1 b1
    · obtain ⟨c1, q⟩ := mI_0 q
      obtain ⟨c2, q⟩ := mA_0 (by decide) q
      obtain ⟨c3, q⟩ := mA_0 (by decide) q
      obtain ⟨g1, g2⟩ := hev c1 c2
      obtain ⟨b1, b2⟩ := eq_rep hN hE2 (tn_lt c1) (by rw [hBn, (cp_K hE1 (tn_lt c1)).1, (hE1.2.2.2.2.2.1 _ (tn_lt c1)).1.2.2.2.2.2.1]; exact c3) (e2 := tn (d9 (164 + 8 * tn x + 4) ||| ev)) (ev := ev) (by rw [hBn, (cp_K hE1 (tn_lt c1)).2, (hE1.2.2.2.2.2.1 _ (tn_lt c1)).1.2.2.2.2.1]; exact g2) g1
      exact ⟨_, _, _, _, _, _, b1, b2⟩
theorem st_escalate (D : yD) (z : Nat) {n : Nat} {sh : yS} {I : yI} {L : yL} {c : Nat} {x : Int32} (hA : lA c n sh I) : lawT D z c Int32.toInt64 yL_escalate cL_escalate 4 [(0, 9, 12, 18), (0, 9, 15, 65)] 11 2 12 yX8_escalate cX8_escalate 3 .int 5 [.int x] n sh I L := by
  obtain ⟨at0, u, bl, hL⟩ := hA
  obtain ⟨su, f, m, len, it, σ, ni, nm, nr, np, nd, cd, hP, hB, hE, hE1, hE2, hlc⟩ := hL.cur
  intro l
  obtain ⟨at1, hat⟩ : ∃ q, q = (at0 + 1) % 9 := ⟨_, rfl⟩
  have h9 : at1 < 9 := by omega
  have hu8 := hL.2.2.1.2.1.2.1
  obtain ⟨Bp, hBp⟩ : ∃ q, q = gR I (c + 15 + 14 * at0) := ⟨_, rfl⟩
  obtain ⟨Bn, hBn⟩ : ∃ q, q = cpB Bp (gR I (c + 15 + 14 * at1)) := ⟨_, rfl⟩
  rw [← hBp] at hE1
  refine (w_escalate l D z (o := c + 156) (fun l => by
    have h := c_X7_escalate l D z (n := n) (L := L) (B := Bp) hP hB hE hE1.val hBp (i1 := c + 15 + 14 * at1) (K := hsI I (c + 3) at1 (min (u + 1) 8)) (Bn := Bn) (by rw [hat]) (by rw [hat]) hBn hL.2.1.2.2.2.2.2 hL.2.2.1.2.1.1 hu8 (x := x) (fun q => ⟨nI_tn q, tn_lt q⟩)
    rw [hBp, sR_get, ← hBp] at h; exact h) (yC_o hP.1) (fun v n2 sh2 I2 L2 q => ?_) (fun E n2 sh2 I2 L2 q => ?_)).imp (fun v n2 sh2 I2 L2 hq => ?_)
  · obtain ⟨r, -, rfl, -, rfl, -⟩ := q
    exact ⟨⟨r, rfl⟩, (hL.2.1.up h9).2.2.2.2.1⟩
  · exact (oI_e q.1).elim Or.inl (fun w => (oS_e w).elim (fun e => Or.inr e) (fun w => (ok_e w).elim))
  · rw [hBp] at hq
    obtain ⟨k, rfl, hS2, hd, hu, hfin⟩ := st_W hL hE hlc hat hq
    try rw [← hBp] at hfin
    refine ⟨k, rfl, hS2, fun l => ?_⟩
    obtain ⟨d9, hd9⟩ : ∃ q, q = gR I2 (c + 141) 2 := ⟨_, rfl⟩
    have e9 : d9 = I (c + 143) := hd9.trans hd
    rw [← e9] at hE1 hE2
    have hN : eB σ Bn it len d9 ni nm nr np nd cd := by rw [hBn]; exact hE1.cp
    obtain ⟨⟨-, e0, ni4⟩, ⟨-, e1, nm4⟩, ⟨-, e2, nr8⟩, ⟨-, e3, np24⟩, ⟨-, e4, nd20⟩⟩ := hE1.1
    have hdv := hE1.dv
    rw [hd9] at e0 e1 e2 e3 e4 hdv
    have h := c_X8_escalate l D z (n := n2) (L := L2) (I := I2) (M := gR I2 (c + 141)) hS2.2.2.2.1 hu hu8 e4 nd20 (x := x) (fun q => ⟨nI_tn q, tn_lt q⟩) hdv
    rw [sR_get, ← hd9] at h
    refine h.imp (fun v3 n3 sh3 I3 L3 h3 => hfin _ _ ?_ (fun q => ?_) _ _ _ _ _ h3) (fun _ _ _ _ _ w => w)
    · refine rl_I rfl (fun c1 => rl_S rfl (by decide) ?_ (fun c3 => rl_ok ?_))
      · rw [(hE1.2.2.2.2.2.1 _ (tn_lt c1)).1.2.2.2.2.2.1]
      · exact (eq_esc hN hE2 (tn_lt c1) (by rw [hBn, (cp_K hE1 (tn_lt c1)).1]; exact c3)).2.2
    · obtain ⟨c1, q⟩ := mI_0 q
      obtain ⟨c3, q⟩ := mA_0 (by decide) q
      obtain ⟨b1, b2, -⟩ := eq_esc hN hE2 (tn_lt c1) (by rw [hBn, (cp_K hE1 (tn_lt c1)).1, (hE1.2.2.2.2.2.1 _ (tn_lt c1)).1.2.2.2.2.2.1]; exact c3)
      exact ⟨_, _, _, _, _, _, b1, b2⟩
theorem st_contest (D : yD) (z : Nat) {n : Nat} {sh : yS} {I : yI} {L : yL} {c : Nat} {x ev : Int32} (hA : lA c n sh I) : lawT D z c Int32.toInt64 yL_contest cL_contest 5 [(0, 10, 13, 18), (0, 10, 17, 13), (0, 10, 21, 65)] 11 3 18 yX8_contest cX8_contest 4 .int 5 [.int x, .int ev] n sh I L := by
  obtain ⟨at0, u, bl, hL⟩ := hA
  obtain ⟨su, f, m, len, it, σ, ni, nm, nr, np, nd, cd, hP, hB, hE, hE1, hE2, hlc⟩ := hL.cur
  intro l
  obtain ⟨at1, hat⟩ : ∃ q, q = (at0 + 1) % 9 := ⟨_, rfl⟩
  have h9 : at1 < 9 := by omega
  have hu8 := hL.2.2.1.2.1.2.1
  obtain ⟨Bp, hBp⟩ : ∃ q, q = gR I (c + 15 + 14 * at0) := ⟨_, rfl⟩
  obtain ⟨Bn, hBn⟩ : ∃ q, q = cpB Bp (gR I (c + 15 + 14 * at1)) := ⟨_, rfl⟩
  rw [← hBp] at hE1
  refine (w_contest l D z (o := c + 156) (fun l => by
    have h := c_X7_contest l D z (n := n) (L := L) (B := Bp) hP hB hE hE1.val hBp (i1 := c + 15 + 14 * at1) (K := hsI I (c + 3) at1 (min (u + 1) 8)) (Bn := Bn) (by rw [hat]) (by rw [hat]) hBn hL.2.1.2.2.2.2.2 hL.2.2.1.2.1.1 hu8 (x := x) (fun q => ⟨nI_tn q, tn_lt q⟩) (ev := ev)
    rw [hBp, sR_get, ← hBp] at h; exact h) (yC_o hP.1) (fun v n2 sh2 I2 L2 q => ?_) (fun E n2 sh2 I2 L2 q => ?_)).imp (fun v n2 sh2 I2 L2 hq => ?_)
  · obtain ⟨r, -, rfl, -, rfl, -⟩ := q
    exact ⟨⟨r, rfl⟩, (hL.2.1.up h9).2.2.2.2.1⟩
  · exact (oI_e q.1).elim Or.inl (fun w => (oA_e w).elim (fun e => Or.inr (Or.inl e)) (fun w => (oS_e w).elim (fun e => Or.inr (Or.inr e)) (fun w => (ok_e w).elim)))
  · rw [hBp] at hq
    obtain ⟨k, rfl, hS2, hd, hu, hfin⟩ := st_W hL hE hlc hat hq
    try rw [← hBp] at hfin
    refine ⟨k, rfl, hS2, fun l => ?_⟩
    obtain ⟨d9, hd9⟩ : ∃ q, q = gR I2 (c + 141) 2 := ⟨_, rfl⟩
    have e9 : d9 = I (c + 143) := hd9.trans hd
    rw [← e9] at hE1 hE2
    have hN : eB σ Bn it len d9 ni nm nr np nd cd := by rw [hBn]; exact hE1.cp
    obtain ⟨⟨-, e0, ni4⟩, ⟨-, e1, nm4⟩, ⟨-, e2, nr8⟩, ⟨-, e3, np24⟩, ⟨-, e4, nd20⟩⟩ := hE1.1
    have hdv := hE1.dv
    rw [hd9] at e0 e1 e2 e3 e4 hdv
    have h := c_X8_contest l D z (n := n2) (L := L2) (I := I2) (M := gR I2 (c + 141)) hS2.2.2.2.1 hu hu8 e4 nd20 (x := x) (fun q => ⟨nI_tn q, tn_lt q⟩) (ev := ev)
    rw [sR_get, ← hd9] at h
    refine h.imp (fun v3 n3 sh3 I3 L3 h3 => hfin _ _ ?_ (fun q => ?_) _ _ _ _ _ h3) (fun _ _ _ _ _ w => w)
    · refine rl_I rfl (fun c1 => rl_A rfl (by decide) (fun c2 => rl_S rfl (by decide) ?_ (fun c3 => rl_ok ?_)))
      · rw [(hE1.2.2.2.2.2.1 _ (tn_lt c1)).1.2.2.2.2.2.1]
      · obtain ⟨e2v, g1, g2, -⟩ := hN.or (tn_lt c1) c2
        rw [(eq_con hN hE2 (tn_lt c1) (by rw [hBn, (cp_K hE1 (tn_lt c1)).1]; exact c3) g2 g1).2.2]
    · obtain ⟨c1, q⟩ := mI_0 q
      obtain ⟨c2, q⟩ := mA_0 (by decide) q
      obtain ⟨c3, q⟩ := mA_0 (by decide) q
      obtain ⟨e2v, g1, g2, -⟩ := hN.or (tn_lt c1) c2
      obtain ⟨b1, b2, -⟩ := eq_con hN hE2 (tn_lt c1) (by rw [hBn, (cp_K hE1 (tn_lt c1)).1, (hE1.2.2.2.2.2.1 _ (tn_lt c1)).1.2.2.2.2.2.1]; exact c3) g2 g1
      exact ⟨_, _, _, _, _, _, b1, b2⟩
theorem s3_iff : ∀ s, s ≤ 5 → ((¬ nI s = 3 ∧ ¬ (nI s = 4 ∨ nI s = 5)) ↔ nI s < 3) := by decide +kernel
theorem s3_4 : ∀ s, s ≤ 5 → nI s < 3 → nI s < 4 ∧ ¬ nI s = 3 := by decide +kernel
theorem st_accept (D : yD) (z : Nat) {n : Nat} {sh : yS} {I : yI} {L : yL} {c : Nat} {x : Int32} (hA : lA c n sh I) : lawT D z c Int32.toInt64 yL_accept cL_accept 4 [(0, 9, 12, 18), (0, 9, 15, 65)] 11 2 12 yX8_accept cX8_accept 3 .int 5 [.int x] n sh I L := by
  obtain ⟨at0, u, bl, hL⟩ := hA
  obtain ⟨su, f, m, len, it, σ, ni, nm, nr, np, nd, cd, hP, hB, hE, hE1, hE2, hlc⟩ := hL.cur
  intro l
  obtain ⟨at1, hat⟩ : ∃ q, q = (at0 + 1) % 9 := ⟨_, rfl⟩
  have h9 : at1 < 9 := by omega
  have hu8 := hL.2.2.1.2.1.2.1
  obtain ⟨Bp, hBp⟩ : ∃ q, q = gR I (c + 15 + 14 * at0) := ⟨_, rfl⟩
  obtain ⟨Bn, hBn⟩ : ∃ q, q = cpB Bp (gR I (c + 15 + 14 * at1)) := ⟨_, rfl⟩
  rw [← hBp] at hE1
  refine (w_accept l D z (o := c + 156) (fun l => by
    have h := c_X7_accept l D z (n := n) (L := L) (B := Bp) hP hB hE hE1.val hBp (i1 := c + 15 + 14 * at1) (K := hsI I (c + 3) at1 (min (u + 1) 8)) (Bn := Bn) (by rw [hat]) (by rw [hat]) hBn hL.2.1.2.2.2.2.2 hL.2.2.1.2.1.1 hu8 (x := x) (fun q => ⟨nI_tn q, tn_lt q⟩)
    rw [hBp, sR_get, ← hBp] at h; exact h) (yC_o hP.1) (fun v n2 sh2 I2 L2 q => ?_) (fun E n2 sh2 I2 L2 q => ?_)).imp (fun v n2 sh2 I2 L2 hq => ?_)
  · obtain ⟨r, -, rfl, -, rfl, -⟩ := q
    exact ⟨⟨r, rfl⟩, (hL.2.1.up h9).2.2.2.2.1⟩
  · exact (oI_e q.1).elim Or.inl (fun w => (oS_e w).elim (fun e => Or.inr e) (fun w => (ok_e w).elim))
  · rw [hBp] at hq
    obtain ⟨k, rfl, hS2, hd, hu, hfin⟩ := st_W hL hE hlc hat hq
    try rw [← hBp] at hfin
    refine ⟨k, rfl, hS2, fun l => ?_⟩
    obtain ⟨d9, hd9⟩ : ∃ q, q = gR I2 (c + 141) 2 := ⟨_, rfl⟩
    have e9 : d9 = I (c + 143) := hd9.trans hd
    rw [← e9] at hE1 hE2
    have hN : eB σ Bn it len d9 ni nm nr np nd cd := by rw [hBn]; exact hE1.cp
    obtain ⟨⟨-, e0, ni4⟩, ⟨-, e1, nm4⟩, ⟨-, e2, nr8⟩, ⟨-, e3, np24⟩, ⟨-, e4, nd20⟩⟩ := hE1.1
    have hdv := hE1.dv
    rw [hd9] at e0 e1 e2 e3 e4 hdv
    have hs3 : vp_in x nd → ((¬ Bp 12 (tn x) = 3 ∧ ¬ (Bp 12 (tn x) = 4 ∨ Bp 12 (tn x) = 5)) ↔ d9 (164 + 8 * tn x + 5) < 3) := fun c1 => by
      obtain ⟨s, s1, s2, -⟩ := (hE1.2.2.2.2.2.1 _ (tn_lt c1)).2.2.2.2.2.2
      rw [← (hE1.2.2.2.2.2.1 _ (tn_lt c1)).1.2.2.2.2.2.1, s2]
      exact s3_iff s s1
    have hend : vp_in x nd → d9 (164 + 8 * tn x + 5) < 3 → eB σ (finB σ Bn (tn x) (idO σ it len Bn (tn x))) it len (endD d9 (tn x) (iD d9 (tn x)) (mD d9 (tn x)) (d9 (164 + 8 * tn x + 5) = 1) False) ni nm nr np nd cd ∧ (eT d9 nd → eT (endD d9 (tn x) (iD d9 (tn x)) (mD d9 (tn x)) (d9 (164 + 8 * tn x + 5) = 1) False) nd) := fun c1 c3 => by
      obtain ⟨s, s1, s2, -⟩ := (hE1.2.2.2.2.2.1 _ (tn_lt c1)).2.2.2.2.2.2
      have s4 : d9 (164 + 8 * tn x + 5) = nI s := by rw [← (hE1.2.2.2.2.2.1 _ (tn_lt c1)).1.2.2.2.2.2.1, s2]
      obtain ⟨s5, s6⟩ := s3_4 s s1 (by rw [← s4]; exact c3)
      refine eq_end hN (tn_lt c1) (by rw [s4]; exact s5) ⟨False.elim, fun q => s6 (by rw [← s4]; exact q)⟩ ?_
      rw [eq_id hN (tn_lt c1)]
      by_cases w : d9 (164 + 8 * tn x + 5) = 1
      · rw [if_pos w, if_pos (Or.inl w)]
      · rw [if_neg w, if_neg (fun q => q.elim w (fun r => s6 (by rw [← s4]; exact r.1)))]
    have h := c_X8_accept l D z (n := n2) (L := L2) (I := I2) (M := gR I2 (c + 141)) hS2.2.2.2.1 hu hu8 e4 nd20 (x := x) (fun q => ⟨nI_tn q, tn_lt q⟩) hdv
    rw [sR_get, ← hd9] at h
    refine h.imp (fun v3 n3 sh3 I3 L3 h3 => hfin _ _ ?_ (fun q => ?_) _ _ _ _ _ h3) (fun _ _ _ _ _ w => w)
    · refine rl_I rfl (fun c1 => rl_S rfl (by decide) (hs3 c1) (fun c3 => rl_ok ?_))
      have b := (hend c1 ((hs3 c1).mp c3)).1
      exact (b.2.2.2.2.2.1 _ (tn_lt c1)).1.2.2.2.2.2.1
    · obtain ⟨c1, q⟩ := mI_0 q
      obtain ⟨c3, q⟩ := mA_0 (by decide) q
      obtain ⟨b1, b2⟩ := hend c1 c3
      exact ⟨_, _, _, _, _, _, b1, b2 hE2⟩
theorem dy_100 {x : Int32} (h : ¬ x < 1 ∧ x ≤ 100) : x = nI (tn x) ∧ tn x ≤ 100 := by
  obtain ⟨a, a1, a2⟩ := gV (x := x) (lo := 1) (hi := 100) (by decide) (by decide) (fun q => q.elim h.1 (fun w => w h.2))
  rw [a2, tn_nI (by omega)]
  exact ⟨rfl, by omega⟩
theorem st_pass (D : yD) (z : Nat) {n : Nat} {sh : yS} {I : yI} {L : yL} {c : Nat} {x : Int32} (hA : lA c n sh I) : lawT D z c Int32.toInt64 yL_pass cL_pass 4 [(0, 9, 12, 13), (0, 9, 15, 65)] 11 2 12 yX8_pass cX8_pass 4 .int 6 [.int x] n sh I L := by
  obtain ⟨at0, u, bl, hL⟩ := hA
  obtain ⟨su, f, m, len, it, σ, ni, nm, nr, np, nd, cd, hP, hB, hE, hE1, hE2, hlc⟩ := hL.cur
  intro l
  obtain ⟨at1, hat⟩ : ∃ q, q = (at0 + 1) % 9 := ⟨_, rfl⟩
  have h9 : at1 < 9 := by omega
  have hu8 := hL.2.2.1.2.1.2.1
  obtain ⟨Bp, hBp⟩ : ∃ q, q = gR I (c + 15 + 14 * at0) := ⟨_, rfl⟩
  obtain ⟨Bn, hBn⟩ : ∃ q, q = cpB Bp (gR I (c + 15 + 14 * at1)) := ⟨_, rfl⟩
  rw [← hBp] at hE1
  refine (w_pass l D z (o := c + 156) (fun l => by
    have h := c_X7_pass l D z (n := n) (L := L) (B := Bp) hP hB hE hE1.val hBp (i1 := c + 15 + 14 * at1) (K := hsI I (c + 3) at1 (min (u + 1) 8)) (Bn := Bn) (by rw [hat]) (by rw [hat]) hBn hL.2.1.2.2.2.2.2 hL.2.2.1.2.1.1 hu8 (x := x) dy_100
    rw [hBp, sR_get, ← hBp] at h; exact h) (yC_o hP.1) (fun v n2 sh2 I2 L2 q => ?_) (fun E n2 sh2 I2 L2 q => ?_)).imp (fun v n2 sh2 I2 L2 hq => ?_)
  · obtain ⟨r, -, rfl, -, rfl, -⟩ := q
    exact ⟨⟨r, rfl⟩, (hL.2.1.up h9).2.2.2.2.1⟩
  · exact (oA_e q.1).elim Or.inl (fun w => (oS_e w).elim (fun e => Or.inr e) (fun w => (ok_e w).elim))
  · rw [hBp] at hq
    obtain ⟨k, rfl, hS2, hd, hu, hfin⟩ := st_W hL hE hlc hat hq
    try rw [← hBp] at hfin
    refine ⟨k, rfl, hS2, fun l => ?_⟩
    obtain ⟨d9, hd9⟩ : ∃ q, q = gR I2 (c + 141) 2 := ⟨_, rfl⟩
    have e9 : d9 = I (c + 143) := hd9.trans hd
    rw [← e9] at hE1 hE2
    have hN : eB σ Bn it len d9 ni nm nr np nd cd := by rw [hBn]; exact hE1.cp
    obtain ⟨⟨-, e0, ni4⟩, ⟨-, e1, nm4⟩, ⟨-, e2, nr8⟩, ⟨-, e3, np24⟩, ⟨-, e4, nd20⟩⟩ := hE1.1
    have hdv := hE1.dv
    rw [hd9] at e0 e1 e2 e3 e4 hdv
    have h := c_X8_pass l D z (n := n2) (L := L2) (I := I2) (M := gR I2 (c + 141)) hS2.2.2.2.1 hu hu8 hdv (x := x) dy_100
    rw [sR_get, ← hd9] at h
    refine h.imp (fun v3 n3 sh3 I3 L3 h3 => hfin _ _ ?_ (fun q => ?_) _ _ _ _ _ h3) (fun _ _ _ _ _ w => w)
    · refine rl_A rfl (by decide) (fun c1 => rl_S rfl (by decide) ?_ (fun c3 => rl_ok (eq_paS hN (tn x)).2))
      rw [hE1.2.1.1]
    · obtain ⟨c1, q⟩ := mA_0 (by decide) q
      obtain ⟨c3, q⟩ := mA_0 (by decide) q
      have c4 : d9 5 + nI (tn x) ≤ 9999 := by rw [← (dy_100 c1).1]; exact c3
      exact ⟨_, _, _, _, _, _, (eq_paS hN (tn x)).1, eq_pass hN hE2 (dy_100 c1).2 c4⟩
