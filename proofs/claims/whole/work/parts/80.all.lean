/-- the rows of a new reader -/
def zI (Z : yI) (len : Nat) : Prop := (Z 0 = fun _ => 0) ∧ (Z 1 1 = nI len ∧ Z 1 5 = 0) ∧ ((Z 2 = fun _ => 0) ∧ (Z 3 = fun _ => 0) ∧ (Z 4 = fun _ => 0)) ∧ (Z 5 0 = 1 ∧ Z 5 1 = 1 ∧ Z 5 2 = 0 ∧ Z 5 3 = 0 ∧ Z 5 4 = 100 ∧ Z 5 6 = 0) ∧ (Z 6 2 = 1 ∧ Z 7 0 = -1)
theorem rc_init {b : Nat → Int32} {len : Nat} {Z W T : yI} (hz : zI Z len) (hW : cuP T W 0 (tk b len len 0)) : rcP (tkK (tk b len len 0)) (tkV (tk b len len 0)) (tkS (tk b len len 0)) (tk b len len 0).length 6 1 (sR 4 Z 1 W) gP0 := by
  obtain ⟨z0, ⟨z11, z15⟩, ⟨z2, z3, z4⟩, ⟨a0, a1, a2, a3, a4, a6⟩, ⟨f0, f1⟩⟩ := hz
  obtain ⟨w1, -, w3⟩ := hW
  have r0 : sR 4 Z 1 W 0 = fun _ => 0 := (sR_out (by omega)).trans z0
  have r1 : sR 4 Z 1 W 1 = W 0 := sR_at (i := 1) (k := 0) (by decide)
  have r2 : sR 4 Z 1 W 2 = W 1 := sR_at (i := 1) (k := 1) (by decide)
  have r3 : sR 4 Z 1 W 3 = W 2 := sR_at (i := 1) (k := 2) (by decide)
  have r4 : sR 4 Z 1 W 4 = W 3 := sR_at (i := 1) (k := 3) (by decide)
  have r5 : sR 4 Z 1 W 5 = Z 5 := sR_out (by omega)
  have r6 : sR 4 Z 1 W 6 = Z 6 := sR_out (by omega)
  have r7 : sR 4 Z 1 W 7 = Z 7 := sR_out (by omega)
  have hk : W 1 = tkK (tk b len len 0) := funext fun i => by have := (w3 i).1; rw [Nat.zero_add] at this; exact this
  have hs : W 2 = tkS (tk b len len 0) := funext fun i => by have := (w3 i).2.1; rw [Nat.zero_add] at this; exact this
  have hv : W 3 = tkV (tk b len len 0) := funext fun i => by have := (w3 i).2.2; rw [Nat.zero_add] at this; exact this
  rw [Nat.zero_add] at w1
  unfold rcP rcS rcD rcF
  rw [r0, r1, r2, r3, r4, r5, r6, r7, hk, hs, hv, w1]
  refine ⟨⟨⟨rfl, rfl, rfl, rfl⟩, ⟨rfl, tk_pos _ _⟩, rfl, fun q => absurd rfl q, ⟨0, by decide, a6, rfl⟩, ⟨1, Nat.le_refl _, f0⟩, Or.inl rfl, Or.inl rfl, Or.inl rfl, Or.inl rfl⟩, fun _ => ⟨⟨⟨rfl, rfl, rfl, rfl⟩, ⟨a0, a1, a2, a3, a4, a6⟩, fun j hj => absurd hj (Nat.not_lt_zero _), rfl⟩, ?_, fun _ => rfl, Nat.le_refl _⟩⟩
  rw [if_neg (by decide)]
  refine ⟨f0, fun j hj => ?_⟩
  have : j = 0 := by have hj : j < 1 := hj; omega
  subst this
  exact f1
theorem p_cut (l : Launch) (D : yD) (z : Nat) {n : Nat} {sh : yS} {I : yI} {L : yL} {r b len : Nat} {Z : yI} (hP : yPar sh r b (len + 1)) (hb : b < r) (hl9 : len ≤ 900) (hz : zI Z len) : yM l D z yX6_cut cX6_cut 3 none 6 0 0 [.ref (r + 1)] n sh (sR 18 I r Z) L (yF none n sh (sR 18 I r (sR 4 Z 1 (cuS (I b) len len 0 0 (gR (sR 18 I r Z) (r + 1))))) L) yno := by
  have hT : yTok sh (r + 1) b (len + 1) 900 := ⟨yP_t hP, yP_t0 hP, yP_t2 hP, yP_t3 hP, yP_t4 hP, yP_b hP, yP_a2 hP, yP_a3 hP, yP_a4 hP⟩
  have h := c_X6_cut l D z (n := n) (I := sR 18 I r Z) (L := L) (T := gR (sR 18 I r Z) (r + 1)) (by8 := I b) hT (Or.inl (by omega)) (sR_out (by omega)) ((congrFun (sR_at (i := r) (k := 1) (by decide)) 1).trans hz.2.1.1) hl9 ((congrFun (sR_at (i := r) (k := 1) (by decide)) 5).trans hz.2.1.2)
  rw [sR_get, sR_in (by decide)] at h
  exact h
set_option maxRecDepth 100000 in
set_option maxHeartbeats 4000000 in
theorem c_X5_readAll (l : Launch) (D : yD) (z : Nat) {sh : yS} {I : yI} {L : yL} {r b len : Nat} {Z : yI} (hP : yPar sh r b (len + 1)) (hT : ySet sh (r + 5) (r + 6)) (hF : yFor sh (r + 6) 1) (hb : b < r) (hl9 : len ≤ 900) (hz : zI Z len) : yM l D z yX5_readAll cX5_readAll 2 none 23 6 ((tk (I b) len len 0).length + 14 + ((tk (I b) len len 0).length + 14)) [.ref r] (r + 15) sh (sR 18 I r Z) L (raQ sh I L r b (len + 1) (tk (I b) len len 0).length (tkK (tk (I b) len len 0)) (tkV (tk (I b) len len 0)) (tkS (tk (I b) len len 0)) gP0) (yno) := by
  refine yM_of (by decide) (Nat.le_of_ble_eq_true rfl) rfl ?_
  intro X hC hr hnm hRc hRs htb
  have hC : yC X D z cX5_readAll RX5 2 23 := hC
  refine y_aload_n hC dX5_readAll_0 rfl ?_
  refine y_getR hC (yP_o hP) (yP_r0 hP) f_X5_9 rfl dX5_readAll_1 ?_
  refine y_callV0 hC (p_cut X.2.1 D z hP hb hl9 hz) m_X5_22 rfl (yP_t hP) (by decide) (Nat.le_of_ble_eq_true rfl) (Nat.zero_le _) (Nat.zero_le _) dX5_readAll_4 ?_
  refine y_iconst (v := nI 0) hC dX5_readAll_7 (by decide) ?_
  refine y_istore_n hC dX5_readAll_8 (by decide) rfl ?_
  have hc := tk_len (b := I b) (N := len) len 0
  have hX : yPx (tkK (tk (I b) len len 0)) sh r b (len + 1) (tk (I b) len len 0).length := ⟨hP, by omega, hc, fun j hj hn => Nat.lt_of_le_of_ne hj (fun q => hn ((tk_end len 0 j hj).mpr q)), hT.1⟩
  exact c_readAll_loop X D z hb (by omega) hC hr hRc hRs (tk (I b) len len 0).length 0 (r + 15) sh I L 0 0 6 1 _ gP0 (by omega) ⟨fun a ha => ⟨rfl, rfl, rfl⟩, hX, rc_init hz (cuS_tk len 0 0 _ (fun i _ => ⟨by rw [show gR (sR 18 I r Z) (r + 1) 1 = Z 2 from sR_at (i := r) (k := 2) (by decide), hz.2.2.1.1], by rw [show gR (sR 18 I r Z) (r + 1) 2 = Z 3 from sR_at (i := r) (k := 3) (by decide), hz.2.2.1.2.1], by rw [show gR (sR 18 I r Z) (r + 1) 3 = Z 4 from sR_at (i := r) (k := 4) (by decide), hz.2.2.1.2.2]⟩)), Or.inl ⟨rfl, rfl, rfl, rfl, rfl, hT, hF, fun _ => rfl⟩, ⟨by decide, Nat.zero_le _⟩, Or.inl rfl⟩ rfl
