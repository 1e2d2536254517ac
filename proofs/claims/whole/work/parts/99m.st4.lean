theorem newB_0 {B : yI} : newB B 0 1 = 0 ∧ newB B 0 4 = 0 ∧ newB B 0 5 = 0 ∧ newB B 0 10 = 0 := by
  unfold newB
  refine ⟨?_, ?_, ?_, ?_⟩
  · rw [up2_ne (by decide), up2_ne (by decide), up2_ne (by decide), va_up_c _ _ _ _ (by decide), va_up_c _ _ _ _ (by decide), up2_at]
  · rw [up2_ne (by decide), up2_ne (by decide), up2_at]
  · rw [up2_ne (by decide), up2_at]
  · rw [up2_at]
theorem newB_12 {B : yI} {i : Nat} (hi : i < 4) : newB B 1 i = 0 ∧ newB B 2 i = 0 := by
  unfold newB
  refine ⟨?_, ?_⟩
  · rw [up2_r (by decide), up2_r (by decide), up2_r (by decide), va_up_c _ _ _ _ (by decide), va_up_self]
    exact if_pos hi
  · rw [up2_r (by decide), up2_r (by decide), up2_r (by decide), va_up_self]
    exact if_pos hi
theorem gI_cC {P : yPs} {nr cnt : Nat} (h : gI P nr) (hi : P.1 < cnt) (hc : cnt ≤ 901) : (cC P.2.2.2.2).length < 1499 := by
  by_cases q : P.2.2.2.1 2002 = 0
  · rw [h.2.2.2.2.2.1 q]; exact Nat.zero_lt_succ _
  · have := (h.2.2.2.2.2.2 q).2.2
    omega
set_option maxHeartbeats 4000000 in
theorem st_load (D : yD) (z : Nat) {n : Nat} {sh : yS} {I : yI} {L : yL} {c : Nat} {x : Int32} (hA : lA c n sh I) : lawT D z c Int32.toInt64 yL_load cL_load 4 [(0, 9, 12, 13)] 25 30 5000 yX8_load cX8_load 2 .int 22 [.int x] n sh I L := by
  obtain ⟨at0, u, bl, hL⟩ := hA
  obtain ⟨su, f, m, len0, it, σ, ni, nm, nr, np, nd, cd, hP, hB, hE, hE1, hE2, hlc⟩ := hL.cur
  obtain ⟨hat, hu, ⟨t1, t2, t3⟩, d1, e1⟩ := hL.2.2.1
  have h0n := hL.1
  obtain ⟨len, hlen⟩ : ∃ q, q = tn x := ⟨_, rfl⟩
  have hx : ¬ x < 0 ∧ x ≤ nI bl → x = nI len ∧ len ≤ bl := fun q => by
    obtain ⟨a, a1, a2⟩ := gV (x := x) (lo := 0) (hi := bl) (by decide) (by omega) (fun w => w.elim q.1 (fun w => w q.2))
    rw [hlen, a2, tn_nI (by omega)]
    exact ⟨rfl, a1⟩
  intro l
  refine (w_load l D z (o := c + 156) (fun l => c_X7_load l D z (n := n) (L := L) hP hL.2.1.2.2.1 hB hL.2.1.2.2.2.2.2 hu.1 hu.2.1 (by omega) t1 t2 hx) (yC_o hP.1) (fun v n2 sh2 I2 L2 q => ?_) (fun E n2 sh2 I2 L2 q => q.1.1)).imp (fun v n2 sh2 I2 L2 hq => ?_)
  · obtain ⟨-, -, -, q⟩ := q
    rcases q with ⟨-, rfl, q⟩ | ⟨-, rfl, q, -⟩
    · exact ⟨⟨_, rfl⟩, by unfold yArr; rw [(q (c + 156) (by omega)).1]; exact hL.2.1.2.2.2.2.1⟩
    · exact ⟨⟨_, rfl⟩, by unfold yArr; rw [q (c + 156) (by omega), upr_ne (by omega)]; exact hL.2.1.2.2.2.2.1⟩
  obtain ⟨G, hG⟩ : ∃ q, q = gTxt (I (c + 142)) len := ⟨_, rfl⟩
  have hGc : gTxt (I (c + 2)) len = G := by rw [hG]; exact gTxt_cg e1
  -- the model's contract from a heap whose model is as before
  have mod : ∀ (l : Launch) (I2 : yI) (n2 : Nat) (sh2 : yS) (L2 : yL), lS c sh2 → (∀ b, b < 15 → I2 (c + 141 + b) = I (c + 141 + b)) → yM l D z yX8_load cX8_load 2 (some .int) 22 0 0 [.ref (c + 141), .int x] n2 sh2 I2 L2 (mlQ n2 sh2 I2 (c + 141) (gR I2 (c + 141)) u len L2 x bl) yno := fun l I2 n2 sh2 L2 hS h => by
    have q0 : I2 (c + 141) = I (c + 141) := h 0 (by decide)
    have q1 : gR I2 (c + 141) 1 = I (c + 142) := h 1 (by decide)
    have hh := c_X8_load l D z (n := n2) (L := L2) (I := I2) (M := gR I2 (c + 141)) hS.2.2.2.1 (by rw [q1]; exact e1.by) (u := u) (by show I2 (c + 141) 12 = _; rw [q0]; exact hu.2.2) hu.2.1 (bl := bl) (by show I2 (c + 141) 2 = _; rw [q0]; exact t3) t2 (x := x) hx
    rw [sR_get] at hh
    exact hh
  rcases hq with ⟨r, L1, rfl, rfl, hcd, hn2, hL1, hq⟩ | ⟨E, rfl, ⟨rfl, hcd⟩, hn, rfl, rfl, rfl⟩
  · rcases hq with ⟨ge, hv, hq⟩ | ⟨ge, hv, hsh, J, hJ, hldR, hI2⟩
    · -- an error in the text
      rw [hGc] at ge hv hq
      have hr : r = G.2.1 := Value.int.inj (Option.some.inj hv)
      have kI : ∀ a, a < n → a ≠ c → a ≠ c + 1 → I2 a = I a := fun a x0 x1 x2 => by rw [(hq a x0).2, up2_r x1, up2_r x2]
      have hS2 : lS c sh2 := hL.2.1.cg (fun a _ y => (hq a (by omega)).1)
      refine ⟨0, rfl, hS2, fun l => (mod l I2 n2 sh2 _ hS2 (fun b hb => kI _ (by omega) (by omega) (by omega))).imp (fun v3 n3 sh3 I3 L3 h3 => ?_) (fun _ _ _ _ _ w => w)⟩
      obtain ⟨rfl, rfl, rfl, M2, rfl, h3⟩ := h3
      have g1 : gR I2 (c + 141) 1 = I (c + 142) := kI (c + 142) (by omega) (by omega) (by omega)
      rw [g1, ← hG] at h3
      rcases h3 with ⟨q, -⟩ | ⟨-, M3, m1, ⟨m2, m3, m4, m5⟩, h3⟩
      · exact absurd hcd q
      rcases h3 with ⟨-, rfl, rfl⟩ | ⟨q, -⟩
      rotate_left
      · exact absurd q ge
      obtain ⟨K3, hK3⟩ : ∃ q, q = sR 15 I2 (c + 141) M2 := ⟨_, rfl⟩
      rw [← hK3]
      have o3 : ∀ a, (a < c + 141 ∨ c + 156 ≤ a) → K3 a = I2 a := fun a ha => by rw [hK3]; exact sR_out (by omega)
      have i3 : ∀ b, b < 15 → K3 (c + 141 + b) = M2 b := fun b hb => by rw [hK3]; exact sR_at hb
      have i0 : K3 (c + 141) = M2 0 := i3 0 (by decide)
      refine ⟨_, rfl, by rw [i0]; exact m2, fun _ => by rw [up2L_at, hr], at0, u, 0, hL.num hn2.1 (fun a x0 => (hq a x0).1) (fun a x x0 x1 x2 x3 x4 x5 _ => ?_) ⟨⟨hat.1, ?_⟩, ⟨?_, hu.2.1, ?_⟩, ⟨?_, by omega, ?_⟩, ?_, ?_⟩⟩
      · by_cases q : c + 141 ≤ a ∧ a < c + 156
        · obtain ⟨b, rfl⟩ : ∃ b, a = c + 141 + b := ⟨a - (c + 141), by omega⟩
          rw [i3 b (by omega), m1 b (by omega) (by omega)]
          exact kI _ (by omega) (by omega) (by omega)
        · rw [o3 a (by omega)]; exact kI a x x0 x1
      · rw [o3 _ (by omega), kI _ (by omega) (by omega) (by omega)]; exact hat.2
      · rw [o3 _ (by omega), kI _ (by omega) (by omega) (by omega)]; exact hu.1
      · rw [i0, m5]
        show I2 (c + 141) 12 = _
        rw [kI _ (by omega) (by omega) (by omega)]; exact hu.2.2
      · rw [o3 _ (by omega), (hq (c + 1) (by omega)).2, up2_r (by omega), up2_at]; rfl
      · rw [i0, m3]; rfl
      · rw [o3 _ (by omega), (hq c (by omega)).2, up2_at, i0, m4]
        unfold eatP
        rw [if_neg ge]
      · rw [o3 _ (by omega), kI _ (by omega) (by omega) (by omega), show K3 (c + 142) = _ from i3 1 (by decide), m1 1 (by decide) (by decide), g1]; exact e1
    · -- a new book
      rw [hGc] at ge hv
      have hr : r = G.2.2.2.1 2 := Value.int.inj (Option.some.inj hv)
      obtain ⟨at1, hat1⟩ : ∃ q, q = (at0 + 1) % 9 := ⟨_, rfl⟩
      obtain ⟨u1, hu1⟩ : ∃ q, q = min (u + 1) 8 := ⟨_, rfl⟩
      rw [← hat1] at hsh hI2
      rw [← hu1] at hI2
      have h9 : at1 < 9 := by omega
      have kI : ∀ a, a ≠ c → a ≠ c + 1 → a ≠ c + 3 → (a < c + 15 + 14 * at1 ∨ c + 15 + 14 * at1 + 14 ≤ a) → I2 a = J a := fun a x1 x2 x3 x4 => by rw [hI2, sR_out x4, hsI_ne x3, up2_r x1, up2_r x2]
      have hS2 : lS c sh2 := (hL.2.1.up (s2 := n + 5) h9).cg (fun a _ y => hsh a (by omega))
      have k41 : ∀ b, b < 15 → I2 (c + 141 + b) = I (c + 141 + b) := fun b hb => by rw [kI _ (by omega) (by omega) (by omega) (by omega), hJ _ (by omega)]
      refine ⟨0, rfl, hS2, fun l => (mod l I2 n2 sh2 _ hS2 k41).imp (fun v3 n3 sh3 I3 L3 h3 => ?_) (fun _ _ _ _ _ w => w)⟩
      obtain ⟨rfl, rfl, rfl, M2, rfl, h3⟩ := h3
      have g1 : gR I2 (c + 141) 1 = I (c + 142) := k41 1 (by decide)
      rw [g1, ← hG] at h3
      rcases h3 with ⟨q, -⟩ | ⟨-, M3, m1, ⟨m2, m3, m4, m5⟩, h3⟩
      · exact absurd hcd q
      rcases h3 with ⟨q, -⟩ | ⟨-, rfl, mD, mC, M4, hR, rfl⟩
      · exact absurd ge q
      unfold rmP at hR
      rw [← hu1] at hR
      obtain ⟨r2, r1, r0, r12, rh1, rh2, r3⟩ := hR
      obtain ⟨K3, hK3⟩ : ∃ q, q = sR 15 I2 (c + 141) (va_up M4 2 (cpyD (M4 3) (M4 2) 1824)) := ⟨_, rfl⟩
      rw [← hK3]
      have o3 : ∀ a, (a < c + 141 ∨ c + 156 ≤ a) → K3 a = I2 a := fun a ha => by rw [hK3]; exact sR_out (by omega)
      have i3 : ∀ b, b < 15 → b ≠ 2 → K3 (c + 141 + b) = M4 b := fun b hb hb2 => by rw [hK3, sR_at hb, va_up_c _ _ _ _ hb2]
      have i0 : K3 (c + 141) = M4 0 := i3 0 (by decide) (by decide)
      have i2 : K3 (c + 143) = cpyD (M4 3) (M4 2) 1824 := by rw [hK3, show c + 143 = c + 141 + 2 from rfl, sR_at (by decide), va_up_self]
      refine ⟨_, rfl, by rw [i0, r0 0 (by decide)]; exact m2, fun _ => by rw [up2L_at, hr], at1, u1, 0, hL.push (su2 := n + 5) hn2.1 hat1 hu1 hsh hE.2.1 hlc.fo (fun a x0 x1 x2 => ?_) ⟨⟨h9, ?_⟩, ⟨?_, by omega, ?_⟩, ⟨?_, by omega, ?_⟩, ?_, ?_⟩ ?_ (fun j hj => ?_) (fun t tt1 tt2 j hj => ?_)⟩
      · rw [o3 a (by omega), kI a (by omega) (by omega) (by omega) (by omega)]; exact hJ a x0
      · rw [o3 _ (by omega), hI2, sR_out (by omega)]; unfold hsI; rw [up2_ne (by decide), up2_at]
      · rw [o3 _ (by omega), hI2, sR_out (by omega)]; unfold hsI; rw [up2_at]
      · rw [i0]; exact r12
      · rw [o3 _ (by omega), hI2, sR_out (by omega), hsI_ne (by omega), up2_r (by omega), up2_at]; rfl
      · rw [i0, r0 2 (by decide)]; exact m3
      · rw [o3 _ (by omega), hI2, sR_out (by omega), hsI_ne (by omega), up2_at, i0, r0 7 (by decide), m4]
        unfold eatP
        rw [if_pos ge]
      · rw [o3 _ (by omega), kI _ (by omega) (by omega) (by omega) (by omega), hJ _ (by omega), show K3 (c + 142) = _ from i3 1 (by decide) (by decide), r1, m1 1 (by decide) (by decide), g1]; exact e1
      · obtain ⟨fr, fm, k9, w9, Z2, hZ, hrc, hph⟩ := hldR
        rw [hGc] at hrc hph
        obtain ⟨nr9, hgi⟩ := gI_txt (b := I (c + 142)) (len := len) (by rw [← hG]; exact ge)
        rw [← hG] at hgi
        have hcnt : (tk (I (c + 2)) len len 0).length ≤ 901 := by have := tk_len (b := I (c + 2)) (N := len) len 0; have := (hx hcd).2; omega
        have hN := gI_cC hgi hrc.1.2.1.2 hcnt
        have dj : ∀ j, j < 1824 → K3 (c + 143) j = M3 3 j := fun j hj => by rw [i2, show cpyD (M4 3) (M4 2) 1824 j = M4 3 j from if_pos hj, r3]
        have bk : ∀ k, k < 14 → gR K3 (c + 15 + 14 * at1) k = newB (cpB (gR J (c + 15 + 14 * at0)) (gR J (c + 15 + 14 * at1))) k := fun k hk => by
          show K3 (c + 15 + 14 * at1 + k) = _
          rw [o3 _ (by omega), hI2]; exact sR_at hk
        have up : ∀ j, j < 18 → K3 (n + j) = Z2 j := fun j hj => by rw [o3 _ (by omega), kI _ (by omega) (by omega) (by omega) (by omega)]; exact hZ j hj
        obtain ⟨ln, ni9, nm9, a1, a2, a3, a4, a5, a6, a7, a8, a9, b1, b2, b3⟩ := eB_new (B := gR K3 (c + 15 + 14 * at1)) (d := K3 (c + 143)) (σ := fun k => Z2 (5 + k)) ge hgi hcnt hrc hph (fun j hj hj10 => by rw [dj j (by omega)]; exact mD j hj hj10) (by rw [dj 10 (by decide)]; exact mC.1) (fun i hi => by rw [dj _ (by omega)]; exact mC.2 i hi) (by rw [bk 0 (by decide)]; exact newB_0) (fun i hi => by rw [bk 1 (by decide), bk 2 (by decide)]; exact newB_12 hi) (fun k _ _ => rfl)
        obtain ⟨s9, hs9⟩ := hL.2.1.2.2.2.2.2 at1 h9
        refine ⟨n + 5, n + fr, fm, ln, Z2 (fr + 1), fun k => Z2 (5 + k), ni9, nm9, nr9, 0, 0, G.2.2.2.2, (hs9.up (s2 := n + 5)).cg (fun a x0 x1 => hsh a (by omega)), ⟨a7, a8, fun k k1 k2 => ?_, ?_, ?_, a1, by omega, a9⟩, b1, b2, ⟨Or.inr ⟨by omega, by omega⟩, by omega, by omega⟩⟩
        · rw [show n + 5 + k = n + (5 + k) by omega]; exact up _ (by omega)
        · rw [up fr (by omega)]; exact a2
        · rw [show n + fr + 1 = n + (fr + 1) by omega]; exact up _ (by omega)
      · have e := rh1 j hj
        rw [show c + 147 + (u1 - 1) = c + 141 + (6 + (u1 - 1)) by omega, i3 _ (by omega) (by omega), e, m1 2 (by decide) (by decide)]
        show I2 (c + 141 + 2) j = _
        rw [k41 2 (by decide)]
      · have e := rh2 t tt1 tt2 j hj
        have hu8 := hu.2.1
        rw [show c + 147 + (u1 - 1 - t) = c + 141 + (6 + (u1 - 1 - t)) by omega, i3 _ (by omega) (by omega), e, m1 _ (by omega) (by omega)]
        show I2 (c + 141 + (6 + (u - t))) j = _
        rw [k41 _ (by omega), show c + 141 + (6 + (u - t)) = c + 147 + (u - t) by omega]
  · -- no such length
    refine ⟨1, rfl, hL.2.1, fun l => (mod l I2 n2 sh2 L2 hL.2.1 (fun _ _ => rfl)).imp (fun v3 n3 sh3 I3 L3 h3 => ?_) (fun _ _ _ _ _ w => w)⟩
    obtain ⟨rfl, rfl, rfl, M2, rfl, h3⟩ := h3
    rcases h3 with ⟨-, rfl, rfl⟩ | ⟨q, -⟩
    rotate_left
    · exact absurd q hcd
    rw [sR_m0]
    exact ⟨_, rfl, up2_at, fun q => absurd q (by decide), at0, u, bl, hL.keep hn (fun _ _ => rfl) hE.2.1 hlc.fo (fun a _ _ x _ _ => up2_r x) (fun j hj => up2_ne (by omega))⟩
