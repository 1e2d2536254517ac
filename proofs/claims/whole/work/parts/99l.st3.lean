/-- only the text and the numbers have changed -/
theorem LI.num {c n n2 : Nat} {sh sh2 : yS} {I I2 : yI} {at0 u bl bl2 : Nat} (h : LI c n sh I at0 u bl) (hn : n ≤ n2) (hsh : ∀ a, a < n → sh2 a = sh a) (hI : ∀ a, a < n → a ≠ c → a ≠ c + 1 → a ≠ c + 2 → a ≠ c + 141 → a ≠ c + 142 → a ≠ c + 144 → a ≠ c + 145 → I2 a = I a) (hV : lV c I2 at0 u bl2) : LI c n2 sh2 I2 at0 u bl2 := by
  obtain ⟨su, f, m, len, it, σ, ni, nm, nr, np, nd, cd, hP, hB9, hE, hE1, hE2, hlc⟩ := h.cur
  obtain ⟨h0, hS, ⟨⟨a1, -⟩, ⟨-, b2, -⟩, -⟩, hB⟩ := h
  refine ⟨by omega, hS.cg (fun a _ x => hsh a (by omega)), hV, fun t ht => ?_⟩
  have r : I2 (if t = 0 then c + 143 else c + 147 + (u - t)) = I (if t = 0 then c + 143 else c + 147 + (u - t)) := by
    split
    · exact hI _ (by omega) (by omega) (by omega) (by omega) (by omega) (by omega) (by omega) (by omega)
    · exact hI _ (by omega) (by omega) (by omega) (by omega) (by omega) (by omega) (by omega) (by omega)
  rw [r]
  exact (hB t ht).mv hn (fun k hk => ⟨hsh _ (by omega), hI _ (by omega) (by omega) (by omega) (by omega) (by omega) (by omega) (by omega) (by omega)⟩) hE.2.1 (fun a x y => ⟨hsh a x, fun z => hI a x (by omega) (by omega) (by omega) (by omega) (by omega) (by omega) (by omega)⟩) (fun _ _ => rfl)
/-- one step back -/
theorem LI.pop {c n : Nat} {sh : yS} {I I3 : yI} {at0 u bl : Nat} (h : LI c n sh I at0 u bl) (hu : u ≠ 0) (hI : ∀ a, a < n → a ≠ c + 3 → a ≠ c + 141 → a ≠ c + 143 → I3 a = I a) (h1 : I3 (c + 3) 1 = nI ((at0 + 8) % 9)) (h2 : I3 (c + 3) 2 = nI (u - 1)) (h3 : ∀ j, (j = 2 ∨ j = 7) → I3 (c + 141) j = I (c + 141) j) (h4 : I3 (c + 141) 12 = nI (u - 1)) (h5 : ∀ j, j < 1824 → I3 (c + 143) j = I (c + 147 + (u - 1)) j) : LI c n sh I3 ((at0 + 8) % 9) (u - 1) bl := by
  obtain ⟨su, f, m, len, it, σ, ni, nm, nr, np, nd, cd, hP, hB9, hE, hE1, hE2, hlc⟩ := h.cur
  obtain ⟨h0, hS, ⟨⟨a1, a2⟩, ⟨b1, b2, b3⟩, ⟨c1, c2, c3⟩, d1, e1⟩, hB⟩ := h
  refine ⟨h0, hS, ⟨⟨by omega, h1⟩, ⟨h2, by omega, h4⟩, ⟨?_, c2, ?_⟩, ?_, ?_⟩, fun t ht => ?_⟩
  · rw [hI (c + 1) (by omega) (by omega) (by omega) (by omega)]; exact c1
  · rw [h3 2 (by omega)]; exact c3
  · rw [hI c (by omega) (by omega) (by omega) (by omega), h3 7 (by omega)]; exact d1
  · rw [hI (c + 2) (by omega) (by omega) (by omega) (by omega), hI (c + 142) (by omega) (by omega) (by omega) (by omega)]; exact e1
  · have hb := hB (t + 1) (by omega)
    rw [if_neg (by omega), show (at0 + 9 - (t + 1)) % 9 = ((at0 + 8) % 9 + 9 - t) % 9 by omega] at hb
    refine hb.mv (Nat.le_refl _) (fun k hk => ⟨rfl, hI _ (by omega) (by omega) (by omega) (by omega)⟩) hE.2.1 (fun a x y => ⟨rfl, fun z => hI a x (by omega) (by omega) (by omega)⟩) (fun j hj => ?_)
    by_cases t0 : t = 0
    · subst t0
      rw [if_pos rfl]
      exact h5 j hj
    · rw [if_neg t0, hI _ (by omega) (by omega) (by omega) (by omega), show u - 1 - t = u - (t + 1) by omega]
theorem st_errorOffset (D : yD) (z : Nat) {n : Nat} {sh : yS} {I : yI} {L : yL} {c : Nat} (hA : lA c n sh I) : lawP D z c yX7_errorOffset cX7_errorOffset 1 0 yX8_errorOffset cX8_errorOffset 1 0 .int [] n sh I L := by
  obtain ⟨at0, u, bl, hL⟩ := hA
  obtain ⟨su, f, m, len, it, σ, ni, nm, nr, np, nd, cd, hP, hB, hE, hE1, hE2, hlc⟩ := hL.cur
  intro l
  refine (c_X7_errorOffset l D z (n := n) (L := L) hP.1).imp (fun v n2 sh2 I2 L2 hq => ?_) (fun _ _ _ _ _ w => w)
  obtain ⟨rfl, rfl, rfl, rfl, rfl⟩ := hq
  refine ⟨_, rfl, fun _ => ⟨_, rfl⟩, (fun q => by cases q), hL.2.1, fun l => ?_⟩
  have h := c_X8_errorOffset l D z (n := n2) (L := L2) (I := I2) (M := gR I2 (c + 141)) hL.2.1.2.2.2.1
  rw [sR_get] at h
  exact h.imp (fun v3 n3 sh3 I3 L3 h3 => st_Pf hL hE.2.1 hlc.fo hL.2.2.1.2.2.2.1 h3) (fun _ _ _ _ _ w => w)
theorem st_checksum (D : yD) (z : Nat) {n : Nat} {sh : yS} {I : yI} {L : yL} {c : Nat} (hA : lA c n sh I) : lawP D z c yX7_checksum cX7_checksum 5 1 yX8_checksum cX8_checksum 4 2 .long [] n sh I L := by
  obtain ⟨at0, u, bl, hL⟩ := hA
  obtain ⟨su, f, m, len, it, σ, ni, nm, nr, np, nd, cd, hP, hB, hE, hE1, hE2, hlc⟩ := hL.cur
  intro l
  have h0 := c_X7_checksum l D z (n := n) (L := L) (B := gR I (c + 15 + 14 * at0)) hP hB hE hE1.val
  rw [sR_get] at h0
  refine h0.imp (fun v n2 sh2 I2 L2 hq => ?_) (fun _ _ _ _ _ w => w)
  obtain ⟨rfl, rfl, rfl, rfl, rfl⟩ := hq
  refine ⟨_, rfl, (fun q => by cases q), fun _ => ⟨_, rfl⟩, hL.2.1, fun l => ?_⟩
  obtain ⟨⟨-, e0, ni4⟩, ⟨-, e1, nm4⟩, ⟨-, e2, nr8⟩, ⟨-, e3, np24⟩, ⟨-, e4, nd20⟩⟩ := hE1.1
  have h := c_X8_checksum l D z (n := n2) (L := L2) (I := I2) (M := gR I2 (c + 141)) hL.2.1.2.2.2.1 e0 ni4 e1 nm4 e3 np24 e4 nd20
  rw [sR_get] at h
  refine h.imp (fun v3 n3 sh3 I3 L3 h3 => ?_) (fun _ _ _ _ _ w => w)
  obtain ⟨rfl, rfl, rfl, rfl, rfl⟩ := h3
  rw [sR_m0]
  refine ⟨?_, at0, u, bl, hL.keep (Nat.le_refl _) (fun _ _ => rfl) hE.2.1 hlc.fo (fun a _ _ x _ _ => up2_r x) (fun j hj => up2_ne (by omega))⟩
  rw [eq_ck hE1]
  rfl
theorem st_undo (D : yD) (z : Nat) {n : Nat} {sh : yS} {I : yI} {L : yL} {c : Nat} (hA : lA c n sh I) : lawP D z c yX7_undo cX7_undo 1 1 yX8_undo cX8_undo 1 1 .int [] n sh I L := by
  obtain ⟨at0, u, bl, hL⟩ := hA
  obtain ⟨su, f, m, len, it, σ, ni, nm, nr, np, nd, cd, hP, hB, hE, hE1, hE2, hlc⟩ := hL.cur
  have hu := hL.2.2.1.2.1
  intro l
  refine (c_X7_undo l D z (n := n) (L := L) hP hu.1 hu.2.1).imp (fun v n2 sh2 I2 L2 hq => ?_) (fun _ _ _ _ _ w => w)
  rcases hq with ⟨h0, rfl, rfl, rfl, rfl, rfl⟩ | ⟨h0, rfl, rfl, rfl, rfl, rfl⟩
  · refine ⟨_, rfl, fun _ => ⟨_, rfl⟩, (fun q => by cases q), hL.2.1, fun l => ?_⟩
    have h := c_X8_undo l D z (n := n2) (L := L2) (I := I2) (M := gR I2 (c + 141)) hL.2.1.2.2.2.1 hu.2.2 hu.2.1
    rw [sR_get] at h
    refine h.imp (fun v3 n3 sh3 I3 L3 h3 => ?_) (fun _ _ _ _ _ w => w)
    obtain ⟨rfl, rfl, rfl, h3⟩ := h3
    rcases h3 with ⟨-, rfl, rfl⟩ | ⟨q, -⟩
    · rw [sR_m0]
      exact ⟨rfl, at0, u, bl, hL.keep (Nat.le_refl _) (fun _ _ => rfl) hE.2.1 hlc.fo (fun a _ _ x _ _ => up2_r x) (fun j hj => up2_ne (by omega))⟩
    · exact absurd h0 q
  · refine ⟨_, rfl, fun _ => ⟨_, rfl⟩, (fun q => by cases q), hL.2.1, fun l => ?_⟩
    obtain ⟨J2, hJ2⟩ : ∃ q, q = hsI I (c + 3) ((at0 + 8) % 9) (u - 1) := ⟨_, rfl⟩
    rw [← hJ2]
    have hJ : ∀ a, a ≠ c + 3 → J2 a = I a := fun a x => by rw [hJ2]; exact hsI_ne x
    have h := c_X8_undo l D z (n := n2) (L := L2) (I := J2) (M := gR J2 (c + 141)) hL.2.1.2.2.2.1 (u := u) (by show J2 (c + 141) 12 = _; rw [hJ _ (by omega)]; exact hu.2.2) hu.2.1
    rw [sR_get] at h
    refine h.imp (fun v3 n3 sh3 I3 L3 h3 => ?_) (fun _ _ _ _ _ w => w)
    obtain ⟨rfl, rfl, rfl, h3⟩ := h3
    rcases h3 with ⟨q, -⟩ | ⟨-, rfl, rfl⟩
    · exact absurd q h0
    obtain ⟨K3, hK3⟩ : ∃ q, q = sR 15 J2 (c + 141) (va_up (up2 (up2 (gR J2 (c + 141)) 0 0 0) 0 12 (nI (u - 1))) 2 (cpyD (gR J2 (c + 141) (6 + (u - 1))) (gR J2 (c + 141) 2) 1824)) := ⟨_, rfl⟩
    rw [← hK3]
    have o3 : ∀ a, (a < c + 141 ∨ c + 156 ≤ a) → K3 a = J2 a := fun a ha => by rw [hK3]; exact sR_out (by omega)
    have i3 : ∀ b, b < 15 → K3 (c + 141 + b) = va_up (up2 (up2 (gR J2 (c + 141)) 0 0 0) 0 12 (nI (u - 1))) 2 (cpyD (gR J2 (c + 141) (6 + (u - 1))) (gR J2 (c + 141) 2) 1824) b := fun b hb => by rw [hK3]; exact sR_at hb
    have i0 : K3 (c + 141) = up2 (up2 (gR J2 (c + 141)) 0 0 0) 0 12 (nI (u - 1)) 0 := (i3 0 (by decide)).trans (va_up_c _ _ _ _ (by decide))
    refine ⟨rfl, _, _, bl, hL.pop h0 (fun a x x1 x2 x3 => ?_) ?_ ?_ (fun j hj => ?_) ?_ (fun j hj => ?_)⟩
    · by_cases q : c + 141 ≤ a ∧ a < c + 156
      · obtain ⟨b, rfl⟩ : ∃ b, a = c + 141 + b := ⟨a - (c + 141), by omega⟩
        rw [i3 b (by omega), va_up_c _ _ _ _ (by omega), up2_r (by omega), up2_r (by omega)]
        exact hJ _ (by omega)
      · rw [o3 a (by omega)]; exact hJ a x1
    · rw [o3 _ (by omega), hJ2]; unfold hsI; rw [up2_ne (by decide), up2_at]
    · rw [o3 _ (by omega), hJ2]; unfold hsI; rw [up2_at]
    · rw [i0, up2_ne (by omega), up2_ne (by omega)]
      show J2 (c + 141) j = _
      rw [hJ _ (by omega)]
    · rw [i0, up2_at]
    · rw [show K3 (c + 143) = _ from i3 2 (by decide), va_up_self, show cpyD (gR J2 (c + 141) (6 + (u - 1))) (gR J2 (c + 141) 2) 1824 j = gR J2 (c + 141) (6 + (u - 1)) j from if_pos hj]
      show J2 (c + 141 + (6 + (u - 1))) j = _
      rw [hJ _ (by omega), show c + 141 + (6 + (u - 1)) = c + 147 + (u - 1) by omega]
theorem st_append (D : yD) (z : Nat) {n : Nat} {sh : yS} {I : yI} {L : yL} {c : Nat} {w0 w1 w2 w3 w4 : Int32} (hA : lA c n sh I) : lawP D z c yX7_append cX7_append 6 1 yX8_append cX8_append 8 0 .int [.int w0, .int w1, .int w2, .int w3, .int w4] n sh I L := by
  obtain ⟨at0, u, bl, hL⟩ := hA
  obtain ⟨su, f, m, len, it, σ, ni, nm, nr, np, nd, cd, hP, hB, hE, hE1, hE2, hlc⟩ := hL.cur
  obtain ⟨hat, hu, ⟨t1, t2, t3⟩, d1, e1⟩ := hL.2.2.1
  intro l
  have h0 := c_X7_append l D z (n := n) (L := L) (I := I) (B := gR I (c + 1)) hP.1 hL.2.1.2.2.1 (len := bl) t1 t2 (w0 := w0) (w1 := w1) (w2 := w2) (w3 := w3) (w4 := w4)
  rw [sR_get] at h0
  refine h0.imp (fun v n2 sh2 I2 L2 hq => ?_) (fun _ _ _ _ _ w => w)
  rcases hq with ⟨g0, rfl, rfl, rfl, hI2, rfl⟩ | ⟨g0, rfl, rfl, rfl, hI2, rfl⟩
  · refine ⟨_, rfl, fun _ => ⟨_, rfl⟩, (fun q => by cases q), hL.2.1, fun l => ?_⟩
    have hJ : ∀ a, a ≠ c + 1 → a ≠ c + 2 → I2 a = I a := fun a x y => by rw [hI2]; exact sR_out (by omega)
    have hJ1 : I2 (c + 1) = appB (gR I (c + 1)) bl w0 w1 w2 w3 w4 0 := by rw [hI2]; exact sR_at0 (by decide)
    have hJ2 : I2 (c + 2) = appB (gR I (c + 1)) bl w0 w1 w2 w3 w4 1 := by rw [hI2]; exact sR_at (i := c + 1) (k := 1) (by decide)
    have h := c_X8_append l D z (n := n2) (L := L2) (I := I2) (M := gR I2 (c + 141)) hL.2.1.2.2.2.1 (len := bl) (by show I2 (c + 141) 2 = _; rw [hJ _ (by omega) (by omega)]; exact t3) t2 (w0 := w0) (w1 := w1) (w2 := w2) (w3 := w3) (w4 := w4)
    rw [sR_get] at h
    refine h.imp (fun v3 n3 sh3 I3 L3 h3 => ?_) (fun _ _ _ _ _ w => w)
    obtain ⟨rfl, rfl, rfl, h3⟩ := h3
    rcases h3 with ⟨-, rfl, hI3⟩ | ⟨q, -⟩
    rotate_left
    · exact absurd g0 q
    have o3 : ∀ a, (a < c + 141 ∨ c + 156 ≤ a) → I3 a = I2 a := fun a ha => by rw [hI3]; exact sR_out (by omega)
    have i3 : ∀ b, b < 15 → I3 (c + 141 + b) = apM (gR I2 (c + 141)) bl w0 w1 w2 w3 w4 20 b := fun b hb => by rw [hI3]; exact sR_at hb
    have i0 : I3 (c + 141) = up2 (up2 (gR I2 (c + 141)) 0 0 0) 0 2 (nI (bl + 20)) 0 := (i3 0 (by decide)).trans (va_up_c _ _ _ _ (by decide))
    refine ⟨rfl, at0, u, bl + 20, hL.num (Nat.le_refl _) (fun _ _ => rfl) (fun a x x0 x1 x2 x3 x4 _ _ => ?_) ⟨⟨hat.1, ?_⟩, ⟨?_, hu.2.1, ?_⟩, ⟨?_, g0, ?_⟩, ?_, ?_⟩⟩
    · by_cases q : c + 141 ≤ a ∧ a < c + 156
      · obtain ⟨b, rfl⟩ : ∃ b, a = c + 141 + b := ⟨a - (c + 141), by omega⟩
        rw [i3 b (by omega)]
        unfold apM
        rw [va_up_c _ _ _ _ (by omega), up2_r (by omega), up2_r (by omega)]
        exact hJ _ (by omega) (by omega)
      · rw [o3 a (by omega)]; exact hJ a x1 x2
    · rw [o3 _ (by omega), hJ _ (by omega) (by omega)]; exact hat.2
    · rw [o3 _ (by omega), hJ _ (by omega) (by omega)]; exact hu.1
    · rw [i0, up2_ne (by decide), up2_ne (by decide)]
      show I2 (c + 141) 12 = _
      rw [hJ _ (by omega) (by omega)]; exact hu.2.2
    · rw [o3 _ (by omega), hJ1]; exact appB_0
    · rw [i0, up2_at]
    · rw [o3 _ (by omega), hJ _ (by omega) (by omega), i0, up2_ne (by decide), up2_ne (by decide)]
      show _ = I2 (c + 141) 7
      rw [hJ _ (by omega) (by omega)]; exact d1
    · rw [o3 _ (by omega), hJ2, show I3 (c + 142) = _ from i3 1 (by decide)]
      unfold apM
      rw [va_up_self, show gR I2 (c + 141) 1 = I (c + 142) from hJ _ (by omega) (by omega)]
      exact byR.app (B := gR I (c + 1)) e1
  · subst hI2
    refine ⟨_, rfl, fun _ => ⟨_, rfl⟩, (fun q => by cases q), hL.2.1, fun l => ?_⟩
    have h := c_X8_append l D z (n := n2) (L := L2) (I := I2) (M := gR I2 (c + 141)) hL.2.1.2.2.2.1 (len := bl) t3 t2 (w0 := w0) (w1 := w1) (w2 := w2) (w3 := w3) (w4 := w4)
    rw [sR_get] at h
    refine h.imp (fun v3 n3 sh3 I3 L3 h3 => ?_) (fun _ _ _ _ _ w => w)
    obtain ⟨rfl, rfl, rfl, h3⟩ := h3
    rcases h3 with ⟨q, -⟩ | ⟨-, rfl, rfl⟩
    · exact absurd q g0
    rw [sR_m0]
    exact ⟨rfl, at0, u, bl, hL.keep (Nat.le_refl _) (fun _ _ => rfl) hE.2.1 hlc.fo (fun a _ _ x _ _ => up2_r x) (fun j hj => up2_ne (by omega))⟩
