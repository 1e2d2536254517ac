section EB4
variable {σ B : yI} {it : Nat → Int32} {len : Nat} {d : Nat → Int32} {ni nm nr np nd : Nat} {cd : List Int32}
/-- rows 11, 12, 13 of dispute k are written, then the money moves -/
theorem act_U {k p i m : Nat} {g ev s dl : Int32} {B1 : yI} (h0 : ∀ r, r ≠ 11 → r ≠ 12 → r ≠ 13 → B1 r = B r) (h11 : ∀ j, B1 11 j = if j = k then ev else B 11 j) (h12 : ∀ j, B1 12 j = if j = k then s else B 12 j) (h13 : ∀ j, B1 13 j = if j = k then dl else B 13 j) (z4 : B 3 p = nI i) (z5 : B 4 p = nI m) (hi : i < 4) (hm : m < 4) : bU B (moveB B1 p g 0) i m k g 0 ev s dl := by
  have a3 : B1 3 = B 3 := h0 3 (by decide) (by decide) (by decide)
  have a4 : B1 4 = B 4 := h0 4 (by decide) (by decide) (by decide)
  have b0 : B1 0 = B 0 := h0 0 (by decide) (by decide) (by decide)
  have b1 : B1 1 = B 1 := h0 1 (by decide) (by decide) (by decide)
  have b2 : B1 2 = B 2 := h0 2 (by decide) (by decide) (by decide)
  obtain ⟨v1, v2, v3, v4, v5⟩ := mv_b (B := B1) (g := g) (w := 0) (by rw [a3]; exact z4) (by rw [a4]; exact z5) hi hm
  rw [b0] at v2 v3
  rw [b1] at v4
  rw [b2] at v5
  refine ⟨fun r r0 r1 r2 r11 r12 r13 => by rw [v1 r r0 r1 r2, h0 r r11 r12 r13], ⟨v2 1 (by decide), v2 5 (by decide), v2 10 (by decide), v3⟩, v4, v5, fun j => ?_, fun j => ?_, fun j => ?_⟩
  · rw [v1 11 (by decide) (by decide) (by decide)]; exact h11 j
  · rw [v1 12 (by decide) (by decide) (by decide)]; exact h12 j
  · rw [v1 13 (by decide) (by decide) (by decide)]; exact h13 j
theorem sm_nI {t a : Nat} : nI t + nI a = nI (t + a) := nI_add t a
/-- the deadline of an open dispute -/
theorem dl_in {t : Nat} {x : Int32} {a : Nat} (ht : t ≤ 9999) (h5 : d 5 = nI t) (ha : a ≤ 60) (hx : x = nI a) : ∃ t e, d 5 = nI t ∧ t ≤ 9999 ∧ d 5 + x = nI e ∧ t ≤ e ∧ e ≤ t + 60 := ⟨t, t + a, h5, ht, by rw [h5, hx, nI_add], by omega, by omega⟩
theorem or_8 : ∀ a, a < 256 → ∀ b, b < 256 → a ||| b < 256 := fun a ha b hb => Nat.or_lt_two_pow (n := 8) ha hb
theorem nI_or (a b : Nat) : nI a ||| nI b = nI (a ||| b) := by
  apply Int32.toBitVec_inj.mp
  apply BitVec.eq_of_toNat_eq
  show ((nI a).toBitVec ||| (nI b).toBitVec).toNat = (nI (a ||| b)).toBitVec.toNat
  rw [BitVec.toNat_or]
  show (BitVec.ofNat 32 a).toNat ||| (BitVec.ofNat 32 b).toNat = (BitVec.ofNat 32 (a ||| b)).toNat
  rw [BitVec.toNat_ofNat, BitVec.toNat_ofNat, BitVec.toNat_ofNat, Nat.or_mod_two_pow]
theorem eq_rep (h : eB σ B it len d ni nm nr np nd cd) (ht : eT d nd) {k : Nat} (hk : k < nd) (hst : B 12 k = 0) {e2 : Nat} {ev : Int32} (hev : B 11 k ||| ev = nI e2) (he2 : e2 < 256) : eB σ (repB σ B k ev) it len (goD (give1D (upd d (164 + 8 * k + 4) (d (164 + 8 * k + 4) ||| ev)) k (iD d k) (mD d k)) k 1 (give1D (upd d (164 + 8 * k + 4) (d (164 + 8 * k + 4) ||| ev)) k (iD d k) (mD d k) (20 + 6 * rD d k + 3))) ni nm nr np nd cd ∧ eT (goD (give1D (upd d (164 + 8 * k + 4) (d (164 + 8 * k + 4) ||| ev)) k (iD d k) (mD d k)) k 1 (give1D (upd d (164 + 8 * k + 4) (d (164 + 8 * k + 4) ||| ev)) k (iD d k) (mD d k) (20 + 6 * rD d k + 3))) nd := by
  obtain ⟨p, i, m, r, e9, ne, x1, x2, x3, x4, x5, x6, y1, y2, y3, y4, y5, y6, z1, z2, z3, z4, z5, z6, w1, w2, w3, w4, w5, w6⟩ := h.k hk
  obtain ⟨⟨k7, k8, k9, k10, k11, k12, k13⟩, -, -, -, -, -, ⟨s, s1, s2, s3⟩⟩ := h.2.2.2.2.2.1 k hk
  have ni4 := h.1.1.2.2
  have nm4 := h.1.2.1.2.2
  have np24 := h.1.2.2.2.1.2.2
  have nr8 := h.1.2.2.1.2.2
  have nd20 := h.1.2.2.2.2.2.2
  obtain ⟨rr, -, -, ⟨a, a1, a2⟩⟩ := h.2.2.2.1 r y4
  obtain ⟨t, t1, t2, -⟩ := id ht
  have s0 : s = 0 := by
    rw [s2] at hst
    exact nI_eq2 (b := 0) hst
  rw [s0] at s3
  have wm : d (164 + 8 * k + 7) = 0 := s3
  have hB : bU B (repB σ B k ev) i m k (B 9 k) 0 (B 11 k ||| ev) 1 (B 0 1 + σ 7 r) := by
    unfold repB
    rw [z1, tn_nI (by omega), z2, tn_nI (by omega)]
    refine act_U (fun r h1 h2 h3 => by rw [up2_r h3, up2_r h2, up2_r h1]) (fun j => ?_) (fun j => ?_) (fun j => ?_) z4 z5 (by omega) (by omega)
    · rw [up2_r (by decide), up2_r (by decide)]; rfl
    · rw [up2_r (by decide)]; rfl
    · rfl
  rw [x2, x3, x4]
  have hg : give1D (upd d (164 + 8 * k + 4) (d (164 + 8 * k + 4) ||| ev)) k i m = upd (payD (upd d (164 + 8 * k + 4) (d (164 + 8 * k + 4) ||| ev)) (12 + i) (16 + m) (d (164 + 8 * k + 2))) (164 + 8 * k + 7) 1 := by
    unfold give1D
    rw [upd_ne9 (by omega), if_neg (by rw [wm]; decide), upd_ne9 (by omega)]
  have hD : dU d (goD (give1D (upd d (164 + 8 * k + 4) (d (164 + 8 * k + 4) ||| ev)) k i m) k 1 (give1D (upd d (164 + 8 * k + 4) (d (164 + 8 * k + 4) ||| ev)) k i m (20 + 6 * r + 3))) i m k (B 9 k) 0 (B 11 k ||| ev) 1 (B 0 1 + σ 7 r) 1 := by
    rw [hg]
    unfold goD
    have e5 : upd (upd (payD (upd d (164 + 8 * k + 4) (d (164 + 8 * k + 4) ||| ev)) (12 + i) (16 + m) (d (164 + 8 * k + 2))) (164 + 8 * k + 7) 1) (164 + 8 * k + 5) 1 5 = d 5 := by rw [upd_ne9 (by omega), upd_ne9 (by omega), pay_n (by omega) (by omega), upd_ne9 (by omega)]
    have e6 : upd (payD (upd d (164 + 8 * k + 4) (d (164 + 8 * k + 4) ||| ev)) (12 + i) (16 + m) (d (164 + 8 * k + 2))) (164 + 8 * k + 7) 1 (20 + 6 * r + 3) = σ 7 r := by rw [upd_ne9 (by omega), pay_n (by omega) (by omega), upd_ne9 (by omega)]; exact (rr 3 (by decide)).symm
    rw [e5, e6]
    refine ⟨fun j _ j1 j2 j3 j4 j5 j6 j7 => by rw [upd_ne9 j6, upd_ne9 j5, upd_ne9 j7, pay_n j1 j2, upd_ne9 j4], ⟨?_, ?_, ?_⟩, ⟨?_, ?_, ?_, ?_⟩⟩
    · rw [upd_ne9 (by omega), upd_ne9 (by omega), upd_ne9 (by omega), pay_f (by omega), upd_ne9 (by omega), k9]; grind
    · rw [upd_ne9 (by omega), upd_ne9 (by omega), upd_ne9 (by omega), pay_t (by omega), upd_ne9 (by omega), k9]
    · rw [upd_ne9 (by omega), upd_ne9 (by omega), upd_ne9 (by omega), pay_n (by omega) (by omega), upd_ne9 (by omega)]; grind
    · rw [upd_ne9 (by omega), upd_ne9 (by omega), upd_ne9 (by omega), pay_n (by omega) (by omega), upd_same, k11]
    · rw [upd_ne9 (by omega), upd_same]
    · rw [upd_same, h.2.1.1]
    · rw [upd_ne9 (by omega), upd_ne9 (by omega), upd_same]
  exact ⟨h.U hk (by omega) (by omega) hB hD ⟨e2, he2, hev⟩ ⟨1, by decide, by decide, by decide⟩, ht.U nd20 (by omega) (by omega) hD (fun _ => by rw [h.2.1.1]; exact dl_in t1 t2 a1 a2)⟩
theorem eq_esc (h : eB σ B it len d ni nm nr np nd cd) (ht : eT d nd) {k : Nat} (hk : k < nd) (hst : B 12 k = 1) : eB σ (escB σ B k) it len (goD (give0D d k (iD d k) (mD d k)) k 2 (give0D d k (iD d k) (mD d k) (20 + 6 * rD d k + 2))) ni nm nr np nd cd ∧ eT (goD (give0D d k (iD d k) (mD d k)) k 2 (give0D d k (iD d k) (mD d k) (20 + 6 * rD d k + 2))) nd ∧ escB σ B k 13 k = goD (give0D d k (iD d k) (mD d k)) k 2 (give0D d k (iD d k) (mD d k) (20 + 6 * rD d k + 2)) (164 + 8 * k + 6) := by
  obtain ⟨p, i, m, r, e9, ne, x1, x2, x3, x4, x5, x6, y1, y2, y3, y4, y5, y6, z1, z2, z3, z4, z5, z6, w1, w2, w3, w4, w5, w6⟩ := h.k hk
  obtain ⟨⟨k7, k8, k9, k10, k11, k12, k13⟩, -, -, -, -, -, ⟨s, s1, s2, s3⟩⟩ := h.2.2.2.2.2.1 k hk
  have ni4 := h.1.1.2.2
  have nm4 := h.1.2.1.2.2
  have np24 := h.1.2.2.2.1.2.2
  have nr8 := h.1.2.2.1.2.2
  have nd20 := h.1.2.2.2.2.2.2
  obtain ⟨rr, -, ⟨a, a1, a2⟩, -⟩ := h.2.2.2.1 r y4
  obtain ⟨t, t1, t2, -⟩ := id ht
  have s0 : s = 1 := by
    rw [s2] at hst
    exact nI_eq2 (b := 1) hst
  rw [s0] at s3
  have wm : d (164 + 8 * k + 7) = 1 := s3
  have hB : bU B (escB σ B k) i m k (-B 9 k) 0 (B 11 k) 2 (B 0 1 + σ 6 r) := by
    unfold escB
    rw [z1, tn_nI (by omega), z2, tn_nI (by omega)]
    refine act_U (fun r h1 h2 h3 => by rw [up2_r h3, up2_r h2]) (fun j => ?_) (fun j => ?_) (fun j => ?_) z4 z5 (by omega) (by omega)
    · rw [up2_r (by decide), up2_r (by decide)]
      by_cases q : j = k
      · rw [if_pos q, q]
      · rw [if_neg q]
    · rw [up2_r (by decide)]; rfl
    · rfl
  rw [x2, x3, x4]
  have hg : give0D d k i m = upd (payD d (16 + m) (12 + i) (d (164 + 8 * k + 2))) (164 + 8 * k + 7) 0 := by
    unfold give0D
    rw [if_pos wm]
  have hD : dU d (goD (give0D d k i m) k 2 (give0D d k i m (20 + 6 * r + 2))) i m k (-B 9 k) 0 (B 11 k) 2 (B 0 1 + σ 6 r) 0 := by
    rw [hg]
    unfold goD
    have e5 : upd (upd (payD d (16 + m) (12 + i) (d (164 + 8 * k + 2))) (164 + 8 * k + 7) 0) (164 + 8 * k + 5) 2 5 = d 5 := by rw [upd_ne9 (by omega), upd_ne9 (by omega), pay_n (by omega) (by omega)]
    have e6 : upd (payD d (16 + m) (12 + i) (d (164 + 8 * k + 2))) (164 + 8 * k + 7) 0 (20 + 6 * r + 2) = σ 6 r := by rw [upd_ne9 (by omega), pay_n (by omega) (by omega)]; exact (rr 2 (by decide)).symm
    rw [e5, e6]
    refine ⟨fun j _ j1 j2 j3 j4 j5 j6 j7 => by rw [upd_ne9 j6, upd_ne9 j5, upd_ne9 j7, pay_n j2 j1], ⟨?_, ?_, ?_⟩, ⟨?_, ?_, ?_, ?_⟩⟩
    · rw [upd_ne9 (by omega), upd_ne9 (by omega), upd_ne9 (by omega), pay_t (by omega), k9]; grind
    · rw [upd_ne9 (by omega), upd_ne9 (by omega), upd_ne9 (by omega), pay_f (by omega), k9]; grind
    · rw [upd_ne9 (by omega), upd_ne9 (by omega), upd_ne9 (by omega), pay_n (by omega) (by omega)]; grind
    · rw [upd_ne9 (by omega), upd_ne9 (by omega), upd_ne9 (by omega), pay_n (by omega) (by omega), k11]
    · rw [upd_ne9 (by omega), upd_same]
    · rw [upd_same, h.2.1.1]
    · rw [upd_ne9 (by omega), upd_ne9 (by omega), upd_same]
  refine ⟨h.U hk (by omega) (by omega) hB hD ⟨e9, y5, z3⟩ ⟨2, by decide, by decide, by decide⟩, ht.U nd20 (by omega) (by omega) hD (fun _ => by rw [h.2.1.1]; exact dl_in t1 t2 a1 a2), ?_⟩
  rw [hB.2.2.2.2.2.2 k, if_pos rfl, hD.2.2.2.2.1]
theorem eq_con (h : eB σ B it len d ni nm nr np nd cd) (ht : eT d nd) {k : Nat} (hk : k < nd) (hst : B 12 k = 2) {e2 : Nat} {ev : Int32} (hev : B 11 k ||| ev = nI e2) (he2 : e2 < 256) : eB σ (arbB B k ev) it len (goD (upd d (164 + 8 * k + 4) (d (164 + 8 * k + 4) ||| ev)) k 3 10) ni nm nr np nd cd ∧ eT (goD (upd d (164 + 8 * k + 4) (d (164 + 8 * k + 4) ||| ev)) k 3 10) nd ∧ arbB B k ev 13 k = goD (upd d (164 + 8 * k + 4) (d (164 + 8 * k + 4) ||| ev)) k 3 10 (164 + 8 * k + 6) := by
  obtain ⟨⟨k7, k8, k9, k10, k11, k12, k13⟩, -, -, -, -, -, ⟨s, s1, s2, s3⟩⟩ := h.2.2.2.2.2.1 k hk
  have nd20 := h.1.2.2.2.2.2.2
  obtain ⟨t, t1, t2, -⟩ := id ht
  have s0 : s = 2 := by
    rw [s2] at hst
    exact nI_eq2 (b := 2) hst
  rw [s0] at s3
  have wm : d (164 + 8 * k + 7) = 0 := s3
  have hB : bU B (arbB B k ev) 0 0 k 0 0 (B 11 k ||| ev) 3 (B 0 1 + 10) := by
    unfold arbB
    refine ⟨fun r _ _ _ h1 h2 h3 => by rw [up2_r h3, up2_r h2, up2_r h1], ⟨rfl, rfl, rfl, ?_⟩, fun j => ?_, fun j => ?_, fun j => ?_, fun j => ?_, fun j => ?_⟩
    · show B 0 4 = B 0 4 + 0; grind
    · rw [up2_r (by decide), up2_r (by decide), up2_r (by decide)]
      by_cases q : j = 0
      · rw [if_pos q, q]; grind
      · rw [if_neg q]
    · rw [up2_r (by decide), up2_r (by decide), up2_r (by decide)]
      by_cases q : j = 0
      · rw [if_pos q, q]; grind
      · rw [if_neg q]
    · rw [up2_r (by decide), up2_r (by decide)]; rfl
    · rw [up2_r (by decide)]; rfl
    · rfl
  have hD : dU d (goD (upd d (164 + 8 * k + 4) (d (164 + 8 * k + 4) ||| ev)) k 3 10) 0 0 k 0 0 (B 11 k ||| ev) 3 (B 0 1 + 10) 0 := by
    unfold goD
    have e5 : upd (upd d (164 + 8 * k + 4) (d (164 + 8 * k + 4) ||| ev)) (164 + 8 * k + 5) 3 5 = d 5 := by rw [upd_ne9 (by omega), upd_ne9 (by omega)]
    rw [e5]
    refine ⟨fun j _ j1 j2 j3 j4 j5 j6 j7 => by rw [upd_ne9 j6, upd_ne9 j5, upd_ne9 j4], ⟨?_, ?_, ?_⟩, ⟨?_, ?_, ?_, ?_⟩⟩
    · rw [upd_ne9 (by omega), upd_ne9 (by omega), upd_ne9 (by omega)]; grind
    · rw [upd_ne9 (by omega), upd_ne9 (by omega), upd_ne9 (by omega)]; grind
    · rw [upd_ne9 (by omega), upd_ne9 (by omega), upd_ne9 (by omega)]; grind
    · rw [upd_ne9 (by omega), upd_ne9 (by omega), upd_same, k11]
    · rw [upd_ne9 (by omega), upd_same]
    · rw [upd_same, h.2.1.1]
    · rw [upd_ne9 (by omega), upd_ne9 (by omega), upd_ne9 (by omega)]; exact wm
  refine ⟨h.U hk (by omega) (by omega) hB hD ⟨e2, he2, hev⟩ ⟨3, by decide, by decide, by decide⟩, ht.U nd20 (by omega) (by omega) hD (fun _ => by rw [h.2.1.1]; exact dl_in t1 t2 (a := 10) (by decide) (by decide)), ?_⟩
  rw [hB.2.2.2.2.2.2 k, if_pos rfl, hD.2.2.2.2.1]
/-- the day's number goes on -/
theorem eB.day (h : eB σ B it len d ni nm nr np nd cd) : eB σ (up2 B 0 1 (B 0 1 + 1)) it len (upd d 5 (d 5 + 1)) ni nm nr np nd cd := by
  obtain ⟨⟨⟨c1, c2, c3⟩, ⟨c4, c5, c6⟩, ⟨c7, c8, c9⟩, ⟨c10, c11, c12⟩, ⟨c13, c14, c15⟩⟩, ⟨s1, s2, s3, s4, s5⟩, hA, hR, hP, hK, hF⟩ := h
  have u : ∀ j, j ≠ 5 → upd d 5 (d 5 + 1) j = d j := fun j hj => upd_ne9 hj
  have b : ∀ r, r ≠ 0 → up2 B 0 1 (B 0 1 + 1) r = B r := fun r hr => up2_r hr
  refine ⟨⟨⟨c1, c2, c3⟩, ⟨c4, c5, c6⟩, ⟨c7, c8, c9⟩, ⟨c10, c11, c12⟩, ⟨c13, c14, c15⟩⟩, ⟨?_, s2, s3, s4, s5⟩, fun i hi => ?_, fun r hr => ⟨fun c hc => ?_, (hR r hr).2⟩, fun p hp => ?_, fun k hk => ?_, hF.cg (fun j hj => u j (by omega))⟩
  · show B 0 1 + 1 = d 5 + 1; rw [s1]
  · rw [b 1 (by decide), b 2 (by decide), u _ (by omega), u _ (by omega)]; exact hA i hi
  · rw [u _ (by omega)]; exact (hR r hr).1 c hc
  · rw [b 3 (by decide), b 4 (by decide), b 5 (by decide), b 6 (by decide), u _ (by omega), u _ (by omega), u _ (by omega), u _ (by omega)]; exact hP p hp
  · unfold eK
    rw [b 7 (by decide), b 8 (by decide), b 9 (by decide), b 10 (by decide), b 11 (by decide), b 12 (by decide), b 13 (by decide), u _ (by omega), u _ (by omega), u _ (by omega), u _ (by omega), u _ (by omega), u _ (by omega), u _ (by omega), u _ (by omega)]; exact hK k hk
theorem eq_daS (h : eB σ B it len d ni nm nr np nd cd) : ∀ n, n ≤ nd → eB σ (daS σ it len B n).1 it len (pdS d cd n).1 ni nm nr np nd cd ∧ (daS σ it len B n).2 = (pdS d cd n).2
  | 0, _ => ⟨h.day, rfl⟩
  | n + 1, hn => by
    obtain ⟨h1, h2⟩ := eq_daS h n (by omega)
    unfold daS pdS
    have e1 := eq_fin h1 (k := n) (by omega)
    obtain ⟨⟨-, -, -, -, -, k12, k13⟩, -⟩ := h1.2.2.2.2.2.1 n (by omega)
    have hc : (¬ ((daS σ it len B n).1 12 n = 4 ∨ (daS σ it len B n).1 12 n = 5) ∧ ¬ (daS σ it len B n).1 0 1 ≤ (daS σ it len B n).1 13 n) ↔ duP (pdS d cd n).1 n := by
      rw [e1, k13, h1.2.1.1]
      unfold duP
      rw [Decidable.not_not, Int32.not_le]
    by_cases c : duP (pdS d cd n).1 n
    · rw [if_pos c, if_pos (hc.mpr c), h2]
      exact ⟨(eq_end h1 (by omega) c.1 Iff.rfl (eq_id h1 (by omega))).1, rfl⟩
    · rw [if_neg c, if_neg (fun q => c (hc.mp q))]
      exact ⟨h1, h2⟩
theorem eq_paS (h : eB σ B it len d ni nm nr np nd cd) : ∀ t, eB σ (paS σ it len B nd t).1 it len (pmS d cd nd t).1 ni nm nr np nd cd ∧ (paS σ it len B nd t).2 = (pmS d cd nd t).2
  | 0 => ⟨h, rfl⟩
  | t + 1 => by
    obtain ⟨h1, h2⟩ := eq_paS h t
    obtain ⟨h3, h4⟩ := eq_daS h1 nd (Nat.le_refl _)
    unfold paS pmS
    exact ⟨h3, by rw [h2, h4]⟩
end EB4
