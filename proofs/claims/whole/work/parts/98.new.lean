section EB5
variable {σ B : yI} {it : Nat → Int32} {len : Nat} {d : Nat → Int32} {ni nm nr np nd : Nat} {cd : List Int32}
theorem eB.cgB (h : eB σ B it len d ni nm nr np nd cd) {B2 : yI} (h0 : ∀ j, (j = 1 ∨ j = 4 ∨ j = 5 ∨ j = 10) → B2 0 j = B 0 j) (h1 : ∀ r j, (r = 1 ∨ r = 2) → j < 4 → B2 r j = B r j) (h3 : ∀ r j, 3 ≤ r → r ≤ 6 → j < np → B2 r j = B r j) (h7 : ∀ r j, 7 ≤ r → r ≤ 13 → j < nd → B2 r j = B r j) : eB σ B2 it len d ni nm nr np nd cd := by
  obtain ⟨⟨c1, c2, c3, c4, c5⟩, ⟨s1, s2, s3, s4, s5⟩, hA, hR, hP, hK, hF⟩ := h
  refine ⟨⟨c1, c2, c3, by rw [h0 5 (by decide)]; exact c4, by rw [h0 10 (by decide)]; exact c5⟩, ⟨by rw [h0 1 (by decide)]; exact s1, s2, s3, s4, by rw [h0 4 (by decide)]; exact s5⟩, fun i hi => ?_, hR, fun p hp => ?_, fun k hk => ?_, hF⟩
  · rw [h1 1 i (by decide) hi, h1 2 i (by decide) hi]; exact hA i hi
  · rw [h3 3 p (by decide) (by decide) hp, h3 4 p (by decide) (by decide) hp, h3 5 p (by decide) (by decide) hp, h3 6 p (by decide) (by decide) hp]; exact hP p hp
  · unfold eK
    rw [h7 7 k (by decide) (by decide) hk, h7 8 k (by decide) (by decide) hk, h7 9 k (by decide) (by decide) hk, h7 10 k (by decide) (by decide) hk, h7 11 k (by decide) (by decide) hk, h7 12 k (by decide) (by decide) hk, h7 13 k (by decide) (by decide) hk]; exact hK k hk
theorem eB.cgD (h : eB σ B it len d ni nm nr np nd cd) {d2 : Nat → Int32} (e : ∀ j, j < 1824 → d2 j = d j) : eB σ B it len d2 ni nm nr np nd cd := by
  obtain ⟨⟨c1, c2, c3, c4, c5⟩, ⟨s1, s2, s3, s4, s5⟩, hA, hR, hP, hK, hF⟩ := h
  have a2 := c3.2.2
  have a3 := c4.2.2
  have a4 := c5.2.2
  refine ⟨?_, ?_, fun i hi => ?_, fun r hr => ⟨fun c hc => ?_, (hR r hr).2⟩, fun p hp => ?_, fun k hk => ?_, hF.cg (fun j hj => e j (by omega))⟩
  · unfold eC
    rw [e 0 (by decide), e 1 (by decide), e 2 (by decide), e 3 (by decide), e 4 (by decide)]; exact ⟨c1, c2, c3, c4, c5⟩
  · unfold eS
    rw [e 5 (by decide), e 6 (by decide), e 7 (by decide), e 8 (by decide), e 11 (by decide)]; exact ⟨s1, s2, s3, s4, s5⟩
  · rw [e _ (by omega), e _ (by omega)]; exact hA i hi
  · rw [e _ (by omega)]; exact (hR r hr).1 c hc
  · rw [e _ (by omega), e _ (by omega), e _ (by omega), e _ (by omega)]; exact hP p hp
  · unfold eK
    rw [e _ (by omega), e _ (by omega), e _ (by omega), e _ (by omega), e _ (by omega), e _ (by omega), e _ (by omega), e _ (by omega)]; exact hK k hk
theorem eT.cgD (h : eT d nd) (hn : nd ≤ 20) {d2 : Nat → Int32} (e : ∀ j, j < 1824 → d2 j = d j) : eT d2 nd := by
  obtain ⟨t, t1, t2, t3⟩ := h
  refine ⟨t, t1, by rw [e 5 (by decide)]; exact t2, fun k hk hs => ?_⟩
  rw [e _ (by omega)] at hs ⊢
  exact t3 k hk hs
theorem eB.cp (h : eB σ B it len d ni nm nr np nd cd) {C : yI} : eB σ (cpB B C) it len d ni nm nr np nd cd := by
  have a3 := h.1.2.2.2.1.2.2
  have a4 := h.1.2.2.2.2.2.2
  refine h.cgB (fun j hj => cpB_0 hj) (fun r j hr hj => ?_) (fun r j h3 h6 hj => ?_) (fun r j h7 h13 hj => ?_)
  · rcases hr with rfl | rfl
    · exact cpB_1 hj
    · exact cpB_2 hj
  · rcases (show r = 3 ∨ r = 4 ∨ r = 5 ∨ r = 6 by omega) with rfl | rfl | rfl | rfl
    · exact cpB_3 (by omega)
    · exact cpB_4 (by omega)
    · exact cpB_5 (by omega)
    · exact cpB_6 (by omega)
  · rcases (show r = 7 ∨ r = 8 ∨ r = 9 ∨ r = 10 ∨ r = 11 ∨ r = 12 ∨ r = 13 by omega) with rfl | rfl | rfl | rfl | rfl | rfl | rfl
    · exact cpB_7 (by omega)
    · exact cpB_8 (by omega)
    · exact cpB_9 (by omega)
    · exact cpB_10 (by omega)
    · exact cpB_11 (by omega)
    · exact cpB_12 (by omega)
    · exact cpB_13 (by omega)
theorem eq_pur (h : eB σ B it len d ni nm nr np nd cd) (ht : eT d nd) {mi mr : Nat} (hmi : mi < ni) (hmr : mr < nm) (hnp : np < 24) {am : Int32} : eB σ (addPB B np (nI mi) (nI mr) am) it len (purD d np mi mr am) ni nm nr (np + 1) nd cd ∧ eT (purD d np mi mr am) nd := by
  obtain ⟨⟨⟨c1, c2, c3⟩, ⟨c4, c5, c6⟩, ⟨c7, c8, c9⟩, ⟨c10, c11, c12⟩, ⟨c13, c14, c15⟩⟩, ⟨s1, s2, s3, s4, s5⟩, hA, hR, hP, hK, hF⟩ := h
  obtain ⟨t, t1, t2, t3⟩ := ht
  obtain ⟨B1, hB1⟩ : ∃ B1, B1 = up2 (up2 (up2 (up2 (up2 B 3 np (nI mi)) 4 np (nI mr)) 5 np am) 6 np (B 0 1)) 0 5 (B 0 5 + 1) := ⟨_, rfl⟩
  have r3 : B1 3 = upd (B 3) np (nI mi) := by rw [hB1]; rfl
  have r4 : B1 4 = upd (B 4) np (nI mr) := by rw [hB1]; rfl
  have r5 : B1 5 = upd (B 5) np am := by rw [hB1]; rfl
  have r6 : B1 6 = upd (B 6) np (B 0 1) := by rw [hB1]; rfl
  have r0 : B1 0 = upd (B 0) 5 (B 0 5 + 1) := by rw [hB1]; rfl
  have rr : ∀ r, r ≠ 0 → r ≠ 3 → r ≠ 4 → r ≠ 5 → r ≠ 6 → B1 r = B r := fun r h0 h3 h4 h5 h6 => by rw [hB1, up2_r h0, up2_r h6, up2_r h5, up2_r h4, up2_r h3]
  obtain ⟨v1, v2, v3, v4, v5⟩ := mv_b (B := B1) (p := np) (g := am) (w := 0) (by rw [r3, upd_same]) (by rw [r4, upd_same]) (show mi < 4 by omega) (show mr < 4 by omega)
  have hadd : addPB B np (nI mi) (nI mr) am = moveB B1 np am 0 := by rw [hB1]; rfl
  have p0 : ∀ j, j ≠ 3 → j ≠ 68 + 4 * np → j ≠ 68 + 4 * np + 1 → j ≠ 68 + 4 * np + 2 → pur1 d np mi mr am j = d j := fun j h1 h2 h3 h4 => by unfold pur1; rw [upd_ne9 h4, upd_ne9 h3, upd_ne9 h2, upd_ne9 h1]
  have pn : ∀ j, j ≠ 3 → j ≠ 68 + 4 * np → j ≠ 68 + 4 * np + 1 → j ≠ 68 + 4 * np + 2 → j ≠ 68 + 4 * np + 3 → j ≠ 12 + mi → j ≠ 16 + mr → purD d np mi mr am j = d j := fun j h1 h2 h3 h4 h5 h6 h7 => by unfold purD; rw [pay_n h6 h7, upd_ne9 h5, p0 j h1 h2 h3 h4]
  have f : ∀ j, j < 12 → j ≠ 3 → purD d np mi mr am j = d j := fun j hj h3 => pn j h3 (by omega) (by omega) (by omega) (by omega) (by omega) (by omega)
  have q3 : purD d np mi mr am 3 = d 3 + 1 := by unfold purD pur1; rw [pay_n (by omega) (by omega), upd_ne9 (by omega), upd_ne9 (by omega), upd_ne9 (by omega), upd_ne9 (by omega), upd_same]
  have qa : purD d np mi mr am (68 + 4 * np) = nI mi := by unfold purD pur1; rw [pay_n (by omega) (by omega), upd_ne9 (by omega), upd_ne9 (by omega), upd_ne9 (by omega), upd_same]
  have qb : purD d np mi mr am (68 + 4 * np + 1) = nI mr := by unfold purD pur1; rw [pay_n (by omega) (by omega), upd_ne9 (by omega), upd_ne9 (by omega), upd_same]
  have qc : purD d np mi mr am (68 + 4 * np + 2) = am := by unfold purD pur1; rw [pay_n (by omega) (by omega), upd_ne9 (by omega), upd_same]
  have qd : purD d np mi mr am (68 + 4 * np + 3) = d 5 := by unfold purD; rw [pay_n (by omega) (by omega), upd_same, p0 5 (by omega) (by omega) (by omega) (by omega)]
  have qi : purD d np mi mr am (12 + mi) = d (12 + mi) - am := by unfold purD; rw [pay_f (by omega), upd_ne9 (by omega), p0 _ (by omega) (by omega) (by omega) (by omega)]
  have qm : purD d np mi mr am (16 + mr) = d (16 + mr) + am := by unfold purD; rw [pay_t (by omega), upd_ne9 (by omega), p0 _ (by omega) (by omega) (by omega) (by omega)]
  rw [hadd]
  refine ⟨⟨⟨⟨c1, (f 0 (by decide) (by decide)).trans c2, c3⟩, ⟨c4, (f 1 (by decide) (by decide)).trans c5, c6⟩, ⟨c7, (f 2 (by decide) (by decide)).trans c8, c9⟩, ⟨?_, ?_, by omega⟩, ⟨?_, (f 4 (by decide) (by decide)).trans c14, c15⟩⟩, ⟨?_, by rw [f 6 (by decide) (by decide)]; exact s2, by rw [f 7 (by decide) (by decide)]; exact s3, by rw [f 8 (by decide) (by decide)]; exact s4, ?_⟩, fun j hj => ⟨?_, ?_⟩, fun r hr => ⟨fun c hc => ?_, (hR r hr).2⟩, fun p hp => ?_, fun k hk => ?_, hF.cg (fun j hj => pn j (by omega) (by omega) (by omega) (by omega) (by omega) (by omega) (by omega))⟩, t, t1, by rw [f 5 (by decide) (by decide)]; exact t2, fun k hk hs => ?_⟩
  · rw [v2 5 (by decide), r0, upd_same, c10]; exact nI_1 np
  · rw [q3, c11]; exact nI_1 np
  · rw [v2 10 (by decide), r0, upd_ne9 (by decide)]; exact c13
  · rw [v2 1 (by decide), r0, upd_ne9 (by decide), f 5 (by decide) (by decide)]; exact s1
  · rw [v3, r0, upd_ne9 (by decide), f 11 (by decide) (by decide), s5]; grind
  · rw [v4 j, rr 1 (by decide) (by decide) (by decide) (by decide) (by decide)]
    by_cases e : j = mi
    · rw [if_pos e, e, qi, (hA mi (by omega)).1]; grind
    · rw [if_neg e, pn (12 + j) (by omega) (by omega) (by omega) (by omega) (by omega) (by omega) (by omega)]; exact (hA j hj).1
  · rw [v5 j, rr 2 (by decide) (by decide) (by decide) (by decide) (by decide)]
    by_cases e : j = mr
    · rw [if_pos e, e, qm, (hA mr (by omega)).2]
    · rw [if_neg e, pn (16 + j) (by omega) (by omega) (by omega) (by omega) (by omega) (by omega) (by omega)]; exact (hA j hj).2
  · rw [pn _ (by omega) (by omega) (by omega) (by omega) (by omega) (by omega) (by omega)]; exact (hR r hr).1 c hc
  · rw [v1 3 (by decide) (by decide) (by decide), v1 4 (by decide) (by decide) (by decide), v1 5 (by decide) (by decide) (by decide), v1 6 (by decide) (by decide) (by decide), r3, r4, r5, r6]
    by_cases e : p = np
    · subst e
      rw [upd_same, upd_same, upd_same, upd_same, qa, qb, qc, qd]
      exact ⟨⟨rfl, rfl, rfl, s1⟩, ⟨mi, hmi, rfl⟩, ⟨mr, hmr, rfl⟩, ⟨t, t1, s1.trans t2⟩⟩
    · rw [upd_ne9 e, upd_ne9 e, upd_ne9 e, upd_ne9 e, pn _ (by omega) (by omega) (by omega) (by omega) (by omega) (by omega) (by omega), pn _ (by omega) (by omega) (by omega) (by omega) (by omega) (by omega) (by omega), pn _ (by omega) (by omega) (by omega) (by omega) (by omega) (by omega) (by omega), pn _ (by omega) (by omega) (by omega) (by omega) (by omega) (by omega) (by omega)]
      exact hP p (by omega)
  · obtain ⟨k1, ⟨p, p1, p2⟩, k3⟩ := hK k hk
    unfold eK
    rw [v1 7 (by decide) (by decide) (by decide), v1 8 (by decide) (by decide) (by decide), v1 9 (by decide) (by decide) (by decide), v1 10 (by decide) (by decide) (by decide), v1 11 (by decide) (by decide) (by decide), v1 12 (by decide) (by decide) (by decide), v1 13 (by decide) (by decide) (by decide), rr 7 (by decide) (by decide) (by decide) (by decide) (by decide), rr 8 (by decide) (by decide) (by decide) (by decide) (by decide), rr 9 (by decide) (by decide) (by decide) (by decide) (by decide), rr 10 (by decide) (by decide) (by decide) (by decide) (by decide), rr 11 (by decide) (by decide) (by decide) (by decide) (by decide), rr 12 (by decide) (by decide) (by decide) (by decide) (by decide), rr 13 (by decide) (by decide) (by decide) (by decide) (by decide)]
    have g : ∀ c, c < 8 → purD d np mi mr am (164 + 8 * k + c) = d (164 + 8 * k + c) := fun c hc => pn _ (by omega) (by omega) (by omega) (by omega) (by omega) (by omega) (by omega)
    rw [g 1 (by decide), g 2 (by decide), g 3 (by decide), g 4 (by decide), g 5 (by decide), g 6 (by decide), g 7 (by decide), show purD d np mi mr am (164 + 8 * k) = d (164 + 8 * k) from g 0 (by decide)]
    exact ⟨k1, ⟨p, by omega, p2⟩, k3⟩
  · have g : ∀ c, c < 8 → purD d np mi mr am (164 + 8 * k + c) = d (164 + 8 * k + c) := fun c hc => pn _ (by omega) (by omega) (by omega) (by omega) (by omega) (by omega) (by omega)
    rw [g 5 (by decide)] at hs
    rw [g 6 (by decide)]
    exact t3 k hk hs
theorem eq_fil (h : eB σ B it len d ni nm nr np nd cd) (ht : eT d nd) {p r i m : Nat} (hp : p < np) (hr : r < nr) (hnd : nd < 20) {a : Nat} (ha : a ≤ 99999) (ei : d (68 + 4 * p) = nI i) (em : d (68 + 4 * p + 1) = nI m) (hi : i < 4) (hm : m < 4) : eB σ (addDB σ B nd p r (nI a)) it len (filD d nd p r (nI a) i m) ni nm nr np (nd + 1) cd ∧ eT (filD d nd p r (nI a) i m) (nd + 1) := by
  obtain ⟨⟨⟨c1, c2, c3⟩, ⟨c4, c5, c6⟩, ⟨c7, c8, c9⟩, ⟨c10, c11, c12⟩, ⟨c13, c14, c15⟩⟩, ⟨s1, s2, s3, s4, s5⟩, hA, hR, hP, hK, hF⟩ := h
  obtain ⟨t, t1, t2, t3⟩ := ht
  obtain ⟨⟨g3, g4, -, -⟩, -⟩ := hP p hp
  obtain ⟨rr1, -, ⟨an, an1, an2⟩, -⟩ := hR r hr
  have r62 : σ 6 r = d (20 + 6 * r + 2) := rr1 2 (by decide)
  obtain ⟨B1, hB1⟩ : ∃ B1, B1 = up2 (up2 (up2 (up2 (up2 (up2 (up2 (up2 B 7 nd (nI p)) 8 nd (nI r)) 9 nd (nI a)) 10 nd (B 0 1)) 11 nd 0) 12 nd 0) 13 nd (B 0 1 + σ 6 r)) 0 10 (B 0 10 + 1) := ⟨_, rfl⟩
  have r7 : B1 7 = upd (B 7) nd (nI p) := by rw [hB1]; rfl
  have r8 : B1 8 = upd (B 8) nd (nI r) := by rw [hB1]; rfl
  have r9 : B1 9 = upd (B 9) nd (nI a) := by rw [hB1]; rfl
  have r10 : B1 10 = upd (B 10) nd (B 0 1) := by rw [hB1]; rfl
  have r11 : B1 11 = upd (B 11) nd 0 := by rw [hB1]; rfl
  have r12 : B1 12 = upd (B 12) nd 0 := by rw [hB1]; rfl
  have r13 : B1 13 = upd (B 13) nd (B 0 1 + σ 6 r) := by rw [hB1]; rfl
  have r0 : B1 0 = upd (B 0) 10 (B 0 10 + 1) := by rw [hB1]; rfl
  have rr : ∀ r, r ≠ 0 → r < 7 → B1 r = B r := fun r h0 h7 => by rw [hB1, up2_r h0, up2_r (by omega), up2_r (by omega), up2_r (by omega), up2_r (by omega), up2_r (by omega), up2_r (by omega), up2_r (by omega)]
  obtain ⟨v1, v2, v3, v4, v5⟩ := mv_b (B := B1) (p := p) (g := -nI a - σ 0 2) (w := σ 0 2) (by rw [rr 3 (by decide) (by decide), g3]; exact ei) (by rw [rr 4 (by decide) (by decide), g4]; exact em) hi hm
  have hadd : addDB σ B nd p r (nI a) = moveB B1 p (-nI a - σ 0 2) (σ 0 2) := by rw [hB1]; rfl
  -- the model's data
  have z0 : ∀ j, j ≠ 4 → j ≠ 164 + 8 * nd → j ≠ 164 + 8 * nd + 1 → j ≠ 164 + 8 * nd + 2 → fil0 d nd p r (nI a) j = d j := fun j h1 h2 h3 h4 => by unfold fil0; rw [upd_ne9 h4, upd_ne9 h3, upd_ne9 h2, upd_ne9 h1]
  have z2 : ∀ j, j ≠ 4 → j ≠ 164 + 8 * nd → j ≠ 164 + 8 * nd + 1 → j ≠ 164 + 8 * nd + 2 → j ≠ 164 + 8 * nd + 3 → j ≠ 164 + 8 * nd + 4 → j ≠ 164 + 8 * nd + 5 → fil2 d nd p r (nI a) j = d j := fun j h1 h2 h3 h4 h5 h6 h7 => by unfold fil2; rw [upd_ne9 h7, upd_ne9 h6, upd_ne9 h5, z0 j h1 h2 h3 h4]
  have z1 : ∀ j, j ≠ 4 → (j < 164 + 8 * nd ∨ 164 + 8 * nd + 7 < j) → fil1 d nd p r (nI a) j = d j := fun j h1 h2 => by unfold fil1; rw [upd_ne9 (by omega), upd_ne9 (by omega), z2 j h1 (by omega) (by omega) (by omega) (by omega) (by omega) (by omega)]
  have y4 : fil1 d nd p r (nI a) 4 = d 4 + 1 := by unfold fil1 fil2 fil0; rw [upd_ne9 (by omega), upd_ne9 (by omega), upd_ne9 (by omega), upd_ne9 (by omega), upd_ne9 (by omega), upd_ne9 (by omega), upd_ne9 (by omega), upd_ne9 (by omega), upd_same]
  have ya : fil1 d nd p r (nI a) (164 + 8 * nd) = nI p := by unfold fil1 fil2 fil0; rw [upd_ne9 (by omega), upd_ne9 (by omega), upd_ne9 (by omega), upd_ne9 (by omega), upd_ne9 (by omega), upd_ne9 (by omega), upd_ne9 (by omega), upd_same]
  have yb : fil1 d nd p r (nI a) (164 + 8 * nd + 1) = nI r := by unfold fil1 fil2 fil0; rw [upd_ne9 (by omega), upd_ne9 (by omega), upd_ne9 (by omega), upd_ne9 (by omega), upd_ne9 (by omega), upd_ne9 (by omega), upd_same]
  have yc : fil1 d nd p r (nI a) (164 + 8 * nd + 2) = nI a := by unfold fil1 fil2 fil0; rw [upd_ne9 (by omega), upd_ne9 (by omega), upd_ne9 (by omega), upd_ne9 (by omega), upd_ne9 (by omega), upd_same]
  have yd : fil1 d nd p r (nI a) (164 + 8 * nd + 3) = d 5 := by unfold fil1 fil2; rw [upd_ne9 (by omega), upd_ne9 (by omega), upd_ne9 (by omega), upd_ne9 (by omega), upd_same, z0 5 (by omega) (by omega) (by omega) (by omega)]
  have ye : fil1 d nd p r (nI a) (164 + 8 * nd + 4) = 0 := by unfold fil1 fil2; rw [upd_ne9 (by omega), upd_ne9 (by omega), upd_ne9 (by omega), upd_same]
  have yf : fil1 d nd p r (nI a) (164 + 8 * nd + 5) = 0 := by unfold fil1 fil2; rw [upd_ne9 (by omega), upd_ne9 (by omega), upd_same]
  have yg : fil1 d nd p r (nI a) (164 + 8 * nd + 6) = d 5 + d (20 + 6 * r + 2) := by unfold fil1; rw [upd_ne9 (by omega), upd_same, z2 5 (by omega) (by omega) (by omega) (by omega) (by omega) (by omega) (by omega), z2 (20 + 6 * r + 2) (by omega) (by omega) (by omega) (by omega) (by omega) (by omega) (by omega)]
  have yh : fil1 d nd p r (nI a) (164 + 8 * nd + 7) = 1 := by unfold fil1; rw [upd_same]
  have hg : give0D (fil1 d nd p r (nI a)) nd i m = upd (payD (fil1 d nd p r (nI a)) (16 + m) (12 + i) (nI a)) (164 + 8 * nd + 7) 0 := by unfold give0D; rw [if_pos yh, yc]
  have h6 : give0D (fil1 d nd p r (nI a)) nd i m 6 = d 6 := by rw [hg, upd_ne9 (by omega), pay_n (by omega) (by omega), z1 6 (by omega) (by omega)]
  have fD : filD d nd p r (nI a) i m = payD (upd (payD (fil1 d nd p r (nI a)) (16 + m) (12 + i) (nI a)) (164 + 8 * nd + 7) 0) (16 + m) 11 (d 6) := by unfold filD; rw [h6, hg]
  have pn : ∀ j, j ≠ 11 → j ≠ 12 + i → j ≠ 16 + m → j ≠ 164 + 8 * nd + 7 → filD d nd p r (nI a) i m j = fil1 d nd p r (nI a) j := fun j h1 h2 h3 h4 => by rw [fD, pay_n h3 h1, upd_ne9 h4, pay_n h3 h2]
  have po : ∀ j, j ≠ 4 → j ≠ 11 → j ≠ 12 + i → j ≠ 16 + m → (j < 164 + 8 * nd ∨ 164 + 8 * nd + 7 < j) → filD d nd p r (nI a) i m j = d j := fun j h0 h1 h2 h3 h4 => by rw [pn j h1 h2 h3 (by omega), z1 j h0 h4]
  have q11 : filD d nd p r (nI a) i m 11 = d 11 + d 6 := by rw [fD, pay_t (by omega), upd_ne9 (by omega), pay_n (by omega) (by omega), z1 11 (by omega) (by omega)]
  have qi : filD d nd p r (nI a) i m (12 + i) = d (12 + i) + nI a := by rw [fD, pay_n (by omega) (by omega), upd_ne9 (by omega), pay_t (by omega), z1 _ (by omega) (by omega)]
  have qm : filD d nd p r (nI a) i m (16 + m) = d (16 + m) - nI a - d 6 := by rw [fD, pay_f (by omega), upd_ne9 (by omega), pay_f (by omega), z1 _ (by omega) (by omega)]
  have q7 : filD d nd p r (nI a) i m (164 + 8 * nd + 7) = 0 := by rw [fD, pay_n (by omega) (by omega), upd_same]
  have f : ∀ j, j < 11 → j ≠ 4 → filD d nd p r (nI a) i m j = d j := fun j hj h4 => po j h4 (by omega) (by omega) (by omega) (by omega)
  rw [hadd]
  refine ⟨⟨⟨⟨c1, (f 0 (by decide) (by decide)).trans c2, c3⟩, ⟨c4, (f 1 (by decide) (by decide)).trans c5, c6⟩, ⟨c7, (f 2 (by decide) (by decide)).trans c8, c9⟩, ⟨?_, (f 3 (by decide) (by decide)).trans c11, c12⟩, ⟨?_, ?_, by omega⟩⟩, ⟨?_, by rw [f 6 (by decide) (by decide)]; exact s2, by rw [f 7 (by decide) (by decide)]; exact s3, by rw [f 8 (by decide) (by decide)]; exact s4, ?_⟩, fun j hj => ⟨?_, ?_⟩, fun r hr => ⟨fun c hc => ?_, (hR r hr).2⟩, fun p hp => ?_, fun k hk => ?_, hF.cg (fun j hj => po j (by omega) (by omega) (by omega) (by omega) (by omega))⟩, t, t1, by rw [f 5 (by decide) (by decide)]; exact t2, fun k hk hs => ?_⟩
  · rw [v2 5 (by decide), r0, upd_ne9 (by decide)]; exact c10
  · rw [v2 10 (by decide), r0, upd_same, c13]; exact nI_1 nd
  · rw [pn 4 (by omega) (by omega) (by omega) (by omega), y4, c14]; exact nI_1 nd
  · rw [v2 1 (by decide), r0, upd_ne9 (by decide), f 5 (by decide) (by decide)]; exact s1
  · rw [v3, r0, upd_ne9 (by decide), q11, s5, s2]
  · rw [v4 j, rr 1 (by decide) (by decide)]
    by_cases e : j = i
    · rw [if_pos e, e, qi, (hA i hi).1]; grind
    · rw [if_neg e, po (12 + j) (by omega) (by omega) (by omega) (by omega) (by omega)]; exact (hA j hj).1
  · rw [v5 j, rr 2 (by decide) (by decide)]
    by_cases e : j = m
    · rw [if_pos e, e, qm, (hA m hm).2, s2]; grind
    · rw [if_neg e, po (16 + j) (by omega) (by omega) (by omega) (by omega) (by omega)]; exact (hA j hj).2
  · rw [po _ (by omega) (by omega) (by omega) (by omega) (by omega)]; exact (hR r hr).1 c hc
  · rw [v1 3 (by decide) (by decide) (by decide), v1 4 (by decide) (by decide) (by decide), v1 5 (by decide) (by decide) (by decide), v1 6 (by decide) (by decide) (by decide), rr 3 (by decide) (by decide), rr 4 (by decide) (by decide), rr 5 (by decide) (by decide), rr 6 (by decide) (by decide), po _ (by omega) (by omega) (by omega) (by omega) (by omega), po _ (by omega) (by omega) (by omega) (by omega) (by omega), po _ (by omega) (by omega) (by omega) (by omega) (by omega), po _ (by omega) (by omega) (by omega) (by omega) (by omega)]
    exact hP p hp
  · unfold eK
    rw [v1 7 (by decide) (by decide) (by decide), v1 8 (by decide) (by decide) (by decide), v1 9 (by decide) (by decide) (by decide), v1 10 (by decide) (by decide) (by decide), v1 11 (by decide) (by decide) (by decide), v1 12 (by decide) (by decide) (by decide), v1 13 (by decide) (by decide) (by decide), r7, r8, r9, r10, r11, r12, r13]
    by_cases e : k = nd
    · subst e
      rw [upd_same, upd_same, upd_same, upd_same, upd_same, upd_same, upd_same, pn _ (by omega) (by omega) (by omega) (by omega), pn _ (by omega) (by omega) (by omega) (by omega), pn _ (by omega) (by omega) (by omega) (by omega), pn _ (by omega) (by omega) (by omega) (by omega), pn _ (by omega) (by omega) (by omega) (by omega), pn _ (by omega) (by omega) (by omega) (by omega), pn _ (by omega) (by omega) (by omega) (by omega), ya, yb, yc, yd, ye, yf, yg, q7]
      exact ⟨⟨rfl, rfl, rfl, s1, rfl, rfl, by rw [s1, r62]⟩, ⟨p, hp, rfl⟩, ⟨r, hr, rfl⟩, ⟨a, ha, rfl⟩, ⟨t, t1, s1.trans t2⟩, ⟨0, by decide, rfl⟩, ⟨0, by decide, rfl, rfl⟩⟩
    · have hk2 : k < nd := by omega
      have g : ∀ c, c < 8 → filD d nd p r (nI a) i m (164 + 8 * k + c) = d (164 + 8 * k + c) := fun c hc => po _ (by omega) (by omega) (by omega) (by omega) (by omega)
      rw [upd_ne9 e, upd_ne9 e, upd_ne9 e, upd_ne9 e, upd_ne9 e, upd_ne9 e, upd_ne9 e, g 1 (by decide), g 2 (by decide), g 3 (by decide), g 4 (by decide), g 5 (by decide), g 6 (by decide), g 7 (by decide), show filD d nd p r (nI a) i m (164 + 8 * k) = d (164 + 8 * k) from g 0 (by decide)]
      exact hK k hk2
  · by_cases e : k = nd
    · subst e
      exact ⟨t + an, by rw [pn _ (by omega) (by omega) (by omega) (by omega), yg, t2, ← r62, an2, nI_add], by omega, by omega⟩
    · have g : ∀ c, c < 8 → filD d nd p r (nI a) i m (164 + 8 * k + c) = d (164 + 8 * k + c) := fun c hc => po _ (by omega) (by omega) (by omega) (by omega) (by omega)
      rw [g 5 (by decide)] at hs
      rw [g 6 (by decide)]
      exact t3 k (by omega) hs
end EB5
