theorem cAt.lt {d d2 : Nat → Int32} (f : ∀ j, j < 1824 → d2 j = d j) : ∀ {cd : List Int32} {i : Nat}, cAt d i cd → cAt d2 i cd
  | [], i, h => ⟨(f 10 (by decide)).trans h.1, h.2⟩
  | it :: r, i, h => by
    obtain ⟨h1, h2, h3⟩ := h
    refine ⟨h1, by rw [f 10 (by decide)]; exact h2, ?_⟩
    rw [f (324 + i) (by omega), f (324 + (i + 1)) (by omega)]
    rcases h3 with ⟨a1, a2, a3, a4⟩ | ⟨a1, a2, a3, a4⟩ | ⟨a1, a2, a3, a4⟩ | ⟨a1, a2, a3, a4⟩ | ⟨a1, a2, a3, a4⟩ | ⟨a1, a2, a4⟩ | ⟨a1, a2, a4⟩ | ⟨a1, a2, a4⟩ | ⟨a1, a2, a4⟩
    · exact Or.inl ⟨a1, a2, a3, cAt.lt f a4⟩
    · exact Or.inr (Or.inl ⟨a1, a2, a3, cAt.lt f a4⟩)
    · exact Or.inr (Or.inr (Or.inl ⟨a1, a2, a3, cAt.lt f a4⟩))
    · exact Or.inr (Or.inr (Or.inr (Or.inl ⟨a1, a2, a3, cAt.lt f a4⟩)))
    · exact Or.inr (Or.inr (Or.inr (Or.inr (Or.inl ⟨a1, a2, a3, cAt.lt f a4⟩))))
    · exact Or.inr (Or.inr (Or.inr (Or.inr (Or.inr (Or.inl ⟨a1, a2, cAt.lt f a4⟩)))))
    · exact Or.inr (Or.inr (Or.inr (Or.inr (Or.inr (Or.inr (Or.inl ⟨a1, a2, cAt.lt f a4⟩))))))
    · exact Or.inr (Or.inr (Or.inr (Or.inr (Or.inr (Or.inr (Or.inr (Or.inl ⟨a1, a2, cAt.lt f a4⟩)))))))
    · exact Or.inr (Or.inr (Or.inr (Or.inr (Or.inr (Or.inr (Or.inr (Or.inr ⟨a1, a2, cAt.lt f a4⟩)))))))
theorem dV.lt {d d2 : Nat → Int32} {nd : Nat} {cd : List Int32} (h : dV d nd cd) (f : ∀ j, j < 1824 → d2 j = d j) : dV d2 nd cd := by
  obtain ⟨h1, h2, h3, h4⟩ := h
  refine ⟨h1, (f 4 (by decide)).trans h2, fun k hk => ?_, ?_⟩
  · obtain ⟨a1, a2, a3, a4, a5⟩ := h3 k hk
    obtain ⟨k20, hp, p24, hi, i4, hm, m4, hr0, r8⟩ := a1
    have ep : pD d2 k = pD d k := by unfold pD; rw [f _ (by omega)]
    have ei : iD d2 k = iD d k := by unfold iD; rw [ep, f _ (by omega)]
    have em : mD d2 k = mD d k := by unfold mD; rw [ep, f _ (by omega)]
    have er : rD d2 k = rD d k := by unfold rD; rw [f _ (by omega)]
    have en : nD d2 k = nD d k := by unfold nD; rw [er, f _ (by omega)]
    have ee : eD d2 k = eD d k := by unfold eD; rw [f _ (by omega)]
    rw [ep, ei, em, er, en, ee]
    exact ⟨⟨k20, (f _ (by omega)).trans hp, p24, (f _ (by omega)).trans hi, i4, (f _ (by omega)).trans hm, m4, (f _ (by omega)).trans hr0, r8⟩, (f _ (by omega)).trans a2, a3, (f _ (by omega)).trans a4, a5⟩
  · exact h4.imp (fun q => (f 9 (by decide)).trans q) (fun q => ⟨q.1.lt f, q.2⟩)
/-- every open dispute's deadline is at most f days away -/
def opn (C : Nat → Int32) (nd f : Nat) : Prop := 0 ≤ (C 5).toInt ∧ (C 5).toInt + f ≤ 20000 ∧ ∀ k, k < nd → C (164 + 8 * k + 5) < 4 → (C 5).toInt ≤ (C (164 + 8 * k + 6)).toInt ∧ (C (164 + 8 * k + 6)).toInt < (C 5).toInt + f
theorem endD_5 {d : Nat → Int32} {k i m : Nat} {w b : Prop} [Decidable w] [Decidable b] (hi : i < 4) (hm : m < 4) {j : Nat} (hj : j = 5 ∨ (164 ≤ j ∧ (j - 164) / 8 ≠ k)) : endD d k i m w b j = d j := by
  have e1 : ∀ (dd : Nat → Int32) (a b : Nat) (x : Int32), j ≠ a → j ≠ b → payD dd a b x j = dd j := fun dd a b x h1 h2 => by
    unfold payD; rw [upd_ne9 h2, upd_ne9 h1]
  have eg : giveD d k i m w j = d j := by
    unfold giveD
    split
    · rw [e1 _ _ _ _ (by omega) (by omega)]
      unfold give1D
      split
      · rfl
      · rw [upd_ne9 (by omega), e1 _ _ _ _ (by omega) (by omega)]
    · unfold give0D
      split
      · rw [upd_ne9 (by omega), e1 _ _ _ _ (by omega) (by omega)]
      · rfl
  have ea : arbD (giveD d k i m w) i m w b j = d j := by
    unfold arbD
    split
    · split
      · rw [e1 _ _ _ _ (by omega) (by omega)]; exact eg
      · rw [e1 _ _ _ _ (by omega) (by omega)]; exact eg
    · exact eg
  unfold endD
  rw [upd_ne9 (by omega), upd_ne9 (by omega)]
  exact ea
theorem endD_st {d : Nat → Int32} {k i m : Nat} {w b : Prop} [Decidable w] [Decidable b] : endD d k i m w b (164 + 8 * k + 5) = if w then 5 else 4 := by
  unfold endD
  rw [upd_ne9 (by omega), upd_same]
/-- what a day does to the dispute k -/
theorem pdS_k {d : Nat → Int32} {nd : Nat} {cd : List Int32} (hV : dV d nd cd) : ∀ j, j ≤ nd → (pdS d cd j).1 5 = d 5 + 1 ∧ (∀ k, j ≤ k → ∀ c, c < 8 → (pdS d cd j).1 (164 + 8 * k + c) = d (164 + 8 * k + c)) ∧ ∀ k, k < j → (pdS d cd j).1 (164 + 8 * k + 5) < 4 → d (164 + 8 * k + 5) < 4 ∧ (pdS d cd j).1 (164 + 8 * k + 6) = d (164 + 8 * k + 6) ∧ ¬ d (164 + 8 * k + 6) < d 5 + 1
  | 0, _ => ⟨by show upd d 5 (d 5 + 1) 5 = _; exact upd_same, fun k _ c hc => by show upd d 5 (d 5 + 1) _ = _; exact upd_ne9 (by omega), fun k hk => absurd hk (Nat.not_lt_zero _)⟩
  | j + 1, hj => by
    obtain ⟨h1, h2, h3⟩ := pdS_k hV j (by omega)
    have v := ((hV.fz (pdS_F hV j (by omega))).2.2.1 j (by omega)).1
    have i4 := v.2.2.2.2.1
    have m4 := v.2.2.2.2.2.2.1
    unfold pdS
    split
    · rename_i hdu
      refine ⟨(endD_5 i4 m4 (Or.inl rfl)).trans h1, fun k hk c hc => (endD_5 i4 m4 (Or.inr (by omega))).trans (h2 k (by omega) c hc), fun k hk ho => ?_⟩
      dsimp only at ho ⊢
      by_cases e : k = j
      · subst e
        rw [endD_st] at ho
        split at ho
        · exact absurd ho (by decide)
        · exact absurd ho (by decide)
      · rw [endD_5 i4 m4 (Or.inr ⟨by omega, by omega⟩)] at ho ⊢
        exact h3 k (by omega) ho
    · rename_i hdu
      refine ⟨h1, fun k hk => h2 k (by omega), fun k hk ho => ?_⟩
      by_cases e : k = j
      · subst e
        have e5 := h2 k (Nat.le_refl _) 5 (by decide)
        have e6 := h2 k (Nat.le_refl _) 6 (by decide)
        rw [e5] at ho
        refine ⟨ho, e6, fun q => hdu ⟨by rw [e5]; exact ho, by rw [e6, h1]; exact q⟩⟩
      · exact h3 k (by omega) ho
theorem opn.s {C : Nat → Int32} {nd f : Nat} {cd : List Int32} (hV : dV C nd cd) (h : opn C nd (f + 1)) : opn (pdS C cd nd).1 nd f := by
  obtain ⟨h1, h2, h3⟩ := h
  obtain ⟨g1, -, g3⟩ := pdS_k hV nd (Nat.le_refl _)
  have e5 : (C 5 + 1).toInt = (C 5).toInt + 1 := by
    rw [Int32.toInt_add]
    have : (1 : Int32).toInt = 1 := by decide
    rw [this]
    rw [Int.bmod_eq_of_le]
    · omega
    · omega
  refine ⟨by rw [g1, e5]; omega, by rw [g1, e5]; omega, fun k hk ho => ?_⟩
  obtain ⟨a1, a2, a3⟩ := g3 k hk ho
  obtain ⟨b1, b2⟩ := h3 k hk a1
  have a4 := Int32.not_lt.mp a3
  rw [Int32.le_iff_toInt_le, e5] at a4
  rw [a2, g1, e5]
  omega
set_option maxRecDepth 100000 in
set_option maxHeartbeats 4000000 in
theorem c_X8_settled (l : Launch) (D : yD) (z : Nat) {n : Nat} {sh : yS} {I : yI} {L : yL} {q : Nat} {M : yI} (hQ : yMod sh q) {nd : Nat} (hnd : M 2 4 = nI nd) (nd20 : nd ≤ 20) {nm : Nat} (hnm9 : M 2 1 = nI nm) (nm4 : nm ≤ 4) {x : Int32} {mr : Nat} (hmr : vp_in x nm → x = nI mr ∧ mr < nm) {cd : List Int32} (hV : dV (M 2) nd cd) (hop : opn (M 2) nd 200) : yM l D z yX8_settled cX8_settled 2 (some .int) 5 0 0 [.ref q, .int x] n sh (sR 15 I q M) L (fun v n2 sh2 I2 L2 => n2 = n ∧ sh2 = sh ∧ (∃ S, L2 = va_up L (q + 14) S) ∧ ((¬ vp_in x nm ∧ v = some (.int 0) ∧ I2 = sR 15 I q (up2 M 0 0 1)) ∨ (vp_in x nm ∧ ∃ t g, (∀ k, k < nd → ¬ (pmS (cpyD (M 2) (M 4) 1824) cd nd t).1 (164 + 8 * k + 5) < 4) ∧ v = some (.int ((pmS (cpyD (M 2) (M 4) 1824) cd nd t).1 (16 + mr))) ∧ I2 = sR 15 I q (va_up (up2 M 0 0 0) 4 g)))) (yno) := by
  refine yM_of (by decide) (Nat.le_of_ble_eq_true rfl) rfl ?_
  intro X hC hr hnm hRc hRs htb
  have hC : yC X D z cX8_settled RX8 2 5 := hC
  refine y_aload_n hC dX8_settled_0 rfl ?_
  refine y_iconst (v := 0) hC dX8_settled_1 (by decide) ?_
  refine y_putIR (w9 := 15) hC (by decide) (yM_o hQ) f_X8_39 rfl (Or.inl rfl) dX8_settled_2 ?_
  refine y_toS q ?_
  refine y_aload_n hC dX8_settled_5 rfl ?_
  refine y_iload_n hC dX8_settled_6 rfl ?_
  by_cases hx : vp_in x nm
  · obtain ⟨rfl, mrl⟩ := hmr hx
    refine y_callV1 hC (c_X8_noMerchant0 X.2.1 D z hQ up2_at ((congrFun (show up2 M 0 0 0 2 = M 2 from up2_r (by decide)) 1).trans hnm9) (by omega) hx) m_X8_230 rfl (yM_o hQ) (by decide) (Nat.le_of_ble_eq_true rfl) (Nat.zero_le _) (Nat.zero_le _) dX8_settled_7 ?_
    refine y_if_eq (tgt := 15) hC dX8_settled_10 (by decide) (fun c10 => ?_) (fun c10 => absurd rfl c10)
    refine y_aload_n hC dX8_settled_15 rfl ?_
    refine y_getR hC (yM_o hQ) (yM_r8 hQ) f_X8_17 rfl dX8_settled_16 ?_
    refine y_aload_n hC dX8_settled_19 rfl ?_
    refine y_getR hC (yM_o hQ) (yM_r10 hQ) f_X8_23 rfl dX8_settled_20 ?_
    refine y_callS0 hC (c_copy_at X.2.1 D z (M := up2 M 0 0 0) hQ (a := 2) (b := 4) (yM_a8 hQ) (yM_a10 hQ) (by decide) (by decide) (by decide)) m_X8_168 rfl (by decide) (Nat.le_of_ble_eq_true rfl) (Nat.zero_le _) (Nat.zero_le _) dX8_settled_23 ?_
    have lp26 : ∀ (f9 t : Nat) (C : Nat → Int32) (S : Nat → Int64), True → (C = (pmS (cpyD (M 2) (M 4) 1824) cd nd t).1 ∧ dV C nd cd ∧ opn C nd f9) → Y X D z 2 n sh (sR 15 I q (va_up (up2 M 0 0 0) 4 C)) (va_up L (q + 14) S) 0 0 (yEnd X D z (fun v n2 sh2 I2 L2 => n2 = n ∧ sh2 = sh ∧ (∃ S, L2 = va_up L (q + 14) S) ∧ ((¬ vp_in (nI mr) nm ∧ v = some (.int 0) ∧ I2 = sR 15 I q (up2 M 0 0 1)) ∨ (vp_in (nI mr) nm ∧ ∃ t g, (∀ k, k < nd → ¬ (pmS (cpyD (M 2) (M 4) 1824) cd nd t).1 (164 + 8 * k + 5) < 4) ∧ v = some (.int ((pmS (cpyD (M 2) (M 4) 1824) cd nd t).1 (16 + mr))) ∧ I2 = sR 15 I q (va_up (up2 M 0 0 0) 4 g)))) (yno) 0 0) 26 [some (.ref q), some (.int (nI mr))] [] := by
      intro f9
      induction f9 with
      | zero =>
        intro t C S hm hi
        refine y_aload_n hC dX8_settled_26 rfl ?_
        refine y_aload_n hC dX8_settled_27 rfl ?_
        refine y_getR hC (yM_o hQ) (yM_r10 hQ) f_X8_23 rfl dX8_settled_28 ?_
        refine y_callV hC (c_isAnyOpen_row X.2.1 D z (M := up2 M 0 0 0) hQ (r9 := 4) (by decide) (yM_a10 hQ) hi.2.1.2.1 hi.2.1.1) m_X8_248 rfl (yM_o hQ) (by decide) (Nat.le_of_ble_eq_true rfl) ⟨Nat.zero_le _, Nat.zero_le _⟩ dX8_settled_31 (fun _ _ _ _ _ h => h.elim) (fun v n2 sh2 I2 L2 h => ?_)
        obtain ⟨h, rfl, rfl, rfl, rfl⟩ := h
        rcases h with ⟨rfl, k9, hk9, ho9⟩ | ⟨rfl, hall⟩
        · have := hi.2.2.2.2 k9 hk9 ho9; omega
        · refine y_if_eq (tgt := 49) hC dX8_settled_34 (by decide) (fun c34 => ?_) (fun c34 => absurd rfl c34)
          refine y_aload_n hC dX8_settled_49 rfl ?_
          refine y_getR hC (yM_o hQ) (yM_r10 hQ) f_X8_23 rfl dX8_settled_50 ?_
          refine y_bipush (v := nI 16) hC dX8_settled_53 (by decide) ?_
          refine y_iload_n hC dX8_settled_55 rfl ?_
          refine y_iaddN hC dX8_settled_56 ?_
          refine y_ialdRN (w9 := 15) hC (by decide) (yM_a10 hQ) (by omega) dX8_settled_57 ?_
          rw [va_up_at]
          exact y_iret hC hr rfl (Nat.zero_le _) (Nat.zero_le _) dX8_settled_58 ⟨rfl, rfl, ⟨_, rfl⟩, Or.inr ⟨hx, t, _, (fun k hk => by rw [← hi.1]; exact hall k hk), (by rw [hi.1]), rfl⟩⟩
      | succ f9 ih =>
        intro t C S hm hi
        refine y_aload_n hC dX8_settled_26 rfl ?_
        refine y_aload_n hC dX8_settled_27 rfl ?_
        refine y_getR hC (yM_o hQ) (yM_r10 hQ) f_X8_23 rfl dX8_settled_28 ?_
        refine y_callV hC (c_isAnyOpen_row X.2.1 D z (M := up2 M 0 0 0) hQ (r9 := 4) (by decide) (yM_a10 hQ) hi.2.1.2.1 hi.2.1.1) m_X8_248 rfl (yM_o hQ) (by decide) (Nat.le_of_ble_eq_true rfl) ⟨Nat.zero_le _, Nat.zero_le _⟩ dX8_settled_31 (fun _ _ _ _ _ h => h.elim) (fun v n2 sh2 I2 L2 h => ?_)
        obtain ⟨h, rfl, rfl, rfl, rfl⟩ := h
        rcases h with ⟨rfl, k9, hk9, ho9⟩ | ⟨rfl, hall⟩
        · refine y_if_eq (tgt := 49) hC dX8_settled_34 (by decide) (fun c34 => absurd c34 (by decide)) (fun c34 => ?_)
          refine y_aload_n hC dX8_settled_37 rfl ?_
          refine y_aload_n hC dX8_settled_38 rfl ?_
          refine y_getR hC (yM_o hQ) (yM_r10 hQ) f_X8_23 rfl dX8_settled_39 ?_
          refine y_callV1l (q := q) hC (fun S => c_passDay_row X.2.1 D z (M := up2 M 0 0 0) hQ (r9 := 4) (by decide) (yM_a10 hQ) hi.2.1 S) m_X8_252 rfl (yM_o hQ) (by decide) (Nat.le_of_ble_eq_true rfl) (Nat.zero_le _) (Nat.zero_le _) dX8_settled_42 (fun S42 => ?_)
          refine y_pop hC dX8_settled_45 rfl ?_
          refine y_goto (tgt := 26) hC dX8_settled_46 (by decide) ?_
          exact ih (t + 1) _ _ trivial ⟨by rw [hi.1]; rfl, hi.2.1.fz (pdS_F hi.2.1 nd (Nat.le_refl _)), hi.2.2.s hi.2.1⟩
        · refine y_if_eq (tgt := 49) hC dX8_settled_34 (by decide) (fun c34 => ?_) (fun c34 => absurd rfl c34)
          refine y_aload_n hC dX8_settled_49 rfl ?_
          refine y_getR hC (yM_o hQ) (yM_r10 hQ) f_X8_23 rfl dX8_settled_50 ?_
          refine y_bipush (v := nI 16) hC dX8_settled_53 (by decide) ?_
          refine y_iload_n hC dX8_settled_55 rfl ?_
          refine y_iaddN hC dX8_settled_56 ?_
          refine y_ialdRN (w9 := 15) hC (by decide) (yM_a10 hQ) (by omega) dX8_settled_57 ?_
          rw [va_up_at]
          exact y_iret hC hr rfl (Nat.zero_le _) (Nat.zero_le _) dX8_settled_58 ⟨rfl, rfl, ⟨_, rfl⟩, Or.inr ⟨hx, t, _, (fun k hk => by rw [← hi.1]; exact hall k hk), (by rw [hi.1]), rfl⟩⟩
    exact lp26 200 0 _ _ trivial ⟨rfl, hV.lt (fun j hj => if_pos hj), ⟨hop.1, hop.2.1, fun k hk ho => by have k20 := hV.1; rw [cpyD, if_pos (by omega)] at ho ⊢; rw [cpyD, if_pos (by omega)]; exact hop.2.2 k hk ho⟩⟩
  · refine y_callV1 hC (c_X8_noMerchant1 X.2.1 D z hQ up2_at ((congrFun (show up2 M 0 0 0 2 = M 2 from up2_r (by decide)) 1).trans hnm9) (by omega) hx) m_X8_230 rfl (yM_o hQ) (by decide) (Nat.le_of_ble_eq_true rfl) (Nat.zero_le _) (Nat.zero_le _) dX8_settled_7 ?_
    refine y_if_eq (tgt := 15) hC dX8_settled_10 (by decide) (fun c10 => absurd c10 (by decide)) (fun c10 => ?_)
    refine y_iconst (v := 0) hC dX8_settled_13 (by decide) ?_
    exact y_iret hC hr rfl (Nat.zero_le _) (Nat.zero_le _) dX8_settled_14 ⟨rfl, rfl, ⟨_, rfl⟩, Or.inl ⟨hx, rfl, by rw [up2_up2]⟩⟩
