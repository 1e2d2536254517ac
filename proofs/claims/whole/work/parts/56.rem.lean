theorem va_up_at {α : Type} {f : Nat → α} {a : Nat} {v : α} : va_up f a v a = v := by simp [va_up]
theorem c_copy_at (l : Launch) (D : yD) (z : Nat) {n : Nat} {sh : yS} {I : yI} {L : yL} {q : Nat} {M : yI} (hQ : yMod sh q) {a b : Nat} (ha : yArr sh (q + a) 10 1824) (hb : yArr sh (q + b) 10 1824) (hab : a ≠ b) (a15 : a < 15) (b15 : b < 15) : yM l D z yX8_copy cX8_copy 3 none 0 0 0 [.ref (q + a), .ref (q + b)] n sh (sR 15 I q M) L (yF none n sh (sR 15 I q (va_up M b (cpyD (M a) (M b) 1824))) L) yno := by
  have h := c_X8_copy l D z (n := n) (I := sR 15 I q M) (L := L) (a := q + b) (d := M b) (b := q + a) (s := M a) hb ha (by omega) (sR_at a15)
  rw [at_row b15, sR_row b15] at h
  exact h
theorem yM_row {sh : yS} {q j : Nat} (hQ : yMod sh q) (hj : j < 8) : yArr sh (q + (6 + j)) 10 1824 := by
  rw [← Nat.add_assoc]; exact yM_h hQ j hj
/-- the data are remembered -/
def rmP (M M2 : yI) (u : Nat) : Prop := M2 2 = M 2 ∧ M2 1 = M 1 ∧ (∀ j, j ≠ 12 → M2 0 j = M 0 j) ∧ M2 0 12 = nI (min (u + 1) 8) ∧ (∀ j, j < 1824 → M2 (6 + (min (u + 1) 8 - 1)) j = M 2 j) ∧ (∀ t, 1 ≤ t → t < min (u + 1) 8 → ∀ j, j < 1824 → M2 (6 + (min (u + 1) 8 - 1 - t)) j = M (6 + (u - t)) j) ∧ M2 3 = M 3
/-- row r is shifted, up to k -/
def shP (M M2 : yI) (k : Nat) : Prop := (∀ r, r < 6 → M2 r = M r) ∧ (∀ r, r + 1 < k → ∀ j, j < 1824 → M2 (6 + r) j = M (6 + (r + 1)) j) ∧ (∀ r, k ≤ r + 1 → M2 (6 + r) = M (6 + r))
theorem shP.s {M M2 : yI} {k : Nat} (h : shP M M2 k) (h1 : 1 ≤ k) : shP M (va_up M2 (6 + (k - 1)) (cpyD (M2 (6 + k)) (M2 (6 + (k - 1))) 1824)) (k + 1) := by
  obtain ⟨a1, a2, a3⟩ := h
  refine ⟨fun r hr => by rw [va_up_ne _ _ (by omega)]; exact a1 r hr, fun r hr j hj => ?_, fun r hr => by rw [va_up_ne _ _ (by omega)]; exact a3 r (by omega)⟩
  by_cases e : r + 1 = k
  · rw [show 6 + r = 6 + (k - 1) by omega, va_up_at, cpyD, if_pos hj, a3 k (by omega), show 6 + k = 6 + (r + 1) by omega]
  · rw [va_up_ne _ _ (by omega)]; exact a2 r (by omega) j hj
set_option maxRecDepth 100000 in
set_option maxHeartbeats 4000000 in
theorem c_rem_lt (l : Launch) (D : yD) (z : Nat) {n : Nat} {sh : yS} {I : yI} {L : yL} {q : Nat} {M : yI} (hQ : yMod sh q) {u : Nat} (hu : M 0 12 = nI u) (hu8 : u < 8) : yM l D z yX8_remember cX8_remember 2 none 1 0 0 [.ref q] n sh (sR 15 I q M) L (fun v n2 sh2 I2 L2 => v = none ∧ n2 = n ∧ sh2 = sh ∧ (∃ M2, I2 = sR 15 I q M2 ∧ rmP M M2 u) ∧ L2 = L) (yno) := by
  refine yM_of (by decide) (Nat.le_of_ble_eq_true rfl) rfl ?_
  intro X hC hr hnm hRc hRs htb
  have hC : yC X D z cX8_remember RX8 2 1 := hC
  refine y_aload_n hC dX8_remember_0 rfl ?_
  refine y_getIR (w9 := 15) hC (by decide) (yM_o hQ) f_X8_256 rfl dX8_remember_1 ?_
  refine y_bipush (v := nI 8) hC dX8_remember_4 (by decide) ?_
  rw [hu]
  refine y_icmp_ne (tgt := 50) hC dX8_remember_6 (by decide) (fun c6 => ?_) (fun c6 => absurd (nI_eq2 c6) (by omega))
  refine y_aload_n hC dX8_remember_50 rfl ?_
  refine y_getR hC (yM_o hQ) (yM_r8 hQ) f_X8_17 rfl dX8_remember_51 ?_
  refine y_aload_n hC dX8_remember_54 rfl ?_
  refine y_getR hC (yM_o hQ) (yM_r11 hQ) f_X8_28 rfl dX8_remember_55 ?_
  refine y_aload_n hC dX8_remember_58 rfl ?_
  refine y_getIR (w9 := 15) hC (by decide) (yM_o hQ) f_X8_256 rfl dX8_remember_59 ?_
  rw [hu]
  refine y_aald13 (b := q + (6 + u)) hC (yM_a11 hQ) (vp_in_nI (by omega) (by decide)) (by rw [nI_clamp (by omega), yM_e11 hQ _ (by omega), Nat.add_assoc]) dX8_remember_62 ?_
  refine y_callS0 hC (c_copy_at X.2.1 D z hQ (a := 2) (b := 6 + u) (yM_a8 hQ) (yM_row hQ hu8) (by omega) (by decide) (by omega)) m_X8_168 rfl (by decide) (Nat.le_of_ble_eq_true rfl) (Nat.zero_le _) (Nat.zero_le _) dX8_remember_63 ?_
  refine y_aload_n hC dX8_remember_66 rfl ?_
  refine y_dup hC dX8_remember_67 rfl ?_
  refine y_getIR (w9 := 15) hC (by decide) (yM_o hQ) f_X8_256 rfl dX8_remember_68 ?_
  rw [show va_up M (6 + u) (cpyD (M 2) (M (6 + u)) 1824) 0 12 = nI u from (congrFun (va_up_ne _ _ (by omega)) 12).trans hu]
  refine y_iconst (v := nI 1) hC dX8_remember_71 (by decide) ?_
  refine y_iaddN hC dX8_remember_72 ?_
  refine y_putIR (w9 := 15) hC (by decide) (yM_o hQ) f_X8_256 rfl (Or.inl rfl) dX8_remember_73 ?_
  exact y_vret hC hr (Nat.zero_le _) (Nat.zero_le _) dX8_remember_76 ⟨rfl, rfl, rfl, ⟨_, rfl, by
    have e : min (u + 1) 8 = u + 1 := Nat.min_eq_left (by omega)
    refine ⟨?_, ?_, fun j hj => ?_, ?_, fun j hj => ?_, fun t h1 h2 j hj => ?_, ?_⟩
    · rw [up2_r (by decide), va_up_ne _ _ (by omega)]
    · rw [up2_r (by decide), va_up_ne _ _ (by omega)]
    · show upd _ 12 _ j = _
      rw [upd_ne9 hj, va_up_ne _ _ (by omega)]
    · rw [up2_at, e]
    · rw [up2_r (by omega), e, Nat.add_sub_cancel, va_up_at, cpyD, if_pos hj]
    · rw [up2_r (by omega), e, Nat.add_sub_cancel, va_up_ne _ _ (by omega)]
    · rw [up2_r (by decide), va_up_ne _ _ (by omega)]⟩, rfl⟩
set_option maxRecDepth 100000 in
set_option maxHeartbeats 4000000 in
theorem c_rem_8 (l : Launch) (D : yD) (z : Nat) {n : Nat} {sh : yS} {I : yI} {L : yL} {q : Nat} {M : yI} (hQ : yMod sh q) (hu : M 0 12 = nI 8) : yM l D z yX8_remember cX8_remember 2 none 1 0 0 [.ref q] n sh (sR 15 I q M) L (fun v n2 sh2 I2 L2 => v = none ∧ n2 = n ∧ sh2 = sh ∧ (∃ M2, I2 = sR 15 I q M2 ∧ rmP M M2 8) ∧ L2 = L) (yno) := by
  refine yM_of (by decide) (Nat.le_of_ble_eq_true rfl) rfl ?_
  intro X hC hr hnm hRc hRs htb
  have hC : yC X D z cX8_remember RX8 2 1 := hC
  refine y_aload_n hC dX8_remember_0 rfl ?_
  refine y_getIR (w9 := 15) hC (by decide) (yM_o hQ) f_X8_256 rfl dX8_remember_1 ?_
  refine y_bipush (v := nI 8) hC dX8_remember_4 (by decide) ?_
  rw [hu]
  refine y_icmp_ne (tgt := 50) hC dX8_remember_6 (by decide) (fun c6 => absurd rfl c6) (fun c6 => ?_)
  refine y_iconst (v := nI 1) hC dX8_remember_9 (by decide) ?_
  refine y_istore_n hC dX8_remember_10 (by decide) rfl ?_
  have lp11 : ∀ (f9 k : Nat) (M2 : yI), k + f9 = 8 → 1 ≤ k ∧ shP M M2 k → Y X D z 2 n sh (sR 15 I q M2) L 0 0 (yEnd X D z (fun v n2 sh2 I2 L2 => v = none ∧ n2 = n ∧ sh2 = sh ∧ (∃ M2, I2 = sR 15 I q M2 ∧ rmP M M2 8) ∧ L2 = L) (yno) 0 0) 11 [some (.ref q), some (.int (nI k))] [] := by
    intro f9
    induction f9 with
    | zero =>
      intro k M2 hm hi
      refine y_iload_n hC dX8_remember_11 rfl ?_
      refine y_bipush (v := nI 8) hC dX8_remember_12 (by decide) ?_
      refine y_icmp_ge (tgt := 40) hC dX8_remember_14 (by decide) (fun c14 => ?_) (fun c14 => absurd (nI_le (by omega) (by omega)) c14)
      refine y_aload_n hC dX8_remember_40 rfl ?_
      refine y_dup hC dX8_remember_41 rfl ?_
      refine y_getIR (w9 := 15) hC (by decide) (yM_o hQ) f_X8_256 rfl dX8_remember_42 ?_
      rw [show M2 0 12 = nI 8 from (congrFun (hi.2.1 0 (by decide)) 12).trans hu]
      refine y_iconst (v := nI 1) hC dX8_remember_45 (by decide) ?_
      refine y_isub hC dX8_remember_46 ?_
      rw [pk_sub (by decide)]
      refine y_putIR (w9 := 15) hC (by decide) (yM_o hQ) f_X8_256 rfl (Or.inl rfl) dX8_remember_47 ?_
      refine y_aload_n hC dX8_remember_50 rfl ?_
      refine y_getR hC (yM_o hQ) (yM_r8 hQ) f_X8_17 rfl dX8_remember_51 ?_
      refine y_aload_n hC dX8_remember_54 rfl ?_
      refine y_getR hC (yM_o hQ) (yM_r11 hQ) f_X8_28 rfl dX8_remember_55 ?_
      refine y_aload_n hC dX8_remember_58 rfl ?_
      refine y_getIR (w9 := 15) hC (by decide) (yM_o hQ) f_X8_256 rfl dX8_remember_59 ?_
      rw [show up2 M2 0 12 (nI (8 - 1)) 0 12 = nI 7 from up2_at]
      refine y_aald13 (b := q + (6 + 7)) hC (yM_a11 hQ) (vp_in_nI (by omega) (by decide)) (by rw [nI_clamp (by omega), yM_e11 hQ _ (by omega), Nat.add_assoc]) dX8_remember_62 ?_
      refine y_callS0 hC (c_copy_at X.2.1 D z (M := up2 M2 0 12 (nI (8 - 1))) hQ (a := 2) (b := 6 + 7) (yM_a8 hQ) (yM_row hQ (by decide)) (by omega) (by decide) (by omega)) m_X8_168 rfl (by decide) (Nat.le_of_ble_eq_true rfl) (Nat.zero_le _) (Nat.zero_le _) dX8_remember_63 ?_
      refine y_aload_n hC dX8_remember_66 rfl ?_
      refine y_dup hC dX8_remember_67 rfl ?_
      refine y_getIR (w9 := 15) hC (by decide) (yM_o hQ) f_X8_256 rfl dX8_remember_68 ?_
      rw [show va_up (up2 M2 0 12 (nI (8 - 1))) (6 + 7) (cpyD (up2 M2 0 12 (nI (8 - 1)) 2) (up2 M2 0 12 (nI (8 - 1)) (6 + 7)) 1824) 0 12 = nI 7 from (congrFun (va_up_ne _ _ (by decide)) 12).trans up2_at]
      refine y_iconst (v := nI 1) hC dX8_remember_71 (by decide) ?_
      refine y_iaddN hC dX8_remember_72 ?_
      refine y_putIR (w9 := 15) hC (by decide) (yM_o hQ) f_X8_256 rfl (Or.inl rfl) dX8_remember_73 ?_
      exact y_vret hC hr (Nat.zero_le _) (Nat.zero_le _) dX8_remember_76 ⟨rfl, rfl, rfl, ⟨_, rfl, by
    have hk8 : k = 8 := by omega
    subst hk8
    obtain ⟨-, s1, s2, s3⟩ := hi
    refine ⟨?_, ?_, fun j hj => ?_, ?_, fun j hj => ?_, fun t h1 h2 j hj => ?_, ?_⟩
    · rw [up2_r (by decide), va_up_ne _ _ (by decide), up2_r (by decide)]; exact s1 2 (by decide)
    · rw [up2_r (by decide), va_up_ne _ _ (by decide), up2_r (by decide)]; exact s1 1 (by decide)
    · show upd _ 12 _ j = _
      rw [upd_ne9 hj, va_up_ne _ _ (by decide)]
      show upd _ 12 _ j = _
      rw [upd_ne9 hj, s1 0 (by decide)]
    · exact up2_at
    · show up2 _ 0 12 _ (6 + 7) j = _
      rw [up2_r (by decide), va_up_at, cpyD, if_pos hj, up2_r (by decide), s1 2 (by decide)]
    · show up2 _ 0 12 _ (6 + (7 - t)) j = _
      have ht : t < 8 := h2
      rw [up2_r (by omega), va_up_ne _ _ (by omega), up2_r (by omega), s2 (7 - t) (by omega) j hj, show 6 + (7 - t + 1) = 6 + (8 - t) by omega]
    · rw [up2_r (by decide), va_up_ne _ _ (by decide), up2_r (by decide)]; exact s1 3 (by decide)⟩, rfl⟩
    | succ f9 ih =>
      intro k M2 hm hi
      refine y_iload_n hC dX8_remember_11 rfl ?_
      refine y_bipush (v := nI 8) hC dX8_remember_12 (by decide) ?_
      refine y_icmp_ge (tgt := 40) hC dX8_remember_14 (by decide) (fun c14 => absurd c14 (nI_ge (by omega) (by omega))) (fun c14 => ?_)
      refine y_aload_n hC dX8_remember_17 rfl ?_
      refine y_getR hC (yM_o hQ) (yM_r11 hQ) f_X8_28 rfl dX8_remember_18 ?_
      refine y_iload_n hC dX8_remember_21 rfl ?_
      refine y_aald13 (b := q + (6 + k)) hC (yM_a11 hQ) (vp_in_nI (by omega) (by decide)) (by rw [nI_clamp (by omega), yM_e11 hQ _ (by omega), Nat.add_assoc]) dX8_remember_22 ?_
      refine y_aload_n hC dX8_remember_23 rfl ?_
      refine y_getR hC (yM_o hQ) (yM_r11 hQ) f_X8_28 rfl dX8_remember_24 ?_
      refine y_iload_n hC dX8_remember_27 rfl ?_
      refine y_iconst (v := nI 1) hC dX8_remember_28 (by decide) ?_
      refine y_isub hC dX8_remember_29 ?_
      rw [pk_sub (by omega)]
      refine y_aald13 (b := q + (6 + (k - 1))) hC (yM_a11 hQ) (vp_in_nI (by omega) (by decide)) (by rw [nI_clamp (by omega), yM_e11 hQ _ (by omega), Nat.add_assoc]) dX8_remember_30 ?_
      refine y_callS0 hC (c_copy_at X.2.1 D z hQ (a := 6 + k) (b := 6 + (k - 1)) (yM_row hQ (by omega)) (yM_row hQ (by omega)) (by omega) (by omega) (by omega)) m_X8_168 rfl (by decide) (Nat.le_of_ble_eq_true rfl) (Nat.zero_le _) (Nat.zero_le _) dX8_remember_31 ?_
      refine y_iincN hC dX8_remember_34 rfl rfl (by decide) rfl ?_
      refine y_goto (tgt := 11) hC dX8_remember_37 (by decide) ?_
      exact ih (k + 1) _ (by omega) ⟨by omega, hi.2.s hi.1⟩
  exact lp11 7 1 _ rfl ⟨Nat.le_refl _, ⟨fun _ _ => rfl, fun r hr => absurd hr (by omega), fun _ _ => rfl⟩⟩
theorem c_rem_at (l : Launch) (D : yD) (z : Nat) {n : Nat} {sh : yS} {I : yI} {L : yL} {q : Nat} {M : yI} (hQ : yMod sh q) {u : Nat} (hu : M 0 12 = nI u) (hu8 : u ≤ 8) : yM l D z yX8_remember cX8_remember 2 none 1 0 0 [.ref q] n sh (sR 15 I q M) L (fun v n2 sh2 I2 L2 => v = none ∧ n2 = n ∧ sh2 = sh ∧ (∃ M2, I2 = sR 15 I q M2 ∧ rmP M M2 u) ∧ L2 = L) yno := by
  rcases Nat.lt_or_ge u 8 with h | h
  · exact c_rem_lt l D z hQ hu h
  · obtain rfl : u = 8 := by omega
    exact c_rem_8 l D z hQ hu
def goD (d : Nat → Int32) (k : Nat) (s x : Int32) : Nat → Int32 := upd (upd d (164 + 8 * k + 5) s) (164 + 8 * k + 6) (upd d (164 + 8 * k + 5) s 5 + x)
set_option maxRecDepth 100000 in
set_option maxHeartbeats 4000000 in
theorem c_X8_goOn (l : Launch) (D : yD) (z : Nat) {n : Nat} {sh : yS} {I : yI} {L : yL} {q : Nat} {M : yI} (hQ : yMod sh q) {k : Nat} (hk : k < 20) {s x : Int32} : yM l D z yX8_goOn cX8_goOn 4 none 1 0 0 [.ref q, .int (nI k), .int s, .int x] n sh (sR 15 I q M) L (yF none n sh (sR 15 I q (va_up M 2 (goD (M 2) k s x))) L) (yno) := by
  refine yM_of (by decide) (Nat.le_of_ble_eq_true rfl) rfl ?_
  intro X hC hr hnm hRc hRs htb
  have hC : yC X D z cX8_goOn RX8 4 1 := hC
  refine y_aload_n hC dX8_goOn_0 rfl ?_
  refine y_getR hC (yM_o hQ) (yM_r8 hQ) f_X8_17 rfl dX8_goOn_1 ?_
  refine y_iload_n hC dX8_goOn_4 rfl ?_
  refine y_callS1 hC (c_X8_dispute X.2.1 D z (j := k) rfl) m_X8_180 rfl (by decide) (Nat.le_of_ble_eq_true rfl) (Nat.zero_le _) (Nat.zero_le _) dX8_goOn_5 ?_
  refine y_iconst (v := nI 5) hC dX8_goOn_8 (by decide) ?_
  refine y_iaddN hC dX8_goOn_9 ?_
  refine y_iload_n hC dX8_goOn_10 rfl ?_
  refine y_iastRN (w9 := 15) hC (by decide) (yM_a8 hQ) (by omega) dX8_goOn_11 ?_
  refine y_aload_n hC dX8_goOn_12 rfl ?_
  refine y_getR hC (yM_o hQ) (yM_r8 hQ) f_X8_17 rfl dX8_goOn_13 ?_
  refine y_iload_n hC dX8_goOn_16 rfl ?_
  refine y_callS1 hC (c_X8_dispute X.2.1 D z (j := k) rfl) m_X8_180 rfl (by decide) (Nat.le_of_ble_eq_true rfl) (Nat.zero_le _) (Nat.zero_le _) dX8_goOn_17 ?_
  refine y_bipush (v := nI 6) hC dX8_goOn_20 (by decide) ?_
  refine y_iaddN hC dX8_goOn_22 ?_
  refine y_aload_n hC dX8_goOn_23 rfl ?_
  refine y_getR hC (yM_o hQ) (yM_r8 hQ) f_X8_17 rfl dX8_goOn_24 ?_
  refine y_iconst (v := nI 5) hC dX8_goOn_27 (by decide) ?_
  refine y_ialdRN (w9 := 15) hC (by decide) (yM_a8 hQ) (by decide) dX8_goOn_28 ?_
  refine y_iload_n hC dX8_goOn_29 rfl ?_
  refine y_iadd hC dX8_goOn_30 ?_
  refine y_iastRN (w9 := 15) hC (by decide) (yM_a8 hQ) (by omega) dX8_goOn_31 ?_
  exact y_vret hC hr (Nat.zero_le _) (Nat.zero_le _) dX8_goOn_32 ⟨rfl, rfl, rfl, by unfold up2; rw [bx_uu, va_up_at]; rfl, rfl⟩
theorem c_give1_at (l : Launch) (D : yD) (z : Nat) {n : Nat} {sh : yS} {I : yI} {L : yL} {q : Nat} {M : yI} (hQ : yMod sh q) {k p i m r : Nat} (hk : dK (M 2) k p i m r) : yM l D z yX8_give cX8_give 6 none 2 0 0 [.ref (q + 2), .int (nI k), .int 1] n sh (sR 15 I q M) L (yF none n sh (sR 15 I q (va_up M 2 (give1D (M 2) k i m))) L) yno := by
  have h := c_X8_give1 l D z (n := n) (I := sR 15 I q M) (L := L) (d := M 2) (yM_a8 hQ) hk
  rw [at_row (by decide), sR_row (by decide)] at h
  exact h
theorem c_give0_at (l : Launch) (D : yD) (z : Nat) {n : Nat} {sh : yS} {I : yI} {L : yL} {q : Nat} {M : yI} (hQ : yMod sh q) {k p i m r : Nat} (hk : dK (M 2) k p i m r) : yM l D z yX8_give cX8_give 6 none 2 0 0 [.ref (q + 2), .int (nI k), .int 0] n sh (sR 15 I q M) L (yF none n sh (sR 15 I q (va_up M 2 (give0D (M 2) k i m))) L) yno := by
  have h := c_X8_give0 l D z (n := n) (I := sR 15 I q M) (L := L) (d := M 2) (yM_a8 hQ) hk
  rw [at_row (by decide), sR_row (by decide)] at h
  exact h
theorem c_pay_at (l : Launch) (D : yD) (z : Nat) {n : Nat} {sh : yS} {I : yI} {L : yL} {q : Nat} {M : yI} (hQ : yMod sh q) {xf xt : Int32} {f t : Nat} (hxf : xf = nI f) (hxt : xt = nI t) (hf : f < 1824) (ht : t < 1824) {x : Int32} : yM l D z yX8_pay cX8_pay 4 none 0 0 0 [.ref (q + 2), .int xf, .int xt, .int x] n sh (sR 15 I q M) L (yF none n sh (sR 15 I q (va_up M 2 (payD (M 2) f t x))) L) yno := by
  have h := c_X8_pay l D z (n := n) (I := sR 15 I q M) (L := L) (d := M 2) (yM_a8 hQ) hxf hxt hf ht (x := x)
  rw [at_row (by decide), sR_row (by decide)] at h
  exact h
theorem c_end_at (l : Launch) (D : yD) (z : Nat) {n : Nat} {sh : yS} {I : yI} {L : yL} {q : Nat} {M : yI} (hQ : yMod sh q) {k p i m r : Nat} (hk : dK (M 2) k p i m r) {w b : Prop} [Decidable w] [Decidable b] : yM l D z yX8_end cX8_end 5 none 3 0 0 [.ref (q + 2), .int (nI k), .int (b2i w), .int (b2i b)] n sh (sR 15 I q M) L (yF none n sh (sR 15 I q (va_up M 2 (endD (M 2) k i m w b))) L) yno := by
  have h := c_X8_end l D z (n := n) (I := sR 15 I q M) (L := L) (d := M 2) (yM_a8 hQ) hk (w := w) (b := b)
  rw [at_row (by decide), sR_row (by decide)] at h
  exact h
theorem c_passDay_at (l : Launch) (D : yD) (z : Nat) {n : Nat} {sh : yS} {I : yI} {L : yL} {q : Nat} {M : yI} (hQ : yMod sh q) {r9 : Nat} (h15 : r9 < 15) (ha : yArr sh (q + r9) 10 1824) {nd : Nat} {cd : List Int32} (hV : dV (M r9) nd cd) (S : Nat → Int64) : yM l D z yX8_passDay cX8_passDay 6 (some .int) 4 0 0 [.ref q, .ref (q + r9)] n sh (sR 15 I q M) (va_up L (q + 14) S) (yFl (some (.int (pdS (M r9) cd nd).2)) n sh (sR 15 I q (va_up M r9 (pdS (M r9) cd nd).1)) q (va_up L (q + 14) S)) yno := by
  have h := c_X8_passDay l D z (n := n) (I := sR 15 I q M) (L := L) (a := q + r9) (d := M r9) hQ ha hV (S0 := S)
  rw [at_row h15, sR_row h15] at h
  exact h
/-- a change of the data: what the model holds then -/
def wrP (M M2 : yI) (u : Nat) (d : Nat → Int32) : Prop := M2 2 = d ∧ ∃ M3, rmP (up2 M 0 0 0) M3 u ∧ ∀ r, r ≠ 2 → M2 r = M3 r
abbrev yMw (o : Int32 × Int32) (d : Nat → Int32) (n : Nat) (sh : yS) (I : yI) (q : Nat) (M : yI) (u : Nat) (L : yL) : Option Value → Nat → yS → yI → yL → Prop := fun v n2 sh2 I2 L2 => v = some (.int o.2) ∧ n2 = n ∧ sh2 = sh ∧ (∃ M2, I2 = sR 15 I q M2 ∧ ((o.1 = 0 ∧ wrP M M2 u d) ∨ (o.1 ≠ 0 ∧ M2 = up2 M 0 0 o.1))) ∧ ∃ S, L2 = va_up L (q + 14) S
theorem yMw.no {o : Int32 × Int32} {d : Nat → Int32} {n : Nat} {sh : yS} {I : yI} {q : Nat} {M M2 : yI} {u : Nat} {L : yL} {S : Nat → Int64} {v : Option Value} {t : Int32} (ho : o = (t, 0)) (ht : t ≠ 0) (h : v = some (.int 0)) (hM : M2 = up2 M 0 0 t) : yMw o d n sh I q M u L v n sh (sR 15 I q M2) (va_up L (q + 14) S) := by
  subst ho hM
  exact ⟨h, rfl, rfl, ⟨_, rfl, Or.inr ⟨ht, rfl⟩⟩, _, rfl⟩
theorem yMw.ok {o : Int32 × Int32} {d : Nat → Int32} {n : Nat} {sh : yS} {I : yI} {q : Nat} {M M2 M3 : yI} {u : Nat} {L : yL} {S : Nat → Int64} {v : Option Value} {r : Int32} (ho : o = (0, r)) (h : v = some (.int r)) (h2 : M2 2 = d) (h3 : rmP (up2 M 0 0 0) M3 u) (h4 : ∀ r, r ≠ 2 → M2 r = M3 r) : yMw o d n sh I q M u L v n sh (sR 15 I q M2) (va_up L (q + 14) S) := by
  subst ho
  exact ⟨h, rfl, rfl, ⟨_, rfl, Or.inl ⟨rfl, h2, M3, h3, h4⟩⟩, _, rfl⟩
