theorem at_row {w q k : Nat} {I M : yI} (h : k < w) : va_up (sR w I q M) (q + k) (M k) = sR w I q M := by
  rw [sR_row h, va_up_id]
theorem up2_up2 {M : yI} {r j : Nat} {x y : Int32} : up2 (up2 M r j x) r j y = up2 M r j y := by
  unfold up2
  rw [bx_uu, show va_up M r (upd (M r) j x) r = upd (M r) j x by simp [va_up]]
  congr 1
  funext a
  unfold upd
  by_cases h : a = j
  · rw [if_pos h, if_pos h]
  · rw [if_neg h, if_neg h, if_neg h]
theorem up2_at {M : yI} {r j : Nat} {x : Int32} : up2 M r j x r j = x := by simp [up2, va_up, upd]
theorem up2_r {M : yI} {r j b : Nat} {x : Int32} (h : b ≠ r) : up2 M r j x b = M b := by
  unfold up2
  exact va_up_ne _ _ h
theorem in_vp {x : Int32} {n : Nat} (hn : n < 2147483648) : (¬ x < 0 ∧ x ≤ nI n - 1) ↔ vp_in x n := by
  constructor
  · intro h
    obtain ⟨j, hj, rfl⟩ := nI_of h.1
    rcases n with _ | n
    · exact absurd (Int32.le_trans (nI_pos' hj) h.2) (by decide)
    · rw [nI_pred] at h
      exact vp_in_nI (Nat.lt_succ_of_le (nI_le2 h.2)) hn
  · intro h
    obtain ⟨j, hj, rfl⟩ := vp_in_of h hn
    refine ⟨nI_pos (by omega), ?_⟩
    rcases n with _ | n
    · exact absurd hj (Nat.not_lt_zero _)
    · rw [nI_pred]
      exact nI_le (by omega) (by omega)
set_option maxRecDepth 100000 in
set_option maxHeartbeats 4000000 in
theorem c_X8_thrown (l : Launch) (D : yD) (z : Nat) {n : Nat} {sh : yS} {I : yI} {L : yL} {q : Nat} {M : yI} (hQ : yMod sh q) : yM l D z yX8_thrown cX8_thrown 1 (some .int) 0 0 0 [.ref q] n sh (sR 15 I q M) L (yF (some (.int (M 0 0))) n sh (sR 15 I q M) L) (yno) := by
  refine yM_of (by decide) (Nat.le_of_ble_eq_true rfl) rfl ?_
  intro X hC hr hnm hRc hRs htb
  have hC : yC X D z cX8_thrown RX8 1 0 := hC
  refine y_aload_n hC dX8_thrown_0 rfl ?_
  refine y_getIR (w9 := 15) hC (by decide) (yM_o hQ) f_X8_39 rfl dX8_thrown_1 ?_
  exact y_iret hC hr rfl (Nat.zero_le _) (Nat.zero_le _) dX8_thrown_4 (yF.mk rfl)
set_option maxRecDepth 100000 in
set_option maxHeartbeats 4000000 in
theorem c_X8_fails1 (l : Launch) (D : yD) (z : Nat) {n : Nat} {sh : yS} {I : yI} {L : yL} {q : Nat} {M : yI} (hQ : yMod sh q) {x : Int32} (h0 : M 0 0 = 0) (hx : ¬ x = 0) : yM l D z yX8_fails cX8_fails 3 (some .boolean) 0 0 0 [.ref q, .int 1, .int x] n sh (sR 15 I q M) L (yF (some (.int 1)) n sh (sR 15 I q (up2 M 0 0 x)) L) (yno) := by
  refine yM_of (by decide) (Nat.le_of_ble_eq_true rfl) rfl ?_
  intro X hC hr hnm hRc hRs htb
  have hC : yC X D z cX8_fails RX8 3 0 := hC
  refine y_iload_n hC dX8_fails_0 rfl ?_
  refine y_if_eq (tgt := 16) hC dX8_fails_1 (by decide) (fun c1 => absurd c1 (by decide)) (fun c1 => ?_)
  refine y_aload_n hC dX8_fails_4 rfl ?_
  refine y_getIR (w9 := 15) hC (by decide) (yM_o hQ) f_X8_39 rfl dX8_fails_5 ?_
  rw [h0]
  refine y_if_ne (tgt := 16) hC dX8_fails_8 (by decide) (fun c8 => absurd rfl c8) (fun c8 => ?_)
  refine y_aload_n hC dX8_fails_11 rfl ?_
  refine y_iload_n hC dX8_fails_12 rfl ?_
  refine y_putIR (w9 := 15) hC (by decide) (yM_o hQ) f_X8_39 rfl (Or.inl rfl) dX8_fails_13 ?_
  refine y_aload_n hC dX8_fails_16 rfl ?_
  refine y_getIR (w9 := 15) hC (by decide) (yM_o hQ) f_X8_39 rfl dX8_fails_17 ?_
  refine y_if_eq (tgt := 27) hC dX8_fails_20 (by decide) (fun c20 => absurd (up2_at.symm.trans c20) hx) (fun c20 => ?_)
  refine y_iconst (v := 1) hC dX8_fails_23 (by decide) ?_
  refine y_goto (tgt := 28) hC dX8_fails_24 (by decide) ?_
  exact y_iret hC hr rfl (Nat.zero_le _) (Nat.zero_le _) dX8_fails_28 (yF.mk rfl)
set_option maxRecDepth 100000 in
set_option maxHeartbeats 4000000 in
theorem c_X8_fails0 (l : Launch) (D : yD) (z : Nat) {n : Nat} {sh : yS} {I : yI} {L : yL} {q : Nat} {M : yI} (hQ : yMod sh q) {x : Int32} (h0 : M 0 0 = 0) : yM l D z yX8_fails cX8_fails 3 (some .boolean) 0 0 0 [.ref q, .int 0, .int x] n sh (sR 15 I q M) L (yF (some (.int 0)) n sh (sR 15 I q (M)) L) (yno) := by
  refine yM_of (by decide) (Nat.le_of_ble_eq_true rfl) rfl ?_
  intro X hC hr hnm hRc hRs htb
  have hC : yC X D z cX8_fails RX8 3 0 := hC
  refine y_iload_n hC dX8_fails_0 rfl ?_
  refine y_if_eq (tgt := 16) hC dX8_fails_1 (by decide) (fun c1 => ?_) (fun c1 => absurd rfl c1)
  refine y_aload_n hC dX8_fails_16 rfl ?_
  refine y_getIR (w9 := 15) hC (by decide) (yM_o hQ) f_X8_39 rfl dX8_fails_17 ?_
  rw [h0]
  refine y_if_eq (tgt := 27) hC dX8_fails_20 (by decide) (fun c20 => ?_) (fun c20 => absurd rfl c20)
  refine y_iconst (v := 0) hC dX8_fails_27 (by decide) ?_
  exact y_iret hC hr rfl (Nat.zero_le _) (Nat.zero_le _) dX8_fails_28 (yF.mk rfl)
set_option maxRecDepth 100000 in
set_option maxHeartbeats 4000000 in
theorem c_X8_noIssuer1 (l : Launch) (D : yD) (z : Nat) {n : Nat} {sh : yS} {I : yI} {L : yL} {q : Nat} {M : yI} (hQ : yMod sh q) {x : Int32} {cnt : Nat} (h0 : M 0 0 = 0) (hc : M 2 0 = nI cnt) (hcn : cnt < 2147483648) (hx : ¬ vp_in x cnt) : yM l D z yX8_noIssuer cX8_noIssuer 2 (some .boolean) 1 0 0 [.ref q, .int x] n sh (sR 15 I q M) L (yF (some (.int 1)) n sh (sR 15 I q (up2 M 0 0 1)) L) (yno) := by
  refine yM_of (by decide) (Nat.le_of_ble_eq_true rfl) rfl ?_
  intro X hC hr hnm hRc hRs htb
  have hC : yC X D z cX8_noIssuer RX8 2 1 := hC
  refine y_aload_n hC dX8_noIssuer_0 rfl ?_
  refine y_iload_n hC dX8_noIssuer_1 rfl ?_
  refine y_iconst (v := 0) hC dX8_noIssuer_2 (by decide) ?_
  refine y_aload_n hC dX8_noIssuer_3 rfl ?_
  refine y_getR hC (yM_o hQ) (yM_r8 hQ) f_X8_17 rfl dX8_noIssuer_4 ?_
  refine y_iconst (v := nI 0) hC dX8_noIssuer_7 (by decide) ?_
  refine y_ialdRN (w9 := 15) hC (by decide) (yM_a8 hQ) (by decide) dX8_noIssuer_8 ?_
  rw [hc]
  refine y_iconst (v := 1) hC dX8_noIssuer_9 (by decide) ?_
  refine y_isub hC dX8_noIssuer_10 ?_
  refine y_callS1 hC (c_X8_in X.2.1 D z) m_X8_61 rfl (by decide) (Nat.le_of_ble_eq_true rfl) (Nat.zero_le _) (Nat.zero_le _) dX8_noIssuer_11 ?_
  refine y_if_neB (tgt := 21) hC dX8_noIssuer_14 (by decide) (fun c14 => absurd ((in_vp hcn).mp c14) hx) (fun c14 => ?_)
  refine y_iconst (v := 1) hC dX8_noIssuer_17 (by decide) ?_
  refine y_goto (tgt := 22) hC dX8_noIssuer_18 (by decide) ?_
  refine y_iconst (v := 1) hC dX8_noIssuer_22 (by decide) ?_
  refine y_callV1 hC (c_X8_fails1 X.2.1 D z hQ h0 (by decide)) m_X8_158 rfl (yM_o hQ) (by decide) (Nat.le_of_ble_eq_true rfl) (Nat.zero_le _) (Nat.zero_le _) dX8_noIssuer_23 ?_
  exact y_iret hC hr rfl (Nat.zero_le _) (Nat.zero_le _) dX8_noIssuer_26 (yF.mk rfl)
set_option maxRecDepth 100000 in
set_option maxHeartbeats 4000000 in
theorem c_X8_noIssuer0 (l : Launch) (D : yD) (z : Nat) {n : Nat} {sh : yS} {I : yI} {L : yL} {q : Nat} {M : yI} (hQ : yMod sh q) {x : Int32} {cnt : Nat} (h0 : M 0 0 = 0) (hc : M 2 0 = nI cnt) (hcn : cnt < 2147483648) (hx : vp_in x cnt) : yM l D z yX8_noIssuer cX8_noIssuer 2 (some .boolean) 1 0 0 [.ref q, .int x] n sh (sR 15 I q M) L (yF (some (.int 0)) n sh (sR 15 I q (M)) L) (yno) := by
  refine yM_of (by decide) (Nat.le_of_ble_eq_true rfl) rfl ?_
  intro X hC hr hnm hRc hRs htb
  have hC : yC X D z cX8_noIssuer RX8 2 1 := hC
  refine y_aload_n hC dX8_noIssuer_0 rfl ?_
  refine y_iload_n hC dX8_noIssuer_1 rfl ?_
  refine y_iconst (v := 0) hC dX8_noIssuer_2 (by decide) ?_
  refine y_aload_n hC dX8_noIssuer_3 rfl ?_
  refine y_getR hC (yM_o hQ) (yM_r8 hQ) f_X8_17 rfl dX8_noIssuer_4 ?_
  refine y_iconst (v := nI 0) hC dX8_noIssuer_7 (by decide) ?_
  refine y_ialdRN (w9 := 15) hC (by decide) (yM_a8 hQ) (by decide) dX8_noIssuer_8 ?_
  rw [hc]
  refine y_iconst (v := 1) hC dX8_noIssuer_9 (by decide) ?_
  refine y_isub hC dX8_noIssuer_10 ?_
  refine y_callS1 hC (c_X8_in X.2.1 D z) m_X8_61 rfl (by decide) (Nat.le_of_ble_eq_true rfl) (Nat.zero_le _) (Nat.zero_le _) dX8_noIssuer_11 ?_
  refine y_if_neB (tgt := 21) hC dX8_noIssuer_14 (by decide) (fun c14 => ?_) (fun c14 => absurd ((in_vp hcn).mpr hx) c14)
  refine y_iconst (v := 0) hC dX8_noIssuer_21 (by decide) ?_
  refine y_iconst (v := 1) hC dX8_noIssuer_22 (by decide) ?_
  refine y_callV1 hC (c_X8_fails0 X.2.1 D z hQ h0) m_X8_158 rfl (yM_o hQ) (by decide) (Nat.le_of_ble_eq_true rfl) (Nat.zero_le _) (Nat.zero_le _) dX8_noIssuer_23 ?_
  exact y_iret hC hr rfl (Nat.zero_le _) (Nat.zero_le _) dX8_noIssuer_26 (yF.mk rfl)
set_option maxRecDepth 100000 in
set_option maxHeartbeats 4000000 in
theorem c_X8_noMerchant1 (l : Launch) (D : yD) (z : Nat) {n : Nat} {sh : yS} {I : yI} {L : yL} {q : Nat} {M : yI} (hQ : yMod sh q) {x : Int32} {cnt : Nat} (h0 : M 0 0 = 0) (hc : M 2 1 = nI cnt) (hcn : cnt < 2147483648) (hx : ¬ vp_in x cnt) : yM l D z yX8_noMerchant cX8_noMerchant 2 (some .boolean) 1 0 0 [.ref q, .int x] n sh (sR 15 I q M) L (yF (some (.int 1)) n sh (sR 15 I q (up2 M 0 0 1)) L) (yno) := by
  refine yM_of (by decide) (Nat.le_of_ble_eq_true rfl) rfl ?_
  intro X hC hr hnm hRc hRs htb
  have hC : yC X D z cX8_noMerchant RX8 2 1 := hC
  refine y_aload_n hC dX8_noMerchant_0 rfl ?_
  refine y_iload_n hC dX8_noMerchant_1 rfl ?_
  refine y_iconst (v := 0) hC dX8_noMerchant_2 (by decide) ?_
  refine y_aload_n hC dX8_noMerchant_3 rfl ?_
  refine y_getR hC (yM_o hQ) (yM_r8 hQ) f_X8_17 rfl dX8_noMerchant_4 ?_
  refine y_iconst (v := nI 1) hC dX8_noMerchant_7 (by decide) ?_
  refine y_ialdRN (w9 := 15) hC (by decide) (yM_a8 hQ) (by decide) dX8_noMerchant_8 ?_
  rw [hc]
  refine y_iconst (v := 1) hC dX8_noMerchant_9 (by decide) ?_
  refine y_isub hC dX8_noMerchant_10 ?_
  refine y_callS1 hC (c_X8_in X.2.1 D z) m_X8_61 rfl (by decide) (Nat.le_of_ble_eq_true rfl) (Nat.zero_le _) (Nat.zero_le _) dX8_noMerchant_11 ?_
  refine y_if_neB (tgt := 21) hC dX8_noMerchant_14 (by decide) (fun c14 => absurd ((in_vp hcn).mp c14) hx) (fun c14 => ?_)
  refine y_iconst (v := 1) hC dX8_noMerchant_17 (by decide) ?_
  refine y_goto (tgt := 22) hC dX8_noMerchant_18 (by decide) ?_
  refine y_iconst (v := 1) hC dX8_noMerchant_22 (by decide) ?_
  refine y_callV1 hC (c_X8_fails1 X.2.1 D z hQ h0 (by decide)) m_X8_158 rfl (yM_o hQ) (by decide) (Nat.le_of_ble_eq_true rfl) (Nat.zero_le _) (Nat.zero_le _) dX8_noMerchant_23 ?_
  exact y_iret hC hr rfl (Nat.zero_le _) (Nat.zero_le _) dX8_noMerchant_26 (yF.mk rfl)
set_option maxRecDepth 100000 in
set_option maxHeartbeats 4000000 in
theorem c_X8_noMerchant0 (l : Launch) (D : yD) (z : Nat) {n : Nat} {sh : yS} {I : yI} {L : yL} {q : Nat} {M : yI} (hQ : yMod sh q) {x : Int32} {cnt : Nat} (h0 : M 0 0 = 0) (hc : M 2 1 = nI cnt) (hcn : cnt < 2147483648) (hx : vp_in x cnt) : yM l D z yX8_noMerchant cX8_noMerchant 2 (some .boolean) 1 0 0 [.ref q, .int x] n sh (sR 15 I q M) L (yF (some (.int 0)) n sh (sR 15 I q (M)) L) (yno) := by
  refine yM_of (by decide) (Nat.le_of_ble_eq_true rfl) rfl ?_
  intro X hC hr hnm hRc hRs htb
  have hC : yC X D z cX8_noMerchant RX8 2 1 := hC
  refine y_aload_n hC dX8_noMerchant_0 rfl ?_
  refine y_iload_n hC dX8_noMerchant_1 rfl ?_
  refine y_iconst (v := 0) hC dX8_noMerchant_2 (by decide) ?_
  refine y_aload_n hC dX8_noMerchant_3 rfl ?_
  refine y_getR hC (yM_o hQ) (yM_r8 hQ) f_X8_17 rfl dX8_noMerchant_4 ?_
  refine y_iconst (v := nI 1) hC dX8_noMerchant_7 (by decide) ?_
  refine y_ialdRN (w9 := 15) hC (by decide) (yM_a8 hQ) (by decide) dX8_noMerchant_8 ?_
  rw [hc]
  refine y_iconst (v := 1) hC dX8_noMerchant_9 (by decide) ?_
  refine y_isub hC dX8_noMerchant_10 ?_
  refine y_callS1 hC (c_X8_in X.2.1 D z) m_X8_61 rfl (by decide) (Nat.le_of_ble_eq_true rfl) (Nat.zero_le _) (Nat.zero_le _) dX8_noMerchant_11 ?_
  refine y_if_neB (tgt := 21) hC dX8_noMerchant_14 (by decide) (fun c14 => ?_) (fun c14 => absurd ((in_vp hcn).mpr hx) c14)
  refine y_iconst (v := 0) hC dX8_noMerchant_21 (by decide) ?_
  refine y_iconst (v := 1) hC dX8_noMerchant_22 (by decide) ?_
  refine y_callV1 hC (c_X8_fails0 X.2.1 D z hQ h0) m_X8_158 rfl (yM_o hQ) (by decide) (Nat.le_of_ble_eq_true rfl) (Nat.zero_le _) (Nat.zero_le _) dX8_noMerchant_23 ?_
  exact y_iret hC hr rfl (Nat.zero_le _) (Nat.zero_le _) dX8_noMerchant_26 (yF.mk rfl)
set_option maxRecDepth 100000 in
set_option maxHeartbeats 4000000 in
theorem c_X8_noPurchase1 (l : Launch) (D : yD) (z : Nat) {n : Nat} {sh : yS} {I : yI} {L : yL} {q : Nat} {M : yI} (hQ : yMod sh q) {x : Int32} {cnt : Nat} (h0 : M 0 0 = 0) (hc : M 2 3 = nI cnt) (hcn : cnt < 2147483648) (hx : ¬ vp_in x cnt) : yM l D z yX8_noPurchase cX8_noPurchase 2 (some .boolean) 1 0 0 [.ref q, .int x] n sh (sR 15 I q M) L (yF (some (.int 1)) n sh (sR 15 I q (up2 M 0 0 1)) L) (yno) := by
  refine yM_of (by decide) (Nat.le_of_ble_eq_true rfl) rfl ?_
  intro X hC hr hnm hRc hRs htb
  have hC : yC X D z cX8_noPurchase RX8 2 1 := hC
  refine y_aload_n hC dX8_noPurchase_0 rfl ?_
  refine y_iload_n hC dX8_noPurchase_1 rfl ?_
  refine y_iconst (v := 0) hC dX8_noPurchase_2 (by decide) ?_
  refine y_aload_n hC dX8_noPurchase_3 rfl ?_
  refine y_getR hC (yM_o hQ) (yM_r8 hQ) f_X8_17 rfl dX8_noPurchase_4 ?_
  refine y_iconst (v := nI 3) hC dX8_noPurchase_7 (by decide) ?_
  refine y_ialdRN (w9 := 15) hC (by decide) (yM_a8 hQ) (by decide) dX8_noPurchase_8 ?_
  rw [hc]
  refine y_iconst (v := 1) hC dX8_noPurchase_9 (by decide) ?_
  refine y_isub hC dX8_noPurchase_10 ?_
  refine y_callS1 hC (c_X8_in X.2.1 D z) m_X8_61 rfl (by decide) (Nat.le_of_ble_eq_true rfl) (Nat.zero_le _) (Nat.zero_le _) dX8_noPurchase_11 ?_
  refine y_if_neB (tgt := 21) hC dX8_noPurchase_14 (by decide) (fun c14 => absurd ((in_vp hcn).mp c14) hx) (fun c14 => ?_)
  refine y_iconst (v := 1) hC dX8_noPurchase_17 (by decide) ?_
  refine y_goto (tgt := 22) hC dX8_noPurchase_18 (by decide) ?_
  refine y_iconst (v := 1) hC dX8_noPurchase_22 (by decide) ?_
  refine y_callV1 hC (c_X8_fails1 X.2.1 D z hQ h0 (by decide)) m_X8_158 rfl (yM_o hQ) (by decide) (Nat.le_of_ble_eq_true rfl) (Nat.zero_le _) (Nat.zero_le _) dX8_noPurchase_23 ?_
  exact y_iret hC hr rfl (Nat.zero_le _) (Nat.zero_le _) dX8_noPurchase_26 (yF.mk rfl)
set_option maxRecDepth 100000 in
set_option maxHeartbeats 4000000 in
theorem c_X8_noPurchase0 (l : Launch) (D : yD) (z : Nat) {n : Nat} {sh : yS} {I : yI} {L : yL} {q : Nat} {M : yI} (hQ : yMod sh q) {x : Int32} {cnt : Nat} (h0 : M 0 0 = 0) (hc : M 2 3 = nI cnt) (hcn : cnt < 2147483648) (hx : vp_in x cnt) : yM l D z yX8_noPurchase cX8_noPurchase 2 (some .boolean) 1 0 0 [.ref q, .int x] n sh (sR 15 I q M) L (yF (some (.int 0)) n sh (sR 15 I q (M)) L) (yno) := by
  refine yM_of (by decide) (Nat.le_of_ble_eq_true rfl) rfl ?_
  intro X hC hr hnm hRc hRs htb
  have hC : yC X D z cX8_noPurchase RX8 2 1 := hC
  refine y_aload_n hC dX8_noPurchase_0 rfl ?_
  refine y_iload_n hC dX8_noPurchase_1 rfl ?_
  refine y_iconst (v := 0) hC dX8_noPurchase_2 (by decide) ?_
  refine y_aload_n hC dX8_noPurchase_3 rfl ?_
  refine y_getR hC (yM_o hQ) (yM_r8 hQ) f_X8_17 rfl dX8_noPurchase_4 ?_
  refine y_iconst (v := nI 3) hC dX8_noPurchase_7 (by decide) ?_
  refine y_ialdRN (w9 := 15) hC (by decide) (yM_a8 hQ) (by decide) dX8_noPurchase_8 ?_
  rw [hc]
  refine y_iconst (v := 1) hC dX8_noPurchase_9 (by decide) ?_
  refine y_isub hC dX8_noPurchase_10 ?_
  refine y_callS1 hC (c_X8_in X.2.1 D z) m_X8_61 rfl (by decide) (Nat.le_of_ble_eq_true rfl) (Nat.zero_le _) (Nat.zero_le _) dX8_noPurchase_11 ?_
  refine y_if_neB (tgt := 21) hC dX8_noPurchase_14 (by decide) (fun c14 => ?_) (fun c14 => absurd ((in_vp hcn).mpr hx) c14)
  refine y_iconst (v := 0) hC dX8_noPurchase_21 (by decide) ?_
  refine y_iconst (v := 1) hC dX8_noPurchase_22 (by decide) ?_
  refine y_callV1 hC (c_X8_fails0 X.2.1 D z hQ h0) m_X8_158 rfl (yM_o hQ) (by decide) (Nat.le_of_ble_eq_true rfl) (Nat.zero_le _) (Nat.zero_le _) dX8_noPurchase_23 ?_
  exact y_iret hC hr rfl (Nat.zero_le _) (Nat.zero_le _) dX8_noPurchase_26 (yF.mk rfl)
set_option maxRecDepth 100000 in
set_option maxHeartbeats 4000000 in
theorem c_X8_noDispute1 (l : Launch) (D : yD) (z : Nat) {n : Nat} {sh : yS} {I : yI} {L : yL} {q : Nat} {M : yI} (hQ : yMod sh q) {x : Int32} {cnt : Nat} (h0 : M 0 0 = 0) (hc : M 2 4 = nI cnt) (hcn : cnt < 2147483648) (hx : ¬ vp_in x cnt) : yM l D z yX8_noDispute cX8_noDispute 2 (some .boolean) 1 0 0 [.ref q, .int x] n sh (sR 15 I q M) L (yF (some (.int 1)) n sh (sR 15 I q (up2 M 0 0 1)) L) (yno) := by
  refine yM_of (by decide) (Nat.le_of_ble_eq_true rfl) rfl ?_
  intro X hC hr hnm hRc hRs htb
  have hC : yC X D z cX8_noDispute RX8 2 1 := hC
  refine y_aload_n hC dX8_noDispute_0 rfl ?_
  refine y_iload_n hC dX8_noDispute_1 rfl ?_
  refine y_iconst (v := 0) hC dX8_noDispute_2 (by decide) ?_
  refine y_aload_n hC dX8_noDispute_3 rfl ?_
  refine y_getR hC (yM_o hQ) (yM_r8 hQ) f_X8_17 rfl dX8_noDispute_4 ?_
  refine y_iconst (v := nI 4) hC dX8_noDispute_7 (by decide) ?_
  refine y_ialdRN (w9 := 15) hC (by decide) (yM_a8 hQ) (by decide) dX8_noDispute_8 ?_
  rw [hc]
  refine y_iconst (v := 1) hC dX8_noDispute_9 (by decide) ?_
  refine y_isub hC dX8_noDispute_10 ?_
  refine y_callS1 hC (c_X8_in X.2.1 D z) m_X8_61 rfl (by decide) (Nat.le_of_ble_eq_true rfl) (Nat.zero_le _) (Nat.zero_le _) dX8_noDispute_11 ?_
  refine y_if_neB (tgt := 21) hC dX8_noDispute_14 (by decide) (fun c14 => absurd ((in_vp hcn).mp c14) hx) (fun c14 => ?_)
  refine y_iconst (v := 1) hC dX8_noDispute_17 (by decide) ?_
  refine y_goto (tgt := 22) hC dX8_noDispute_18 (by decide) ?_
  refine y_iconst (v := 1) hC dX8_noDispute_22 (by decide) ?_
  refine y_callV1 hC (c_X8_fails1 X.2.1 D z hQ h0 (by decide)) m_X8_158 rfl (yM_o hQ) (by decide) (Nat.le_of_ble_eq_true rfl) (Nat.zero_le _) (Nat.zero_le _) dX8_noDispute_23 ?_
  exact y_iret hC hr rfl (Nat.zero_le _) (Nat.zero_le _) dX8_noDispute_26 (yF.mk rfl)
set_option maxRecDepth 100000 in
set_option maxHeartbeats 4000000 in
theorem c_X8_noDispute0 (l : Launch) (D : yD) (z : Nat) {n : Nat} {sh : yS} {I : yI} {L : yL} {q : Nat} {M : yI} (hQ : yMod sh q) {x : Int32} {cnt : Nat} (h0 : M 0 0 = 0) (hc : M 2 4 = nI cnt) (hcn : cnt < 2147483648) (hx : vp_in x cnt) : yM l D z yX8_noDispute cX8_noDispute 2 (some .boolean) 1 0 0 [.ref q, .int x] n sh (sR 15 I q M) L (yF (some (.int 0)) n sh (sR 15 I q (M)) L) (yno) := by
  refine yM_of (by decide) (Nat.le_of_ble_eq_true rfl) rfl ?_
  intro X hC hr hnm hRc hRs htb
  have hC : yC X D z cX8_noDispute RX8 2 1 := hC
  refine y_aload_n hC dX8_noDispute_0 rfl ?_
  refine y_iload_n hC dX8_noDispute_1 rfl ?_
  refine y_iconst (v := 0) hC dX8_noDispute_2 (by decide) ?_
  refine y_aload_n hC dX8_noDispute_3 rfl ?_
  refine y_getR hC (yM_o hQ) (yM_r8 hQ) f_X8_17 rfl dX8_noDispute_4 ?_
  refine y_iconst (v := nI 4) hC dX8_noDispute_7 (by decide) ?_
  refine y_ialdRN (w9 := 15) hC (by decide) (yM_a8 hQ) (by decide) dX8_noDispute_8 ?_
  rw [hc]
  refine y_iconst (v := 1) hC dX8_noDispute_9 (by decide) ?_
  refine y_isub hC dX8_noDispute_10 ?_
  refine y_callS1 hC (c_X8_in X.2.1 D z) m_X8_61 rfl (by decide) (Nat.le_of_ble_eq_true rfl) (Nat.zero_le _) (Nat.zero_le _) dX8_noDispute_11 ?_
  refine y_if_neB (tgt := 21) hC dX8_noDispute_14 (by decide) (fun c14 => ?_) (fun c14 => absurd ((in_vp hcn).mpr hx) c14)
  refine y_iconst (v := 0) hC dX8_noDispute_21 (by decide) ?_
  refine y_iconst (v := 1) hC dX8_noDispute_22 (by decide) ?_
  refine y_callV1 hC (c_X8_fails0 X.2.1 D z hQ h0) m_X8_158 rfl (yM_o hQ) (by decide) (Nat.le_of_ble_eq_true rfl) (Nat.zero_le _) (Nat.zero_le _) dX8_noDispute_23 ?_
  exact y_iret hC hr rfl (Nat.zero_le _) (Nat.zero_le _) dX8_noDispute_26 (yF.mk rfl)
/-- what a call of the model comes to: the exception's number, and the answer -/
abbrev yMo (o : Int32 × Int32) (n : Nat) (sh : yS) (I : yI) (q : Nat) (M : yI) (L : yL) : Option Value → Nat → yS → yI → yL → Prop := fun v n2 sh2 I2 L2 => v = some (.int o.2) ∧ n2 = n ∧ sh2 = sh ∧ I2 = sR 15 I q (up2 M 0 0 o.1) ∧ ∃ S, L2 = va_up L (q + 14) S
def mI (n : Nat) (x : Int32) (r : Int32 × Int32) : Int32 × Int32 := if x < 0 ∨ n ≤ tn x then (1, 0) else r
def mA (c : Int32) (p : Prop) [Decidable p] (r : Int32 × Int32) : Int32 × Int32 := if p then r else (c, 0)
theorem mI_t {n : Nat} {x : Int32} {r : Int32 × Int32} (h : vp_in x n) : mI n x r = r := if_neg h
theorem mI_f {n : Nat} {x : Int32} {r : Int32 × Int32} (h : ¬ vp_in x n) : mI n x r = (1, 0) := if_pos (Decidable.not_not.mp h)
theorem mA_t {c : Int32} {p : Prop} [Decidable p] {r : Int32 × Int32} (h : p) : mA c p r = r := if_pos h
theorem mA_f {c : Int32} {p : Prop} [Decidable p] {r : Int32 × Int32} (h : ¬ p) : mA c p r = (c, 0) := if_neg h
theorem yMo.mk {o : Int32 × Int32} {n : Nat} {sh : yS} {I : yI} {q : Nat} {M M2 : yI} {L : yL} {v : Option Value} {t r : Int32} (ho : o = (t, r)) (h : v = some (.int r)) (hM : M2 = up2 M 0 0 t) : yMo o n sh I q M L v n sh (sR 15 I q M2) L := by
  subst ho hM
  exact ⟨h, rfl, rfl, rfl, _, (va_upL_id L (q + 14)).symm⟩
theorem yMo.mkS {o : Int32 × Int32} {n : Nat} {sh : yS} {I : yI} {q : Nat} {M M2 : yI} {L : yL} {S : Nat → Int64} {v : Option Value} {t r : Int32} (ho : o = (t, r)) (h : v = some (.int r)) (hM : M2 = up2 M 0 0 t) : yMo o n sh I q M L v n sh (sR 15 I q M2) (va_up L (q + 14) S) := by
  subst ho hM
  exact ⟨h, rfl, rfl, rfl, _, rfl⟩
set_option maxRecDepth 100000 in
set_option maxHeartbeats 4000000 in
theorem c_X8_issuerCount (l : Launch) (D : yD) (z : Nat) {n : Nat} {sh : yS} {I : yI} {L : yL} {q : Nat} {M : yI} (hQ : yMod sh q) : yM l D z yX8_issuerCount cX8_issuerCount 1 (some .int) 0 0 0 [.ref q] n sh (sR 15 I q M) L (yMo (0, M 2 0) n sh I q M L) (yno) := by
  refine yM_of (by decide) (Nat.le_of_ble_eq_true rfl) rfl ?_
  intro X hC hr hnm hRc hRs htb
  have hC : yC X D z cX8_issuerCount RX8 1 0 := hC
  refine y_aload_n hC dX8_issuerCount_0 rfl ?_
  refine y_iconst (v := 0) hC dX8_issuerCount_1 (by decide) ?_
  refine y_putIR (w9 := 15) hC (by decide) (yM_o hQ) f_X8_39 rfl (Or.inl rfl) dX8_issuerCount_2 ?_
  refine y_aload_n hC dX8_issuerCount_5 rfl ?_
  refine y_getR hC (yM_o hQ) (yM_r8 hQ) f_X8_17 rfl dX8_issuerCount_6 ?_
  refine y_iconst (v := nI 0) hC dX8_issuerCount_9 (by decide) ?_
  refine y_ialdRN (w9 := 15) hC (by decide) (yM_a8 hQ) (by decide) dX8_issuerCount_10 ?_
  exact y_iret hC hr rfl (Nat.zero_le _) (Nat.zero_le _) dX8_issuerCount_11 (yMo.mk rfl rfl rfl)
set_option maxRecDepth 100000 in
set_option maxHeartbeats 4000000 in
theorem c_X8_merchantCount (l : Launch) (D : yD) (z : Nat) {n : Nat} {sh : yS} {I : yI} {L : yL} {q : Nat} {M : yI} (hQ : yMod sh q) : yM l D z yX8_merchantCount cX8_merchantCount 1 (some .int) 0 0 0 [.ref q] n sh (sR 15 I q M) L (yMo (0, M 2 1) n sh I q M L) (yno) := by
  refine yM_of (by decide) (Nat.le_of_ble_eq_true rfl) rfl ?_
  intro X hC hr hnm hRc hRs htb
  have hC : yC X D z cX8_merchantCount RX8 1 0 := hC
  refine y_aload_n hC dX8_merchantCount_0 rfl ?_
  refine y_iconst (v := 0) hC dX8_merchantCount_1 (by decide) ?_
  refine y_putIR (w9 := 15) hC (by decide) (yM_o hQ) f_X8_39 rfl (Or.inl rfl) dX8_merchantCount_2 ?_
  refine y_aload_n hC dX8_merchantCount_5 rfl ?_
  refine y_getR hC (yM_o hQ) (yM_r8 hQ) f_X8_17 rfl dX8_merchantCount_6 ?_
  refine y_iconst (v := nI 1) hC dX8_merchantCount_9 (by decide) ?_
  refine y_ialdRN (w9 := 15) hC (by decide) (yM_a8 hQ) (by decide) dX8_merchantCount_10 ?_
  exact y_iret hC hr rfl (Nat.zero_le _) (Nat.zero_le _) dX8_merchantCount_11 (yMo.mk rfl rfl rfl)
set_option maxRecDepth 100000 in
set_option maxHeartbeats 4000000 in
theorem c_X8_reasonCount (l : Launch) (D : yD) (z : Nat) {n : Nat} {sh : yS} {I : yI} {L : yL} {q : Nat} {M : yI} (hQ : yMod sh q) : yM l D z yX8_reasonCount cX8_reasonCount 1 (some .int) 0 0 0 [.ref q] n sh (sR 15 I q M) L (yMo (0, M 2 2) n sh I q M L) (yno) := by
  refine yM_of (by decide) (Nat.le_of_ble_eq_true rfl) rfl ?_
  intro X hC hr hnm hRc hRs htb
  have hC : yC X D z cX8_reasonCount RX8 1 0 := hC
  refine y_aload_n hC dX8_reasonCount_0 rfl ?_
  refine y_iconst (v := 0) hC dX8_reasonCount_1 (by decide) ?_
  refine y_putIR (w9 := 15) hC (by decide) (yM_o hQ) f_X8_39 rfl (Or.inl rfl) dX8_reasonCount_2 ?_
  refine y_aload_n hC dX8_reasonCount_5 rfl ?_
  refine y_getR hC (yM_o hQ) (yM_r8 hQ) f_X8_17 rfl dX8_reasonCount_6 ?_
  refine y_iconst (v := nI 2) hC dX8_reasonCount_9 (by decide) ?_
  refine y_ialdRN (w9 := 15) hC (by decide) (yM_a8 hQ) (by decide) dX8_reasonCount_10 ?_
  exact y_iret hC hr rfl (Nat.zero_le _) (Nat.zero_le _) dX8_reasonCount_11 (yMo.mk rfl rfl rfl)
set_option maxRecDepth 100000 in
set_option maxHeartbeats 4000000 in
theorem c_X8_purchaseCount (l : Launch) (D : yD) (z : Nat) {n : Nat} {sh : yS} {I : yI} {L : yL} {q : Nat} {M : yI} (hQ : yMod sh q) : yM l D z yX8_purchaseCount cX8_purchaseCount 1 (some .int) 0 0 0 [.ref q] n sh (sR 15 I q M) L (yMo (0, M 2 3) n sh I q M L) (yno) := by
  refine yM_of (by decide) (Nat.le_of_ble_eq_true rfl) rfl ?_
  intro X hC hr hnm hRc hRs htb
  have hC : yC X D z cX8_purchaseCount RX8 1 0 := hC
  refine y_aload_n hC dX8_purchaseCount_0 rfl ?_
  refine y_iconst (v := 0) hC dX8_purchaseCount_1 (by decide) ?_
  refine y_putIR (w9 := 15) hC (by decide) (yM_o hQ) f_X8_39 rfl (Or.inl rfl) dX8_purchaseCount_2 ?_
  refine y_aload_n hC dX8_purchaseCount_5 rfl ?_
  refine y_getR hC (yM_o hQ) (yM_r8 hQ) f_X8_17 rfl dX8_purchaseCount_6 ?_
  refine y_iconst (v := nI 3) hC dX8_purchaseCount_9 (by decide) ?_
  refine y_ialdRN (w9 := 15) hC (by decide) (yM_a8 hQ) (by decide) dX8_purchaseCount_10 ?_
  exact y_iret hC hr rfl (Nat.zero_le _) (Nat.zero_le _) dX8_purchaseCount_11 (yMo.mk rfl rfl rfl)
set_option maxRecDepth 100000 in
set_option maxHeartbeats 4000000 in
theorem c_X8_disputeCount (l : Launch) (D : yD) (z : Nat) {n : Nat} {sh : yS} {I : yI} {L : yL} {q : Nat} {M : yI} (hQ : yMod sh q) : yM l D z yX8_disputeCount cX8_disputeCount 1 (some .int) 0 0 0 [.ref q] n sh (sR 15 I q M) L (yMo (0, M 2 4) n sh I q M L) (yno) := by
  refine yM_of (by decide) (Nat.le_of_ble_eq_true rfl) rfl ?_
  intro X hC hr hnm hRc hRs htb
  have hC : yC X D z cX8_disputeCount RX8 1 0 := hC
  refine y_aload_n hC dX8_disputeCount_0 rfl ?_
  refine y_iconst (v := 0) hC dX8_disputeCount_1 (by decide) ?_
  refine y_putIR (w9 := 15) hC (by decide) (yM_o hQ) f_X8_39 rfl (Or.inl rfl) dX8_disputeCount_2 ?_
  refine y_aload_n hC dX8_disputeCount_5 rfl ?_
  refine y_getR hC (yM_o hQ) (yM_r8 hQ) f_X8_17 rfl dX8_disputeCount_6 ?_
  refine y_iconst (v := nI 4) hC dX8_disputeCount_9 (by decide) ?_
  refine y_ialdRN (w9 := 15) hC (by decide) (yM_a8 hQ) (by decide) dX8_disputeCount_10 ?_
  exact y_iret hC hr rfl (Nat.zero_le _) (Nat.zero_le _) dX8_disputeCount_11 (yMo.mk rfl rfl rfl)
set_option maxRecDepth 100000 in
set_option maxHeartbeats 4000000 in
theorem c_X8_today (l : Launch) (D : yD) (z : Nat) {n : Nat} {sh : yS} {I : yI} {L : yL} {q : Nat} {M : yI} (hQ : yMod sh q) : yM l D z yX8_today cX8_today 1 (some .int) 0 0 0 [.ref q] n sh (sR 15 I q M) L (yMo (0, M 2 5) n sh I q M L) (yno) := by
  refine yM_of (by decide) (Nat.le_of_ble_eq_true rfl) rfl ?_
  intro X hC hr hnm hRc hRs htb
  have hC : yC X D z cX8_today RX8 1 0 := hC
  refine y_aload_n hC dX8_today_0 rfl ?_
  refine y_iconst (v := 0) hC dX8_today_1 (by decide) ?_
  refine y_putIR (w9 := 15) hC (by decide) (yM_o hQ) f_X8_39 rfl (Or.inl rfl) dX8_today_2 ?_
  refine y_aload_n hC dX8_today_5 rfl ?_
  refine y_getR hC (yM_o hQ) (yM_r8 hQ) f_X8_17 rfl dX8_today_6 ?_
  refine y_iconst (v := nI 5) hC dX8_today_9 (by decide) ?_
  refine y_ialdRN (w9 := 15) hC (by decide) (yM_a8 hQ) (by decide) dX8_today_10 ?_
  exact y_iret hC hr rfl (Nat.zero_le _) (Nat.zero_le _) dX8_today_11 (yMo.mk rfl rfl rfl)
set_option maxRecDepth 100000 in
set_option maxHeartbeats 4000000 in
theorem c_X8_networkAccount (l : Launch) (D : yD) (z : Nat) {n : Nat} {sh : yS} {I : yI} {L : yL} {q : Nat} {M : yI} (hQ : yMod sh q) : yM l D z yX8_networkAccount cX8_networkAccount 1 (some .int) 0 0 0 [.ref q] n sh (sR 15 I q M) L (yMo (0, M 2 11) n sh I q M L) (yno) := by
  refine yM_of (by decide) (Nat.le_of_ble_eq_true rfl) rfl ?_
  intro X hC hr hnm hRc hRs htb
  have hC : yC X D z cX8_networkAccount RX8 1 0 := hC
  refine y_aload_n hC dX8_networkAccount_0 rfl ?_
  refine y_iconst (v := 0) hC dX8_networkAccount_1 (by decide) ?_
  refine y_putIR (w9 := 15) hC (by decide) (yM_o hQ) f_X8_39 rfl (Or.inl rfl) dX8_networkAccount_2 ?_
  refine y_aload_n hC dX8_networkAccount_5 rfl ?_
  refine y_getR hC (yM_o hQ) (yM_r8 hQ) f_X8_17 rfl dX8_networkAccount_6 ?_
  refine y_bipush (v := nI 11) hC dX8_networkAccount_9 (by decide) ?_
  refine y_ialdRN (w9 := 15) hC (by decide) (yM_a8 hQ) (by decide) dX8_networkAccount_11 ?_
  exact y_iret hC hr rfl (Nat.zero_le _) (Nat.zero_le _) dX8_networkAccount_12 (yMo.mk rfl rfl rfl)
set_option maxRecDepth 100000 in
set_option maxHeartbeats 4000000 in
theorem c_X8_errorOffset (l : Launch) (D : yD) (z : Nat) {n : Nat} {sh : yS} {I : yI} {L : yL} {q : Nat} {M : yI} (hQ : yMod sh q) : yM l D z yX8_errorOffset cX8_errorOffset 1 (some .int) 0 0 0 [.ref q] n sh (sR 15 I q M) L (yMo (0, M 0 7) n sh I q M L) (yno) := by
  refine yM_of (by decide) (Nat.le_of_ble_eq_true rfl) rfl ?_
  intro X hC hr hnm hRc hRs htb
  have hC : yC X D z cX8_errorOffset RX8 1 0 := hC
  refine y_aload_n hC dX8_errorOffset_0 rfl ?_
  refine y_iconst (v := 0) hC dX8_errorOffset_1 (by decide) ?_
  refine y_putIR (w9 := 15) hC (by decide) (yM_o hQ) f_X8_39 rfl (Or.inl rfl) dX8_errorOffset_2 ?_
  refine y_aload_n hC dX8_errorOffset_5 rfl ?_
  refine y_getIR (w9 := 15) hC (by decide) (yM_o hQ) f_X8_13 rfl dX8_errorOffset_6 ?_
  exact y_iret hC hr rfl (Nat.zero_le _) (Nat.zero_le _) dX8_errorOffset_9 (yMo.mk rfl rfl rfl)
set_option maxRecDepth 100000 in
set_option maxHeartbeats 4000000 in
theorem c_X8_issuerAccount (l : Launch) (D : yD) (z : Nat) {n : Nat} {sh : yS} {I : yI} {L : yL} {q : Nat} {M : yI} (hQ : yMod sh q) {ni : Nat} (hni : M 2 0 = nI ni) (ni4 : ni ≤ 4) {x : Int32} {mi : Nat} (hmi : vp_in x ni → x = nI mi ∧ mi < ni) : yM l D z yX8_issuerAccount cX8_issuerAccount 2 (some .int) 2 0 0 [.ref q, .int x] n sh (sR 15 I q M) L (yMo (mI ni x (0, M 2 (12 + mi))) n sh I q M L) (yno) := by
  refine yM_of (by decide) (Nat.le_of_ble_eq_true rfl) rfl ?_
  intro X hC hr hnm hRc hRs htb
  have hC : yC X D z cX8_issuerAccount RX8 2 2 := hC
  refine y_aload_n hC dX8_issuerAccount_0 rfl ?_
  refine y_iconst (v := 0) hC dX8_issuerAccount_1 (by decide) ?_
  refine y_putIR (w9 := 15) hC (by decide) (yM_o hQ) f_X8_39 rfl (Or.inl rfl) dX8_issuerAccount_2 ?_
  refine y_aload_n hC dX8_issuerAccount_5 rfl ?_
  refine y_iload_n hC dX8_issuerAccount_6 rfl ?_
  by_cases hx : vp_in x ni
  · obtain ⟨rfl, mil⟩ := hmi hx
    refine y_callV1 hC (c_X8_noIssuer0 X.2.1 D z hQ up2_at ((congrFun (show up2 M 0 0 0 2 = M 2 from up2_r (by decide)) 0).trans hni) (by omega) hx) m_X8_227 rfl (yM_o hQ) (by decide) (Nat.le_of_ble_eq_true rfl) (Nat.zero_le _) (Nat.zero_le _) dX8_issuerAccount_7 ?_
    refine y_if_eq (tgt := 17) hC dX8_issuerAccount_10 (by decide) (fun c10 => ?_) (fun c10 => absurd rfl c10)
    refine y_aload_n hC dX8_issuerAccount_17 rfl ?_
    refine y_getR hC (yM_o hQ) (yM_r8 hQ) f_X8_17 rfl dX8_issuerAccount_18 ?_
    refine y_bipush (v := nI 12) hC dX8_issuerAccount_21 (by decide) ?_
    refine y_iload_n hC dX8_issuerAccount_23 rfl ?_
    refine y_iaddN hC dX8_issuerAccount_24 ?_
    refine y_ialdRN (w9 := 15) hC (by decide) (yM_a8 hQ) (by omega) dX8_issuerAccount_25 ?_
    exact y_iret hC hr rfl (Nat.zero_le _) (Nat.zero_le _) dX8_issuerAccount_26 (yMo.mk (mI_t hx) rfl (by first | rfl | exact up2_up2))
  · refine y_callV1 hC (c_X8_noIssuer1 X.2.1 D z hQ up2_at ((congrFun (show up2 M 0 0 0 2 = M 2 from up2_r (by decide)) 0).trans hni) (by omega) hx) m_X8_227 rfl (yM_o hQ) (by decide) (Nat.le_of_ble_eq_true rfl) (Nat.zero_le _) (Nat.zero_le _) dX8_issuerAccount_7 ?_
    refine y_if_eq (tgt := 17) hC dX8_issuerAccount_10 (by decide) (fun c10 => absurd c10 (by decide)) (fun c10 => ?_)
    refine y_iconst (v := 0) hC dX8_issuerAccount_13 (by decide) ?_
    refine y_goto (tgt := 26) hC dX8_issuerAccount_14 (by decide) ?_
    exact y_iret hC hr rfl (Nat.zero_le _) (Nat.zero_le _) dX8_issuerAccount_26 (yMo.mk (mI_f hx) rfl (by first | rfl | exact up2_up2))
set_option maxRecDepth 100000 in
set_option maxHeartbeats 4000000 in
theorem c_X8_merchantAccount (l : Launch) (D : yD) (z : Nat) {n : Nat} {sh : yS} {I : yI} {L : yL} {q : Nat} {M : yI} (hQ : yMod sh q) {nm : Nat} (hnm9 : M 2 1 = nI nm) (nm4 : nm ≤ 4) {x : Int32} {mr : Nat} (hmr : vp_in x nm → x = nI mr ∧ mr < nm) : yM l D z yX8_merchantAccount cX8_merchantAccount 2 (some .int) 2 0 0 [.ref q, .int x] n sh (sR 15 I q M) L (yMo (mI nm x (0, M 2 (16 + mr))) n sh I q M L) (yno) := by
  refine yM_of (by decide) (Nat.le_of_ble_eq_true rfl) rfl ?_
  intro X hC hr hnm hRc hRs htb
  have hC : yC X D z cX8_merchantAccount RX8 2 2 := hC
  refine y_aload_n hC dX8_merchantAccount_0 rfl ?_
  refine y_iconst (v := 0) hC dX8_merchantAccount_1 (by decide) ?_
  refine y_putIR (w9 := 15) hC (by decide) (yM_o hQ) f_X8_39 rfl (Or.inl rfl) dX8_merchantAccount_2 ?_
  refine y_aload_n hC dX8_merchantAccount_5 rfl ?_
  refine y_iload_n hC dX8_merchantAccount_6 rfl ?_
  by_cases hx : vp_in x nm
  · obtain ⟨rfl, mrl⟩ := hmr hx
    refine y_callV1 hC (c_X8_noMerchant0 X.2.1 D z hQ up2_at ((congrFun (show up2 M 0 0 0 2 = M 2 from up2_r (by decide)) 1).trans hnm9) (by omega) hx) m_X8_230 rfl (yM_o hQ) (by decide) (Nat.le_of_ble_eq_true rfl) (Nat.zero_le _) (Nat.zero_le _) dX8_merchantAccount_7 ?_
    refine y_if_eq (tgt := 17) hC dX8_merchantAccount_10 (by decide) (fun c10 => ?_) (fun c10 => absurd rfl c10)
    refine y_aload_n hC dX8_merchantAccount_17 rfl ?_
    refine y_getR hC (yM_o hQ) (yM_r8 hQ) f_X8_17 rfl dX8_merchantAccount_18 ?_
    refine y_bipush (v := nI 16) hC dX8_merchantAccount_21 (by decide) ?_
    refine y_iload_n hC dX8_merchantAccount_23 rfl ?_
    refine y_iaddN hC dX8_merchantAccount_24 ?_
    refine y_ialdRN (w9 := 15) hC (by decide) (yM_a8 hQ) (by omega) dX8_merchantAccount_25 ?_
    exact y_iret hC hr rfl (Nat.zero_le _) (Nat.zero_le _) dX8_merchantAccount_26 (yMo.mk (mI_t hx) rfl (by first | rfl | exact up2_up2))
  · refine y_callV1 hC (c_X8_noMerchant1 X.2.1 D z hQ up2_at ((congrFun (show up2 M 0 0 0 2 = M 2 from up2_r (by decide)) 1).trans hnm9) (by omega) hx) m_X8_230 rfl (yM_o hQ) (by decide) (Nat.le_of_ble_eq_true rfl) (Nat.zero_le _) (Nat.zero_le _) dX8_merchantAccount_7 ?_
    refine y_if_eq (tgt := 17) hC dX8_merchantAccount_10 (by decide) (fun c10 => absurd c10 (by decide)) (fun c10 => ?_)
    refine y_iconst (v := 0) hC dX8_merchantAccount_13 (by decide) ?_
    refine y_goto (tgt := 26) hC dX8_merchantAccount_14 (by decide) ?_
    exact y_iret hC hr rfl (Nat.zero_le _) (Nat.zero_le _) dX8_merchantAccount_26 (yMo.mk (mI_f hx) rfl (by first | rfl | exact up2_up2))
set_option maxRecDepth 100000 in
set_option maxHeartbeats 4000000 in
theorem c_X8_state (l : Launch) (D : yD) (z : Nat) {n : Nat} {sh : yS} {I : yI} {L : yL} {q : Nat} {M : yI} (hQ : yMod sh q) {nd : Nat} (hnd : M 2 4 = nI nd) (nd20 : nd ≤ 20) {x : Int32} {d : Nat} (hd : vp_in x nd → x = nI d ∧ d < nd) : yM l D z yX8_state cX8_state 2 (some .int) 2 0 0 [.ref q, .int x] n sh (sR 15 I q M) L (yMo (mI nd x (0, M 2 (164 + 8 * d + 5))) n sh I q M L) (yno) := by
  refine yM_of (by decide) (Nat.le_of_ble_eq_true rfl) rfl ?_
  intro X hC hr hnm hRc hRs htb
  have hC : yC X D z cX8_state RX8 2 2 := hC
  refine y_aload_n hC dX8_state_0 rfl ?_
  refine y_iconst (v := 0) hC dX8_state_1 (by decide) ?_
  refine y_putIR (w9 := 15) hC (by decide) (yM_o hQ) f_X8_39 rfl (Or.inl rfl) dX8_state_2 ?_
  refine y_aload_n hC dX8_state_5 rfl ?_
  refine y_iload_n hC dX8_state_6 rfl ?_
  by_cases hx : vp_in x nd
  · obtain ⟨rfl, dl⟩ := hd hx
    refine y_callV1 hC (c_X8_noDispute0 X.2.1 D z hQ up2_at ((congrFun (show up2 M 0 0 0 2 = M 2 from up2_r (by decide)) 4).trans hnd) (by omega) hx) m_X8_239 rfl (yM_o hQ) (by decide) (Nat.le_of_ble_eq_true rfl) (Nat.zero_le _) (Nat.zero_le _) dX8_state_7 ?_
    refine y_if_eq (tgt := 17) hC dX8_state_10 (by decide) (fun c10 => ?_) (fun c10 => absurd rfl c10)
    refine y_aload_n hC dX8_state_17 rfl ?_
    refine y_getR hC (yM_o hQ) (yM_r8 hQ) f_X8_17 rfl dX8_state_18 ?_
    refine y_iload_n hC dX8_state_21 rfl ?_
    refine y_callS1 hC (c_X8_dispute X.2.1 D z (j := d) rfl) m_X8_180 rfl (by decide) (Nat.le_of_ble_eq_true rfl) (Nat.zero_le _) (Nat.zero_le _) dX8_state_22 ?_
    refine y_iconst (v := nI 5) hC dX8_state_25 (by decide) ?_
    refine y_iaddN hC dX8_state_26 ?_
    refine y_ialdRN (w9 := 15) hC (by decide) (yM_a8 hQ) (by omega) dX8_state_27 ?_
    exact y_iret hC hr rfl (Nat.zero_le _) (Nat.zero_le _) dX8_state_28 (yMo.mk (mI_t hx) rfl (by first | rfl | exact up2_up2))
  · refine y_callV1 hC (c_X8_noDispute1 X.2.1 D z hQ up2_at ((congrFun (show up2 M 0 0 0 2 = M 2 from up2_r (by decide)) 4).trans hnd) (by omega) hx) m_X8_239 rfl (yM_o hQ) (by decide) (Nat.le_of_ble_eq_true rfl) (Nat.zero_le _) (Nat.zero_le _) dX8_state_7 ?_
    refine y_if_eq (tgt := 17) hC dX8_state_10 (by decide) (fun c10 => absurd c10 (by decide)) (fun c10 => ?_)
    refine y_iconst (v := 0) hC dX8_state_13 (by decide) ?_
    refine y_goto (tgt := 28) hC dX8_state_14 (by decide) ?_
    exact y_iret hC hr rfl (Nat.zero_le _) (Nat.zero_le _) dX8_state_28 (yMo.mk (mI_f hx) rfl (by first | rfl | exact up2_up2))
set_option maxRecDepth 100000 in
set_option maxHeartbeats 4000000 in
theorem c_X8_deadline (l : Launch) (D : yD) (z : Nat) {n : Nat} {sh : yS} {I : yI} {L : yL} {q : Nat} {M : yI} (hQ : yMod sh q) {nd : Nat} (hnd : M 2 4 = nI nd) (nd20 : nd ≤ 20) {x : Int32} {d : Nat} (hd : vp_in x nd → x = nI d ∧ d < nd) : yM l D z yX8_deadline cX8_deadline 2 (some .int) 2 0 0 [.ref q, .int x] n sh (sR 15 I q M) L (yMo (mI nd x (0, M 2 (164 + 8 * d + 6))) n sh I q M L) (yno) := by
  refine yM_of (by decide) (Nat.le_of_ble_eq_true rfl) rfl ?_
  intro X hC hr hnm hRc hRs htb
  have hC : yC X D z cX8_deadline RX8 2 2 := hC
  refine y_aload_n hC dX8_deadline_0 rfl ?_
  refine y_iconst (v := 0) hC dX8_deadline_1 (by decide) ?_
  refine y_putIR (w9 := 15) hC (by decide) (yM_o hQ) f_X8_39 rfl (Or.inl rfl) dX8_deadline_2 ?_
  refine y_aload_n hC dX8_deadline_5 rfl ?_
  refine y_iload_n hC dX8_deadline_6 rfl ?_
  by_cases hx : vp_in x nd
  · obtain ⟨rfl, dl⟩ := hd hx
    refine y_callV1 hC (c_X8_noDispute0 X.2.1 D z hQ up2_at ((congrFun (show up2 M 0 0 0 2 = M 2 from up2_r (by decide)) 4).trans hnd) (by omega) hx) m_X8_239 rfl (yM_o hQ) (by decide) (Nat.le_of_ble_eq_true rfl) (Nat.zero_le _) (Nat.zero_le _) dX8_deadline_7 ?_
    refine y_if_eq (tgt := 17) hC dX8_deadline_10 (by decide) (fun c10 => ?_) (fun c10 => absurd rfl c10)
    refine y_aload_n hC dX8_deadline_17 rfl ?_
    refine y_getR hC (yM_o hQ) (yM_r8 hQ) f_X8_17 rfl dX8_deadline_18 ?_
    refine y_iload_n hC dX8_deadline_21 rfl ?_
    refine y_callS1 hC (c_X8_dispute X.2.1 D z (j := d) rfl) m_X8_180 rfl (by decide) (Nat.le_of_ble_eq_true rfl) (Nat.zero_le _) (Nat.zero_le _) dX8_deadline_22 ?_
    refine y_bipush (v := nI 6) hC dX8_deadline_25 (by decide) ?_
    refine y_iaddN hC dX8_deadline_27 ?_
    refine y_ialdRN (w9 := 15) hC (by decide) (yM_a8 hQ) (by omega) dX8_deadline_28 ?_
    exact y_iret hC hr rfl (Nat.zero_le _) (Nat.zero_le _) dX8_deadline_29 (yMo.mk (mI_t hx) rfl (by first | rfl | exact up2_up2))
  · refine y_callV1 hC (c_X8_noDispute1 X.2.1 D z hQ up2_at ((congrFun (show up2 M 0 0 0 2 = M 2 from up2_r (by decide)) 4).trans hnd) (by omega) hx) m_X8_239 rfl (yM_o hQ) (by decide) (Nat.le_of_ble_eq_true rfl) (Nat.zero_le _) (Nat.zero_le _) dX8_deadline_7 ?_
    refine y_if_eq (tgt := 17) hC dX8_deadline_10 (by decide) (fun c10 => absurd c10 (by decide)) (fun c10 => ?_)
    refine y_iconst (v := 0) hC dX8_deadline_13 (by decide) ?_
    refine y_goto (tgt := 29) hC dX8_deadline_14 (by decide) ?_
    exact y_iret hC hr rfl (Nat.zero_le _) (Nat.zero_le _) dX8_deadline_29 (yMo.mk (mI_f hx) rfl (by first | rfl | exact up2_up2))
set_option maxRecDepth 100000 in
set_option maxHeartbeats 4000000 in
theorem c_X8_evidence (l : Launch) (D : yD) (z : Nat) {n : Nat} {sh : yS} {I : yI} {L : yL} {q : Nat} {M : yI} (hQ : yMod sh q) {nd : Nat} (hnd : M 2 4 = nI nd) (nd20 : nd ≤ 20) {x : Int32} {d : Nat} (hd : vp_in x nd → x = nI d ∧ d < nd) : yM l D z yX8_evidence cX8_evidence 2 (some .int) 2 0 0 [.ref q, .int x] n sh (sR 15 I q M) L (yMo (mI nd x (0, M 2 (164 + 8 * d + 4))) n sh I q M L) (yno) := by
  refine yM_of (by decide) (Nat.le_of_ble_eq_true rfl) rfl ?_
  intro X hC hr hnm hRc hRs htb
  have hC : yC X D z cX8_evidence RX8 2 2 := hC
  refine y_aload_n hC dX8_evidence_0 rfl ?_
  refine y_iconst (v := 0) hC dX8_evidence_1 (by decide) ?_
  refine y_putIR (w9 := 15) hC (by decide) (yM_o hQ) f_X8_39 rfl (Or.inl rfl) dX8_evidence_2 ?_
  refine y_aload_n hC dX8_evidence_5 rfl ?_
  refine y_iload_n hC dX8_evidence_6 rfl ?_
  by_cases hx : vp_in x nd
  · obtain ⟨rfl, dl⟩ := hd hx
    refine y_callV1 hC (c_X8_noDispute0 X.2.1 D z hQ up2_at ((congrFun (show up2 M 0 0 0 2 = M 2 from up2_r (by decide)) 4).trans hnd) (by omega) hx) m_X8_239 rfl (yM_o hQ) (by decide) (Nat.le_of_ble_eq_true rfl) (Nat.zero_le _) (Nat.zero_le _) dX8_evidence_7 ?_
    refine y_if_eq (tgt := 17) hC dX8_evidence_10 (by decide) (fun c10 => ?_) (fun c10 => absurd rfl c10)
    refine y_aload_n hC dX8_evidence_17 rfl ?_
    refine y_getR hC (yM_o hQ) (yM_r8 hQ) f_X8_17 rfl dX8_evidence_18 ?_
    refine y_iload_n hC dX8_evidence_21 rfl ?_
    refine y_callS1 hC (c_X8_dispute X.2.1 D z (j := d) rfl) m_X8_180 rfl (by decide) (Nat.le_of_ble_eq_true rfl) (Nat.zero_le _) (Nat.zero_le _) dX8_evidence_22 ?_
    refine y_iconst (v := nI 4) hC dX8_evidence_25 (by decide) ?_
    refine y_iaddN hC dX8_evidence_26 ?_
    refine y_ialdRN (w9 := 15) hC (by decide) (yM_a8 hQ) (by omega) dX8_evidence_27 ?_
    exact y_iret hC hr rfl (Nat.zero_le _) (Nat.zero_le _) dX8_evidence_28 (yMo.mk (mI_t hx) rfl (by first | rfl | exact up2_up2))
  · refine y_callV1 hC (c_X8_noDispute1 X.2.1 D z hQ up2_at ((congrFun (show up2 M 0 0 0 2 = M 2 from up2_r (by decide)) 4).trans hnd) (by omega) hx) m_X8_239 rfl (yM_o hQ) (by decide) (Nat.le_of_ble_eq_true rfl) (Nat.zero_le _) (Nat.zero_le _) dX8_evidence_7 ?_
    refine y_if_eq (tgt := 17) hC dX8_evidence_10 (by decide) (fun c10 => absurd c10 (by decide)) (fun c10 => ?_)
    refine y_iconst (v := 0) hC dX8_evidence_13 (by decide) ?_
    refine y_goto (tgt := 28) hC dX8_evidence_14 (by decide) ?_
    exact y_iret hC hr rfl (Nat.zero_le _) (Nat.zero_le _) dX8_evidence_28 (yMo.mk (mI_f hx) rfl (by first | rfl | exact up2_up2))
