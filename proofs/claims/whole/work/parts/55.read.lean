theorem c_isFinal_at (l : Launch) (D : yD) (z : Nat) {n : Nat} {sh : yS} {I : yI} {L : yL} {q : Nat} {M : yI} (hQ : yMod sh q) {k : Nat} (hk : k < 20) : yM l D z yX8_isFinal cX8_isFinal 2 (some .boolean) 1 0 0 [.ref (q + 2), .int (nI k)] n sh (sR 15 I q M) L (yF (some (.int (b2i (¬ M 2 (164 + 8 * k + 5) < 4)))) n sh (sR 15 I q M) L) yno := by
  have h := c_X8_isFinal l D z (n := n) (I := sR 15 I q M) (L := L) (d := M 2) (yM_a8 hQ) hk
  rw [at_row (by decide)] at h
  exact h
theorem c_merchantOf_at (l : Launch) (D : yD) (z : Nat) {n : Nat} {sh : yS} {I : yI} {L : yL} {q : Nat} {M : yI} (hQ : yMod sh q) {k p i m r : Nat} (hk : dK (M 2) k p i m r) : yM l D z yX8_merchantOf cX8_merchantOf 2 (some .int) 1 0 0 [.ref (q + 2), .int (nI k)] n sh (sR 15 I q M) L (yF (some (.int (nI (16 + m)))) n sh (sR 15 I q M) L) yno := by
  have h := c_X8_merchantOf l D z (n := n) (I := sR 15 I q M) (L := L) (d := M 2) (yM_a8 hQ) hk
  rw [at_row (by decide)] at h
  exact h
theorem c_scoreOf_at (l : Launch) (D : yD) (z : Nat) {n : Nat} {sh : yS} {I : yI} {L : yL} {q : Nat} {M : yI} (hQ : yMod sh q) {k p i m r : Nat} (hk : dK (M 2) k p i m r) {e ne : Nat} (he : e < 256) (hn8 : ne < 256) (hne : M 2 (20 + 6 * r + 5) = nI ne) {cd : List Int32} (hcd : M 2 9 = 0 ∨ (cAt (M 2) 0 cd ∧ okc 1500 cd 0)) (S : Nat → Int64) : yM l D z yX8_scoreOf cX8_scoreOf 9 (some .int) 2 0 0 [.ref q, .ref (q + 2), .int (nI k), .int (nI e)] n sh (sR 15 I q M) (va_up L (q + 14) S) (yFl (some (.int (scM (M 2) k p e ne cd))) n sh (sR 15 I q M) q (va_up L (q + 14) S)) yno := by
  have h := c_X8_scoreOf l D z (n := n) (I := sR 15 I q M) (L := va_up L (q + 14) S) (d := M 2) hQ (yM_a8 hQ) hk he hn8 hne hcd
  rw [at_row (by decide)] at h
  exact h
theorem c_wins_at (l : Launch) (D : yD) (z : Nat) {n : Nat} {sh : yS} {I : yI} {L : yL} {q : Nat} {M : yI} (hQ : yMod sh q) {k p i m r : Nat} (hk : dK (M 2) k p i m r) {e ne : Nat} (he : e < 256) (hn8 : ne < 256) (hne : M 2 (20 + 6 * r + 5) = nI ne) {cd : List Int32} (hcd : M 2 9 = 0 ∨ (cAt (M 2) 0 cd ∧ okc 1500 cd 0)) (S : Nat → Int64) : yM l D z yX8_wins cX8_wins 4 (some .boolean) 3 0 0 [.ref q, .ref (q + 2), .int (nI k), .int (nI e)] n sh (sR 15 I q M) (va_up L (q + 14) S) (yFl (some (.int (b2i (wnM (M 2) k p r e ne cd)))) n sh (sR 15 I q M) q (va_up L (q + 14) S)) yno := by
  have h := c_X8_wins l D z (n := n) (I := sR 15 I q M) (L := L) (d := M 2) hQ (yM_a8 hQ) hk he hn8 hne hcd (S0 := S)
  rw [at_row (by decide)] at h
  exact h
theorem y_toS {X : yX} {D : yD} {z nL n : Nat} {sh : yS} {I : yI} {L : yL} {k w : Nat} {Q : State → Prop} {pc : Nat} {lv : List (Option Value)} {st : List Value} (q : Nat) (h : Y X D z nL n sh I (va_up L (q + 14) (L (q + 14))) k w Q pc lv st) : Y X D z nL n sh I L k w Q pc lv st := by
  rw [va_upL_id] at h
  exact h
set_option maxRecDepth 100000 in
set_option maxHeartbeats 4000000 in
theorem c_X8_isWithMerchant (l : Launch) (D : yD) (z : Nat) {n : Nat} {sh : yS} {I : yI} {L : yL} {q : Nat} {M : yI} (hQ : yMod sh q) {nd : Nat} (hnd : M 2 4 = nI nd) (nd20 : nd ≤ 20) {x : Int32} {d : Nat} (hd : vp_in x nd → x = nI d ∧ d < nd) : yM l D z yX8_isWithMerchant cX8_isWithMerchant 2 (some .boolean) 2 0 0 [.ref q, .int x] n sh (sR 15 I q M) L (yMo (mI nd x (0, b2i (M 2 (164 + 8 * d + 7) = 1))) n sh I q M L) (yno) := by
  refine yM_of (by decide) (Nat.le_of_ble_eq_true rfl) rfl ?_
  intro X hC hr hnm hRc hRs htb
  have hC : yC X D z cX8_isWithMerchant RX8 2 2 := hC
  refine y_aload_n hC dX8_isWithMerchant_0 rfl ?_
  refine y_iconst (v := 0) hC dX8_isWithMerchant_1 (by decide) ?_
  refine y_putIR (w9 := 15) hC (by decide) (yM_o hQ) f_X8_39 rfl (Or.inl rfl) dX8_isWithMerchant_2 ?_
  refine y_aload_n hC dX8_isWithMerchant_5 rfl ?_
  refine y_iload_n hC dX8_isWithMerchant_6 rfl ?_
  by_cases hx : vp_in x nd
  · obtain ⟨rfl, dl⟩ := hd hx
    refine y_callV1 hC (c_X8_noDispute0 X.2.1 D z hQ up2_at ((congrFun (show up2 M 0 0 0 2 = M 2 from up2_r (by decide)) 4).trans hnd) (by omega) hx) m_X8_239 rfl (yM_o hQ) (by decide) (Nat.le_of_ble_eq_true rfl) (Nat.zero_le _) (Nat.zero_le _) dX8_isWithMerchant_7 ?_
    refine y_if_ne (tgt := 33) hC dX8_isWithMerchant_10 (by decide) (fun c10 => absurd rfl c10) (fun c10 => ?_)
    refine y_aload_n hC dX8_isWithMerchant_13 rfl ?_
    refine y_getR hC (yM_o hQ) (yM_r8 hQ) f_X8_17 rfl dX8_isWithMerchant_14 ?_
    refine y_iload_n hC dX8_isWithMerchant_17 rfl ?_
    refine y_callS1 hC (c_X8_dispute X.2.1 D z (j := d) rfl) m_X8_180 rfl (by decide) (Nat.le_of_ble_eq_true rfl) (Nat.zero_le _) (Nat.zero_le _) dX8_isWithMerchant_18 ?_
    refine y_bipush (v := nI 7) hC dX8_isWithMerchant_21 (by decide) ?_
    refine y_iaddN hC dX8_isWithMerchant_23 ?_
    refine y_ialdRN (w9 := 15) hC (by decide) (yM_a8 hQ) (by omega) dX8_isWithMerchant_24 ?_
    refine y_iconst (v := 1) hC dX8_isWithMerchant_25 (by decide) ?_
    refine y_icmp_ne (tgt := 33) hC dX8_isWithMerchant_26 (by decide) (fun c26 => ?_) (fun c26 => ?_)
    · refine y_iconst (v := 0) hC dX8_isWithMerchant_33 (by decide) ?_
      exact y_iret hC hr rfl (Nat.zero_le _) (Nat.zero_le _) dX8_isWithMerchant_34 (by first | exact yMo.mk (mI_f hx) rfl up2_up2 | exact yMo.mk ((mI_t hx).trans (congrArg (Prod.mk 0) (b2i_t c26))) rfl rfl | exact yMo.mk ((mI_t hx).trans (congrArg (Prod.mk 0) (b2i_f c26))) rfl rfl)
    · refine y_iconst (v := 1) hC dX8_isWithMerchant_29 (by decide) ?_
      refine y_goto (tgt := 34) hC dX8_isWithMerchant_30 (by decide) ?_
      exact y_iret hC hr rfl (Nat.zero_le _) (Nat.zero_le _) dX8_isWithMerchant_34 (by first | exact yMo.mk (mI_f hx) rfl up2_up2 | exact yMo.mk ((mI_t hx).trans (congrArg (Prod.mk 0) (b2i_t c26))) rfl rfl | exact yMo.mk ((mI_t hx).trans (congrArg (Prod.mk 0) (b2i_f c26))) rfl rfl)
  · refine y_callV1 hC (c_X8_noDispute1 X.2.1 D z hQ up2_at ((congrFun (show up2 M 0 0 0 2 = M 2 from up2_r (by decide)) 4).trans hnd) (by omega) hx) m_X8_239 rfl (yM_o hQ) (by decide) (Nat.le_of_ble_eq_true rfl) (Nat.zero_le _) (Nat.zero_le _) dX8_isWithMerchant_7 ?_
    refine y_if_ne (tgt := 33) hC dX8_isWithMerchant_10 (by decide) (fun c10 => ?_) (fun c10 => absurd c10 (by decide))
    refine y_iconst (v := 0) hC dX8_isWithMerchant_33 (by decide) ?_
    exact y_iret hC hr rfl (Nat.zero_le _) (Nat.zero_le _) dX8_isWithMerchant_34 (by first | exact yMo.mk (mI_f hx) rfl up2_up2 | exact yMo.mk ((mI_t hx).trans (congrArg (Prod.mk 0) (b2i_t c26))) rfl rfl | exact yMo.mk ((mI_t hx).trans (congrArg (Prod.mk 0) (b2i_f c26))) rfl rfl)
set_option maxRecDepth 100000 in
set_option maxHeartbeats 4000000 in
theorem c_X8_score (l : Launch) (D : yD) (z : Nat) {n : Nat} {sh : yS} {I : yI} {L : yL} {q : Nat} {M : yI} (hQ : yMod sh q) {nd : Nat} (hnd : M 2 4 = nI nd) (nd20 : nd ≤ 20) {x : Int32} {d : Nat} (hd : vp_in x nd → x = nI d ∧ d < nd) {cd : List Int32} (hV : dV (M 2) nd cd) : yM l D z yX8_score cX8_score 2 (some .int) 3 0 0 [.ref q, .int x] n sh (sR 15 I q M) L (yMo (mI nd x (0, scM (M 2) d (pD (M 2) d) (eD (M 2) d) (nD (M 2) d) cd)) n sh I q M L) (yno) := by
  refine yM_of (by decide) (Nat.le_of_ble_eq_true rfl) rfl ?_
  intro X hC hr hnm hRc hRs htb
  have hC : yC X D z cX8_score RX8 2 3 := hC
  refine y_aload_n hC dX8_score_0 rfl ?_
  refine y_iconst (v := 0) hC dX8_score_1 (by decide) ?_
  refine y_putIR (w9 := 15) hC (by decide) (yM_o hQ) f_X8_39 rfl (Or.inl rfl) dX8_score_2 ?_
  refine y_toS q ?_
  refine y_aload_n hC dX8_score_5 rfl ?_
  refine y_iload_n hC dX8_score_6 rfl ?_
  by_cases hx : vp_in x nd
  · obtain ⟨rfl, dl⟩ := hd hx
    refine y_callV1 hC (c_X8_noDispute0 X.2.1 D z hQ up2_at ((congrFun (show up2 M 0 0 0 2 = M 2 from up2_r (by decide)) 4).trans hnd) (by omega) hx) m_X8_239 rfl (yM_o hQ) (by decide) (Nat.le_of_ble_eq_true rfl) (Nat.zero_le _) (Nat.zero_le _) dX8_score_7 ?_
    refine y_if_eq (tgt := 17) hC dX8_score_10 (by decide) (fun c10 => ?_) (fun c10 => absurd rfl c10)
    have vK := hV.2.2.1 d dl
    refine y_aload_n hC dX8_score_17 rfl ?_
    refine y_aload_n hC dX8_score_18 rfl ?_
    refine y_getR hC (yM_o hQ) (yM_r8 hQ) f_X8_17 rfl dX8_score_19 ?_
    refine y_iload_n hC dX8_score_22 rfl ?_
    refine y_aload_n hC dX8_score_23 rfl ?_
    refine y_getR hC (yM_o hQ) (yM_r8 hQ) f_X8_17 rfl dX8_score_24 ?_
    refine y_iload_n hC dX8_score_27 rfl ?_
    refine y_callS1 hC (c_X8_dispute X.2.1 D z (j := d) rfl) m_X8_180 rfl (by decide) (Nat.le_of_ble_eq_true rfl) (Nat.zero_le _) (Nat.zero_le _) dX8_score_28 ?_
    refine y_iconst (v := nI 4) hC dX8_score_31 (by decide) ?_
    refine y_iaddN hC dX8_score_32 ?_
    refine y_ialdRN (w9 := 15) hC (by decide) (yM_a8 hQ) (by omega) dX8_score_33 ?_
    rw [show up2 M 0 0 0 2 (164 + 8 * d + 4) = nI (eD (M 2) d) from vK.2.2.2.1]
    refine y_callV1l (q := q) hC (fun S => c_scoreOf_at X.2.1 D z (M := up2 M 0 0 0) hQ vK.1 vK.2.2.2.2 vK.2.2.1 vK.2.1 hV.2.2.2 S) m_X8_197 rfl (yM_o hQ) (by decide) (Nat.le_of_ble_eq_true rfl) (Nat.zero_le _) (Nat.zero_le _) dX8_score_34 (fun S34 => ?_)
    exact y_iret hC hr rfl (Nat.zero_le _) (Nat.zero_le _) dX8_score_37 (yMo.mkS (mI_t hx) rfl (by first | rfl | exact up2_up2))
  · refine y_callV1 hC (c_X8_noDispute1 X.2.1 D z hQ up2_at ((congrFun (show up2 M 0 0 0 2 = M 2 from up2_r (by decide)) 4).trans hnd) (by omega) hx) m_X8_239 rfl (yM_o hQ) (by decide) (Nat.le_of_ble_eq_true rfl) (Nat.zero_le _) (Nat.zero_le _) dX8_score_7 ?_
    refine y_if_eq (tgt := 17) hC dX8_score_10 (by decide) (fun c10 => absurd c10 (by decide)) (fun c10 => ?_)
    refine y_iconst (v := 0) hC dX8_score_13 (by decide) ?_
    refine y_goto (tgt := 37) hC dX8_score_14 (by decide) ?_
    exact y_iret hC hr rfl (Nat.zero_le _) (Nat.zero_le _) dX8_score_37 (yMo.mkS (mI_f hx) rfl (by first | rfl | exact up2_up2))
set_option maxRecDepth 100000 in
set_option maxHeartbeats 4000000 in
theorem c_X8_wouldWin (l : Launch) (D : yD) (z : Nat) {n : Nat} {sh : yS} {I : yI} {L : yL} {q : Nat} {M : yI} (hQ : yMod sh q) {nd : Nat} (hnd : M 2 4 = nI nd) (nd20 : nd ≤ 20) {x : Int32} {d : Nat} (hd : vp_in x nd → x = nI d ∧ d < nd) {cd : List Int32} (hV : dV (M 2) nd cd) {ev : Int32} {e : Nat} (hev : (¬ ev < 0 ∧ ev ≤ 255) → ev = nI e ∧ e < 256) : yM l D z yX8_wouldWin cX8_wouldWin 3 (some .boolean) 4 0 0 [.ref q, .int x, .int ev] n sh (sR 15 I q M) L (yMo (mI nd x (mA 2 (¬ ev < 0 ∧ ev ≤ 255) (0, b2i (wnM (M 2) d (pD (M 2) d) (rD (M 2) d) e (nD (M 2) d) cd)))) n sh I q M L) (yno) := by
  refine yM_of (by decide) (Nat.le_of_ble_eq_true rfl) rfl ?_
  intro X hC hr hnm hRc hRs htb
  have hC : yC X D z cX8_wouldWin RX8 3 4 := hC
  refine y_aload_n hC dX8_wouldWin_0 rfl ?_
  refine y_iconst (v := 0) hC dX8_wouldWin_1 (by decide) ?_
  refine y_putIR (w9 := 15) hC (by decide) (yM_o hQ) f_X8_39 rfl (Or.inl rfl) dX8_wouldWin_2 ?_
  refine y_toS q ?_
  refine y_aload_n hC dX8_wouldWin_5 rfl ?_
  refine y_iload_n hC dX8_wouldWin_6 rfl ?_
  by_cases hx : vp_in x nd
  · obtain ⟨rfl, dl⟩ := hd hx
    refine y_callV1 hC (c_X8_noDispute0 X.2.1 D z hQ up2_at ((congrFun (show up2 M 0 0 0 2 = M 2 from up2_r (by decide)) 4).trans hnd) (by omega) hx) m_X8_239 rfl (yM_o hQ) (by decide) (Nat.le_of_ble_eq_true rfl) (Nat.zero_le _) (Nat.zero_le _) dX8_wouldWin_7 ?_
    refine y_if_ne (tgt := 54) hC dX8_wouldWin_10 (by decide) (fun c10 => absurd rfl c10) (fun c10 => ?_)
    refine y_aload_n hC dX8_wouldWin_13 rfl ?_
    refine y_iload_n hC dX8_wouldWin_14 rfl ?_
    refine y_iconst (v := 0) hC dX8_wouldWin_15 (by decide) ?_
    refine y_sipush (v := 255) hC dX8_wouldWin_16 (by decide) ?_
    refine y_callS1 hC (c_X8_in X.2.1 D z) m_X8_61 rfl (by decide) (Nat.le_of_ble_eq_true rfl) (Nat.zero_le _) (Nat.zero_le _) dX8_wouldWin_19 ?_
    refine y_if_neB (tgt := 29) hC dX8_wouldWin_22 (by decide) (fun c22 => ?_) (fun c22 => ?_)
    · refine y_iconst (v := 0) hC dX8_wouldWin_29 (by decide) ?_
      refine y_iconst (v := 2) hC dX8_wouldWin_30 (by decide) ?_
      refine y_callV1 hC (c_X8_fails0 X.2.1 D z hQ up2_at) m_X8_158 rfl (yM_o hQ) (by decide) (Nat.le_of_ble_eq_true rfl) (Nat.zero_le _) (Nat.zero_le _) dX8_wouldWin_31 ?_
      refine y_if_ne (tgt := 54) hC dX8_wouldWin_34 (by decide) (fun c34 => absurd rfl c34) (fun c34 => ?_)
      have vK := hV.2.2.1 d dl
      obtain ⟨rfl, el⟩ := hev c22
      refine y_aload_n hC dX8_wouldWin_37 rfl ?_
      refine y_aload_n hC dX8_wouldWin_38 rfl ?_
      refine y_getR hC (yM_o hQ) (yM_r8 hQ) f_X8_17 rfl dX8_wouldWin_39 ?_
      refine y_iload_n hC dX8_wouldWin_42 rfl ?_
      refine y_iload_n hC dX8_wouldWin_43 rfl ?_
      refine y_callV1l (q := q) hC (fun S => c_wins_at X.2.1 D z (M := up2 M 0 0 0) hQ vK.1 el vK.2.2.1 vK.2.1 hV.2.2.2 S) m_X8_219 rfl (yM_o hQ) (by decide) (Nat.le_of_ble_eq_true rfl) (Nat.zero_le _) (Nat.zero_le _) dX8_wouldWin_44 (fun S44 => ?_)
      refine y_if_eqB (tgt := 54) hC dX8_wouldWin_47 (by decide) (fun c47 => ?_) (fun c47 => ?_)
      · refine y_iconst (v := 0) hC dX8_wouldWin_54 (by decide) ?_
        exact y_iret hC hr rfl (Nat.zero_le _) (Nat.zero_le _) dX8_wouldWin_55 (by first | exact yMo.mkS (mI_f hx) rfl up2_up2 | exact yMo.mkS ((mI_t hx).trans (mA_f c22)) rfl up2_up2 | exact yMo.mkS ((mI_t hx).trans ((mA_t c22).trans (congrArg (Prod.mk 0) (b2i_t c47)))) rfl rfl | exact yMo.mkS ((mI_t hx).trans ((mA_t c22).trans (congrArg (Prod.mk 0) (b2i_f c47)))) rfl rfl)
      · refine y_iconst (v := 1) hC dX8_wouldWin_50 (by decide) ?_
        refine y_goto (tgt := 55) hC dX8_wouldWin_51 (by decide) ?_
        exact y_iret hC hr rfl (Nat.zero_le _) (Nat.zero_le _) dX8_wouldWin_55 (by first | exact yMo.mkS (mI_f hx) rfl up2_up2 | exact yMo.mkS ((mI_t hx).trans (mA_f c22)) rfl up2_up2 | exact yMo.mkS ((mI_t hx).trans ((mA_t c22).trans (congrArg (Prod.mk 0) (b2i_t c47)))) rfl rfl | exact yMo.mkS ((mI_t hx).trans ((mA_t c22).trans (congrArg (Prod.mk 0) (b2i_f c47)))) rfl rfl)
    · refine y_iconst (v := 1) hC dX8_wouldWin_25 (by decide) ?_
      refine y_goto (tgt := 30) hC dX8_wouldWin_26 (by decide) ?_
      refine y_iconst (v := 2) hC dX8_wouldWin_30 (by decide) ?_
      refine y_callV1 hC (c_X8_fails1 X.2.1 D z hQ up2_at (by decide)) m_X8_158 rfl (yM_o hQ) (by decide) (Nat.le_of_ble_eq_true rfl) (Nat.zero_le _) (Nat.zero_le _) dX8_wouldWin_31 ?_
      refine y_if_ne (tgt := 54) hC dX8_wouldWin_34 (by decide) (fun c34 => ?_) (fun c34 => absurd c34 (by decide))
      refine y_iconst (v := 0) hC dX8_wouldWin_54 (by decide) ?_
      exact y_iret hC hr rfl (Nat.zero_le _) (Nat.zero_le _) dX8_wouldWin_55 (by first | exact yMo.mkS (mI_f hx) rfl up2_up2 | exact yMo.mkS ((mI_t hx).trans (mA_f c22)) rfl up2_up2 | exact yMo.mkS ((mI_t hx).trans ((mA_t c22).trans (congrArg (Prod.mk 0) (b2i_t c47)))) rfl rfl | exact yMo.mkS ((mI_t hx).trans ((mA_t c22).trans (congrArg (Prod.mk 0) (b2i_f c47)))) rfl rfl)
  · refine y_callV1 hC (c_X8_noDispute1 X.2.1 D z hQ up2_at ((congrFun (show up2 M 0 0 0 2 = M 2 from up2_r (by decide)) 4).trans hnd) (by omega) hx) m_X8_239 rfl (yM_o hQ) (by decide) (Nat.le_of_ble_eq_true rfl) (Nat.zero_le _) (Nat.zero_le _) dX8_wouldWin_7 ?_
    refine y_if_ne (tgt := 54) hC dX8_wouldWin_10 (by decide) (fun c10 => ?_) (fun c10 => absurd c10 (by decide))
    refine y_iconst (v := 0) hC dX8_wouldWin_54 (by decide) ?_
    exact y_iret hC hr rfl (Nat.zero_le _) (Nat.zero_le _) dX8_wouldWin_55 (by first | exact yMo.mkS (mI_f hx) rfl up2_up2 | exact yMo.mkS ((mI_t hx).trans (mA_f c22)) rfl up2_up2 | exact yMo.mkS ((mI_t hx).trans ((mA_t c22).trans (congrArg (Prod.mk 0) (b2i_t c47)))) rfl rfl | exact yMo.mkS ((mI_t hx).trans ((mA_t c22).trans (congrArg (Prod.mk 0) (b2i_f c47)))) rfl rfl)
def edl4 (d : Nat → Int32) : Nat → Int32
  | 0 => -1
  | k + 1 => if ¬ d (164 + 8 * k + 5) < 4 then edl4 d k else if edl4 d k = -1 ∨ d (164 + 8 * k + 6) < edl4 d k then d (164 + 8 * k + 6) else edl4 d k
set_option maxRecDepth 100000 in
set_option maxHeartbeats 4000000 in
theorem c_X8_nextDeadline (l : Launch) (D : yD) (z : Nat) {n : Nat} {sh : yS} {I : yI} {L : yL} {q : Nat} {M : yI} (hQ : yMod sh q) {nd : Nat} (hnd : M 2 4 = nI nd) (nd20 : nd ≤ 20) : yM l D z yX8_nextDeadline cX8_nextDeadline 3 (some .int) 2 0 0 [.ref q] n sh (sR 15 I q M) L (yMo (0, edl4 (M 2) nd) n sh I q M L) (yno) := by
  refine yM_of (by decide) (Nat.le_of_ble_eq_true rfl) rfl ?_
  intro X hC hr hnm hRc hRs htb
  have hC : yC X D z cX8_nextDeadline RX8 3 2 := hC
  refine y_aload_n hC dX8_nextDeadline_0 rfl ?_
  refine y_iconst (v := 0) hC dX8_nextDeadline_1 (by decide) ?_
  refine y_putIR (w9 := 15) hC (by decide) (yM_o hQ) f_X8_39 rfl (Or.inl rfl) dX8_nextDeadline_2 ?_
  refine y_iconst (v := (-1)) hC dX8_nextDeadline_5 (by decide) ?_
  refine y_istore_n hC dX8_nextDeadline_6 (by decide) rfl ?_
  refine y_iconst (v := 0) hC dX8_nextDeadline_7 (by decide) ?_
  refine y_istore_n hC dX8_nextDeadline_8 (by decide) rfl ?_
  have lp9 : ∀ (f9 j : Nat) (s : Int32), j + f9 = nd → s = edl4 (M 2) j → Y X D z 3 n sh (sR 15 I q (up2 M 0 0 0)) L 0 0 (yEnd X D z (yMo (0, edl4 (M 2) nd) n sh I q M L) (yno) 0 0) 9 [some (.ref q), some (.int s), some (.int (nI j))] [] := by
    intro f9
    induction f9 with
    | zero =>
      intro j s hm hi
      refine y_iload_n hC dX8_nextDeadline_9 rfl ?_
      refine y_aload_n hC dX8_nextDeadline_10 rfl ?_
      refine y_getR hC (yM_o hQ) (yM_r8 hQ) f_X8_17 rfl dX8_nextDeadline_11 ?_
      refine y_iconst (v := nI 4) hC dX8_nextDeadline_14 (by decide) ?_
      refine y_ialdRN (w9 := 15) hC (by decide) (yM_a8 hQ) (by decide) dX8_nextDeadline_15 ?_
      rw [show up2 M 0 0 0 2 4 = nI nd from hnd]
      refine y_icmp_ge (tgt := 70) hC dX8_nextDeadline_16 (by decide) (fun c16 => ?_) (fun c16 => absurd (nI_le (by omega) (by omega)) c16)
      refine y_iload_n hC dX8_nextDeadline_70 rfl ?_
      exact y_iret hC hr rfl (Nat.zero_le _) (Nat.zero_le _) dX8_nextDeadline_71 (yMo.mk (t := 0) (r := s) (congrArg (Prod.mk 0) (by rw [hi, show j = nd by omega])) rfl rfl)
    | succ f9 ih =>
      intro j s hm hi
      refine y_iload_n hC dX8_nextDeadline_9 rfl ?_
      refine y_aload_n hC dX8_nextDeadline_10 rfl ?_
      refine y_getR hC (yM_o hQ) (yM_r8 hQ) f_X8_17 rfl dX8_nextDeadline_11 ?_
      refine y_iconst (v := nI 4) hC dX8_nextDeadline_14 (by decide) ?_
      refine y_ialdRN (w9 := 15) hC (by decide) (yM_a8 hQ) (by decide) dX8_nextDeadline_15 ?_
      rw [show up2 M 0 0 0 2 4 = nI nd from hnd]
      refine y_icmp_ge (tgt := 70) hC dX8_nextDeadline_16 (by decide) (fun c16 => absurd c16 (nI_ge (by omega) (by omega))) (fun c16 => ?_)
      refine y_aload_n hC dX8_nextDeadline_19 rfl ?_
      refine y_getR hC (yM_o hQ) (yM_r8 hQ) f_X8_17 rfl dX8_nextDeadline_20 ?_
      refine y_iload_n hC dX8_nextDeadline_23 rfl ?_
      refine y_callS1 hC (c_isFinal_at X.2.1 D z (M := up2 M 0 0 0) hQ (k := j) (by omega)) m_X8_215 rfl (by decide) (Nat.le_of_ble_eq_true rfl) (Nat.zero_le _) (Nat.zero_le _) dX8_nextDeadline_24 ?_
      refine y_if_neB (tgt := 64) hC dX8_nextDeadline_27 (by decide) (fun c27 => ?_) (fun c27 => ?_)
      · refine y_iincN hC dX8_nextDeadline_64 rfl rfl (by decide) rfl ?_
        refine y_goto (tgt := 9) hC dX8_nextDeadline_67 (by decide) ?_
        subst hi
        first | exact ih (j + 1) _ (by omega) (if_pos c27).symm | exact ih (j + 1) _ (by omega) (((if_neg c27).trans (if_pos (Or.inl c32))).symm) | exact ih (j + 1) _ (by omega) (((if_neg c27).trans (if_pos (Or.inr (Int32.not_le.mp c48)))).symm) | exact ih (j + 1) _ (by omega) (((if_neg c27).trans (if_neg (fun q => q.elim c32 (Int32.not_lt.mpr c48)))).symm)
      · refine y_iload_n hC dX8_nextDeadline_30 rfl ?_
        refine y_iconst (v := (-1)) hC dX8_nextDeadline_31 (by decide) ?_
        refine y_icmp_eq (tgt := 51) hC dX8_nextDeadline_32 (by decide) (fun c32 => ?_) (fun c32 => ?_)
        · refine y_aload_n hC dX8_nextDeadline_51 rfl ?_
          refine y_getR hC (yM_o hQ) (yM_r8 hQ) f_X8_17 rfl dX8_nextDeadline_52 ?_
          refine y_iload_n hC dX8_nextDeadline_55 rfl ?_
          refine y_callS1 hC (c_X8_dispute X.2.1 D z (j := j) rfl) m_X8_180 rfl (by decide) (Nat.le_of_ble_eq_true rfl) (Nat.zero_le _) (Nat.zero_le _) dX8_nextDeadline_56 ?_
          refine y_bipush (v := nI 6) hC dX8_nextDeadline_59 (by decide) ?_
          refine y_iaddN hC dX8_nextDeadline_61 ?_
          refine y_ialdRN (w9 := 15) hC (by decide) (yM_a8 hQ) (by omega) dX8_nextDeadline_62 ?_
          refine y_istore_n hC dX8_nextDeadline_63 (by decide) rfl ?_
          refine y_iincN hC dX8_nextDeadline_64 rfl rfl (by decide) rfl ?_
          refine y_goto (tgt := 9) hC dX8_nextDeadline_67 (by decide) ?_
          subst hi
          first | exact ih (j + 1) _ (by omega) (if_pos c27).symm | exact ih (j + 1) _ (by omega) (((if_neg c27).trans (if_pos (Or.inl c32))).symm) | exact ih (j + 1) _ (by omega) (((if_neg c27).trans (if_pos (Or.inr (Int32.not_le.mp c48)))).symm) | exact ih (j + 1) _ (by omega) (((if_neg c27).trans (if_neg (fun q => q.elim c32 (Int32.not_lt.mpr c48)))).symm)
        · refine y_aload_n hC dX8_nextDeadline_35 rfl ?_
          refine y_getR hC (yM_o hQ) (yM_r8 hQ) f_X8_17 rfl dX8_nextDeadline_36 ?_
          refine y_iload_n hC dX8_nextDeadline_39 rfl ?_
          refine y_callS1 hC (c_X8_dispute X.2.1 D z (j := j) rfl) m_X8_180 rfl (by decide) (Nat.le_of_ble_eq_true rfl) (Nat.zero_le _) (Nat.zero_le _) dX8_nextDeadline_40 ?_
          refine y_bipush (v := nI 6) hC dX8_nextDeadline_43 (by decide) ?_
          refine y_iaddN hC dX8_nextDeadline_45 ?_
          refine y_ialdRN (w9 := 15) hC (by decide) (yM_a8 hQ) (by omega) dX8_nextDeadline_46 ?_
          refine y_iload_n hC dX8_nextDeadline_47 rfl ?_
          refine y_icmp_ge (tgt := 64) hC dX8_nextDeadline_48 (by decide) (fun c48 => ?_) (fun c48 => ?_)
          · refine y_iincN hC dX8_nextDeadline_64 rfl rfl (by decide) rfl ?_
            refine y_goto (tgt := 9) hC dX8_nextDeadline_67 (by decide) ?_
            subst hi
            first | exact ih (j + 1) _ (by omega) (if_pos c27).symm | exact ih (j + 1) _ (by omega) (((if_neg c27).trans (if_pos (Or.inl c32))).symm) | exact ih (j + 1) _ (by omega) (((if_neg c27).trans (if_pos (Or.inr (Int32.not_le.mp c48)))).symm) | exact ih (j + 1) _ (by omega) (((if_neg c27).trans (if_neg (fun q => q.elim c32 (Int32.not_lt.mpr c48)))).symm)
          · refine y_aload_n hC dX8_nextDeadline_51 rfl ?_
            refine y_getR hC (yM_o hQ) (yM_r8 hQ) f_X8_17 rfl dX8_nextDeadline_52 ?_
            refine y_iload_n hC dX8_nextDeadline_55 rfl ?_
            refine y_callS1 hC (c_X8_dispute X.2.1 D z (j := j) rfl) m_X8_180 rfl (by decide) (Nat.le_of_ble_eq_true rfl) (Nat.zero_le _) (Nat.zero_le _) dX8_nextDeadline_56 ?_
            refine y_bipush (v := nI 6) hC dX8_nextDeadline_59 (by decide) ?_
            refine y_iaddN hC dX8_nextDeadline_61 ?_
            refine y_ialdRN (w9 := 15) hC (by decide) (yM_a8 hQ) (by omega) dX8_nextDeadline_62 ?_
            refine y_istore_n hC dX8_nextDeadline_63 (by decide) rfl ?_
            refine y_iincN hC dX8_nextDeadline_64 rfl rfl (by decide) rfl ?_
            refine y_goto (tgt := 9) hC dX8_nextDeadline_67 (by decide) ?_
            subst hi
            first | exact ih (j + 1) _ (by omega) (if_pos c27).symm | exact ih (j + 1) _ (by omega) (((if_neg c27).trans (if_pos (Or.inl c32))).symm) | exact ih (j + 1) _ (by omega) (((if_neg c27).trans (if_pos (Or.inr (Int32.not_le.mp c48)))).symm) | exact ih (j + 1) _ (by omega) (((if_neg c27).trans (if_neg (fun q => q.elim c32 (Int32.not_lt.mpr c48)))).symm)
  exact lp9 nd 0 _ (Nat.zero_add _) rfl
set_option maxRecDepth 100000 in
set_option maxHeartbeats 4000000 in
theorem c_X8_reasonOf (l : Launch) (D : yD) (z : Nat) {n : Nat} {sh : yS} {I : yI} {L : yL} {q : Nat} {M : yI} (hQ : yMod sh q) {nr : Nat} (hnr : M 2 2 = nI nr) (nr8 : nr ≤ 8) {x : Int32} : yM l D z yX8_reasonOf cX8_reasonOf 3 (some .int) 2 0 0 [.ref q, .int x] n sh (sR 15 I q M) L (yMo (0, rwc (fun r => M 2 (20 + 6 * r)) x 0 nr) n sh I q M L) (yno) := by
  refine yM_of (by decide) (Nat.le_of_ble_eq_true rfl) rfl ?_
  intro X hC hr hnm hRc hRs htb
  have hC : yC X D z cX8_reasonOf RX8 3 2 := hC
  refine y_aload_n hC dX8_reasonOf_0 rfl ?_
  refine y_iconst (v := 0) hC dX8_reasonOf_1 (by decide) ?_
  refine y_putIR (w9 := 15) hC (by decide) (yM_o hQ) f_X8_39 rfl (Or.inl rfl) dX8_reasonOf_2 ?_
  refine y_iconst (v := 0) hC dX8_reasonOf_5 (by decide) ?_
  refine y_istore_n hC dX8_reasonOf_6 (by decide) rfl ?_
  have lp7 : ∀ (f9 j : Nat) , j + f9 = nr → rwc (fun r => M 2 (20 + 6 * r)) x j f9 = rwc (fun r => M 2 (20 + 6 * r)) x 0 nr → Y X D z 3 n sh (sR 15 I q (up2 M 0 0 0)) L 0 0 (yEnd X D z (yMo (0, rwc (fun r => M 2 (20 + 6 * r)) x 0 nr) n sh I q M L) (yno) 0 0) 7 [some (.ref q), some (.int x), some (.int (nI j))] [] := by
    intro f9
    induction f9 with
    | zero =>
      intro j  hm hi
      refine y_iload_n hC dX8_reasonOf_7 rfl ?_
      refine y_aload_n hC dX8_reasonOf_8 rfl ?_
      refine y_getR hC (yM_o hQ) (yM_r8 hQ) f_X8_17 rfl dX8_reasonOf_9 ?_
      refine y_iconst (v := nI 2) hC dX8_reasonOf_12 (by decide) ?_
      refine y_ialdRN (w9 := 15) hC (by decide) (yM_a8 hQ) (by decide) dX8_reasonOf_13 ?_
      rw [show up2 M 0 0 0 2 2 = nI nr from hnr]
      refine y_icmp_ge (tgt := 38) hC dX8_reasonOf_14 (by decide) (fun c14 => ?_) (fun c14 => absurd (nI_le (by omega) (by omega)) c14)
      refine y_iconst (v := (-1)) hC dX8_reasonOf_38 (by decide) ?_
      exact y_iret hC hr rfl (Nat.zero_le _) (Nat.zero_le _) dX8_reasonOf_39 (by first | exact yMo.mk (t := 0) (r := -1) (congrArg (Prod.mk 0) hi.symm) rfl rfl | exact yMo.mk (t := 0) (r := nI j) (congrArg (Prod.mk 0) (hi.symm.trans (if_pos c27))) rfl rfl)
    | succ f9 ih =>
      intro j  hm hi
      refine y_iload_n hC dX8_reasonOf_7 rfl ?_
      refine y_aload_n hC dX8_reasonOf_8 rfl ?_
      refine y_getR hC (yM_o hQ) (yM_r8 hQ) f_X8_17 rfl dX8_reasonOf_9 ?_
      refine y_iconst (v := nI 2) hC dX8_reasonOf_12 (by decide) ?_
      refine y_ialdRN (w9 := 15) hC (by decide) (yM_a8 hQ) (by decide) dX8_reasonOf_13 ?_
      rw [show up2 M 0 0 0 2 2 = nI nr from hnr]
      refine y_icmp_ge (tgt := 38) hC dX8_reasonOf_14 (by decide) (fun c14 => absurd c14 (nI_ge (by omega) (by omega))) (fun c14 => ?_)
      refine y_aload_n hC dX8_reasonOf_17 rfl ?_
      refine y_getR hC (yM_o hQ) (yM_r8 hQ) f_X8_17 rfl dX8_reasonOf_18 ?_
      refine y_iload_n hC dX8_reasonOf_21 rfl ?_
      refine y_callS1 hC (c_X8_reason X.2.1 D z (j := j) rfl) m_X8_135 rfl (by decide) (Nat.le_of_ble_eq_true rfl) (Nat.zero_le _) (Nat.zero_le _) dX8_reasonOf_22 ?_
      refine y_ialdRN (w9 := 15) hC (by decide) (yM_a8 hQ) (by omega) dX8_reasonOf_25 ?_
      refine y_iload_n hC dX8_reasonOf_26 rfl ?_
      refine y_icmp_ne (tgt := 32) hC dX8_reasonOf_27 (by decide) (fun c27 => ?_) (fun c27 => ?_)
      · refine y_iincN hC dX8_reasonOf_32 rfl rfl (by decide) rfl ?_
        refine y_goto (tgt := 7) hC dX8_reasonOf_35 (by decide) ?_
        exact ih (j + 1) (by omega) (hi ▸ (if_neg c27).symm)
      · refine y_iload_n hC dX8_reasonOf_30 rfl ?_
        exact y_iret hC hr rfl (Nat.zero_le _) (Nat.zero_le _) dX8_reasonOf_31 (by first | exact yMo.mk (t := 0) (r := -1) (congrArg (Prod.mk 0) hi.symm) rfl rfl | exact yMo.mk (t := 0) (r := nI j) (congrArg (Prod.mk 0) (hi.symm.trans (if_pos c27))) rfl rfl)
  exact lp7 nr 0 (Nat.zero_add _) rfl
theorem sm_t0 {P : Nat → Prop} [DecidablePred P] {g : Nat → Int32} {j : Nat} {s : Int32} (hi : s = sm (fun k => if P k then g k else 0) j) (h : P j) : s + g j = sm (fun k => if P k then g k else 0) (j + 1) := by
  rw [hi, sm, if_pos h]
theorem sm_f0 {P : Nat → Prop} [DecidablePred P] {g : Nat → Int32} {j : Nat} {s : Int32} (hi : s = sm (fun k => if P k then g k else 0) j) (h : ¬ P j) : s + 0 = sm (fun k => if P k then g k else 0) (j + 1) := by
  rw [hi, sm, if_neg h]
set_option maxRecDepth 100000 in
set_option maxHeartbeats 4000000 in
theorem c_X8_disputedOf (l : Launch) (D : yD) (z : Nat) {n : Nat} {sh : yS} {I : yI} {L : yL} {q : Nat} {M : yI} (hQ : yMod sh q) {nd : Nat} (hnd : M 2 4 = nI nd) (nd20 : nd ≤ 20) {p : Int32} : yM l D z yX8_disputedOf cX8_disputedOf 4 (some .int) 1 0 0 [.ref q, .int p] n sh (sR 15 I q M) L (yF (some (.int (sm (fun k => if M 2 (164 + 8 * k) = p ∧ ¬ M 2 (164 + 8 * k + 5) = 5 then M 2 (164 + 8 * k + 2) else 0) nd))) n sh (sR 15 I q M) L) (yno) := by
  refine yM_of (by decide) (Nat.le_of_ble_eq_true rfl) rfl ?_
  intro X hC hr hnm hRc hRs htb
  have hC : yC X D z cX8_disputedOf RX8 4 1 := hC
  refine y_iconst (v := 0) hC dX8_disputedOf_0 (by decide) ?_
  refine y_istore_n hC dX8_disputedOf_1 (by decide) rfl ?_
  refine y_iconst (v := 0) hC dX8_disputedOf_2 (by decide) ?_
  refine y_istore_n hC dX8_disputedOf_3 (by decide) rfl ?_
  have lp4 : ∀ (f9 j : Nat) (s : Int32), j + f9 = nd → s = sm (fun k => if M 2 (164 + 8 * k) = p ∧ ¬ M 2 (164 + 8 * k + 5) = 5 then M 2 (164 + 8 * k + 2) else 0) j → Y X D z 4 n sh (sR 15 I q M) L 0 0 (yEnd X D z (yF (some (.int (sm (fun k => if M 2 (164 + 8 * k) = p ∧ ¬ M 2 (164 + 8 * k + 5) = 5 then M 2 (164 + 8 * k + 2) else 0) nd))) n sh (sR 15 I q M) L) (yno) 0 0) 4 [some (.ref q), some (.int p), some (.int s), some (.int (nI j))] [] := by
    intro f9
    induction f9 with
    | zero =>
      intro j s hm hi
      refine y_iload_n hC dX8_disputedOf_4 rfl ?_
      refine y_aload_n hC dX8_disputedOf_5 rfl ?_
      refine y_getR hC (yM_o hQ) (yM_r8 hQ) f_X8_17 rfl dX8_disputedOf_6 ?_
      refine y_iconst (v := nI 4) hC dX8_disputedOf_9 (by decide) ?_
      refine y_ialdRN (w9 := 15) hC (by decide) (yM_a8 hQ) (by decide) dX8_disputedOf_10 ?_
      rw [hnd]
      refine y_icmp_ge (tgt := 66) hC dX8_disputedOf_11 (by decide) (fun c11 => ?_) (fun c11 => absurd (nI_le (by omega) (by omega)) c11)
      refine y_iload_n hC dX8_disputedOf_66 rfl ?_
      exact y_iret hC hr rfl (Nat.zero_le _) (Nat.zero_le _) dX8_disputedOf_67 (yF.mk (by rw [hi, show j = nd by omega]))
    | succ f9 ih =>
      intro j s hm hi
      refine y_iload_n hC dX8_disputedOf_4 rfl ?_
      refine y_aload_n hC dX8_disputedOf_5 rfl ?_
      refine y_getR hC (yM_o hQ) (yM_r8 hQ) f_X8_17 rfl dX8_disputedOf_6 ?_
      refine y_iconst (v := nI 4) hC dX8_disputedOf_9 (by decide) ?_
      refine y_ialdRN (w9 := 15) hC (by decide) (yM_a8 hQ) (by decide) dX8_disputedOf_10 ?_
      rw [hnd]
      refine y_icmp_ge (tgt := 66) hC dX8_disputedOf_11 (by decide) (fun c11 => absurd c11 (nI_ge (by omega) (by omega))) (fun c11 => ?_)
      refine y_iload_n hC dX8_disputedOf_14 rfl ?_
      refine y_aload_n hC dX8_disputedOf_15 rfl ?_
      refine y_getR hC (yM_o hQ) (yM_r8 hQ) f_X8_17 rfl dX8_disputedOf_16 ?_
      refine y_iload_n hC dX8_disputedOf_19 rfl ?_
      refine y_callS1 hC (c_X8_dispute X.2.1 D z (j := j) rfl) m_X8_180 rfl (by decide) (Nat.le_of_ble_eq_true rfl) (Nat.zero_le _) (Nat.zero_le _) dX8_disputedOf_20 ?_
      refine y_ialdRN (w9 := 15) hC (by decide) (yM_a8 hQ) (by omega) dX8_disputedOf_23 ?_
      refine y_iload_n hC dX8_disputedOf_24 rfl ?_
      refine y_icmp_ne (tgt := 57) hC dX8_disputedOf_25 (by decide) (fun c25 => ?_) (fun c25 => ?_)
      · refine y_iconst (v := 0) hC dX8_disputedOf_57 (by decide) ?_
        refine y_iadd hC dX8_disputedOf_58 ?_
        refine y_istore_n hC dX8_disputedOf_59 (by decide) rfl ?_
        refine y_iincN hC dX8_disputedOf_60 rfl rfl (by decide) rfl ?_
        refine y_goto (tgt := 4) hC dX8_disputedOf_63 (by decide) ?_
        first | exact ih (j + 1) _ (by omega) (sm_t0 hi ⟨c25, c40⟩) | exact ih (j + 1) _ (by omega) (sm_f0 hi (fun q => c25 q.1)) | exact ih (j + 1) _ (by omega) (sm_f0 hi (fun q => q.2 c40))
      · refine y_aload_n hC dX8_disputedOf_28 rfl ?_
        refine y_getR hC (yM_o hQ) (yM_r8 hQ) f_X8_17 rfl dX8_disputedOf_29 ?_
        refine y_iload_n hC dX8_disputedOf_32 rfl ?_
        refine y_callS1 hC (c_X8_dispute X.2.1 D z (j := j) rfl) m_X8_180 rfl (by decide) (Nat.le_of_ble_eq_true rfl) (Nat.zero_le _) (Nat.zero_le _) dX8_disputedOf_33 ?_
        refine y_iconst (v := nI 5) hC dX8_disputedOf_36 (by decide) ?_
        refine y_iaddN hC dX8_disputedOf_37 ?_
        refine y_ialdRN (w9 := 15) hC (by decide) (yM_a8 hQ) (by omega) dX8_disputedOf_38 ?_
        refine y_iconst (v := 5) hC dX8_disputedOf_39 (by decide) ?_
        refine y_icmp_eq (tgt := 57) hC dX8_disputedOf_40 (by decide) (fun c40 => ?_) (fun c40 => ?_)
        · refine y_iconst (v := 0) hC dX8_disputedOf_57 (by decide) ?_
          refine y_iadd hC dX8_disputedOf_58 ?_
          refine y_istore_n hC dX8_disputedOf_59 (by decide) rfl ?_
          refine y_iincN hC dX8_disputedOf_60 rfl rfl (by decide) rfl ?_
          refine y_goto (tgt := 4) hC dX8_disputedOf_63 (by decide) ?_
          first | exact ih (j + 1) _ (by omega) (sm_t0 hi ⟨c25, c40⟩) | exact ih (j + 1) _ (by omega) (sm_f0 hi (fun q => c25 q.1)) | exact ih (j + 1) _ (by omega) (sm_f0 hi (fun q => q.2 c40))
        · refine y_aload_n hC dX8_disputedOf_43 rfl ?_
          refine y_getR hC (yM_o hQ) (yM_r8 hQ) f_X8_17 rfl dX8_disputedOf_44 ?_
          refine y_iload_n hC dX8_disputedOf_47 rfl ?_
          refine y_callS1 hC (c_X8_dispute X.2.1 D z (j := j) rfl) m_X8_180 rfl (by decide) (Nat.le_of_ble_eq_true rfl) (Nat.zero_le _) (Nat.zero_le _) dX8_disputedOf_48 ?_
          refine y_iconst (v := nI 2) hC dX8_disputedOf_51 (by decide) ?_
          refine y_iaddN hC dX8_disputedOf_52 ?_
          refine y_ialdRN (w9 := 15) hC (by decide) (yM_a8 hQ) (by omega) dX8_disputedOf_53 ?_
          refine y_goto (tgt := 58) hC dX8_disputedOf_54 (by decide) ?_
          refine y_iadd hC dX8_disputedOf_58 ?_
          refine y_istore_n hC dX8_disputedOf_59 (by decide) rfl ?_
          refine y_iincN hC dX8_disputedOf_60 rfl rfl (by decide) rfl ?_
          refine y_goto (tgt := 4) hC dX8_disputedOf_63 (by decide) ?_
          first | exact ih (j + 1) _ (by omega) (sm_t0 hi ⟨c25, c40⟩) | exact ih (j + 1) _ (by omega) (sm_f0 hi (fun q => c25 q.1)) | exact ih (j + 1) _ (by omega) (sm_f0 hi (fun q => q.2 c40))
  exact lp4 nd 0 _ (Nat.zero_add _) rfl
set_option maxRecDepth 100000 in
set_option maxHeartbeats 4000000 in
theorem c_X8_disputed (l : Launch) (D : yD) (z : Nat) {n : Nat} {sh : yS} {I : yI} {L : yL} {q : Nat} {M : yI} (hQ : yMod sh q) {nd : Nat} (hnd : M 2 4 = nI nd) (nd20 : nd ≤ 20) {np : Nat} (hnp : M 2 3 = nI np) (np24 : np ≤ 24) {x : Int32} {p : Nat} (hp : vp_in x np → x = nI p ∧ p < np) : yM l D z yX8_disputed cX8_disputed 2 (some .int) 2 0 0 [.ref q, .int x] n sh (sR 15 I q M) L (yMo (mI np x (0, sm (fun k => if M 2 (164 + 8 * k) = nI p ∧ ¬ M 2 (164 + 8 * k + 5) = 5 then M 2 (164 + 8 * k + 2) else 0) nd)) n sh I q M L) (yno) := by
  refine yM_of (by decide) (Nat.le_of_ble_eq_true rfl) rfl ?_
  intro X hC hr hnm hRc hRs htb
  have hC : yC X D z cX8_disputed RX8 2 2 := hC
  refine y_aload_n hC dX8_disputed_0 rfl ?_
  refine y_iconst (v := 0) hC dX8_disputed_1 (by decide) ?_
  refine y_putIR (w9 := 15) hC (by decide) (yM_o hQ) f_X8_39 rfl (Or.inl rfl) dX8_disputed_2 ?_
  refine y_aload_n hC dX8_disputed_5 rfl ?_
  refine y_iload_n hC dX8_disputed_6 rfl ?_
  by_cases hx : vp_in x np
  · obtain ⟨rfl, pl⟩ := hp hx
    refine y_callV1 hC (c_X8_noPurchase0 X.2.1 D z hQ up2_at ((congrFun (show up2 M 0 0 0 2 = M 2 from up2_r (by decide)) 3).trans hnp) (by omega) hx) m_X8_233 rfl (yM_o hQ) (by decide) (Nat.le_of_ble_eq_true rfl) (Nat.zero_le _) (Nat.zero_le _) dX8_disputed_7 ?_
    refine y_if_eq (tgt := 17) hC dX8_disputed_10 (by decide) (fun c10 => ?_) (fun c10 => absurd rfl c10)
    refine y_aload_n hC dX8_disputed_17 rfl ?_
    refine y_iload_n hC dX8_disputed_18 rfl ?_
    refine y_callV1 hC (c_X8_disputedOf X.2.1 D z (M := up2 M 0 0 0) hQ hnd nd20) m_X8_236 rfl (yM_o hQ) (by decide) (Nat.le_of_ble_eq_true rfl) (Nat.zero_le _) (Nat.zero_le _) dX8_disputed_19 ?_
    exact y_iret hC hr rfl (Nat.zero_le _) (Nat.zero_le _) dX8_disputed_22 (yMo.mk (mI_t hx) rfl (by first | rfl | exact up2_up2))
  · refine y_callV1 hC (c_X8_noPurchase1 X.2.1 D z hQ up2_at ((congrFun (show up2 M 0 0 0 2 = M 2 from up2_r (by decide)) 3).trans hnp) (by omega) hx) m_X8_233 rfl (yM_o hQ) (by decide) (Nat.le_of_ble_eq_true rfl) (Nat.zero_le _) (Nat.zero_le _) dX8_disputed_7 ?_
    refine y_if_eq (tgt := 17) hC dX8_disputed_10 (by decide) (fun c10 => absurd c10 (by decide)) (fun c10 => ?_)
    refine y_iconst (v := 0) hC dX8_disputed_13 (by decide) ?_
    refine y_goto (tgt := 22) hC dX8_disputed_14 (by decide) ?_
    exact y_iret hC hr rfl (Nat.zero_le _) (Nat.zero_le _) dX8_disputed_22 (yMo.mk (mI_f hx) rfl (by first | rfl | exact up2_up2))
set_option maxRecDepth 100000 in
set_option maxHeartbeats 4000000 in
theorem c_X8_isLate (l : Launch) (D : yD) (z : Nat) {n : Nat} {sh : yS} {I : yI} {L : yL} {q : Nat} {M : yI} (hQ : yMod sh q) {x : Int32} : yM l D z yX8_isLate cX8_isLate 2 (some .boolean) 0 0 0 [.ref q, .int x] n sh (sR 15 I q M) L (yF (some (.int (b2i (¬ x ≤ M 2 5 - 30)))) n sh (sR 15 I q M) L) (yno) := by
  refine yM_of (by decide) (Nat.le_of_ble_eq_true rfl) rfl ?_
  intro X hC hr hnm hRc hRs htb
  have hC : yC X D z cX8_isLate RX8 2 0 := hC
  refine y_iload_n hC dX8_isLate_0 rfl ?_
  refine y_aload_n hC dX8_isLate_1 rfl ?_
  refine y_getR hC (yM_o hQ) (yM_r8 hQ) f_X8_17 rfl dX8_isLate_2 ?_
  refine y_iconst (v := nI 5) hC dX8_isLate_5 (by decide) ?_
  refine y_ialdRN (w9 := 15) hC (by decide) (yM_a8 hQ) (by decide) dX8_isLate_6 ?_
  refine y_bipush (v := 30) hC dX8_isLate_7 (by decide) ?_
  refine y_isub hC dX8_isLate_9 ?_
  refine y_icmp_le (tgt := 17) hC dX8_isLate_10 (by decide) (fun c10 => ?_) (fun c10 => ?_)
  · refine y_iconst (v := 0) hC dX8_isLate_17 (by decide) ?_
    exact y_iret hC hr rfl (Nat.zero_le _) (Nat.zero_le _) dX8_isLate_18 (by first | exact yF.t c10 | exact yF.tn c10)
  · refine y_iconst (v := 1) hC dX8_isLate_13 (by decide) ?_
    refine y_goto (tgt := 18) hC dX8_isLate_14 (by decide) ?_
    exact y_iret hC hr rfl (Nat.zero_le _) (Nat.zero_le _) dX8_isLate_18 (by first | exact yF.t c10 | exact yF.tn c10)
def ratM (d : Nat → Int32) (np nd mr : Nat) : Int32 := if sm (fun k => if d (68 + 4 * k + 1) = nI mr ∧ ¬ d (68 + 4 * k + 3) ≤ d 5 - 30 then 1 else 0) np = 0 then 0 else sm (fun k => if mD d k = mr ∧ ¬ d (164 + 8 * k + 3) ≤ d 5 - 30 then 1 else 0) nd * 1000 / sm (fun k => if d (68 + 4 * k + 1) = nI mr ∧ ¬ d (68 + 4 * k + 3) ≤ d 5 - 30 then 1 else 0) np
set_option maxRecDepth 100000 in
set_option maxHeartbeats 4000000 in
theorem c_X8_rateOf (l : Launch) (D : yD) (z : Nat) {n : Nat} {sh : yS} {I : yI} {L : yL} {q : Nat} {M : yI} (hQ : yMod sh q) {nd : Nat} (hnd : M 2 4 = nI nd) (nd20 : nd ≤ 20) {np : Nat} (hnp : M 2 3 = nI np) (np24 : np ≤ 24) {cd : List Int32} (hV : dV (M 2) nd cd) {mr : Nat} (mr4 : mr < 4) : yM l D z yX8_rateOf cX8_rateOf 5 (some .int) 2 0 0 [.ref q, .int (nI mr)] n sh (sR 15 I q M) L (yF (some (.int (ratM (M 2) np nd mr))) n sh (sR 15 I q M) L) (yno) := by
  refine yM_of (by decide) (Nat.le_of_ble_eq_true rfl) rfl ?_
  intro X hC hr hnm hRc hRs htb
  have hC : yC X D z cX8_rateOf RX8 5 2 := hC
  refine y_iconst (v := 0) hC dX8_rateOf_0 (by decide) ?_
  refine y_istore_n hC dX8_rateOf_1 (by decide) rfl ?_
  refine y_iconst (v := 0) hC dX8_rateOf_2 (by decide) ?_
  refine y_istore_n hC dX8_rateOf_3 (by decide) rfl ?_
  refine y_iconst (v := nI 0) hC dX8_rateOf_4 (by decide) ?_
  refine y_istore hC dX8_rateOf_5 (by decide) rfl ?_
  have lp7 : ∀ (f9 j : Nat) (s : Int32), j + f9 = np → s = sm (fun k => if M 2 (68 + 4 * k + 1) = nI mr ∧ ¬ M 2 (68 + 4 * k + 3) ≤ M 2 5 - 30 then 1 else 0) j → Y X D z 5 n sh (sR 15 I q M) L 0 0 (yEnd X D z (yF (some (.int (ratM (M 2) np nd mr))) n sh (sR 15 I q M) L) (yno) 0 0) 7 [some (.ref q), some (.int (nI mr)), some (.int s), some (.int 0), some (.int (nI j))] [] := by
    intro f9
    induction f9 with
    | zero =>
      intro j s hm hi
      refine y_iload hC dX8_rateOf_7 rfl ?_
      refine y_aload_n hC dX8_rateOf_9 rfl ?_
      refine y_getR hC (yM_o hQ) (yM_r8 hQ) f_X8_17 rfl dX8_rateOf_10 ?_
      refine y_iconst (v := nI 3) hC dX8_rateOf_13 (by decide) ?_
      refine y_ialdRN (w9 := 15) hC (by decide) (yM_a8 hQ) (by decide) dX8_rateOf_14 ?_
      rw [hnp]
      refine y_icmp_ge (tgt := 67) hC dX8_rateOf_15 (by decide) (fun c15 => ?_) (fun c15 => absurd (nI_le (by omega) (by omega)) c15)
      refine y_iconst (v := nI 0) hC dX8_rateOf_67 (by decide) ?_
      refine y_istore hC dX8_rateOf_68 (by decide) rfl ?_
      have lp70 : ∀ (f9 j2 : Nat) (s2 : Int32), j2 + f9 = nd → s2 = sm (fun k => if mD (M 2) k = mr ∧ ¬ M 2 (164 + 8 * k + 3) ≤ M 2 5 - 30 then 1 else 0) j2 → Y X D z 5 n sh (sR 15 I q M) L 0 0 (yEnd X D z (yF (some (.int (ratM (M 2) np nd mr))) n sh (sR 15 I q M) L) (yno) 0 0) 70 [some (.ref q), some (.int (nI mr)), some (.int s), some (.int s2), some (.int (nI j2))] [] := by
        intro f9
        induction f9 with
        | zero =>
          intro j2 s2 hm2 hi2
          refine y_iload hC dX8_rateOf_70 rfl ?_
          refine y_aload_n hC dX8_rateOf_72 rfl ?_
          refine y_getR hC (yM_o hQ) (yM_r8 hQ) f_X8_17 rfl dX8_rateOf_73 ?_
          refine y_iconst (v := nI 4) hC dX8_rateOf_76 (by decide) ?_
          refine y_ialdRN (w9 := 15) hC (by decide) (yM_a8 hQ) (by decide) dX8_rateOf_77 ?_
          rw [hnd]
          refine y_icmp_ge (tgt := 130) hC dX8_rateOf_78 (by decide) (fun c78 => ?_) (fun c78 => absurd (nI_le (by omega) (by omega)) c78)
          refine y_iload_n hC dX8_rateOf_130 rfl ?_
          refine y_if_ne (tgt := 138) hC dX8_rateOf_131 (by decide) (fun c131 => ?_) (fun c131 => ?_)
          · refine y_iload_n hC dX8_rateOf_138 rfl ?_
            refine y_sipush (v := 1000) hC dX8_rateOf_139 (by decide) ?_
            refine y_imul hC dX8_rateOf_142 ?_
            refine y_iload_n hC dX8_rateOf_143 rfl ?_
            refine y_idiv hC dX8_rateOf_144 c131 ?_
            exact y_iret hC hr rfl (Nat.zero_le _) (Nat.zero_le _) dX8_rateOf_145 (by obtain rfl : j = np := (by omega); obtain rfl : j2 = nd := (by omega); subst hi; subst hi2; first | (rw [ratM, if_pos c131]; exact yF.mk rfl) | (rw [ratM, if_neg c131]; exact yF.mk rfl))
          · refine y_iconst (v := 0) hC dX8_rateOf_134 (by decide) ?_
            refine y_goto (tgt := 145) hC dX8_rateOf_135 (by decide) ?_
            exact y_iret hC hr rfl (Nat.zero_le _) (Nat.zero_le _) dX8_rateOf_145 (by obtain rfl : j = np := (by omega); obtain rfl : j2 = nd := (by omega); subst hi; subst hi2; first | (rw [ratM, if_pos c131]; exact yF.mk rfl) | (rw [ratM, if_neg c131]; exact yF.mk rfl))
        | succ f9 ih =>
          intro j2 s2 hm2 hi2
          refine y_iload hC dX8_rateOf_70 rfl ?_
          refine y_aload_n hC dX8_rateOf_72 rfl ?_
          refine y_getR hC (yM_o hQ) (yM_r8 hQ) f_X8_17 rfl dX8_rateOf_73 ?_
          refine y_iconst (v := nI 4) hC dX8_rateOf_76 (by decide) ?_
          refine y_ialdRN (w9 := 15) hC (by decide) (yM_a8 hQ) (by decide) dX8_rateOf_77 ?_
          rw [hnd]
          refine y_icmp_ge (tgt := 130) hC dX8_rateOf_78 (by decide) (fun c78 => absurd c78 (nI_ge (by omega) (by omega))) (fun c78 => ?_)
          refine y_iload_n hC dX8_rateOf_81 rfl ?_
          refine y_aload_n hC dX8_rateOf_82 rfl ?_
          refine y_getR hC (yM_o hQ) (yM_r8 hQ) f_X8_17 rfl dX8_rateOf_83 ?_
          refine y_iload hC dX8_rateOf_86 rfl ?_
          refine y_callS1 hC (c_merchantOf_at X.2.1 D z hQ (hV.2.2.1 _ (by omega)).1) m_X8_201 rfl (by decide) (Nat.le_of_ble_eq_true rfl) (Nat.zero_le _) (Nat.zero_le _) dX8_rateOf_88 ?_
          refine y_bipush (v := nI 16) hC dX8_rateOf_91 (by decide) ?_
          refine y_iload_n hC dX8_rateOf_93 rfl ?_
          refine y_iaddN hC dX8_rateOf_94 ?_
          refine y_icmp_ne (tgt := 121) hC dX8_rateOf_95 (by decide) (fun c95 => ?_) (fun c95 => ?_)
          · refine y_iconst (v := 0) hC dX8_rateOf_121 (by decide) ?_
            refine y_iadd hC dX8_rateOf_122 ?_
            refine y_istore_n hC dX8_rateOf_123 (by decide) rfl ?_
            refine y_iincN hC dX8_rateOf_124 rfl rfl (by decide) rfl ?_
            refine y_goto (tgt := 70) hC dX8_rateOf_127 (by decide) ?_
            have k95 : mD (M 2) j2 = mr ↔ nI (16 + mD (M 2) j2) = nI (16 + mr) := ⟨fun q => by rw [q], fun q => by have := nI_eq2 q (by have := (hV.2.2.1 j2 (by omega)).1.2.2.2.2.2.2.1; omega) (by omega); omega⟩
            first | exact ih (j2 + 1) _ (by omega) (sm_t0 hi2 ⟨k95.mpr c95, c114⟩) | exact ih (j2 + 1) _ (by omega) (sm_f0 hi2 (fun q => c95 (k95.mp q.1))) | exact ih (j2 + 1) _ (by omega) (sm_f0 hi2 (fun q => c114 q.2))
          · refine y_aload_n hC dX8_rateOf_98 rfl ?_
            refine y_aload_n hC dX8_rateOf_99 rfl ?_
            refine y_getR hC (yM_o hQ) (yM_r8 hQ) f_X8_17 rfl dX8_rateOf_100 ?_
            refine y_iload hC dX8_rateOf_103 rfl ?_
            refine y_callS1 hC (c_X8_dispute X.2.1 D z (j := j2) rfl) m_X8_180 rfl (by decide) (Nat.le_of_ble_eq_true rfl) (Nat.zero_le _) (Nat.zero_le _) dX8_rateOf_105 ?_
            refine y_iconst (v := nI 3) hC dX8_rateOf_108 (by decide) ?_
            refine y_iaddN hC dX8_rateOf_109 ?_
            refine y_ialdRN (w9 := 15) hC (by decide) (yM_a8 hQ) (by omega) dX8_rateOf_110 ?_
            refine y_callV1 hC (c_X8_isLate X.2.1 D z hQ) m_X8_242 rfl (yM_o hQ) (by decide) (Nat.le_of_ble_eq_true rfl) (Nat.zero_le _) (Nat.zero_le _) dX8_rateOf_111 ?_
            refine y_if_eqB (tgt := 121) hC dX8_rateOf_114 (by decide) (fun c114 => ?_) (fun c114 => ?_)
            · refine y_iconst (v := 0) hC dX8_rateOf_121 (by decide) ?_
              refine y_iadd hC dX8_rateOf_122 ?_
              refine y_istore_n hC dX8_rateOf_123 (by decide) rfl ?_
              refine y_iincN hC dX8_rateOf_124 rfl rfl (by decide) rfl ?_
              refine y_goto (tgt := 70) hC dX8_rateOf_127 (by decide) ?_
              have k95 : mD (M 2) j2 = mr ↔ nI (16 + mD (M 2) j2) = nI (16 + mr) := ⟨fun q => by rw [q], fun q => by have := nI_eq2 q (by have := (hV.2.2.1 j2 (by omega)).1.2.2.2.2.2.2.1; omega) (by omega); omega⟩
              first | exact ih (j2 + 1) _ (by omega) (sm_t0 hi2 ⟨k95.mpr c95, c114⟩) | exact ih (j2 + 1) _ (by omega) (sm_f0 hi2 (fun q => c95 (k95.mp q.1))) | exact ih (j2 + 1) _ (by omega) (sm_f0 hi2 (fun q => c114 q.2))
            · refine y_iconst (v := 1) hC dX8_rateOf_117 (by decide) ?_
              refine y_goto (tgt := 122) hC dX8_rateOf_118 (by decide) ?_
              refine y_iadd hC dX8_rateOf_122 ?_
              refine y_istore_n hC dX8_rateOf_123 (by decide) rfl ?_
              refine y_iincN hC dX8_rateOf_124 rfl rfl (by decide) rfl ?_
              refine y_goto (tgt := 70) hC dX8_rateOf_127 (by decide) ?_
              have k95 : mD (M 2) j2 = mr ↔ nI (16 + mD (M 2) j2) = nI (16 + mr) := ⟨fun q => by rw [q], fun q => by have := nI_eq2 q (by have := (hV.2.2.1 j2 (by omega)).1.2.2.2.2.2.2.1; omega) (by omega); omega⟩
              first | exact ih (j2 + 1) _ (by omega) (sm_t0 hi2 ⟨k95.mpr c95, c114⟩) | exact ih (j2 + 1) _ (by omega) (sm_f0 hi2 (fun q => c95 (k95.mp q.1))) | exact ih (j2 + 1) _ (by omega) (sm_f0 hi2 (fun q => c114 q.2))
      exact lp70 nd 0 _ (Nat.zero_add _) rfl
    | succ f9 ih =>
      intro j s hm hi
      refine y_iload hC dX8_rateOf_7 rfl ?_
      refine y_aload_n hC dX8_rateOf_9 rfl ?_
      refine y_getR hC (yM_o hQ) (yM_r8 hQ) f_X8_17 rfl dX8_rateOf_10 ?_
      refine y_iconst (v := nI 3) hC dX8_rateOf_13 (by decide) ?_
      refine y_ialdRN (w9 := 15) hC (by decide) (yM_a8 hQ) (by decide) dX8_rateOf_14 ?_
      rw [hnp]
      refine y_icmp_ge (tgt := 67) hC dX8_rateOf_15 (by decide) (fun c15 => absurd c15 (nI_ge (by omega) (by omega))) (fun c15 => ?_)
      refine y_iload_n hC dX8_rateOf_18 rfl ?_
      refine y_aload_n hC dX8_rateOf_19 rfl ?_
      refine y_getR hC (yM_o hQ) (yM_r8 hQ) f_X8_17 rfl dX8_rateOf_20 ?_
      refine y_iload hC dX8_rateOf_23 rfl ?_
      refine y_callS1 hC (c_X8_purchase X.2.1 D z (j := j) rfl) m_X8_190 rfl (by decide) (Nat.le_of_ble_eq_true rfl) (Nat.zero_le _) (Nat.zero_le _) dX8_rateOf_25 ?_
      refine y_iconst (v := nI 1) hC dX8_rateOf_28 (by decide) ?_
      refine y_iaddN hC dX8_rateOf_29 ?_
      refine y_ialdRN (w9 := 15) hC (by decide) (yM_a8 hQ) (by omega) dX8_rateOf_30 ?_
      refine y_iload_n hC dX8_rateOf_31 rfl ?_
      refine y_icmp_ne (tgt := 58) hC dX8_rateOf_32 (by decide) (fun c32 => ?_) (fun c32 => ?_)
      · refine y_iconst (v := 0) hC dX8_rateOf_58 (by decide) ?_
        refine y_iadd hC dX8_rateOf_59 ?_
        refine y_istore_n hC dX8_rateOf_60 (by decide) rfl ?_
        refine y_iincN hC dX8_rateOf_61 rfl rfl (by decide) rfl ?_
        refine y_goto (tgt := 7) hC dX8_rateOf_64 (by decide) ?_
        first | exact ih (j + 1) _ (by omega) (sm_t0 hi ⟨c32, c51⟩) | exact ih (j + 1) _ (by omega) (sm_f0 hi (fun q => c32 q.1)) | exact ih (j + 1) _ (by omega) (sm_f0 hi (fun q => c51 q.2))
      · refine y_aload_n hC dX8_rateOf_35 rfl ?_
        refine y_aload_n hC dX8_rateOf_36 rfl ?_
        refine y_getR hC (yM_o hQ) (yM_r8 hQ) f_X8_17 rfl dX8_rateOf_37 ?_
        refine y_iload hC dX8_rateOf_40 rfl ?_
        refine y_callS1 hC (c_X8_purchase X.2.1 D z (j := j) rfl) m_X8_190 rfl (by decide) (Nat.le_of_ble_eq_true rfl) (Nat.zero_le _) (Nat.zero_le _) dX8_rateOf_42 ?_
        refine y_iconst (v := nI 3) hC dX8_rateOf_45 (by decide) ?_
        refine y_iaddN hC dX8_rateOf_46 ?_
        refine y_ialdRN (w9 := 15) hC (by decide) (yM_a8 hQ) (by omega) dX8_rateOf_47 ?_
        refine y_callV1 hC (c_X8_isLate X.2.1 D z hQ) m_X8_242 rfl (yM_o hQ) (by decide) (Nat.le_of_ble_eq_true rfl) (Nat.zero_le _) (Nat.zero_le _) dX8_rateOf_48 ?_
        refine y_if_eqB (tgt := 58) hC dX8_rateOf_51 (by decide) (fun c51 => ?_) (fun c51 => ?_)
        · refine y_iconst (v := 0) hC dX8_rateOf_58 (by decide) ?_
          refine y_iadd hC dX8_rateOf_59 ?_
          refine y_istore_n hC dX8_rateOf_60 (by decide) rfl ?_
          refine y_iincN hC dX8_rateOf_61 rfl rfl (by decide) rfl ?_
          refine y_goto (tgt := 7) hC dX8_rateOf_64 (by decide) ?_
          first | exact ih (j + 1) _ (by omega) (sm_t0 hi ⟨c32, c51⟩) | exact ih (j + 1) _ (by omega) (sm_f0 hi (fun q => c32 q.1)) | exact ih (j + 1) _ (by omega) (sm_f0 hi (fun q => c51 q.2))
        · refine y_iconst (v := 1) hC dX8_rateOf_54 (by decide) ?_
          refine y_goto (tgt := 59) hC dX8_rateOf_55 (by decide) ?_
          refine y_iadd hC dX8_rateOf_59 ?_
          refine y_istore_n hC dX8_rateOf_60 (by decide) rfl ?_
          refine y_iincN hC dX8_rateOf_61 rfl rfl (by decide) rfl ?_
          refine y_goto (tgt := 7) hC dX8_rateOf_64 (by decide) ?_
          first | exact ih (j + 1) _ (by omega) (sm_t0 hi ⟨c32, c51⟩) | exact ih (j + 1) _ (by omega) (sm_f0 hi (fun q => c32 q.1)) | exact ih (j + 1) _ (by omega) (sm_f0 hi (fun q => c51 q.2))
  exact lp7 np 0 _ (Nat.zero_add _) rfl
set_option maxRecDepth 100000 in
set_option maxHeartbeats 4000000 in
theorem c_X8_rate (l : Launch) (D : yD) (z : Nat) {n : Nat} {sh : yS} {I : yI} {L : yL} {q : Nat} {M : yI} (hQ : yMod sh q) {nd : Nat} (hnd : M 2 4 = nI nd) (nd20 : nd ≤ 20) {np : Nat} (hnp : M 2 3 = nI np) (np24 : np ≤ 24) {nm : Nat} (hnm9 : M 2 1 = nI nm) (nm4 : nm ≤ 4) {x : Int32} {mr : Nat} (hmr : vp_in x nm → x = nI mr ∧ mr < nm) {cd : List Int32} (hV : dV (M 2) nd cd) : yM l D z yX8_rate cX8_rate 2 (some .int) 3 0 0 [.ref q, .int x] n sh (sR 15 I q M) L (yMo (mI nm x (0, ratM (M 2) np nd mr)) n sh I q M L) (yno) := by
  refine yM_of (by decide) (Nat.le_of_ble_eq_true rfl) rfl ?_
  intro X hC hr hnm hRc hRs htb
  have hC : yC X D z cX8_rate RX8 2 3 := hC
  refine y_aload_n hC dX8_rate_0 rfl ?_
  refine y_iconst (v := 0) hC dX8_rate_1 (by decide) ?_
  refine y_putIR (w9 := 15) hC (by decide) (yM_o hQ) f_X8_39 rfl (Or.inl rfl) dX8_rate_2 ?_
  refine y_aload_n hC dX8_rate_5 rfl ?_
  refine y_iload_n hC dX8_rate_6 rfl ?_
  by_cases hx : vp_in x nm
  · obtain ⟨rfl, mrl⟩ := hmr hx
    refine y_callV1 hC (c_X8_noMerchant0 X.2.1 D z hQ up2_at ((congrFun (show up2 M 0 0 0 2 = M 2 from up2_r (by decide)) 1).trans hnm9) (by omega) hx) m_X8_230 rfl (yM_o hQ) (by decide) (Nat.le_of_ble_eq_true rfl) (Nat.zero_le _) (Nat.zero_le _) dX8_rate_7 ?_
    refine y_if_eq (tgt := 17) hC dX8_rate_10 (by decide) (fun c10 => ?_) (fun c10 => absurd rfl c10)
    refine y_aload_n hC dX8_rate_17 rfl ?_
    refine y_iload_n hC dX8_rate_18 rfl ?_
    refine y_callV1 hC (c_X8_rateOf X.2.1 D z (M := up2 M 0 0 0) hQ hnd nd20 hnp np24 hV (mr := mr) (by omega)) m_X8_245 rfl (yM_o hQ) (by decide) (Nat.le_of_ble_eq_true rfl) (Nat.zero_le _) (Nat.zero_le _) dX8_rate_19 ?_
    exact y_iret hC hr rfl (Nat.zero_le _) (Nat.zero_le _) dX8_rate_22 (yMo.mk (mI_t hx) rfl (by first | rfl | exact up2_up2))
  · refine y_callV1 hC (c_X8_noMerchant1 X.2.1 D z hQ up2_at ((congrFun (show up2 M 0 0 0 2 = M 2 from up2_r (by decide)) 1).trans hnm9) (by omega) hx) m_X8_230 rfl (yM_o hQ) (by decide) (Nat.le_of_ble_eq_true rfl) (Nat.zero_le _) (Nat.zero_le _) dX8_rate_7 ?_
    refine y_if_eq (tgt := 17) hC dX8_rate_10 (by decide) (fun c10 => absurd c10 (by decide)) (fun c10 => ?_)
    refine y_iconst (v := 0) hC dX8_rate_13 (by decide) ?_
    refine y_goto (tgt := 22) hC dX8_rate_14 (by decide) ?_
    exact y_iret hC hr rfl (Nat.zero_le _) (Nat.zero_le _) dX8_rate_22 (yMo.mk (mI_f hx) rfl (by first | rfl | exact up2_up2))
set_option maxRecDepth 100000 in
set_option maxHeartbeats 4000000 in
theorem c_X8_isWatched (l : Launch) (D : yD) (z : Nat) {n : Nat} {sh : yS} {I : yI} {L : yL} {q : Nat} {M : yI} (hQ : yMod sh q) {nd : Nat} (hnd : M 2 4 = nI nd) (nd20 : nd ≤ 20) {np : Nat} (hnp : M 2 3 = nI np) (np24 : np ≤ 24) {nm : Nat} (hnm9 : M 2 1 = nI nm) (nm4 : nm ≤ 4) {x : Int32} {mr : Nat} (hmr : vp_in x nm → x = nI mr ∧ mr < nm) {cd : List Int32} (hV : dV (M 2) nd cd) : yM l D z yX8_isWatched cX8_isWatched 2 (some .boolean) 3 0 0 [.ref q, .int x] n sh (sR 15 I q M) L (yMo (mI nm x (0, b2i (¬ ratM (M 2) np nd mr ≤ M 2 8))) n sh I q M L) (yno) := by
  refine yM_of (by decide) (Nat.le_of_ble_eq_true rfl) rfl ?_
  intro X hC hr hnm hRc hRs htb
  have hC : yC X D z cX8_isWatched RX8 2 3 := hC
  refine y_aload_n hC dX8_isWatched_0 rfl ?_
  refine y_iconst (v := 0) hC dX8_isWatched_1 (by decide) ?_
  refine y_putIR (w9 := 15) hC (by decide) (yM_o hQ) f_X8_39 rfl (Or.inl rfl) dX8_isWatched_2 ?_
  refine y_aload_n hC dX8_isWatched_5 rfl ?_
  refine y_iload_n hC dX8_isWatched_6 rfl ?_
  by_cases hx : vp_in x nm
  · obtain ⟨rfl, mrl⟩ := hmr hx
    refine y_callV1 hC (c_X8_noMerchant0 X.2.1 D z hQ up2_at ((congrFun (show up2 M 0 0 0 2 = M 2 from up2_r (by decide)) 1).trans hnm9) (by omega) hx) m_X8_230 rfl (yM_o hQ) (by decide) (Nat.le_of_ble_eq_true rfl) (Nat.zero_le _) (Nat.zero_le _) dX8_isWatched_7 ?_
    refine y_if_ne (tgt := 32) hC dX8_isWatched_10 (by decide) (fun c10 => absurd rfl c10) (fun c10 => ?_)
    refine y_aload_n hC dX8_isWatched_13 rfl ?_
    refine y_iload_n hC dX8_isWatched_14 rfl ?_
    refine y_callV1 hC (c_X8_rateOf X.2.1 D z (M := up2 M 0 0 0) hQ hnd nd20 hnp np24 hV (mr := mr) (by omega)) m_X8_245 rfl (yM_o hQ) (by decide) (Nat.le_of_ble_eq_true rfl) (Nat.zero_le _) (Nat.zero_le _) dX8_isWatched_15 ?_
    refine y_aload_n hC dX8_isWatched_18 rfl ?_
    refine y_getR hC (yM_o hQ) (yM_r8 hQ) f_X8_17 rfl dX8_isWatched_19 ?_
    refine y_bipush (v := nI 8) hC dX8_isWatched_22 (by decide) ?_
    refine y_ialdRN (w9 := 15) hC (by decide) (yM_a8 hQ) (by decide) dX8_isWatched_24 ?_
    refine y_icmp_le (tgt := 32) hC dX8_isWatched_25 (by decide) (fun c25 => ?_) (fun c25 => ?_)
    · refine y_iconst (v := 0) hC dX8_isWatched_32 (by decide) ?_
      exact y_iret hC hr rfl (Nat.zero_le _) (Nat.zero_le _) dX8_isWatched_33 (by first | exact yMo.mk (mI_f hx) rfl up2_up2 | exact yMo.mk ((mI_t hx).trans (congrArg (Prod.mk 0) (b2i_t c25))) rfl rfl | exact yMo.mk ((mI_t hx).trans (congrArg (Prod.mk 0) (b2i_f (fun q => q c25)))) rfl rfl)
    · refine y_iconst (v := 1) hC dX8_isWatched_28 (by decide) ?_
      refine y_goto (tgt := 33) hC dX8_isWatched_29 (by decide) ?_
      exact y_iret hC hr rfl (Nat.zero_le _) (Nat.zero_le _) dX8_isWatched_33 (by first | exact yMo.mk (mI_f hx) rfl up2_up2 | exact yMo.mk ((mI_t hx).trans (congrArg (Prod.mk 0) (b2i_t c25))) rfl rfl | exact yMo.mk ((mI_t hx).trans (congrArg (Prod.mk 0) (b2i_f (fun q => q c25)))) rfl rfl)
  · refine y_callV1 hC (c_X8_noMerchant1 X.2.1 D z hQ up2_at ((congrFun (show up2 M 0 0 0 2 = M 2 from up2_r (by decide)) 1).trans hnm9) (by omega) hx) m_X8_230 rfl (yM_o hQ) (by decide) (Nat.le_of_ble_eq_true rfl) (Nat.zero_le _) (Nat.zero_le _) dX8_isWatched_7 ?_
    refine y_if_ne (tgt := 32) hC dX8_isWatched_10 (by decide) (fun c10 => ?_) (fun c10 => absurd c10 (by decide))
    refine y_iconst (v := 0) hC dX8_isWatched_32 (by decide) ?_
    exact y_iret hC hr rfl (Nat.zero_le _) (Nat.zero_le _) dX8_isWatched_33 (by first | exact yMo.mk (mI_f hx) rfl up2_up2 | exact yMo.mk ((mI_t hx).trans (congrArg (Prod.mk 0) (b2i_t c25))) rfl rfl | exact yMo.mk ((mI_t hx).trans (congrArg (Prod.mk 0) (b2i_f (fun q => q c25)))) rfl rfl)
set_option maxRecDepth 100000 in
set_option maxHeartbeats 4000000 in
theorem c_X8_exposure (l : Launch) (D : yD) (z : Nat) {n : Nat} {sh : yS} {I : yI} {L : yL} {q : Nat} {M : yI} (hQ : yMod sh q) {nd : Nat} (hnd : M 2 4 = nI nd) (nd20 : nd ≤ 20) {nm : Nat} (hnm9 : M 2 1 = nI nm) (nm4 : nm ≤ 4) {x : Int32} {mr : Nat} (hmr : vp_in x nm → x = nI mr ∧ mr < nm) {cd : List Int32} (hV : dV (M 2) nd cd) : yM l D z yX8_exposure cX8_exposure 4 (some .int) 3 0 0 [.ref q, .int x] n sh (sR 15 I q M) L (yMo (mI nm x (0, sm (fun k => if mD (M 2) k = mr ∧ M 2 (164 + 8 * k + 5) < 4 then M 2 (164 + 8 * k + 2) else 0) nd)) n sh I q M L) (yno) := by
  refine yM_of (by decide) (Nat.le_of_ble_eq_true rfl) rfl ?_
  intro X hC hr hnm hRc hRs htb
  have hC : yC X D z cX8_exposure RX8 4 3 := hC
  refine y_aload_n hC dX8_exposure_0 rfl ?_
  refine y_iconst (v := 0) hC dX8_exposure_1 (by decide) ?_
  refine y_putIR (w9 := 15) hC (by decide) (yM_o hQ) f_X8_39 rfl (Or.inl rfl) dX8_exposure_2 ?_
  refine y_aload_n hC dX8_exposure_5 rfl ?_
  refine y_iload_n hC dX8_exposure_6 rfl ?_
  by_cases hx : vp_in x nm
  · obtain ⟨rfl, mrl⟩ := hmr hx
    refine y_callV1 hC (c_X8_noMerchant0 X.2.1 D z hQ up2_at ((congrFun (show up2 M 0 0 0 2 = M 2 from up2_r (by decide)) 1).trans hnm9) (by omega) hx) m_X8_230 rfl (yM_o hQ) (by decide) (Nat.le_of_ble_eq_true rfl) (Nat.zero_le _) (Nat.zero_le _) dX8_exposure_7 ?_
    refine y_if_eq (tgt := 15) hC dX8_exposure_10 (by decide) (fun c10 => ?_) (fun c10 => absurd rfl c10)
    refine y_iconst (v := 0) hC dX8_exposure_15 (by decide) ?_
    refine y_istore_n hC dX8_exposure_16 (by decide) rfl ?_
    refine y_iconst (v := nI 0) hC dX8_exposure_17 (by decide) ?_
    refine y_istore_n hC dX8_exposure_18 (by decide) rfl ?_
    have lp19 : ∀ (f9 j : Nat) (s : Int32), j + f9 = nd → s = sm (fun k => if mD (M 2) k = mr ∧ M 2 (164 + 8 * k + 5) < 4 then M 2 (164 + 8 * k + 2) else 0) j → Y X D z 4 n sh (sR 15 I q (up2 M 0 0 0)) L 0 0 (yEnd X D z (yMo (mI nm (nI mr) (0, sm (fun k => if mD (M 2) k = mr ∧ M 2 (164 + 8 * k + 5) < 4 then M 2 (164 + 8 * k + 2) else 0) nd)) n sh I q M L) (yno) 0 0) 19 [some (.ref q), some (.int (nI mr)), some (.int s), some (.int (nI j))] [] := by
      intro f9
      induction f9 with
      | zero =>
        intro j s hm hi
        refine y_iload_n hC dX8_exposure_19 rfl ?_
        refine y_aload_n hC dX8_exposure_20 rfl ?_
        refine y_getR hC (yM_o hQ) (yM_r8 hQ) f_X8_17 rfl dX8_exposure_21 ?_
        refine y_iconst (v := nI 4) hC dX8_exposure_24 (by decide) ?_
        refine y_ialdRN (w9 := 15) hC (by decide) (yM_a8 hQ) (by decide) dX8_exposure_25 ?_
        rw [show up2 M 0 0 0 2 4 = nI nd from hnd]
        refine y_icmp_ge (tgt := 79) hC dX8_exposure_26 (by decide) (fun c26 => ?_) (fun c26 => absurd (nI_le (by omega) (by omega)) c26)
        refine y_iload_n hC dX8_exposure_79 rfl ?_
        exact y_iret hC hr rfl (Nat.zero_le _) (Nat.zero_le _) dX8_exposure_80 (yMo.mk (t := 0) (r := s) ((mI_t hx).trans (congrArg (Prod.mk 0) (by rw [hi, show j = nd by omega]))) rfl rfl)
      | succ f9 ih =>
        intro j s hm hi
        refine y_iload_n hC dX8_exposure_19 rfl ?_
        refine y_aload_n hC dX8_exposure_20 rfl ?_
        refine y_getR hC (yM_o hQ) (yM_r8 hQ) f_X8_17 rfl dX8_exposure_21 ?_
        refine y_iconst (v := nI 4) hC dX8_exposure_24 (by decide) ?_
        refine y_ialdRN (w9 := 15) hC (by decide) (yM_a8 hQ) (by decide) dX8_exposure_25 ?_
        rw [show up2 M 0 0 0 2 4 = nI nd from hnd]
        refine y_icmp_ge (tgt := 79) hC dX8_exposure_26 (by decide) (fun c26 => absurd c26 (nI_ge (by omega) (by omega))) (fun c26 => ?_)
        refine y_iload_n hC dX8_exposure_29 rfl ?_
        refine y_aload_n hC dX8_exposure_30 rfl ?_
        refine y_getR hC (yM_o hQ) (yM_r8 hQ) f_X8_17 rfl dX8_exposure_31 ?_
        refine y_iload_n hC dX8_exposure_34 rfl ?_
        refine y_callS1 hC (c_isFinal_at X.2.1 D z (M := up2 M 0 0 0) hQ (k := j) (by omega)) m_X8_215 rfl (by decide) (Nat.le_of_ble_eq_true rfl) (Nat.zero_le _) (Nat.zero_le _) dX8_exposure_35 ?_
        refine y_if_neB (tgt := 70) hC dX8_exposure_38 (by decide) (fun c38 => ?_) (fun c38 => ?_)
        · refine y_iconst (v := 0) hC dX8_exposure_70 (by decide) ?_
          refine y_iadd hC dX8_exposure_71 ?_
          refine y_istore_n hC dX8_exposure_72 (by decide) rfl ?_
          refine y_iincN hC dX8_exposure_73 rfl rfl (by decide) rfl ?_
          refine y_goto (tgt := 19) hC dX8_exposure_76 (by decide) ?_
          have k53 : mD (M 2) j = mr ↔ nI (16 + mD (M 2) j) = nI (16 + mr) := ⟨fun q => by rw [q], fun q => by have := nI_eq2 q (by have := (hV.2.2.1 j (by omega)).1.2.2.2.2.2.2.1; omega) (by omega); omega⟩
          first | exact ih (j + 1) _ (by omega) (sm_t0 hi ⟨k53.mpr c53, Decidable.not_not.mp c38⟩) | exact ih (j + 1) _ (by omega) (sm_f0 hi (fun q => c53 (k53.mp q.1))) | exact ih (j + 1) _ (by omega) (sm_f0 hi (fun q => c38 q.2))
        · refine y_aload_n hC dX8_exposure_41 rfl ?_
          refine y_getR hC (yM_o hQ) (yM_r8 hQ) f_X8_17 rfl dX8_exposure_42 ?_
          refine y_iload_n hC dX8_exposure_45 rfl ?_
          refine y_callS1 hC (c_merchantOf_at X.2.1 D z (M := up2 M 0 0 0) hQ (hV.2.2.1 _ (by omega)).1) m_X8_201 rfl (by decide) (Nat.le_of_ble_eq_true rfl) (Nat.zero_le _) (Nat.zero_le _) dX8_exposure_46 ?_
          refine y_bipush (v := nI 16) hC dX8_exposure_49 (by decide) ?_
          refine y_iload_n hC dX8_exposure_51 rfl ?_
          refine y_iaddN hC dX8_exposure_52 ?_
          refine y_icmp_ne (tgt := 70) hC dX8_exposure_53 (by decide) (fun c53 => ?_) (fun c53 => ?_)
          · refine y_iconst (v := 0) hC dX8_exposure_70 (by decide) ?_
            refine y_iadd hC dX8_exposure_71 ?_
            refine y_istore_n hC dX8_exposure_72 (by decide) rfl ?_
            refine y_iincN hC dX8_exposure_73 rfl rfl (by decide) rfl ?_
            refine y_goto (tgt := 19) hC dX8_exposure_76 (by decide) ?_
            have k53 : mD (M 2) j = mr ↔ nI (16 + mD (M 2) j) = nI (16 + mr) := ⟨fun q => by rw [q], fun q => by have := nI_eq2 q (by have := (hV.2.2.1 j (by omega)).1.2.2.2.2.2.2.1; omega) (by omega); omega⟩
            first | exact ih (j + 1) _ (by omega) (sm_t0 hi ⟨k53.mpr c53, Decidable.not_not.mp c38⟩) | exact ih (j + 1) _ (by omega) (sm_f0 hi (fun q => c53 (k53.mp q.1))) | exact ih (j + 1) _ (by omega) (sm_f0 hi (fun q => c38 q.2))
          · refine y_aload_n hC dX8_exposure_56 rfl ?_
            refine y_getR hC (yM_o hQ) (yM_r8 hQ) f_X8_17 rfl dX8_exposure_57 ?_
            refine y_iload_n hC dX8_exposure_60 rfl ?_
            refine y_callS1 hC (c_X8_dispute X.2.1 D z (j := j) rfl) m_X8_180 rfl (by decide) (Nat.le_of_ble_eq_true rfl) (Nat.zero_le _) (Nat.zero_le _) dX8_exposure_61 ?_
            refine y_iconst (v := nI 2) hC dX8_exposure_64 (by decide) ?_
            refine y_iaddN hC dX8_exposure_65 ?_
            refine y_ialdRN (w9 := 15) hC (by decide) (yM_a8 hQ) (by omega) dX8_exposure_66 ?_
            refine y_goto (tgt := 71) hC dX8_exposure_67 (by decide) ?_
            refine y_iadd hC dX8_exposure_71 ?_
            refine y_istore_n hC dX8_exposure_72 (by decide) rfl ?_
            refine y_iincN hC dX8_exposure_73 rfl rfl (by decide) rfl ?_
            refine y_goto (tgt := 19) hC dX8_exposure_76 (by decide) ?_
            have k53 : mD (M 2) j = mr ↔ nI (16 + mD (M 2) j) = nI (16 + mr) := ⟨fun q => by rw [q], fun q => by have := nI_eq2 q (by have := (hV.2.2.1 j (by omega)).1.2.2.2.2.2.2.1; omega) (by omega); omega⟩
            first | exact ih (j + 1) _ (by omega) (sm_t0 hi ⟨k53.mpr c53, Decidable.not_not.mp c38⟩) | exact ih (j + 1) _ (by omega) (sm_f0 hi (fun q => c53 (k53.mp q.1))) | exact ih (j + 1) _ (by omega) (sm_f0 hi (fun q => c38 q.2))
    exact lp19 nd 0 _ (Nat.zero_add _) rfl
  · refine y_callV1 hC (c_X8_noMerchant1 X.2.1 D z hQ up2_at ((congrFun (show up2 M 0 0 0 2 = M 2 from up2_r (by decide)) 1).trans hnm9) (by omega) hx) m_X8_230 rfl (yM_o hQ) (by decide) (Nat.le_of_ble_eq_true rfl) (Nat.zero_le _) (Nat.zero_le _) dX8_exposure_7 ?_
    refine y_if_eq (tgt := 15) hC dX8_exposure_10 (by decide) (fun c10 => absurd c10 (by decide)) (fun c10 => ?_)
    refine y_iconst (v := 0) hC dX8_exposure_13 (by decide) ?_
    exact y_iret hC hr rfl (Nat.zero_le _) (Nat.zero_le _) dX8_exposure_14 (yMo.mk (mI_f hx) rfl up2_up2)
