theorem pdS_F {d : Nat → Int32} {nd : Nat} {cd : List Int32} (hV : dV d nd cd) : ∀ k, k ≤ nd → dF d (pdS d cd k).1
  | 0, _ => dF.upd (by unfold frz; omega)
  | k + 1, hk => by
    have ih := pdS_F hV k (by omega)
    have n20 := hV.1
    unfold pdS
    split
    · have v := ((hV.fz ih).2.2.1 k (by omega)).1
      exact ih.trans (endF (by omega) v.2.2.2.2.1 v.2.2.2.2.2.2.1)
    · exact ih
def pmS (d : Nat → Int32) (cd : List Int32) (nd : Nat) : Nat → (Nat → Int32) × Int32
  | 0 => (d, 0)
  | t + 1 => ((pdS (pmS d cd nd t).1 cd nd).1, (pmS d cd nd t).2 + (pdS (pmS d cd nd t).1 cd nd).2)
theorem pmS_s {d C : Nat → Int32} {cd : List Int32} {nd j : Nat} {s : Int32} (hi : (C, s) = pmS d cd nd j) : ((pdS C cd nd).1, s + (pdS C cd nd).2) = pmS d cd nd (j + 1) := by
  show _ = ((pdS (pmS d cd nd j).1 cd nd).1, (pmS d cd nd j).2 + (pdS (pmS d cd nd j).1 cd nd).2)
  rw [← hi]
theorem c_passDay_row (l : Launch) (D : yD) (z : Nat) {n : Nat} {sh : yS} {I : yI} {L : yL} {q : Nat} {M : yI} (hQ : yMod sh q) {r9 : Nat} (h15 : r9 < 15) (ha : yArr sh (q + r9) 10 1824) {nd : Nat} {cd : List Int32} {C : Nat → Int32} (hV : dV C nd cd) (S : Nat → Int64) : yM l D z yX8_passDay cX8_passDay 6 (some .int) 4 0 0 [.ref q, .ref (q + r9)] n sh (sR 15 I q (va_up M r9 C)) (va_up L (q + 14) S) (yFl (some (.int (pdS C cd nd).2)) n sh (sR 15 I q (va_up M r9 (pdS C cd nd).1)) q (va_up L (q + 14) S)) yno := by
  have h := c_X8_passDay l D z (n := n) (I := sR 15 I q M) (L := L) (a := q + r9) (d := C) hQ ha hV (S0 := S)
  rw [sR_row h15, sR_row h15] at h
  exact h
theorem c_isAnyOpen_row (l : Launch) (D : yD) (z : Nat) {n : Nat} {sh : yS} {I : yI} {L : yL} {q : Nat} {M : yI} (hQ : yMod sh q) {r9 : Nat} (h15 : r9 < 15) (ha : yArr sh (q + r9) 10 1824) {nd : Nat} {C : Nat → Int32} (hnd : C 4 = nI nd) (n20 : nd ≤ 20) : yM l D z yX8_isAnyOpen cX8_isAnyOpen 3 (some .boolean) 2 0 0 [.ref q, .ref (q + r9)] n sh (sR 15 I q (va_up M r9 C)) L (fun v n2 sh2 I2 L2 => ((v = some (.int 1) ∧ ∃ k, k < nd ∧ C (164 + 8 * k + 5) < 4) ∨ (v = some (.int 0) ∧ ∀ k, k < nd → ¬ C (164 + 8 * k + 5) < 4)) ∧ n2 = n ∧ sh2 = sh ∧ I2 = sR 15 I q (va_up M r9 C) ∧ L2 = L) yno := by
  have h := c_X8_isAnyOpen l D z (n := n) (I := sR 15 I q M) (L := L) (q := q) (a := q + r9) (d := C) ha hnd n20
  rw [sR_row h15] at h
  exact h
set_option maxRecDepth 100000 in
set_option maxHeartbeats 4000000 in
theorem c_X8_pass (l : Launch) (D : yD) (z : Nat) {n : Nat} {sh : yS} {I : yI} {L : yL} {q : Nat} {M : yI} (hQ : yMod sh q) {u : Nat} (hu : M 0 12 = nI u) (hu8 : u ≤ 8) {nd : Nat} {cd : List Int32} (hV : dV (M 2) nd cd) {x : Int32} {dy : Nat} (hdy : (¬ x < 1 ∧ x ≤ 100) → x = nI dy ∧ dy ≤ 100) : yM l D z yX8_pass cX8_pass 4 (some .int) 6 0 0 [.ref q, .int x] n sh (sR 15 I q M) L (yMw (mA 1 (¬ x < 1 ∧ x ≤ 100) (mA 2 (M 2 5 + x ≤ 9999) (0, (pmS (M 2) cd nd dy).2))) ((pmS (M 2) cd nd dy).1) n sh I q M u L) (yno) := by
  refine yM_of (by decide) (Nat.le_of_ble_eq_true rfl) rfl ?_
  intro X hC hr hnm hRc hRs htb
  have hC : yC X D z cX8_pass RX8 4 6 := hC
  refine y_aload_n hC dX8_pass_0 rfl ?_
  refine y_iconst (v := 0) hC dX8_pass_1 (by decide) ?_
  refine y_putIR (w9 := 15) hC (by decide) (yM_o hQ) f_X8_39 rfl (Or.inl rfl) dX8_pass_2 ?_
  refine y_toS q ?_
  refine y_aload_n hC dX8_pass_5 rfl ?_
  refine y_iload_n hC dX8_pass_6 rfl ?_
  refine y_iconst (v := 1) hC dX8_pass_7 (by decide) ?_
  refine y_bipush (v := 100) hC dX8_pass_8 (by decide) ?_
  refine y_callS1 hC (c_X8_in X.2.1 D z) m_X8_61 rfl (by decide) (Nat.le_of_ble_eq_true rfl) (Nat.zero_le _) (Nat.zero_le _) dX8_pass_10 ?_
  refine y_if_neB (tgt := 20) hC dX8_pass_13 (by decide) (fun c13 => ?_) (fun c13 => ?_)
  · refine y_iconst (v := 0) hC dX8_pass_20 (by decide) ?_
    refine y_iconst (v := 1) hC dX8_pass_21 (by decide) ?_
    refine y_callV1 hC (c_X8_fails0 X.2.1 D z hQ up2_at) m_X8_158 rfl (yM_o hQ) (by decide) (Nat.le_of_ble_eq_true rfl) (Nat.zero_le _) (Nat.zero_le _) dX8_pass_22 ?_
    refine y_if_ne (tgt := 55) hC dX8_pass_25 (by decide) (fun c25 => absurd rfl c25) (fun c25 => ?_)
    obtain ⟨rfl, hdl⟩ := hdy c13
    refine y_aload_n hC dX8_pass_28 rfl ?_
    refine y_aload_n hC dX8_pass_29 rfl ?_
    refine y_getR hC (yM_o hQ) (yM_r8 hQ) f_X8_17 rfl dX8_pass_30 ?_
    refine y_iconst (v := nI 5) hC dX8_pass_33 (by decide) ?_
    refine y_ialdRN (w9 := 15) hC (by decide) (yM_a8 hQ) (by decide) dX8_pass_34 ?_
    refine y_iload_n hC dX8_pass_35 rfl ?_
    refine y_iadd hC dX8_pass_36 ?_
    refine y_sipush (v := 9999) hC dX8_pass_37 (by decide) ?_
    refine y_icmp_le (tgt := 47) hC dX8_pass_40 (by decide) (fun c40 => ?_) (fun c40 => ?_)
    · refine y_iconst (v := 0) hC dX8_pass_47 (by decide) ?_
      refine y_iconst (v := 2) hC dX8_pass_48 (by decide) ?_
      refine y_callV1 hC (c_X8_fails0 X.2.1 D z hQ up2_at) m_X8_158 rfl (yM_o hQ) (by decide) (Nat.le_of_ble_eq_true rfl) (Nat.zero_le _) (Nat.zero_le _) dX8_pass_49 ?_
      refine y_if_eq (tgt := 57) hC dX8_pass_52 (by decide) (fun c52 => ?_) (fun c52 => absurd rfl c52)
      refine y_aload_n hC dX8_pass_57 rfl ?_
      refine y_callRem (I0 := I) (q := q) hC (c_rem_at X.2.1 D z (M := up2 M 0 0 0) hQ hu hu8) m_X8_165 rfl (yM_o hQ) (by decide) (Nat.le_of_ble_eq_true rfl) (Nat.zero_le _) (Nat.zero_le _) dX8_pass_58 (fun Mr hrm => ?_)
      have e2 : Mr 2 = M 2 := hrm.1
      refine y_iconst (v := 0) hC dX8_pass_61 (by decide) ?_
      refine y_istore_n hC dX8_pass_62 (by decide) rfl ?_
      refine y_iconst (v := nI 0) hC dX8_pass_63 (by decide) ?_
      refine y_istore_n hC dX8_pass_64 (by decide) rfl ?_
      have lp65 : ∀ (f9 j : Nat) (C : Nat → Int32) (s : Int32) (S : Nat → Int64), j + f9 = dy → (C, s) = pmS (M 2) cd nd j → dV C nd cd → Y X D z 4 n sh (sR 15 I q (va_up Mr 2 C)) (va_up L (q + 14) S) 0 0 (yEnd X D z (yMw (mA 1 (¬ nI dy < 1 ∧ nI dy ≤ 100) (mA 2 (M 2 5 + nI dy ≤ 9999) (0, (pmS (M 2) cd nd dy).2))) ((pmS (M 2) cd nd dy).1) n sh I q M u L) (yno) 0 0) 65 [some (.ref q), some (.int (nI dy)), some (.int s), some (.int (nI j))] [] := by
        intro f9
        induction f9 with
        | zero =>
          intro j C s S hm hi hVC
          refine y_iload_n hC dX8_pass_65 rfl ?_
          refine y_iload_n hC dX8_pass_66 rfl ?_
          refine y_icmp_ge (tgt := 87) hC dX8_pass_67 (by decide) (fun c67 => ?_) (fun c67 => absurd (nI_le (by omega) (by omega)) c67)
          refine y_iload_n hC dX8_pass_87 rfl ?_
          exact y_iret hC hr rfl (Nat.zero_le _) (Nat.zero_le _) dX8_pass_88 (by obtain rfl : j = dy := (by omega); rw [← hi]; exact yMw.ok ((mA_t c13).trans (mA_t c40)) rfl rfl hrm (fun r9 hr9 => va_up_ne _ _ hr9))
        | succ f9 ih =>
          intro j C s S hm hi hVC
          refine y_iload_n hC dX8_pass_65 rfl ?_
          refine y_iload_n hC dX8_pass_66 rfl ?_
          refine y_icmp_ge (tgt := 87) hC dX8_pass_67 (by decide) (fun c67 => absurd c67 (nI_ge (by omega) (by omega))) (fun c67 => ?_)
          refine y_iload_n hC dX8_pass_70 rfl ?_
          refine y_aload_n hC dX8_pass_71 rfl ?_
          refine y_aload_n hC dX8_pass_72 rfl ?_
          refine y_getR hC (yM_o hQ) (yM_r8 hQ) f_X8_17 rfl dX8_pass_73 ?_
          refine y_callV1l (q := q) hC (fun S => c_passDay_row X.2.1 D z (M := Mr) hQ (r9 := 2) (by decide) (yM_a8 hQ) hVC S) m_X8_252 rfl (yM_o hQ) (by decide) (Nat.le_of_ble_eq_true rfl) (Nat.zero_le _) (Nat.zero_le _) dX8_pass_76 (fun S76 => ?_)
          refine y_iadd hC dX8_pass_79 ?_
          refine y_istore_n hC dX8_pass_80 (by decide) rfl ?_
          refine y_iincN hC dX8_pass_81 rfl rfl (by decide) rfl ?_
          refine y_goto (tgt := 65) hC dX8_pass_84 (by decide) ?_
          exact ih (j + 1) _ _ _ (by omega) (pmS_s hi) (hVC.fz (pdS_F hVC nd (Nat.le_refl _)))
      have h0 := lp65 dy 0 (Mr 2) 0 (L (q + 14)) (Nat.zero_add _) (by rw [e2]; rfl) (by rw [e2]; exact hV)
      rw [va_up_id] at h0
      exact h0
    · refine y_iconst (v := 1) hC dX8_pass_43 (by decide) ?_
      refine y_goto (tgt := 48) hC dX8_pass_44 (by decide) ?_
      refine y_iconst (v := 2) hC dX8_pass_48 (by decide) ?_
      refine y_callV1 hC (c_X8_fails1 X.2.1 D z hQ up2_at (by decide)) m_X8_158 rfl (yM_o hQ) (by decide) (Nat.le_of_ble_eq_true rfl) (Nat.zero_le _) (Nat.zero_le _) dX8_pass_49 ?_
      refine y_if_eq (tgt := 57) hC dX8_pass_52 (by decide) (fun c52 => absurd c52 (by decide)) (fun c52 => ?_)
      refine y_iconst (v := 0) hC dX8_pass_55 (by decide) ?_
      exact y_iret hC hr rfl (Nat.zero_le _) (Nat.zero_le _) dX8_pass_56 (by first | exact yMw.no (mA_f c13) (by decide) rfl up2_up2 | exact yMw.no ((mA_t c13).trans (mA_f c40)) (by decide) rfl up2_up2)
  · refine y_iconst (v := 1) hC dX8_pass_16 (by decide) ?_
    refine y_goto (tgt := 21) hC dX8_pass_17 (by decide) ?_
    refine y_iconst (v := 1) hC dX8_pass_21 (by decide) ?_
    refine y_callV1 hC (c_X8_fails1 X.2.1 D z hQ up2_at (by decide)) m_X8_158 rfl (yM_o hQ) (by decide) (Nat.le_of_ble_eq_true rfl) (Nat.zero_le _) (Nat.zero_le _) dX8_pass_22 ?_
    refine y_if_ne (tgt := 55) hC dX8_pass_25 (by decide) (fun c25 => ?_) (fun c25 => absurd c25 (by decide))
    refine y_iconst (v := 0) hC dX8_pass_55 (by decide) ?_
    exact y_iret hC hr rfl (Nat.zero_le _) (Nat.zero_le _) dX8_pass_56 (by first | exact yMw.no (mA_f c13) (by decide) rfl up2_up2 | exact yMw.no ((mA_t c13).trans (mA_f c40)) (by decide) rfl up2_up2)
set_option maxRecDepth 100000 in
set_option maxHeartbeats 4000000 in
theorem c_X8_undo (l : Launch) (D : yD) (z : Nat) {n : Nat} {sh : yS} {I : yI} {L : yL} {q : Nat} {M : yI} (hQ : yMod sh q) {u : Nat} (hu : M 0 12 = nI u) (hu8 : u ≤ 8) : yM l D z yX8_undo cX8_undo 1 (some .int) 1 0 0 [.ref q] n sh (sR 15 I q M) L (fun v n2 sh2 I2 L2 => n2 = n ∧ sh2 = sh ∧ L2 = L ∧ ((u = 0 ∧ v = some (.int (-1)) ∧ I2 = sR 15 I q (up2 M 0 0 0)) ∨ (u ≠ 0 ∧ v = some (.int (nI (u - 1))) ∧ I2 = sR 15 I q (va_up (up2 (up2 M 0 0 0) 0 12 (nI (u - 1))) 2 (cpyD (M (6 + (u - 1))) (M 2) 1824))))) (yno) := by
  refine yM_of (by decide) (Nat.le_of_ble_eq_true rfl) rfl ?_
  intro X hC hr hnm hRc hRs htb
  have hC : yC X D z cX8_undo RX8 1 1 := hC
  refine y_aload_n hC dX8_undo_0 rfl ?_
  refine y_iconst (v := 0) hC dX8_undo_1 (by decide) ?_
  refine y_putIR (w9 := 15) hC (by decide) (yM_o hQ) f_X8_39 rfl (Or.inl rfl) dX8_undo_2 ?_
  refine y_aload_n hC dX8_undo_5 rfl ?_
  refine y_getIR (w9 := 15) hC (by decide) (yM_o hQ) f_X8_256 rfl dX8_undo_6 ?_
  rw [show up2 M 0 0 0 0 12 = nI u from hu]
  refine y_if_ne (tgt := 14) hC dX8_undo_9 (by decide) (fun c9 => ?_) (fun c9 => ?_)
  · have hu0 : u ≠ 0 := fun q => c9 (by rw [q]; rfl)
    refine y_aload_n hC dX8_undo_14 rfl ?_
    refine y_dup hC dX8_undo_15 rfl ?_
    refine y_getIR (w9 := 15) hC (by decide) (yM_o hQ) f_X8_256 rfl dX8_undo_16 ?_
    rw [show up2 M 0 0 0 0 12 = nI u from hu]
    refine y_iconst (v := nI 1) hC dX8_undo_19 (by decide) ?_
    refine y_isub hC dX8_undo_20 ?_
    rw [pk_sub (by omega)]
    refine y_putIR (w9 := 15) hC (by decide) (yM_o hQ) f_X8_256 rfl (Or.inl rfl) dX8_undo_21 ?_
    refine y_aload_n hC dX8_undo_24 rfl ?_
    refine y_getR hC (yM_o hQ) (yM_r11 hQ) f_X8_28 rfl dX8_undo_25 ?_
    refine y_aload_n hC dX8_undo_28 rfl ?_
    refine y_getIR (w9 := 15) hC (by decide) (yM_o hQ) f_X8_256 rfl dX8_undo_29 ?_
    rw [show up2 (up2 M 0 0 0) 0 12 (nI (u - 1)) 0 12 = nI (u - 1) from up2_at]
    refine y_aald13 (b := q + (6 + (u - 1))) hC (yM_a11 hQ) (vp_in_nI (by omega) (by decide)) (by rw [nI_clamp (by omega), yM_e11 hQ _ (by omega), Nat.add_assoc]) dX8_undo_32 ?_
    refine y_aload_n hC dX8_undo_33 rfl ?_
    refine y_getR hC (yM_o hQ) (yM_r8 hQ) f_X8_17 rfl dX8_undo_34 ?_
    refine y_callS0 hC (c_copy_at X.2.1 D z (M := up2 (up2 M 0 0 0) 0 12 (nI (u - 1))) hQ (a := 6 + (u - 1)) (b := 2) (yM_row hQ (by omega)) (yM_a8 hQ) (by omega) (by omega) (by decide)) m_X8_168 rfl (by decide) (Nat.le_of_ble_eq_true rfl) (Nat.zero_le _) (Nat.zero_le _) dX8_undo_37 ?_
    refine y_aload_n hC dX8_undo_40 rfl ?_
    refine y_getIR (w9 := 15) hC (by decide) (yM_o hQ) f_X8_256 rfl dX8_undo_41 ?_
    rw [show va_up (up2 (up2 M 0 0 0) 0 12 (nI (u - 1))) 2 (cpyD ((up2 (up2 M 0 0 0) 0 12 (nI (u - 1))) (6 + (u - 1))) ((up2 (up2 M 0 0 0) 0 12 (nI (u - 1))) 2) 1824) 0 12 = nI (u - 1) from (congrFun (va_up_ne _ _ (by decide)) 12).trans up2_at]
    exact y_iret hC hr rfl (Nat.zero_le _) (Nat.zero_le _) dX8_undo_44 ⟨rfl, rfl, rfl, Or.inr ⟨hu0, rfl, by rw [show (up2 (up2 M 0 0 0) 0 12 (nI (u - 1))) (6 + (u - 1)) = M (6 + (u - 1)) from (up2_r (by omega)).trans (up2_r (by omega)), show (up2 (up2 M 0 0 0) 0 12 (nI (u - 1))) 2 = M 2 from rfl]⟩⟩
  · refine y_iconst (v := (-1)) hC dX8_undo_12 (by decide) ?_
    exact y_iret hC hr rfl (Nat.zero_le _) (Nat.zero_le _) dX8_undo_13 ⟨rfl, rfl, rfl, Or.inl ⟨nI_eq2 (b := 0) c9, rfl, rfl⟩⟩
def ckM (d : Nat → Int32) (ni nm np nd : Nat) : Int64 := (lsm (fun s j => 31 * (31 * (31 * s + (d (164 + 8 * j + 5)).toInt64) + (d (164 + 8 * j + 6)).toInt64) + (d (164 + 8 * j + 4)).toInt64) (lsm (fun s p => 31 * s + (sm (fun k => if d (164 + 8 * k) = nI p ∧ ¬ d (164 + 8 * k + 5) = 5 then d (164 + 8 * k + 2) else 0) nd).toInt64) (31 * lsm (fun s j => 31 * s + (d (16 + j)).toInt64) (lsm (fun s j => 31 * s + (d (12 + j)).toInt64) (d 5).toInt64 ni) nm + (d 11).toInt64) np) nd)
set_option maxRecDepth 100000 in
set_option maxHeartbeats 4000000 in
theorem c_X8_checksum (l : Launch) (D : yD) (z : Nat) {n : Nat} {sh : yS} {I : yI} {L : yL} {q : Nat} {M : yI} (hQ : yMod sh q) {ni : Nat} (hni : M 2 0 = nI ni) (ni4 : ni ≤ 4) {nm : Nat} (hnm9 : M 2 1 = nI nm) (nm4 : nm ≤ 4) {np : Nat} (hnp : M 2 3 = nI np) (np24 : np ≤ 24) {nd : Nat} (hnd : M 2 4 = nI nd) (nd20 : nd ≤ 20) : yM l D z yX8_checksum cX8_checksum 4 (some .long) 2 0 0 [.ref q] n sh (sR 15 I q M) L (yF (some (.long (ckM (M 2) ni nm np nd))) n sh (sR 15 I q (up2 M 0 0 0)) L) (yno) := by
  refine yM_of (by decide) (Nat.le_of_ble_eq_true rfl) rfl ?_
  intro X hC hr hnm hRc hRs htb
  have hC : yC X D z cX8_checksum RX8 4 2 := hC
  refine y_aload_n hC dX8_checksum_0 rfl ?_
  refine y_iconst (v := 0) hC dX8_checksum_1 (by decide) ?_
  refine y_putIR (w9 := 15) hC (by decide) (yM_o hQ) f_X8_39 rfl (Or.inl rfl) dX8_checksum_2 ?_
  refine y_aload_n hC dX8_checksum_5 rfl ?_
  refine y_getR hC (yM_o hQ) (yM_r8 hQ) f_X8_17 rfl dX8_checksum_6 ?_
  refine y_iconst (v := nI 5) hC dX8_checksum_9 (by decide) ?_
  refine y_ialdRN (w9 := 15) hC (by decide) (yM_a8 hQ) (by decide) dX8_checksum_10 ?_
  refine y_i2l hC dX8_checksum_11 ?_
  refine y_lstore_n hC dX8_checksum_12 (by decide) rfl ?_
  refine y_iconst (v := 0) hC dX8_checksum_13 (by decide) ?_
  refine y_istore_n hC dX8_checksum_14 (by decide) rfl ?_
  have lp15 : ∀ (f9 j : Nat) (s15 : Int64), j + f9 = ni → s15 = lsm (fun s j => 31 * s + (M 2 (12 + j)).toInt64) (M 2 5).toInt64 j → Y X D z 4 n sh (sR 15 I q (up2 M 0 0 0)) L 0 0 (yEnd X D z (yF (some (.long (ckM (M 2) ni nm np nd))) n sh (sR 15 I q (up2 M 0 0 0)) L) (yno) 0 0) 15 [some (.ref q), some (.long s15), none, some (.int (nI j))] [] := by
    intro f9
    induction f9 with
    | zero =>
      intro j s15 hm1 hi1
      refine y_iload_n hC dX8_checksum_15 rfl ?_
      refine y_aload_n hC dX8_checksum_16 rfl ?_
      refine y_getR hC (yM_o hQ) (yM_r8 hQ) f_X8_17 rfl dX8_checksum_17 ?_
      refine y_iconst (v := nI 0) hC dX8_checksum_20 (by decide) ?_
      refine y_ialdRN (w9 := 15) hC (by decide) (yM_a8 hQ) (by decide) dX8_checksum_21 ?_
      rw [show up2 M 0 0 0 2 0 = nI ni from hni]
      refine y_icmp_ge (tgt := 48) hC dX8_checksum_22 (by decide) (fun c22 => ?_) (fun c22 => absurd (nI_le (by omega) (by omega)) c22)
      refine y_iconst (v := 0) hC dX8_checksum_48 (by decide) ?_
      refine y_istore_n hC dX8_checksum_49 (by decide) rfl ?_
      have lp50 : ∀ (f9 j2 : Nat) (s50 : Int64), j2 + f9 = nm → s50 = lsm (fun s j => 31 * s + (M 2 (16 + j)).toInt64) (lsm (fun s j => 31 * s + (M 2 (12 + j)).toInt64) (M 2 5).toInt64 ni) j2 → Y X D z 4 n sh (sR 15 I q (up2 M 0 0 0)) L 0 0 (yEnd X D z (yF (some (.long (ckM (M 2) ni nm np nd))) n sh (sR 15 I q (up2 M 0 0 0)) L) (yno) 0 0) 50 [some (.ref q), some (.long s50), none, some (.int (nI j2))] [] := by
        intro f9
        induction f9 with
        | zero =>
          intro j2 s50 hm2 hi2
          refine y_iload_n hC dX8_checksum_50 rfl ?_
          refine y_aload_n hC dX8_checksum_51 rfl ?_
          refine y_getR hC (yM_o hQ) (yM_r8 hQ) f_X8_17 rfl dX8_checksum_52 ?_
          refine y_iconst (v := nI 1) hC dX8_checksum_55 (by decide) ?_
          refine y_ialdRN (w9 := 15) hC (by decide) (yM_a8 hQ) (by decide) dX8_checksum_56 ?_
          rw [show up2 M 0 0 0 2 1 = nI nm from hnm9]
          refine y_icmp_ge (tgt := 83) hC dX8_checksum_57 (by decide) (fun c57 => ?_) (fun c57 => absurd (nI_le (by omega) (by omega)) c57)
          refine y_ldc2 hC k_X8_264 dX8_checksum_83 ?_
          refine y_lload_n hC dX8_checksum_86 rfl ?_
          refine y_lmul hC dX8_checksum_87 ?_
          refine y_aload_n hC dX8_checksum_88 rfl ?_
          refine y_getR hC (yM_o hQ) (yM_r8 hQ) f_X8_17 rfl dX8_checksum_89 ?_
          refine y_bipush (v := nI 11) hC dX8_checksum_92 (by decide) ?_
          refine y_ialdRN (w9 := 15) hC (by decide) (yM_a8 hQ) (by decide) dX8_checksum_94 ?_
          refine y_i2l hC dX8_checksum_95 ?_
          refine y_ladd hC dX8_checksum_96 ?_
          refine y_lstore_n hC dX8_checksum_97 (by decide) rfl ?_
          refine y_iconst (v := 0) hC dX8_checksum_98 (by decide) ?_
          refine y_istore_n hC dX8_checksum_99 (by decide) rfl ?_
          have lp100 : ∀ (f9 j3 : Nat) (s100 : Int64), j3 + f9 = np → s100 = lsm (fun s p => 31 * s + (sm (fun k => if M 2 (164 + 8 * k) = nI p ∧ ¬ M 2 (164 + 8 * k + 5) = 5 then M 2 (164 + 8 * k + 2) else 0) nd).toInt64) (31 * lsm (fun s j => 31 * s + (M 2 (16 + j)).toInt64) (lsm (fun s j => 31 * s + (M 2 (12 + j)).toInt64) (M 2 5).toInt64 ni) nm + (M 2 11).toInt64) j3 → Y X D z 4 n sh (sR 15 I q (up2 M 0 0 0)) L 0 0 (yEnd X D z (yF (some (.long (ckM (M 2) ni nm np nd))) n sh (sR 15 I q (up2 M 0 0 0)) L) (yno) 0 0) 100 [some (.ref q), some (.long s100), none, some (.int (nI j3))] [] := by
            intro f9
            induction f9 with
            | zero =>
              intro j3 s100 hm3 hi3
              refine y_iload_n hC dX8_checksum_100 rfl ?_
              refine y_aload_n hC dX8_checksum_101 rfl ?_
              refine y_getR hC (yM_o hQ) (yM_r8 hQ) f_X8_17 rfl dX8_checksum_102 ?_
              refine y_iconst (v := nI 3) hC dX8_checksum_105 (by decide) ?_
              refine y_ialdRN (w9 := 15) hC (by decide) (yM_a8 hQ) (by decide) dX8_checksum_106 ?_
              rw [show up2 M 0 0 0 2 3 = nI np from hnp]
              refine y_icmp_ge (tgt := 129) hC dX8_checksum_107 (by decide) (fun c107 => ?_) (fun c107 => absurd (nI_le (by omega) (by omega)) c107)
              refine y_iconst (v := 0) hC dX8_checksum_129 (by decide) ?_
              refine y_istore_n hC dX8_checksum_130 (by decide) rfl ?_
              have lp131 : ∀ (f9 j4 : Nat) (s131 : Int64), j4 + f9 = nd → s131 = lsm (fun s j => 31 * (31 * (31 * s + (M 2 (164 + 8 * j + 5)).toInt64) + (M 2 (164 + 8 * j + 6)).toInt64) + (M 2 (164 + 8 * j + 4)).toInt64) (lsm (fun s p => 31 * s + (sm (fun k => if M 2 (164 + 8 * k) = nI p ∧ ¬ M 2 (164 + 8 * k + 5) = 5 then M 2 (164 + 8 * k + 2) else 0) nd).toInt64) (31 * lsm (fun s j => 31 * s + (M 2 (16 + j)).toInt64) (lsm (fun s j => 31 * s + (M 2 (12 + j)).toInt64) (M 2 5).toInt64 ni) nm + (M 2 11).toInt64) np) j4 → Y X D z 4 n sh (sR 15 I q (up2 M 0 0 0)) L 0 0 (yEnd X D z (yF (some (.long (ckM (M 2) ni nm np nd))) n sh (sR 15 I q (up2 M 0 0 0)) L) (yno) 0 0) 131 [some (.ref q), some (.long s131), none, some (.int (nI j4))] [] := by
                intro f9
                induction f9 with
                | zero =>
                  intro j4 s131 hm4 hi4
                  refine y_iload_n hC dX8_checksum_131 rfl ?_
                  refine y_aload_n hC dX8_checksum_132 rfl ?_
                  refine y_getR hC (yM_o hQ) (yM_r8 hQ) f_X8_17 rfl dX8_checksum_133 ?_
                  refine y_iconst (v := nI 4) hC dX8_checksum_136 (by decide) ?_
                  refine y_ialdRN (w9 := 15) hC (by decide) (yM_a8 hQ) (by decide) dX8_checksum_137 ?_
                  rw [show up2 M 0 0 0 2 4 = nI nd from hnd]
                  refine y_icmp_ge (tgt := 205) hC dX8_checksum_138 (by decide) (fun c138 => ?_) (fun c138 => absurd (nI_le (by omega) (by omega)) c138)
                  refine y_lload_n hC dX8_checksum_205 rfl ?_
                  exact y_lret hC hr (Nat.zero_le _) (Nat.zero_le _) dX8_checksum_206 (yF.mk (by rw [hi4, show j4 = nd by omega]; rfl))
                | succ f9 ih =>
                  intro j4 s131 hm4 hi4
                  refine y_iload_n hC dX8_checksum_131 rfl ?_
                  refine y_aload_n hC dX8_checksum_132 rfl ?_
                  refine y_getR hC (yM_o hQ) (yM_r8 hQ) f_X8_17 rfl dX8_checksum_133 ?_
                  refine y_iconst (v := nI 4) hC dX8_checksum_136 (by decide) ?_
                  refine y_ialdRN (w9 := 15) hC (by decide) (yM_a8 hQ) (by decide) dX8_checksum_137 ?_
                  rw [show up2 M 0 0 0 2 4 = nI nd from hnd]
                  refine y_icmp_ge (tgt := 205) hC dX8_checksum_138 (by decide) (fun c138 => absurd c138 (nI_ge (by omega) (by omega))) (fun c138 => ?_)
                  refine y_ldc2 hC k_X8_264 dX8_checksum_141 ?_
                  refine y_lload_n hC dX8_checksum_144 rfl ?_
                  refine y_lmul hC dX8_checksum_145 ?_
                  refine y_aload_n hC dX8_checksum_146 rfl ?_
                  refine y_getR hC (yM_o hQ) (yM_r8 hQ) f_X8_17 rfl dX8_checksum_147 ?_
                  refine y_iload_n hC dX8_checksum_150 rfl ?_
                  refine y_callS1 hC (c_X8_dispute X.2.1 D z (j := j4) rfl) m_X8_180 rfl (by decide) (Nat.le_of_ble_eq_true rfl) (Nat.zero_le _) (Nat.zero_le _) dX8_checksum_151 ?_
                  refine y_iconst (v := nI 5) hC dX8_checksum_154 (by decide) ?_
                  refine y_iaddN hC dX8_checksum_155 ?_
                  refine y_ialdRN (w9 := 15) hC (by decide) (yM_a8 hQ) (by omega) dX8_checksum_156 ?_
                  refine y_i2l hC dX8_checksum_157 ?_
                  refine y_ladd hC dX8_checksum_158 ?_
                  refine y_lstore_n hC dX8_checksum_159 (by decide) rfl ?_
                  refine y_ldc2 hC k_X8_264 dX8_checksum_160 ?_
                  refine y_lload_n hC dX8_checksum_163 rfl ?_
                  refine y_lmul hC dX8_checksum_164 ?_
                  refine y_aload_n hC dX8_checksum_165 rfl ?_
                  refine y_getR hC (yM_o hQ) (yM_r8 hQ) f_X8_17 rfl dX8_checksum_166 ?_
                  refine y_iload_n hC dX8_checksum_169 rfl ?_
                  refine y_callS1 hC (c_X8_dispute X.2.1 D z (j := j4) rfl) m_X8_180 rfl (by decide) (Nat.le_of_ble_eq_true rfl) (Nat.zero_le _) (Nat.zero_le _) dX8_checksum_170 ?_
                  refine y_bipush (v := nI 6) hC dX8_checksum_173 (by decide) ?_
                  refine y_iaddN hC dX8_checksum_175 ?_
                  refine y_ialdRN (w9 := 15) hC (by decide) (yM_a8 hQ) (by omega) dX8_checksum_176 ?_
                  refine y_i2l hC dX8_checksum_177 ?_
                  refine y_ladd hC dX8_checksum_178 ?_
                  refine y_lstore_n hC dX8_checksum_179 (by decide) rfl ?_
                  refine y_ldc2 hC k_X8_264 dX8_checksum_180 ?_
                  refine y_lload_n hC dX8_checksum_183 rfl ?_
                  refine y_lmul hC dX8_checksum_184 ?_
                  refine y_aload_n hC dX8_checksum_185 rfl ?_
                  refine y_getR hC (yM_o hQ) (yM_r8 hQ) f_X8_17 rfl dX8_checksum_186 ?_
                  refine y_iload_n hC dX8_checksum_189 rfl ?_
                  refine y_callS1 hC (c_X8_dispute X.2.1 D z (j := j4) rfl) m_X8_180 rfl (by decide) (Nat.le_of_ble_eq_true rfl) (Nat.zero_le _) (Nat.zero_le _) dX8_checksum_190 ?_
                  refine y_iconst (v := nI 4) hC dX8_checksum_193 (by decide) ?_
                  refine y_iaddN hC dX8_checksum_194 ?_
                  refine y_ialdRN (w9 := 15) hC (by decide) (yM_a8 hQ) (by omega) dX8_checksum_195 ?_
                  refine y_i2l hC dX8_checksum_196 ?_
                  refine y_ladd hC dX8_checksum_197 ?_
                  refine y_lstore_n hC dX8_checksum_198 (by decide) rfl ?_
                  refine y_iincN hC dX8_checksum_199 rfl rfl (by decide) rfl ?_
                  refine y_goto (tgt := 131) hC dX8_checksum_202 (by decide) ?_
                  exact ih (j4 + 1) _ (by omega) (by rw [hi4]; rfl)
              exact lp131 nd 0 _ (Nat.zero_add _) (by rw [hi3, show j3 = np by omega]; rfl)
            | succ f9 ih =>
              intro j3 s100 hm3 hi3
              refine y_iload_n hC dX8_checksum_100 rfl ?_
              refine y_aload_n hC dX8_checksum_101 rfl ?_
              refine y_getR hC (yM_o hQ) (yM_r8 hQ) f_X8_17 rfl dX8_checksum_102 ?_
              refine y_iconst (v := nI 3) hC dX8_checksum_105 (by decide) ?_
              refine y_ialdRN (w9 := 15) hC (by decide) (yM_a8 hQ) (by decide) dX8_checksum_106 ?_
              rw [show up2 M 0 0 0 2 3 = nI np from hnp]
              refine y_icmp_ge (tgt := 129) hC dX8_checksum_107 (by decide) (fun c107 => absurd c107 (nI_ge (by omega) (by omega))) (fun c107 => ?_)
              refine y_ldc2 hC k_X8_264 dX8_checksum_110 ?_
              refine y_lload_n hC dX8_checksum_113 rfl ?_
              refine y_lmul hC dX8_checksum_114 ?_
              refine y_aload_n hC dX8_checksum_115 rfl ?_
              refine y_iload_n hC dX8_checksum_116 rfl ?_
              refine y_callV1 hC (c_X8_disputedOf X.2.1 D z (M := up2 M 0 0 0) hQ hnd nd20) m_X8_236 rfl (yM_o hQ) (by decide) (Nat.le_of_ble_eq_true rfl) (Nat.zero_le _) (Nat.zero_le _) dX8_checksum_117 ?_
              refine y_i2l hC dX8_checksum_120 ?_
              refine y_ladd hC dX8_checksum_121 ?_
              refine y_lstore_n hC dX8_checksum_122 (by decide) rfl ?_
              refine y_iincN hC dX8_checksum_123 rfl rfl (by decide) rfl ?_
              refine y_goto (tgt := 100) hC dX8_checksum_126 (by decide) ?_
              exact ih (j3 + 1) _ (by omega) (by rw [hi3]; rfl)
          exact lp100 np 0 _ (Nat.zero_add _) (by rw [hi2, show j2 = nm by omega]; rfl)
        | succ f9 ih =>
          intro j2 s50 hm2 hi2
          refine y_iload_n hC dX8_checksum_50 rfl ?_
          refine y_aload_n hC dX8_checksum_51 rfl ?_
          refine y_getR hC (yM_o hQ) (yM_r8 hQ) f_X8_17 rfl dX8_checksum_52 ?_
          refine y_iconst (v := nI 1) hC dX8_checksum_55 (by decide) ?_
          refine y_ialdRN (w9 := 15) hC (by decide) (yM_a8 hQ) (by decide) dX8_checksum_56 ?_
          rw [show up2 M 0 0 0 2 1 = nI nm from hnm9]
          refine y_icmp_ge (tgt := 83) hC dX8_checksum_57 (by decide) (fun c57 => absurd c57 (nI_ge (by omega) (by omega))) (fun c57 => ?_)
          refine y_ldc2 hC k_X8_264 dX8_checksum_60 ?_
          refine y_lload_n hC dX8_checksum_63 rfl ?_
          refine y_lmul hC dX8_checksum_64 ?_
          refine y_aload_n hC dX8_checksum_65 rfl ?_
          refine y_getR hC (yM_o hQ) (yM_r8 hQ) f_X8_17 rfl dX8_checksum_66 ?_
          refine y_bipush (v := nI 16) hC dX8_checksum_69 (by decide) ?_
          refine y_iload_n hC dX8_checksum_71 rfl ?_
          refine y_iaddN hC dX8_checksum_72 ?_
          refine y_ialdRN (w9 := 15) hC (by decide) (yM_a8 hQ) (by omega) dX8_checksum_73 ?_
          refine y_i2l hC dX8_checksum_74 ?_
          refine y_ladd hC dX8_checksum_75 ?_
          refine y_lstore_n hC dX8_checksum_76 (by decide) rfl ?_
          refine y_iincN hC dX8_checksum_77 rfl rfl (by decide) rfl ?_
          refine y_goto (tgt := 50) hC dX8_checksum_80 (by decide) ?_
          exact ih (j2 + 1) _ (by omega) (by rw [hi2]; rfl)
      exact lp50 nm 0 _ (Nat.zero_add _) (by rw [hi1, show j = ni by omega]; rfl)
    | succ f9 ih =>
      intro j s15 hm1 hi1
      refine y_iload_n hC dX8_checksum_15 rfl ?_
      refine y_aload_n hC dX8_checksum_16 rfl ?_
      refine y_getR hC (yM_o hQ) (yM_r8 hQ) f_X8_17 rfl dX8_checksum_17 ?_
      refine y_iconst (v := nI 0) hC dX8_checksum_20 (by decide) ?_
      refine y_ialdRN (w9 := 15) hC (by decide) (yM_a8 hQ) (by decide) dX8_checksum_21 ?_
      rw [show up2 M 0 0 0 2 0 = nI ni from hni]
      refine y_icmp_ge (tgt := 48) hC dX8_checksum_22 (by decide) (fun c22 => absurd c22 (nI_ge (by omega) (by omega))) (fun c22 => ?_)
      refine y_ldc2 hC k_X8_264 dX8_checksum_25 ?_
      refine y_lload_n hC dX8_checksum_28 rfl ?_
      refine y_lmul hC dX8_checksum_29 ?_
      refine y_aload_n hC dX8_checksum_30 rfl ?_
      refine y_getR hC (yM_o hQ) (yM_r8 hQ) f_X8_17 rfl dX8_checksum_31 ?_
      refine y_bipush (v := nI 12) hC dX8_checksum_34 (by decide) ?_
      refine y_iload_n hC dX8_checksum_36 rfl ?_
      refine y_iaddN hC dX8_checksum_37 ?_
      refine y_ialdRN (w9 := 15) hC (by decide) (yM_a8 hQ) (by omega) dX8_checksum_38 ?_
      refine y_i2l hC dX8_checksum_39 ?_
      refine y_ladd hC dX8_checksum_40 ?_
      refine y_lstore_n hC dX8_checksum_41 (by decide) rfl ?_
      refine y_iincN hC dX8_checksum_42 rfl rfl (by decide) rfl ?_
      refine y_goto (tgt := 15) hC dX8_checksum_45 (by decide) ?_
      exact ih (j + 1) _ (by omega) (by rw [hi1]; rfl)
  exact lp15 ni 0 _ (Nat.zero_add _) rfl
