/-- the sign c is wanted -/
def expM (M : yI) (len p : Nat) (c : Int32) : yI := if M 0 5 = 0 then (if bA (M 1) len (skp (M 1) len p) = c then posM M (skp (M 1) len p + 1) else rptM (posM M (skp (M 1) len p)) (-2) (nI (skp (M 1) len p))) else M
set_option maxRecDepth 100000 in
set_option maxHeartbeats 4000000 in
theorem c_X8_expect (l : Launch) (D : yD) (z : Nat) {n : Nat} {sh : yS} {I : yI} {L : yL} {q : Nat} {M : yI} (hQ : yMod sh q) {len : Nat} (hlen : M 0 3 = nI len) (hl9 : len ≤ 900) {p : Nat} (hp : M 0 4 = nI p) (hpl : p ≤ len) {c : Int32} : yM l D z yX8_expect cX8_expect 2 none 2 0 0 [.ref q, .int c] n sh (sR 15 I q M) L (yF none n sh (sR 15 I q (expM M len p c)) L) (yno) := by
  refine yM_of (by decide) (Nat.le_of_ble_eq_true rfl) rfl ?_
  intro X hC hr hnm hRc hRs htb
  have hC : yC X D z cX8_expect RX8 2 2 := hC
  refine y_aload_n hC dX8_expect_0 rfl ?_
  refine y_callV1 hC (c_X8_isGood X.2.1 D z hQ) m_X8_65 rfl (yM_o hQ) (by decide) (Nat.le_of_ble_eq_true rfl) (Nat.zero_le _) (Nat.zero_le _) dX8_expect_1 ?_
  refine y_if_neB (tgt := 8) hC dX8_expect_4 (by decide) (fun c4 => ?_) (fun c4 => ?_)
  · refine y_aload_n hC dX8_expect_8 rfl ?_
    refine y_callV1 hC (c_X8_next X.2.1 D z hQ hlen hl9 hp hpl) m_X8_69 rfl (yM_o hQ) (by decide) (Nat.le_of_ble_eq_true rfl) (Nat.zero_le _) (Nat.zero_le _) dX8_expect_9 ?_
    have kl := skp_le (b := M 1) hpl
    refine y_iload_n hC dX8_expect_12 rfl ?_
    refine y_icmp_ne (tgt := 29) hC dX8_expect_13 (by decide) (fun c13 => ?_) (fun c13 => ?_)
    · refine y_aload_n hC dX8_expect_29 rfl ?_
      refine y_bipush (v := (-2)) hC dX8_expect_30 (by decide) ?_
      refine y_aload_n hC dX8_expect_32 rfl ?_
      refine y_getIR (w9 := 15) hC (by decide) (yM_o hQ) f_X8_48 rfl dX8_expect_33 ?_
      refine y_eqI (y := nI (skp (M 1) len p)) up2_at ?_
      refine y_callV0 hC (c_X8_report X.2.1 D z hQ) m_X8_82 rfl (yM_o hQ) (by decide) (Nat.le_of_ble_eq_true rfl) (Nat.zero_le _) (Nat.zero_le _) dX8_expect_36 ?_
      exact y_vret hC hr (Nat.zero_le _) (Nat.zero_le _) dX8_expect_39 (by first | (rw [expM, if_pos c4, if_pos c13, ← show up2 (posM M (skp (M 1) len p)) 0 4 (nI (skp (M 1) len p + 1)) = posM M (skp (M 1) len p + 1) from up2_up2]; exact yF.mk rfl) | (rw [expM, if_pos c4, if_neg c13]; exact yF.mk rfl))
    · refine y_aload_n hC dX8_expect_16 rfl ?_
      refine y_dup hC dX8_expect_17 rfl ?_
      refine y_getIR (w9 := 15) hC (by decide) (yM_o hQ) f_X8_48 rfl dX8_expect_18 ?_
      refine y_eqI (y := nI (skp (M 1) len p)) up2_at ?_
      refine y_iconst (v := nI 1) hC dX8_expect_21 (by decide) ?_
      refine y_iaddN hC dX8_expect_22 ?_
      refine y_putIR (w9 := 15) hC (by decide) (yM_o hQ) f_X8_48 rfl (Or.inl rfl) dX8_expect_23 ?_
      refine y_goto (tgt := 39) hC dX8_expect_26 (by decide) ?_
      exact y_vret hC hr (Nat.zero_le _) (Nat.zero_le _) dX8_expect_39 (by first | (rw [expM, if_pos c4, if_pos c13, ← show up2 (posM M (skp (M 1) len p)) 0 4 (nI (skp (M 1) len p + 1)) = posM M (skp (M 1) len p + 1) from up2_up2]; exact yF.mk rfl) | (rw [expM, if_pos c4, if_neg c13]; exact yF.mk rfl))
  · exact y_vret hC hr (Nat.zero_le _) (Nat.zero_le _) dX8_expect_7 (by rw [expM, if_neg c4]; exact yF.mk rfl)
def emiM (M : yI) (c : Nat) (v : Int32) : yI := if M 0 5 = 0 then up2 (up2 M 3 (324 + c) v) 3 10 (nI (c + 1)) else M
set_option maxRecDepth 100000 in
set_option maxHeartbeats 4000000 in
theorem c_X8_emit (l : Launch) (D : yD) (z : Nat) {n : Nat} {sh : yS} {I : yI} {L : yL} {q : Nat} {M : yI} (hQ : yMod sh q) {c : Nat} (hc : M 3 10 = nI c) (hc5 : c < 1500) {v : Int32} : yM l D z yX8_emit cX8_emit 2 none 1 0 0 [.ref q, .int v] n sh (sR 15 I q M) L (yF none n sh (sR 15 I q (emiM M c v)) L) (yno) := by
  refine yM_of (by decide) (Nat.le_of_ble_eq_true rfl) rfl ?_
  intro X hC hr hnm hRc hRs htb
  have hC : yC X D z cX8_emit RX8 2 1 := hC
  refine y_aload_n hC dX8_emit_0 rfl ?_
  refine y_callV1 hC (c_X8_isGood X.2.1 D z hQ) m_X8_65 rfl (yM_o hQ) (by decide) (Nat.le_of_ble_eq_true rfl) (Nat.zero_le _) (Nat.zero_le _) dX8_emit_1 ?_
  refine y_if_neB (tgt := 8) hC dX8_emit_4 (by decide) (fun c4 => ?_) (fun c4 => ?_)
  · refine y_aload_n hC dX8_emit_8 rfl ?_
    refine y_getR hC (yM_o hQ) (yM_r9 hQ) f_X8_20 rfl dX8_emit_9 ?_
    refine y_sipush (v := nI 324) hC dX8_emit_12 (by decide) ?_
    refine y_aload_n hC dX8_emit_15 rfl ?_
    refine y_getR hC (yM_o hQ) (yM_r9 hQ) f_X8_20 rfl dX8_emit_16 ?_
    refine y_bipush (v := nI 10) hC dX8_emit_19 (by decide) ?_
    refine y_ialdRN (w9 := 15) hC (by decide) (yM_a9 hQ) (by decide) dX8_emit_21 ?_
    rw [hc]
    refine y_iaddN hC dX8_emit_22 ?_
    refine y_iload_n hC dX8_emit_23 rfl ?_
    refine y_iastRN (w9 := 15) hC (by decide) (yM_a9 hQ) (by omega) dX8_emit_24 ?_
    refine y_aload_n hC dX8_emit_25 rfl ?_
    refine y_getR hC (yM_o hQ) (yM_r9 hQ) f_X8_20 rfl dX8_emit_26 ?_
    refine y_bipush (v := nI 10) hC dX8_emit_29 (by decide) ?_
    refine y_dup2 hC dX8_emit_31 rfl rfl ?_
    refine y_ialdRN (w9 := 15) hC (by decide) (yM_a9 hQ) (by decide) dX8_emit_32 ?_
    refine y_eqI (y := nI c) ((congrFun (show up2 M 3 (324 + c) v 3 = upd (M 3) (324 + c) v from rfl) 10).trans ((upd_ne9 (by omega)).trans hc)) ?_
    refine y_iconst (v := nI 1) hC dX8_emit_33 (by decide) ?_
    refine y_iaddN hC dX8_emit_34 ?_
    refine y_iastRN (w9 := 15) hC (by decide) (yM_a9 hQ) (by decide) dX8_emit_35 ?_
    exact y_vret hC hr (Nat.zero_le _) (Nat.zero_le _) dX8_emit_36 (by rw [emiM, if_pos c4]; exact yF.mk rfl)
  · exact y_vret hC hr (Nat.zero_le _) (Nat.zero_le _) dX8_emit_7 (by rw [emiM, if_neg c4]; exact yF.mk rfl)
def dvM (b : Nat → Int32) : Nat → Nat → Int32 → Int32
  | 0, _, v => v
  | f + 1, s, v => dvM b f (s + 1) (if 10 * v + b s - 48 ≤ 1000000 then 10 * v + b s - 48 else 1000000)
/-- where the digits from s on end -/
def dgE (b : Nat → Int32) (len s : Nat) : Nat := rn dgP b (len - s) s
/-- a number from lo to hi -/
def numM (M : yI) (len p : Nat) (lo hi : Int32) : Int32 × yI :=
  if ¬ M 0 5 = 0 then (0, M) else if ¬ dgP (bA (M 1) len (skp (M 1) len p)) then (0, rptM (posM M (skp (M 1) len p)) (-2) (nI (skp (M 1) len p)))
  else (dvM (M 1) (dgE (M 1) len (skp (M 1) len p) - skp (M 1) len p) (skp (M 1) len p) 0, if ¬ dvM (M 1) (dgE (M 1) len (skp (M 1) len p) - skp (M 1) len p) (skp (M 1) len p) 0 < lo ∧ dvM (M 1) (dgE (M 1) len (skp (M 1) len p) - skp (M 1) len p) (skp (M 1) len p) 0 ≤ hi then up2 (posM M (dgE (M 1) len (skp (M 1) len p))) 0 13 (nI (skp (M 1) len p)) else rptM (up2 (posM M (dgE (M 1) len (skp (M 1) len p))) 0 13 (nI (skp (M 1) len p))) (-3) (nI (skp (M 1) len p)))
theorem bA_dg {b : Nat → Int32} {len j : Nat} (h : dgP (bA b len j)) : j < len := by
  rcases Nat.lt_or_ge j len with h1 | h1
  · exact h1
  · rw [bA, if_neg (by omega)] at h; exact absurd h.1 (by decide)
theorem up2_sw {M : yI} {a b : Nat} {x y : Int32} (h : a ≠ b) : up2 (up2 M 0 a x) 0 b y = up2 (up2 M 0 b y) 0 a x := by
  funext r
  by_cases e : r = 0
  · subst e
    funext j
    show upd (upd (M 0) a x) b y j = upd (upd (M 0) b y) a x j
    unfold upd
    by_cases e1 : j = a
    · rw [if_neg (by omega), if_pos e1, if_pos e1]
    · rw [if_neg e1, if_neg e1]
  · unfold up2; rw [va_up_ne _ _ e, va_up_ne _ _ e, va_up_ne _ _ e, va_up_ne _ _ e]
set_option maxRecDepth 100000 in
set_option maxHeartbeats 4000000 in
theorem c_X8_number (l : Launch) (D : yD) (z : Nat) {n : Nat} {sh : yS} {I : yI} {L : yL} {q : Nat} {M : yI} (hQ : yMod sh q) {len : Nat} (hlen : M 0 3 = nI len) (hl9 : len ≤ 900) {p : Nat} (hp : M 0 4 = nI p) (hpl : p ≤ len) {lo hi9 : Int32} : yM l D z yX8_number cX8_number 4 (some .int) 2 0 0 [.ref q, .int lo, .int hi9] n sh (sR 15 I q M) L (yF (some (.int (numM M len p lo hi9).1)) n sh (sR 15 I q (numM M len p lo hi9).2) L) (yno) := by
  refine yM_of (by decide) (Nat.le_of_ble_eq_true rfl) rfl ?_
  intro X hC hr hnm hRc hRs htb
  have hC : yC X D z cX8_number RX8 4 2 := hC
  refine y_aload_n hC dX8_number_0 rfl ?_
  refine y_callV1 hC (c_X8_isGood X.2.1 D z hQ) m_X8_65 rfl (yM_o hQ) (by decide) (Nat.le_of_ble_eq_true rfl) (Nat.zero_le _) (Nat.zero_le _) dX8_number_1 ?_
  refine y_if_neB (tgt := 9) hC dX8_number_4 (by decide) (fun c4 => ?_) (fun c4 => ?_)
  · refine y_aload_n hC dX8_number_9 rfl ?_
    refine y_callV1 hC (c_X8_next X.2.1 D z hQ hlen hl9 hp hpl) m_X8_69 rfl (yM_o hQ) (by decide) (Nat.le_of_ble_eq_true rfl) (Nat.zero_le _) (Nat.zero_le _) dX8_number_10 ?_
    have kl := skp_le (b := M 1) hpl
    refine y_callS1 hC (c_X8_isDigit X.2.1 D z) m_X8_86 rfl (by decide) (Nat.le_of_ble_eq_true rfl) (Nat.zero_le _) (Nat.zero_le _) dX8_number_13 ?_
    refine y_if_neB (tgt := 31) hC dX8_number_16 (by decide) (fun c16 => ?_) (fun c16 => ?_)
    · obtain ⟨s0, hs0⟩ : ∃ s0, s0 = skp (M 1) len p := ⟨_, rfl⟩
      rw [← hs0] at kl c16 ⊢
      refine y_aload_n hC dX8_number_31 rfl ?_
      refine y_aload_n hC dX8_number_32 rfl ?_
      refine y_getIR (w9 := 15) hC (by decide) (yM_o hQ) f_X8_48 rfl dX8_number_33 ?_
      refine y_eqI (y := nI s0) up2_at ?_
      refine y_putIR (w9 := 15) hC (by decide) (yM_o hQ) f_X8_90 rfl (Or.inl rfl) dX8_number_36 ?_
      refine y_iconst (v := 0) hC dX8_number_39 (by decide) ?_
      refine y_istore_n hC dX8_number_40 (by decide) rfl ?_
      have lp41 : ∀ (f9 j : Nat) (v : Int32), j + f9 = len → (rn dgP (M 1) f9 j = dgE (M 1) len s0 ∧ s0 ≤ j ∧ dvM (M 1) (rn dgP (M 1) f9 j - j) j v = dvM (M 1) (dgE (M 1) len s0 - s0) s0 0) → Y X D z 4 n sh (sR 15 I q (up2 (posM M j) 0 13 (nI s0))) L 0 0 (yEnd X D z (yF (some (.int (numM M len p lo hi9).1)) n sh (sR 15 I q (numM M len p lo hi9).2) L) (yno) 0 0) 41 [some (.ref q), some (.int lo), some (.int hi9), some (.int v)] [] := by
        intro f9
        induction f9 with
        | zero =>
          intro j v hm hi
          refine y_aload_n hC dX8_number_41 rfl ?_
          refine y_aload_n hC dX8_number_42 rfl ?_
          refine y_getIR (w9 := 15) hC (by decide) (yM_o hQ) f_X8_48 rfl dX8_number_43 ?_
          refine y_eqI (y := nI j) rfl ?_
          refine y_callV1 hC (c_X8_byteAt X.2.1 D z (M := up2 (posM M j) 0 13 (nI s0)) hQ hlen hl9 (j := j) (by omega)) m_X8_51 rfl (yM_o hQ) (by decide) (Nat.le_of_ble_eq_true rfl) (Nat.zero_le _) (Nat.zero_le _) dX8_number_46 ?_
          refine y_callS1 hC (c_X8_isDigit X.2.1 D z) m_X8_86 rfl (by decide) (Nat.le_of_ble_eq_true rfl) (Nat.zero_le _) (Nat.zero_le _) dX8_number_49 ?_
          refine y_if_eqB (tgt := 90) hC dX8_number_52 (by decide) (fun c52 => ?_) (fun c52 => absurd (bA_dg c52) (by omega))
          refine y_iload_n hC dX8_number_90 rfl ?_
          refine y_iload_n hC dX8_number_91 rfl ?_
          refine y_iload_n hC dX8_number_92 rfl ?_
          refine y_callS1 hC (c_X8_in X.2.1 D z) m_X8_61 rfl (by decide) (Nat.le_of_ble_eq_true rfl) (Nat.zero_le _) (Nat.zero_le _) dX8_number_93 ?_
          refine y_if_neB (tgt := 109) hC dX8_number_96 (by decide) (fun c96 => ?_) (fun c96 => ?_)
          · refine y_iload_n hC dX8_number_109 rfl ?_
            exact y_iret hC hr rfl (Nat.zero_le _) (Nat.zero_le _) dX8_number_110 (by
  have ej : j = dgE (M 1) len s0 := by
    have h1 := hi.1
    first
    | exact h1
    | (rw [rn_0 (fun q => c52 (show dgP (bA (M 1) len j) from (show bA (M 1) len j = M 1 j from if_pos (by omega)).symm ▸ q))] at h1; exact h1)
  have ev : v = dvM (M 1) (dgE (M 1) len s0 - s0) s0 0 := by
    rw [← hi.2.2, hi.1, ← ej, Nat.sub_self]; rfl
  rw [numM, ← hs0, if_neg (Decidable.not_not.mpr c4), if_neg (Decidable.not_not.mpr c16), ← ev, ← ej]
  first
  | (rw [if_pos c96]; exact yF.mk rfl)
  | (rw [if_neg c96]; exact yF.mk rfl))
          · refine y_aload_n hC dX8_number_99 rfl ?_
            refine y_bipush (v := (-3)) hC dX8_number_100 (by decide) ?_
            refine y_aload_n hC dX8_number_102 rfl ?_
            refine y_getIR (w9 := 15) hC (by decide) (yM_o hQ) f_X8_90 rfl dX8_number_103 ?_
            refine y_eqI (y := nI s0) rfl ?_
            refine y_callV0 hC (c_X8_report X.2.1 D z hQ) m_X8_82 rfl (yM_o hQ) (by decide) (Nat.le_of_ble_eq_true rfl) (Nat.zero_le _) (Nat.zero_le _) dX8_number_106 ?_
            refine y_iload_n hC dX8_number_109 rfl ?_
            exact y_iret hC hr rfl (Nat.zero_le _) (Nat.zero_le _) dX8_number_110 (by
  have ej : j = dgE (M 1) len s0 := by
    have h1 := hi.1
    first
    | exact h1
    | (rw [rn_0 (fun q => c52 (show dgP (bA (M 1) len j) from (show bA (M 1) len j = M 1 j from if_pos (by omega)).symm ▸ q))] at h1; exact h1)
  have ev : v = dvM (M 1) (dgE (M 1) len s0 - s0) s0 0 := by
    rw [← hi.2.2, hi.1, ← ej, Nat.sub_self]; rfl
  rw [numM, ← hs0, if_neg (Decidable.not_not.mpr c4), if_neg (Decidable.not_not.mpr c16), ← ev, ← ej]
  first
  | (rw [if_pos c96]; exact yF.mk rfl)
  | (rw [if_neg c96]; exact yF.mk rfl))
        | succ f9 ih =>
          intro j v hm hi
          refine y_aload_n hC dX8_number_41 rfl ?_
          refine y_aload_n hC dX8_number_42 rfl ?_
          refine y_getIR (w9 := 15) hC (by decide) (yM_o hQ) f_X8_48 rfl dX8_number_43 ?_
          refine y_eqI (y := nI j) rfl ?_
          refine y_callV1 hC (c_X8_byteAt X.2.1 D z (M := up2 (posM M j) 0 13 (nI s0)) hQ hlen hl9 (j := j) (by omega)) m_X8_51 rfl (yM_o hQ) (by decide) (Nat.le_of_ble_eq_true rfl) (Nat.zero_le _) (Nat.zero_le _) dX8_number_46 ?_
          refine y_callS1 hC (c_X8_isDigit X.2.1 D z) m_X8_86 rfl (by decide) (Nat.le_of_ble_eq_true rfl) (Nat.zero_le _) (Nat.zero_le _) dX8_number_49 ?_
          refine y_if_eqB (tgt := 90) hC dX8_number_52 (by decide) (fun c52 => ?_) (fun c52 => ?_)
          · refine y_iload_n hC dX8_number_90 rfl ?_
            refine y_iload_n hC dX8_number_91 rfl ?_
            refine y_iload_n hC dX8_number_92 rfl ?_
            refine y_callS1 hC (c_X8_in X.2.1 D z) m_X8_61 rfl (by decide) (Nat.le_of_ble_eq_true rfl) (Nat.zero_le _) (Nat.zero_le _) dX8_number_93 ?_
            refine y_if_neB (tgt := 109) hC dX8_number_96 (by decide) (fun c96 => ?_) (fun c96 => ?_)
            · refine y_iload_n hC dX8_number_109 rfl ?_
              exact y_iret hC hr rfl (Nat.zero_le _) (Nat.zero_le _) dX8_number_110 (by
  have ej : j = dgE (M 1) len s0 := by
    have h1 := hi.1
    first
    | exact h1
    | (rw [rn_0 (fun q => c52 (show dgP (bA (M 1) len j) from (show bA (M 1) len j = M 1 j from if_pos (by omega)).symm ▸ q))] at h1; exact h1)
  have ev : v = dvM (M 1) (dgE (M 1) len s0 - s0) s0 0 := by
    rw [← hi.2.2, hi.1, ← ej, Nat.sub_self]; rfl
  rw [numM, ← hs0, if_neg (Decidable.not_not.mpr c4), if_neg (Decidable.not_not.mpr c16), ← ev, ← ej]
  first
  | (rw [if_pos c96]; exact yF.mk rfl)
  | (rw [if_neg c96]; exact yF.mk rfl))
            · refine y_aload_n hC dX8_number_99 rfl ?_
              refine y_bipush (v := (-3)) hC dX8_number_100 (by decide) ?_
              refine y_aload_n hC dX8_number_102 rfl ?_
              refine y_getIR (w9 := 15) hC (by decide) (yM_o hQ) f_X8_90 rfl dX8_number_103 ?_
              refine y_eqI (y := nI s0) rfl ?_
              refine y_callV0 hC (c_X8_report X.2.1 D z hQ) m_X8_82 rfl (yM_o hQ) (by decide) (Nat.le_of_ble_eq_true rfl) (Nat.zero_le _) (Nat.zero_le _) dX8_number_106 ?_
              refine y_iload_n hC dX8_number_109 rfl ?_
              exact y_iret hC hr rfl (Nat.zero_le _) (Nat.zero_le _) dX8_number_110 (by
  have ej : j = dgE (M 1) len s0 := by
    have h1 := hi.1
    first
    | exact h1
    | (rw [rn_0 (fun q => c52 (show dgP (bA (M 1) len j) from (show bA (M 1) len j = M 1 j from if_pos (by omega)).symm ▸ q))] at h1; exact h1)
  have ev : v = dvM (M 1) (dgE (M 1) len s0 - s0) s0 0 := by
    rw [← hi.2.2, hi.1, ← ej, Nat.sub_self]; rfl
  rw [numM, ← hs0, if_neg (Decidable.not_not.mpr c4), if_neg (Decidable.not_not.mpr c16), ← ev, ← ej]
  first
  | (rw [if_pos c96]; exact yF.mk rfl)
  | (rw [if_neg c96]; exact yF.mk rfl))
          · refine y_ldc hC k_X8_93 dX8_number_55 ?_
            refine y_bipush (v := 10) hC dX8_number_57 (by decide) ?_
            refine y_iload_n hC dX8_number_59 rfl ?_
            refine y_imul hC dX8_number_60 ?_
            refine y_aload_n hC dX8_number_61 rfl ?_
            refine y_aload_n hC dX8_number_62 rfl ?_
            refine y_getIR (w9 := 15) hC (by decide) (yM_o hQ) f_X8_48 rfl dX8_number_63 ?_
            refine y_eqI (y := nI j) rfl ?_
            refine y_callV1 hC (c_X8_byteAt X.2.1 D z (M := up2 (posM M j) 0 13 (nI s0)) hQ hlen hl9 (j := j) (by omega)) m_X8_51 rfl (yM_o hQ) (by decide) (Nat.le_of_ble_eq_true rfl) (Nat.zero_le _) (Nat.zero_le _) dX8_number_66 ?_
            refine y_iadd hC dX8_number_69 ?_
            refine y_bipush (v := 48) hC dX8_number_70 (by decide) ?_
            refine y_isub hC dX8_number_72 ?_
            refine y_callS1 hC (c_X8_min X.2.1 D z) m_X8_94 rfl (by decide) (Nat.le_of_ble_eq_true rfl) (Nat.zero_le _) (Nat.zero_le _) dX8_number_73 ?_
            refine y_istore_n hC dX8_number_76 (by decide) rfl ?_
            refine y_aload_n hC dX8_number_77 rfl ?_
            refine y_dup hC dX8_number_78 rfl ?_
            refine y_getIR (w9 := 15) hC (by decide) (yM_o hQ) f_X8_48 rfl dX8_number_79 ?_
            refine y_eqI (y := nI j) rfl ?_
            refine y_iconst (v := nI 1) hC dX8_number_82 (by decide) ?_
            refine y_iaddN hC dX8_number_83 ?_
            refine y_putIR (w9 := 15) hC (by decide) (yM_o hQ) f_X8_48 rfl (Or.inl rfl) dX8_number_84 ?_
            refine y_goto (tgt := 41) hC dX8_number_87 (by decide) ?_
            have jl : j < len := bA_dg c52
            have eb : bA (M 1) len j = M 1 j := if_pos jl
            have cd : dgP (M 1 j) := by
              have c52 : dgP (bA (M 1) len j) := c52
              rw [eb] at c52; exact c52
            rw [show up2 (up2 (posM M j) 0 13 (nI s0)) 0 4 (nI (j + 1)) = up2 (posM M (j + 1)) 0 13 (nI s0) by unfold posM; rw [up2_sw (by decide), up2_up2]]
            have e1 : rn dgP (M 1) (f9 + 1) j = rn dgP (M 1) f9 (j + 1) := rn_1 cd
            have e2 := rn_ge (P := dgP) (b := M 1) f9 (j + 1)
            refine ih (j + 1) _ (by omega) ⟨e1.symm.trans hi.1, by have := hi.2.1; omega, ?_⟩
            rw [← hi.2.2, e1, show rn dgP (M 1) f9 (j + 1) - j = rn dgP (M 1) f9 (j + 1) - (j + 1) + 1 by omega, dvM, ← eb]
            rfl
      exact lp41 (len - s0) s0 _ (by omega) ⟨rfl, Nat.le_refl _, rfl⟩
    · refine y_aload_n hC dX8_number_19 rfl ?_
      refine y_bipush (v := (-2)) hC dX8_number_20 (by decide) ?_
      refine y_aload_n hC dX8_number_22 rfl ?_
      refine y_getIR (w9 := 15) hC (by decide) (yM_o hQ) f_X8_48 rfl dX8_number_23 ?_
      refine y_eqI (y := nI (skp (M 1) len p)) up2_at ?_
      refine y_callV0 hC (c_X8_report X.2.1 D z hQ) m_X8_82 rfl (yM_o hQ) (by decide) (Nat.le_of_ble_eq_true rfl) (Nat.zero_le _) (Nat.zero_le _) dX8_number_26 ?_
      refine y_iconst (v := 0) hC dX8_number_29 (by decide) ?_
      exact y_iret hC hr rfl (Nat.zero_le _) (Nat.zero_le _) dX8_number_30 (by rw [numM, if_neg (Decidable.not_not.mpr c4), if_pos c16]; exact yF.mk rfl)
  · refine y_iconst (v := 0) hC dX8_number_7 (by decide) ?_
    exact y_iret hC hr rfl (Nat.zero_le _) (Nat.zero_le _) dX8_number_8 (by rw [numM, if_pos c4]; exact yF.mk rfl)
