set_option maxRecDepth 100000 in
set_option maxHeartbeats 4000000 in
theorem c_X8_isGood (l : Launch) (D : yD) (z : Nat) {n : Nat} {sh : yS} {I : yI} {L : yL} {q : Nat} {M : yI} (hQ : yMod sh q) : yM l D z yX8_isGood cX8_isGood 1 (some .boolean) 0 0 0 [.ref q] n sh (sR 15 I q M) L (yF (some (.int (b2i (M 0 5 = 0)))) n sh (sR 15 I q M) L) (yno) := by
  refine yM_of (by decide) (Nat.le_of_ble_eq_true rfl) rfl ?_
  intro X hC hr hnm hRc hRs htb
  have hC : yC X D z cX8_isGood RX8 1 0 := hC
  refine y_aload_n hC dX8_isGood_0 rfl ?_
  refine y_getIR (w9 := 15) hC (by decide) (yM_o hQ) f_X8_55 rfl dX8_isGood_1 ?_
  refine y_if_ne (tgt := 11) hC dX8_isGood_4 (by decide) (fun c4 => ?_) (fun c4 => ?_)
  · refine y_iconst (v := 0) hC dX8_isGood_11 (by decide) ?_
    exact y_iret hC hr rfl (Nat.zero_le _) (Nat.zero_le _) dX8_isGood_12 (by first | exact yF.t c4 | exact yF.f c4)
  · refine y_iconst (v := 1) hC dX8_isGood_7 (by decide) ?_
    refine y_goto (tgt := 12) hC dX8_isGood_8 (by decide) ?_
    exact y_iret hC hr rfl (Nat.zero_le _) (Nat.zero_le _) dX8_isGood_12 (by first | exact yF.t c4 | exact yF.f c4)
def rptM (M : yI) (c o : Int32) : yI := if M 0 5 = 0 then up2 (up2 M 0 5 c) 0 6 o else M
set_option maxRecDepth 100000 in
set_option maxHeartbeats 4000000 in
theorem c_X8_report (l : Launch) (D : yD) (z : Nat) {n : Nat} {sh : yS} {I : yI} {L : yL} {q : Nat} {M : yI} (hQ : yMod sh q) {c o : Int32} : yM l D z yX8_report cX8_report 3 none 0 0 0 [.ref q, .int c, .int o] n sh (sR 15 I q M) L (yF none n sh (sR 15 I q (rptM M c o)) L) (yno) := by
  refine yM_of (by decide) (Nat.le_of_ble_eq_true rfl) rfl ?_
  intro X hC hr hnm hRc hRs htb
  have hC : yC X D z cX8_report RX8 3 0 := hC
  refine y_aload_n hC dX8_report_0 rfl ?_
  refine y_getIR (w9 := 15) hC (by decide) (yM_o hQ) f_X8_55 rfl dX8_report_1 ?_
  refine y_if_eq (tgt := 8) hC dX8_report_4 (by decide) (fun c4 => ?_) (fun c4 => ?_)
  · refine y_aload_n hC dX8_report_8 rfl ?_
    refine y_iload_n hC dX8_report_9 rfl ?_
    refine y_putIR (w9 := 15) hC (by decide) (yM_o hQ) f_X8_55 rfl (Or.inl rfl) dX8_report_10 ?_
    refine y_aload_n hC dX8_report_13 rfl ?_
    refine y_iload_n hC dX8_report_14 rfl ?_
    refine y_putIR (w9 := 15) hC (by decide) (yM_o hQ) f_X8_58 rfl (Or.inl rfl) dX8_report_15 ?_
    exact y_vret hC hr (Nat.zero_le _) (Nat.zero_le _) dX8_report_18 (by first | (rw [rptM, if_pos c4]; exact yF.mk rfl) | (rw [rptM, if_neg c4]; exact yF.mk rfl))
  · exact y_vret hC hr (Nat.zero_le _) (Nat.zero_le _) dX8_report_7 (by first | (rw [rptM, if_pos c4]; exact yF.mk rfl) | (rw [rptM, if_neg c4]; exact yF.mk rfl))
def bA (b : Nat → Int32) (len j : Nat) : Int32 := if j < len then b j else -1
set_option maxRecDepth 100000 in
set_option maxHeartbeats 4000000 in
theorem c_X8_byteAt (l : Launch) (D : yD) (z : Nat) {n : Nat} {sh : yS} {I : yI} {L : yL} {q : Nat} {M : yI} (hQ : yMod sh q) {len : Nat} (hlen : M 0 3 = nI len) (hl9 : len ≤ 900) {j : Nat} (hj : j < 2147483648) : yM l D z yX8_byteAt cX8_byteAt 2 (some .int) 0 0 0 [.ref q, .int (nI j)] n sh (sR 15 I q M) L (yF (some (.int (bA (M 1) len j))) n sh (sR 15 I q M) L) (yno) := by
  refine yM_of (by decide) (Nat.le_of_ble_eq_true rfl) rfl ?_
  intro X hC hr hnm hRc hRs htb
  have hC : yC X D z cX8_byteAt RX8 2 0 := hC
  refine y_iload_n hC dX8_byteAt_0 rfl ?_
  refine y_aload_n hC dX8_byteAt_1 rfl ?_
  refine y_getIR (w9 := 15) hC (by decide) (yM_o hQ) f_X8_45 rfl dX8_byteAt_2 ?_
  rw [hlen]
  refine y_icmp_ge (tgt := 17) hC dX8_byteAt_5 (by decide) (fun c5 => ?_) (fun c5 => ?_)
  · refine y_iconst (v := (-1)) hC dX8_byteAt_17 (by decide) ?_
    exact y_iret hC hr rfl (Nat.zero_le _) (Nat.zero_le _) dX8_byteAt_18 (by first | (rw [bA, if_neg (Nat.not_lt.mpr (nI_le2 c5))]; exact yF.mk rfl) | (rw [bA, if_pos jl]; exact yF.mk rfl))
  · have jl : j < len := nI_nle2 c5
    refine y_aload_n hC dX8_byteAt_8 rfl ?_
    refine y_getR hC (yM_o hQ) (yM_r1 hQ) f_X8_9 rfl dX8_byteAt_9 ?_
    refine y_iload_n hC dX8_byteAt_12 rfl ?_
    refine y_ialdRN (w9 := 15) hC (by decide) (yM_a1 hQ) (by omega) dX8_byteAt_13 ?_
    refine y_goto (tgt := 18) hC dX8_byteAt_14 (by decide) ?_
    exact y_iret hC hr rfl (Nat.zero_le _) (Nat.zero_le _) dX8_byteAt_18 (by first | (rw [bA, if_neg (Nat.not_lt.mpr (nI_le2 c5))]; exact yF.mk rfl) | (rw [bA, if_pos jl]; exact yF.mk rfl))
/-- the model at another position -/
def posM (M : yI) (p : Nat) : yI := up2 M 0 4 (nI p)
theorem posM_id {M : yI} {p : Nat} (h : M 0 4 = nI p) : posM M p = M := by
  unfold posM up2
  rw [← h]
  funext r
  unfold va_up
  split
  · rename_i e; subst e; funext j; unfold upd; split
    · rename_i e2; rw [e2]
    · rfl
  · rfl
abbrev spP (x : Int32) : Prop := x = 32
/-- behind the spaces from p on -/
def skp (b : Nat → Int32) (len p : Nat) : Nat := rn spP b (len - p) p
theorem skp_le {b : Nat → Int32} {len p : Nat} (h : p ≤ len) : skp b len p ≤ len := by have := rn_le (P := spP) (b := b) (len - p) p; unfold skp; omega
theorem bA_lt {b : Nat → Int32} {len j : Nat} (h : bA b len j = 32) : j < len := by
  rcases Nat.lt_or_ge j len with h1 | h1
  · exact h1
  · rw [bA, if_neg (by omega)] at h; exact absurd h (by decide)
theorem rn_1 {P : Int32 → Prop} [DecidablePred P] {b : Nat → Int32} {f p : Nat} (h : P (b p)) : rn P b (f + 1) p = rn P b f (p + 1) := by rw [rn, if_pos h]
theorem rn_0 {P : Int32 → Prop} [DecidablePred P] {b : Nat → Int32} {f p : Nat} (h : ¬ P (b p)) : rn P b (f + 1) p = p := by rw [rn, if_neg h]
set_option maxRecDepth 100000 in
set_option maxHeartbeats 4000000 in
theorem c_X8_next (l : Launch) (D : yD) (z : Nat) {n : Nat} {sh : yS} {I : yI} {L : yL} {q : Nat} {M : yI} (hQ : yMod sh q) {len : Nat} (hlen : M 0 3 = nI len) (hl9 : len ≤ 900) {p : Nat} (hp : M 0 4 = nI p) (hpl : p ≤ len) : yM l D z yX8_next cX8_next 1 (some .int) 1 0 0 [.ref q] n sh (sR 15 I q M) L (yF (some (.int (bA (M 1) len (skp (M 1) len p)))) n sh (sR 15 I q (posM M (skp (M 1) len p))) L) (yno) := by
  refine yM_of (by decide) (Nat.le_of_ble_eq_true rfl) rfl ?_
  intro X hC hr hnm hRc hRs htb
  have hC : yC X D z cX8_next RX8 1 1 := hC
  have lp0 : ∀ (f9 j : Nat) , j + f9 = len → rn spP (M 1) f9 j = skp (M 1) len p → Y X D z 1 n sh (sR 15 I q (posM M j)) L 0 0 (yEnd X D z (yF (some (.int (bA (M 1) len (skp (M 1) len p)))) n sh (sR 15 I q (posM M (skp (M 1) len p))) L) (yno) 0 0) 0 [some (.ref q)] [] := by
    intro f9
    induction f9 with
    | zero =>
      intro j hm hi
      refine y_aload_n hC dX8_next_0 rfl ?_
      refine y_aload_n hC dX8_next_1 rfl ?_
      refine y_getIR (w9 := 15) hC (by decide) (yM_o hQ) f_X8_48 rfl dX8_next_2 ?_
      refine y_eqI (y := nI j) up2_at ?_
      refine y_callV1 hC (c_X8_byteAt X.2.1 D z (M := posM M j) hQ hlen hl9 (j := j) (by omega)) m_X8_51 rfl (yM_o hQ) (by decide) (Nat.le_of_ble_eq_true rfl) (Nat.zero_le _) (Nat.zero_le _) dX8_next_5 ?_
      refine y_bipush (v := 32) hC dX8_next_8 (by decide) ?_
      refine y_icmp_ne (tgt := 26) hC dX8_next_10 (by decide) (fun c10 => ?_) (fun c10 => absurd (bA_lt c10) (by omega))
      refine y_aload_n hC dX8_next_26 rfl ?_
      refine y_aload_n hC dX8_next_27 rfl ?_
      refine y_getIR (w9 := 15) hC (by decide) (yM_o hQ) f_X8_48 rfl dX8_next_28 ?_
      refine y_eqI (y := nI j) up2_at ?_
      refine y_callV1 hC (c_X8_byteAt X.2.1 D z (M := posM M j) hQ hlen hl9 (j := j) (by omega)) m_X8_51 rfl (yM_o hQ) (by decide) (Nat.le_of_ble_eq_true rfl) (Nat.zero_le _) (Nat.zero_le _) dX8_next_31 ?_
      exact y_iret hC hr rfl (Nat.zero_le _) (Nat.zero_le _) dX8_next_34 (by have e : j = skp (M 1) len p := (by first | exact hi | (rw [← hi, rn_0 (fun q => c10 ((if_pos (by omega)).trans q))])); rw [← e]; exact yF.mk rfl)
    | succ f9 ih =>
      intro j hm hi
      refine y_aload_n hC dX8_next_0 rfl ?_
      refine y_aload_n hC dX8_next_1 rfl ?_
      refine y_getIR (w9 := 15) hC (by decide) (yM_o hQ) f_X8_48 rfl dX8_next_2 ?_
      refine y_eqI (y := nI j) up2_at ?_
      refine y_callV1 hC (c_X8_byteAt X.2.1 D z (M := posM M j) hQ hlen hl9 (j := j) (by omega)) m_X8_51 rfl (yM_o hQ) (by decide) (Nat.le_of_ble_eq_true rfl) (Nat.zero_le _) (Nat.zero_le _) dX8_next_5 ?_
      refine y_bipush (v := 32) hC dX8_next_8 (by decide) ?_
      refine y_icmp_ne (tgt := 26) hC dX8_next_10 (by decide) (fun c10 => ?_) (fun c10 => ?_)
      · refine y_aload_n hC dX8_next_26 rfl ?_
        refine y_aload_n hC dX8_next_27 rfl ?_
        refine y_getIR (w9 := 15) hC (by decide) (yM_o hQ) f_X8_48 rfl dX8_next_28 ?_
        refine y_eqI (y := nI j) up2_at ?_
        refine y_callV1 hC (c_X8_byteAt X.2.1 D z (M := posM M j) hQ hlen hl9 (j := j) (by omega)) m_X8_51 rfl (yM_o hQ) (by decide) (Nat.le_of_ble_eq_true rfl) (Nat.zero_le _) (Nat.zero_le _) dX8_next_31 ?_
        exact y_iret hC hr rfl (Nat.zero_le _) (Nat.zero_le _) dX8_next_34 (by have e : j = skp (M 1) len p := (by first | exact hi | (rw [← hi, rn_0 (fun q => c10 ((if_pos (by omega)).trans q))])); rw [← e]; exact yF.mk rfl)
      · refine y_aload_n hC dX8_next_13 rfl ?_
        refine y_dup hC dX8_next_14 rfl ?_
        refine y_getIR (w9 := 15) hC (by decide) (yM_o hQ) f_X8_48 rfl dX8_next_15 ?_
        refine y_eqI (y := nI j) up2_at ?_
        refine y_iconst (v := nI 1) hC dX8_next_18 (by decide) ?_
        refine y_iaddN hC dX8_next_19 ?_
        refine y_putIR (w9 := 15) hC (by decide) (yM_o hQ) f_X8_48 rfl (Or.inl rfl) dX8_next_20 ?_
        refine y_goto (tgt := 0) hC dX8_next_23 (by decide) ?_
        have jl := bA_lt c10
        rw [show up2 (posM M j) 0 4 (nI (j + 1)) = posM M (j + 1) from up2_up2]
        exact ih (j + 1) (by omega) (by rw [← hi, rn_1]; rw [bA, if_pos jl] at c10; exact c10)
  have h0 := lp0 (len - p) p (by omega) rfl
  rw [posM_id hp] at h0
  exact h0
