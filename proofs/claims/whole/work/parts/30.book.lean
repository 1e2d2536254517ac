set_option maxRecDepth 100000 in
set_option maxHeartbeats 4000000 in
theorem c_X0_isFinal (l : Launch) (D : yD) (z : Nat) {n : Nat} {sh : yS} {I : yI} {L : yL} {i su : Nat} {B : yI} (hB : yBook sh i su) {d : Nat} (hd : d < 20) : yM l D z yX0_isFinal cX0_isFinal 2 (some .boolean) 0 0 0 [.ref i, .int (nI d)] n sh (sR 14 I i B) L (yF (some (.int (b2i (B 12 d = 4 ∨ B 12 d = 5)))) n sh (sR 14 I i B) L) (yno) := by
  refine yM_of (by decide) (Nat.le_of_ble_eq_true rfl) rfl ?_
  intro X hC hr hnm hRc hRs htb
  have hC : yC X D z cX0_isFinal RX0 2 0 := hC
  refine y_aload_n hC dX0_isFinal_0 rfl ?_
  refine y_getR hC (yB_o hB) (yB_r16 hB) f_X0_49 rfl dX0_isFinal_1 ?_
  refine y_iload_n hC dX0_isFinal_4 rfl ?_
  refine y_ialdRN (w9 := 14) hC (by decide) (yB_a16 hB) (by omega) dX0_isFinal_5 ?_
  refine y_iconst (v := 4) hC dX0_isFinal_6 (by decide) ?_
  refine y_icmp_eq (tgt := 20) hC dX0_isFinal_7 (by decide) (fun c7 => ?_) (fun c7 => ?_)
  · refine y_iconst (v := nI 1) hC dX0_isFinal_20 (by decide) ?_
    refine y_goto (tgt := 25) hC dX0_isFinal_21 (by decide) ?_
    exact y_iret hC hr rfl (Nat.zero_le _) (Nat.zero_le _) dX0_isFinal_25 (by first | exact yF.t (by first | exact Or.inl ‹_› | exact Or.inr ‹_›) | exact yF.f (by rintro (h | h) <;> contradiction))
  · refine y_aload_n hC dX0_isFinal_10 rfl ?_
    refine y_getR hC (yB_o hB) (yB_r16 hB) f_X0_49 rfl dX0_isFinal_11 ?_
    refine y_iload_n hC dX0_isFinal_14 rfl ?_
    refine y_ialdRN (w9 := 14) hC (by decide) (yB_a16 hB) (by omega) dX0_isFinal_15 ?_
    refine y_iconst (v := 5) hC dX0_isFinal_16 (by decide) ?_
    refine y_icmp_ne (tgt := 24) hC dX0_isFinal_17 (by decide) (fun c17 => ?_) (fun c17 => ?_)
    · refine y_iconst (v := 0) hC dX0_isFinal_24 (by decide) ?_
      exact y_iret hC hr rfl (Nat.zero_le _) (Nat.zero_le _) dX0_isFinal_25 (by first | exact yF.t (by first | exact Or.inl ‹_› | exact Or.inr ‹_›) | exact yF.f (by rintro (h | h) <;> contradiction))
    · refine y_iconst (v := nI 1) hC dX0_isFinal_20 (by decide) ?_
      refine y_goto (tgt := 25) hC dX0_isFinal_21 (by decide) ?_
      exact y_iret hC hr rfl (Nat.zero_le _) (Nat.zero_le _) dX0_isFinal_25 (by first | exact yF.t (by first | exact Or.inl ‹_› | exact Or.inr ‹_›) | exact yF.f (by rintro (h | h) <;> contradiction))
set_option maxRecDepth 100000 in
set_option maxHeartbeats 4000000 in
theorem c_X0_merchantHolds (l : Launch) (D : yD) (z : Nat) {n : Nat} {sh : yS} {I : yI} {L : yL} {i su : Nat} {B : yI} (hB : yBook sh i su) {d : Nat} (hd : d < 20) : yM l D z yX0_merchantHolds cX0_merchantHolds 2 (some .boolean) 0 0 0 [.ref i, .int (nI d)] n sh (sR 14 I i B) L (yF (some (.int (b2i (B 12 d = 1 ∨ B 12 d = 5)))) n sh (sR 14 I i B) L) (yno) := by
  refine yM_of (by decide) (Nat.le_of_ble_eq_true rfl) rfl ?_
  intro X hC hr hnm hRc hRs htb
  have hC : yC X D z cX0_merchantHolds RX0 2 0 := hC
  refine y_aload_n hC dX0_merchantHolds_0 rfl ?_
  refine y_getR hC (yB_o hB) (yB_r16 hB) f_X0_49 rfl dX0_merchantHolds_1 ?_
  refine y_iload_n hC dX0_merchantHolds_4 rfl ?_
  refine y_ialdRN (w9 := 14) hC (by decide) (yB_a16 hB) (by omega) dX0_merchantHolds_5 ?_
  refine y_iconst (v := 1) hC dX0_merchantHolds_6 (by decide) ?_
  refine y_icmp_eq (tgt := 20) hC dX0_merchantHolds_7 (by decide) (fun c7 => ?_) (fun c7 => ?_)
  · refine y_iconst (v := nI 1) hC dX0_merchantHolds_20 (by decide) ?_
    refine y_goto (tgt := 25) hC dX0_merchantHolds_21 (by decide) ?_
    exact y_iret hC hr rfl (Nat.zero_le _) (Nat.zero_le _) dX0_merchantHolds_25 (by first | exact yF.t (by first | exact Or.inl ‹_› | exact Or.inr ‹_›) | exact yF.f (by rintro (h | h) <;> contradiction))
  · refine y_aload_n hC dX0_merchantHolds_10 rfl ?_
    refine y_getR hC (yB_o hB) (yB_r16 hB) f_X0_49 rfl dX0_merchantHolds_11 ?_
    refine y_iload_n hC dX0_merchantHolds_14 rfl ?_
    refine y_ialdRN (w9 := 14) hC (by decide) (yB_a16 hB) (by omega) dX0_merchantHolds_15 ?_
    refine y_iconst (v := 5) hC dX0_merchantHolds_16 (by decide) ?_
    refine y_icmp_ne (tgt := 24) hC dX0_merchantHolds_17 (by decide) (fun c17 => ?_) (fun c17 => ?_)
    · refine y_iconst (v := 0) hC dX0_merchantHolds_24 (by decide) ?_
      exact y_iret hC hr rfl (Nat.zero_le _) (Nat.zero_le _) dX0_merchantHolds_25 (by first | exact yF.t (by first | exact Or.inl ‹_› | exact Or.inr ‹_›) | exact yF.f (by rintro (h | h) <;> contradiction))
    · refine y_iconst (v := nI 1) hC dX0_merchantHolds_20 (by decide) ?_
      refine y_goto (tgt := 25) hC dX0_merchantHolds_21 (by decide) ?_
      exact y_iret hC hr rfl (Nat.zero_le _) (Nat.zero_le _) dX0_merchantHolds_25 (by first | exact yF.t (by first | exact Or.inl ‹_› | exact Or.inr ‹_›) | exact yF.f (by rintro (h | h) <;> contradiction))
set_option maxRecDepth 100000 in
set_option maxHeartbeats 4000000 in
theorem c_X0_isTooLate (l : Launch) (D : yD) (z : Nat) {n : Nat} {sh : yS} {I : yI} {L : yL} {i su : Nat} {B : yI} (hB : yBook sh i su) {f : Nat} {σ : yI} (hS : ySet sh su f) (hσ : ySig I i su σ) {p r : Nat} (hp : p < 24) (hr8 : r < 8) : yM l D z yX0_isTooLate cX0_isTooLate 3 (some .boolean) 0 0 0 [.ref i, .int (nI p), .int (nI r)] n sh (sR 14 I i B) L (yF (some (.int (b2i (¬ B 0 1 ≤ B 6 p + σ 5 r)))) n sh (sR 14 I i B) L) (yno) := by
  refine yM_of (by decide) (Nat.le_of_ble_eq_true rfl) rfl ?_
  intro X hC hr hnm hRc hRs htb
  have hC : yC X D z cX0_isTooLate RX0 3 0 := hC
  refine y_aload_n hC dX0_isTooLate_0 rfl ?_
  refine y_getIR (w9 := 14) hC (by decide) (yB_o hB) f_X0_55 rfl dX0_isTooLate_1 ?_
  refine y_aload_n hC dX0_isTooLate_4 rfl ?_
  refine y_getR hC (yB_o hB) (yB_r9 hB) f_X0_31 rfl dX0_isTooLate_5 ?_
  refine y_iload_n hC dX0_isTooLate_8 rfl ?_
  refine y_ialdRN (w9 := 14) hC (by decide) (yB_a9 hB) (by omega) dX0_isTooLate_9 ?_
  refine y_aload_n hC dX0_isTooLate_10 rfl ?_
  refine y_getR hC (yB_o hB) (yB_r0 hB) f_X0_9 rfl dX0_isTooLate_11 ?_
  refine y_getR hC (yS_o hS) (yS_r8 hS) f_X0_118 rfl dX0_isTooLate_14 ?_
  refine y_iload_n hC dX0_isTooLate_17 rfl ?_
  refine y_ialdGN hC hσ (by decide) (yS_a8 hS) (by omega) dX0_isTooLate_18 ?_
  refine y_iadd hC dX0_isTooLate_19 ?_
  refine y_icmp_le (tgt := 27) hC dX0_isTooLate_20 (by decide) (fun c20 => ?_) (fun c20 => ?_)
  · refine y_iconst (v := 0) hC dX0_isTooLate_27 (by decide) ?_
    exact y_iret hC hr rfl (Nat.zero_le _) (Nat.zero_le _) dX0_isTooLate_28 (by first | exact yF.t (by assumption) | exact yF.f (by assumption) | exact yF.tn (by assumption))
  · refine y_iconst (v := nI 1) hC dX0_isTooLate_23 (by decide) ?_
    refine y_goto (tgt := 28) hC dX0_isTooLate_24 (by decide) ?_
    exact y_iret hC hr rfl (Nat.zero_le _) (Nat.zero_le _) dX0_isTooLate_28 (by first | exact yF.t (by assumption) | exact yF.f (by assumption) | exact yF.tn (by assumption))
set_option maxRecDepth 100000 in
set_option maxHeartbeats 4000000 in
theorem c_X0_merchantOf (l : Launch) (D : yD) (z : Nat) {n : Nat} {sh : yS} {I : yI} {L : yL} {i su : Nat} {B : yI} (hB : yBook sh i su) {d : Nat} (hd : d < 20) (h7 : vp_in (B 7 d) 24) : yM l D z yX0_merchantOf cX0_merchantOf 2 (some .int) 0 0 0 [.ref i, .int (nI d)] n sh (sR 14 I i B) L (yF (some (.int (B 4 (tn (B 7 d))))) n sh (sR 14 I i B) L) (yno) := by
  refine yM_of (by decide) (Nat.le_of_ble_eq_true rfl) rfl ?_
  intro X hC hr hnm hRc hRs htb
  have hC : yC X D z cX0_merchantOf RX0 2 0 := hC
  refine y_aload_n hC dX0_merchantOf_0 rfl ?_
  refine y_getR hC (yB_o hB) (yB_r7 hB) f_X0_25 rfl dX0_merchantOf_1 ?_
  refine y_aload_n hC dX0_merchantOf_4 rfl ?_
  refine y_getR hC (yB_o hB) (yB_r11 hB) f_X0_34 rfl dX0_merchantOf_5 ?_
  refine y_iload_n hC dX0_merchantOf_8 rfl ?_
  refine y_ialdRN (w9 := 14) hC (by decide) (yB_a11 hB) (by omega) dX0_merchantOf_9 ?_
  refine y_ialdR (w9 := 14) hC (by decide) (yB_a7 hB) (by assumption) dX0_merchantOf_10 ?_
  exact y_iret hC hr rfl (Nat.zero_le _) (Nat.zero_le _) dX0_merchantOf_11 (yF.mk rfl)
set_option maxRecDepth 100000 in
set_option maxHeartbeats 4000000 in
theorem c_X0_isRecent (l : Launch) (D : yD) (z : Nat) {n : Nat} {sh : yS} {I : yI} {L : yL} {i su : Nat} {B : yI} (hB : yBook sh i su) {x : Int32} : yM l D z yX0_isRecent cX0_isRecent 2 (some .boolean) 0 0 0 [.ref i, .int x] n sh (sR 14 I i B) L (yF (some (.int (b2i (¬ x ≤ B 0 1 - 30)))) n sh (sR 14 I i B) L) (yno) := by
  refine yM_of (by decide) (Nat.le_of_ble_eq_true rfl) rfl ?_
  intro X hC hr hnm hRc hRs htb
  have hC : yC X D z cX0_isRecent RX0 2 0 := hC
  refine y_iload_n hC dX0_isRecent_0 rfl ?_
  refine y_aload_n hC dX0_isRecent_1 rfl ?_
  refine y_getIR (w9 := 14) hC (by decide) (yB_o hB) f_X0_55 rfl dX0_isRecent_2 ?_
  refine y_bipush (v := nI 30) hC dX0_isRecent_5 (by decide) ?_
  refine y_isub hC dX0_isRecent_7 ?_
  refine y_icmp_le (tgt := 15) hC dX0_isRecent_8 (by decide) (fun c8 => ?_) (fun c8 => ?_)
  · refine y_iconst (v := 0) hC dX0_isRecent_15 (by decide) ?_
    exact y_iret hC hr rfl (Nat.zero_le _) (Nat.zero_le _) dX0_isRecent_16 (by first | exact yF.t (by assumption) | exact yF.f (by assumption) | exact yF.tn (by assumption))
  · refine y_iconst (v := nI 1) hC dX0_isRecent_11 (by decide) ?_
    refine y_goto (tgt := 16) hC dX0_isRecent_12 (by decide) ?_
    exact y_iret hC hr rfl (Nat.zero_le _) (Nat.zero_le _) dX0_isRecent_16 (by first | exact yF.t (by assumption) | exact yF.f (by assumption) | exact yF.tn (by assumption))
/-- the merchant of purchase p gains g, the network gains w, the issuer pays both -/
def moveB (B : yI) (p : Nat) (g w : Int32) : yI := up2 (up2 (up2 B 2 (tn (B 4 p)) (B 2 (tn (B 4 p)) + g)) 0 4 (B 0 4 + w)) 1 (tn (B 3 p)) (B 1 (tn (B 3 p)) - (g + w))
set_option maxRecDepth 100000 in
set_option maxHeartbeats 4000000 in
theorem c_X0_moveMoney (l : Launch) (D : yD) (z : Nat) {n : Nat} {sh : yS} {I : yI} {L : yL} {i su : Nat} {B : yI} (hB : yBook sh i su) {x : Int32} {p : Nat} {g w : Int32} (hx : x = nI p) (hp : p < 24) (h4 : vp_in (B 4 p) 4) (h3 : vp_in (B 3 p) 4) : yM l D z yX0_moveMoney cX0_moveMoney 4 none 0 0 0 [.ref i, .int x, .int g, .int w] n sh (sR 14 I i B) L (yF none n sh (sR 14 I i (moveB B p g w)) L) (yno) := by
  subst hx
  refine yM_of (by decide) (Nat.le_of_ble_eq_true rfl) rfl ?_
  intro X hC hr hnm hRc hRs htb
  have hC : yC X D z cX0_moveMoney RX0 4 0 := hC
  refine y_aload_n hC dX0_moveMoney_0 rfl ?_
  refine y_getR hC (yB_o hB) (yB_r3 hB) f_X0_19 rfl dX0_moveMoney_1 ?_
  refine y_aload_n hC dX0_moveMoney_4 rfl ?_
  refine y_getR hC (yB_o hB) (yB_r7 hB) f_X0_25 rfl dX0_moveMoney_5 ?_
  refine y_iload_n hC dX0_moveMoney_8 rfl ?_
  refine y_ialdRN (w9 := 14) hC (by decide) (yB_a7 hB) (by omega) dX0_moveMoney_9 ?_
  refine y_dup2 hC dX0_moveMoney_10 rfl rfl ?_
  refine y_ialdR (w9 := 14) hC (by decide) (yB_a3 hB) (by assumption) dX0_moveMoney_11 ?_
  refine y_iload_n hC dX0_moveMoney_12 rfl ?_
  refine y_iadd hC dX0_moveMoney_13 ?_
  refine y_iastR (w9 := 14) hC (by decide) (yB_a3 hB) (by assumption) dX0_moveMoney_14 ?_
  refine y_aload_n hC dX0_moveMoney_15 rfl ?_
  refine y_dup hC dX0_moveMoney_16 rfl ?_
  refine y_getIR (w9 := 14) hC (by decide) (yB_o hB) f_X0_65 rfl dX0_moveMoney_17 ?_
  refine y_iload_n hC dX0_moveMoney_20 rfl ?_
  refine y_iadd hC dX0_moveMoney_21 ?_
  refine y_putIR (w9 := 14) hC (by decide) (yB_o hB) f_X0_65 rfl (Or.inl rfl) dX0_moveMoney_22 ?_
  refine y_aload_n hC dX0_moveMoney_25 rfl ?_
  refine y_getR hC (yB_o hB) (yB_r2 hB) f_X0_15 rfl dX0_moveMoney_26 ?_
  refine y_aload_n hC dX0_moveMoney_29 rfl ?_
  refine y_getR hC (yB_o hB) (yB_r6 hB) f_X0_22 rfl dX0_moveMoney_30 ?_
  refine y_iload_n hC dX0_moveMoney_33 rfl ?_
  refine y_ialdRN (w9 := 14) hC (by decide) (yB_a6 hB) (by omega) dX0_moveMoney_34 ?_
  refine y_dup2 hC dX0_moveMoney_35 rfl rfl ?_
  refine y_ialdR (w9 := 14) hC (by decide) (yB_a2 hB) (by assumption) dX0_moveMoney_36 ?_
  refine y_iload_n hC dX0_moveMoney_37 rfl ?_
  refine y_iload_n hC dX0_moveMoney_38 rfl ?_
  refine y_iadd hC dX0_moveMoney_39 ?_
  refine y_isub hC dX0_moveMoney_40 ?_
  refine y_iastR (w9 := 14) hC (by decide) (yB_a2 hB) (by assumption) dX0_moveMoney_41 ?_
  exact y_vret hC hr (Nat.zero_le _) (Nat.zero_le _) dX0_moveMoney_42 (yF.mk rfl)
/-- what a merchant's account gains when an open dispute ends so -/
def gainB (σ B : yI) (d : Nat) (o : Int32) : Int32 := if o = 5 then (if B 12 d = 1 ∨ B 12 d = 5 then 0 else B 9 d) + σ 0 2 else -(if B 12 d = 1 ∨ B 12 d = 5 then B 9 d else 0) - (if B 12 d = 3 then σ 0 3 else 0)
set_option maxRecDepth 100000 in
set_option maxHeartbeats 4000000 in
theorem c_X0_merchantGain (l : Launch) (D : yD) (z : Nat) {n : Nat} {sh : yS} {I : yI} {L : yL} {i su : Nat} {B : yI} (hB : yBook sh i su) {f : Nat} {σ : yI} (hS : ySet sh su f) (hσ : ySig I i su σ) {d : Nat} {o : Int32} (hd : d < 20) : yM l D z yX0_merchantGain cX0_merchantGain 5 (some .int) 1 0 0 [.ref i, .int (nI d), .int o] n sh (sR 14 I i B) L (yF (some (.int (gainB σ B d o))) n sh (sR 14 I i B) L) (yno) := by
  refine yM_of (by decide) (Nat.le_of_ble_eq_true rfl) rfl ?_
  intro X hC hr hnm hRc hRs htb
  have hC : yC X D z cX0_merchantGain RX0 5 1 := hC
  refine y_iload_n hC dX0_merchantGain_0 rfl ?_
  refine y_iconst (v := 5) hC dX0_merchantGain_1 (by decide) ?_
  refine y_icmp_ne (tgt := 34) hC dX0_merchantGain_2 (by decide) (fun c2 => ?_) (fun c2 => ?_)
  · refine y_aload_n hC dX0_merchantGain_34 rfl ?_
    refine y_iload_n hC dX0_merchantGain_35 rfl ?_
    refine y_callV1 hC (c_X0_merchantHolds X.2.1 D z hB hd) m_X0_151 rfl (yB_o hB) (by decide) (Nat.le_of_ble_eq_true rfl) (Nat.zero_le _) (Nat.zero_le _) dX0_merchantGain_36 ?_
    refine y_if_eqB (tgt := 51) hC dX0_merchantGain_39 (by decide) (fun c39 => ?_) (fun c39 => ?_)
    · refine y_iconst (v := nI 0) hC dX0_merchantGain_51 (by decide) ?_
      refine y_istore_n hC dX0_merchantGain_52 (by decide) rfl ?_
      refine y_aload_n hC dX0_merchantGain_53 rfl ?_
      refine y_getR hC (yB_o hB) (yB_r16 hB) f_X0_49 rfl dX0_merchantGain_54 ?_
      refine y_iload_n hC dX0_merchantGain_57 rfl ?_
      refine y_ialdRN (w9 := 14) hC (by decide) (yB_a16 hB) (by omega) dX0_merchantGain_58 ?_
      refine y_iconst (v := 3) hC dX0_merchantGain_59 (by decide) ?_
      refine y_icmp_ne (tgt := 73) hC dX0_merchantGain_60 (by decide) (fun c60 => ?_) (fun c60 => ?_)
      · refine y_iconst (v := nI 0) hC dX0_merchantGain_73 (by decide) ?_
        refine y_istore hC dX0_merchantGain_74 (by decide) rfl ?_
        refine y_iload_n hC dX0_merchantGain_76 rfl ?_
        refine y_ineg hC dX0_merchantGain_77 ?_
        refine y_iload hC dX0_merchantGain_78 rfl ?_
        refine y_isub hC dX0_merchantGain_80 ?_
        exact y_iret hC hr rfl (Nat.zero_le _) (Nat.zero_le _) dX0_merchantGain_81 (yF.mk (by first | (simp only [gainB, *, if_true, if_false, reduceIte]; done) | (simp only [gainB, *, if_true, if_false, reduceIte]; rfl) | simp_all [gainB]))
      · refine y_aload_n hC dX0_merchantGain_63 rfl ?_
        refine y_getR hC (yB_o hB) (yB_r0 hB) f_X0_9 rfl dX0_merchantGain_64 ?_
        refine y_getIG hC hσ (yS_o hS) f_X0_95 rfl dX0_merchantGain_67 ?_
        refine y_goto (tgt := 74) hC dX0_merchantGain_70 (by decide) ?_
        refine y_istore hC dX0_merchantGain_74 (by decide) rfl ?_
        refine y_iload_n hC dX0_merchantGain_76 rfl ?_
        refine y_ineg hC dX0_merchantGain_77 ?_
        refine y_iload hC dX0_merchantGain_78 rfl ?_
        refine y_isub hC dX0_merchantGain_80 ?_
        exact y_iret hC hr rfl (Nat.zero_le _) (Nat.zero_le _) dX0_merchantGain_81 (yF.mk (by first | (simp only [gainB, *, if_true, if_false, reduceIte]; done) | (simp only [gainB, *, if_true, if_false, reduceIte]; rfl) | simp_all [gainB]))
    · refine y_aload_n hC dX0_merchantGain_42 rfl ?_
      refine y_getR hC (yB_o hB) (yB_r13 hB) f_X0_40 rfl dX0_merchantGain_43 ?_
      refine y_iload_n hC dX0_merchantGain_46 rfl ?_
      refine y_ialdRN (w9 := 14) hC (by decide) (yB_a13 hB) (by omega) dX0_merchantGain_47 ?_
      refine y_goto (tgt := 52) hC dX0_merchantGain_48 (by decide) ?_
      refine y_istore_n hC dX0_merchantGain_52 (by decide) rfl ?_
      refine y_aload_n hC dX0_merchantGain_53 rfl ?_
      refine y_getR hC (yB_o hB) (yB_r16 hB) f_X0_49 rfl dX0_merchantGain_54 ?_
      refine y_iload_n hC dX0_merchantGain_57 rfl ?_
      refine y_ialdRN (w9 := 14) hC (by decide) (yB_a16 hB) (by omega) dX0_merchantGain_58 ?_
      refine y_iconst (v := 3) hC dX0_merchantGain_59 (by decide) ?_
      refine y_icmp_ne (tgt := 73) hC dX0_merchantGain_60 (by decide) (fun c60 => ?_) (fun c60 => ?_)
      · refine y_iconst (v := nI 0) hC dX0_merchantGain_73 (by decide) ?_
        refine y_istore hC dX0_merchantGain_74 (by decide) rfl ?_
        refine y_iload_n hC dX0_merchantGain_76 rfl ?_
        refine y_ineg hC dX0_merchantGain_77 ?_
        refine y_iload hC dX0_merchantGain_78 rfl ?_
        refine y_isub hC dX0_merchantGain_80 ?_
        exact y_iret hC hr rfl (Nat.zero_le _) (Nat.zero_le _) dX0_merchantGain_81 (yF.mk (by first | (simp only [gainB, *, if_true, if_false, reduceIte]; done) | (simp only [gainB, *, if_true, if_false, reduceIte]; rfl) | simp_all [gainB]))
      · refine y_aload_n hC dX0_merchantGain_63 rfl ?_
        refine y_getR hC (yB_o hB) (yB_r0 hB) f_X0_9 rfl dX0_merchantGain_64 ?_
        refine y_getIG hC hσ (yS_o hS) f_X0_95 rfl dX0_merchantGain_67 ?_
        refine y_goto (tgt := 74) hC dX0_merchantGain_70 (by decide) ?_
        refine y_istore hC dX0_merchantGain_74 (by decide) rfl ?_
        refine y_iload_n hC dX0_merchantGain_76 rfl ?_
        refine y_ineg hC dX0_merchantGain_77 ?_
        refine y_iload hC dX0_merchantGain_78 rfl ?_
        refine y_isub hC dX0_merchantGain_80 ?_
        exact y_iret hC hr rfl (Nat.zero_le _) (Nat.zero_le _) dX0_merchantGain_81 (yF.mk (by first | (simp only [gainB, *, if_true, if_false, reduceIte]; done) | (simp only [gainB, *, if_true, if_false, reduceIte]; rfl) | simp_all [gainB]))
  · refine y_aload_n hC dX0_merchantGain_5 rfl ?_
    refine y_iload_n hC dX0_merchantGain_6 rfl ?_
    refine y_callV1 hC (c_X0_merchantHolds X.2.1 D z hB hd) m_X0_151 rfl (yB_o hB) (by decide) (Nat.le_of_ble_eq_true rfl) (Nat.zero_le _) (Nat.zero_le _) dX0_merchantGain_7 ?_
    refine y_if_eqB (tgt := 17) hC dX0_merchantGain_10 (by decide) (fun c10 => ?_) (fun c10 => ?_)
    · refine y_aload_n hC dX0_merchantGain_17 rfl ?_
      refine y_getR hC (yB_o hB) (yB_r13 hB) f_X0_40 rfl dX0_merchantGain_18 ?_
      refine y_iload_n hC dX0_merchantGain_21 rfl ?_
      refine y_ialdRN (w9 := 14) hC (by decide) (yB_a13 hB) (by omega) dX0_merchantGain_22 ?_
      refine y_istore_n hC dX0_merchantGain_23 (by decide) rfl ?_
      refine y_iload_n hC dX0_merchantGain_24 rfl ?_
      refine y_aload_n hC dX0_merchantGain_25 rfl ?_
      refine y_getR hC (yB_o hB) (yB_r0 hB) f_X0_9 rfl dX0_merchantGain_26 ?_
      refine y_getIG hC hσ (yS_o hS) f_X0_89 rfl dX0_merchantGain_29 ?_
      refine y_iadd hC dX0_merchantGain_32 ?_
      exact y_iret hC hr rfl (Nat.zero_le _) (Nat.zero_le _) dX0_merchantGain_33 (yF.mk (by first | (simp only [gainB, *, if_true, if_false, reduceIte]; done) | (simp only [gainB, *, if_true, if_false, reduceIte]; rfl) | simp_all [gainB]))
    · refine y_iconst (v := nI 0) hC dX0_merchantGain_13 (by decide) ?_
      refine y_goto (tgt := 23) hC dX0_merchantGain_14 (by decide) ?_
      refine y_istore_n hC dX0_merchantGain_23 (by decide) rfl ?_
      refine y_iload_n hC dX0_merchantGain_24 rfl ?_
      refine y_aload_n hC dX0_merchantGain_25 rfl ?_
      refine y_getR hC (yB_o hB) (yB_r0 hB) f_X0_9 rfl dX0_merchantGain_26 ?_
      refine y_getIG hC hσ (yS_o hS) f_X0_89 rfl dX0_merchantGain_29 ?_
      refine y_iadd hC dX0_merchantGain_32 ?_
      exact y_iret hC hr rfl (Nat.zero_le _) (Nat.zero_le _) dX0_merchantGain_33 (yF.mk (by first | (simp only [gainB, *, if_true, if_false, reduceIte]; done) | (simp only [gainB, *, if_true, if_false, reduceIte]; rfl) | simp_all [gainB]))
set_option maxRecDepth 100000 in
set_option maxHeartbeats 4000000 in
theorem c_X0_disputedAmount (l : Launch) (D : yD) (z : Nat) {n : Nat} {sh : yS} {I : yI} {L : yL} {i su : Nat} {B : yI} (hB : yBook sh i su) {nd : Nat} (hnd : B 0 10 = nI nd) (hnl : nd ≤ 20) {p : Int32} : yM l D z yX0_disputedAmount cX0_disputedAmount 4 (some .int) 0 0 0 [.ref i, .int p] n sh (sR 14 I i B) L (yF (some (.int (sm (fun k => if B 7 k = p ∧ ¬ B 12 k = 5 then B 9 k else 0) nd))) n sh (sR 14 I i B) L) (yno) := by
  refine yM_of (by decide) (Nat.le_of_ble_eq_true rfl) rfl ?_
  intro X hC hr hnm hRc hRs htb
  have hC : yC X D z cX0_disputedAmount RX0 4 0 := hC
  refine y_iconst (v := nI 0) hC dX0_disputedAmount_0 (by decide) ?_
  refine y_istore_n hC dX0_disputedAmount_1 (by decide) rfl ?_
  refine y_iconst (v := nI 0) hC dX0_disputedAmount_2 (by decide) ?_
  refine y_istore_n hC dX0_disputedAmount_3 (by decide) rfl ?_
  have lp4 : ∀ (f9 j : Nat) (s : Int32), j + f9 = nd → s = sm (fun k => if B 7 k = p ∧ ¬ B 12 k = 5 then B 9 k else 0) j → Y X D z 4 n sh (sR 14 I i B) L 0 0 (yEnd X D z (yF (some (.int (sm (fun k => if B 7 k = p ∧ ¬ B 12 k = 5 then B 9 k else 0) nd))) n sh (sR 14 I i B) L) (yno) 0 0) 4 [some (.ref i), some (.int p), some (.int s), some (.int (nI j))] [] := by
    intro f9
    induction f9 with
    | zero =>
      intro j s hm hi
      refine y_iload_n hC dX0_disputedAmount_4 rfl ?_
      refine y_aload_n hC dX0_disputedAmount_5 rfl ?_
      refine y_getIR (w9 := 14) hC (by decide) (yB_o hB) f_X0_71 rfl dX0_disputedAmount_6 ?_
      rw [hnd]
      refine y_icmp_ge (tgt := 47) hC dX0_disputedAmount_9 (by decide) (fun c9 => ?_) (fun c9 => absurd (nI_le (by omega) (by omega)) c9)
      refine y_iload_n hC dX0_disputedAmount_47 rfl ?_
      exact y_iret hC hr rfl (Nat.zero_le _) (Nat.zero_le _) dX0_disputedAmount_48 (yF.mk (by rw [hi, show j = nd by omega]))
    | succ f9 ih =>
      intro j s hm hi
      refine y_iload_n hC dX0_disputedAmount_4 rfl ?_
      refine y_aload_n hC dX0_disputedAmount_5 rfl ?_
      refine y_getIR (w9 := 14) hC (by decide) (yB_o hB) f_X0_71 rfl dX0_disputedAmount_6 ?_
      rw [hnd]
      refine y_icmp_ge (tgt := 47) hC dX0_disputedAmount_9 (by decide) (fun c9 => absurd c9 (nI_ge (by omega) (by omega))) (fun c9 => ?_)
      refine y_aload_n hC dX0_disputedAmount_12 rfl ?_
      refine y_getR hC (yB_o hB) (yB_r11 hB) f_X0_34 rfl dX0_disputedAmount_13 ?_
      refine y_iload_n hC dX0_disputedAmount_16 rfl ?_
      refine y_ialdRN (w9 := 14) hC (by decide) (yB_a11 hB) (by omega) dX0_disputedAmount_17 ?_
      refine y_iload_n hC dX0_disputedAmount_18 rfl ?_
      refine y_icmp_ne (tgt := 41) hC dX0_disputedAmount_19 (by decide) (fun c19 => ?_) (fun c19 => ?_)
      · refine y_iincN hC dX0_disputedAmount_41 rfl rfl (by decide) rfl ?_
        refine y_goto (tgt := 4) hC dX0_disputedAmount_44 (by decide) ?_
        exact ih (j + 1) _ (by omega) (by rw [hi]; simp [sm, *])
      · refine y_aload_n hC dX0_disputedAmount_22 rfl ?_
        refine y_getR hC (yB_o hB) (yB_r16 hB) f_X0_49 rfl dX0_disputedAmount_23 ?_
        refine y_iload_n hC dX0_disputedAmount_26 rfl ?_
        refine y_ialdRN (w9 := 14) hC (by decide) (yB_a16 hB) (by omega) dX0_disputedAmount_27 ?_
        refine y_iconst (v := 5) hC dX0_disputedAmount_28 (by decide) ?_
        refine y_icmp_eq (tgt := 41) hC dX0_disputedAmount_29 (by decide) (fun c29 => ?_) (fun c29 => ?_)
        · refine y_iincN hC dX0_disputedAmount_41 rfl rfl (by decide) rfl ?_
          refine y_goto (tgt := 4) hC dX0_disputedAmount_44 (by decide) ?_
          exact ih (j + 1) _ (by omega) (by rw [hi]; simp [sm, *])
        · refine y_iload_n hC dX0_disputedAmount_32 rfl ?_
          refine y_aload_n hC dX0_disputedAmount_33 rfl ?_
          refine y_getR hC (yB_o hB) (yB_r13 hB) f_X0_40 rfl dX0_disputedAmount_34 ?_
          refine y_iload_n hC dX0_disputedAmount_37 rfl ?_
          refine y_ialdRN (w9 := 14) hC (by decide) (yB_a13 hB) (by omega) dX0_disputedAmount_38 ?_
          refine y_iadd hC dX0_disputedAmount_39 ?_
          refine y_istore_n hC dX0_disputedAmount_40 (by decide) rfl ?_
          refine y_iincN hC dX0_disputedAmount_41 rfl rfl (by decide) rfl ?_
          refine y_goto (tgt := 4) hC dX0_disputedAmount_44 (by decide) ?_
          exact ih (j + 1) _ (by omega) (by rw [hi]; simp [sm, *])
  exact lp4 nd 0 _ (Nat.zero_add _) rfl
/-- the least deadline of the open ones among the first k -/
def edl (st dl : Nat → Int32) : Nat → Int32
  | 0 => -1
  | k + 1 => if st k = 4 ∨ st k = 5 then edl st dl k else if edl st dl k = -1 ∨ ¬ edl st dl k ≤ dl k then dl k else edl st dl k
set_option maxRecDepth 100000 in
set_option maxHeartbeats 4000000 in
theorem c_X0_earliestDeadline (l : Launch) (D : yD) (z : Nat) {n : Nat} {sh : yS} {I : yI} {L : yL} {i su : Nat} {B : yI} (hB : yBook sh i su) {nd : Nat} (hnd : B 0 10 = nI nd) (hnl : nd ≤ 20) : yM l D z yX0_earliestDeadline cX0_earliestDeadline 3 (some .int) 1 0 0 [.ref i] n sh (sR 14 I i B) L (yF (some (.int (edl (B 12) (B 13) nd))) n sh (sR 14 I i B) L) (yno) := by
  refine yM_of (by decide) (Nat.le_of_ble_eq_true rfl) rfl ?_
  intro X hC hr hnm hRc hRs htb
  have hC : yC X D z cX0_earliestDeadline RX0 3 1 := hC
  refine y_iconst (v := (-1)) hC dX0_earliestDeadline_0 (by decide) ?_
  refine y_istore_n hC dX0_earliestDeadline_1 (by decide) rfl ?_
  refine y_iconst (v := nI 0) hC dX0_earliestDeadline_2 (by decide) ?_
  refine y_istore_n hC dX0_earliestDeadline_3 (by decide) rfl ?_
  have lp4 : ∀ (f9 j : Nat) (s : Int32), j + f9 = nd → s = edl (B 12) (B 13) j → Y X D z 3 n sh (sR 14 I i B) L 0 0 (yEnd X D z (yF (some (.int (edl (B 12) (B 13) nd))) n sh (sR 14 I i B) L) (yno) 0 0) 4 [some (.ref i), some (.int s), some (.int (nI j))] [] := by
    intro f9
    induction f9 with
    | zero =>
      intro j s hm hi
      refine y_iload_n hC dX0_earliestDeadline_4 rfl ?_
      refine y_aload_n hC dX0_earliestDeadline_5 rfl ?_
      refine y_getIR (w9 := 14) hC (by decide) (yB_o hB) f_X0_71 rfl dX0_earliestDeadline_6 ?_
      rw [hnd]
      refine y_icmp_ge (tgt := 48) hC dX0_earliestDeadline_9 (by decide) (fun c9 => ?_) (fun c9 => absurd (nI_le (by omega) (by omega)) c9)
      refine y_iload_n hC dX0_earliestDeadline_48 rfl ?_
      exact y_iret hC hr rfl (Nat.zero_le _) (Nat.zero_le _) dX0_earliestDeadline_49 (yF.mk (by rw [hi, show j = nd by omega]))
    | succ f9 ih =>
      intro j s hm hi
      refine y_iload_n hC dX0_earliestDeadline_4 rfl ?_
      refine y_aload_n hC dX0_earliestDeadline_5 rfl ?_
      refine y_getIR (w9 := 14) hC (by decide) (yB_o hB) f_X0_71 rfl dX0_earliestDeadline_6 ?_
      rw [hnd]
      refine y_icmp_ge (tgt := 48) hC dX0_earliestDeadline_9 (by decide) (fun c9 => absurd c9 (nI_ge (by omega) (by omega))) (fun c9 => ?_)
      refine y_aload_n hC dX0_earliestDeadline_12 rfl ?_
      refine y_iload_n hC dX0_earliestDeadline_13 rfl ?_
      refine y_callV1 hC (c_X0_isFinal X.2.1 D z hB (by omega)) m_X0_102 rfl (yB_o hB) (by decide) (Nat.le_of_ble_eq_true rfl) (Nat.zero_le _) (Nat.zero_le _) dX0_earliestDeadline_14 ?_
      refine y_if_neB (tgt := 42) hC dX0_earliestDeadline_17 (by decide) (fun c17 => ?_) (fun c17 => ?_)
      · refine y_iincN hC dX0_earliestDeadline_42 rfl rfl (by decide) rfl ?_
        refine y_goto (tgt := 4) hC dX0_earliestDeadline_45 (by decide) ?_
        exact ih (j + 1) _ (by omega) (by subst hi; simp [edl, *])
      · refine y_iload_n hC dX0_earliestDeadline_20 rfl ?_
        refine y_iconst (v := (-1)) hC dX0_earliestDeadline_21 (by decide) ?_
        refine y_icmp_eq (tgt := 35) hC dX0_earliestDeadline_22 (by decide) (fun c22 => ?_) (fun c22 => ?_)
        · refine y_aload_n hC dX0_earliestDeadline_35 rfl ?_
          refine y_getR hC (yB_o hB) (yB_r17 hB) f_X0_52 rfl dX0_earliestDeadline_36 ?_
          refine y_iload_n hC dX0_earliestDeadline_39 rfl ?_
          refine y_ialdRN (w9 := 14) hC (by decide) (yB_a17 hB) (by omega) dX0_earliestDeadline_40 ?_
          refine y_istore_n hC dX0_earliestDeadline_41 (by decide) rfl ?_
          refine y_iincN hC dX0_earliestDeadline_42 rfl rfl (by decide) rfl ?_
          refine y_goto (tgt := 4) hC dX0_earliestDeadline_45 (by decide) ?_
          exact ih (j + 1) _ (by omega) (by subst hi; simp [edl, *])
        · refine y_aload_n hC dX0_earliestDeadline_25 rfl ?_
          refine y_getR hC (yB_o hB) (yB_r17 hB) f_X0_52 rfl dX0_earliestDeadline_26 ?_
          refine y_iload_n hC dX0_earliestDeadline_29 rfl ?_
          refine y_ialdRN (w9 := 14) hC (by decide) (yB_a17 hB) (by omega) dX0_earliestDeadline_30 ?_
          refine y_iload_n hC dX0_earliestDeadline_31 rfl ?_
          refine y_icmp_ge (tgt := 42) hC dX0_earliestDeadline_32 (by decide) (fun c32 => ?_) (fun c32 => ?_)
          · refine y_iincN hC dX0_earliestDeadline_42 rfl rfl (by decide) rfl ?_
            refine y_goto (tgt := 4) hC dX0_earliestDeadline_45 (by decide) ?_
            exact ih (j + 1) _ (by omega) (by subst hi; simp [edl, *])
          · refine y_aload_n hC dX0_earliestDeadline_35 rfl ?_
            refine y_getR hC (yB_o hB) (yB_r17 hB) f_X0_52 rfl dX0_earliestDeadline_36 ?_
            refine y_iload_n hC dX0_earliestDeadline_39 rfl ?_
            refine y_ialdRN (w9 := 14) hC (by decide) (yB_a17 hB) (by omega) dX0_earliestDeadline_40 ?_
            refine y_istore_n hC dX0_earliestDeadline_41 (by decide) rfl ?_
            refine y_iincN hC dX0_earliestDeadline_42 rfl rfl (by decide) rfl ?_
            refine y_goto (tgt := 4) hC dX0_earliestDeadline_45 (by decide) ?_
            exact ih (j + 1) _ (by omega) (by subst hi; simp [edl, *])
  exact lp4 nd 0 _ (Nat.zero_add _) rfl
def rateB (B : yI) (np nd : Nat) (m : Int32) : Int32 := if sm (fun k => if B 4 k = m ∧ ¬ B 6 k ≤ B 0 1 - 30 then 1 else 0) np = 0 then 0 else sm (fun k => if B 4 (tn (B 7 k)) = m ∧ ¬ B 10 k ≤ B 0 1 - 30 then 1 else 0) nd * 1000 / sm (fun k => if B 4 k = m ∧ ¬ B 6 k ≤ B 0 1 - 30 then 1 else 0) np
set_option maxRecDepth 100000 in
set_option maxHeartbeats 4000000 in
theorem c_X0_disputeRate (l : Launch) (D : yD) (z : Nat) {n : Nat} {sh : yS} {I : yI} {L : yL} {i su : Nat} {B : yI} (hB : yBook sh i su) {np : Nat} (hnp : B 0 5 = nI np) (hpl : np ≤ 24) {nd : Nat} (hnd : B 0 10 = nI nd) (hnl : nd ≤ 20) (h7 : ∀ k, k < nd → vp_in (B 7 k) 24) {m : Int32} : yM l D z yX0_disputeRate cX0_disputeRate 5 (some .int) 1 0 0 [.ref i, .int m] n sh (sR 14 I i B) L (yF (some (.int (rateB B np nd m))) n sh (sR 14 I i B) L) (yno) := by
  refine yM_of (by decide) (Nat.le_of_ble_eq_true rfl) rfl ?_
  intro X hC hr hnm hRc hRs htb
  have hC : yC X D z cX0_disputeRate RX0 5 1 := hC
  refine y_iconst (v := nI 0) hC dX0_disputeRate_0 (by decide) ?_
  refine y_istore_n hC dX0_disputeRate_1 (by decide) rfl ?_
  refine y_iconst (v := nI 0) hC dX0_disputeRate_2 (by decide) ?_
  refine y_istore_n hC dX0_disputeRate_3 (by decide) rfl ?_
  have lp4 : ∀ (f9 j : Nat) (s : Int32), j + f9 = np → s = sm (fun k => if B 4 k = m ∧ ¬ B 6 k ≤ B 0 1 - 30 then 1 else 0) j → Y X D z 5 n sh (sR 14 I i B) L 0 0 (yEnd X D z (yF (some (.int (rateB B np nd m))) n sh (sR 14 I i B) L) (yno) 0 0) 4 [some (.ref i), some (.int m), some (.int s), some (.int (nI j)), none] [] := by
    intro f9
    induction f9 with
    | zero =>
      intro j s hm hi
      refine y_iload_n hC dX0_disputeRate_4 rfl ?_
      refine y_aload_n hC dX0_disputeRate_5 rfl ?_
      refine y_getIR (w9 := 14) hC (by decide) (yB_o hB) f_X0_68 rfl dX0_disputeRate_6 ?_
      rw [hnp]
      refine y_icmp_ge (tgt := 44) hC dX0_disputeRate_9 (by decide) (fun c9 => ?_) (fun c9 => absurd (nI_le (by omega) (by omega)) c9)
      refine y_iconst (v := nI 0) hC dX0_disputeRate_44 (by decide) ?_
      refine y_istore_n hC dX0_disputeRate_45 (by decide) rfl ?_
      refine y_iconst (v := nI 0) hC dX0_disputeRate_46 (by decide) ?_
      refine y_istore hC dX0_disputeRate_47 (by decide) rfl ?_
      have lp49 : ∀ (f9 j2 : Nat) (s2 : Int32), j2 + f9 = nd → s2 = sm (fun k => if B 4 (tn (B 7 k)) = m ∧ ¬ B 10 k ≤ B 0 1 - 30 then 1 else 0) j2 → Y X D z 5 n sh (sR 14 I i B) L 0 0 (yEnd X D z (yF (some (.int (rateB B np nd m))) n sh (sR 14 I i B) L) (yno) 0 0) 49 [some (.ref i), some (.int m), some (.int s), some (.int s2), some (.int (nI j2))] [] := by
        intro f9
        induction f9 with
        | zero =>
          intro j2 s2 hm2 hi2
          refine y_iload hC dX0_disputeRate_49 rfl ?_
          refine y_aload_n hC dX0_disputeRate_51 rfl ?_
          refine y_getIR (w9 := 14) hC (by decide) (yB_o hB) f_X0_71 rfl dX0_disputeRate_52 ?_
          rw [hnd]
          refine y_icmp_ge (tgt := 91) hC dX0_disputeRate_55 (by decide) (fun c55 => ?_) (fun c55 => absurd (nI_le (by omega) (by omega)) c55)
          refine y_iload_n hC dX0_disputeRate_91 rfl ?_
          refine y_if_ne (tgt := 99) hC dX0_disputeRate_92 (by decide) (fun c92 => ?_) (fun c92 => ?_)
          · refine y_iload_n hC dX0_disputeRate_99 rfl ?_
            refine y_sipush (v := 1000) hC dX0_disputeRate_100 (by decide) ?_
            refine y_imul hC dX0_disputeRate_103 ?_
            refine y_iload_n hC dX0_disputeRate_104 rfl ?_
            refine y_idiv hC dX0_disputeRate_105 c92 ?_
            exact y_iret hC hr rfl (Nat.zero_le _) (Nat.zero_le _) dX0_disputeRate_106 (yF.mk (by obtain rfl : j = np := (by omega); obtain rfl : j2 = nd := (by omega); subst hi; subst hi2; first | (rw [rateB, if_pos c92]; rfl) | rw [rateB, if_neg c92]))
          · refine y_iconst (v := nI 0) hC dX0_disputeRate_95 (by decide) ?_
            refine y_goto (tgt := 106) hC dX0_disputeRate_96 (by decide) ?_
            exact y_iret hC hr rfl (Nat.zero_le _) (Nat.zero_le _) dX0_disputeRate_106 (yF.mk (by obtain rfl : j = np := (by omega); obtain rfl : j2 = nd := (by omega); subst hi; subst hi2; first | (rw [rateB, if_pos c92]; rfl) | rw [rateB, if_neg c92]))
        | succ f9 ih =>
          intro j2 s2 hm2 hi2
          refine y_iload hC dX0_disputeRate_49 rfl ?_
          refine y_aload_n hC dX0_disputeRate_51 rfl ?_
          refine y_getIR (w9 := 14) hC (by decide) (yB_o hB) f_X0_71 rfl dX0_disputeRate_52 ?_
          rw [hnd]
          refine y_icmp_ge (tgt := 91) hC dX0_disputeRate_55 (by decide) (fun c55 => absurd c55 (nI_ge (by omega) (by omega))) (fun c55 => ?_)
          refine y_aload_n hC dX0_disputeRate_58 rfl ?_
          refine y_iload hC dX0_disputeRate_59 rfl ?_
          refine y_callV1 hC (c_X0_merchantOf X.2.1 D z hB (by omega) (h7 _ (by omega))) m_X0_133 rfl (yB_o hB) (by decide) (Nat.le_of_ble_eq_true rfl) (Nat.zero_le _) (Nat.zero_le _) dX0_disputeRate_61 ?_
          refine y_iload_n hC dX0_disputeRate_64 rfl ?_
          refine y_icmp_ne (tgt := 85) hC dX0_disputeRate_65 (by decide) (fun c65 => ?_) (fun c65 => ?_)
          · refine y_iincN hC dX0_disputeRate_85 rfl rfl (by decide) rfl ?_
            refine y_goto (tgt := 49) hC dX0_disputeRate_88 (by decide) ?_
            exact ih (j2 + 1) _ (by omega) (by rw [hi2]; simp [sm, *])
          · refine y_aload_n hC dX0_disputeRate_68 rfl ?_
            refine y_aload_n hC dX0_disputeRate_69 rfl ?_
            refine y_getR hC (yB_o hB) (yB_r14 hB) f_X0_43 rfl dX0_disputeRate_70 ?_
            refine y_iload hC dX0_disputeRate_73 rfl ?_
            refine y_ialdRN (w9 := 14) hC (by decide) (yB_a14 hB) (by omega) dX0_disputeRate_75 ?_
            refine y_callV1 hC (c_X0_isRecent X.2.1 D z hB) m_X0_130 rfl (yB_o hB) (by decide) (Nat.le_of_ble_eq_true rfl) (Nat.zero_le _) (Nat.zero_le _) dX0_disputeRate_76 ?_
            refine y_if_eqB (tgt := 85) hC dX0_disputeRate_79 (by decide) (fun c79 => ?_) (fun c79 => ?_)
            · refine y_iincN hC dX0_disputeRate_85 rfl rfl (by decide) rfl ?_
              refine y_goto (tgt := 49) hC dX0_disputeRate_88 (by decide) ?_
              exact ih (j2 + 1) _ (by omega) (by rw [hi2]; simp [sm, *])
            · refine y_iinc hC dX0_disputeRate_82 rfl rfl (by decide) rfl ?_
              refine y_iincN hC dX0_disputeRate_85 rfl rfl (by decide) rfl ?_
              refine y_goto (tgt := 49) hC dX0_disputeRate_88 (by decide) ?_
              exact ih (j2 + 1) _ (by omega) (by rw [hi2]; simp [sm, *])
      exact lp49 nd 0 _ (Nat.zero_add _) rfl
    | succ f9 ih =>
      intro j s hm hi
      refine y_iload_n hC dX0_disputeRate_4 rfl ?_
      refine y_aload_n hC dX0_disputeRate_5 rfl ?_
      refine y_getIR (w9 := 14) hC (by decide) (yB_o hB) f_X0_68 rfl dX0_disputeRate_6 ?_
      rw [hnp]
      refine y_icmp_ge (tgt := 44) hC dX0_disputeRate_9 (by decide) (fun c9 => absurd c9 (nI_ge (by omega) (by omega))) (fun c9 => ?_)
      refine y_aload_n hC dX0_disputeRate_12 rfl ?_
      refine y_getR hC (yB_o hB) (yB_r7 hB) f_X0_25 rfl dX0_disputeRate_13 ?_
      refine y_iload_n hC dX0_disputeRate_16 rfl ?_
      refine y_ialdRN (w9 := 14) hC (by decide) (yB_a7 hB) (by omega) dX0_disputeRate_17 ?_
      refine y_iload_n hC dX0_disputeRate_18 rfl ?_
      refine y_icmp_ne (tgt := 38) hC dX0_disputeRate_19 (by decide) (fun c19 => ?_) (fun c19 => ?_)
      · refine y_iincN hC dX0_disputeRate_38 rfl rfl (by decide) rfl ?_
        refine y_goto (tgt := 4) hC dX0_disputeRate_41 (by decide) ?_
        exact ih (j + 1) _ (by omega) (by rw [hi]; simp [sm, *])
      · refine y_aload_n hC dX0_disputeRate_22 rfl ?_
        refine y_aload_n hC dX0_disputeRate_23 rfl ?_
        refine y_getR hC (yB_o hB) (yB_r9 hB) f_X0_31 rfl dX0_disputeRate_24 ?_
        refine y_iload_n hC dX0_disputeRate_27 rfl ?_
        refine y_ialdRN (w9 := 14) hC (by decide) (yB_a9 hB) (by omega) dX0_disputeRate_28 ?_
        refine y_callV1 hC (c_X0_isRecent X.2.1 D z hB) m_X0_130 rfl (yB_o hB) (by decide) (Nat.le_of_ble_eq_true rfl) (Nat.zero_le _) (Nat.zero_le _) dX0_disputeRate_29 ?_
        refine y_if_eqB (tgt := 38) hC dX0_disputeRate_32 (by decide) (fun c32 => ?_) (fun c32 => ?_)
        · refine y_iincN hC dX0_disputeRate_38 rfl rfl (by decide) rfl ?_
          refine y_goto (tgt := 4) hC dX0_disputeRate_41 (by decide) ?_
          exact ih (j + 1) _ (by omega) (by rw [hi]; simp [sm, *])
        · refine y_iinc hC dX0_disputeRate_35 rfl rfl (by decide) rfl ?_
          refine y_iincN hC dX0_disputeRate_38 rfl rfl (by decide) rfl ?_
          refine y_goto (tgt := 4) hC dX0_disputeRate_41 (by decide) ?_
          exact ih (j + 1) _ (by omega) (by rw [hi]; simp [sm, *])
  exact lp4 np 0 _ (Nat.zero_add _) rfl
set_option maxRecDepth 100000 in
set_option maxHeartbeats 4000000 in
theorem c_X0_openAmount (l : Launch) (D : yD) (z : Nat) {n : Nat} {sh : yS} {I : yI} {L : yL} {i su : Nat} {B : yI} (hB : yBook sh i su) {nd : Nat} (hnd : B 0 10 = nI nd) (hnl : nd ≤ 20) (h7 : ∀ k, k < nd → vp_in (B 7 k) 24) {m : Int32} : yM l D z yX0_openAmount cX0_openAmount 4 (some .int) 1 0 0 [.ref i, .int m] n sh (sR 14 I i B) L (yF (some (.int (sm (fun k => if B 4 (tn (B 7 k)) = m ∧ ¬ (B 12 k = 4 ∨ B 12 k = 5) then B 9 k else 0) nd))) n sh (sR 14 I i B) L) (yno) := by
  refine yM_of (by decide) (Nat.le_of_ble_eq_true rfl) rfl ?_
  intro X hC hr hnm hRc hRs htb
  have hC : yC X D z cX0_openAmount RX0 4 1 := hC
  refine y_iconst (v := nI 0) hC dX0_openAmount_0 (by decide) ?_
  refine y_istore_n hC dX0_openAmount_1 (by decide) rfl ?_
  refine y_iconst (v := nI 0) hC dX0_openAmount_2 (by decide) ?_
  refine y_istore_n hC dX0_openAmount_3 (by decide) rfl ?_
  have lp4 : ∀ (f9 j : Nat) (s : Int32), j + f9 = nd → s = sm (fun k => if B 4 (tn (B 7 k)) = m ∧ ¬ (B 12 k = 4 ∨ B 12 k = 5) then B 9 k else 0) j → Y X D z 4 n sh (sR 14 I i B) L 0 0 (yEnd X D z (yF (some (.int (sm (fun k => if B 4 (tn (B 7 k)) = m ∧ ¬ (B 12 k = 4 ∨ B 12 k = 5) then B 9 k else 0) nd))) n sh (sR 14 I i B) L) (yno) 0 0) 4 [some (.ref i), some (.int m), some (.int s), some (.int (nI j))] [] := by
    intro f9
    induction f9 with
    | zero =>
      intro j s hm hi
      refine y_iload_n hC dX0_openAmount_4 rfl ?_
      refine y_aload_n hC dX0_openAmount_5 rfl ?_
      refine y_getIR (w9 := 14) hC (by decide) (yB_o hB) f_X0_71 rfl dX0_openAmount_6 ?_
      rw [hnd]
      refine y_icmp_ge (tgt := 44) hC dX0_openAmount_9 (by decide) (fun c9 => ?_) (fun c9 => absurd (nI_le (by omega) (by omega)) c9)
      refine y_iload_n hC dX0_openAmount_44 rfl ?_
      exact y_iret hC hr rfl (Nat.zero_le _) (Nat.zero_le _) dX0_openAmount_45 (yF.mk (by rw [hi, show j = nd by omega]))
    | succ f9 ih =>
      intro j s hm hi
      refine y_iload_n hC dX0_openAmount_4 rfl ?_
      refine y_aload_n hC dX0_openAmount_5 rfl ?_
      refine y_getIR (w9 := 14) hC (by decide) (yB_o hB) f_X0_71 rfl dX0_openAmount_6 ?_
      rw [hnd]
      refine y_icmp_ge (tgt := 44) hC dX0_openAmount_9 (by decide) (fun c9 => absurd c9 (nI_ge (by omega) (by omega))) (fun c9 => ?_)
      refine y_aload_n hC dX0_openAmount_12 rfl ?_
      refine y_iload_n hC dX0_openAmount_13 rfl ?_
      refine y_callV1 hC (c_X0_merchantOf X.2.1 D z hB (by omega) (h7 _ (by omega))) m_X0_133 rfl (yB_o hB) (by decide) (Nat.le_of_ble_eq_true rfl) (Nat.zero_le _) (Nat.zero_le _) dX0_openAmount_14 ?_
      refine y_iload_n hC dX0_openAmount_17 rfl ?_
      refine y_icmp_ne (tgt := 38) hC dX0_openAmount_18 (by decide) (fun c18 => ?_) (fun c18 => ?_)
      · refine y_iincN hC dX0_openAmount_38 rfl rfl (by decide) rfl ?_
        refine y_goto (tgt := 4) hC dX0_openAmount_41 (by decide) ?_
        exact ih (j + 1) _ (by omega) (by rw [hi]; simp [sm, *])
      · refine y_aload_n hC dX0_openAmount_21 rfl ?_
        refine y_iload_n hC dX0_openAmount_22 rfl ?_
        refine y_callV1 hC (c_X0_isFinal X.2.1 D z hB (by omega)) m_X0_102 rfl (yB_o hB) (by decide) (Nat.le_of_ble_eq_true rfl) (Nat.zero_le _) (Nat.zero_le _) dX0_openAmount_23 ?_
        refine y_if_neB (tgt := 38) hC dX0_openAmount_26 (by decide) (fun c26 => ?_) (fun c26 => ?_)
        · refine y_iincN hC dX0_openAmount_38 rfl rfl (by decide) rfl ?_
          refine y_goto (tgt := 4) hC dX0_openAmount_41 (by decide) ?_
          exact ih (j + 1) _ (by omega) (by rw [hi]; simp [sm, *])
        · refine y_iload_n hC dX0_openAmount_29 rfl ?_
          refine y_aload_n hC dX0_openAmount_30 rfl ?_
          refine y_getR hC (yB_o hB) (yB_r13 hB) f_X0_40 rfl dX0_openAmount_31 ?_
          refine y_iload_n hC dX0_openAmount_34 rfl ?_
          refine y_ialdRN (w9 := 14) hC (by decide) (yB_a13 hB) (by omega) dX0_openAmount_35 ?_
          refine y_iadd hC dX0_openAmount_36 ?_
          refine y_istore_n hC dX0_openAmount_37 (by decide) rfl ?_
          refine y_iincN hC dX0_openAmount_38 rfl rfl (by decide) rfl ?_
          refine y_goto (tgt := 4) hC dX0_openAmount_41 (by decide) ?_
          exact ih (j + 1) _ (by omega) (by rw [hi]; simp [sm, *])
  exact lp4 nd 0 _ (Nat.zero_add _) rfl
theorem nI_tn {x : Int32} {n : Nat} (h : vp_in x n) : x = nI (tn x) := by
  have h0 : ¬ x < 0 := fun q => h (Or.inl q)
  obtain ⟨j, hj, rfl⟩ := nI_of h0
  rw [tn_nI hj]
theorem tn_lt {x : Int32} {n : Nat} (h : vp_in x n) : tn x < n := Nat.not_le.mp fun q => h (Or.inr q)
def addPB (B : yI) (np : Nat) (is me am : Int32) : yI := moveB (up2 (up2 (up2 (up2 (up2 B 3 np is) 4 np me) 5 np am) 6 np (B 0 1)) 0 5 (B 0 5 + 1)) np am 0
set_option maxRecDepth 100000 in
set_option maxHeartbeats 4000000 in
theorem c_X0_addPurchase (l : Launch) (D : yD) (z : Nat) {n : Nat} {sh : yS} {I : yI} {L : yL} {i su : Nat} {B : yI} (hB : yBook sh i su) {np : Nat} (hnp : B 0 5 = nI np) (hpl : np < 24) {is me am : Int32} (his : vp_in is 4) (hme : vp_in me 4) : yM l D z yX0_addPurchase cX0_addPurchase 5 (some .int) 1 0 0 [.ref i, .int is, .int me, .int am] n sh (sR 14 I i B) L (yF (some (.int (nI np))) n sh (sR 14 I i (addPB B np is me am)) L) (yno) := by
  refine yM_of (by decide) (Nat.le_of_ble_eq_true rfl) rfl ?_
  intro X hC hr hnm hRc hRs htb
  have hC : yC X D z cX0_addPurchase RX0 5 1 := hC
  refine y_aload_n hC dX0_addPurchase_0 rfl ?_
  refine y_getIR (w9 := 14) hC (by decide) (yB_o hB) f_X0_68 rfl dX0_addPurchase_1 ?_
  rw [hnp]
  refine y_istore hC dX0_addPurchase_4 (by decide) rfl ?_
  refine y_iload hC dX0_addPurchase_6 rfl ?_
  refine y_bipush (v := nI 24) hC dX0_addPurchase_8 (by decide) ?_
  refine y_icmp_ge (tgt := 66) hC dX0_addPurchase_10 (by decide) (fun c10 => absurd c10 (nI_ge (by omega) (by omega))) (fun c10 => ?_)
  refine y_aload_n hC dX0_addPurchase_13 rfl ?_
  refine y_getR hC (yB_o hB) (yB_r6 hB) f_X0_22 rfl dX0_addPurchase_14 ?_
  refine y_iload hC dX0_addPurchase_17 rfl ?_
  refine y_iload_n hC dX0_addPurchase_19 rfl ?_
  refine y_iastRN (w9 := 14) hC (by decide) (yB_a6 hB) (by omega) dX0_addPurchase_20 ?_
  refine y_aload_n hC dX0_addPurchase_21 rfl ?_
  refine y_getR hC (yB_o hB) (yB_r7 hB) f_X0_25 rfl dX0_addPurchase_22 ?_
  refine y_iload hC dX0_addPurchase_25 rfl ?_
  refine y_iload_n hC dX0_addPurchase_27 rfl ?_
  refine y_iastRN (w9 := 14) hC (by decide) (yB_a7 hB) (by omega) dX0_addPurchase_28 ?_
  refine y_aload_n hC dX0_addPurchase_29 rfl ?_
  refine y_getR hC (yB_o hB) (yB_r8 hB) f_X0_28 rfl dX0_addPurchase_30 ?_
  refine y_iload hC dX0_addPurchase_33 rfl ?_
  refine y_iload_n hC dX0_addPurchase_35 rfl ?_
  refine y_iastRN (w9 := 14) hC (by decide) (yB_a8 hB) (by omega) dX0_addPurchase_36 ?_
  refine y_aload_n hC dX0_addPurchase_37 rfl ?_
  refine y_getR hC (yB_o hB) (yB_r9 hB) f_X0_31 rfl dX0_addPurchase_38 ?_
  refine y_iload hC dX0_addPurchase_41 rfl ?_
  refine y_aload_n hC dX0_addPurchase_43 rfl ?_
  refine y_getIR (w9 := 14) hC (by decide) (yB_o hB) f_X0_55 rfl dX0_addPurchase_44 ?_
  refine y_iastRN (w9 := 14) hC (by decide) (yB_a9 hB) (by omega) dX0_addPurchase_47 ?_
  refine y_aload_n hC dX0_addPurchase_48 rfl ?_
  refine y_dup hC dX0_addPurchase_49 rfl ?_
  refine y_getIR (w9 := 14) hC (by decide) (yB_o hB) f_X0_68 rfl dX0_addPurchase_50 ?_
  refine y_iconst (v := nI 1) hC dX0_addPurchase_53 (by decide) ?_
  refine y_iadd hC dX0_addPurchase_54 ?_
  refine y_putIR (w9 := 14) hC (by decide) (yB_o hB) f_X0_68 rfl (Or.inl rfl) dX0_addPurchase_55 ?_
  refine y_aload_n hC dX0_addPurchase_58 rfl ?_
  refine y_iload hC dX0_addPurchase_59 rfl ?_
  refine y_iload_n hC dX0_addPurchase_61 rfl ?_
  refine y_iconst (v := 0) hC dX0_addPurchase_62 (by decide) ?_
  refine y_callV0 hC (c_X0_moveMoney X.2.1 D z hB rfl hpl (by simpa [up2, va_up, upd] using hme) (by simpa [up2, va_up, upd] using his)) m_X0_80 rfl (yB_o hB) (by decide) (Nat.le_of_ble_eq_true rfl) (Nat.zero_le _) (Nat.zero_le _) dX0_addPurchase_63 ?_
  refine y_iload hC dX0_addPurchase_66 rfl ?_
  exact y_iret hC hr rfl (Nat.zero_le _) (Nat.zero_le _) dX0_addPurchase_68 (yF.mk rfl)
def addDB (σ B : yI) (nd p r : Nat) (am : Int32) : yI := moveB (up2 (up2 (up2 (up2 (up2 (up2 (up2 (up2 B 7 nd (nI p)) 8 nd (nI r)) 9 nd am) 10 nd (B 0 1)) 11 nd 0) 12 nd 0) 13 nd (B 0 1 + σ 6 r)) 0 10 (B 0 10 + 1)) p (-am - σ 0 2) (σ 0 2)
set_option maxRecDepth 100000 in
set_option maxHeartbeats 4000000 in
theorem c_X0_addDispute (l : Launch) (D : yD) (z : Nat) {n : Nat} {sh : yS} {I : yI} {L : yL} {i su : Nat} {B : yI} (hB : yBook sh i su) {f : Nat} {σ : yI} (hS : ySet sh su f) (hσ : ySig I i su σ) {nd : Nat} (hnd : B 0 10 = nI nd) (hnl : nd < 20) {p r : Nat} {am : Int32} (hp : p < 24) (hr8 : r < 8) (h4 : vp_in (B 4 p) 4) (h3 : vp_in (B 3 p) 4) : yM l D z yX0_addDispute cX0_addDispute 5 (some .int) 1 0 0 [.ref i, .int (nI p), .int (nI r), .int am] n sh (sR 14 I i B) L (yF (some (.int (nI nd))) n sh (sR 14 I i (addDB σ B nd p r am)) L) (yno) := by
  refine yM_of (by decide) (Nat.le_of_ble_eq_true rfl) rfl ?_
  intro X hC hr hnm hRc hRs htb
  have hC : yC X D z cX0_addDispute RX0 5 1 := hC
  refine y_aload_n hC dX0_addDispute_0 rfl ?_
  refine y_getIR (w9 := 14) hC (by decide) (yB_o hB) f_X0_71 rfl dX0_addDispute_1 ?_
  rw [hnd]
  refine y_istore hC dX0_addDispute_4 (by decide) rfl ?_
  refine y_iload hC dX0_addDispute_6 rfl ?_
  refine y_bipush (v := nI 20) hC dX0_addDispute_8 (by decide) ?_
  refine y_icmp_ge (tgt := 117) hC dX0_addDispute_10 (by decide) (fun c10 => absurd c10 (nI_ge (by omega) (by omega))) (fun c10 => ?_)
  refine y_aload_n hC dX0_addDispute_13 rfl ?_
  refine y_getR hC (yB_o hB) (yB_r11 hB) f_X0_34 rfl dX0_addDispute_14 ?_
  refine y_iload hC dX0_addDispute_17 rfl ?_
  refine y_iload_n hC dX0_addDispute_19 rfl ?_
  refine y_iastRN (w9 := 14) hC (by decide) (yB_a11 hB) (by omega) dX0_addDispute_20 ?_
  refine y_aload_n hC dX0_addDispute_21 rfl ?_
  refine y_getR hC (yB_o hB) (yB_r12 hB) f_X0_37 rfl dX0_addDispute_22 ?_
  refine y_iload hC dX0_addDispute_25 rfl ?_
  refine y_iload_n hC dX0_addDispute_27 rfl ?_
  refine y_iastRN (w9 := 14) hC (by decide) (yB_a12 hB) (by omega) dX0_addDispute_28 ?_
  refine y_aload_n hC dX0_addDispute_29 rfl ?_
  refine y_getR hC (yB_o hB) (yB_r13 hB) f_X0_40 rfl dX0_addDispute_30 ?_
  refine y_iload hC dX0_addDispute_33 rfl ?_
  refine y_iload_n hC dX0_addDispute_35 rfl ?_
  refine y_iastRN (w9 := 14) hC (by decide) (yB_a13 hB) (by omega) dX0_addDispute_36 ?_
  refine y_aload_n hC dX0_addDispute_37 rfl ?_
  refine y_getR hC (yB_o hB) (yB_r14 hB) f_X0_43 rfl dX0_addDispute_38 ?_
  refine y_iload hC dX0_addDispute_41 rfl ?_
  refine y_aload_n hC dX0_addDispute_43 rfl ?_
  refine y_getIR (w9 := 14) hC (by decide) (yB_o hB) f_X0_55 rfl dX0_addDispute_44 ?_
  refine y_iastRN (w9 := 14) hC (by decide) (yB_a14 hB) (by omega) dX0_addDispute_47 ?_
  refine y_aload_n hC dX0_addDispute_48 rfl ?_
  refine y_getR hC (yB_o hB) (yB_r15 hB) f_X0_46 rfl dX0_addDispute_49 ?_
  refine y_iload hC dX0_addDispute_52 rfl ?_
  refine y_iconst (v := nI 0) hC dX0_addDispute_54 (by decide) ?_
  refine y_iastRN (w9 := 14) hC (by decide) (yB_a15 hB) (by omega) dX0_addDispute_55 ?_
  refine y_aload_n hC dX0_addDispute_56 rfl ?_
  refine y_getR hC (yB_o hB) (yB_r16 hB) f_X0_49 rfl dX0_addDispute_57 ?_
  refine y_iload hC dX0_addDispute_60 rfl ?_
  refine y_iconst (v := nI 0) hC dX0_addDispute_62 (by decide) ?_
  refine y_iastRN (w9 := 14) hC (by decide) (yB_a16 hB) (by omega) dX0_addDispute_63 ?_
  refine y_aload_n hC dX0_addDispute_64 rfl ?_
  refine y_getR hC (yB_o hB) (yB_r17 hB) f_X0_52 rfl dX0_addDispute_65 ?_
  refine y_iload hC dX0_addDispute_68 rfl ?_
  refine y_aload_n hC dX0_addDispute_70 rfl ?_
  refine y_getIR (w9 := 14) hC (by decide) (yB_o hB) f_X0_55 rfl dX0_addDispute_71 ?_
  refine y_aload_n hC dX0_addDispute_74 rfl ?_
  refine y_getR hC (yB_o hB) (yB_r0 hB) f_X0_9 rfl dX0_addDispute_75 ?_
  refine y_getR hC (yS_o hS) (yS_r9 hS) f_X0_84 rfl dX0_addDispute_78 ?_
  refine y_iload_n hC dX0_addDispute_81 rfl ?_
  refine y_ialdGN hC hσ (by decide) (yS_a9 hS) (by omega) dX0_addDispute_82 ?_
  refine y_iadd hC dX0_addDispute_83 ?_
  refine y_iastRN (w9 := 14) hC (by decide) (yB_a17 hB) (by omega) dX0_addDispute_84 ?_
  refine y_aload_n hC dX0_addDispute_85 rfl ?_
  refine y_dup hC dX0_addDispute_86 rfl ?_
  refine y_getIR (w9 := 14) hC (by decide) (yB_o hB) f_X0_71 rfl dX0_addDispute_87 ?_
  refine y_iconst (v := nI 1) hC dX0_addDispute_90 (by decide) ?_
  refine y_iadd hC dX0_addDispute_91 ?_
  refine y_putIR (w9 := 14) hC (by decide) (yB_o hB) f_X0_71 rfl (Or.inl rfl) dX0_addDispute_92 ?_
  refine y_aload_n hC dX0_addDispute_95 rfl ?_
  refine y_iload_n hC dX0_addDispute_96 rfl ?_
  refine y_iload_n hC dX0_addDispute_97 rfl ?_
  refine y_ineg hC dX0_addDispute_98 ?_
  refine y_aload_n hC dX0_addDispute_99 rfl ?_
  refine y_getR hC (yB_o hB) (yB_r0 hB) f_X0_9 rfl dX0_addDispute_100 ?_
  refine y_getIG hC hσ (yS_o hS) f_X0_89 rfl dX0_addDispute_103 ?_
  refine y_isub hC dX0_addDispute_106 ?_
  refine y_aload_n hC dX0_addDispute_107 rfl ?_
  refine y_getR hC (yB_o hB) (yB_r0 hB) f_X0_9 rfl dX0_addDispute_108 ?_
  refine y_getIG hC hσ (yS_o hS) f_X0_89 rfl dX0_addDispute_111 ?_
  refine y_callV0 hC (c_X0_moveMoney X.2.1 D z hB rfl hp h4 h3) m_X0_80 rfl (yB_o hB) (by decide) (Nat.le_of_ble_eq_true rfl) (Nat.zero_le _) (Nat.zero_le _) dX0_addDispute_114 ?_
  refine y_iload hC dX0_addDispute_117 rfl ?_
  exact y_iret hC hr rfl (Nat.zero_le _) (Nat.zero_le _) dX0_addDispute_119 (yF.mk rfl)
def repB (σ B : yI) (d : Nat) (ev : Int32) : yI := moveB (up2 (up2 (up2 B 11 d (B 11 d ||| ev)) 12 d 1) 13 d (B 0 1 + σ 7 (tn (B 8 d)))) (tn (B 7 d)) (B 9 d) 0
set_option maxRecDepth 100000 in
set_option maxHeartbeats 4000000 in
theorem c_X0_toRepresented (l : Launch) (D : yD) (z : Nat) {n : Nat} {sh : yS} {I : yI} {L : yL} {i su : Nat} {B : yI} (hB : yBook sh i su) {f : Nat} {σ : yI} (hS : ySet sh su f) (hσ : ySig I i su σ) {d : Nat} (hd : d < 20) (h7 : vp_in (B 7 d) 24) (h8 : vp_in (B 8 d) 8) (h4 : vp_in (B 4 (tn (B 7 d))) 4) (h3 : vp_in (B 3 (tn (B 7 d))) 4) {ev : Int32} : yM l D z yX0_toRepresented cX0_toRepresented 3 none 1 0 0 [.ref i, .int (nI d), .int ev] n sh (sR 14 I i B) L (yF none n sh (sR 14 I i (repB σ B d ev)) L) (yno) := by
  refine yM_of (by decide) (Nat.le_of_ble_eq_true rfl) rfl ?_
  intro X hC hr hnm hRc hRs htb
  have hC : yC X D z cX0_toRepresented RX0 3 1 := hC
  refine y_aload_n hC dX0_toRepresented_0 rfl ?_
  refine y_getR hC (yB_o hB) (yB_r15 hB) f_X0_46 rfl dX0_toRepresented_1 ?_
  refine y_iload_n hC dX0_toRepresented_4 rfl ?_
  refine y_dup2 hC dX0_toRepresented_5 rfl rfl ?_
  refine y_ialdRN (w9 := 14) hC (by decide) (yB_a15 hB) (by omega) dX0_toRepresented_6 ?_
  refine y_iload_n hC dX0_toRepresented_7 rfl ?_
  refine y_ior hC dX0_toRepresented_8 ?_
  refine y_iastRN (w9 := 14) hC (by decide) (yB_a15 hB) (by omega) dX0_toRepresented_9 ?_
  refine y_aload_n hC dX0_toRepresented_10 rfl ?_
  refine y_getR hC (yB_o hB) (yB_r16 hB) f_X0_49 rfl dX0_toRepresented_11 ?_
  refine y_iload_n hC dX0_toRepresented_14 rfl ?_
  refine y_iconst (v := nI 1) hC dX0_toRepresented_15 (by decide) ?_
  refine y_iastRN (w9 := 14) hC (by decide) (yB_a16 hB) (by omega) dX0_toRepresented_16 ?_
  refine y_aload_n hC dX0_toRepresented_17 rfl ?_
  refine y_getR hC (yB_o hB) (yB_r17 hB) f_X0_52 rfl dX0_toRepresented_18 ?_
  refine y_iload_n hC dX0_toRepresented_21 rfl ?_
  refine y_aload_n hC dX0_toRepresented_22 rfl ?_
  refine y_getIR (w9 := 14) hC (by decide) (yB_o hB) f_X0_55 rfl dX0_toRepresented_23 ?_
  refine y_aload_n hC dX0_toRepresented_26 rfl ?_
  refine y_getR hC (yB_o hB) (yB_r0 hB) f_X0_9 rfl dX0_toRepresented_27 ?_
  refine y_getR hC (yS_o hS) (yS_r10 hS) f_X0_92 rfl dX0_toRepresented_30 ?_
  refine y_aload_n hC dX0_toRepresented_33 rfl ?_
  refine y_getR hC (yB_o hB) (yB_r12 hB) f_X0_37 rfl dX0_toRepresented_34 ?_
  refine y_iload_n hC dX0_toRepresented_37 rfl ?_
  refine y_ialdRN (w9 := 14) hC (by decide) (yB_a12 hB) (by omega) dX0_toRepresented_38 ?_
  refine y_ialdG hC hσ (by decide) (yS_a10 hS) h8 dX0_toRepresented_39 ?_
  refine y_iadd hC dX0_toRepresented_40 ?_
  refine y_iastRN (w9 := 14) hC (by decide) (yB_a17 hB) (by omega) dX0_toRepresented_41 ?_
  refine y_aload_n hC dX0_toRepresented_42 rfl ?_
  refine y_aload_n hC dX0_toRepresented_43 rfl ?_
  refine y_getR hC (yB_o hB) (yB_r11 hB) f_X0_34 rfl dX0_toRepresented_44 ?_
  refine y_iload_n hC dX0_toRepresented_47 rfl ?_
  refine y_ialdRN (w9 := 14) hC (by decide) (yB_a11 hB) (by omega) dX0_toRepresented_48 ?_
  refine y_aload_n hC dX0_toRepresented_49 rfl ?_
  refine y_getR hC (yB_o hB) (yB_r13 hB) f_X0_40 rfl dX0_toRepresented_50 ?_
  refine y_iload_n hC dX0_toRepresented_53 rfl ?_
  refine y_ialdRN (w9 := 14) hC (by decide) (yB_a13 hB) (by omega) dX0_toRepresented_54 ?_
  refine y_iconst (v := 0) hC dX0_toRepresented_55 (by decide) ?_
  refine y_callV0 hC (c_X0_moveMoney X.2.1 D z hB (nI_tn h7) (tn_lt h7) h4 h3) m_X0_80 rfl (yB_o hB) (by decide) (Nat.le_of_ble_eq_true rfl) (Nat.zero_le _) (Nat.zero_le _) dX0_toRepresented_56 ?_
  exact y_vret hC hr (Nat.zero_le _) (Nat.zero_le _) dX0_toRepresented_59 (yF.mk rfl)
def escB (σ B : yI) (d : Nat) : yI := moveB (up2 (up2 B 12 d 2) 13 d (B 0 1 + σ 6 (tn (B 8 d)))) (tn (B 7 d)) (-B 9 d) 0
set_option maxRecDepth 100000 in
set_option maxHeartbeats 4000000 in
theorem c_X0_toEscalated (l : Launch) (D : yD) (z : Nat) {n : Nat} {sh : yS} {I : yI} {L : yL} {i su : Nat} {B : yI} (hB : yBook sh i su) {f : Nat} {σ : yI} (hS : ySet sh su f) (hσ : ySig I i su σ) {d : Nat} (hd : d < 20) (h7 : vp_in (B 7 d) 24) (h8 : vp_in (B 8 d) 8) (h4 : vp_in (B 4 (tn (B 7 d))) 4) (h3 : vp_in (B 3 (tn (B 7 d))) 4) : yM l D z yX0_toEscalated cX0_toEscalated 2 none 1 0 0 [.ref i, .int (nI d)] n sh (sR 14 I i B) L (yF none n sh (sR 14 I i (escB σ B d)) L) (yno) := by
  refine yM_of (by decide) (Nat.le_of_ble_eq_true rfl) rfl ?_
  intro X hC hr hnm hRc hRs htb
  have hC : yC X D z cX0_toEscalated RX0 2 1 := hC
  refine y_aload_n hC dX0_toEscalated_0 rfl ?_
  refine y_getR hC (yB_o hB) (yB_r16 hB) f_X0_49 rfl dX0_toEscalated_1 ?_
  refine y_iload_n hC dX0_toEscalated_4 rfl ?_
  refine y_iconst (v := nI 2) hC dX0_toEscalated_5 (by decide) ?_
  refine y_iastRN (w9 := 14) hC (by decide) (yB_a16 hB) (by omega) dX0_toEscalated_6 ?_
  refine y_aload_n hC dX0_toEscalated_7 rfl ?_
  refine y_getR hC (yB_o hB) (yB_r17 hB) f_X0_52 rfl dX0_toEscalated_8 ?_
  refine y_iload_n hC dX0_toEscalated_11 rfl ?_
  refine y_aload_n hC dX0_toEscalated_12 rfl ?_
  refine y_getIR (w9 := 14) hC (by decide) (yB_o hB) f_X0_55 rfl dX0_toEscalated_13 ?_
  refine y_aload_n hC dX0_toEscalated_16 rfl ?_
  refine y_getR hC (yB_o hB) (yB_r0 hB) f_X0_9 rfl dX0_toEscalated_17 ?_
  refine y_getR hC (yS_o hS) (yS_r9 hS) f_X0_84 rfl dX0_toEscalated_20 ?_
  refine y_aload_n hC dX0_toEscalated_23 rfl ?_
  refine y_getR hC (yB_o hB) (yB_r12 hB) f_X0_37 rfl dX0_toEscalated_24 ?_
  refine y_iload_n hC dX0_toEscalated_27 rfl ?_
  refine y_ialdRN (w9 := 14) hC (by decide) (yB_a12 hB) (by omega) dX0_toEscalated_28 ?_
  refine y_ialdG hC hσ (by decide) (yS_a9 hS) h8 dX0_toEscalated_29 ?_
  refine y_iadd hC dX0_toEscalated_30 ?_
  refine y_iastRN (w9 := 14) hC (by decide) (yB_a17 hB) (by omega) dX0_toEscalated_31 ?_
  refine y_aload_n hC dX0_toEscalated_32 rfl ?_
  refine y_aload_n hC dX0_toEscalated_33 rfl ?_
  refine y_getR hC (yB_o hB) (yB_r11 hB) f_X0_34 rfl dX0_toEscalated_34 ?_
  refine y_iload_n hC dX0_toEscalated_37 rfl ?_
  refine y_ialdRN (w9 := 14) hC (by decide) (yB_a11 hB) (by omega) dX0_toEscalated_38 ?_
  refine y_aload_n hC dX0_toEscalated_39 rfl ?_
  refine y_getR hC (yB_o hB) (yB_r13 hB) f_X0_40 rfl dX0_toEscalated_40 ?_
  refine y_iload_n hC dX0_toEscalated_43 rfl ?_
  refine y_ialdRN (w9 := 14) hC (by decide) (yB_a13 hB) (by omega) dX0_toEscalated_44 ?_
  refine y_ineg hC dX0_toEscalated_45 ?_
  refine y_iconst (v := 0) hC dX0_toEscalated_46 (by decide) ?_
  refine y_callV0 hC (c_X0_moveMoney X.2.1 D z hB (nI_tn h7) (tn_lt h7) h4 h3) m_X0_80 rfl (yB_o hB) (by decide) (Nat.le_of_ble_eq_true rfl) (Nat.zero_le _) (Nat.zero_le _) dX0_toEscalated_47 ?_
  exact y_vret hC hr (Nat.zero_le _) (Nat.zero_le _) dX0_toEscalated_50 (yF.mk rfl)
def arbB (B : yI) (d : Nat) (ev : Int32) : yI := up2 (up2 (up2 B 11 d (B 11 d ||| ev)) 12 d 3) 13 d (B 0 1 + 10)
set_option maxRecDepth 100000 in
set_option maxHeartbeats 4000000 in
theorem c_X0_toArbitration (l : Launch) (D : yD) (z : Nat) {n : Nat} {sh : yS} {I : yI} {L : yL} {i su : Nat} {B : yI} (hB : yBook sh i su) {d : Nat} (hd : d < 20) {ev : Int32} : yM l D z yX0_toArbitration cX0_toArbitration 3 none 0 0 0 [.ref i, .int (nI d), .int ev] n sh (sR 14 I i B) L (yF none n sh (sR 14 I i (arbB B d ev)) L) (yno) := by
  refine yM_of (by decide) (Nat.le_of_ble_eq_true rfl) rfl ?_
  intro X hC hr hnm hRc hRs htb
  have hC : yC X D z cX0_toArbitration RX0 3 0 := hC
  refine y_aload_n hC dX0_toArbitration_0 rfl ?_
  refine y_getR hC (yB_o hB) (yB_r15 hB) f_X0_46 rfl dX0_toArbitration_1 ?_
  refine y_iload_n hC dX0_toArbitration_4 rfl ?_
  refine y_dup2 hC dX0_toArbitration_5 rfl rfl ?_
  refine y_ialdRN (w9 := 14) hC (by decide) (yB_a15 hB) (by omega) dX0_toArbitration_6 ?_
  refine y_iload_n hC dX0_toArbitration_7 rfl ?_
  refine y_ior hC dX0_toArbitration_8 ?_
  refine y_iastRN (w9 := 14) hC (by decide) (yB_a15 hB) (by omega) dX0_toArbitration_9 ?_
  refine y_aload_n hC dX0_toArbitration_10 rfl ?_
  refine y_getR hC (yB_o hB) (yB_r16 hB) f_X0_49 rfl dX0_toArbitration_11 ?_
  refine y_iload_n hC dX0_toArbitration_14 rfl ?_
  refine y_iconst (v := nI 3) hC dX0_toArbitration_15 (by decide) ?_
  refine y_iastRN (w9 := 14) hC (by decide) (yB_a16 hB) (by omega) dX0_toArbitration_16 ?_
  refine y_aload_n hC dX0_toArbitration_17 rfl ?_
  refine y_getR hC (yB_o hB) (yB_r17 hB) f_X0_52 rfl dX0_toArbitration_18 ?_
  refine y_iload_n hC dX0_toArbitration_21 rfl ?_
  refine y_aload_n hC dX0_toArbitration_22 rfl ?_
  refine y_getIR (w9 := 14) hC (by decide) (yB_o hB) f_X0_55 rfl dX0_toArbitration_23 ?_
  refine y_bipush (v := nI 10) hC dX0_toArbitration_26 (by decide) ?_
  refine y_iadd hC dX0_toArbitration_28 ?_
  refine y_iastRN (w9 := 14) hC (by decide) (yB_a17 hB) (by omega) dX0_toArbitration_29 ?_
  exact y_vret hC hr (Nat.zero_le _) (Nat.zero_le _) dX0_toArbitration_30 (yF.mk rfl)
def finB (σ B : yI) (d : Nat) (o : Int32) : yI := up2 (up2 (moveB B (tn (B 7 d)) (gainB σ B d o) (if B 12 d = 3 then σ 0 3 else 0)) 12 d o) 13 d (-1)
set_option maxRecDepth 100000 in
set_option maxHeartbeats 4000000 in
theorem c_X0_finish (l : Launch) (D : yD) (z : Nat) {n : Nat} {sh : yS} {I : yI} {L : yL} {i su : Nat} {B : yI} (hB : yBook sh i su) {f : Nat} {σ : yI} (hS : ySet sh su f) (hσ : ySig I i su σ) {d : Nat} {o : Int32} (hd : d < 20) (h7 : vp_in (B 7 d) 24) (h4 : vp_in (B 4 (tn (B 7 d))) 4) (h3 : vp_in (B 3 (tn (B 7 d))) 4) : yM l D z yX0_finish cX0_finish 4 none 2 0 0 [.ref i, .int (nI d), .int o] n sh (sR 14 I i B) L (yF none n sh (sR 14 I i (finB σ B d o)) L) (yno) := by
  refine yM_of (by decide) (Nat.le_of_ble_eq_true rfl) rfl ?_
  intro X hC hr hnm hRc hRs htb
  have hC : yC X D z cX0_finish RX0 4 2 := hC
  refine y_aload_n hC dX0_finish_0 rfl ?_
  refine y_getR hC (yB_o hB) (yB_r16 hB) f_X0_49 rfl dX0_finish_1 ?_
  refine y_iload_n hC dX0_finish_4 rfl ?_
  refine y_ialdRN (w9 := 14) hC (by decide) (yB_a16 hB) (by omega) dX0_finish_5 ?_
  refine y_iconst (v := 3) hC dX0_finish_6 (by decide) ?_
  refine y_icmp_ne (tgt := 20) hC dX0_finish_7 (by decide) (fun c7 => ?_) (fun c7 => ?_)
  · refine y_iconst (v := nI 0) hC dX0_finish_20 (by decide) ?_
    refine y_istore_n hC dX0_finish_21 (by decide) rfl ?_
    refine y_aload_n hC dX0_finish_22 rfl ?_
    refine y_aload_n hC dX0_finish_23 rfl ?_
    refine y_getR hC (yB_o hB) (yB_r11 hB) f_X0_34 rfl dX0_finish_24 ?_
    refine y_iload_n hC dX0_finish_27 rfl ?_
    refine y_ialdRN (w9 := 14) hC (by decide) (yB_a11 hB) (by omega) dX0_finish_28 ?_
    refine y_aload_n hC dX0_finish_29 rfl ?_
    refine y_iload_n hC dX0_finish_30 rfl ?_
    refine y_iload_n hC dX0_finish_31 rfl ?_
    refine y_callV1 hC (c_X0_merchantGain X.2.1 D z hB hS hσ hd) m_X0_98 rfl (yB_o hB) (by decide) (Nat.le_of_ble_eq_true rfl) (Nat.zero_le _) (Nat.zero_le _) dX0_finish_32 ?_
    refine y_iload_n hC dX0_finish_35 rfl ?_
    refine y_callV0 hC (c_X0_moveMoney X.2.1 D z hB (nI_tn h7) (tn_lt h7) h4 h3) m_X0_80 rfl (yB_o hB) (by decide) (Nat.le_of_ble_eq_true rfl) (Nat.zero_le _) (Nat.zero_le _) dX0_finish_36 ?_
    refine y_aload_n hC dX0_finish_39 rfl ?_
    refine y_getR hC (yB_o hB) (yB_r16 hB) f_X0_49 rfl dX0_finish_40 ?_
    refine y_iload_n hC dX0_finish_43 rfl ?_
    refine y_iload_n hC dX0_finish_44 rfl ?_
    refine y_iastRN (w9 := 14) hC (by decide) (yB_a16 hB) (by omega) dX0_finish_45 ?_
    refine y_aload_n hC dX0_finish_46 rfl ?_
    refine y_getR hC (yB_o hB) (yB_r17 hB) f_X0_52 rfl dX0_finish_47 ?_
    refine y_iload_n hC dX0_finish_50 rfl ?_
    refine y_iconst (v := (-1)) hC dX0_finish_51 (by decide) ?_
    refine y_iastRN (w9 := 14) hC (by decide) (yB_a17 hB) (by omega) dX0_finish_52 ?_
    exact y_vret hC hr (Nat.zero_le _) (Nat.zero_le _) dX0_finish_53 ⟨rfl, rfl, rfl, by first | (rw [finB, if_neg c7]; rfl) | rw [finB, if_pos c7], rfl⟩
  · refine y_aload_n hC dX0_finish_10 rfl ?_
    refine y_getR hC (yB_o hB) (yB_r0 hB) f_X0_9 rfl dX0_finish_11 ?_
    refine y_getIG hC hσ (yS_o hS) f_X0_95 rfl dX0_finish_14 ?_
    refine y_goto (tgt := 21) hC dX0_finish_17 (by decide) ?_
    refine y_istore_n hC dX0_finish_21 (by decide) rfl ?_
    refine y_aload_n hC dX0_finish_22 rfl ?_
    refine y_aload_n hC dX0_finish_23 rfl ?_
    refine y_getR hC (yB_o hB) (yB_r11 hB) f_X0_34 rfl dX0_finish_24 ?_
    refine y_iload_n hC dX0_finish_27 rfl ?_
    refine y_ialdRN (w9 := 14) hC (by decide) (yB_a11 hB) (by omega) dX0_finish_28 ?_
    refine y_aload_n hC dX0_finish_29 rfl ?_
    refine y_iload_n hC dX0_finish_30 rfl ?_
    refine y_iload_n hC dX0_finish_31 rfl ?_
    refine y_callV1 hC (c_X0_merchantGain X.2.1 D z hB hS hσ hd) m_X0_98 rfl (yB_o hB) (by decide) (Nat.le_of_ble_eq_true rfl) (Nat.zero_le _) (Nat.zero_le _) dX0_finish_32 ?_
    refine y_iload_n hC dX0_finish_35 rfl ?_
    refine y_callV0 hC (c_X0_moveMoney X.2.1 D z hB (nI_tn h7) (tn_lt h7) h4 h3) m_X0_80 rfl (yB_o hB) (by decide) (Nat.le_of_ble_eq_true rfl) (Nat.zero_le _) (Nat.zero_le _) dX0_finish_36 ?_
    refine y_aload_n hC dX0_finish_39 rfl ?_
    refine y_getR hC (yB_o hB) (yB_r16 hB) f_X0_49 rfl dX0_finish_40 ?_
    refine y_iload_n hC dX0_finish_43 rfl ?_
    refine y_iload_n hC dX0_finish_44 rfl ?_
    refine y_iastRN (w9 := 14) hC (by decide) (yB_a16 hB) (by omega) dX0_finish_45 ?_
    refine y_aload_n hC dX0_finish_46 rfl ?_
    refine y_getR hC (yB_o hB) (yB_r17 hB) f_X0_52 rfl dX0_finish_47 ?_
    refine y_iload_n hC dX0_finish_50 rfl ?_
    refine y_iconst (v := (-1)) hC dX0_finish_51 (by decide) ?_
    refine y_iastRN (w9 := 14) hC (by decide) (yB_a17 hB) (by omega) dX0_finish_52 ?_
    exact y_vret hC hr (Nat.zero_le _) (Nat.zero_le _) dX0_finish_53 ⟨rfl, rfl, rfl, by first | (rw [finB, if_neg c7]; rfl) | rw [finB, if_pos c7], rfl⟩
