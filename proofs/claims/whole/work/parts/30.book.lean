set_option maxRecDepth 100000 in
set_option maxHeartbeats 4000000 in
theorem c_X0_isFinal (l : Launch) (D : yD) (z : Nat) {n : Nat} {sh : yS} {I : yI} {L : yL} {i su : Nat} {B : yI} (hB : yBook sh i su) {d : Nat} (hd : d < 20) : yM l D z yX0_isFinal cX0_isFinal 2 (some .boolean) 0 0 0 [.ref i, .int (nI d)] n sh (sR 14 I i B) L (yF (some (.int (b2i (B 12 d = 4 ∨ B 12 d = 5)))) n sh (sR 14 I i B) L) (yno) := by
  refine yM_of (by decide) (Nat.le_of_ble_eq_true rfl) rfl ?_
  intro X hC hr hnm hRc hRs htb
  have hC : yC X D z cX0_isFinal RX0 2 0 := hC
  refine y_aload_n hC dX0_isFinal_0 rfl ?_
  refine y_getR hC (yB_o hB) (yB_r16 hB) f_X0_49 rfl dX0_isFinal_1 ?_
  refine y_iload_n hC dX0_isFinal_4 rfl ?_
  refine y_ialdRN (w9 := 14) hC (by decide) (yB_a16 hB) (by omega) dX0_isFinal_5 ?_
  refine y_iconst (v := nI 4) hC dX0_isFinal_6 (by decide) ?_
  refine y_icmp_eq (tgt := 20) hC dX0_isFinal_7 (by decide) (fun c7 => ?_) (fun c7 => ?_)
  · refine y_iconst (v := nI 1) hC dX0_isFinal_20 (by decide) ?_
    refine y_goto (tgt := 25) hC dX0_isFinal_21 (by decide) ?_
    exact y_iret hC hr rfl (Nat.zero_le _) (Nat.zero_le _) dX0_isFinal_25 (yF.mk (by first | rw [b2i_t (by first | exact Or.inl ‹_› | exact Or.inr ‹_›)]; rfl | rw [b2i_f (by rintro (h | h); all_goals contradiction)]; rfl))
  · refine y_aload_n hC dX0_isFinal_10 rfl ?_
    refine y_getR hC (yB_o hB) (yB_r16 hB) f_X0_49 rfl dX0_isFinal_11 ?_
    refine y_iload_n hC dX0_isFinal_14 rfl ?_
    refine y_ialdRN (w9 := 14) hC (by decide) (yB_a16 hB) (by omega) dX0_isFinal_15 ?_
    refine y_iconst (v := nI 5) hC dX0_isFinal_16 (by decide) ?_
    refine y_icmp_ne (tgt := 24) hC dX0_isFinal_17 (by decide) (fun c17 => ?_) (fun c17 => ?_)
    · refine y_iconst (v := nI 0) hC dX0_isFinal_24 (by decide) ?_
      exact y_iret hC hr rfl (Nat.zero_le _) (Nat.zero_le _) dX0_isFinal_25 (yF.mk (by first | rw [b2i_t (by first | exact Or.inl ‹_› | exact Or.inr ‹_›)]; rfl | rw [b2i_f (by rintro (h | h); all_goals contradiction)]; rfl))
    · refine y_iconst (v := nI 1) hC dX0_isFinal_20 (by decide) ?_
      refine y_goto (tgt := 25) hC dX0_isFinal_21 (by decide) ?_
      exact y_iret hC hr rfl (Nat.zero_le _) (Nat.zero_le _) dX0_isFinal_25 (yF.mk (by first | rw [b2i_t (by first | exact Or.inl ‹_› | exact Or.inr ‹_›)]; rfl | rw [b2i_f (by rintro (h | h); all_goals contradiction)]; rfl))
set_option maxRecDepth 100000 in
set_option maxHeartbeats 4000000 in
theorem c_X0_merchantHolds (l : Launch) (D : yD) (z : Nat) {n : Nat} {sh : yS} {I : yI} {L : yL} {i su : Nat} {B : yI} (hB : yBook sh i su) {d : Nat} (hd : d < 20) : yM l D z yX0_merchantHolds cX0_merchantHolds 2 (some .boolean) 0 0 0 [.ref i, .int (nI d)] n sh (sR 14 I i B) L (yF (some (.int (b2i (B 12 d = 1 ∨ B 12 d = 5)))) n sh (sR 14 I i B) L) (yno) := by
  refine yM_of (by decide) (Nat.le_of_ble_eq_true rfl) rfl ?_
  intro X hC hr hnm hRc hRs htb
  have hC : yC X D z cX0_merchantHolds RX0 2 0 := hC
  refine y_aload_n hC dX0_merchantHolds_0 rfl ?_
  refine y_getR hC (yB_o hB) (yB_r16 hB) f_X0_49 rfl dX0_merchantHolds_1 ?_
  refine y_iload_n hC dX0_merchantHolds_4 rfl ?_
  refine y_ialdRN (w9 := 14) hC (by decide) (yB_a16 hB) (by omega) dX0_merchantHolds_5 ?_
  refine y_iconst (v := nI 1) hC dX0_merchantHolds_6 (by decide) ?_
  refine y_icmp_eq (tgt := 20) hC dX0_merchantHolds_7 (by decide) (fun c7 => ?_) (fun c7 => ?_)
  · refine y_iconst (v := nI 1) hC dX0_merchantHolds_20 (by decide) ?_
    refine y_goto (tgt := 25) hC dX0_merchantHolds_21 (by decide) ?_
    exact y_iret hC hr rfl (Nat.zero_le _) (Nat.zero_le _) dX0_merchantHolds_25 (yF.mk (by first | rw [b2i_t (by first | exact Or.inl ‹_› | exact Or.inr ‹_›)]; rfl | rw [b2i_f (by rintro (h | h); all_goals contradiction)]; rfl))
  · refine y_aload_n hC dX0_merchantHolds_10 rfl ?_
    refine y_getR hC (yB_o hB) (yB_r16 hB) f_X0_49 rfl dX0_merchantHolds_11 ?_
    refine y_iload_n hC dX0_merchantHolds_14 rfl ?_
    refine y_ialdRN (w9 := 14) hC (by decide) (yB_a16 hB) (by omega) dX0_merchantHolds_15 ?_
    refine y_iconst (v := nI 5) hC dX0_merchantHolds_16 (by decide) ?_
    refine y_icmp_ne (tgt := 24) hC dX0_merchantHolds_17 (by decide) (fun c17 => ?_) (fun c17 => ?_)
    · refine y_iconst (v := nI 0) hC dX0_merchantHolds_24 (by decide) ?_
      exact y_iret hC hr rfl (Nat.zero_le _) (Nat.zero_le _) dX0_merchantHolds_25 (yF.mk (by first | rw [b2i_t (by first | exact Or.inl ‹_› | exact Or.inr ‹_›)]; rfl | rw [b2i_f (by rintro (h | h); all_goals contradiction)]; rfl))
    · refine y_iconst (v := nI 1) hC dX0_merchantHolds_20 (by decide) ?_
      refine y_goto (tgt := 25) hC dX0_merchantHolds_21 (by decide) ?_
      exact y_iret hC hr rfl (Nat.zero_le _) (Nat.zero_le _) dX0_merchantHolds_25 (yF.mk (by first | rw [b2i_t (by first | exact Or.inl ‹_› | exact Or.inr ‹_›)]; rfl | rw [b2i_f (by rintro (h | h); all_goals contradiction)]; rfl))
