/-- an item behind the others, if there is room -/
def addF (F : yI) (m len : Nat) (it : Int32) : yI := if len < m then up2 (up2 F 1 len it) 0 2 (nI (len + 1)) else F
set_option maxRecDepth 100000 in
set_option maxHeartbeats 4000000 in
theorem c_X1_addg (l : Launch) (D : yD) (z : Nat) {n : Nat} {sh : yS} {I : yI} {L : yL} {f m : Nat} {F : yI} (hF : yFor sh f m) {len : Nat} {it : Int32} (hl : F 0 2 = nI len) (hm : len ≤ m) (hm2 : m < 2147483648) : yM l D z yX1_add cX1_add 2 none 0 0 0 [.ref f, .int it] n sh (sR 3 I f F) L (yF none n sh (sR 3 I f (addF F m len it)) L) (yno) := by
  refine yM_of (by decide) (Nat.le_of_ble_eq_true rfl) rfl ?_
  intro X hC hr hnm hRc hRs htb
  have hC : yC X D z cX1_add RX1 2 0 := hC
  refine y_aload_n hC dX1_add_0 rfl ?_
  refine y_getIR (w9 := 3) hC (by decide) (yF_o hF) f_X1_22 rfl dX1_add_1 ?_
  rw [hl]
  refine y_aload_n hC dX1_add_4 rfl ?_
  refine y_getR hC (yF_o hF) (yF_r0 hF) f_X1_13 rfl dX1_add_5 ?_
  refine y_alen hC (yF_a0 hF) (by decide) rfl dX1_add_8 ?_
  refine y_icmp_ge (tgt := 32) hC dX1_add_9 (by decide) (fun c9 => ?_) (fun c9 => ?_)
  · exact y_vret hC hr (Nat.zero_le _) (Nat.zero_le _) dX1_add_32 (by first | (rw [addF, if_neg (Nat.not_lt.mpr (nI_le2 c9))]; exact yF.mk rfl) | (rw [addF, if_pos (nI_nle2 c9)]; exact ⟨rfl, rfl, rfl, by rw [show up2 F 1 len it 0 2 = F 0 2 from rfl, hl]; exact congrArg (fun q => sR 3 I f (up2 (up2 F 1 len it) 0 2 q)) (nI_1 len), rfl⟩))
  · have lm : len < m := nI_nle2 c9
    refine y_aload_n hC dX1_add_12 rfl ?_
    refine y_getR hC (yF_o hF) (yF_r0 hF) f_X1_13 rfl dX1_add_13 ?_
    refine y_aload_n hC dX1_add_16 rfl ?_
    refine y_getIR (w9 := 3) hC (by decide) (yF_o hF) f_X1_22 rfl dX1_add_17 ?_
    rw [hl]
    refine y_iload_n hC dX1_add_20 rfl ?_
    refine y_iastRN (w9 := 3) hC (by decide) (yF_a0 hF) (by omega) dX1_add_21 ?_
    refine y_aload_n hC dX1_add_22 rfl ?_
    refine y_dup hC dX1_add_23 rfl ?_
    refine y_getIR (w9 := 3) hC (by decide) (yF_o hF) f_X1_22 rfl dX1_add_24 ?_
    refine y_iconst (v := nI 1) hC dX1_add_27 (by decide) ?_
    refine y_iadd hC dX1_add_28 ?_
    refine y_putIR (w9 := 3) hC (by decide) (yF_o hF) f_X1_22 rfl (Or.inl rfl) dX1_add_29 ?_
    exact y_vret hC hr (Nat.zero_le _) (Nat.zero_le _) dX1_add_32 (by first | (rw [addF, if_neg (Nat.not_lt.mpr (nI_le2 c9))]; exact yF.mk rfl) | (rw [addF, if_pos (nI_nle2 c9)]; exact ⟨rfl, rfl, rfl, by rw [show up2 F 1 len it 0 2 = F 0 2 from rfl, hl]; exact congrArg (fun q => sR 3 I f (up2 (up2 F 1 len it) 0 2 q)) (nI_1 len), rfl⟩))
theorem rptM_15 {M : yI} {c o : Int32} {j : Nat} (h5 : j ≠ 5) (h6 : j ≠ 6) : rptM M c o 0 j = M 0 j := by
  unfold rptM
  split
  · show upd (upd (M 0) 5 c) 6 o j = M 0 j
    rw [upd_ne9 h6, upd_ne9 h5]
  · rfl
def oncM (M : yI) (b o : Int32) : yI := up2 (if (M 0 15 >>> (b &&& 31)) &&& 1 = 1 then rptM M (-2) o else M) 0 15 (M 0 15 ||| (1 <<< (b &&& 31)))
set_option maxRecDepth 100000 in
set_option maxHeartbeats 4000000 in
theorem c_X8_once (l : Launch) (D : yD) (z : Nat) {n : Nat} {sh : yS} {I : yI} {L : yL} {q : Nat} {M : yI} (hQ : yMod sh q) {b o : Int32} : yM l D z yX8_once cX8_once 3 none 1 0 0 [.ref q, .int b, .int o] n sh (sR 15 I q M) L (yF none n sh (sR 15 I q (oncM M b o)) L) (yno) := by
  refine yM_of (by decide) (Nat.le_of_ble_eq_true rfl) rfl ?_
  intro X hC hr hnm hRc hRs htb
  have hC : yC X D z cX8_once RX8 3 1 := hC
  refine y_aload_n hC dX8_once_0 rfl ?_
  refine y_getIR (w9 := 15) hC (by decide) (yM_o hQ) f_X8_132 rfl dX8_once_1 ?_
  refine y_iload_n hC dX8_once_4 rfl ?_
  refine y_ishr hC dX8_once_5 ?_
  refine y_iconst (v := 1) hC dX8_once_6 (by decide) ?_
  refine y_iand hC dX8_once_7 ?_
  refine y_iconst (v := 1) hC dX8_once_8 (by decide) ?_
  refine y_icmp_ne (tgt := 19) hC dX8_once_9 (by decide) (fun c9 => ?_) (fun c9 => ?_)
  · refine y_aload_n hC dX8_once_19 rfl ?_
    refine y_dup hC dX8_once_20 rfl ?_
    refine y_getIR (w9 := 15) hC (by decide) (yM_o hQ) f_X8_132 rfl dX8_once_21 ?_
    refine y_iconst (v := 1) hC dX8_once_24 (by decide) ?_
    refine y_iload_n hC dX8_once_25 rfl ?_
    refine y_ishl hC dX8_once_26 ?_
    refine y_ior hC dX8_once_27 ?_
    refine y_putIR (w9 := 15) hC (by decide) (yM_o hQ) f_X8_132 rfl (Or.inl rfl) dX8_once_28 ?_
    exact y_vret hC hr (Nat.zero_le _) (Nat.zero_le _) dX8_once_31 (by first | (rw [oncM, if_neg c9]; exact yF.mk rfl) | exact ⟨rfl, rfl, rfl, congrArg (sR 15 I q) (by rw [oncM, if_pos c9, rptM_15 (M := M) (c := -2) (o := o) (show 15 ≠ 5 by decide) (by decide)]), rfl⟩)
  · refine y_aload_n hC dX8_once_12 rfl ?_
    refine y_bipush (v := (-2)) hC dX8_once_13 (by decide) ?_
    refine y_iload_n hC dX8_once_15 rfl ?_
    refine y_callV0 hC (c_X8_report X.2.1 D z hQ) m_X8_82 rfl (yM_o hQ) (by decide) (Nat.le_of_ble_eq_true rfl) (Nat.zero_le _) (Nat.zero_le _) dX8_once_16 ?_
    refine y_aload_n hC dX8_once_19 rfl ?_
    refine y_dup hC dX8_once_20 rfl ?_
    refine y_getIR (w9 := 15) hC (by decide) (yM_o hQ) f_X8_132 rfl dX8_once_21 ?_
    refine y_iconst (v := 1) hC dX8_once_24 (by decide) ?_
    refine y_iload_n hC dX8_once_25 rfl ?_
    refine y_ishl hC dX8_once_26 ?_
    refine y_ior hC dX8_once_27 ?_
    refine y_putIR (w9 := 15) hC (by decide) (yM_o hQ) f_X8_132 rfl (Or.inl rfl) dX8_once_28 ?_
    exact y_vret hC hr (Nat.zero_le _) (Nat.zero_le _) dX8_once_31 (by first | (rw [oncM, if_neg c9]; exact yF.mk rfl) | exact ⟨rfl, rfl, rfl, congrArg (sR 15 I q) (by rw [oncM, if_pos c9, rptM_15 (M := M) (c := -2) (o := o) (show 15 ≠ 5 by decide) (by decide)]), rfl⟩)
