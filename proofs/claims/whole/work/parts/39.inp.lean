set_option maxRecDepth 100000 in
set_option maxHeartbeats 4000000 in
theorem c_X3_hasRoom (l : Launch) (D : yD) (z : Nat) {n : Nat} {sh : yS} {I : yI} {L : yL} {i : Nat} {B : yI} (hB : yInp sh i) {len : Nat} (hl : B 0 1 = nI len) (hlen : len ≤ 900) : yM l D z yX3_hasRoom cX3_hasRoom 1 (some .boolean) 0 0 0 [.ref i] n sh (sR 2 I i B) L (yF (some (.int (b2i (len + 20 ≤ 900)))) n sh (sR 2 I i B) L) (yno) := by
  refine yM_of (by decide) (Nat.le_of_ble_eq_true rfl) rfl ?_
  intro X hC hr hnm hRc hRs htb
  have hC : yC X D z cX3_hasRoom RX3 1 0 := hC
  refine y_aload_n hC dX3_hasRoom_0 rfl ?_
  refine y_getIR (w9 := 2) hC (by decide) (yI_o hB) f_X3_13 rfl dX3_hasRoom_1 ?_
  rw [hl]
  refine y_bipush (v := nI 20) hC dX3_hasRoom_4 (by decide) ?_
  refine y_iaddN hC dX3_hasRoom_6 ?_
  refine y_sipush (v := nI 900) hC dX3_hasRoom_7 (by decide) ?_
  refine y_icmp_gt (tgt := 17) hC dX3_hasRoom_10 (by decide) (fun c10 => ?_) (fun c10 => ?_)
  · refine y_iconst (v := 0) hC dX3_hasRoom_17 (by decide) ?_
    exact y_iret hC hr rfl (Nat.zero_le _) (Nat.zero_le _) dX3_hasRoom_18 (by first | exact yF.t (nI_nlt2 c10) | exact yF.f (Nat.not_le.mpr (nI_lt2 c10)))
  · refine y_iconst (v := nI 1) hC dX3_hasRoom_13 (by decide) ?_
    refine y_goto (tgt := 18) hC dX3_hasRoom_14 (by decide) ?_
    exact y_iret hC hr rfl (Nat.zero_le _) (Nat.zero_le _) dX3_hasRoom_18 (by first | exact yF.t (nI_nlt2 c10) | exact yF.f (Nat.not_le.mpr (nI_lt2 c10)))
def wB (w k : Int32) : Int32 := (w >>> (k &&& 31)).toInt8.toInt32.toInt8.toInt32
/-- four bytes of a word behind the first len ones -/
def wordB (B : yI) (len : Nat) (w : Int32) : yI := up2 (up2 (up2 (up2 (up2 (up2 (up2 (up2 B 1 (len + 0) (wB w 24)) 0 1 (nI (len + 0 + 1))) 1 (len + 1) (wB w 16)) 0 1 (nI (len + 1 + 1))) 1 (len + 2) (wB w 8)) 0 1 (nI (len + 2 + 1))) 1 (len + 3) (wB w 0)) 0 1 (nI (len + 3 + 1))
set_option maxRecDepth 100000 in
set_option maxHeartbeats 4000000 in
theorem c_X3_addWord (l : Launch) (D : yD) (z : Nat) {n : Nat} {sh : yS} {I : yI} {L : yL} {i : Nat} {B : yI} (hB : yInp sh i) {len : Nat} (hl : B 0 1 = nI len) {w : Int32} (hlen : len + 4 ≤ 900) : yM l D z yX3_addWord cX3_addWord 3 none 0 0 0 [.ref i, .int w] n sh (sR 2 I i B) L (yF none n sh (sR 2 I i (wordB B len w)) L) (yno) := by
  refine yM_of (by decide) (Nat.le_of_ble_eq_true rfl) rfl ?_
  intro X hC hr hnm hRc hRs htb
  have hC : yC X D z cX3_addWord RX3 3 0 := hC
  obtain ⟨B0, hB0⟩ : ∃ q, q = B := ⟨_, rfl⟩
  have hl0 : B0 0 1 = nI (len + 0) := by rw [hB0]; exact hl
  rw [← hB0]
  refine y_bipush (v := nI 24) hC dX3_addWord_0 (by decide) ?_
  refine y_istore_n hC dX3_addWord_2 (by decide) rfl ?_
  refine y_iload_n hC dX3_addWord_3 rfl ?_
  refine y_if_lt (tgt := 46) hC dX3_addWord_4 (by decide) (fun c => absurd c (by decide)) (fun _ => ?_)
  refine y_aload_n hC dX3_addWord_7 rfl ?_
  refine y_getIR (w9 := 2) hC (by decide) (yI_o hB) f_X3_13 rfl dX3_addWord_8 ?_
  rw [hl0]
  refine y_sipush (v := nI 900) hC dX3_addWord_11 (by decide) ?_
  refine y_icmp_ge (tgt := 40) hC dX3_addWord_14 (by decide) (fun c => absurd (nI_le2 (a := 900) c) (by omega)) (fun _ => ?_)
  refine y_aload_n hC dX3_addWord_17 rfl ?_
  refine y_getR hC (yI_o hB) (yI_r0 hB) f_X3_9 rfl dX3_addWord_18 ?_
  refine y_aload_n hC dX3_addWord_21 rfl ?_
  refine y_getIR (w9 := 2) hC (by decide) (yI_o hB) f_X3_13 rfl dX3_addWord_22 ?_
  rw [hl0]
  refine y_iload_n hC dX3_addWord_25 rfl ?_
  refine y_iload_n hC dX3_addWord_26 rfl ?_
  refine y_ishr hC dX3_addWord_27 ?_
  refine y_i2b hC dX3_addWord_28 ?_
  refine y_bastRN (w9 := 2) hC (by decide) (yI_a0 hB) (by omega) dX3_addWord_29 ?_
  refine y_aload_n hC dX3_addWord_30 rfl ?_
  refine y_dup hC dX3_addWord_31 rfl ?_
  refine y_getIR (w9 := 2) hC (by decide) (yI_o hB) f_X3_13 rfl dX3_addWord_32 ?_
  rw [(show ∀ v, up2 B0 1 (len + 0) v 0 1 = nI (len + 0) from fun _ => hl0)]
  refine y_iconst (v := nI 1) hC dX3_addWord_35 (by decide) ?_
  refine y_iaddN hC dX3_addWord_36 ?_
  refine y_putIR (w9 := 2) hC (by decide) (yI_o hB) f_X3_13 rfl (Or.inl rfl) dX3_addWord_37 ?_
  have hl1 : up2 (up2 B0 1 (len + 0) (wB w 24)) 0 1 (nI (len + 0 + 1)) 0 1 = nI (len + 1) := by simp [up2, va_up, upd]; try rfl
  obtain ⟨B1, hB1⟩ : ∃ q, q = up2 (up2 B0 1 (len + 0) (wB w 24)) 0 1 (nI (len + 0 + 1)) := ⟨_, rfl⟩
  rw [← hB1] at hl1
  change Y X D z 3 n sh (sR 2 I i (up2 (up2 B0 1 (len + 0) (wB w 24)) 0 1 (nI (len + 0 + 1)))) L 0 0 _ _ _ _
  rw [← hB1]
  refine y_iinc (v := nI 16) hC dX3_addWord_40 rfl (by decide) (by decide) rfl ?_
  refine y_goto (tgt := 3) hC dX3_addWord_43 (by decide) ?_
  refine y_iload_n hC dX3_addWord_3 rfl ?_
  refine y_if_lt (tgt := 46) hC dX3_addWord_4 (by decide) (fun c => absurd c (by decide)) (fun _ => ?_)
  refine y_aload_n hC dX3_addWord_7 rfl ?_
  refine y_getIR (w9 := 2) hC (by decide) (yI_o hB) f_X3_13 rfl dX3_addWord_8 ?_
  rw [hl1]
  refine y_sipush (v := nI 900) hC dX3_addWord_11 (by decide) ?_
  refine y_icmp_ge (tgt := 40) hC dX3_addWord_14 (by decide) (fun c => absurd (nI_le2 (a := 900) c) (by omega)) (fun _ => ?_)
  refine y_aload_n hC dX3_addWord_17 rfl ?_
  refine y_getR hC (yI_o hB) (yI_r0 hB) f_X3_9 rfl dX3_addWord_18 ?_
  refine y_aload_n hC dX3_addWord_21 rfl ?_
  refine y_getIR (w9 := 2) hC (by decide) (yI_o hB) f_X3_13 rfl dX3_addWord_22 ?_
  rw [hl1]
  refine y_iload_n hC dX3_addWord_25 rfl ?_
  refine y_iload_n hC dX3_addWord_26 rfl ?_
  refine y_ishr hC dX3_addWord_27 ?_
  refine y_i2b hC dX3_addWord_28 ?_
  refine y_bastRN (w9 := 2) hC (by decide) (yI_a0 hB) (by omega) dX3_addWord_29 ?_
  refine y_aload_n hC dX3_addWord_30 rfl ?_
  refine y_dup hC dX3_addWord_31 rfl ?_
  refine y_getIR (w9 := 2) hC (by decide) (yI_o hB) f_X3_13 rfl dX3_addWord_32 ?_
  rw [(show ∀ v, up2 B1 1 (len + 1) v 0 1 = nI (len + 1) from fun _ => hl1)]
  refine y_iconst (v := nI 1) hC dX3_addWord_35 (by decide) ?_
  refine y_iaddN hC dX3_addWord_36 ?_
  refine y_putIR (w9 := 2) hC (by decide) (yI_o hB) f_X3_13 rfl (Or.inl rfl) dX3_addWord_37 ?_
  have hl2 : up2 (up2 B1 1 (len + 1) (wB w 16)) 0 1 (nI (len + 1 + 1)) 0 1 = nI (len + 2) := by simp [up2, va_up, upd]; try rfl
  obtain ⟨B2, hB2⟩ : ∃ q, q = up2 (up2 B1 1 (len + 1) (wB w 16)) 0 1 (nI (len + 1 + 1)) := ⟨_, rfl⟩
  rw [← hB2] at hl2
  change Y X D z 3 n sh (sR 2 I i (up2 (up2 B1 1 (len + 1) (wB w 16)) 0 1 (nI (len + 1 + 1)))) L 0 0 _ _ _ _
  rw [← hB2]
  refine y_iinc (v := nI 8) hC dX3_addWord_40 rfl (by decide) (by decide) rfl ?_
  refine y_goto (tgt := 3) hC dX3_addWord_43 (by decide) ?_
  refine y_iload_n hC dX3_addWord_3 rfl ?_
  refine y_if_lt (tgt := 46) hC dX3_addWord_4 (by decide) (fun c => absurd c (by decide)) (fun _ => ?_)
  refine y_aload_n hC dX3_addWord_7 rfl ?_
  refine y_getIR (w9 := 2) hC (by decide) (yI_o hB) f_X3_13 rfl dX3_addWord_8 ?_
  rw [hl2]
  refine y_sipush (v := nI 900) hC dX3_addWord_11 (by decide) ?_
  refine y_icmp_ge (tgt := 40) hC dX3_addWord_14 (by decide) (fun c => absurd (nI_le2 (a := 900) c) (by omega)) (fun _ => ?_)
  refine y_aload_n hC dX3_addWord_17 rfl ?_
  refine y_getR hC (yI_o hB) (yI_r0 hB) f_X3_9 rfl dX3_addWord_18 ?_
  refine y_aload_n hC dX3_addWord_21 rfl ?_
  refine y_getIR (w9 := 2) hC (by decide) (yI_o hB) f_X3_13 rfl dX3_addWord_22 ?_
  rw [hl2]
  refine y_iload_n hC dX3_addWord_25 rfl ?_
  refine y_iload_n hC dX3_addWord_26 rfl ?_
  refine y_ishr hC dX3_addWord_27 ?_
  refine y_i2b hC dX3_addWord_28 ?_
  refine y_bastRN (w9 := 2) hC (by decide) (yI_a0 hB) (by omega) dX3_addWord_29 ?_
  refine y_aload_n hC dX3_addWord_30 rfl ?_
  refine y_dup hC dX3_addWord_31 rfl ?_
  refine y_getIR (w9 := 2) hC (by decide) (yI_o hB) f_X3_13 rfl dX3_addWord_32 ?_
  rw [(show ∀ v, up2 B2 1 (len + 2) v 0 1 = nI (len + 2) from fun _ => hl2)]
  refine y_iconst (v := nI 1) hC dX3_addWord_35 (by decide) ?_
  refine y_iaddN hC dX3_addWord_36 ?_
  refine y_putIR (w9 := 2) hC (by decide) (yI_o hB) f_X3_13 rfl (Or.inl rfl) dX3_addWord_37 ?_
  have hl3 : up2 (up2 B2 1 (len + 2) (wB w 8)) 0 1 (nI (len + 2 + 1)) 0 1 = nI (len + 3) := by simp [up2, va_up, upd]; try rfl
  obtain ⟨B3, hB3⟩ : ∃ q, q = up2 (up2 B2 1 (len + 2) (wB w 8)) 0 1 (nI (len + 2 + 1)) := ⟨_, rfl⟩
  rw [← hB3] at hl3
  change Y X D z 3 n sh (sR 2 I i (up2 (up2 B2 1 (len + 2) (wB w 8)) 0 1 (nI (len + 2 + 1)))) L 0 0 _ _ _ _
  rw [← hB3]
  refine y_iinc (v := nI 0) hC dX3_addWord_40 rfl (by decide) (by decide) rfl ?_
  refine y_goto (tgt := 3) hC dX3_addWord_43 (by decide) ?_
  refine y_iload_n hC dX3_addWord_3 rfl ?_
  refine y_if_lt (tgt := 46) hC dX3_addWord_4 (by decide) (fun c => absurd c (by decide)) (fun _ => ?_)
  refine y_aload_n hC dX3_addWord_7 rfl ?_
  refine y_getIR (w9 := 2) hC (by decide) (yI_o hB) f_X3_13 rfl dX3_addWord_8 ?_
  rw [hl3]
  refine y_sipush (v := nI 900) hC dX3_addWord_11 (by decide) ?_
  refine y_icmp_ge (tgt := 40) hC dX3_addWord_14 (by decide) (fun c => absurd (nI_le2 (a := 900) c) (by omega)) (fun _ => ?_)
  refine y_aload_n hC dX3_addWord_17 rfl ?_
  refine y_getR hC (yI_o hB) (yI_r0 hB) f_X3_9 rfl dX3_addWord_18 ?_
  refine y_aload_n hC dX3_addWord_21 rfl ?_
  refine y_getIR (w9 := 2) hC (by decide) (yI_o hB) f_X3_13 rfl dX3_addWord_22 ?_
  rw [hl3]
  refine y_iload_n hC dX3_addWord_25 rfl ?_
  refine y_iload_n hC dX3_addWord_26 rfl ?_
  refine y_ishr hC dX3_addWord_27 ?_
  refine y_i2b hC dX3_addWord_28 ?_
  refine y_bastRN (w9 := 2) hC (by decide) (yI_a0 hB) (by omega) dX3_addWord_29 ?_
  refine y_aload_n hC dX3_addWord_30 rfl ?_
  refine y_dup hC dX3_addWord_31 rfl ?_
  refine y_getIR (w9 := 2) hC (by decide) (yI_o hB) f_X3_13 rfl dX3_addWord_32 ?_
  rw [(show ∀ v, up2 B3 1 (len + 3) v 0 1 = nI (len + 3) from fun _ => hl3)]
  refine y_iconst (v := nI 1) hC dX3_addWord_35 (by decide) ?_
  refine y_iaddN hC dX3_addWord_36 ?_
  refine y_putIR (w9 := 2) hC (by decide) (yI_o hB) f_X3_13 rfl (Or.inl rfl) dX3_addWord_37 ?_
  have hl4 : up2 (up2 B3 1 (len + 3) (wB w 0)) 0 1 (nI (len + 3 + 1)) 0 1 = nI (len + 4) := by simp [up2, va_up, upd]; try rfl
  obtain ⟨B4, hB4⟩ : ∃ q, q = up2 (up2 B3 1 (len + 3) (wB w 0)) 0 1 (nI (len + 3 + 1)) := ⟨_, rfl⟩
  rw [← hB4] at hl4
  change Y X D z 3 n sh (sR 2 I i (up2 (up2 B3 1 (len + 3) (wB w 0)) 0 1 (nI (len + 3 + 1)))) L 0 0 _ _ _ _
  rw [← hB4]
  refine y_iinc (v := (-8)) hC dX3_addWord_40 rfl (by decide) (by decide) rfl ?_
  refine y_goto (tgt := 3) hC dX3_addWord_43 (by decide) ?_
  refine y_iload_n hC dX3_addWord_3 rfl ?_
  refine y_if_lt (tgt := 46) hC dX3_addWord_4 (by decide) (fun _ => ?_) (fun c => absurd (by decide) c)
  exact y_vret hC hr (Nat.zero_le _) (Nat.zero_le _) dX3_addWord_46 ⟨rfl, rfl, rfl, by rw [hB4, hB3, hB2, hB1]; rfl, rfl⟩
set_option maxRecDepth 100000 in
set_option maxHeartbeats 4000000 in
theorem c_X3_clear (l : Launch) (D : yD) (z : Nat) {n : Nat} {sh : yS} {I : yI} {L : yL} {i : Nat} {B : yI} (hB : yInp sh i) : yM l D z yX3_clear cX3_clear 1 none 0 0 0 [.ref i] n sh (sR 2 I i B) L (yF none n sh (sR 2 I i (up2 B 0 1 0)) L) (yno) := by
  refine yM_of (by decide) (Nat.le_of_ble_eq_true rfl) rfl ?_
  intro X hC hr hnm hRc hRs htb
  have hC : yC X D z cX3_clear RX3 1 0 := hC
  refine y_aload_n hC dX3_clear_0 rfl ?_
  refine y_iconst (v := 0) hC dX3_clear_1 (by decide) ?_
  refine y_putIR (w9 := 2) hC (by decide) (yI_o hB) f_X3_13 rfl (Or.inl rfl) dX3_clear_2 ?_
  exact y_vret hC hr (Nat.zero_le _) (Nat.zero_le _) dX3_clear_5 (yF.mk rfl)
def rwc (cd : Nat → Int32) (x : Int32) : Nat → Nat → Int32
  | _, 0 => -1
  | j, f + 1 => if cd j = x then nI j else rwc cd x (j + 1) f
set_option maxRecDepth 100000 in
set_option maxHeartbeats 4000000 in
theorem c_X4_reasonWithCode (l : Launch) (D : yD) (z : Nat) {n : Nat} {sh : yS} {I : yI} {L : yL} {a f : Nat} (hS : ySet sh a f) {nr : Nat} (hr8 : I a 6 = nI nr) (hnr : nr ≤ 8) {x : Int32} : yM l D z yX4_reasonWithCode cX4_reasonWithCode 3 (some .int) 0 0 0 [.ref a, .int x] n sh I L (yF (some (.int (rwc (I (a + 4)) x 0 nr))) n sh I L) (yno) := by
  refine yM_of (by decide) (Nat.le_of_ble_eq_true rfl) rfl ?_
  intro X hC hr hnm hRc hRs htb
  have hC : yC X D z cX4_reasonWithCode RX4 3 0 := hC
  refine y_iconst (v := nI 0) hC dX4_reasonWithCode_0 (by decide) ?_
  refine y_istore_n hC dX4_reasonWithCode_1 (by decide) rfl ?_
  have lp2 : ∀ (f9 j : Nat) , j + f9 = nr → rwc (I (a + 4)) x j f9 = rwc (I (a + 4)) x 0 nr → Y X D z 3 n sh I L 0 0 (yEnd X D z (yF (some (.int (rwc (I (a + 4)) x 0 nr))) n sh I L) (yno) 0 0) 2 [some (.ref a), some (.int x), some (.int (nI j))] [] := by
    intro f9
    induction f9 with
    | zero =>
      intro j  hm hi
      refine y_iload_n hC dX4_reasonWithCode_2 rfl ?_
      refine y_aload_n hC dX4_reasonWithCode_3 rfl ?_
      refine y_getI hC (yS_o hS) f_X4_52 rfl dX4_reasonWithCode_4 ?_
      rw [hr8]
      refine y_icmp_ge (tgt := 28) hC dX4_reasonWithCode_7 (by decide) (fun c7 => ?_) (fun c7 => absurd (nI_le (by omega) (by omega)) c7)
      refine y_iconst (v := (-1)) hC dX4_reasonWithCode_28 (by decide) ?_
      exact y_iret hC hr rfl (Nat.zero_le _) (Nat.zero_le _) dX4_reasonWithCode_29 (yF.mk (congrArg (fun q => some (Value.int q)) (by rw [← hi]; first | rfl | (rw [rwc, if_pos c17]))))
    | succ f9 ih =>
      intro j  hm hi
      refine y_iload_n hC dX4_reasonWithCode_2 rfl ?_
      refine y_aload_n hC dX4_reasonWithCode_3 rfl ?_
      refine y_getI hC (yS_o hS) f_X4_52 rfl dX4_reasonWithCode_4 ?_
      rw [hr8]
      refine y_icmp_ge (tgt := 28) hC dX4_reasonWithCode_7 (by decide) (fun c7 => absurd c7 (nI_ge (by omega) (by omega))) (fun c7 => ?_)
      refine y_aload_n hC dX4_reasonWithCode_10 rfl ?_
      refine y_getR hC (yS_o hS) (yS_r7 hS) f_X4_33 rfl dX4_reasonWithCode_11 ?_
      refine y_iload_n hC dX4_reasonWithCode_14 rfl ?_
      refine y_ialdN hC (yS_a7 hS) (by omega) dX4_reasonWithCode_15 ?_
      refine y_iload_n hC dX4_reasonWithCode_16 rfl ?_
      refine y_icmp_ne (tgt := 22) hC dX4_reasonWithCode_17 (by decide) (fun c17 => ?_) (fun c17 => ?_)
      · refine y_iincN hC dX4_reasonWithCode_22 rfl rfl (by decide) rfl ?_
        refine y_goto (tgt := 2) hC dX4_reasonWithCode_25 (by decide) ?_
        exact ih (j + 1) (by omega) (by rw [← hi, rwc, if_neg c17])
      · refine y_iload_n hC dX4_reasonWithCode_20 rfl ?_
        exact y_iret hC hr rfl (Nat.zero_le _) (Nat.zero_le _) dX4_reasonWithCode_21 (yF.mk (congrArg (fun q => some (Value.int q)) (by rw [← hi]; first | rfl | (rw [rwc, if_pos c17]))))
  exact lp2 nr 0 (Nat.zero_add _) rfl
def addR (S : yI) (nr : Nat) (c1 c2 c3 c4 c5 c6 : Int32) : yI := up2 (up2 (up2 (up2 (up2 (up2 (up2 S 4 nr c1) 5 nr c2) 6 nr c3) 7 nr c4) 8 nr c5) 9 nr c6) 0 6 (nI (nr + 1))
set_option maxRecDepth 100000 in
set_option maxHeartbeats 4000000 in
theorem c_X4_addReason (l : Launch) (D : yD) (z : Nat) {n : Nat} {sh : yS} {I : yI} {L : yL} {a f : Nat} {S : yI} (hS : ySet sh a f) {nr : Nat} (hr8 : S 0 6 = nI nr) (hnr : nr < 8) {c1 c2 c3 c4 c5 c6 : Int32} : yM l D z yX4_addReason cX4_addReason 7 none 0 0 0 [.ref a, .int c1, .int c2, .int c3, .int c4, .int c5, .int c6] n sh (sR 10 I a S) L (yF none n sh (sR 10 I a (addR S nr c1 c2 c3 c4 c5 c6)) L) (yno) := by
  refine yM_of (by decide) (Nat.le_of_ble_eq_true rfl) rfl ?_
  intro X hC hr hnm hRc hRs htb
  have hC : yC X D z cX4_addReason RX4 7 0 := hC
  refine y_aload_n hC dX4_addReason_0 rfl ?_
  refine y_getIR (w9 := 10) hC (by decide) (yS_o hS) f_X4_52 rfl dX4_addReason_1 ?_
  rw [hr8]
  refine y_bipush (v := nI 8) hC dX4_addReason_4 (by decide) ?_
  refine y_icmp_ge (tgt := 82) hC dX4_addReason_6 (by decide) (fun cq => absurd (nI_le2 (a := 8) cq) (by omega)) (fun cq => ?_)
  refine y_aload_n hC dX4_addReason_9 rfl ?_
  refine y_getR hC (yS_o hS) (yS_r7 hS) f_X4_33 rfl dX4_addReason_10 ?_
  refine y_aload_n hC dX4_addReason_13 rfl ?_
  refine y_getIR (w9 := 10) hC (by decide) (yS_o hS) f_X4_52 rfl dX4_addReason_14 ?_
  rw [(show (S) 0 6 = nI nr from hr8)]
  refine y_iload_n hC dX4_addReason_17 rfl ?_
  refine y_iastRN (w9 := 10) hC (by decide) (yS_a7 hS) (by omega) dX4_addReason_18 ?_
  refine y_aload_n hC dX4_addReason_19 rfl ?_
  refine y_getR hC (yS_o hS) (yS_r8 hS) f_X4_37 rfl dX4_addReason_20 ?_
  refine y_aload_n hC dX4_addReason_23 rfl ?_
  refine y_getIR (w9 := 10) hC (by decide) (yS_o hS) f_X4_52 rfl dX4_addReason_24 ?_
  rw [(show (up2 (S) 4 nr c1) 0 6 = nI nr from hr8)]
  refine y_iload_n hC dX4_addReason_27 rfl ?_
  refine y_iastRN (w9 := 10) hC (by decide) (yS_a8 hS) (by omega) dX4_addReason_28 ?_
  refine y_aload_n hC dX4_addReason_29 rfl ?_
  refine y_getR hC (yS_o hS) (yS_r9 hS) f_X4_40 rfl dX4_addReason_30 ?_
  refine y_aload_n hC dX4_addReason_33 rfl ?_
  refine y_getIR (w9 := 10) hC (by decide) (yS_o hS) f_X4_52 rfl dX4_addReason_34 ?_
  rw [(show (up2 (up2 (S) 4 nr c1) 5 nr c2) 0 6 = nI nr from hr8)]
  refine y_iload_n hC dX4_addReason_37 rfl ?_
  refine y_iastRN (w9 := 10) hC (by decide) (yS_a9 hS) (by omega) dX4_addReason_38 ?_
  refine y_aload_n hC dX4_addReason_39 rfl ?_
  refine y_getR hC (yS_o hS) (yS_r10 hS) f_X4_43 rfl dX4_addReason_40 ?_
  refine y_aload_n hC dX4_addReason_43 rfl ?_
  refine y_getIR (w9 := 10) hC (by decide) (yS_o hS) f_X4_52 rfl dX4_addReason_44 ?_
  rw [(show (up2 (up2 (up2 (S) 4 nr c1) 5 nr c2) 6 nr c3) 0 6 = nI nr from hr8)]
  refine y_iload hC dX4_addReason_47 rfl ?_
  refine y_iastRN (w9 := 10) hC (by decide) (yS_a10 hS) (by omega) dX4_addReason_49 ?_
  refine y_aload_n hC dX4_addReason_50 rfl ?_
  refine y_getR hC (yS_o hS) (yS_r11 hS) f_X4_46 rfl dX4_addReason_51 ?_
  refine y_aload_n hC dX4_addReason_54 rfl ?_
  refine y_getIR (w9 := 10) hC (by decide) (yS_o hS) f_X4_52 rfl dX4_addReason_55 ?_
  rw [(show (up2 (up2 (up2 (up2 (S) 4 nr c1) 5 nr c2) 6 nr c3) 7 nr c4) 0 6 = nI nr from hr8)]
  refine y_iload hC dX4_addReason_58 rfl ?_
  refine y_iastRN (w9 := 10) hC (by decide) (yS_a11 hS) (by omega) dX4_addReason_60 ?_
  refine y_aload_n hC dX4_addReason_61 rfl ?_
  refine y_getR hC (yS_o hS) (yS_r12 hS) f_X4_49 rfl dX4_addReason_62 ?_
  refine y_aload_n hC dX4_addReason_65 rfl ?_
  refine y_getIR (w9 := 10) hC (by decide) (yS_o hS) f_X4_52 rfl dX4_addReason_66 ?_
  rw [(show (up2 (up2 (up2 (up2 (up2 (S) 4 nr c1) 5 nr c2) 6 nr c3) 7 nr c4) 8 nr c5) 0 6 = nI nr from hr8)]
  refine y_iload hC dX4_addReason_69 rfl ?_
  refine y_iastRN (w9 := 10) hC (by decide) (yS_a12 hS) (by omega) dX4_addReason_71 ?_
  refine y_aload_n hC dX4_addReason_72 rfl ?_
  refine y_dup hC dX4_addReason_73 rfl ?_
  refine y_getIR (w9 := 10) hC (by decide) (yS_o hS) f_X4_52 rfl dX4_addReason_74 ?_
  rw [(show (up2 (up2 (up2 (up2 (up2 (up2 (S) 4 nr c1) 5 nr c2) 6 nr c3) 7 nr c4) 8 nr c5) 9 nr c6) 0 6 = nI nr from hr8)]
  refine y_iconst (v := nI 1) hC dX4_addReason_77 (by decide) ?_
  refine y_iaddN hC dX4_addReason_78 ?_
  refine y_putIR (w9 := 10) hC (by decide) (yS_o hS) f_X4_52 rfl (Or.inl rfl) dX4_addReason_79 ?_
  exact y_vret hC hr (Nat.zero_le _) (Nat.zero_le _) dX4_addReason_82 (yF.mk rfl)
