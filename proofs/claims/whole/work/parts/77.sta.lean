set_option maxRecDepth 100000 in
set_option maxHeartbeats 4000000 in
theorem c_X5_readReason (l : Launch) (D : yD) (z : Nat) {n : Nat} {sh : yS} {I : yI} {L : yL} {r b m cnt fr fm fo : Nat} {k v s : Nat → Int32} (hX : yPx k sh r b m cnt) (hfr : fr = 6 ∨ fr = 15) (hT : ySet sh (r + 5) fo) {Z : yI} {P : yPs} (hZ : rcP k v s cnt fr fm Z P) (h0 : P.2.1 = 0) (hk : k P.1 = 258) {nr : Nat} (hr8 : nr ≤ 8) (hzn : Z 5 6 = nI nr) (hd2 : P.2.2.2.1 2 = nI nr) : yM l D z yX5_readReason cX5_readReason 7 none 3 0 0 [.ref r] n sh (sR 18 I r Z) L (yZ (fun Z2 => rcP k v s cnt fr fm Z2 (gRea k v s nr P)) n sh I r L) (yno) := by
  refine yM_of (by decide) (Nat.le_of_ble_eq_true rfl) rfl ?_
  intro X hC hr hnm hRc hRs htb
  have hC : yC X D z cX5_readReason RX5 7 3 := hC
  refine y_aload_n hC dX5_readReason_0 rfl ?_
  refine y_getR hC (yP_o hX.1) (yP_r1 hX.1) f_X5_18 rfl dX5_readReason_1 ?_
  refine y_getIK (w9 := 18) (r := 5) hC (by decide) hX.2.2.2.2 f_X5_79 rfl dX5_readReason_4 ?_
  rw [hzn]
  refine y_bipush (v := nI 8) hC dX5_readReason_7 (by decide) ?_
  refine y_icmp_lt (tgt := 19) hC dX5_readReason_9 (by decide) (fun c9 => ?_) (fun c9 => ?_)
  · have hlt : nr < 8 := nI_lt2 c9
    refine y_aload_n hC dX5_readReason_19 rfl ?_
    refine y_callZ hC (p_step X.2.1 D z hX hZ (by omega) (by intro q; rw [hk] at q; exact absurd q (by decide))) m_X5_82 rfl (yP_o hX.1) (by omega) (Nat.le_of_ble_eq_true rfl) (Nat.zero_le _) (Nat.zero_le _) dX5_readReason_20 (fun Z1 g1 => ?_)
    refine y_aload_n hC dX5_readReason_23 rfl ?_
    refine y_callN hC (c_X5_takeCode X.2.1 D z hX hfr hT g1 (nr := nr) (fun _ => ⟨by obtain ⟨n9, -, m1, m2⟩ := g1.1.2.2.2.2.1; exact m1.trans (m2.symm.trans hd2), hd2⟩) hr8) m_X5_85 rfl (yP_o hX.1) (by omega) (Nat.le_of_ble_eq_true rfl) (Nat.zero_le _) (Nat.zero_le _) dX5_readReason_24 (fun x2 Z2 g2 => ?_)
    refine y_istore_n hC dX5_readReason_27 (by decide) rfl ?_
    obtain ⟨P1, hP1⟩ : ∃ q, q = gCod k v s nr (20 + 6 * nr) (gStp P) := ⟨_, rfl⟩
    have dc1 : P1.2.2.2.1 2 = nI nr := by rw [hP1]; exact (gCod_dr (by omega)).trans hd2
    rw [← hP1] at g2
    refine y_aload_n hC dX5_readReason_28 rfl ?_
    refine y_iconst (v := 0) hC dX5_readReason_29 (by decide) ?_
    refine y_sipush (v := 200) hC dX5_readReason_30 (by decide) ?_
    refine y_callN hC (p_num X.2.1 D z hX g2.1 (by omega)) m_X5_69 rfl (yP_o hX.1) (by omega) (Nat.le_of_ble_eq_true rfl) (Nat.zero_le _) (Nat.zero_le _) dX5_readReason_33 (fun x3 Z3 g3 => ?_)
    refine y_istore_n hC dX5_readReason_36 (by decide) rfl ?_
    obtain ⟨P2, hP2⟩ : ∃ q, q = gNu2 k v s ((20 + 6 * nr) + 1) 0 200 P1 := ⟨_, rfl⟩
    have dc2 : P2.2.2.2.1 2 = nI nr := by rw [hP2]; exact (by rw [gNu2_dr, upd_ne9 (by omega)]; exact dc1)
    have b2 : rcP k v s cnt fr fm Z3 P2 := by rw [hP2]; exact g3.1.far (nr := nr) (fun _ => by rw [gNum_d]; exact dc1) (by omega) (by omega)
    refine y_aload_n hC dX5_readReason_37 rfl ?_
    refine y_iconst (v := 1) hC dX5_readReason_38 (by decide) ?_
    refine y_bipush (v := 60) hC dX5_readReason_39 (by decide) ?_
    refine y_callN hC (p_num X.2.1 D z hX b2 (by omega)) m_X5_69 rfl (yP_o hX.1) (by omega) (Nat.le_of_ble_eq_true rfl) (Nat.zero_le _) (Nat.zero_le _) dX5_readReason_41 (fun x4 Z4 g4 => ?_)
    refine y_istore_n hC dX5_readReason_44 (by decide) rfl ?_
    obtain ⟨P3, hP3⟩ : ∃ q, q = gNu2 k v s ((20 + 6 * nr) + 2) 1 60 P2 := ⟨_, rfl⟩
    have dc3 : P3.2.2.2.1 2 = nI nr := by rw [hP3]; exact (by rw [gNu2_dr, upd_ne9 (by omega)]; exact dc2)
    have b3 : rcP k v s cnt fr fm Z4 P3 := by rw [hP3]; exact g4.1.far (nr := nr) (fun _ => by rw [gNum_d]; exact dc2) (by omega) (by omega)
    refine y_aload_n hC dX5_readReason_45 rfl ?_
    refine y_iconst (v := 1) hC dX5_readReason_46 (by decide) ?_
    refine y_bipush (v := 60) hC dX5_readReason_47 (by decide) ?_
    refine y_callN hC (p_num X.2.1 D z hX b3 (by omega)) m_X5_69 rfl (yP_o hX.1) (by omega) (Nat.le_of_ble_eq_true rfl) (Nat.zero_le _) (Nat.zero_le _) dX5_readReason_49 (fun x5 Z5 g5 => ?_)
    refine y_istore hC dX5_readReason_52 (by decide) rfl ?_
    obtain ⟨P4, hP4⟩ : ∃ q, q = gNu2 k v s ((20 + 6 * nr) + 3) 1 60 P3 := ⟨_, rfl⟩
    have dc4 : P4.2.2.2.1 2 = nI nr := by rw [hP4]; exact (by rw [gNu2_dr, upd_ne9 (by omega)]; exact dc3)
    have b4 : rcP k v s cnt fr fm Z5 P4 := by rw [hP4]; exact g5.1.far (nr := nr) (fun _ => by rw [gNum_d]; exact dc3) (by omega) (by omega)
    refine y_aload_n hC dX5_readReason_54 rfl ?_
    refine y_iconst (v := 0) hC dX5_readReason_55 (by decide) ?_
    refine y_sipush (v := 9999) hC dX5_readReason_56 (by decide) ?_
    refine y_callN hC (p_num X.2.1 D z hX b4 (by omega)) m_X5_69 rfl (yP_o hX.1) (by omega) (Nat.le_of_ble_eq_true rfl) (Nat.zero_le _) (Nat.zero_le _) dX5_readReason_59 (fun x6 Z6 g6 => ?_)
    refine y_istore hC dX5_readReason_62 (by decide) rfl ?_
    obtain ⟨P5, hP5⟩ : ∃ q, q = gNu2 k v s ((20 + 6 * nr) + 4) 0 9999 P4 := ⟨_, rfl⟩
    have dc5 : P5.2.2.2.1 2 = nI nr := by rw [hP5]; exact (by rw [gNu2_dr, upd_ne9 (by omega)]; exact dc4)
    have b5 : rcP k v s cnt fr fm Z6 P5 := by rw [hP5]; exact g6.1.far (nr := nr) (fun _ => by rw [gNum_d]; exact dc4) (by omega) (by omega)
    obtain ⟨P6, hP6⟩ : ∃ q, q = gPut ((20 + 6 * nr) + 5) 0 P5 := ⟨_, rfl⟩
    have dc6 : P6.2.2.2.1 2 = nI nr := by rw [hP6]; exact ((upd_ne9 (d := P5.2.2.2.1) (a := 20 + 6 * nr + 5) (v := 0) (by omega)).trans dc5)
    have b6 : rcP k v s cnt fr fm Z6 P6 := by rw [hP6]; exact b5.far (nr := nr) (fun _ => dc5) (by omega) (by omega)
    refine y_iconst (v := 0) hC dX5_readReason_64 (by decide) ?_
    refine y_istore hC dX5_readReason_65 (by decide) rfl ?_
    refine y_aload_n hC dX5_readReason_67 rfl ?_
    refine y_callV1 hC (p_isFine X.2.1 D z hX b6) m_X5_31 rfl (yP_o hX.1) (by omega) (Nat.le_of_ble_eq_true rfl) (Nat.zero_le _) (Nat.zero_le _) dX5_readReason_68 ?_
    refine y_if_eqB (tgt := 94) hC dX5_readReason_71 (by decide) (fun c71 => ?_) (fun c71 => ?_)
    · skip
      refine y_aload_n hC dX5_readReason_94 rfl ?_
      refine y_getR hC (yP_o hX.1) (yP_r1 hX.1) f_X5_18 rfl dX5_readReason_95 ?_
      refine y_iload_n hC dX5_readReason_98 rfl ?_
      refine y_iload_n hC dX5_readReason_99 rfl ?_
      refine y_iload_n hC dX5_readReason_100 rfl ?_
      refine y_iload hC dX5_readReason_101 rfl ?_
      refine y_iload hC dX5_readReason_103 rfl ?_
      refine y_iload hC dX5_readReason_105 rfl ?_
      obtain ⟨P7, hP7⟩ : ∃ q, q = gNee k v s ((20 + 6 * nr) + 5) P6 := ⟨_, rfl⟩
      have b7 : rcP k v s cnt fr fm Z6 P7 := by rw [hP7, gNee, if_neg (by first | exact (fun q => c71 q.1) | exact (fun q => c81 q.2))]; exact b6
      have x7 : P7.2.1 = 0 → (0 : Int32) = P7.2.2.2.1 ((20 + 6 * nr) + 5) := by rw [hP7, gNee, if_neg (by first | exact (fun q => c71 q.1) | exact (fun q => c81 q.2)), hP6]; intro _; show _ = upd _ _ _ _; rw [upd_same]
      have dc7 : P7.2.2.2.1 2 = nI nr := by rw [hP7, gNee_dr (by omega)]; exact dc6
      have zn : Z6 5 6 = nI nr := by obtain ⟨n9, -, m1, m2⟩ := b7.1.2.2.2.2.1; exact m1.trans (m2.symm.trans dc7)
      have he := rea_end (P1 := P1) (P2 := P2) (P3 := P3) (P4 := P4) (P5 := P5) (P7 := P7) hlt rfl dc1 g2.2 (by rw [hP2, gNu2_dr]) (by rw [hP3, gNu2_dr]) (by rw [hP4, gNu2_dr]) (by rw [hP5, gNu2_dr]) (fun q => gNu2_e g3.2 (by rw [hP2] at q; exact q)) (fun q => gNu2_e g4.2 (by rw [hP3] at q; exact q)) (fun q => gNu2_e g5.2 (by rw [hP4] at q; exact q)) (fun q => gNu2_e g6.2 (by rw [hP5] at q; exact q)) (fun q => by rw [hP7] at q; have q := gNee_e q; rw [hP6] at q; exact q) (fun i hi => by rw [hP7, gNee_dr hi, hP6]; show upd _ _ _ i = _; rw [upd_ne9 hi]) x7
      refine y_callV0 hC (p_adr X.2.1 D z hT (nr := nr) zn hlt) m_X5_91 rfl hX.2.2.2.2 (by omega) (Nat.le_of_ble_eq_true rfl) (Nat.zero_le _) (Nat.zero_le _) dX5_readReason_107 ?_
      exact y_vret hC hr (Nat.zero_le _) (Nat.zero_le _) dX5_readReason_110 (yZ.mk (by rw [gRea, if_neg (by omega), ← hP1, ← hP2, ← hP3, ← hP4, ← hP5, ← hP6, ← hP7]; exact b7.adr hfr zn hlt he))
    · refine y_aload_n hC dX5_readReason_74 rfl ?_
      refine y_callV1 hC (p_kind X.2.1 D z hX b6) m_X5_35 rfl (yP_o hX.1) (by omega) (Nat.le_of_ble_eq_true rfl) (Nat.zero_le _) (Nat.zero_le _) dX5_readReason_75 ?_
      refine y_sipush (v := 259) hC dX5_readReason_78 (by decide) ?_
      refine y_icmp_ne (tgt := 94) hC dX5_readReason_81 (by decide) (fun c81 => ?_) (fun c81 => ?_)
      · skip
        refine y_aload_n hC dX5_readReason_94 rfl ?_
        refine y_getR hC (yP_o hX.1) (yP_r1 hX.1) f_X5_18 rfl dX5_readReason_95 ?_
        refine y_iload_n hC dX5_readReason_98 rfl ?_
        refine y_iload_n hC dX5_readReason_99 rfl ?_
        refine y_iload_n hC dX5_readReason_100 rfl ?_
        refine y_iload hC dX5_readReason_101 rfl ?_
        refine y_iload hC dX5_readReason_103 rfl ?_
        refine y_iload hC dX5_readReason_105 rfl ?_
        obtain ⟨P7, hP7⟩ : ∃ q, q = gNee k v s ((20 + 6 * nr) + 5) P6 := ⟨_, rfl⟩
        have b7 : rcP k v s cnt fr fm Z6 P7 := by rw [hP7, gNee, if_neg (by first | exact (fun q => c71 q.1) | exact (fun q => c81 q.2))]; exact b6
        have x7 : P7.2.1 = 0 → (0 : Int32) = P7.2.2.2.1 ((20 + 6 * nr) + 5) := by rw [hP7, gNee, if_neg (by first | exact (fun q => c71 q.1) | exact (fun q => c81 q.2)), hP6]; intro _; show _ = upd _ _ _ _; rw [upd_same]
        have dc7 : P7.2.2.2.1 2 = nI nr := by rw [hP7, gNee_dr (by omega)]; exact dc6
        have zn : Z6 5 6 = nI nr := by obtain ⟨n9, -, m1, m2⟩ := b7.1.2.2.2.2.1; exact m1.trans (m2.symm.trans dc7)
        have he := rea_end (P1 := P1) (P2 := P2) (P3 := P3) (P4 := P4) (P5 := P5) (P7 := P7) hlt rfl dc1 g2.2 (by rw [hP2, gNu2_dr]) (by rw [hP3, gNu2_dr]) (by rw [hP4, gNu2_dr]) (by rw [hP5, gNu2_dr]) (fun q => gNu2_e g3.2 (by rw [hP2] at q; exact q)) (fun q => gNu2_e g4.2 (by rw [hP3] at q; exact q)) (fun q => gNu2_e g5.2 (by rw [hP4] at q; exact q)) (fun q => gNu2_e g6.2 (by rw [hP5] at q; exact q)) (fun q => by rw [hP7] at q; have q := gNee_e q; rw [hP6] at q; exact q) (fun i hi => by rw [hP7, gNee_dr hi, hP6]; show upd _ _ _ i = _; rw [upd_ne9 hi]) x7
        refine y_callV0 hC (p_adr X.2.1 D z hT (nr := nr) zn hlt) m_X5_91 rfl hX.2.2.2.2 (by omega) (Nat.le_of_ble_eq_true rfl) (Nat.zero_le _) (Nat.zero_le _) dX5_readReason_107 ?_
        exact y_vret hC hr (Nat.zero_le _) (Nat.zero_le _) dX5_readReason_110 (yZ.mk (by rw [gRea, if_neg (by omega), ← hP1, ← hP2, ← hP3, ← hP4, ← hP5, ← hP6, ← hP7]; exact b7.adr hfr zn hlt he))
      · skip
        refine y_aload_n hC dX5_readReason_84 rfl ?_
        refine y_callZ hC (p_step X.2.1 D z hX b6 (by omega) (by intro q; rw [c81] at q; exact absurd q (by decide))) m_X5_82 rfl (yP_o hX.1) (by omega) (Nat.le_of_ble_eq_true rfl) (Nat.zero_le _) (Nat.zero_le _) dX5_readReason_85 (fun Z7 g7 => ?_)
        refine y_aload_n hC dX5_readReason_88 rfl ?_
        refine y_callN hC (c_X5_takeTypes X.2.1 D z hX hfr hT g7 (nr := nr) (j := 20 + 6 * nr + 5) dc6 hlt (by omega)) m_X5_88 rfl (yP_o hX.1) (by omega) (Nat.le_of_ble_eq_true rfl) (Nat.zero_le _) (Nat.zero_le _) dX5_readReason_89 (fun x8 Z8 g8 => ?_)
        refine y_istore hC dX5_readReason_92 (by decide) rfl ?_
        skip
        refine y_aload_n hC dX5_readReason_94 rfl ?_
        refine y_getR hC (yP_o hX.1) (yP_r1 hX.1) f_X5_18 rfl dX5_readReason_95 ?_
        refine y_iload_n hC dX5_readReason_98 rfl ?_
        refine y_iload_n hC dX5_readReason_99 rfl ?_
        refine y_iload_n hC dX5_readReason_100 rfl ?_
        refine y_iload hC dX5_readReason_101 rfl ?_
        refine y_iload hC dX5_readReason_103 rfl ?_
        refine y_iload hC dX5_readReason_105 rfl ?_
        obtain ⟨P7, hP7⟩ : ∃ q, q = gNee k v s ((20 + 6 * nr) + 5) P6 := ⟨_, rfl⟩
        have b7 : rcP k v s cnt fr fm Z8 P7 := by rw [hP7, gNee, if_pos ⟨c71, c81⟩]; exact g8.1
        have x7 : P7.2.1 = 0 → x8 = P7.2.2.2.1 ((20 + 6 * nr) + 5) := by rw [hP7, gNee, if_pos ⟨c71, c81⟩]; exact g8.2
        have dc7 : P7.2.2.2.1 2 = nI nr := by rw [hP7, gNee_dr (by omega)]; exact dc6
        have zn : Z8 5 6 = nI nr := by obtain ⟨n9, -, m1, m2⟩ := b7.1.2.2.2.2.1; exact m1.trans (m2.symm.trans dc7)
        have he := rea_end (P1 := P1) (P2 := P2) (P3 := P3) (P4 := P4) (P5 := P5) (P7 := P7) hlt rfl dc1 g2.2 (by rw [hP2, gNu2_dr]) (by rw [hP3, gNu2_dr]) (by rw [hP4, gNu2_dr]) (by rw [hP5, gNu2_dr]) (fun q => gNu2_e g3.2 (by rw [hP2] at q; exact q)) (fun q => gNu2_e g4.2 (by rw [hP3] at q; exact q)) (fun q => gNu2_e g5.2 (by rw [hP4] at q; exact q)) (fun q => gNu2_e g6.2 (by rw [hP5] at q; exact q)) (fun q => by rw [hP7] at q; have q := gNee_e q; rw [hP6] at q; exact q) (fun i hi => by rw [hP7, gNee_dr hi, hP6]; show upd _ _ _ i = _; rw [upd_ne9 hi]) x7
        refine y_callV0 hC (p_adr X.2.1 D z hT (nr := nr) zn hlt) m_X5_91 rfl hX.2.2.2.2 (by omega) (Nat.le_of_ble_eq_true rfl) (Nat.zero_le _) (Nat.zero_le _) dX5_readReason_107 ?_
        exact y_vret hC hr (Nat.zero_le _) (Nat.zero_le _) dX5_readReason_110 (yZ.mk (by rw [gRea, if_neg (by omega), ← hP1, ← hP2, ← hP3, ← hP4, ← hP5, ← hP6, ← hP7]; exact b7.adr hfr zn hlt he))
  · refine y_aload_n hC dX5_readReason_12 rfl ?_
    refine y_bipush (v := (-4)) hC dX5_readReason_13 (by decide) ?_
    refine y_callZ hC (p_fail X.2.1 D z hX hZ (by omega) (by decide)) m_X5_54 rfl (yP_o hX.1) (by omega) (Nat.le_of_ble_eq_true rfl) (Nat.zero_le _) (Nat.zero_le _) dX5_readReason_15 (fun Z9 g9 => ?_)
    exact y_vret hC hr (Nat.zero_le _) (Nat.zero_le _) dX5_readReason_18 (yZ.mk (by rw [gRea, if_pos (nI_nlt2 c9)]; exact g9))
