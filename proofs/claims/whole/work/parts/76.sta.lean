theorem gNu2_dr {k v s : Nat → Int32} {j : Nat} {lo hi : Int32} {P : yPs} : (gNu2 k v s j lo hi P).2.2.2.1 = upd P.2.2.2.1 j (gNum k v s lo hi P).1 := by
  show upd (gNum k v s lo hi P).2.2.2.2.1 j _ = _
  rw [gNum_d]
theorem gErr_d {s : Nat → Int32} {c : Int32} {P : yPs} : (gErr s c P).2.2.2 = P.2.2.2 := by
  unfold gErr
  split <;> rfl
theorem gCod_dr {k v s : Nat → Int32} {nr j i : Nat} {P : yPs} (h : i ≠ j) : (gCod k v s nr j P).2.2.2.1 i = P.2.2.2.1 i := by
  unfold gCod
  split
  · rw [gErr_d]
  · rw [gNu2_dr, upd_ne9 h]
theorem gTyp_dr {k v s : Nat → Int32} {j i : Nat} (h : i ≠ j) : ∀ (f : Nat) (P : yPs), (gTyp k v s j f P).2.2.2.1 i = P.2.2.2.1 i
  | 0, P => rfl
  | f + 1, P => by
    unfold gTyp
    split
    · rw [gTyp_dr h f]
      split
      · rw [gErr_d]
      · show upd (gNum k v s 0 7 P).2.2.2.2.1 j _ i = _
        rw [upd_ne9 h, gNum_d]
    · rfl
theorem gTyp_e {k v s : Nat → Int32} {j : Nat} : ∀ (f : Nat) (P : yPs), (gTyp k v s j f P).2.1 = 0 → P.2.1 = 0
  | 0, P, h => h
  | f + 1, P, h => by
    unfold gTyp at h
    split at h
    · rename_i hc; exact hc.1
    · exact h
theorem gNee_dr {k v s : Nat → Int32} {j i : Nat} (h : i ≠ j) {P : yPs} : (gNee k v s j P).2.2.2.1 i = P.2.2.2.1 i := by
  unfold gNee
  split
  · rw [gTyp_dr h]
    show upd (gNum k v s 0 7 (gStp P)).2.2.2.2.1 j _ i = _
    rw [upd_ne9 h, gNum_d]
    rfl
  · rfl
theorem gNee_e {k v s : Nat → Int32} {j : Nat} {P : yPs} (h : (gNee k v s j P).2.1 = 0) : P.2.1 = 0 := by
  unfold gNee at h
  split at h
  · rename_i hc; exact hc.1
  · exact h
theorem cod_no {k v s : Nat → Int32} {cnt fr fm : Nat} {Z : yI} {P : yPs} {nr : Nat} {x : Int32} (hc : ¬ (P.2.1 = 0 ∧ k P.1 = 256 ∧ gDup P.2.2.2.1 (v P.1) nr = true)) (g : rcP k v s cnt fr fm Z (gNum k v s 0 99 P).2 ∧ ((gNum k v s 0 99 P).2.2.1 = 0 → x = (gNum k v s 0 99 P).1)) (hn : P.2.1 = 0 → P.2.2.2.1 2 = nI nr) (hr8 : nr ≤ 8) : rcP k v s cnt fr fm Z (gCod k v s nr (20 + 6 * nr) P) ∧ ((gCod k v s nr (20 + 6 * nr) P).2.1 = 0 → x = (gCod k v s nr (20 + 6 * nr) P).2.2.2.1 (20 + 6 * nr)) := by
  unfold gCod
  rw [if_neg hc]
  refine ⟨g.1.far (nr := nr) (fun q => ?_) hr8 (by omega), fun q => ?_⟩
  · rw [gNum_d]; exact hn (gNum_0 q).1
  · rw [gNu2_dr, upd_same]; exact g.2 q
theorem gNum_er {k v s : Nat → Int32} {lo hi c : Int32} {P : yPs} (hc : ¬ c = 0) : gNum k v s lo hi (gErr s c P) = (0, gErr s c P) := by
  unfold gNum
  rw [if_neg (gErr_e hc)]
theorem cod_du {k v s : Nat → Int32} {cnt fr fm : Nat} {Z : yI} {P : yPs} {nr : Nat} {x : Int32} (hc : P.2.1 = 0 ∧ k P.1 = 256 ∧ gDup P.2.2.2.1 (v P.1) nr = true) (g : rcP k v s cnt fr fm Z (gNum k v s 0 99 (gErr s (-3) P)).2 ∧ ((gNum k v s 0 99 (gErr s (-3) P)).2.2.1 = 0 → x = (gNum k v s 0 99 (gErr s (-3) P)).1)) : rcP k v s cnt fr fm Z (gCod k v s nr (20 + 6 * nr) P) ∧ ((gCod k v s nr (20 + 6 * nr) P).2.1 = 0 → x = (gCod k v s nr (20 + 6 * nr) P).2.2.2.1 (20 + 6 * nr)) := by
  unfold gCod
  rw [if_pos hc]
  rw [gNum_er (by decide)] at g
  exact ⟨g.1, fun q => absurd q (gErr_e (by decide))⟩
theorem dup_rwc {k v s : Nat → Int32} {cnt fr fm : Nat} {Z : yI} {P : yPs} (h : rcP k v s cnt fr fm Z P) (h0 : P.2.1 = 0) {nr : Nat} (hn : P.2.2.2.1 2 = nI nr) (hr8 : nr ≤ 8) {x : Int32} : (¬ rwc (Z 9) x 0 nr = -1) ↔ gDup P.2.2.2.1 x nr = true := by
  have hd := (h.2 h0).1.2.2.1
  rw [hn, tn_nI (by omega)] at hd
  rw [rwc_dup nr 0 (by omega) (fun i hi => hd i (by omega) 0 (by decide)), gDup_iff]
  constructor
  · intro q
    exact Classical.byContradiction fun w => q fun i _ h2 e => w ⟨i, by omega, e⟩
  · rintro ⟨i, h1, h2⟩ q
    exact q i (Nat.zero_le _) (by omega) h2
theorem typ_no {k v s : Nat → Int32} {cnt fr fm : Nat} {Z : yI} {P : yPs} {nr j f : Nat} {w x : Int32} {R : yPs} (hw : P.2.1 = 0 → w = P.2.2.2.1 j ∧ P.2.2.2.1 2 = nI nr) (hR : gTyp k v s j (f + 1) P = R) (h0 : P.2.1 = 0) (h1 : k P.1 = 256) (hb : ¬ (v P.1 ≤ 7 ∧ ¬ (w >>> (v P.1 &&& 31)) &&& 1 = 0)) (g : rcP k v s cnt fr fm Z (gNum k v s 0 7 P).2 ∧ ((gNum k v s 0 7 P).2.2.1 = 0 → x = (gNum k v s 0 7 P).1)) (hr8 : nr < 8) (hj : 20 + 6 * nr ≤ j ∧ j < 26 + 6 * nr) : ∃ P2, rcP k v s cnt fr fm Z P2 ∧ (P2.2.1 = 0 → w ||| (1 <<< (x &&& 31)) = P2.2.2.2.1 j ∧ P2.2.2.2.1 2 = nI nr) ∧ gTyp k v s j f P2 = R := by
  obtain ⟨e1, e2⟩ := hw h0
  refine ⟨_, g.1.far (nr := nr) (j := j) (y := P.2.2.2.1 j ||| ((1 : Int32) <<< ((gNum k v s 0 7 P).1 &&& 31))) (fun _ => by rw [gNum_d]; exact e2) (by omega) hj, fun q => ⟨?_, ?_⟩, ?_⟩
  · show _ = upd _ j _ j
    rw [upd_same, e1, g.2 q]
  · show upd _ j _ 2 = _
    rw [upd_ne9 (by omega), gNum_d]; exact e2
  · rw [← hR, gTyp, if_pos ⟨h0, h1⟩, if_neg (by rw [← e1]; exact hb)]
theorem typ_er {k v s : Nat → Int32} {cnt fr fm : Nat} {Z : yI} {P : yPs} {nr j f : Nat} {w x : Int32} {R : yPs} (hw : P.2.1 = 0 → w = P.2.2.2.1 j ∧ P.2.2.2.1 2 = nI nr) (hR : gTyp k v s j (f + 1) P = R) (h0 : P.2.1 = 0) (h1 : k P.1 = 256) (hb : v P.1 ≤ 7 ∧ ¬ (w >>> (v P.1 &&& 31)) &&& 1 = 0) (g : rcP k v s cnt fr fm Z (gNum k v s 0 7 (gErr s (-3) P)).2 ∧ ((gNum k v s 0 7 (gErr s (-3) P)).2.2.1 = 0 → x = (gNum k v s 0 7 (gErr s (-3) P)).1)) : ∃ P2, rcP k v s cnt fr fm Z P2 ∧ (P2.2.1 = 0 → w ||| (1 <<< (x &&& 31)) = P2.2.2.2.1 j ∧ P2.2.2.2.1 2 = nI nr) ∧ gTyp k v s j f P2 = R := by
  obtain ⟨e1, e2⟩ := hw h0
  rw [gNum_er (by decide)] at g
  refine ⟨_, g.1, fun q => absurd q (gErr_e (by decide)), ?_⟩
  rw [← hR, gTyp, if_pos ⟨h0, h1⟩, if_pos (by rw [← e1]; exact hb)]
theorem typ_0 {k v s : Nat → Int32} {cnt fr fm : Nat} {Z : yI} {P : yPs} {nr j : Nat} {x : Int32} (g : rcP k v s cnt fr fm Z (gNum k v s 0 7 P).2 ∧ ((gNum k v s 0 7 P).2.2.1 = 0 → x = (gNum k v s 0 7 P).1)) (hn : P.2.2.2.1 2 = nI nr) (hr8 : nr < 8) (hj : 20 + 6 * nr ≤ j ∧ j < 26 + 6 * nr) : rcP k v s cnt fr fm Z (gPut j ((1 : Int32) <<< ((gNum k v s 0 7 P).1 &&& 31)) (gNum k v s 0 7 P).2) ∧ ((gPut j ((1 : Int32) <<< ((gNum k v s 0 7 P).1 &&& 31)) (gNum k v s 0 7 P).2).2.1 = 0 → (1 : Int32) <<< (x &&& 31) = (gPut j ((1 : Int32) <<< ((gNum k v s 0 7 P).1 &&& 31)) (gNum k v s 0 7 P).2).2.2.2.1 j ∧ (gPut j ((1 : Int32) <<< ((gNum k v s 0 7 P).1 &&& 31)) (gNum k v s 0 7 P).2).2.2.2.1 2 = nI nr) := by
  refine ⟨g.1.far (nr := nr) (fun _ => by rw [gNum_d]; exact hn) (by omega) hj, fun q => ⟨?_, ?_⟩⟩
  · show _ = upd _ j _ j
    rw [upd_same, g.2 q]
  · show upd _ j _ 2 = _
    rw [upd_ne9 (by omega), gNum_d]; exact hn
theorem rea_end {nr j : Nat} {P1 P2 P3 P4 P5 P7 : yPs} {x1 x2 x3 x4 x5 x6 y2 y3 y4 y5 : Int32} (hr8 : nr < 8) (hj : j = 20 + 6 * nr) (h2 : P1.2.2.2.1 2 = nI nr) (h1 : P1.2.1 = 0 → x1 = P1.2.2.2.1 j)
    (d2 : P2.2.2.2.1 = upd P1.2.2.2.1 (j + 1) y2) (d3 : P3.2.2.2.1 = upd P2.2.2.2.1 (j + 2) y3) (d4 : P4.2.2.2.1 = upd P3.2.2.2.1 (j + 3) y4) (d5 : P5.2.2.2.1 = upd P4.2.2.2.1 (j + 4) y5)
    (e2 : P2.2.1 = 0 → P1.2.1 = 0 ∧ x2 = y2) (e3 : P3.2.1 = 0 → P2.2.1 = 0 ∧ x3 = y3) (e4 : P4.2.1 = 0 → P3.2.1 = 0 ∧ x4 = y4) (e5 : P5.2.1 = 0 → P4.2.1 = 0 ∧ x5 = y5)
    (h7 : P7.2.1 = 0 → P5.2.1 = 0) (hd : ∀ i, i ≠ j + 5 → P7.2.2.2.1 i = P5.2.2.2.1 i) (h6 : P7.2.1 = 0 → x6 = P7.2.2.2.1 (j + 5)) :
    P7.2.1 = 0 → P7.2.2.2.1 2 = nI nr ∧ x1 = P7.2.2.2.1 (20 + 6 * nr) ∧ x2 = P7.2.2.2.1 (20 + 6 * nr + 1) ∧ x3 = P7.2.2.2.1 (20 + 6 * nr + 2) ∧ x4 = P7.2.2.2.1 (20 + 6 * nr + 3) ∧ x5 = P7.2.2.2.1 (20 + 6 * nr + 4) ∧ x6 = P7.2.2.2.1 (20 + 6 * nr + 5) := by
  intro q
  obtain ⟨q4, f5⟩ := e5 (h7 q)
  obtain ⟨q3, f4⟩ := e4 q4
  obtain ⟨q2, f3⟩ := e3 q3
  obtain ⟨q1, f2⟩ := e2 q2
  have f1 := h1 q1
  have f6 := h6 q
  rw [hj] at d2 d3 d4 d5 hd f1 f6
  refine ⟨?_, ?_, ?_, ?_, ?_, ?_, f6⟩
  · rw [hd 2 (by omega), d5, upd_ne9 (by omega), d4, upd_ne9 (by omega), d3, upd_ne9 (by omega), d2, upd_ne9 (by omega)]; exact h2
  · rw [hd _ (by omega), d5, upd_ne9 (by omega), d4, upd_ne9 (by omega), d3, upd_ne9 (by omega), d2, upd_ne9 (by omega)]; exact f1
  · rw [hd _ (by omega), d5, upd_ne9 (by omega), d4, upd_ne9 (by omega), d3, upd_ne9 (by omega), d2, upd_same]; exact f2
  · rw [hd _ (by omega), d5, upd_ne9 (by omega), d4, upd_ne9 (by omega), d3, upd_same]; exact f3
  · rw [hd _ (by omega), d5, upd_ne9 (by omega), d4, upd_same]; exact f4
  · rw [hd _ (by omega), d5, upd_same]; exact f5
theorem gNu2_e {k v s : Nat → Int32} {j : Nat} {lo hi x : Int32} {P : yPs} (g : (gNum k v s lo hi P).2.2.1 = 0 → x = (gNum k v s lo hi P).1) (h : (gNu2 k v s j lo hi P).2.1 = 0) : P.2.1 = 0 ∧ x = (gNum k v s lo hi P).1 := ⟨(gNum_0 h).1, g h⟩
set_option maxRecDepth 100000 in
set_option maxHeartbeats 4000000 in
theorem c_X5_takeCode (l : Launch) (D : yD) (z : Nat) {n : Nat} {sh : yS} {I : yI} {L : yL} {r b m cnt fr fm fo : Nat} {k v s : Nat → Int32} (hX : yPx k sh r b m cnt) (hfr : fr = 6 ∨ fr = 15) (hT : ySet sh (r + 5) fo) {Z : yI} {P : yPs} (hZ : rcP k v s cnt fr fm Z P) {nr : Nat} (hn : P.2.1 = 0 → Z 5 6 = nI nr ∧ P.2.2.2.1 2 = nI nr) (hr8 : nr ≤ 8) : yM l D z yX5_takeCode cX5_takeCode 1 (some .int) 2 0 0 [.ref r] n sh (sR 18 I r Z) L (yZn (fun x Z2 => rcP k v s cnt fr fm Z2 (gCod k v s nr (20 + 6 * nr) P) ∧ ((gCod k v s nr (20 + 6 * nr) P).2.1 = 0 → x = (gCod k v s nr (20 + 6 * nr) P).2.2.2.1 (20 + 6 * nr))) n sh I r L) (yno) := by
  refine yM_of (by decide) (Nat.le_of_ble_eq_true rfl) rfl ?_
  intro X hC hr hnm hRc hRs htb
  have hC : yC X D z cX5_takeCode RX5 1 2 := hC
  refine y_aload_n hC dX5_takeCode_0 rfl ?_
  refine y_callV1 hC (p_isFine X.2.1 D z hX hZ) m_X5_31 rfl (yP_o hX.1) (by omega) (Nat.le_of_ble_eq_true rfl) (Nat.zero_le _) (Nat.zero_le _) dX5_takeCode_1 ?_
  refine y_if_eqB (tgt := 38) hC dX5_takeCode_4 (by decide) (fun c4 => ?_) (fun c4 => ?_)
  · refine y_aload_n hC dX5_takeCode_38 rfl ?_
    refine y_iconst (v := 0) hC dX5_takeCode_39 (by decide) ?_
    refine y_bipush (v := 99) hC dX5_takeCode_40 (by decide) ?_
    refine y_callN hC (p_num X.2.1 D z hX hZ (by omega)) m_X5_69 rfl (yP_o hX.1) (by omega) (Nat.le_of_ble_eq_true rfl) (Nat.zero_le _) (Nat.zero_le _) dX5_takeCode_42 (fun x1 Z1 g1 => ?_)
    exact y_iret hC hr rfl (Nat.zero_le _) (Nat.zero_le _) dX5_takeCode_45 (yZn.mk (cod_no (by first | exact (fun q => c4 q.1) | exact (fun q => c14 q.2.1) | exact (fun q => (dup_rwc hZ c4 (hn c4).2 hr8).mpr q.2.2 c29)) g1 (fun q => (hn q).2) hr8))
  · refine y_aload_n hC dX5_takeCode_7 rfl ?_
    refine y_callV1 hC (p_kind X.2.1 D z hX hZ) m_X5_35 rfl (yP_o hX.1) (by omega) (Nat.le_of_ble_eq_true rfl) (Nat.zero_le _) (Nat.zero_le _) dX5_takeCode_8 ?_
    refine y_sipush (v := 256) hC dX5_takeCode_11 (by decide) ?_
    refine y_icmp_ne (tgt := 38) hC dX5_takeCode_14 (by decide) (fun c14 => ?_) (fun c14 => ?_)
    · refine y_aload_n hC dX5_takeCode_38 rfl ?_
      refine y_iconst (v := 0) hC dX5_takeCode_39 (by decide) ?_
      refine y_bipush (v := 99) hC dX5_takeCode_40 (by decide) ?_
      refine y_callN hC (p_num X.2.1 D z hX hZ (by omega)) m_X5_69 rfl (yP_o hX.1) (by omega) (Nat.le_of_ble_eq_true rfl) (Nat.zero_le _) (Nat.zero_le _) dX5_takeCode_42 (fun x2 Z2 g2 => ?_)
      exact y_iret hC hr rfl (Nat.zero_le _) (Nat.zero_le _) dX5_takeCode_45 (yZn.mk (cod_no (by first | exact (fun q => c4 q.1) | exact (fun q => c14 q.2.1) | exact (fun q => (dup_rwc hZ c4 (hn c4).2 hr8).mpr q.2.2 c29)) g2 (fun q => (hn q).2) hr8))
    · refine y_aload_n hC dX5_takeCode_17 rfl ?_
      refine y_getR hC (yP_o hX.1) (yP_r1 hX.1) f_X5_18 rfl dX5_takeCode_18 ?_
      refine y_aload_n hC dX5_takeCode_21 rfl ?_
      refine y_callV1 hC (p_value X.2.1 D z hX hZ) m_X5_136 rfl (yP_o hX.1) (by omega) (Nat.le_of_ble_eq_true rfl) (Nat.zero_le _) (Nat.zero_le _) dX5_takeCode_22 ?_
      refine y_callV1 hC (p_rwc X.2.1 D z hT (hn c4).1 hr8) m_X5_139 rfl hX.2.2.2.2 (by omega) (Nat.le_of_ble_eq_true rfl) (Nat.zero_le _) (Nat.zero_le _) dX5_takeCode_25 ?_
      refine y_iconst (v := (-1)) hC dX5_takeCode_28 (by decide) ?_
      refine y_icmp_eq (tgt := 38) hC dX5_takeCode_29 (by decide) (fun c29 => ?_) (fun c29 => ?_)
      · refine y_aload_n hC dX5_takeCode_38 rfl ?_
        refine y_iconst (v := 0) hC dX5_takeCode_39 (by decide) ?_
        refine y_bipush (v := 99) hC dX5_takeCode_40 (by decide) ?_
        refine y_callN hC (p_num X.2.1 D z hX hZ (by omega)) m_X5_69 rfl (yP_o hX.1) (by omega) (Nat.le_of_ble_eq_true rfl) (Nat.zero_le _) (Nat.zero_le _) dX5_takeCode_42 (fun x3 Z3 g3 => ?_)
        exact y_iret hC hr rfl (Nat.zero_le _) (Nat.zero_le _) dX5_takeCode_45 (yZn.mk (cod_no (by first | exact (fun q => c4 q.1) | exact (fun q => c14 q.2.1) | exact (fun q => (dup_rwc hZ c4 (hn c4).2 hr8).mpr q.2.2 c29)) g3 (fun q => (hn q).2) hr8))
      · skip
        refine y_aload_n hC dX5_takeCode_32 rfl ?_
        refine y_bipush (v := (-3)) hC dX5_takeCode_33 (by decide) ?_
        refine y_callZ hC (p_fail X.2.1 D z hX hZ (by omega) (by decide)) m_X5_54 rfl (yP_o hX.1) (by omega) (Nat.le_of_ble_eq_true rfl) (Nat.zero_le _) (Nat.zero_le _) dX5_takeCode_35 (fun Z4 g4 => ?_)
        refine y_aload_n hC dX5_takeCode_38 rfl ?_
        refine y_iconst (v := 0) hC dX5_takeCode_39 (by decide) ?_
        refine y_bipush (v := 99) hC dX5_takeCode_40 (by decide) ?_
        refine y_callN hC (p_num X.2.1 D z hX g4 (by omega)) m_X5_69 rfl (yP_o hX.1) (by omega) (Nat.le_of_ble_eq_true rfl) (Nat.zero_le _) (Nat.zero_le _) dX5_takeCode_42 (fun x5 Z5 g5 => ?_)
        exact y_iret hC hr rfl (Nat.zero_le _) (Nat.zero_le _) dX5_takeCode_45 (yZn.mk (cod_du ⟨c4, c14, (dup_rwc hZ c4 (hn c4).2 hr8).mp c29⟩ g5))
set_option maxRecDepth 100000 in
set_option maxHeartbeats 4000000 in
theorem c_X5_takeTypes (l : Launch) (D : yD) (z : Nat) {n : Nat} {sh : yS} {I : yI} {L : yL} {r b m cnt fr fm fo : Nat} {k v s : Nat → Int32} (hX : yPx k sh r b m cnt) (hfr : fr = 6 ∨ fr = 15) (hT : ySet sh (r + 5) fo) {Z : yI} {P : yPs} (hZ : rcP k v s cnt fr fm Z P) {nr j : Nat} (hn : P.2.2.2.1 2 = nI nr) (hr8 : nr < 8) (hj : 20 + 6 * nr ≤ j ∧ j < 26 + 6 * nr) : yM l D z yX5_takeTypes cX5_takeTypes 3 (some .int) 2 0 0 [.ref r] n sh (sR 18 I r Z) L (yZn (fun x Z2 => rcP k v s cnt fr fm Z2 (gTyp k v s j 8 (gPut j ((1 : Int32) <<< ((gNum k v s 0 7 P).1 &&& 31)) (gNum k v s 0 7 P).2)) ∧ ((gTyp k v s j 8 (gPut j ((1 : Int32) <<< ((gNum k v s 0 7 P).1 &&& 31)) (gNum k v s 0 7 P).2)).2.1 = 0 → x = (gTyp k v s j 8 (gPut j ((1 : Int32) <<< ((gNum k v s 0 7 P).1 &&& 31)) (gNum k v s 0 7 P).2)).2.2.2.1 j)) n sh I r L) (yno) := by
  refine yM_of (by decide) (Nat.le_of_ble_eq_true rfl) rfl ?_
  intro X hC hr hnm hRc hRs htb
  have hC : yC X D z cX5_takeTypes RX5 3 2 := hC
  refine y_iconst (v := 1) hC dX5_takeTypes_0 (by decide) ?_
  refine y_aload_n hC dX5_takeTypes_1 rfl ?_
  refine y_iconst (v := 0) hC dX5_takeTypes_2 (by decide) ?_
  refine y_bipush (v := 7) hC dX5_takeTypes_3 (by decide) ?_
  refine y_callN hC (p_num X.2.1 D z hX hZ (by omega)) m_X5_69 rfl (yP_o hX.1) (by omega) (Nat.le_of_ble_eq_true rfl) (Nat.zero_le _) (Nat.zero_le _) dX5_takeTypes_5 (fun x1 Z1 g1 => ?_)
  refine y_ishl hC dX5_takeTypes_8 ?_
  refine y_istore_n hC dX5_takeTypes_9 (by decide) rfl ?_
  refine y_iconst (v := nI 0) hC dX5_takeTypes_10 (by decide) ?_
  refine y_istore_n hC dX5_takeTypes_11 (by decide) rfl ?_
  have lp12 : ∀ (f9 i : Nat) (Z : yI) (P2 : yPs) (w : Int32), i + f9 = 8 → (rcP k v s cnt fr fm Z P2 ∧ (P2.2.1 = 0 → w = P2.2.2.2.1 j ∧ P2.2.2.2.1 2 = nI nr) ∧ gTyp k v s j f9 P2 = gTyp k v s j 8 (gPut j ((1 : Int32) <<< ((gNum k v s 0 7 P).1 &&& 31)) (gNum k v s 0 7 P).2)) → Y X D z 3 n sh (sR 18 I r Z) L 0 0 (yEnd X D z (yZn (fun x Z2 => rcP k v s cnt fr fm Z2 (gTyp k v s j 8 (gPut j ((1 : Int32) <<< ((gNum k v s 0 7 P).1 &&& 31)) (gNum k v s 0 7 P).2)) ∧ ((gTyp k v s j 8 (gPut j ((1 : Int32) <<< ((gNum k v s 0 7 P).1 &&& 31)) (gNum k v s 0 7 P).2)).2.1 = 0 → x = (gTyp k v s j 8 (gPut j ((1 : Int32) <<< ((gNum k v s 0 7 P).1 &&& 31)) (gNum k v s 0 7 P).2)).2.2.2.1 j)) n sh I r L) (yno) 0 0) 12 [some (.ref r), some (.int w), some (.int (nI i))] [] := by
    intro f9
    induction f9 with
    | zero =>
      intro i Z P2 w hm hi
      refine y_iload_n hC dX5_takeTypes_12 rfl ?_
      refine y_bipush (v := nI 7) hC dX5_takeTypes_13 (by decide) ?_
      refine y_icmp_gt (tgt := 79) hC dX5_takeTypes_15 (by decide) (fun c15 => ?_) (fun c15 => absurd ((nI_ltI (a := 7) (b := i) (by decide) (by omega)).mpr (by omega)) c15)
      refine y_iload_n hC dX5_takeTypes_79 rfl ?_
      exact y_iret hC hr rfl (Nat.zero_le _) (Nat.zero_le _) dX5_takeTypes_80 (yZn.mk (by first | (rw [← hi.2.2, gTyp, if_neg (fun q => c22 q.1)]; exact ⟨hi.1, fun q => (hi.2.1 q).1⟩) | (rw [← hi.2.2, gTyp, if_neg (fun q => c32 q.2)]; exact ⟨hi.1, fun q => (hi.2.1 q).1⟩) | (rw [← hi.2.2]; exact ⟨hi.1, fun q => (hi.2.1 q).1⟩)))
    | succ f9 ih =>
      intro i Z P2 w hm hi
      refine y_iload_n hC dX5_takeTypes_12 rfl ?_
      refine y_bipush (v := nI 7) hC dX5_takeTypes_13 (by decide) ?_
      refine y_icmp_gt (tgt := 79) hC dX5_takeTypes_15 (by decide) (fun c15 => absurd ((nI_ltI (a := 7) (b := i) (by decide) (by omega)).mp c15) (by omega)) (fun c15 => ?_)
      refine y_aload_n hC dX5_takeTypes_18 rfl ?_
      refine y_callV1 hC (p_isFine X.2.1 D z hX hi.1) m_X5_31 rfl (yP_o hX.1) (by omega) (Nat.le_of_ble_eq_true rfl) (Nat.zero_le _) (Nat.zero_le _) dX5_takeTypes_19 ?_
      refine y_if_eqB (tgt := 79) hC dX5_takeTypes_22 (by decide) (fun c22 => ?_) (fun c22 => ?_)
      · refine y_iload_n hC dX5_takeTypes_79 rfl ?_
        exact y_iret hC hr rfl (Nat.zero_le _) (Nat.zero_le _) dX5_takeTypes_80 (yZn.mk (by first | (rw [← hi.2.2, gTyp, if_neg (fun q => c22 q.1)]; exact ⟨hi.1, fun q => (hi.2.1 q).1⟩) | (rw [← hi.2.2, gTyp, if_neg (fun q => c32 q.2)]; exact ⟨hi.1, fun q => (hi.2.1 q).1⟩) | (rw [← hi.2.2]; exact ⟨hi.1, fun q => (hi.2.1 q).1⟩)))
      · refine y_aload_n hC dX5_takeTypes_25 rfl ?_
        refine y_callV1 hC (p_kind X.2.1 D z hX hi.1) m_X5_35 rfl (yP_o hX.1) (by omega) (Nat.le_of_ble_eq_true rfl) (Nat.zero_le _) (Nat.zero_le _) dX5_takeTypes_26 ?_
        refine y_sipush (v := 256) hC dX5_takeTypes_29 (by decide) ?_
        refine y_icmp_ne (tgt := 79) hC dX5_takeTypes_32 (by decide) (fun c32 => ?_) (fun c32 => ?_)
        · refine y_iload_n hC dX5_takeTypes_79 rfl ?_
          exact y_iret hC hr rfl (Nat.zero_le _) (Nat.zero_le _) dX5_takeTypes_80 (yZn.mk (by first | (rw [← hi.2.2, gTyp, if_neg (fun q => c22 q.1)]; exact ⟨hi.1, fun q => (hi.2.1 q).1⟩) | (rw [← hi.2.2, gTyp, if_neg (fun q => c32 q.2)]; exact ⟨hi.1, fun q => (hi.2.1 q).1⟩) | (rw [← hi.2.2]; exact ⟨hi.1, fun q => (hi.2.1 q).1⟩)))
        · refine y_aload_n hC dX5_takeTypes_35 rfl ?_
          refine y_callV1 hC (p_value X.2.1 D z hX hi.1) m_X5_136 rfl (yP_o hX.1) (by omega) (Nat.le_of_ble_eq_true rfl) (Nat.zero_le _) (Nat.zero_le _) dX5_takeTypes_36 ?_
          refine y_bipush (v := 7) hC dX5_takeTypes_39 (by decide) ?_
          refine y_icmp_gt (tgt := 61) hC dX5_takeTypes_41 (by decide) (fun c41 => ?_) (fun c41 => ?_)
          · refine y_iload_n hC dX5_takeTypes_61 rfl ?_
            refine y_iconst (v := 1) hC dX5_takeTypes_62 (by decide) ?_
            refine y_aload_n hC dX5_takeTypes_63 rfl ?_
            refine y_iconst (v := 0) hC dX5_takeTypes_64 (by decide) ?_
            refine y_bipush (v := 7) hC dX5_takeTypes_65 (by decide) ?_
            refine y_callN hC (p_num X.2.1 D z hX hi.1 (by omega)) m_X5_69 rfl (yP_o hX.1) (by omega) (Nat.le_of_ble_eq_true rfl) (Nat.zero_le _) (Nat.zero_le _) dX5_takeTypes_67 (fun x2 Z2 g2 => ?_)
            refine y_ishl hC dX5_takeTypes_70 ?_
            refine y_ior hC dX5_takeTypes_71 ?_
            refine y_istore_n hC dX5_takeTypes_72 (by decide) rfl ?_
            refine y_iincN hC dX5_takeTypes_73 rfl rfl (by decide) rfl ?_
            refine y_goto (tgt := 12) hC dX5_takeTypes_76 (by decide) ?_
            obtain ⟨P9, a1, a2, a3⟩ := typ_no hi.2.1 hi.2.2 c22 c32 (by first | exact (fun q => Int32.not_lt.mpr q.1 c41) | exact (fun q => q.2 c52)) g2 hr8 hj
            exact ih (i + 1) _ P9 _ (by omega) ⟨a1, a2, a3⟩
          · refine y_iload_n hC dX5_takeTypes_44 rfl ?_
            refine y_aload_n hC dX5_takeTypes_45 rfl ?_
            refine y_callV1 hC (p_value X.2.1 D z hX hi.1) m_X5_136 rfl (yP_o hX.1) (by omega) (Nat.le_of_ble_eq_true rfl) (Nat.zero_le _) (Nat.zero_le _) dX5_takeTypes_46 ?_
            refine y_ishr hC dX5_takeTypes_49 ?_
            refine y_iconst (v := 1) hC dX5_takeTypes_50 (by decide) ?_
            refine y_iand hC dX5_takeTypes_51 ?_
            refine y_if_eq (tgt := 61) hC dX5_takeTypes_52 (by decide) (fun c52 => ?_) (fun c52 => ?_)
            · refine y_iload_n hC dX5_takeTypes_61 rfl ?_
              refine y_iconst (v := 1) hC dX5_takeTypes_62 (by decide) ?_
              refine y_aload_n hC dX5_takeTypes_63 rfl ?_
              refine y_iconst (v := 0) hC dX5_takeTypes_64 (by decide) ?_
              refine y_bipush (v := 7) hC dX5_takeTypes_65 (by decide) ?_
              refine y_callN hC (p_num X.2.1 D z hX hi.1 (by omega)) m_X5_69 rfl (yP_o hX.1) (by omega) (Nat.le_of_ble_eq_true rfl) (Nat.zero_le _) (Nat.zero_le _) dX5_takeTypes_67 (fun x3 Z3 g3 => ?_)
              refine y_ishl hC dX5_takeTypes_70 ?_
              refine y_ior hC dX5_takeTypes_71 ?_
              refine y_istore_n hC dX5_takeTypes_72 (by decide) rfl ?_
              refine y_iincN hC dX5_takeTypes_73 rfl rfl (by decide) rfl ?_
              refine y_goto (tgt := 12) hC dX5_takeTypes_76 (by decide) ?_
              obtain ⟨P9, a1, a2, a3⟩ := typ_no hi.2.1 hi.2.2 c22 c32 (by first | exact (fun q => Int32.not_lt.mpr q.1 c41) | exact (fun q => q.2 c52)) g3 hr8 hj
              exact ih (i + 1) _ P9 _ (by omega) ⟨a1, a2, a3⟩
            · skip
              refine y_aload_n hC dX5_takeTypes_55 rfl ?_
              refine y_bipush (v := (-3)) hC dX5_takeTypes_56 (by decide) ?_
              refine y_callZ hC (p_fail X.2.1 D z hX hi.1 (by omega) (by decide)) m_X5_54 rfl (yP_o hX.1) (by omega) (Nat.le_of_ble_eq_true rfl) (Nat.zero_le _) (Nat.zero_le _) dX5_takeTypes_58 (fun Z4 g4 => ?_)
              refine y_iload_n hC dX5_takeTypes_61 rfl ?_
              refine y_iconst (v := 1) hC dX5_takeTypes_62 (by decide) ?_
              refine y_aload_n hC dX5_takeTypes_63 rfl ?_
              refine y_iconst (v := 0) hC dX5_takeTypes_64 (by decide) ?_
              refine y_bipush (v := 7) hC dX5_takeTypes_65 (by decide) ?_
              refine y_callN hC (p_num X.2.1 D z hX g4 (by omega)) m_X5_69 rfl (yP_o hX.1) (by omega) (Nat.le_of_ble_eq_true rfl) (Nat.zero_le _) (Nat.zero_le _) dX5_takeTypes_67 (fun x5 Z5 g5 => ?_)
              refine y_ishl hC dX5_takeTypes_70 ?_
              refine y_ior hC dX5_takeTypes_71 ?_
              refine y_istore_n hC dX5_takeTypes_72 (by decide) rfl ?_
              refine y_iincN hC dX5_takeTypes_73 rfl rfl (by decide) rfl ?_
              refine y_goto (tgt := 12) hC dX5_takeTypes_76 (by decide) ?_
              obtain ⟨P9, a1, a2, a3⟩ := typ_er hi.2.1 hi.2.2 c22 c32 ⟨Int32.not_lt.mp c41, c52⟩ g5
              exact ih (i + 1) _ P9 _ (by omega) ⟨a1, a2, a3⟩
  exact lp12 8 0 _ _ _ (by omega) ⟨(typ_0 g1 hn hr8 hj).1, (typ_0 g1 hn hr8 hj).2, rfl⟩
