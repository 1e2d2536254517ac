theorem gNu2_cd {k v s : Nat → Int32} {j : Nat} {lo hi : Int32} {P : yPs} : (gNu2 k v s j lo hi P).2.2.2.2 = P.2.2.2.2 := by
  show (gNum k v s lo hi P).2.2.2.2.2 = _
  rw [gNum_d]
theorem gOnc_cd {s : Nat → Int32} {j : Nat} {P : yPs} : (gOnc s j P).2.2.2.2 = P.2.2.2.2 := by
  show (if P.2.2.2.1 j = 0 then gStp P else gErr s (-2) P).2.2.2.2 = _
  split
  · rfl
  · rw [gErr_d]
theorem gCod_cd {k v s : Nat → Int32} {nr j : Nat} {P : yPs} : (gCod k v s nr j P).2.2.2.2 = P.2.2.2.2 := by
  unfold gCod
  split
  · rw [gErr_d]
  · exact gNu2_cd
theorem gTyp_cd {k v s : Nat → Int32} {j : Nat} : ∀ (f : Nat) (P : yPs), (gTyp k v s j f P).2.2.2.2 = P.2.2.2.2
  | 0, P => rfl
  | f + 1, P => by
    unfold gTyp
    split
    · rw [gTyp_cd f]
      split
      · rw [gErr_d]
      · show (gNum k v s 0 7 P).2.2.2.2.2 = _; rw [gNum_d]
    · rfl
theorem gNee_cd {k v s : Nat → Int32} {j : Nat} {P : yPs} : (gNee k v s j P).2.2.2.2 = P.2.2.2.2 := by
  unfold gNee
  split
  · rw [gTyp_cd]
    show (gNum k v s 0 7 (gStp P)).2.2.2.2.2 = _; rw [gNum_d]; rfl
  · rfl
theorem gPut_cd {j : Nat} {x : Int32} {P : yPs} : (gPut j x P).2.2.2.2 = P.2.2.2.2 := rfl
theorem gRea_cd {k v s : Nat → Int32} {nr : Nat} {P : yPs} : (gRea k v s nr P).2.2.2.2 = P.2.2.2.2 := by
  unfold gRea
  split
  · rw [gErr_d]
  · rw [gPut_cd, gNee_cd, gPut_cd, gNu2_cd, gNu2_cd, gNu2_cd, gNu2_cd, gCod_cd]
    rfl
theorem gPrt_cd {k v s : Nat → Int32} {P : yPs} : (gPrt k v s P).2.2.2.2 = P.2.2.2.2 := by rw [gPrt, gNu2_cd, gNu2_cd, gOnc_cd]
theorem gFee_cd {k v s : Nat → Int32} {P : yPs} : (gFee k v s P).2.2.2.2 = P.2.2.2.2 := by rw [gFee, gNu2_cd, gNu2_cd, gOnc_cd]
theorem gLim_cd {k v s : Nat → Int32} {P : yPs} : (gLim k v s P).2.2.2.2 = P.2.2.2.2 := by rw [gLim, gNu2_cd, gOnc_cd]
theorem gTak_cd {k s : Nat → Int32} {c : Int32} {P : yPs} : (gTak k s c P).2.2.2.2 = P.2.2.2.2 := by rw [gTak_d]
set_option maxRecDepth 100000 in
set_option maxHeartbeats 4000000 in
theorem c_X8_statement (l : Launch) (D : yD) (z : Nat) {n : Nat} {sh : yS} {I : yI} {L : yL} {q : Nat} {b : Nat → Int32} {len : Nat} {S : List (Int32 × Nat × Int32)} {M0 : yI} (hQ : yMod sh q) (hx : mX b len M0) (hSl : S.length ≤ 901) {M : yI} {P : yPs} (hZ : rmK b len S M0 0 (cC P.2.2.2.2) M P) (h0 : P.2.1 = 0) (hcd : P.2.2.2.1 2002 = 0 → P.2.2.2.2 = []) : yM l D z yX8_statement cX8_statement 2 none 21 0 0 [.ref q] n sh (sR 15 I q M) L (yV (fun M2 => rmK b len S M0 0 (cC (gSta (tkK S) (tkV S) (tkS S) S.length P).2.2.2.2) M2 (gSta (tkK S) (tkV S) (tkS S) S.length P)) n sh I q L) (yno) := by
  refine yM_of (by decide) (Nat.le_of_ble_eq_true rfl) rfl ?_
  intro X hC hr hnm hRc hRs htb
  have hC : yC X D z cX8_statement RX8 2 21 := hC
  refine y_aload_n hC dX8_statement_0 rfl ?_
  refine y_callYn hC (w_next X.2.1 D z hQ hx hZ h0) m_X8_69 rfl (yM_o hQ) (by decide) (Nat.le_of_ble_eq_true rfl) (Nat.zero_le _) (Nat.zero_le _) dX8_statement_1 (fun x1 M1 g1 => ?_)
  obtain ⟨a1, rfl, hA1⟩ := g1
  refine y_pop hC dX8_statement_4 rfl ?_
  refine y_aload_n hC dX8_statement_5 rfl ?_
  refine y_getIR (w9 := 15) hC (by decide) (yM_o hQ) f_X8_48 rfl dX8_statement_6 ?_
  refine y_eqI (y := nI a1) hA1.2.1 ?_
  refine y_istore_n hC dX8_statement_9 (by decide) rfl ?_
  refine y_aload_n hC dX8_statement_10 rfl ?_
  refine y_ldcS (tx := "parties") (j := 0) hC (by decide +kernel) dX8_statement_11 ?_
  refine y_callYn hC (w_takeWord X.2.1 D z hQ hx hA1.1 (w := 0) (by decide)) m_X8_110 rfl (yM_o hQ) (by decide) (Nat.le_of_ble_eq_true rfl) (Nat.zero_le _) (Nat.zero_le _) dX8_statement_13 (fun x2 M2 g2 => ?_)
  refine y_if_eq (tgt := 52) hC dX8_statement_16 (by decide) (fun c16 => ?_) (fun c16 => ?_)
  · have n0 := g2.resolve_left (fun w => absurd (w.1.symm.trans c16) (by decide))
    refine y_aload_n hC dX8_statement_52 rfl ?_
    refine y_ldcS (tx := "reason") (j := 1) hC (by decide +kernel) dX8_statement_53 ?_
    refine y_callYn hC (w_takeWord X.2.1 D z hQ hx n0.2.2 (w := 1) (by decide)) m_X8_110 rfl (yM_o hQ) (by decide) (Nat.le_of_ble_eq_true rfl) (Nat.zero_le _) (Nat.zero_le _) dX8_statement_55 (fun x3 M3 g3 => ?_)
    refine y_if_eq (tgt := 69) hC dX8_statement_58 (by decide) (fun c58 => ?_) (fun c58 => ?_)
    · have n1 := g3.resolve_left (fun w => absurd (w.1.symm.trans c58) (by decide))
      refine y_aload_n hC dX8_statement_69 rfl ?_
      refine y_ldcS (tx := "fees") (j := 3) hC (by decide +kernel) dX8_statement_70 ?_
      refine y_callYn hC (w_takeWord X.2.1 D z hQ hx n1.2.2 (w := 3) (by decide)) m_X8_110 rfl (yM_o hQ) (by decide) (Nat.le_of_ble_eq_true rfl) (Nat.zero_le _) (Nat.zero_le _) dX8_statement_72 (fun x4 M4 g4 => ?_)
      refine y_if_eq (tgt := 117) hC dX8_statement_75 (by decide) (fun c75 => ?_) (fun c75 => ?_)
      · have n3 := g4.resolve_left (fun w => absurd (w.1.symm.trans c75) (by decide))
        refine y_aload_n hC dX8_statement_117 rfl ?_
        refine y_ldcS (tx := "score") (j := 4) hC (by decide +kernel) dX8_statement_118 ?_
        refine y_callYn hC (w_takeWord X.2.1 D z hQ hx n3.2.2 (w := 4) (by decide)) m_X8_110 rfl (yM_o hQ) (by decide) (Nat.le_of_ble_eq_true rfl) (Nat.zero_le _) (Nat.zero_le _) dX8_statement_120 (fun x5 M5 g5 => ?_)
        refine y_if_eq (tgt := 147) hC dX8_statement_123 (by decide) (fun c123 => ?_) (fun c123 => ?_)
        · have n4 := g5.resolve_left (fun w => absurd (w.1.symm.trans c123) (by decide))
          refine y_aload_n hC dX8_statement_147 rfl ?_
          refine y_ldcS (tx := "limit") (j := 5) hC (by decide +kernel) dX8_statement_148 ?_
          refine y_callYn hC (w_takeWord X.2.1 D z hQ hx n4.2.2 (w := 5) (by decide)) m_X8_110 rfl (yM_o hQ) (by decide) (Nat.le_of_ble_eq_true rfl) (Nat.zero_le _) (Nat.zero_le _) dX8_statement_150 (fun x6 M6 g6 => ?_)
          refine y_if_eq (tgt := 180) hC dX8_statement_153 (by decide) (fun c153 => ?_) (fun c153 => ?_)
          · have n5 := g6.resolve_left (fun w => absurd (w.1.symm.trans c153) (by decide))
            refine y_aload_n hC dX8_statement_180 rfl ?_
            refine y_bipush (v := (-2)) hC dX8_statement_181 (by decide) ?_
            refine y_iload_n hC dX8_statement_183 rfl ?_
            refine y_callY hC (w_report X.2.1 D z hQ n5.2.2 (c := -2) (by decide) (fun _ => hA1.2.2.1.symm)) m_X8_82 rfl (yM_o hQ) (by decide) (Nat.le_of_ble_eq_true rfl) (Nat.zero_le _) (Nat.zero_le _) dX8_statement_184 (fun M7 g7 => ?_)
            refine y_aload_n hC dX8_statement_187 rfl ?_
            refine y_bipush (v := 59) hC dX8_statement_188 (by decide) ?_
            refine y_callY hC (w_exp X.2.1 D z hQ hx g7 (c := 59) (g := 59) (by decide) (by decide) (by decide)) m_X8_104 rfl (yM_o hQ) (by decide) (Nat.le_of_ble_eq_true rfl) (Nat.zero_le _) (Nat.zero_le _) dX8_statement_190 (fun M8 g8 => ?_)
            exact y_vret hC hr (Nat.zero_le _) (Nat.zero_le _) dX8_statement_193 (yV.mk (by rw [gSta, if_neg (show ¬ tkK S P.1 = 257 from fun w => n0.2.1 ⟨h0, w.trans (by decide)⟩), if_neg (show ¬ tkK S P.1 = 258 from fun w => n1.2.1 ⟨h0, w.trans (by decide)⟩), if_neg (show ¬ tkK S P.1 = 260 from fun w => n3.2.1 ⟨h0, w.trans (by decide)⟩), if_neg (show ¬ tkK S P.1 = 261 from fun w => n4.2.1 ⟨h0, w.trans (by decide)⟩), if_neg (show ¬ tkK S P.1 = 262 from fun w => n5.2.1 ⟨h0, w.trans (by decide)⟩)]; exact g8.k (fun _ => by rw [gTak_cd, gErr_d])))
          · have y5 := g6.resolve_right (fun w => c153 w.1)
            refine y_aload_n hC dX8_statement_156 rfl ?_
            refine y_iconst (v := 3) hC dX8_statement_157 (by decide) ?_
            refine y_iload_n hC dX8_statement_158 rfl ?_
            refine y_callY hC (w_once3 X.2.1 D z hQ y5.2.2 h0 hA1.2.2.1.symm) m_X8_145 rfl (yM_o hQ) (by decide) (Nat.le_of_ble_eq_true rfl) (Nat.zero_le _) (Nat.zero_le _) dX8_statement_159 (fun M9 g9 => ?_)
            refine y_aload_n hC dX8_statement_162 rfl ?_
            refine y_getR hC (yM_o hQ) (yM_r9 hQ) f_X8_20 rfl dX8_statement_163 ?_
            refine y_bipush (v := nI 8) hC dX8_statement_166 (by decide) ?_
            refine y_aload_n hC dX8_statement_168 rfl ?_
            refine y_iconst (v := 0) hC dX8_statement_169 (by decide) ?_
            refine y_sipush (v := 9999) hC dX8_statement_170 (by decide) ?_
            refine y_callYn hC (w_num X.2.1 D z hQ hx g9 (a := 0) (c := 9999) (lo := 0) (hi := 9999) (by decide) (by decide) (by decide) (by decide)) m_X8_120 rfl (yM_o hQ) (by decide) (Nat.le_of_ble_eq_true rfl) (Nat.zero_le _) (Nat.zero_le _) dX8_statement_173 (fun x10 M10 g10 => ?_)
            refine y_iastRN (w9 := 15) hC (by decide) (yM_a9 hQ) (by decide) dX8_statement_176 ?_
            have b11 := g10.1.put (j := 8) (by decide) (fun w => (g10.2 w).1)
            refine y_goto (tgt := 187) hC dX8_statement_177 (by decide) ?_
            refine y_aload_n hC dX8_statement_187 rfl ?_
            refine y_bipush (v := 59) hC dX8_statement_188 (by decide) ?_
            refine y_callY hC (w_exp X.2.1 D z hQ hx b11 (c := 59) (g := 59) (by decide) (by decide) (by decide)) m_X8_104 rfl (yM_o hQ) (by decide) (Nat.le_of_ble_eq_true rfl) (Nat.zero_le _) (Nat.zero_le _) dX8_statement_190 (fun M12 g12 => ?_)
            exact y_vret hC hr (Nat.zero_le _) (Nat.zero_le _) dX8_statement_193 (yV.mk (by rw [gSta, if_neg (by rw [(show tkK S P.1 = 262 from y5.2.1.2.trans (by decide))]; decide), if_neg (by rw [(show tkK S P.1 = 262 from y5.2.1.2.trans (by decide))]; decide), if_neg (by rw [(show tkK S P.1 = 262 from y5.2.1.2.trans (by decide))]; decide), if_neg (by rw [(show tkK S P.1 = 262 from y5.2.1.2.trans (by decide))]; decide), if_pos (show tkK S P.1 = 262 from y5.2.1.2.trans (by decide))]; exact g12.k (fun _ => by rw [gTak_cd, gLim_cd])))
        · have y4 := g5.resolve_right (fun w => c123 w.1)
          have sc0 : (gPut 9 1 (gOnc (tkS S) 2002 P)).2.1 = 0 → P.2.2.2.2 = [] := fun w => by
            have w2 : (if P.2.2.2.1 2002 = 0 then gStp P else gErr (tkS S) (-2) P).2.1 = 0 := w
            split at w2
            · rename_i hd; exact hcd hd
            · exact absurd w2 (gErr_e (by decide))
          refine y_aload_n hC dX8_statement_126 rfl ?_
          refine y_iconst (v := 2) hC dX8_statement_127 (by decide) ?_
          refine y_iload_n hC dX8_statement_128 rfl ?_
          refine y_callY hC (w_once2 X.2.1 D z hQ y4.2.2 h0 hA1.2.2.1.symm) m_X8_145 rfl (yM_o hQ) (by decide) (Nat.le_of_ble_eq_true rfl) (Nat.zero_le _) (Nat.zero_le _) dX8_statement_129 (fun M13 g13 => ?_)
          refine y_aload_n hC dX8_statement_132 rfl ?_
          refine y_getR hC (yM_o hQ) (yM_r9 hQ) f_X8_20 rfl dX8_statement_133 ?_
          refine y_bipush (v := nI 9) hC dX8_statement_136 (by decide) ?_
          refine y_iconst (v := 1) hC dX8_statement_138 (by decide) ?_
          refine y_iastRN (w9 := 15) hC (by decide) (yM_a9 hQ) (by decide) dX8_statement_139 ?_
          have b9 := g13.put (j := 9) (x := 1) (y := 1) (by decide) (fun _ => rfl)
          refine y_aload_n hC dX8_statement_140 rfl ?_
          refine y_callY hC (m_sum_all D z hQ hx hSl 4 0 rfl X.2.1 _ _ (b9.k (K2 := cC (gPut 9 1 (gOnc (tkS S) 2002 P)).2.2.2.2) (fun _ => by show _ = cC (gOnc (tkS S) 2002 P).2.2.2.2; rw [gOnc_cd])) (fun w => by show 2 * (cC (gOnc (tkS S) 2002 P).2.2.2.2).length ≤ _; rw [gOnc_cd, sc0 w]; exact Nat.zero_le _)) m_X8_101 rfl (yM_o hQ) (by decide) (Nat.le_of_ble_eq_true rfl) (Nat.zero_le _) (Nat.zero_le _) dX8_statement_141 (fun M14 g14 => ?_)
          refine y_goto (tgt := 187) hC dX8_statement_144 (by decide) ?_
          refine y_aload_n hC dX8_statement_187 rfl ?_
          refine y_bipush (v := 59) hC dX8_statement_188 (by decide) ?_
          refine y_callY hC (w_exp X.2.1 D z hQ hx g14 (c := 59) (g := 59) (by decide) (by decide) (by decide)) m_X8_104 rfl (yM_o hQ) (by decide) (Nat.le_of_ble_eq_true rfl) (Nat.zero_le _) (Nat.zero_le _) dX8_statement_190 (fun M15 g15 => ?_)
          exact y_vret hC hr (Nat.zero_le _) (Nat.zero_le _) dX8_statement_193 (yV.mk (by rw [gSta, if_neg (by rw [(show tkK S P.1 = 261 from y4.2.1.2.trans (by decide))]; decide), if_neg (by rw [(show tkK S P.1 = 261 from y4.2.1.2.trans (by decide))]; decide), if_neg (by rw [(show tkK S P.1 = 261 from y4.2.1.2.trans (by decide))]; decide), if_pos (show tkK S P.1 = 261 from y4.2.1.2.trans (by decide))]; exact g15.k (fun _ => by rw [gTak_cd]; rfl)))
      · have y3 := g4.resolve_right (fun w => c75 w.1)
        refine y_aload_n hC dX8_statement_78 rfl ?_
        refine y_iconst (v := 1) hC dX8_statement_79 (by decide) ?_
        refine y_iload_n hC dX8_statement_80 rfl ?_
        refine y_callY hC (w_once1 X.2.1 D z hQ y3.2.2 h0 hA1.2.2.1.symm) m_X8_145 rfl (yM_o hQ) (by decide) (Nat.le_of_ble_eq_true rfl) (Nat.zero_le _) (Nat.zero_le _) dX8_statement_81 (fun M16 g16 => ?_)
        refine y_aload_n hC dX8_statement_84 rfl ?_
        refine y_getR hC (yM_o hQ) (yM_r9 hQ) f_X8_20 rfl dX8_statement_85 ?_
        refine y_bipush (v := nI 6) hC dX8_statement_88 (by decide) ?_
        refine y_aload_n hC dX8_statement_90 rfl ?_
        refine y_iconst (v := 0) hC dX8_statement_91 (by decide) ?_
        refine y_sipush (v := 999) hC dX8_statement_92 (by decide) ?_
        refine y_callYn hC (w_num X.2.1 D z hQ hx g16 (a := 0) (c := 999) (lo := 0) (hi := 999) (by decide) (by decide) (by decide) (by decide)) m_X8_120 rfl (yM_o hQ) (by decide) (Nat.le_of_ble_eq_true rfl) (Nat.zero_le _) (Nat.zero_le _) dX8_statement_95 (fun x17 M17 g17 => ?_)
        refine y_iastRN (w9 := 15) hC (by decide) (yM_a9 hQ) (by decide) dX8_statement_98 ?_
        have b18 := g17.1.put (j := 6) (by decide) (fun w => (g17.2 w).1)
        refine y_aload_n hC dX8_statement_99 rfl ?_
        refine y_getR hC (yM_o hQ) (yM_r9 hQ) f_X8_20 rfl dX8_statement_100 ?_
        refine y_bipush (v := nI 7) hC dX8_statement_103 (by decide) ?_
        refine y_aload_n hC dX8_statement_105 rfl ?_
        refine y_iconst (v := 0) hC dX8_statement_106 (by decide) ?_
        refine y_sipush (v := 999) hC dX8_statement_107 (by decide) ?_
        refine y_callYn hC (w_num X.2.1 D z hQ hx b18 (a := 0) (c := 999) (lo := 0) (hi := 999) (by decide) (by decide) (by decide) (by decide)) m_X8_120 rfl (yM_o hQ) (by decide) (Nat.le_of_ble_eq_true rfl) (Nat.zero_le _) (Nat.zero_le _) dX8_statement_110 (fun x19 M19 g19 => ?_)
        refine y_iastRN (w9 := 15) hC (by decide) (yM_a9 hQ) (by decide) dX8_statement_113 ?_
        have b20 := g19.1.put (j := 7) (by decide) (fun w => (g19.2 w).1)
        refine y_goto (tgt := 187) hC dX8_statement_114 (by decide) ?_
        refine y_aload_n hC dX8_statement_187 rfl ?_
        refine y_bipush (v := 59) hC dX8_statement_188 (by decide) ?_
        refine y_callY hC (w_exp X.2.1 D z hQ hx b20 (c := 59) (g := 59) (by decide) (by decide) (by decide)) m_X8_104 rfl (yM_o hQ) (by decide) (Nat.le_of_ble_eq_true rfl) (Nat.zero_le _) (Nat.zero_le _) dX8_statement_190 (fun M21 g21 => ?_)
        exact y_vret hC hr (Nat.zero_le _) (Nat.zero_le _) dX8_statement_193 (yV.mk (by rw [gSta, if_neg (by rw [(show tkK S P.1 = 260 from y3.2.1.2.trans (by decide))]; decide), if_neg (by rw [(show tkK S P.1 = 260 from y3.2.1.2.trans (by decide))]; decide), if_pos (show tkK S P.1 = 260 from y3.2.1.2.trans (by decide))]; exact g21.k (fun _ => by rw [gTak_cd, gFee_cd])))
    · have y1 := g3.resolve_right (fun w => c58 w.1)
      refine y_aload_n hC dX8_statement_61 rfl ?_
      refine y_iload_n hC dX8_statement_62 rfl ?_
      obtain ⟨nr, hr8, -, hd2⟩ := hZ.2.2.2.2.2.1
      refine y_callY hC (c_X8_readReason X.2.1 D z hQ hx hSl y1.2.2 h0 hr8 hd2 hA1.2.2.1.symm) m_X8_149 rfl (yM_o hQ) (by decide) (Nat.le_of_ble_eq_true rfl) (Nat.zero_le _) (Nat.zero_le _) dX8_statement_63 (fun M22 g22 => ?_)
      refine y_goto (tgt := 187) hC dX8_statement_66 (by decide) ?_
      refine y_aload_n hC dX8_statement_187 rfl ?_
      refine y_bipush (v := 59) hC dX8_statement_188 (by decide) ?_
      refine y_callY hC (w_exp X.2.1 D z hQ hx g22 (c := 59) (g := 59) (by decide) (by decide) (by decide)) m_X8_104 rfl (yM_o hQ) (by decide) (Nat.le_of_ble_eq_true rfl) (Nat.zero_le _) (Nat.zero_le _) dX8_statement_190 (fun M23 g23 => ?_)
      exact y_vret hC hr (Nat.zero_le _) (Nat.zero_le _) dX8_statement_193 (yV.mk (by rw [gSta, if_neg (by rw [(show tkK S P.1 = 258 from y1.2.1.2.trans (by decide))]; decide), if_pos (show tkK S P.1 = 258 from y1.2.1.2.trans (by decide)), show tn (P.2.2.2.1 2) = nr from by rw [hd2, tn_nI (by omega)]]; exact g23.k (fun _ => by rw [gTak_cd, gRea_cd])))
  · have y0 := g2.resolve_right (fun w => c16 w.1)
    refine y_aload_n hC dX8_statement_19 rfl ?_
    refine y_iconst (v := 0) hC dX8_statement_20 (by decide) ?_
    refine y_iload_n hC dX8_statement_21 rfl ?_
    refine y_callY hC (w_once0 X.2.1 D z hQ y0.2.2 h0 hA1.2.2.1.symm) m_X8_145 rfl (yM_o hQ) (by decide) (Nat.le_of_ble_eq_true rfl) (Nat.zero_le _) (Nat.zero_le _) dX8_statement_22 (fun M24 g24 => ?_)
    refine y_aload_n hC dX8_statement_25 rfl ?_
    refine y_getR hC (yM_o hQ) (yM_r9 hQ) f_X8_20 rfl dX8_statement_26 ?_
    refine y_iconst (v := nI 0) hC dX8_statement_29 (by decide) ?_
    refine y_aload_n hC dX8_statement_30 rfl ?_
    refine y_iconst (v := 1) hC dX8_statement_31 (by decide) ?_
    refine y_iconst (v := 4) hC dX8_statement_32 (by decide) ?_
    refine y_callYn hC (w_num X.2.1 D z hQ hx g24 (a := 1) (c := 4) (lo := 1) (hi := 4) (by decide) (by decide) (by decide) (by decide)) m_X8_120 rfl (yM_o hQ) (by decide) (Nat.le_of_ble_eq_true rfl) (Nat.zero_le _) (Nat.zero_le _) dX8_statement_33 (fun x25 M25 g25 => ?_)
    refine y_iastRN (w9 := 15) hC (by decide) (yM_a9 hQ) (by decide) dX8_statement_36 ?_
    have b26 := g25.1.put (j := 0) (by decide) (fun w => (g25.2 w).1)
    refine y_aload_n hC dX8_statement_37 rfl ?_
    refine y_getR hC (yM_o hQ) (yM_r9 hQ) f_X8_20 rfl dX8_statement_38 ?_
    refine y_iconst (v := nI 1) hC dX8_statement_41 (by decide) ?_
    refine y_aload_n hC dX8_statement_42 rfl ?_
    refine y_iconst (v := 1) hC dX8_statement_43 (by decide) ?_
    refine y_iconst (v := 4) hC dX8_statement_44 (by decide) ?_
    refine y_callYn hC (w_num X.2.1 D z hQ hx b26 (a := 1) (c := 4) (lo := 1) (hi := 4) (by decide) (by decide) (by decide) (by decide)) m_X8_120 rfl (yM_o hQ) (by decide) (Nat.le_of_ble_eq_true rfl) (Nat.zero_le _) (Nat.zero_le _) dX8_statement_45 (fun x27 M27 g27 => ?_)
    refine y_iastRN (w9 := 15) hC (by decide) (yM_a9 hQ) (by decide) dX8_statement_48 ?_
    have b28 := g27.1.put (j := 1) (by decide) (fun w => (g27.2 w).1)
    refine y_goto (tgt := 187) hC dX8_statement_49 (by decide) ?_
    refine y_aload_n hC dX8_statement_187 rfl ?_
    refine y_bipush (v := 59) hC dX8_statement_188 (by decide) ?_
    refine y_callY hC (w_exp X.2.1 D z hQ hx b28 (c := 59) (g := 59) (by decide) (by decide) (by decide)) m_X8_104 rfl (yM_o hQ) (by decide) (Nat.le_of_ble_eq_true rfl) (Nat.zero_le _) (Nat.zero_le _) dX8_statement_190 (fun M29 g29 => ?_)
    exact y_vret hC hr (Nat.zero_le _) (Nat.zero_le _) dX8_statement_193 (yV.mk (by rw [gSta, if_pos (show tkK S P.1 = 257 from y0.2.1.2.trans (by decide))]; exact g29.k (fun _ => by rw [gTak_cd, gPrt_cd])))
