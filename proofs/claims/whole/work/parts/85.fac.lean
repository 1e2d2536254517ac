set_option maxRecDepth 100000 in
set_option maxHeartbeats 4000000 in
theorem c_X8_factor_dead (l : Launch) (D : yD) (z : Nat) {n : Nat} {sh : yS} {I : yI} {L : yL} {q : Nat} {b : Nat → Int32} {len : Nat} {S : List (Int32 × Nat × Int32)} {M0 : yI} (hQ : yMod sh q) {e : Nat} {K : List Int32} {M : yI} {P : yPs} (hZ : rmK b len S M0 e K M P) (h0 : ¬ P.2.1 = 0) : yM l D z yX8_factor cX8_factor 4 none 1 0 0 [.ref q] n sh (sR 15 I q M) L (yF none n sh (sR 15 I q M) L) (yno) := by
  refine yM_of (by decide) (Nat.le_of_ble_eq_true rfl) rfl ?_
  intro X hC hr hnm hRc hRs htb
  have hC : yC X D z cX8_factor RX8 4 1 := hC
  refine y_aload_n hC dX8_factor_0 rfl ?_
  refine y_callV1 hC (w_isGood X.2.1 D z hQ hZ) m_X8_65 rfl (yM_o hQ) (by decide) (Nat.le_of_ble_eq_true rfl) (Nat.zero_le _) (Nat.zero_le _) dX8_factor_1 ?_
  refine y_if_neB (tgt := 8) hC dX8_factor_4 (by decide) (fun c4 => absurd c4 h0) (fun c4 => ?_)
  exact y_vret hC hr (Nat.zero_le _) (Nat.zero_le _) dX8_factor_7 (yF.mk rfl)
set_option maxRecDepth 100000 in
set_option maxHeartbeats 4000000 in
theorem c_X8_term_dead (l : Launch) (D : yD) (z : Nat) {n : Nat} {sh : yS} {I : yI} {L : yL} {q : Nat} {b : Nat → Int32} {len : Nat} {S : List (Int32 × Nat × Int32)} {M0 : yI} (hQ : yMod sh q) {e : Nat} {K : List Int32} {M : yI} {P : yPs} (hZ : rmK b len S M0 e K M P) (h0 : ¬ P.2.1 = 0) : yM l D z yX8_term cX8_term 2 none 2 0 0 [.ref q] n sh (sR 15 I q M) L (yF none n sh (sR 15 I q M) L) (yno) := by
  refine yM_of (by decide) (Nat.le_of_ble_eq_true rfl) rfl ?_
  intro X hC hr hnm hRc hRs htb
  have hC : yC X D z cX8_term RX8 2 2 := hC
  refine y_aload_n hC dX8_term_0 rfl ?_
  refine y_callV0 hC (c_X8_factor_dead X.2.1 D z hQ hZ h0) m_X8_126 rfl (yM_o hQ) (by decide) (Nat.le_of_ble_eq_true rfl) (Nat.zero_le _) (Nat.zero_le _) dX8_term_1 ?_
  refine y_aload_n hC dX8_term_4 rfl ?_
  refine y_callV1 hC (w_isGood X.2.1 D z hQ hZ) m_X8_65 rfl (yM_o hQ) (by decide) (Nat.le_of_ble_eq_true rfl) (Nat.zero_le _) (Nat.zero_le _) dX8_term_5 ?_
  refine y_if_eqB (tgt := 74) hC dX8_term_8 (by decide) (fun c8 => ?_) (fun c8 => absurd c8 h0)
  exact y_vret hC hr (Nat.zero_le _) (Nat.zero_le _) dX8_term_74 (yF.mk rfl)
set_option maxRecDepth 100000 in
set_option maxHeartbeats 4000000 in
theorem c_X8_sum_dead (l : Launch) (D : yD) (z : Nat) {n : Nat} {sh : yS} {I : yI} {L : yL} {q : Nat} {b : Nat → Int32} {len : Nat} {S : List (Int32 × Nat × Int32)} {M0 : yI} (hQ : yMod sh q) {e : Nat} {K : List Int32} {M : yI} {P : yPs} (hZ : rmK b len S M0 e K M P) (h0 : ¬ P.2.1 = 0) : yM l D z yX8_sum cX8_sum 2 none 3 0 0 [.ref q] n sh (sR 15 I q M) L (yF none n sh (sR 15 I q M) L) (yno) := by
  refine yM_of (by decide) (Nat.le_of_ble_eq_true rfl) rfl ?_
  intro X hC hr hnm hRc hRs htb
  have hC : yC X D z cX8_sum RX8 2 3 := hC
  refine y_aload_n hC dX8_sum_0 rfl ?_
  refine y_callV0 hC (c_X8_term_dead X.2.1 D z hQ hZ h0) m_X8_129 rfl (yM_o hQ) (by decide) (Nat.le_of_ble_eq_true rfl) (Nat.zero_le _) (Nat.zero_le _) dX8_sum_1 ?_
  refine y_aload_n hC dX8_sum_4 rfl ?_
  refine y_callV1 hC (w_isGood X.2.1 D z hQ hZ) m_X8_65 rfl (yM_o hQ) (by decide) (Nat.le_of_ble_eq_true rfl) (Nat.zero_le _) (Nat.zero_le _) dX8_sum_5 ?_
  refine y_if_eqB (tgt := 74) hC dX8_sum_8 (by decide) (fun c8 => ?_) (fun c8 => absurd c8 h0)
  exact y_vret hC hr (Nat.zero_le _) (Nat.zero_le _) dX8_sum_74 (yF.mk rfl)
set_option maxRecDepth 100000 in
set_option maxHeartbeats 4000000 in
theorem c_X8_factorD (l : Launch) (D : yD) (z : Nat) {n : Nat} {sh : yS} {I : yI} {L : yL} {q : Nat} {b : Nat → Int32} {len : Nat} {S : List (Int32 × Nat × Int32)} {M0 : yI} (hQ : yMod sh q) (hx : mX b len M0) (hSl : S.length ≤ 901) (M : yI) (P : yPs) (hZ : rmK b len S M0 4 (cC P.2.2.2.2) M P) (hS : P.2.1 = 0 → 2 * (cC P.2.2.2.2).length ≤ 3 * P.1) : yM l D z yX8_factor cX8_factor 4 none 6 0 0 [.ref q] n sh (sR 15 I q M) L (yV (fun M2 => rmK b len S M0 4 (cC (gFac (tkK S) (tkV S) (tkS S) (gErr (tkS S) (-5)) P).2.2.2.2) M2 (gFac (tkK S) (tkV S) (tkS S) (gErr (tkS S) (-5)) P)) n sh I q L) (yno) := by
  refine yM_of (by decide) (Nat.le_of_ble_eq_true rfl) rfl ?_
  intro X hC hr hnm hRc hRs htb
  have hC : yC X D z cX8_factor RX8 4 6 := hC
  refine y_aload_n hC dX8_factor_0 rfl ?_
  refine y_callV1 hC (w_isGood X.2.1 D z hQ hZ) m_X8_65 rfl (yM_o hQ) (by omega) (Nat.le_of_ble_eq_true rfl) (Nat.zero_le _) (Nat.zero_le _) dX8_factor_1 ?_
  refine y_if_neB (tgt := 8) hC dX8_factor_4 (by decide) (fun c4 => ?_) (fun c4 => ?_)
  · refine y_aload_n hC dX8_factor_8 rfl ?_
    refine y_callYn hC (w_next X.2.1 D z hQ hx hZ c4) m_X8_69 rfl (yM_o hQ) (by omega) (Nat.le_of_ble_eq_true rfl) (Nat.zero_le _) (Nat.zero_le _) dX8_factor_9 (fun x1 M1 g1 => ?_)
    obtain ⟨a1, rfl, hA1⟩ := g1
    refine y_istore_n hC dX8_factor_12 (by decide) rfl ?_
    refine y_iload_n hC dX8_factor_13 rfl ?_
    refine y_bipush (v := 40) hC dX8_factor_14 (by decide) ?_
    refine y_icmp_ne (tgt := 78) hC dX8_factor_16 (by decide) (fun c16 => ?_) (fun c16 => ?_)
    · refine y_iload_n hC dX8_factor_78 rfl ?_
      refine y_callS1 hC (c_X8_isDigit X.2.1 D z) m_X8_86 rfl (by omega) (Nat.le_of_ble_eq_true rfl) (Nat.zero_le _) (Nat.zero_le _) dX8_factor_79 ?_
      refine y_if_eqB (tgt := 89) hC dX8_factor_82 (by decide) (fun c82 => ?_) (fun c82 => ?_)
      · refine y_aload_n hC dX8_factor_89 rfl ?_
        refine y_ldcS (tx := "count") (j := 6) hC (by decide +kernel) dX8_factor_90 ?_
        refine y_callYn hC (w_takeWord X.2.1 D z hQ hx hA1.1 (w := 6) (by decide)) m_X8_110 rfl (yM_o hQ) (by omega) (Nat.le_of_ble_eq_true rfl) (Nat.zero_le _) (Nat.zero_le _) dX8_factor_92 (fun x2 M2 g2 => ?_)
        refine y_if_eq (tgt := 102) hC dX8_factor_95 (by decide) (fun c95 => ?_) (fun c95 => ?_)
        · have n0 := g2.resolve_left (fun w => absurd (w.1.symm.trans c95) (by decide))
          refine y_aload_n hC dX8_factor_102 rfl ?_
          refine y_ldcS (tx := "needed") (j := 7) hC (by decide +kernel) dX8_factor_103 ?_
          refine y_callYn hC (w_takeWord X.2.1 D z hQ hx n0.2.2 (w := 7) (by decide)) m_X8_110 rfl (yM_o hQ) (by omega) (Nat.le_of_ble_eq_true rfl) (Nat.zero_le _) (Nat.zero_le _) dX8_factor_105 (fun x3 M3 g3 => ?_)
          refine y_if_eq (tgt := 115) hC dX8_factor_108 (by decide) (fun c108 => ?_) (fun c108 => ?_)
          · have n1 := g3.resolve_left (fun w => absurd (w.1.symm.trans c108) (by decide))
            refine y_aload_n hC dX8_factor_115 rfl ?_
            refine y_ldcS (tx := "amount") (j := 8) hC (by decide +kernel) dX8_factor_116 ?_
            refine y_callYn hC (w_takeWord X.2.1 D z hQ hx n1.2.2 (w := 8) (by decide)) m_X8_110 rfl (yM_o hQ) (by omega) (Nat.le_of_ble_eq_true rfl) (Nat.zero_le _) (Nat.zero_le _) dX8_factor_118 (fun x4 M4 g4 => ?_)
            refine y_if_eq (tgt := 128) hC dX8_factor_121 (by decide) (fun c121 => ?_) (fun c121 => ?_)
            · have n2 := g4.resolve_left (fun w => absurd (w.1.symm.trans c121) (by decide))
              refine y_aload_n hC dX8_factor_128 rfl ?_
              refine y_ldcS (tx := "days") (j := 9) hC (by decide +kernel) dX8_factor_129 ?_
              refine y_callYn hC (w_takeWord X.2.1 D z hQ hx n2.2.2 (w := 9) (by decide)) m_X8_110 rfl (yM_o hQ) (by omega) (Nat.le_of_ble_eq_true rfl) (Nat.zero_le _) (Nat.zero_le _) dX8_factor_131 (fun x5 M5 g5 => ?_)
              refine y_if_eq (tgt := 141) hC dX8_factor_134 (by decide) (fun c134 => ?_) (fun c134 => ?_)
              · have n3 := g5.resolve_left (fun w => absurd (w.1.symm.trans c134) (by decide))
                refine y_iconst (v := (-1)) hC dX8_factor_141 (by decide) ?_
                refine y_istore_n hC dX8_factor_142 (by decide) rfl ?_
                refine y_iload_n hC dX8_factor_143 rfl ?_
                refine y_if_ge (tgt := 158) hC dX8_factor_144 (by decide) (fun c144 => absurd c144 (by decide)) (fun c144 => ?_)
                skip
                refine y_aload_n hC dX8_factor_147 rfl ?_
                refine y_iconst (v := 0) hC dX8_factor_148 (by decide) ?_
                refine y_sipush (v := 9999) hC dX8_factor_149 (by decide) ?_
                refine y_callYn hC (w_num X.2.1 D z hQ hx n3.2.2 (a := 0) (c := 9999) (lo := 0) (hi := 9999) (by decide) (by decide) (by decide) (by decide)) m_X8_120 rfl (yM_o hQ) (by omega) (Nat.le_of_ble_eq_true rfl) (Nat.zero_le _) (Nat.zero_le _) dX8_factor_152 (fun x6 M6 g6 => ?_)
                refine y_goto (tgt := 159) hC dX8_factor_155 (by decide) ?_
                skip
                refine y_istore_n hC dX8_factor_159 (by decide) rfl ?_
                refine y_aload_n hC dX8_factor_160 rfl ?_
                refine y_iload_n hC dX8_factor_161 rfl ?_
                refine y_if_ge (tgt := 169) hC dX8_factor_162 (by decide) (fun c162 => absurd c162 (by decide)) (fun c162 => ?_)
                refine y_iconst (v := 0) hC dX8_factor_165 (by decide) ?_
                refine y_goto (tgt := 170) hC dX8_factor_166 (by decide) ?_
                refine y_callY hC (w_emit X.2.1 D z hQ g6.1 (fun w => by have h1 := hZ.bd c4; have h2 := hS c4; omega)) m_X8_123 rfl (yM_o hQ) (by omega) (Nat.le_of_ble_eq_true rfl) (Nat.zero_le _) (Nat.zero_le _) dX8_factor_170 (fun M7 g7 => ?_)
                refine y_aload_n hC dX8_factor_173 rfl ?_
                refine y_iload_n hC dX8_factor_174 rfl ?_
                refine y_callY hC (w_emit X.2.1 D z hQ g7 (fun w => by have h1 := hZ.bd c4; have h2 := hS c4; rw [List.length_append]; show (cC P.2.2.2.2).length + 1 + 1 < 1500; omega)) m_X8_123 rfl (yM_o hQ) (by omega) (Nat.le_of_ble_eq_true rfl) (Nat.zero_le _) (Nat.zero_le _) dX8_factor_175 (fun M8 g8 => ?_)
                exact y_vret hC hr (Nat.zero_le _) (Nat.zero_le _) dX8_factor_178 (yV.mk (by
  by_cases kd : tkK S P.1 = 256
  · rw [gFac, if_neg (Decidable.not_not.mpr c4), if_pos kd]
    exact g8.k (fun w => by
      obtain ⟨w1, w2⟩ := g6.2 w
      obtain ⟨-, -, w3, w4, w5⟩ := gNum_0 (P := P) w
      show _ = cC ((gNum (tkK S) (tkV S) (tkS S) 0 9999 P).2.2.2.2.2 ++ [(gNum (tkK S) (tkV S) (tkS S) 0 9999 P).1])
      rw [cC_app, List.append_assoc, w3, w1]
      show _ ++ [0, (gNum (tkK S) (tkV S) (tkS S) 0 9999 P).1] = _ ++ cE (gNum (tkK S) (tkV S) (tkS S) 0 9999 P).1
      rw [cE_num (show (0 : Int32) ≤ (gNum (tkK S) (tkV S) (tkS S) 0 9999 P).1 from by rw [w4]; exact Int32.not_lt.mp (fun w6 => w5 (Or.inl w6)))]
      rfl)
  · (have e9 : gNum (tkK S) (tkV S) (tkS S) 0 9999 P = (0, gErr (tkS S) (-2) P) := by rw [gNum, if_pos c4, if_neg kd]
     rw [e9] at g8
     rw [gFac, if_neg (Decidable.not_not.mpr c4), if_neg kd, if_neg (fun w => n0.2.1 ⟨c4, w.trans (by decide)⟩), if_neg (fun w => n1.2.1 ⟨c4, w.trans (by decide)⟩), if_neg (fun w => n2.2.1 ⟨c4, w.trans (by decide)⟩), if_neg (fun w => n3.2.1 ⟨c4, w.trans (by decide)⟩), if_neg (show ¬ tkK S P.1 = 40 from fun w => c16 ((lx_sg hA1.2.2 (g := 40) (by decide) (by decide)).mpr w))]
     exact g8.k (fun w => absurd w (gErr_e (by decide))))))
              · have y3 := g5.resolve_right (fun w => c134 w.1)
                refine y_iconst (v := 3) hC dX8_factor_137 (by decide) ?_
                refine y_goto (tgt := 142) hC dX8_factor_138 (by decide) ?_
                refine y_istore_n hC dX8_factor_142 (by decide) rfl ?_
                refine y_iload_n hC dX8_factor_143 rfl ?_
                refine y_if_ge (tgt := 158) hC dX8_factor_144 (by decide) (fun c144 => ?_) (fun c144 => absurd (by decide) c144)
                refine y_iload_n hC dX8_factor_158 rfl ?_
                skip
                refine y_istore_n hC dX8_factor_159 (by decide) rfl ?_
                refine y_aload_n hC dX8_factor_160 rfl ?_
                refine y_iload_n hC dX8_factor_161 rfl ?_
                refine y_if_ge (tgt := 169) hC dX8_factor_162 (by decide) (fun c162 => ?_) (fun c162 => absurd (by decide) c162)
                refine y_iconst (v := 1) hC dX8_factor_169 (by decide) ?_
                refine y_callY hC (w_emit X.2.1 D z hQ y3.2.2 (fun w => by have h1 := hZ.bd c4; have h2 := hS c4; omega)) m_X8_123 rfl (yM_o hQ) (by omega) (Nat.le_of_ble_eq_true rfl) (Nat.zero_le _) (Nat.zero_le _) dX8_factor_170 (fun M9 g9 => ?_)
                refine y_aload_n hC dX8_factor_173 rfl ?_
                refine y_iload_n hC dX8_factor_174 rfl ?_
                refine y_callY hC (w_emit X.2.1 D z hQ g9 (fun w => by have h1 := hZ.bd c4; have h2 := hS c4; rw [List.length_append]; show (cC P.2.2.2.2).length + 1 + 1 < 1500; omega)) m_X8_123 rfl (yM_o hQ) (by omega) (Nat.le_of_ble_eq_true rfl) (Nat.zero_le _) (Nat.zero_le _) dX8_factor_175 (fun M10 g10 => ?_)
                exact y_vret hC hr (Nat.zero_le _) (Nat.zero_le _) dX8_factor_178 (yV.mk (by rw [gFac, if_neg (Decidable.not_not.mpr c4), if_neg (by rw [(show tkK S P.1 = 266 from y3.2.1.2.trans (by decide))]; decide), if_neg (by rw [(show tkK S P.1 = 266 from y3.2.1.2.trans (by decide))]; decide), if_neg (by rw [(show tkK S P.1 = 266 from y3.2.1.2.trans (by decide))]; decide), if_neg (by rw [(show tkK S P.1 = 266 from y3.2.1.2.trans (by decide))]; decide), if_pos (show tkK S P.1 = 266 from y3.2.1.2.trans (by decide))]; exact g10.k (fun _ => by show _ = cC (P.2.2.2.2 ++ [_]); rw [cC_app, List.append_assoc]; rfl)))
            · have y2 := g4.resolve_right (fun w => c121 w.1)
              refine y_iconst (v := 2) hC dX8_factor_124 (by decide) ?_
              refine y_goto (tgt := 142) hC dX8_factor_125 (by decide) ?_
              refine y_istore_n hC dX8_factor_142 (by decide) rfl ?_
              refine y_iload_n hC dX8_factor_143 rfl ?_
              refine y_if_ge (tgt := 158) hC dX8_factor_144 (by decide) (fun c144 => ?_) (fun c144 => absurd (by decide) c144)
              refine y_iload_n hC dX8_factor_158 rfl ?_
              skip
              refine y_istore_n hC dX8_factor_159 (by decide) rfl ?_
              refine y_aload_n hC dX8_factor_160 rfl ?_
              refine y_iload_n hC dX8_factor_161 rfl ?_
              refine y_if_ge (tgt := 169) hC dX8_factor_162 (by decide) (fun c162 => ?_) (fun c162 => absurd (by decide) c162)
              refine y_iconst (v := 1) hC dX8_factor_169 (by decide) ?_
              refine y_callY hC (w_emit X.2.1 D z hQ y2.2.2 (fun w => by have h1 := hZ.bd c4; have h2 := hS c4; omega)) m_X8_123 rfl (yM_o hQ) (by omega) (Nat.le_of_ble_eq_true rfl) (Nat.zero_le _) (Nat.zero_le _) dX8_factor_170 (fun M11 g11 => ?_)
              refine y_aload_n hC dX8_factor_173 rfl ?_
              refine y_iload_n hC dX8_factor_174 rfl ?_
              refine y_callY hC (w_emit X.2.1 D z hQ g11 (fun w => by have h1 := hZ.bd c4; have h2 := hS c4; rw [List.length_append]; show (cC P.2.2.2.2).length + 1 + 1 < 1500; omega)) m_X8_123 rfl (yM_o hQ) (by omega) (Nat.le_of_ble_eq_true rfl) (Nat.zero_le _) (Nat.zero_le _) dX8_factor_175 (fun M12 g12 => ?_)
              exact y_vret hC hr (Nat.zero_le _) (Nat.zero_le _) dX8_factor_178 (yV.mk (by rw [gFac, if_neg (Decidable.not_not.mpr c4), if_neg (by rw [(show tkK S P.1 = 265 from y2.2.1.2.trans (by decide))]; decide), if_neg (by rw [(show tkK S P.1 = 265 from y2.2.1.2.trans (by decide))]; decide), if_neg (by rw [(show tkK S P.1 = 265 from y2.2.1.2.trans (by decide))]; decide), if_pos (show tkK S P.1 = 265 from y2.2.1.2.trans (by decide))]; exact g12.k (fun _ => by show _ = cC (P.2.2.2.2 ++ [_]); rw [cC_app, List.append_assoc]; rfl)))
          · have y1 := g3.resolve_right (fun w => c108 w.1)
            refine y_iconst (v := 1) hC dX8_factor_111 (by decide) ?_
            refine y_goto (tgt := 142) hC dX8_factor_112 (by decide) ?_
            refine y_istore_n hC dX8_factor_142 (by decide) rfl ?_
            refine y_iload_n hC dX8_factor_143 rfl ?_
            refine y_if_ge (tgt := 158) hC dX8_factor_144 (by decide) (fun c144 => ?_) (fun c144 => absurd (by decide) c144)
            refine y_iload_n hC dX8_factor_158 rfl ?_
            skip
            refine y_istore_n hC dX8_factor_159 (by decide) rfl ?_
            refine y_aload_n hC dX8_factor_160 rfl ?_
            refine y_iload_n hC dX8_factor_161 rfl ?_
            refine y_if_ge (tgt := 169) hC dX8_factor_162 (by decide) (fun c162 => ?_) (fun c162 => absurd (by decide) c162)
            refine y_iconst (v := 1) hC dX8_factor_169 (by decide) ?_
            refine y_callY hC (w_emit X.2.1 D z hQ y1.2.2 (fun w => by have h1 := hZ.bd c4; have h2 := hS c4; omega)) m_X8_123 rfl (yM_o hQ) (by omega) (Nat.le_of_ble_eq_true rfl) (Nat.zero_le _) (Nat.zero_le _) dX8_factor_170 (fun M13 g13 => ?_)
            refine y_aload_n hC dX8_factor_173 rfl ?_
            refine y_iload_n hC dX8_factor_174 rfl ?_
            refine y_callY hC (w_emit X.2.1 D z hQ g13 (fun w => by have h1 := hZ.bd c4; have h2 := hS c4; rw [List.length_append]; show (cC P.2.2.2.2).length + 1 + 1 < 1500; omega)) m_X8_123 rfl (yM_o hQ) (by omega) (Nat.le_of_ble_eq_true rfl) (Nat.zero_le _) (Nat.zero_le _) dX8_factor_175 (fun M14 g14 => ?_)
            exact y_vret hC hr (Nat.zero_le _) (Nat.zero_le _) dX8_factor_178 (yV.mk (by rw [gFac, if_neg (Decidable.not_not.mpr c4), if_neg (by rw [(show tkK S P.1 = 264 from y1.2.1.2.trans (by decide))]; decide), if_neg (by rw [(show tkK S P.1 = 264 from y1.2.1.2.trans (by decide))]; decide), if_pos (show tkK S P.1 = 264 from y1.2.1.2.trans (by decide))]; exact g14.k (fun _ => by show _ = cC (P.2.2.2.2 ++ [_]); rw [cC_app, List.append_assoc]; rfl)))
        · have y0 := g2.resolve_right (fun w => c95 w.1)
          refine y_iconst (v := 0) hC dX8_factor_98 (by decide) ?_
          refine y_goto (tgt := 142) hC dX8_factor_99 (by decide) ?_
          refine y_istore_n hC dX8_factor_142 (by decide) rfl ?_
          refine y_iload_n hC dX8_factor_143 rfl ?_
          refine y_if_ge (tgt := 158) hC dX8_factor_144 (by decide) (fun c144 => ?_) (fun c144 => absurd (by decide) c144)
          refine y_iload_n hC dX8_factor_158 rfl ?_
          skip
          refine y_istore_n hC dX8_factor_159 (by decide) rfl ?_
          refine y_aload_n hC dX8_factor_160 rfl ?_
          refine y_iload_n hC dX8_factor_161 rfl ?_
          refine y_if_ge (tgt := 169) hC dX8_factor_162 (by decide) (fun c162 => ?_) (fun c162 => absurd (by decide) c162)
          refine y_iconst (v := 1) hC dX8_factor_169 (by decide) ?_
          refine y_callY hC (w_emit X.2.1 D z hQ y0.2.2 (fun w => by have h1 := hZ.bd c4; have h2 := hS c4; omega)) m_X8_123 rfl (yM_o hQ) (by omega) (Nat.le_of_ble_eq_true rfl) (Nat.zero_le _) (Nat.zero_le _) dX8_factor_170 (fun M15 g15 => ?_)
          refine y_aload_n hC dX8_factor_173 rfl ?_
          refine y_iload_n hC dX8_factor_174 rfl ?_
          refine y_callY hC (w_emit X.2.1 D z hQ g15 (fun w => by have h1 := hZ.bd c4; have h2 := hS c4; rw [List.length_append]; show (cC P.2.2.2.2).length + 1 + 1 < 1500; omega)) m_X8_123 rfl (yM_o hQ) (by omega) (Nat.le_of_ble_eq_true rfl) (Nat.zero_le _) (Nat.zero_le _) dX8_factor_175 (fun M16 g16 => ?_)
          exact y_vret hC hr (Nat.zero_le _) (Nat.zero_le _) dX8_factor_178 (yV.mk (by rw [gFac, if_neg (Decidable.not_not.mpr c4), if_neg (by rw [(show tkK S P.1 = 263 from y0.2.1.2.trans (by decide))]; decide), if_pos (show tkK S P.1 = 263 from y0.2.1.2.trans (by decide))]; exact g16.k (fun _ => by show _ = cC (P.2.2.2.2 ++ [_]); rw [cC_app, List.append_assoc]; rfl)))
      · refine y_iconst (v := (-1)) hC dX8_factor_85 (by decide) ?_
        refine y_goto (tgt := 142) hC dX8_factor_86 (by decide) ?_
        refine y_istore_n hC dX8_factor_142 (by decide) rfl ?_
        refine y_iload_n hC dX8_factor_143 rfl ?_
        refine y_if_ge (tgt := 158) hC dX8_factor_144 (by decide) (fun c144 => absurd c144 (by decide)) (fun c144 => ?_)
        skip
        refine y_aload_n hC dX8_factor_147 rfl ?_
        refine y_iconst (v := 0) hC dX8_factor_148 (by decide) ?_
        refine y_sipush (v := 9999) hC dX8_factor_149 (by decide) ?_
        refine y_callYn hC (w_num X.2.1 D z hQ hx hA1.1 (a := 0) (c := 9999) (lo := 0) (hi := 9999) (by decide) (by decide) (by decide) (by decide)) m_X8_120 rfl (yM_o hQ) (by omega) (Nat.le_of_ble_eq_true rfl) (Nat.zero_le _) (Nat.zero_le _) dX8_factor_152 (fun x17 M17 g17 => ?_)
        refine y_goto (tgt := 159) hC dX8_factor_155 (by decide) ?_
        skip
        refine y_istore_n hC dX8_factor_159 (by decide) rfl ?_
        refine y_aload_n hC dX8_factor_160 rfl ?_
        refine y_iload_n hC dX8_factor_161 rfl ?_
        refine y_if_ge (tgt := 169) hC dX8_factor_162 (by decide) (fun c162 => absurd c162 (by decide)) (fun c162 => ?_)
        refine y_iconst (v := 0) hC dX8_factor_165 (by decide) ?_
        refine y_goto (tgt := 170) hC dX8_factor_166 (by decide) ?_
        refine y_callY hC (w_emit X.2.1 D z hQ g17.1 (fun w => by have h1 := hZ.bd c4; have h2 := hS c4; omega)) m_X8_123 rfl (yM_o hQ) (by omega) (Nat.le_of_ble_eq_true rfl) (Nat.zero_le _) (Nat.zero_le _) dX8_factor_170 (fun M18 g18 => ?_)
        refine y_aload_n hC dX8_factor_173 rfl ?_
        refine y_iload_n hC dX8_factor_174 rfl ?_
        refine y_callY hC (w_emit X.2.1 D z hQ g18 (fun w => by have h1 := hZ.bd c4; have h2 := hS c4; rw [List.length_append]; show (cC P.2.2.2.2).length + 1 + 1 < 1500; omega)) m_X8_123 rfl (yM_o hQ) (by omega) (Nat.le_of_ble_eq_true rfl) (Nat.zero_le _) (Nat.zero_le _) dX8_factor_175 (fun M19 g19 => ?_)
        exact y_vret hC hr (Nat.zero_le _) (Nat.zero_le _) dX8_factor_178 (yV.mk (by
  by_cases kd : tkK S P.1 = 256
  · rw [gFac, if_neg (Decidable.not_not.mpr c4), if_pos kd]
    exact g19.k (fun w => by
      obtain ⟨w1, w2⟩ := g17.2 w
      obtain ⟨-, -, w3, w4, w5⟩ := gNum_0 (P := P) w
      show _ = cC ((gNum (tkK S) (tkV S) (tkS S) 0 9999 P).2.2.2.2.2 ++ [(gNum (tkK S) (tkV S) (tkS S) 0 9999 P).1])
      rw [cC_app, List.append_assoc, w3, w1]
      show _ ++ [0, (gNum (tkK S) (tkV S) (tkS S) 0 9999 P).1] = _ ++ cE (gNum (tkK S) (tkV S) (tkS S) 0 9999 P).1
      rw [cE_num (show (0 : Int32) ≤ (gNum (tkK S) (tkV S) (tkS S) 0 9999 P).1 from by rw [w4]; exact Int32.not_lt.mp (fun w6 => w5 (Or.inl w6)))]
      rfl)
  · exact absurd ((lx_dg hA1.2.2).mp c82) kd))
    · refine y_aload_n hC dX8_factor_19 rfl ?_
      refine y_getIR (w9 := 15) hC (by decide) (yM_o hQ) f_X8_98 rfl dX8_factor_20 ?_
      refine y_eqI (y := nI 4) hA1.1.2.2.2.2.1 ?_
      refine y_iconst (v := nI 4) hC dX8_factor_23 (by decide) ?_
      refine y_icmp_ne (tgt := 37) hC dX8_factor_24 (by decide) (fun c24 => absurd rfl c24) (fun c24 => ?_)
      refine y_aload_n hC dX8_factor_27 rfl ?_
      refine y_bipush (v := (-5)) hC dX8_factor_28 (by decide) ?_
      refine y_aload_n hC dX8_factor_30 rfl ?_
      refine y_getIR (w9 := 15) hC (by decide) (yM_o hQ) f_X8_48 rfl dX8_factor_31 ?_
      refine y_eqI (y := nI a1) hA1.2.1 ?_
      refine y_callV0 hC (c_X8_report X.2.1 D z hQ) m_X8_82 rfl (yM_o hQ) (by omega) (Nat.le_of_ble_eq_true rfl) (Nat.zero_le _) (Nat.zero_le _) dX8_factor_34 ?_
      have hrp := hA1.1.rp (c := -5) (o := nI a1) (by decide) hA1.2.2.1.symm
      have hne : ¬ (gErr (tkS S) (-5) P).2.1 = 0 := gErr_e (by decide)
      refine y_aload_n hC dX8_factor_37 rfl ?_
      refine y_dup hC dX8_factor_38 rfl ?_
      refine y_getIR (w9 := 15) hC (by decide) (yM_o hQ) f_X8_48 rfl dX8_factor_39 ?_
      refine y_eqI (y := nI a1) ((rptM_15 (by decide) (by decide)).trans hA1.2.1) ?_
      refine y_iconst (v := nI 1) hC dX8_factor_42 (by decide) ?_
      refine y_iaddN hC dX8_factor_43 ?_
      refine y_putIR (w9 := 15) hC (by decide) (yM_o hQ) f_X8_48 rfl (Or.inl rfl) dX8_factor_44 ?_
      refine y_aload_n hC dX8_factor_47 rfl ?_
      refine y_dup hC dX8_factor_48 rfl ?_
      refine y_getIR (w9 := 15) hC (by decide) (yM_o hQ) f_X8_98 rfl dX8_factor_49 ?_
      refine y_eqI (y := nI 4) ((show up2 (rptM M1 (-5) (nI a1)) 0 4 (nI (a1 + 1)) 0 14 = rptM M1 (-5) (nI a1) 0 14 from rfl).trans hrp.2.2.2.2.1) ?_
      refine y_iconst (v := nI 1) hC dX8_factor_52 (by decide) ?_
      refine y_iaddN hC dX8_factor_53 ?_
      refine y_putIR (w9 := 15) hC (by decide) (yM_o hQ) f_X8_98 rfl (Or.inl rfl) dX8_factor_54 ?_
      have q1 := (lx_nx hA1.2.2 (g := 40) (by decide) (by decide) c16).1
      have hr2 := (hrp.mv (p := a1 + 1) (i := P.1) (by omega) (fun w => absurd w hne)).nst (e2 := 5)
      refine y_aload_n hC dX8_factor_57 rfl ?_
      refine y_callV0 hC (c_X8_sum_dead X.2.1 D z hQ hr2 (by exact gErr_e (by decide))) m_X8_101 rfl (yM_o hQ) (by omega) (Nat.le_of_ble_eq_true rfl) (Nat.zero_le _) (Nat.zero_le _) dX8_factor_58 ?_
      refine y_aload_n hC dX8_factor_61 rfl ?_
      refine y_bipush (v := 41) hC dX8_factor_62 (by decide) ?_
      refine y_callY hC (w_exp X.2.1 D z hQ hx hr2 (c := 41) (g := 41) (by decide) (by decide) (by decide)) m_X8_104 rfl (yM_o hQ) (by omega) (Nat.le_of_ble_eq_true rfl) (Nat.zero_le _) (Nat.zero_le _) dX8_factor_64 (fun M20 g20 => ?_)
      refine y_aload_n hC dX8_factor_67 rfl ?_
      refine y_dup hC dX8_factor_68 rfl ?_
      refine y_getIR (w9 := 15) hC (by decide) (yM_o hQ) f_X8_98 rfl dX8_factor_69 ?_
      refine y_eqI (y := nI 5) g20.2.2.2.2.1 ?_
      refine y_iconst (v := 1) hC dX8_factor_72 (by decide) ?_
      refine y_isub hC dX8_factor_73 ?_
      refine y_eqI (y := nI 4) (nI_pred 4) ?_
      refine y_putIR (w9 := 15) hC (by decide) (yM_o hQ) f_X8_98 rfl (Or.inl rfl) dX8_factor_74 ?_
      have hf := g20.nst (e2 := 4)
      rw [gTak, if_neg (show ¬ ((P.1, (gErr (tkS S) (-5) P).2) : yPs).2.1 = 0 from hne)] at hf
      have eP : ((P.1, (gErr (tkS S) (-5) P).2) : yPs) = gErr (tkS S) (-5) P := by unfold gErr; split <;> rfl
      rw [eP] at hf
      have hf := hf.k (K2 := cC (gErr (tkS S) (-5) P).2.2.2.2) (fun w => absurd w hne)
      exact y_vret hC hr (Nat.zero_le _) (Nat.zero_le _) dX8_factor_77 (yV.mk (by rw [gFac, if_neg (Decidable.not_not.mpr c4), if_neg (by rw [(show tkK S P.1 = 40 from (lx_sg hA1.2.2 (g := 40) (by decide) (by decide)).mp c16)]; decide), if_neg (by rw [(show tkK S P.1 = 40 from (lx_sg hA1.2.2 (g := 40) (by decide) (by decide)).mp c16)]; decide), if_neg (by rw [(show tkK S P.1 = 40 from (lx_sg hA1.2.2 (g := 40) (by decide) (by decide)).mp c16)]; decide), if_neg (by rw [(show tkK S P.1 = 40 from (lx_sg hA1.2.2 (g := 40) (by decide) (by decide)).mp c16)]; decide), if_neg (by rw [(show tkK S P.1 = 40 from (lx_sg hA1.2.2 (g := 40) (by decide) (by decide)).mp c16)]; decide), if_pos (show tkK S P.1 = 40 from (lx_sg hA1.2.2 (g := 40) (by decide) (by decide)).mp c16)]; exact hf))
  · exact y_vret hC hr (Nat.zero_le _) (Nat.zero_le _) dX8_factor_7 (yV.mk (by rw [gFac, if_pos c4]; exact hZ))
set_option maxRecDepth 100000 in
set_option maxHeartbeats 4000000 in
theorem c_X8_factorS (l : Launch) (D : yD) (z : Nat) {n : Nat} {sh : yS} {I : yI} {L : yL} {q : Nat} {b : Nat → Int32} {len : Nat} {S : List (Int32 × Nat × Int32)} {M0 : yI} (hQ : yMod sh q) (hx : mX b len M0) (hSl : S.length ≤ 901) {e dp : Nat} {sm : yPs → yPs} (hsum : ∀ l, yMM l D z n sh I L q b len S M0 (e + 1) yX8_sum cX8_sum 2 dp sm) (he : e < 4) (hdp : 5 ≤ dp) (M : yI) (P : yPs) (hZ : rmK b len S M0 e (cC P.2.2.2.2) M P) (hS : P.2.1 = 0 → 2 * (cC P.2.2.2.2).length ≤ 3 * P.1) : yM l D z yX8_factor cX8_factor 4 none (dp + 1) 0 0 [.ref q] n sh (sR 15 I q M) L (yV (fun M2 => rmK b len S M0 e (cC (gFac (tkK S) (tkV S) (tkS S) (fun P => gTak (tkK S) (tkS S) 41 (sm (gStp P))) P).2.2.2.2) M2 (gFac (tkK S) (tkV S) (tkS S) (fun P => gTak (tkK S) (tkS S) 41 (sm (gStp P))) P)) n sh I q L) (yno) := by
  refine yM_of (by decide) (Nat.le_of_ble_eq_true rfl) rfl ?_
  intro X hC hr hnm hRc hRs htb
  have hC : yC X D z cX8_factor RX8 4 (dp + 1) := hC
  refine y_aload_n hC dX8_factor_0 rfl ?_
  refine y_callV1 hC (w_isGood X.2.1 D z hQ hZ) m_X8_65 rfl (yM_o hQ) (by omega) (Nat.le_of_ble_eq_true rfl) (Nat.zero_le _) (Nat.zero_le _) dX8_factor_1 ?_
  refine y_if_neB (tgt := 8) hC dX8_factor_4 (by decide) (fun c4 => ?_) (fun c4 => ?_)
  · refine y_aload_n hC dX8_factor_8 rfl ?_
    refine y_callYn hC (w_next X.2.1 D z hQ hx hZ c4) m_X8_69 rfl (yM_o hQ) (by omega) (Nat.le_of_ble_eq_true rfl) (Nat.zero_le _) (Nat.zero_le _) dX8_factor_9 (fun x1 M1 g1 => ?_)
    obtain ⟨a1, rfl, hA1⟩ := g1
    refine y_istore_n hC dX8_factor_12 (by decide) rfl ?_
    refine y_iload_n hC dX8_factor_13 rfl ?_
    refine y_bipush (v := 40) hC dX8_factor_14 (by decide) ?_
    refine y_icmp_ne (tgt := 78) hC dX8_factor_16 (by decide) (fun c16 => ?_) (fun c16 => ?_)
    · refine y_iload_n hC dX8_factor_78 rfl ?_
      refine y_callS1 hC (c_X8_isDigit X.2.1 D z) m_X8_86 rfl (by omega) (Nat.le_of_ble_eq_true rfl) (Nat.zero_le _) (Nat.zero_le _) dX8_factor_79 ?_
      refine y_if_eqB (tgt := 89) hC dX8_factor_82 (by decide) (fun c82 => ?_) (fun c82 => ?_)
      · refine y_aload_n hC dX8_factor_89 rfl ?_
        refine y_ldcS (tx := "count") (j := 6) hC (by decide +kernel) dX8_factor_90 ?_
        refine y_callYn hC (w_takeWord X.2.1 D z hQ hx hA1.1 (w := 6) (by decide)) m_X8_110 rfl (yM_o hQ) (by omega) (Nat.le_of_ble_eq_true rfl) (Nat.zero_le _) (Nat.zero_le _) dX8_factor_92 (fun x2 M2 g2 => ?_)
        refine y_if_eq (tgt := 102) hC dX8_factor_95 (by decide) (fun c95 => ?_) (fun c95 => ?_)
        · have n0 := g2.resolve_left (fun w => absurd (w.1.symm.trans c95) (by decide))
          refine y_aload_n hC dX8_factor_102 rfl ?_
          refine y_ldcS (tx := "needed") (j := 7) hC (by decide +kernel) dX8_factor_103 ?_
          refine y_callYn hC (w_takeWord X.2.1 D z hQ hx n0.2.2 (w := 7) (by decide)) m_X8_110 rfl (yM_o hQ) (by omega) (Nat.le_of_ble_eq_true rfl) (Nat.zero_le _) (Nat.zero_le _) dX8_factor_105 (fun x3 M3 g3 => ?_)
          refine y_if_eq (tgt := 115) hC dX8_factor_108 (by decide) (fun c108 => ?_) (fun c108 => ?_)
          · have n1 := g3.resolve_left (fun w => absurd (w.1.symm.trans c108) (by decide))
            refine y_aload_n hC dX8_factor_115 rfl ?_
            refine y_ldcS (tx := "amount") (j := 8) hC (by decide +kernel) dX8_factor_116 ?_
            refine y_callYn hC (w_takeWord X.2.1 D z hQ hx n1.2.2 (w := 8) (by decide)) m_X8_110 rfl (yM_o hQ) (by omega) (Nat.le_of_ble_eq_true rfl) (Nat.zero_le _) (Nat.zero_le _) dX8_factor_118 (fun x4 M4 g4 => ?_)
            refine y_if_eq (tgt := 128) hC dX8_factor_121 (by decide) (fun c121 => ?_) (fun c121 => ?_)
            · have n2 := g4.resolve_left (fun w => absurd (w.1.symm.trans c121) (by decide))
              refine y_aload_n hC dX8_factor_128 rfl ?_
              refine y_ldcS (tx := "days") (j := 9) hC (by decide +kernel) dX8_factor_129 ?_
              refine y_callYn hC (w_takeWord X.2.1 D z hQ hx n2.2.2 (w := 9) (by decide)) m_X8_110 rfl (yM_o hQ) (by omega) (Nat.le_of_ble_eq_true rfl) (Nat.zero_le _) (Nat.zero_le _) dX8_factor_131 (fun x5 M5 g5 => ?_)
              refine y_if_eq (tgt := 141) hC dX8_factor_134 (by decide) (fun c134 => ?_) (fun c134 => ?_)
              · have n3 := g5.resolve_left (fun w => absurd (w.1.symm.trans c134) (by decide))
                refine y_iconst (v := (-1)) hC dX8_factor_141 (by decide) ?_
                refine y_istore_n hC dX8_factor_142 (by decide) rfl ?_
                refine y_iload_n hC dX8_factor_143 rfl ?_
                refine y_if_ge (tgt := 158) hC dX8_factor_144 (by decide) (fun c144 => absurd c144 (by decide)) (fun c144 => ?_)
                skip
                refine y_aload_n hC dX8_factor_147 rfl ?_
                refine y_iconst (v := 0) hC dX8_factor_148 (by decide) ?_
                refine y_sipush (v := 9999) hC dX8_factor_149 (by decide) ?_
                refine y_callYn hC (w_num X.2.1 D z hQ hx n3.2.2 (a := 0) (c := 9999) (lo := 0) (hi := 9999) (by decide) (by decide) (by decide) (by decide)) m_X8_120 rfl (yM_o hQ) (by omega) (Nat.le_of_ble_eq_true rfl) (Nat.zero_le _) (Nat.zero_le _) dX8_factor_152 (fun x6 M6 g6 => ?_)
                refine y_goto (tgt := 159) hC dX8_factor_155 (by decide) ?_
                skip
                refine y_istore_n hC dX8_factor_159 (by decide) rfl ?_
                refine y_aload_n hC dX8_factor_160 rfl ?_
                refine y_iload_n hC dX8_factor_161 rfl ?_
                refine y_if_ge (tgt := 169) hC dX8_factor_162 (by decide) (fun c162 => absurd c162 (by decide)) (fun c162 => ?_)
                refine y_iconst (v := 0) hC dX8_factor_165 (by decide) ?_
                refine y_goto (tgt := 170) hC dX8_factor_166 (by decide) ?_
                refine y_callY hC (w_emit X.2.1 D z hQ g6.1 (fun w => by have h1 := hZ.bd c4; have h2 := hS c4; omega)) m_X8_123 rfl (yM_o hQ) (by omega) (Nat.le_of_ble_eq_true rfl) (Nat.zero_le _) (Nat.zero_le _) dX8_factor_170 (fun M7 g7 => ?_)
                refine y_aload_n hC dX8_factor_173 rfl ?_
                refine y_iload_n hC dX8_factor_174 rfl ?_
                refine y_callY hC (w_emit X.2.1 D z hQ g7 (fun w => by have h1 := hZ.bd c4; have h2 := hS c4; rw [List.length_append]; show (cC P.2.2.2.2).length + 1 + 1 < 1500; omega)) m_X8_123 rfl (yM_o hQ) (by omega) (Nat.le_of_ble_eq_true rfl) (Nat.zero_le _) (Nat.zero_le _) dX8_factor_175 (fun M8 g8 => ?_)
                exact y_vret hC hr (Nat.zero_le _) (Nat.zero_le _) dX8_factor_178 (yV.mk (by
  by_cases kd : tkK S P.1 = 256
  · rw [gFac, if_neg (Decidable.not_not.mpr c4), if_pos kd]
    exact g8.k (fun w => by
      obtain ⟨w1, w2⟩ := g6.2 w
      obtain ⟨-, -, w3, w4, w5⟩ := gNum_0 (P := P) w
      show _ = cC ((gNum (tkK S) (tkV S) (tkS S) 0 9999 P).2.2.2.2.2 ++ [(gNum (tkK S) (tkV S) (tkS S) 0 9999 P).1])
      rw [cC_app, List.append_assoc, w3, w1]
      show _ ++ [0, (gNum (tkK S) (tkV S) (tkS S) 0 9999 P).1] = _ ++ cE (gNum (tkK S) (tkV S) (tkS S) 0 9999 P).1
      rw [cE_num (show (0 : Int32) ≤ (gNum (tkK S) (tkV S) (tkS S) 0 9999 P).1 from by rw [w4]; exact Int32.not_lt.mp (fun w6 => w5 (Or.inl w6)))]
      rfl)
  · (have e9 : gNum (tkK S) (tkV S) (tkS S) 0 9999 P = (0, gErr (tkS S) (-2) P) := by rw [gNum, if_pos c4, if_neg kd]
     rw [e9] at g8
     rw [gFac, if_neg (Decidable.not_not.mpr c4), if_neg kd, if_neg (fun w => n0.2.1 ⟨c4, w.trans (by decide)⟩), if_neg (fun w => n1.2.1 ⟨c4, w.trans (by decide)⟩), if_neg (fun w => n2.2.1 ⟨c4, w.trans (by decide)⟩), if_neg (fun w => n3.2.1 ⟨c4, w.trans (by decide)⟩), if_neg (show ¬ tkK S P.1 = 40 from fun w => c16 ((lx_sg hA1.2.2 (g := 40) (by decide) (by decide)).mpr w))]
     exact g8.k (fun w => absurd w (gErr_e (by decide))))))
              · have y3 := g5.resolve_right (fun w => c134 w.1)
                refine y_iconst (v := 3) hC dX8_factor_137 (by decide) ?_
                refine y_goto (tgt := 142) hC dX8_factor_138 (by decide) ?_
                refine y_istore_n hC dX8_factor_142 (by decide) rfl ?_
                refine y_iload_n hC dX8_factor_143 rfl ?_
                refine y_if_ge (tgt := 158) hC dX8_factor_144 (by decide) (fun c144 => ?_) (fun c144 => absurd (by decide) c144)
                refine y_iload_n hC dX8_factor_158 rfl ?_
                skip
                refine y_istore_n hC dX8_factor_159 (by decide) rfl ?_
                refine y_aload_n hC dX8_factor_160 rfl ?_
                refine y_iload_n hC dX8_factor_161 rfl ?_
                refine y_if_ge (tgt := 169) hC dX8_factor_162 (by decide) (fun c162 => ?_) (fun c162 => absurd (by decide) c162)
                refine y_iconst (v := 1) hC dX8_factor_169 (by decide) ?_
                refine y_callY hC (w_emit X.2.1 D z hQ y3.2.2 (fun w => by have h1 := hZ.bd c4; have h2 := hS c4; omega)) m_X8_123 rfl (yM_o hQ) (by omega) (Nat.le_of_ble_eq_true rfl) (Nat.zero_le _) (Nat.zero_le _) dX8_factor_170 (fun M9 g9 => ?_)
                refine y_aload_n hC dX8_factor_173 rfl ?_
                refine y_iload_n hC dX8_factor_174 rfl ?_
                refine y_callY hC (w_emit X.2.1 D z hQ g9 (fun w => by have h1 := hZ.bd c4; have h2 := hS c4; rw [List.length_append]; show (cC P.2.2.2.2).length + 1 + 1 < 1500; omega)) m_X8_123 rfl (yM_o hQ) (by omega) (Nat.le_of_ble_eq_true rfl) (Nat.zero_le _) (Nat.zero_le _) dX8_factor_175 (fun M10 g10 => ?_)
                exact y_vret hC hr (Nat.zero_le _) (Nat.zero_le _) dX8_factor_178 (yV.mk (by rw [gFac, if_neg (Decidable.not_not.mpr c4), if_neg (by rw [(show tkK S P.1 = 266 from y3.2.1.2.trans (by decide))]; decide), if_neg (by rw [(show tkK S P.1 = 266 from y3.2.1.2.trans (by decide))]; decide), if_neg (by rw [(show tkK S P.1 = 266 from y3.2.1.2.trans (by decide))]; decide), if_neg (by rw [(show tkK S P.1 = 266 from y3.2.1.2.trans (by decide))]; decide), if_pos (show tkK S P.1 = 266 from y3.2.1.2.trans (by decide))]; exact g10.k (fun _ => by show _ = cC (P.2.2.2.2 ++ [_]); rw [cC_app, List.append_assoc]; rfl)))
            · have y2 := g4.resolve_right (fun w => c121 w.1)
              refine y_iconst (v := 2) hC dX8_factor_124 (by decide) ?_
              refine y_goto (tgt := 142) hC dX8_factor_125 (by decide) ?_
              refine y_istore_n hC dX8_factor_142 (by decide) rfl ?_
              refine y_iload_n hC dX8_factor_143 rfl ?_
              refine y_if_ge (tgt := 158) hC dX8_factor_144 (by decide) (fun c144 => ?_) (fun c144 => absurd (by decide) c144)
              refine y_iload_n hC dX8_factor_158 rfl ?_
              skip
              refine y_istore_n hC dX8_factor_159 (by decide) rfl ?_
              refine y_aload_n hC dX8_factor_160 rfl ?_
              refine y_iload_n hC dX8_factor_161 rfl ?_
              refine y_if_ge (tgt := 169) hC dX8_factor_162 (by decide) (fun c162 => ?_) (fun c162 => absurd (by decide) c162)
              refine y_iconst (v := 1) hC dX8_factor_169 (by decide) ?_
              refine y_callY hC (w_emit X.2.1 D z hQ y2.2.2 (fun w => by have h1 := hZ.bd c4; have h2 := hS c4; omega)) m_X8_123 rfl (yM_o hQ) (by omega) (Nat.le_of_ble_eq_true rfl) (Nat.zero_le _) (Nat.zero_le _) dX8_factor_170 (fun M11 g11 => ?_)
              refine y_aload_n hC dX8_factor_173 rfl ?_
              refine y_iload_n hC dX8_factor_174 rfl ?_
              refine y_callY hC (w_emit X.2.1 D z hQ g11 (fun w => by have h1 := hZ.bd c4; have h2 := hS c4; rw [List.length_append]; show (cC P.2.2.2.2).length + 1 + 1 < 1500; omega)) m_X8_123 rfl (yM_o hQ) (by omega) (Nat.le_of_ble_eq_true rfl) (Nat.zero_le _) (Nat.zero_le _) dX8_factor_175 (fun M12 g12 => ?_)
              exact y_vret hC hr (Nat.zero_le _) (Nat.zero_le _) dX8_factor_178 (yV.mk (by rw [gFac, if_neg (Decidable.not_not.mpr c4), if_neg (by rw [(show tkK S P.1 = 265 from y2.2.1.2.trans (by decide))]; decide), if_neg (by rw [(show tkK S P.1 = 265 from y2.2.1.2.trans (by decide))]; decide), if_neg (by rw [(show tkK S P.1 = 265 from y2.2.1.2.trans (by decide))]; decide), if_pos (show tkK S P.1 = 265 from y2.2.1.2.trans (by decide))]; exact g12.k (fun _ => by show _ = cC (P.2.2.2.2 ++ [_]); rw [cC_app, List.append_assoc]; rfl)))
          · have y1 := g3.resolve_right (fun w => c108 w.1)
            refine y_iconst (v := 1) hC dX8_factor_111 (by decide) ?_
            refine y_goto (tgt := 142) hC dX8_factor_112 (by decide) ?_
            refine y_istore_n hC dX8_factor_142 (by decide) rfl ?_
            refine y_iload_n hC dX8_factor_143 rfl ?_
            refine y_if_ge (tgt := 158) hC dX8_factor_144 (by decide) (fun c144 => ?_) (fun c144 => absurd (by decide) c144)
            refine y_iload_n hC dX8_factor_158 rfl ?_
            skip
            refine y_istore_n hC dX8_factor_159 (by decide) rfl ?_
            refine y_aload_n hC dX8_factor_160 rfl ?_
            refine y_iload_n hC dX8_factor_161 rfl ?_
            refine y_if_ge (tgt := 169) hC dX8_factor_162 (by decide) (fun c162 => ?_) (fun c162 => absurd (by decide) c162)
            refine y_iconst (v := 1) hC dX8_factor_169 (by decide) ?_
            refine y_callY hC (w_emit X.2.1 D z hQ y1.2.2 (fun w => by have h1 := hZ.bd c4; have h2 := hS c4; omega)) m_X8_123 rfl (yM_o hQ) (by omega) (Nat.le_of_ble_eq_true rfl) (Nat.zero_le _) (Nat.zero_le _) dX8_factor_170 (fun M13 g13 => ?_)
            refine y_aload_n hC dX8_factor_173 rfl ?_
            refine y_iload_n hC dX8_factor_174 rfl ?_
            refine y_callY hC (w_emit X.2.1 D z hQ g13 (fun w => by have h1 := hZ.bd c4; have h2 := hS c4; rw [List.length_append]; show (cC P.2.2.2.2).length + 1 + 1 < 1500; omega)) m_X8_123 rfl (yM_o hQ) (by omega) (Nat.le_of_ble_eq_true rfl) (Nat.zero_le _) (Nat.zero_le _) dX8_factor_175 (fun M14 g14 => ?_)
            exact y_vret hC hr (Nat.zero_le _) (Nat.zero_le _) dX8_factor_178 (yV.mk (by rw [gFac, if_neg (Decidable.not_not.mpr c4), if_neg (by rw [(show tkK S P.1 = 264 from y1.2.1.2.trans (by decide))]; decide), if_neg (by rw [(show tkK S P.1 = 264 from y1.2.1.2.trans (by decide))]; decide), if_pos (show tkK S P.1 = 264 from y1.2.1.2.trans (by decide))]; exact g14.k (fun _ => by show _ = cC (P.2.2.2.2 ++ [_]); rw [cC_app, List.append_assoc]; rfl)))
        · have y0 := g2.resolve_right (fun w => c95 w.1)
          refine y_iconst (v := 0) hC dX8_factor_98 (by decide) ?_
          refine y_goto (tgt := 142) hC dX8_factor_99 (by decide) ?_
          refine y_istore_n hC dX8_factor_142 (by decide) rfl ?_
          refine y_iload_n hC dX8_factor_143 rfl ?_
          refine y_if_ge (tgt := 158) hC dX8_factor_144 (by decide) (fun c144 => ?_) (fun c144 => absurd (by decide) c144)
          refine y_iload_n hC dX8_factor_158 rfl ?_
          skip
          refine y_istore_n hC dX8_factor_159 (by decide) rfl ?_
          refine y_aload_n hC dX8_factor_160 rfl ?_
          refine y_iload_n hC dX8_factor_161 rfl ?_
          refine y_if_ge (tgt := 169) hC dX8_factor_162 (by decide) (fun c162 => ?_) (fun c162 => absurd (by decide) c162)
          refine y_iconst (v := 1) hC dX8_factor_169 (by decide) ?_
          refine y_callY hC (w_emit X.2.1 D z hQ y0.2.2 (fun w => by have h1 := hZ.bd c4; have h2 := hS c4; omega)) m_X8_123 rfl (yM_o hQ) (by omega) (Nat.le_of_ble_eq_true rfl) (Nat.zero_le _) (Nat.zero_le _) dX8_factor_170 (fun M15 g15 => ?_)
          refine y_aload_n hC dX8_factor_173 rfl ?_
          refine y_iload_n hC dX8_factor_174 rfl ?_
          refine y_callY hC (w_emit X.2.1 D z hQ g15 (fun w => by have h1 := hZ.bd c4; have h2 := hS c4; rw [List.length_append]; show (cC P.2.2.2.2).length + 1 + 1 < 1500; omega)) m_X8_123 rfl (yM_o hQ) (by omega) (Nat.le_of_ble_eq_true rfl) (Nat.zero_le _) (Nat.zero_le _) dX8_factor_175 (fun M16 g16 => ?_)
          exact y_vret hC hr (Nat.zero_le _) (Nat.zero_le _) dX8_factor_178 (yV.mk (by rw [gFac, if_neg (Decidable.not_not.mpr c4), if_neg (by rw [(show tkK S P.1 = 263 from y0.2.1.2.trans (by decide))]; decide), if_pos (show tkK S P.1 = 263 from y0.2.1.2.trans (by decide))]; exact g16.k (fun _ => by show _ = cC (P.2.2.2.2 ++ [_]); rw [cC_app, List.append_assoc]; rfl)))
      · refine y_iconst (v := (-1)) hC dX8_factor_85 (by decide) ?_
        refine y_goto (tgt := 142) hC dX8_factor_86 (by decide) ?_
        refine y_istore_n hC dX8_factor_142 (by decide) rfl ?_
        refine y_iload_n hC dX8_factor_143 rfl ?_
        refine y_if_ge (tgt := 158) hC dX8_factor_144 (by decide) (fun c144 => absurd c144 (by decide)) (fun c144 => ?_)
        skip
        refine y_aload_n hC dX8_factor_147 rfl ?_
        refine y_iconst (v := 0) hC dX8_factor_148 (by decide) ?_
        refine y_sipush (v := 9999) hC dX8_factor_149 (by decide) ?_
        refine y_callYn hC (w_num X.2.1 D z hQ hx hA1.1 (a := 0) (c := 9999) (lo := 0) (hi := 9999) (by decide) (by decide) (by decide) (by decide)) m_X8_120 rfl (yM_o hQ) (by omega) (Nat.le_of_ble_eq_true rfl) (Nat.zero_le _) (Nat.zero_le _) dX8_factor_152 (fun x17 M17 g17 => ?_)
        refine y_goto (tgt := 159) hC dX8_factor_155 (by decide) ?_
        skip
        refine y_istore_n hC dX8_factor_159 (by decide) rfl ?_
        refine y_aload_n hC dX8_factor_160 rfl ?_
        refine y_iload_n hC dX8_factor_161 rfl ?_
        refine y_if_ge (tgt := 169) hC dX8_factor_162 (by decide) (fun c162 => absurd c162 (by decide)) (fun c162 => ?_)
        refine y_iconst (v := 0) hC dX8_factor_165 (by decide) ?_
        refine y_goto (tgt := 170) hC dX8_factor_166 (by decide) ?_
        refine y_callY hC (w_emit X.2.1 D z hQ g17.1 (fun w => by have h1 := hZ.bd c4; have h2 := hS c4; omega)) m_X8_123 rfl (yM_o hQ) (by omega) (Nat.le_of_ble_eq_true rfl) (Nat.zero_le _) (Nat.zero_le _) dX8_factor_170 (fun M18 g18 => ?_)
        refine y_aload_n hC dX8_factor_173 rfl ?_
        refine y_iload_n hC dX8_factor_174 rfl ?_
        refine y_callY hC (w_emit X.2.1 D z hQ g18 (fun w => by have h1 := hZ.bd c4; have h2 := hS c4; rw [List.length_append]; show (cC P.2.2.2.2).length + 1 + 1 < 1500; omega)) m_X8_123 rfl (yM_o hQ) (by omega) (Nat.le_of_ble_eq_true rfl) (Nat.zero_le _) (Nat.zero_le _) dX8_factor_175 (fun M19 g19 => ?_)
        exact y_vret hC hr (Nat.zero_le _) (Nat.zero_le _) dX8_factor_178 (yV.mk (by
  by_cases kd : tkK S P.1 = 256
  · rw [gFac, if_neg (Decidable.not_not.mpr c4), if_pos kd]
    exact g19.k (fun w => by
      obtain ⟨w1, w2⟩ := g17.2 w
      obtain ⟨-, -, w3, w4, w5⟩ := gNum_0 (P := P) w
      show _ = cC ((gNum (tkK S) (tkV S) (tkS S) 0 9999 P).2.2.2.2.2 ++ [(gNum (tkK S) (tkV S) (tkS S) 0 9999 P).1])
      rw [cC_app, List.append_assoc, w3, w1]
      show _ ++ [0, (gNum (tkK S) (tkV S) (tkS S) 0 9999 P).1] = _ ++ cE (gNum (tkK S) (tkV S) (tkS S) 0 9999 P).1
      rw [cE_num (show (0 : Int32) ≤ (gNum (tkK S) (tkV S) (tkS S) 0 9999 P).1 from by rw [w4]; exact Int32.not_lt.mp (fun w6 => w5 (Or.inl w6)))]
      rfl)
  · exact absurd ((lx_dg hA1.2.2).mp c82) kd))
    · refine y_aload_n hC dX8_factor_19 rfl ?_
      refine y_getIR (w9 := 15) hC (by decide) (yM_o hQ) f_X8_98 rfl dX8_factor_20 ?_
      refine y_eqI (y := nI e) hA1.1.2.2.2.2.1 ?_
      refine y_iconst (v := nI 4) hC dX8_factor_23 (by decide) ?_
      refine y_icmp_ne (tgt := 37) hC dX8_factor_24 (by decide) (fun c24 => ?_) (fun c24 => absurd (nI_eq2 (b := 4) c24) (by omega))
      refine y_aload_n hC dX8_factor_37 rfl ?_
      refine y_dup hC dX8_factor_38 rfl ?_
      refine y_getIR (w9 := 15) hC (by decide) (yM_o hQ) f_X8_48 rfl dX8_factor_39 ?_
      refine y_eqI (y := nI a1) hA1.2.1 ?_
      refine y_iconst (v := nI 1) hC dX8_factor_42 (by decide) ?_
      refine y_iaddN hC dX8_factor_43 ?_
      refine y_putIR (w9 := 15) hC (by decide) (yM_o hQ) f_X8_48 rfl (Or.inl rfl) dX8_factor_44 ?_
      refine y_aload_n hC dX8_factor_47 rfl ?_
      refine y_dup hC dX8_factor_48 rfl ?_
      refine y_getIR (w9 := 15) hC (by decide) (yM_o hQ) f_X8_98 rfl dX8_factor_49 ?_
      refine y_eqI (y := nI e) ((show up2 M1 0 4 (nI (a1 + 1)) 0 14 = M1 0 14 from rfl).trans hA1.1.2.2.2.2.1) ?_
      refine y_iconst (v := nI 1) hC dX8_factor_52 (by decide) ?_
      refine y_iaddN hC dX8_factor_53 ?_
      refine y_putIR (w9 := 15) hC (by decide) (yM_o hQ) f_X8_98 rfl (Or.inl rfl) dX8_factor_54 ?_
      have hr2 := (hA1.sp (g := 40) (by decide) (by decide) c16).nst (e2 := e + 1)
      refine y_aload_n hC dX8_factor_57 rfl ?_
      refine y_callY hC (hsum X.2.1 _ _ hr2 (fun w => Nat.le_trans (hS w) (by show 3 * P.1 ≤ 3 * (P.1 + 1); omega))) m_X8_101 rfl (yM_o hQ) (by omega) (Nat.le_of_ble_eq_true rfl) (Nat.zero_le _) (Nat.zero_le _) dX8_factor_58 (fun M20 g20 => ?_)
      refine y_aload_n hC dX8_factor_61 rfl ?_
      refine y_bipush (v := 41) hC dX8_factor_62 (by decide) ?_
      refine y_callY hC (w_exp X.2.1 D z hQ hx g20 (c := 41) (g := 41) (by decide) (by decide) (by decide)) m_X8_104 rfl (yM_o hQ) (by omega) (Nat.le_of_ble_eq_true rfl) (Nat.zero_le _) (Nat.zero_le _) dX8_factor_64 (fun M21 g21 => ?_)
      refine y_aload_n hC dX8_factor_67 rfl ?_
      refine y_dup hC dX8_factor_68 rfl ?_
      refine y_getIR (w9 := 15) hC (by decide) (yM_o hQ) f_X8_98 rfl dX8_factor_69 ?_
      refine y_eqI (y := nI (e + 1)) g21.2.2.2.2.1 ?_
      refine y_iconst (v := 1) hC dX8_factor_72 (by decide) ?_
      refine y_isub hC dX8_factor_73 ?_
      refine y_eqI (y := nI e) (nI_pred e) ?_
      refine y_putIR (w9 := 15) hC (by decide) (yM_o hQ) f_X8_98 rfl (Or.inl rfl) dX8_factor_74 ?_
      have hf := (g21.nst (e2 := e)).k (K2 := cC (gTak (tkK S) (tkS S) 41 (sm (gStp P))).2.2.2.2) (fun _ => by rw [gTak_d])
      exact y_vret hC hr (Nat.zero_le _) (Nat.zero_le _) dX8_factor_77 (yV.mk (by rw [gFac, if_neg (Decidable.not_not.mpr c4), if_neg (by rw [(show tkK S P.1 = 40 from (lx_sg hA1.2.2 (g := 40) (by decide) (by decide)).mp c16)]; decide), if_neg (by rw [(show tkK S P.1 = 40 from (lx_sg hA1.2.2 (g := 40) (by decide) (by decide)).mp c16)]; decide), if_neg (by rw [(show tkK S P.1 = 40 from (lx_sg hA1.2.2 (g := 40) (by decide) (by decide)).mp c16)]; decide), if_neg (by rw [(show tkK S P.1 = 40 from (lx_sg hA1.2.2 (g := 40) (by decide) (by decide)).mp c16)]; decide), if_neg (by rw [(show tkK S P.1 = 40 from (lx_sg hA1.2.2 (g := 40) (by decide) (by decide)).mp c16)]; decide), if_pos (show tkK S P.1 = 40 from (lx_sg hA1.2.2 (g := 40) (by decide) (by decide)).mp c16)]; exact hf))
  · exact y_vret hC hr (Nat.zero_le _) (Nat.zero_le _) dX8_factor_7 (yV.mk (by rw [gFac, if_pos c4]; exact hZ))
