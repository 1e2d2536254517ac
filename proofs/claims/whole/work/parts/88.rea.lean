theorem rmK.n2 {b : Nat → Int32} {len : Nat} {S : List (Int32 × Nat × Int32)} {M0 : yI} {e : Nat} {K : List Int32} {M : yI} {P : yPs} (h : rmK b len S M0 e K M P) {nr : Nat} (hn : P.2.2.2.1 2 = nI nr) : M 3 2 = nI nr := by
  obtain ⟨n9, -, m1, m2⟩ := h.2.2.2.2.2.1
  exact m1.trans (m2.symm.trans hn)
/-- what the loop over the codes has found -/
def reaI (S : List (Int32 × Nat × Int32)) (nr : Nat) (P P1 P2 : yPs) (M : yI) (j : Nat) : Prop := (P2 = P1 ∧ (P1.2.1 = 0 → (∀ i, i < j → ¬ P1.2.2.2.1 (20 + 6 * i) = P1.2.2.2.1 (20 + 6 * nr)) ∧ M 0 13 = tkS S P.1)) ∨ (P2 = gErr (tkS S) (-3) P ∧ P1.2.1 = 0 ∧ ∃ i, i < nr ∧ P1.2.2.2.1 (20 + 6 * i) = P1.2.2.2.1 (20 + 6 * nr))
theorem rea_cod {b : Nat → Int32} {len : Nat} {S : List (Int32 × Nat × Int32)} {M0 : yI} {e : Nat} {K : List Int32} {M : yI} {P : yPs} {nr : Nat} {P2 : yPs} (h0 : P.2.1 = 0) (h : rmK b len S M0 e K M P2) (hi : reaI S nr P (gNu2 (tkK S) (tkV S) (tkS S) (20 + 6 * nr) 0 99 P) P2 M nr) : rmK b len S M0 e K M (gCod (tkK S) (tkV S) (tkS S) nr (20 + 6 * nr) P) := by
  have hd : ∀ i, i < nr → (gNu2 (tkK S) (tkV S) (tkS S) (20 + 6 * nr) 0 99 P).2.2.2.1 (20 + 6 * i) = P.2.2.2.1 (20 + 6 * i) := fun i hi => by rw [gNu2_dr, upd_ne9 (by omega)]
  have ha : (gNu2 (tkK S) (tkV S) (tkS S) (20 + 6 * nr) 0 99 P).2.2.2.1 (20 + 6 * nr) = (gNum (tkK S) (tkV S) (tkS S) 0 99 P).1 := by rw [gNu2_dr, upd_same]
  rcases hi with ⟨rfl, h2⟩ | ⟨rfl, h2, i, h3, h4⟩
  · by_cases q : (gNu2 (tkK S) (tkV S) (tkS S) (20 + 6 * nr) 0 99 P).2.1 = 0
    · obtain ⟨-, w2, w3, w4, w5⟩ := gNum_0 (P := P) q
      unfold gCod
      rw [if_neg]
      · exact h
      · rintro ⟨-, -, d⟩
        obtain ⟨i, d1, d2⟩ := (gDup_iff nr).mp d
        exact (h2 q).1 i d1 (by rw [hd i d1, ha, w4]; exact d2)
    · unfold gCod
      by_cases c : P.2.1 = 0 ∧ tkK S P.1 = 256 ∧ gDup P.2.2.2.1 (tkV S P.1) nr = true
      · rw [if_pos c]
        have e1 : (gNum (tkK S) (tkV S) (tkS S) 0 99 P).2 = gErr (tkS S) (-3) P := by
          have q : ¬ (gNum (tkK S) (tkV S) (tkS S) 0 99 P).2.2.1 = 0 := q
          unfold gNum at q ⊢
          rw [if_pos h0, if_pos c.2.1] at q ⊢
          by_cases w : tkV S P.1 < 0 ∨ ¬ tkV S P.1 ≤ 99
          · rw [if_pos w]
          · rw [if_neg w] at q; exact absurd h0 q
        refine rmK.pe (P2 := gErr (tkS S) (-3) P) h q ?_ ?_ ?_
        · show _ = (gNum (tkK S) (tkV S) (tkS S) 0 99 P).2.2.1; rw [e1]
        · show _ = (gNum (tkK S) (tkV S) (tkS S) 0 99 P).2.2.2.1; rw [e1]
        · rw [gNu2_dr, upd_ne9 (by omega), gErr_d]
      · rw [if_neg c]; exact h
  · obtain ⟨-, w2, w3, w4, w5⟩ := gNum_0 (P := P) h2
    unfold gCod
    rw [if_pos ⟨h0, w2, (gDup_iff nr).mpr ⟨i, h3, by rw [← hd i h3, h4, ha, w4]⟩⟩]
    exact h
set_option maxRecDepth 100000 in
set_option maxHeartbeats 4000000 in
theorem c_X8_readReason (l : Launch) (D : yD) (z : Nat) {n : Nat} {sh : yS} {I : yI} {L : yL} {q : Nat} {b : Nat → Int32} {len : Nat} {S : List (Int32 × Nat × Int32)} {M0 : yI} (hQ : yMod sh q) (hx : mX b len M0) (hSl : S.length ≤ 901) {e : Nat} {K : List Int32} {M : yI} {P : yPs} (hZ : rmK b len S M0 e K M (gStp P)) (h0 : P.2.1 = 0) {nr : Nat} (hr8 : nr ≤ 8) (hd2 : P.2.2.2.1 2 = nI nr) {o : Int32} (ho : o = tkS S P.1) : yM l D z yX8_readReason cX8_readReason 4 none 6 0 0 [.ref q, .int o] n sh (sR 15 I q M) L (yV (fun M2 => rmK b len S M0 e K M2 (gRea (tkK S) (tkV S) (tkS S) nr P)) n sh I q L) (yno) := by
  refine yM_of (by decide) (Nat.le_of_ble_eq_true rfl) rfl ?_
  intro X hC hr hnm hRc hRs htb
  have hC : yC X D z cX8_readReason RX8 4 6 := hC
  refine y_aload_n hC dX8_readReason_0 rfl ?_
  refine y_getR hC (yM_o hQ) (yM_r9 hQ) f_X8_20 rfl dX8_readReason_1 ?_
  refine y_iconst (v := nI 2) hC dX8_readReason_4 (by decide) ?_
  refine y_ialdRN (w9 := 15) hC (by decide) (yM_a9 hQ) (by decide) dX8_readReason_5 ?_
  refine y_eqI (y := nI nr) (hZ.n2 hd2) ?_
  refine y_bipush (v := nI 8) hC dX8_readReason_6 (by decide) ?_
  refine y_icmp_ne (tgt := 18) hC dX8_readReason_8 (by decide) (fun c8 => ?_) (fun c8 => ?_)
  · refine y_aload_n hC dX8_readReason_18 rfl ?_
    refine y_callV1 hC (w_isGood X.2.1 D z hQ hZ) m_X8_65 rfl (yM_o hQ) (by decide) (Nat.le_of_ble_eq_true rfl) (Nat.zero_le _) (Nat.zero_le _) dX8_readReason_19 ?_
    refine y_if_neB (tgt := 26) hC dX8_readReason_22 (by decide) (fun c22 => ?_) (fun c22 => absurd h0 c22)
    have hlt : nr < 8 := Nat.lt_of_le_of_ne hr8 (nI_ne2 c8)
    refine y_aload_n hC dX8_readReason_26 rfl ?_
    refine y_getR hC (yM_o hQ) (yM_r9 hQ) f_X8_20 rfl dX8_readReason_27 ?_
    refine y_iconst (v := nI 2) hC dX8_readReason_30 (by decide) ?_
    refine y_ialdRN (w9 := 15) hC (by decide) (yM_a9 hQ) (by decide) dX8_readReason_31 ?_
    refine y_eqI (y := nI nr) (hZ.n2 hd2) ?_
    refine y_callS1 hC (c_X8_reason X.2.1 D z (j := nr) rfl) m_X8_135 rfl (by decide) (Nat.le_of_ble_eq_true rfl) (Nat.zero_le _) (Nat.zero_le _) dX8_readReason_32 ?_
    refine y_istore_n hC dX8_readReason_35 (by decide) rfl ?_
    refine y_aload_n hC dX8_readReason_36 rfl ?_
    refine y_getR hC (yM_o hQ) (yM_r9 hQ) f_X8_20 rfl dX8_readReason_37 ?_
    refine y_iload_n hC dX8_readReason_40 rfl ?_
    refine y_aload_n hC dX8_readReason_41 rfl ?_
    refine y_iconst (v := 0) hC dX8_readReason_42 (by decide) ?_
    refine y_bipush (v := 99) hC dX8_readReason_43 (by decide) ?_
    refine y_callYn hC (w_num X.2.1 D z hQ hx hZ (a := 0) (c := 99) (lo := 0) (hi := 99) (by decide) (by decide) (by decide) (by decide)) m_X8_120 rfl (yM_o hQ) (by decide) (Nat.le_of_ble_eq_true rfl) (Nat.zero_le _) (Nat.zero_le _) dX8_readReason_45 (fun x1 M1 g1 => ?_)
    refine y_iastRN (w9 := 15) hC (by decide) (yM_a9 hQ) (by omega) dX8_readReason_48 ?_
    have bA : rmK b len S M0 e K (up2 M1 3 (20 + 6 * nr) x1) (gNu2 (tkK S) (tkV S) (tkS S) (20 + 6 * nr) 0 99 (gStp P)) := g1.1.put (by omega) (fun w => (g1.2 w).1)
    have dA : (gNu2 (tkK S) (tkV S) (tkS S) (20 + 6 * nr) 0 99 (gStp P)).2.2.2.1 2 = nI nr := by rw [gNu2_dr, upd_ne9 (by omega)]; exact hd2
    have iA : reaI S nr (gStp P) (gNu2 (tkK S) (tkV S) (tkS S) (20 + 6 * nr) 0 99 (gStp P)) (gNu2 (tkK S) (tkV S) (tkS S) (20 + 6 * nr) 0 99 (gStp P)) (up2 M1 3 (20 + 6 * nr) x1) 0 := Or.inl ⟨rfl, fun w => ⟨fun i hi => absurd hi (Nat.not_lt_zero _), (g1.2 w).2⟩⟩
    refine y_iconst (v := nI 0) hC dX8_readReason_49 (by decide) ?_
    refine y_istore_n hC dX8_readReason_50 (by decide) rfl ?_
    have lp51 : ∀ (f9 j : Nat) (M : yI) (P2 : yPs), j + f9 = nr → (rmK b len S M0 e K M P2 ∧ P2.2.2.2.1 2 = nI nr ∧ reaI S nr (gStp P) (gNu2 (tkK S) (tkV S) (tkS S) (20 + 6 * nr) 0 99 (gStp P)) P2 M j) → Y X D z 4 n sh (sR 15 I q M) L 0 0 (yEnd X D z (yV (fun M2 => rmK b len S M0 e K M2 (gRea (tkK S) (tkV S) (tkS S) nr P)) n sh I q L) (yno) 0 0) 51 [some (.ref q), some (.int o), some (.int (nI (20 + 6 * nr))), some (.int (nI j))] [] := by
      intro f9
      induction f9 with
      | zero =>
        intro j M P2 hm hi
        refine y_iload_n hC dX8_readReason_51 rfl ?_
        refine y_aload_n hC dX8_readReason_52 rfl ?_
        refine y_getR hC (yM_o hQ) (yM_r9 hQ) f_X8_20 rfl dX8_readReason_53 ?_
        refine y_iconst (v := nI 2) hC dX8_readReason_56 (by decide) ?_
        refine y_ialdRN (w9 := 15) hC (by decide) (yM_a9 hQ) (by decide) dX8_readReason_57 ?_
        refine y_eqI (y := nI nr) (hi.1.n2 hi.2.1) ?_
        refine y_icmp_ge (tgt := 102) hC dX8_readReason_58 (by decide) (fun c58 => ?_) (fun c58 => absurd (nI_le (by omega) (by omega)) c58)
        have ej : j = nr := by omega
        rw [ej] at hi
        obtain ⟨P1, hP1⟩ : ∃ q, q = gCod (tkK S) (tkV S) (tkS S) nr (20 + 6 * nr) (gStp P) := ⟨_, rfl⟩
        have dc1 : P1.2.2.2.1 2 = nI nr := by rw [hP1]; exact (gCod_dr (by omega)).trans hd2
        have b1 : rmK b len S M0 e K M P1 := by rw [hP1]; exact rea_cod h0 hi.1 hi.2.2
        refine y_aload_n hC dX8_readReason_102 rfl ?_
        refine y_getR hC (yM_o hQ) (yM_r9 hQ) f_X8_20 rfl dX8_readReason_103 ?_
        refine y_iload_n hC dX8_readReason_106 rfl ?_
        refine y_iconst (v := nI 1) hC dX8_readReason_107 (by decide) ?_
        refine y_iaddN hC dX8_readReason_108 ?_
        refine y_aload_n hC dX8_readReason_109 rfl ?_
        refine y_iconst (v := 0) hC dX8_readReason_110 (by decide) ?_
        refine y_sipush (v := 200) hC dX8_readReason_111 (by decide) ?_
        refine y_callYn hC (w_num X.2.1 D z hQ hx b1 (a := 0) (c := 200) (lo := 0) (hi := 200) (by decide) (by decide) (by decide) (by decide)) m_X8_120 rfl (yM_o hQ) (by decide) (Nat.le_of_ble_eq_true rfl) (Nat.zero_le _) (Nat.zero_le _) dX8_readReason_114 (fun x2 M2 g2 => ?_)
        refine y_iastRN (w9 := 15) hC (by decide) (yM_a9 hQ) (by omega) dX8_readReason_117 ?_
        obtain ⟨P2, hP2⟩ : ∃ q, q = gNu2 (tkK S) (tkV S) (tkS S) ((20 + 6 * nr) + 1) 0 200 P1 := ⟨_, rfl⟩
        have dc2 : P2.2.2.2.1 2 = nI nr := by rw [hP2]; exact (by rw [gNu2_dr, upd_ne9 (by omega)]; exact dc1)
        have b2 : rmK b len S M0 e K (up2 M2 3 ((20 + 6 * nr) + 1) x2) P2 := by rw [hP2]; exact g2.1.put (by omega) (fun w => (g2.2 w).1)
        refine y_aload_n hC dX8_readReason_118 rfl ?_
        refine y_getR hC (yM_o hQ) (yM_r9 hQ) f_X8_20 rfl dX8_readReason_119 ?_
        refine y_iload_n hC dX8_readReason_122 rfl ?_
        refine y_iconst (v := nI 2) hC dX8_readReason_123 (by decide) ?_
        refine y_iaddN hC dX8_readReason_124 ?_
        refine y_aload_n hC dX8_readReason_125 rfl ?_
        refine y_iconst (v := 1) hC dX8_readReason_126 (by decide) ?_
        refine y_bipush (v := 60) hC dX8_readReason_127 (by decide) ?_
        refine y_callYn hC (w_num X.2.1 D z hQ hx b2 (a := 1) (c := 60) (lo := 1) (hi := 60) (by decide) (by decide) (by decide) (by decide)) m_X8_120 rfl (yM_o hQ) (by decide) (Nat.le_of_ble_eq_true rfl) (Nat.zero_le _) (Nat.zero_le _) dX8_readReason_129 (fun x3 M3 g3 => ?_)
        refine y_iastRN (w9 := 15) hC (by decide) (yM_a9 hQ) (by omega) dX8_readReason_132 ?_
        obtain ⟨P3, hP3⟩ : ∃ q, q = gNu2 (tkK S) (tkV S) (tkS S) ((20 + 6 * nr) + 2) 1 60 P2 := ⟨_, rfl⟩
        have dc3 : P3.2.2.2.1 2 = nI nr := by rw [hP3]; exact (by rw [gNu2_dr, upd_ne9 (by omega)]; exact dc2)
        have b3 : rmK b len S M0 e K (up2 M3 3 ((20 + 6 * nr) + 2) x3) P3 := by rw [hP3]; exact g3.1.put (by omega) (fun w => (g3.2 w).1)
        refine y_aload_n hC dX8_readReason_133 rfl ?_
        refine y_getR hC (yM_o hQ) (yM_r9 hQ) f_X8_20 rfl dX8_readReason_134 ?_
        refine y_iload_n hC dX8_readReason_137 rfl ?_
        refine y_iconst (v := nI 3) hC dX8_readReason_138 (by decide) ?_
        refine y_iaddN hC dX8_readReason_139 ?_
        refine y_aload_n hC dX8_readReason_140 rfl ?_
        refine y_iconst (v := 1) hC dX8_readReason_141 (by decide) ?_
        refine y_bipush (v := 60) hC dX8_readReason_142 (by decide) ?_
        refine y_callYn hC (w_num X.2.1 D z hQ hx b3 (a := 1) (c := 60) (lo := 1) (hi := 60) (by decide) (by decide) (by decide) (by decide)) m_X8_120 rfl (yM_o hQ) (by decide) (Nat.le_of_ble_eq_true rfl) (Nat.zero_le _) (Nat.zero_le _) dX8_readReason_144 (fun x4 M4 g4 => ?_)
        refine y_iastRN (w9 := 15) hC (by decide) (yM_a9 hQ) (by omega) dX8_readReason_147 ?_
        obtain ⟨P4, hP4⟩ : ∃ q, q = gNu2 (tkK S) (tkV S) (tkS S) ((20 + 6 * nr) + 3) 1 60 P3 := ⟨_, rfl⟩
        have dc4 : P4.2.2.2.1 2 = nI nr := by rw [hP4]; exact (by rw [gNu2_dr, upd_ne9 (by omega)]; exact dc3)
        have b4 : rmK b len S M0 e K (up2 M4 3 ((20 + 6 * nr) + 3) x4) P4 := by rw [hP4]; exact g4.1.put (by omega) (fun w => (g4.2 w).1)
        refine y_aload_n hC dX8_readReason_148 rfl ?_
        refine y_getR hC (yM_o hQ) (yM_r9 hQ) f_X8_20 rfl dX8_readReason_149 ?_
        refine y_iload_n hC dX8_readReason_152 rfl ?_
        refine y_iconst (v := nI 4) hC dX8_readReason_153 (by decide) ?_
        refine y_iaddN hC dX8_readReason_154 ?_
        refine y_aload_n hC dX8_readReason_155 rfl ?_
        refine y_iconst (v := 0) hC dX8_readReason_156 (by decide) ?_
        refine y_sipush (v := 9999) hC dX8_readReason_157 (by decide) ?_
        refine y_callYn hC (w_num X.2.1 D z hQ hx b4 (a := 0) (c := 9999) (lo := 0) (hi := 9999) (by decide) (by decide) (by decide) (by decide)) m_X8_120 rfl (yM_o hQ) (by decide) (Nat.le_of_ble_eq_true rfl) (Nat.zero_le _) (Nat.zero_le _) dX8_readReason_160 (fun x5 M5 g5 => ?_)
        refine y_iastRN (w9 := 15) hC (by decide) (yM_a9 hQ) (by omega) dX8_readReason_163 ?_
        obtain ⟨P5, hP5⟩ : ∃ q, q = gNu2 (tkK S) (tkV S) (tkS S) ((20 + 6 * nr) + 4) 0 9999 P4 := ⟨_, rfl⟩
        have dc5 : P5.2.2.2.1 2 = nI nr := by rw [hP5]; exact (by rw [gNu2_dr, upd_ne9 (by omega)]; exact dc4)
        have b5 : rmK b len S M0 e K (up2 M5 3 ((20 + 6 * nr) + 4) x5) P5 := by rw [hP5]; exact g5.1.put (by omega) (fun w => (g5.2 w).1)
        refine y_aload_n hC dX8_readReason_164 rfl ?_
        refine y_getR hC (yM_o hQ) (yM_r9 hQ) f_X8_20 rfl dX8_readReason_165 ?_
        refine y_iload_n hC dX8_readReason_168 rfl ?_
        refine y_iconst (v := nI 5) hC dX8_readReason_169 (by decide) ?_
        refine y_iaddN hC dX8_readReason_170 ?_
        refine y_iconst (v := 0) hC dX8_readReason_171 (by decide) ?_
        refine y_iastRN (w9 := 15) hC (by decide) (yM_a9 hQ) (by omega) dX8_readReason_172 ?_
        obtain ⟨P6, hP6⟩ : ∃ q, q = gPut ((20 + 6 * nr) + 5) 0 P5 := ⟨_, rfl⟩
        have dc6 : P6.2.2.2.1 2 = nI nr := by rw [hP6]; exact ((upd_ne9 (d := P5.2.2.2.1) (a := (20 + 6 * nr) + 5) (v := 0) (by omega)).trans dc5)
        have b6 : rmK b len S M0 e K (up2 (up2 M5 3 ((20 + 6 * nr) + 4) x5) 3 ((20 + 6 * nr) + 5) 0) P6 := by rw [hP6]; exact b5.put (by omega) (fun _ => rfl)
        refine y_aload_n hC dX8_readReason_173 rfl ?_
        refine y_ldcS (tx := "needs") (j := 2) hC (by decide +kernel) dX8_readReason_174 ?_
        refine y_callYn hC (w_takeWord X.2.1 D z hQ hx b6 (w := 2) (by decide)) m_X8_110 rfl (yM_o hQ) (by decide) (Nat.le_of_ble_eq_true rfl) (Nat.zero_le _) (Nat.zero_le _) dX8_readReason_176 (fun x6 M6 g6 => ?_)
        refine y_if_eq (tgt := 189) hC dX8_readReason_179 (by decide) (fun c179 => ?_) (fun c179 => ?_)
        · have y3 := g6.resolve_left (fun w => absurd (w.1.symm.trans c179) (by decide))
          obtain ⟨P7, hP7⟩ : ∃ q, q = gNee (tkK S) (tkV S) (tkS S) ((20 + 6 * nr) + 5) P6 := ⟨_, rfl⟩
          have dc7 : P7.2.2.2.1 2 = nI nr := by rw [hP7]; exact (gNee_dr (by omega)).trans dc6
          have b7 : rmK b len S M0 e K M6 P7 := by rw [hP7, gNee, if_neg (fun w => y3.2.1 ⟨w.1, w.2.trans (by decide)⟩)]; exact y3.2.2
          refine y_aload_n hC dX8_readReason_189 rfl ?_
          refine y_getR hC (yM_o hQ) (yM_r9 hQ) f_X8_20 rfl dX8_readReason_190 ?_
          refine y_iconst (v := nI 2) hC dX8_readReason_193 (by decide) ?_
          refine y_dup2 hC dX8_readReason_194 rfl rfl ?_
          refine y_ialdRN (w9 := 15) hC (by decide) (yM_a9 hQ) (by decide) dX8_readReason_195 ?_
          refine y_eqI (y := nI nr) (b7.n2 dc7) ?_
          refine y_iconst (v := nI 1) hC dX8_readReason_196 (by decide) ?_
          refine y_iaddN hC dX8_readReason_197 ?_
          refine y_iastRN (w9 := 15) hC (by decide) (yM_a9 hQ) (by decide) dX8_readReason_198 ?_
          exact y_vret hC hr (Nat.zero_le _) (Nat.zero_le _) dX8_readReason_199 (yV.mk (by rw [gRea, if_neg (by omega), ← hP1, ← hP2, ← hP3, ← hP4, ← hP5, ← hP6, ← hP7]; exact b7.cnt dc7 (by omega)))
        · have y2 := g6.resolve_right (fun w => c179 w.1)
          refine y_aload_n hC dX8_readReason_182 rfl ?_
          refine y_iload_n hC dX8_readReason_183 rfl ?_
          refine y_iconst (v := nI 5) hC dX8_readReason_184 (by decide) ?_
          refine y_iaddN hC dX8_readReason_185 ?_
          refine y_callY hC (c_X8_readNeeds X.2.1 D z hQ hx hSl (j := (20 + 6 * nr) + 5) (by omega) y2.2.2 y2.2.1.1 (by rw [hP6]; exact upd_same (d := P5.2.2.2.1) (j := (20 + 6 * nr) + 5) (v := 0))) m_X8_140 rfl (yM_o hQ) (by decide) (Nat.le_of_ble_eq_true rfl) (Nat.zero_le _) (Nat.zero_le _) dX8_readReason_186 (fun M7 g7 => ?_)
          obtain ⟨P7, hP7⟩ : ∃ q, q = gNee (tkK S) (tkV S) (tkS S) ((20 + 6 * nr) + 5) P6 := ⟨_, rfl⟩
          have dc7 : P7.2.2.2.1 2 = nI nr := by rw [hP7]; exact (gNee_dr (by omega)).trans dc6
          have b7 : rmK b len S M0 e K M7 P7 := by rw [hP7, gNee, if_pos ⟨y2.2.1.1, y2.2.1.2.trans (by decide)⟩, ← gT1_0 (by rw [hP6]; exact upd_same (d := P5.2.2.2.1) (j := (20 + 6 * nr) + 5) (v := 0))]; exact g7
          refine y_aload_n hC dX8_readReason_189 rfl ?_
          refine y_getR hC (yM_o hQ) (yM_r9 hQ) f_X8_20 rfl dX8_readReason_190 ?_
          refine y_iconst (v := nI 2) hC dX8_readReason_193 (by decide) ?_
          refine y_dup2 hC dX8_readReason_194 rfl rfl ?_
          refine y_ialdRN (w9 := 15) hC (by decide) (yM_a9 hQ) (by decide) dX8_readReason_195 ?_
          refine y_eqI (y := nI nr) (b7.n2 dc7) ?_
          refine y_iconst (v := nI 1) hC dX8_readReason_196 (by decide) ?_
          refine y_iaddN hC dX8_readReason_197 ?_
          refine y_iastRN (w9 := 15) hC (by decide) (yM_a9 hQ) (by decide) dX8_readReason_198 ?_
          exact y_vret hC hr (Nat.zero_le _) (Nat.zero_le _) dX8_readReason_199 (yV.mk (by rw [gRea, if_neg (by omega), ← hP1, ← hP2, ← hP3, ← hP4, ← hP5, ← hP6, ← hP7]; exact b7.cnt dc7 (by omega)))
      | succ f9 ih =>
        intro j M P2 hm hi
        refine y_iload_n hC dX8_readReason_51 rfl ?_
        refine y_aload_n hC dX8_readReason_52 rfl ?_
        refine y_getR hC (yM_o hQ) (yM_r9 hQ) f_X8_20 rfl dX8_readReason_53 ?_
        refine y_iconst (v := nI 2) hC dX8_readReason_56 (by decide) ?_
        refine y_ialdRN (w9 := 15) hC (by decide) (yM_a9 hQ) (by decide) dX8_readReason_57 ?_
        refine y_eqI (y := nI nr) (hi.1.n2 hi.2.1) ?_
        refine y_icmp_ge (tgt := 102) hC dX8_readReason_58 (by decide) (fun c58 => absurd c58 (nI_ge (by omega) (by omega))) (fun c58 => ?_)
        refine y_aload_n hC dX8_readReason_61 rfl ?_
        refine y_callV1 hC (w_isGood X.2.1 D z hQ hi.1) m_X8_65 rfl (yM_o hQ) (by decide) (Nat.le_of_ble_eq_true rfl) (Nat.zero_le _) (Nat.zero_le _) dX8_readReason_62 ?_
        refine y_if_eqB (tgt := 96) hC dX8_readReason_65 (by decide) (fun c65 => ?_) (fun c65 => ?_)
        · refine y_iincN hC dX8_readReason_96 rfl rfl (by decide) rfl ?_
          refine y_goto (tgt := 51) hC dX8_readReason_99 (by decide) ?_
          exact ih (j + 1) _ P2 (by omega) ⟨hi.1, hi.2.1, hi.2.2.elim (fun w => Or.inl ⟨w.1, fun w2 => absurd w2 (by rw [← w.1]; exact c65)⟩) (fun w => Or.inr w)⟩
        · have eP : P2 = gNu2 (tkK S) (tkV S) (tkS S) (20 + 6 * nr) 0 99 (gStp P) := by
            rcases hi.2.2 with w | w
            · exact w.1
            · rw [w.1] at c65; exact absurd c65 (gErr_e (by decide))
          have hI := (hi.2.2.resolve_right (fun w => by rw [w.1] at c65; exact gErr_e (by decide) c65)).2 (by rw [← eP]; exact c65)
          have rd := (hi.1.2.2.2.2.2.2.2 c65).1
          refine y_aload_n hC dX8_readReason_68 rfl ?_
          refine y_getR hC (yM_o hQ) (yM_r9 hQ) f_X8_20 rfl dX8_readReason_69 ?_
          refine y_iload_n hC dX8_readReason_72 rfl ?_
          refine y_callS1 hC (c_X8_reason X.2.1 D z (j := j) rfl) m_X8_135 rfl (by decide) (Nat.le_of_ble_eq_true rfl) (Nat.zero_le _) (Nat.zero_le _) dX8_readReason_73 ?_
          refine y_ialdRN (w9 := 15) hC (by decide) (yM_a9 hQ) (by omega) dX8_readReason_76 ?_
          refine y_aload_n hC dX8_readReason_77 rfl ?_
          refine y_getR hC (yM_o hQ) (yM_r9 hQ) f_X8_20 rfl dX8_readReason_78 ?_
          refine y_iload_n hC dX8_readReason_81 rfl ?_
          refine y_ialdRN (w9 := 15) hC (by decide) (yM_a9 hQ) (by omega) dX8_readReason_82 ?_
          refine y_icmp_ne (tgt := 96) hC dX8_readReason_83 (by decide) (fun c83 => ?_) (fun c83 => ?_)
          · refine y_iincN hC dX8_readReason_96 rfl rfl (by decide) rfl ?_
            refine y_goto (tgt := 51) hC dX8_readReason_99 (by decide) ?_
            exact ih (j + 1) _ P2 (by omega) ⟨hi.1, hi.2.1, Or.inl ⟨eP, fun w => ⟨fun i hi2 => by
              by_cases ei : i = j
              · subst ei
                rw [← eP, ← rd _ (by omega) (by omega), ← rd _ (by omega) (by omega)]; exact c83
              · exact hI.1 i (by omega), hI.2⟩⟩⟩
          · refine y_aload_n hC dX8_readReason_86 rfl ?_
            refine y_bipush (v := (-3)) hC dX8_readReason_87 (by decide) ?_
            refine y_aload_n hC dX8_readReason_89 rfl ?_
            refine y_getIR (w9 := 15) hC (by decide) (yM_o hQ) f_X8_90 rfl dX8_readReason_90 ?_
            refine y_callV0 hC (c_X8_report X.2.1 D z hQ) m_X8_82 rfl (yM_o hQ) (by decide) (Nat.le_of_ble_eq_true rfl) (Nat.zero_le _) (Nat.zero_le _) dX8_readReason_93 ?_
            refine y_iincN hC dX8_readReason_96 rfl rfl (by decide) rfl ?_
            refine y_goto (tgt := 51) hC dX8_readReason_99 (by decide) ?_
            have hE := hi.1.rpb c65 h0 (P := (gStp P)) (by rw [hi.2.1]; exact hd2.symm) (c := -3) (by decide) hI.2
            exact ih (j + 1) _ (gErr (tkS S) (-3) (gStp P)) (by omega) ⟨hE, by rw [gErr_d]; exact hd2, Or.inr ⟨rfl, by rw [← eP]; exact c65, j, by omega, by rw [← eP, ← rd _ (by omega) (by omega), ← rd _ (by omega) (by omega)]; exact c83⟩⟩
    exact lp51 nr 0 _ _ (by omega) ⟨bA, dA, iA⟩
  · refine y_aload_n hC dX8_readReason_11 rfl ?_
    refine y_bipush (v := (-4)) hC dX8_readReason_12 (by decide) ?_
    refine y_iload_n hC dX8_readReason_14 rfl ?_
    refine y_callV0 hC (c_X8_report X.2.1 D z hQ) m_X8_82 rfl (yM_o hQ) (by decide) (Nat.le_of_ble_eq_true rfl) (Nat.zero_le _) (Nat.zero_le _) dX8_readReason_15 ?_
    have hE := hZ.rpb h0 h0 rfl (c := -4) (by decide) ho
    refine y_aload_n hC dX8_readReason_18 rfl ?_
    refine y_callV1 hC (w_isGood X.2.1 D z hQ hE) m_X8_65 rfl (yM_o hQ) (by decide) (Nat.le_of_ble_eq_true rfl) (Nat.zero_le _) (Nat.zero_le _) dX8_readReason_19 ?_
    refine y_if_neB (tgt := 26) hC dX8_readReason_22 (by decide) (fun c22 => absurd c22 (gErr_e (by decide))) (fun c22 => ?_)
    exact y_vret hC hr (Nat.zero_le _) (Nat.zero_le _) dX8_readReason_25 (yV.mk (by rw [gRea, if_pos (by have := nI_eq2 (b := 8) c8; omega)]; exact hE))
