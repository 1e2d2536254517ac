set_option maxRecDepth 100000 in
set_option maxHeartbeats 4000000 in
theorem c_X8_term (l : Launch) (D : yD) (z : Nat) {n : Nat} {sh : yS} {I : yI} {L : yL} {q : Nat} {b : Nat → Int32} {len : Nat} {S : List (Int32 × Nat × Int32)} {M0 : yI} (hQ : yMod sh q) (hx : mX b len M0) (hSl : S.length ≤ 901) {par : yPs → yPs} {dp e : Nat} (hsub : ∀ l, yMM l D z n sh I L q b len S M0 e yX8_factor cX8_factor 4 dp (gFac (tkK S) (tkV S) (tkS S) par)) (hadv : gAd2 1 (gFac (tkK S) (tkV S) (tkS S) par)) (hdp : 5 ≤ dp) (M : yI) (P : yPs) (hZ : rmK b len S M0 e (cC P.2.2.2.2) M P) (hS : P.2.1 = 0 → 2 * (cC P.2.2.2.2).length ≤ 3 * P.1) : yM l D z yX8_term cX8_term 2 none (dp + 1) 0 0 [.ref q] n sh (sR 15 I q M) L (yV (fun M2 => rmK b len S M0 e (cC (gTer (tkK S) (tkV S) (tkS S) par S.length P).2.2.2.2) M2 (gTer (tkK S) (tkV S) (tkS S) par S.length P)) n sh I q L) (yno) := by
  refine yM_of (by decide) (Nat.le_of_ble_eq_true rfl) rfl ?_
  intro X hC hr hnm hRc hRs htb
  have hC : yC X D z cX8_term RX8 2 (dp + 1) := hC
  refine y_aload_n hC dX8_term_0 rfl ?_
  refine y_callY hC (hsub X.2.1 _ _ hZ hS) m_X8_126 rfl (yM_o hQ) (by omega) (Nat.le_of_ble_eq_true rfl) (Nat.zero_le _) (Nat.zero_le _) dX8_term_1 (fun M1 g1 => ?_)
  have lp4 : ∀ (f9 j9 : Nat) (M : yI) (P2 : yPs) (l1 : Option Value), (P2.2.1 = 0 → S.length ≤ P2.1 + f9) → (rmK b len S M0 e (cC P2.2.2.2.2) M P2 ∧ (P2.2.1 = 0 → 2 * (cC P2.2.2.2.2).length ≤ 3 * P2.1 + 1) ∧ gLop (tkK S) 42 47 (-7) (-8) (gFac (tkK S) (tkV S) (tkS S) par) f9 P2 = gTer (tkK S) (tkV S) (tkS S) par S.length P) → Y X D z 2 n sh (sR 15 I q M) L 0 0 (yEnd X D z (yV (fun M2 => rmK b len S M0 e (cC (gTer (tkK S) (tkV S) (tkS S) par S.length P).2.2.2.2) M2 (gTer (tkK S) (tkV S) (tkS S) par S.length P)) n sh I q L) (yno) 0 0) 4 [some (.ref q), l1] [] := by
    intro f9
    induction f9 with
    | zero =>
      intro j9 M P2 l1 hm hi
      refine y_aload_n hC dX8_term_4 rfl ?_
      refine y_callV1 hC (w_isGood X.2.1 D z hQ hi.1) m_X8_65 rfl (yM_o hQ) (by omega) (Nat.le_of_ble_eq_true rfl) (Nat.zero_le _) (Nat.zero_le _) dX8_term_5 ?_
      refine y_if_eqB (tgt := 74) hC dX8_term_8 (by decide) (fun c8 => ?_) (fun c8 => absurd (hi.1.bd c8) (by have := hm c8; omega))
      exact y_vret hC hr (Nat.zero_le _) (Nat.zero_le _) dX8_term_74 (yV.mk (by first | (rw [← hi.2.2, gLop, if_neg (fun w => c8 w.1)]; exact hi.1) | (rw [← hi.2.2]; exact hi.1)))
    | succ f9 ih =>
      intro j9 M P2 l1 hm hi
      refine y_aload_n hC dX8_term_4 rfl ?_
      refine y_callV1 hC (w_isGood X.2.1 D z hQ hi.1) m_X8_65 rfl (yM_o hQ) (by omega) (Nat.le_of_ble_eq_true rfl) (Nat.zero_le _) (Nat.zero_le _) dX8_term_5 ?_
      refine y_if_eqB (tgt := 74) hC dX8_term_8 (by decide) (fun c8 => ?_) (fun c8 => ?_)
      · exact y_vret hC hr (Nat.zero_le _) (Nat.zero_le _) dX8_term_74 (yV.mk (by first | (rw [← hi.2.2, gLop, if_neg (fun w => c8 w.1)]; exact hi.1) | (rw [← hi.2.2]; exact hi.1)))
      · refine y_aload_n hC dX8_term_11 rfl ?_
        refine y_callYn hC (w_next X.2.1 D z hQ hx hi.1 c8) m_X8_69 rfl (yM_o hQ) (by omega) (Nat.le_of_ble_eq_true rfl) (Nat.zero_le _) (Nat.zero_le _) dX8_term_12 (fun x2 M2 g2 => ?_)
        obtain ⟨a2, rfl, hA2⟩ := g2
        refine y_bipush (v := 42) hC dX8_term_15 (by decide) ?_
        refine y_icmp_eq (tgt := 29) hC dX8_term_17 (by decide) (fun c17 => ?_) (fun c17 => ?_)
        · refine y_aload_n hC dX8_term_29 rfl ?_
          refine y_callV1 hC (w_nextA X.2.1 D z hQ hx hA2) m_X8_69 rfl (yM_o hQ) (by omega) (Nat.le_of_ble_eq_true rfl) (Nat.zero_le _) (Nat.zero_le _) dX8_term_30 ?_
          refine y_bipush (v := 42) hC dX8_term_33 (by decide) ?_
          refine y_icmp_ne (tgt := 42) hC dX8_term_35 (by decide) (fun c35 => absurd c17 c35) (fun c35 => ?_)
          refine y_iconst (v := 1) hC dX8_term_38 (by decide) ?_
          refine y_goto (tgt := 43) hC dX8_term_39 (by decide) ?_
          refine y_istore_n hC dX8_term_43 (by decide) rfl ?_
          refine y_aload_n hC dX8_term_44 rfl ?_
          refine y_dup hC dX8_term_45 rfl ?_
          refine y_getIR (w9 := 15) hC (by decide) (yM_o hQ) f_X8_48 rfl dX8_term_46 ?_
          refine y_eqI (y := nI a2) hA2.2.1 ?_
          refine y_iconst (v := nI 1) hC dX8_term_49 (by decide) ?_
          refine y_iaddN hC dX8_term_50 ?_
          refine y_putIR (w9 := 15) hC (by decide) (yM_o hQ) f_X8_48 rfl (Or.inl rfl) dX8_term_51 ?_
          refine y_aload_n hC dX8_term_54 rfl ?_
          refine y_callY hC (hsub X.2.1 _ _ (hA2.sp (g := 42) (by decide) (by decide) c17) (fun w => by have := hi.2.1 w; show _ ≤ 3 * (P2.1 + 1); exact Nat.le_trans this (by omega))) m_X8_126 rfl (yM_o hQ) (by omega) (Nat.le_of_ble_eq_true rfl) (Nat.zero_le _) (Nat.zero_le _) dX8_term_55 (fun M3 g3 => ?_)
          refine y_aload_n hC dX8_term_58 rfl ?_
          refine y_iload_n hC dX8_term_59 rfl ?_
          refine y_if_eq (tgt := 67) hC dX8_term_60 (by decide) (fun c60 => absurd c60 (by decide)) (fun c60 => ?_)
          refine y_iconst (v := 4) hC dX8_term_63 (by decide) ?_
          refine y_goto (tgt := 68) hC dX8_term_64 (by decide) ?_
          refine y_callY hC (w_emit X.2.1 D z hQ g3 (fun w => by have h1 := g3.bd w; have h2 := hadv.nx hi.2.1 w; omega)) m_X8_123 rfl (yM_o hQ) (by omega) (Nat.le_of_ble_eq_true rfl) (Nat.zero_le _) (Nat.zero_le _) dX8_term_68 (fun M4 g4 => ?_)
          refine y_goto (tgt := 4) hC dX8_term_71 (by decide) ?_
          exact ih 0 _ (gAdd (-7) ((gFac (tkK S) (tkV S) (tkS S) par) (gStp P2))) _ (fun w => by have h2 := hadv.nx hi.2.1 w; have h3 := hm c8; show S.length ≤ ((gFac (tkK S) (tkV S) (tkS S) par) (gStp P2)).1 + f9; omega) ⟨g4.k (fun _ => by show _ = cC (_ ++ [_]); rw [cC_app]; rfl), fun w => by
            have h2 := hadv.nx hi.2.1 w
            show 2 * (cC (((gFac (tkK S) (tkV S) (tkS S) par) (gStp P2)).2.2.2.2 ++ [(-7 : Int32)])).length ≤ 3 * ((gFac (tkK S) (tkV S) (tkS S) par) (gStp P2)).1 + 1
            rw [cC_app, List.length_append, show (cE (-7)).length = 1 from by decide]
            omega, by rw [← hi.2.2, gLop, if_pos ⟨c8, Or.inl (show tkK S P2.1 = 42 from (lx_sg hA2.2.2 (g := 42) (by decide) (by decide)).mp c17)⟩, if_pos (show tkK S P2.1 = 42 from (lx_sg hA2.2.2 (g := 42) (by decide) (by decide)).mp c17)]⟩
        · skip
          refine y_aload_n hC dX8_term_20 rfl ?_
          refine y_callV1 hC (w_nextA X.2.1 D z hQ hx hA2) m_X8_69 rfl (yM_o hQ) (by omega) (Nat.le_of_ble_eq_true rfl) (Nat.zero_le _) (Nat.zero_le _) dX8_term_21 ?_
          refine y_bipush (v := 47) hC dX8_term_24 (by decide) ?_
          refine y_icmp_ne (tgt := 74) hC dX8_term_26 (by decide) (fun c26 => ?_) (fun c26 => ?_)
          · exact y_vret hC hr (Nat.zero_le _) (Nat.zero_le _) dX8_term_74 (yV.mk (by rw [← hi.2.2, gLop, if_neg (fun w => w.2.elim (fun w => c17 ((lx_sg hA2.2.2 (g := 42) (by decide) (by decide)).mpr w)) (fun w => c26 ((lx_sg hA2.2.2 (g := 47) (by decide) (by decide)).mpr w)))]; exact hA2.1))
          · refine y_aload_n hC dX8_term_29 rfl ?_
            refine y_callV1 hC (w_nextA X.2.1 D z hQ hx hA2) m_X8_69 rfl (yM_o hQ) (by omega) (Nat.le_of_ble_eq_true rfl) (Nat.zero_le _) (Nat.zero_le _) dX8_term_30 ?_
            refine y_bipush (v := 42) hC dX8_term_33 (by decide) ?_
            refine y_icmp_ne (tgt := 42) hC dX8_term_35 (by decide) (fun c35 => ?_) (fun c35 => absurd c35 c17)
            refine y_iconst (v := 0) hC dX8_term_42 (by decide) ?_
            refine y_istore_n hC dX8_term_43 (by decide) rfl ?_
            refine y_aload_n hC dX8_term_44 rfl ?_
            refine y_dup hC dX8_term_45 rfl ?_
            refine y_getIR (w9 := 15) hC (by decide) (yM_o hQ) f_X8_48 rfl dX8_term_46 ?_
            refine y_eqI (y := nI a2) hA2.2.1 ?_
            refine y_iconst (v := nI 1) hC dX8_term_49 (by decide) ?_
            refine y_iaddN hC dX8_term_50 ?_
            refine y_putIR (w9 := 15) hC (by decide) (yM_o hQ) f_X8_48 rfl (Or.inl rfl) dX8_term_51 ?_
            refine y_aload_n hC dX8_term_54 rfl ?_
            refine y_callY hC (hsub X.2.1 _ _ (hA2.sp (g := 47) (by decide) (by decide) c26) (fun w => by have := hi.2.1 w; show _ ≤ 3 * (P2.1 + 1); exact Nat.le_trans this (by omega))) m_X8_126 rfl (yM_o hQ) (by omega) (Nat.le_of_ble_eq_true rfl) (Nat.zero_le _) (Nat.zero_le _) dX8_term_55 (fun M5 g5 => ?_)
            refine y_aload_n hC dX8_term_58 rfl ?_
            refine y_iload_n hC dX8_term_59 rfl ?_
            refine y_if_eq (tgt := 67) hC dX8_term_60 (by decide) (fun c60 => ?_) (fun c60 => absurd rfl c60)
            refine y_iconst (v := 5) hC dX8_term_67 (by decide) ?_
            refine y_callY hC (w_emit X.2.1 D z hQ g5 (fun w => by have h1 := g5.bd w; have h2 := hadv.nx hi.2.1 w; omega)) m_X8_123 rfl (yM_o hQ) (by omega) (Nat.le_of_ble_eq_true rfl) (Nat.zero_le _) (Nat.zero_le _) dX8_term_68 (fun M6 g6 => ?_)
            refine y_goto (tgt := 4) hC dX8_term_71 (by decide) ?_
            exact ih 0 _ (gAdd (-8) ((gFac (tkK S) (tkV S) (tkS S) par) (gStp P2))) _ (fun w => by have h2 := hadv.nx hi.2.1 w; have h3 := hm c8; show S.length ≤ ((gFac (tkK S) (tkV S) (tkS S) par) (gStp P2)).1 + f9; omega) ⟨g6.k (fun _ => by show _ = cC (_ ++ [_]); rw [cC_app]; rfl), fun w => by
              have h2 := hadv.nx hi.2.1 w
              show 2 * (cC (((gFac (tkK S) (tkV S) (tkS S) par) (gStp P2)).2.2.2.2 ++ [(-8 : Int32)])).length ≤ 3 * ((gFac (tkK S) (tkV S) (tkS S) par) (gStp P2)).1 + 1
              rw [cC_app, List.length_append, show (cE (-8)).length = 1 from by decide]
              omega, by rw [← hi.2.2, gLop, if_pos ⟨c8, Or.inr (show tkK S P2.1 = 47 from (lx_sg hA2.2.2 (g := 47) (by decide) (by decide)).mp c26)⟩, if_neg (show ¬ tkK S P2.1 = 42 from fun w => c17 ((lx_sg hA2.2.2 (g := 42) (by decide) (by decide)).mpr w))]⟩
  exact lp4 S.length 0 _ _ none (fun _ => by omega) ⟨g1, (fun w => by have h1 := hadv P w; have h2 := hS h1.1; omega), rfl⟩
set_option maxRecDepth 100000 in
set_option maxHeartbeats 4000000 in
theorem c_X8_sum (l : Launch) (D : yD) (z : Nat) {n : Nat} {sh : yS} {I : yI} {L : yL} {q : Nat} {b : Nat → Int32} {len : Nat} {S : List (Int32 × Nat × Int32)} {M0 : yI} (hQ : yMod sh q) (hx : mX b len M0) (hSl : S.length ≤ 901) {par : yPs → yPs} {dp e : Nat} (hsub : ∀ l, yMM l D z n sh I L q b len S M0 e yX8_term cX8_term 2 dp (gTer (tkK S) (tkV S) (tkS S) par S.length)) (hadv : gAd2 1 (gTer (tkK S) (tkV S) (tkS S) par S.length)) (hdp : 5 ≤ dp) (M : yI) (P : yPs) (hZ : rmK b len S M0 e (cC P.2.2.2.2) M P) (hS : P.2.1 = 0 → 2 * (cC P.2.2.2.2).length ≤ 3 * P.1) : yM l D z yX8_sum cX8_sum 2 none (dp + 1) 0 0 [.ref q] n sh (sR 15 I q M) L (yV (fun M2 => rmK b len S M0 e (cC (gSum (tkK S) (tkV S) (tkS S) par S.length P).2.2.2.2) M2 (gSum (tkK S) (tkV S) (tkS S) par S.length P)) n sh I q L) (yno) := by
  refine yM_of (by decide) (Nat.le_of_ble_eq_true rfl) rfl ?_
  intro X hC hr hnm hRc hRs htb
  have hC : yC X D z cX8_sum RX8 2 (dp + 1) := hC
  refine y_aload_n hC dX8_sum_0 rfl ?_
  refine y_callY hC (hsub X.2.1 _ _ hZ hS) m_X8_129 rfl (yM_o hQ) (by omega) (Nat.le_of_ble_eq_true rfl) (Nat.zero_le _) (Nat.zero_le _) dX8_sum_1 (fun M1 g1 => ?_)
  have lp4 : ∀ (f9 j9 : Nat) (M : yI) (P2 : yPs) (l1 : Option Value), (P2.2.1 = 0 → S.length ≤ P2.1 + f9) → (rmK b len S M0 e (cC P2.2.2.2.2) M P2 ∧ (P2.2.1 = 0 → 2 * (cC P2.2.2.2.2).length ≤ 3 * P2.1 + 1) ∧ gLop (tkK S) 43 45 (-5) (-6) (gTer (tkK S) (tkV S) (tkS S) par S.length) f9 P2 = gSum (tkK S) (tkV S) (tkS S) par S.length P) → Y X D z 2 n sh (sR 15 I q M) L 0 0 (yEnd X D z (yV (fun M2 => rmK b len S M0 e (cC (gSum (tkK S) (tkV S) (tkS S) par S.length P).2.2.2.2) M2 (gSum (tkK S) (tkV S) (tkS S) par S.length P)) n sh I q L) (yno) 0 0) 4 [some (.ref q), l1] [] := by
    intro f9
    induction f9 with
    | zero =>
      intro j9 M P2 l1 hm hi
      refine y_aload_n hC dX8_sum_4 rfl ?_
      refine y_callV1 hC (w_isGood X.2.1 D z hQ hi.1) m_X8_65 rfl (yM_o hQ) (by omega) (Nat.le_of_ble_eq_true rfl) (Nat.zero_le _) (Nat.zero_le _) dX8_sum_5 ?_
      refine y_if_eqB (tgt := 74) hC dX8_sum_8 (by decide) (fun c8 => ?_) (fun c8 => absurd (hi.1.bd c8) (by have := hm c8; omega))
      exact y_vret hC hr (Nat.zero_le _) (Nat.zero_le _) dX8_sum_74 (yV.mk (by first | (rw [← hi.2.2, gLop, if_neg (fun w => c8 w.1)]; exact hi.1) | (rw [← hi.2.2]; exact hi.1)))
    | succ f9 ih =>
      intro j9 M P2 l1 hm hi
      refine y_aload_n hC dX8_sum_4 rfl ?_
      refine y_callV1 hC (w_isGood X.2.1 D z hQ hi.1) m_X8_65 rfl (yM_o hQ) (by omega) (Nat.le_of_ble_eq_true rfl) (Nat.zero_le _) (Nat.zero_le _) dX8_sum_5 ?_
      refine y_if_eqB (tgt := 74) hC dX8_sum_8 (by decide) (fun c8 => ?_) (fun c8 => ?_)
      · exact y_vret hC hr (Nat.zero_le _) (Nat.zero_le _) dX8_sum_74 (yV.mk (by first | (rw [← hi.2.2, gLop, if_neg (fun w => c8 w.1)]; exact hi.1) | (rw [← hi.2.2]; exact hi.1)))
      · refine y_aload_n hC dX8_sum_11 rfl ?_
        refine y_callYn hC (w_next X.2.1 D z hQ hx hi.1 c8) m_X8_69 rfl (yM_o hQ) (by omega) (Nat.le_of_ble_eq_true rfl) (Nat.zero_le _) (Nat.zero_le _) dX8_sum_12 (fun x2 M2 g2 => ?_)
        obtain ⟨a2, rfl, hA2⟩ := g2
        refine y_bipush (v := 43) hC dX8_sum_15 (by decide) ?_
        refine y_icmp_eq (tgt := 29) hC dX8_sum_17 (by decide) (fun c17 => ?_) (fun c17 => ?_)
        · refine y_aload_n hC dX8_sum_29 rfl ?_
          refine y_callV1 hC (w_nextA X.2.1 D z hQ hx hA2) m_X8_69 rfl (yM_o hQ) (by omega) (Nat.le_of_ble_eq_true rfl) (Nat.zero_le _) (Nat.zero_le _) dX8_sum_30 ?_
          refine y_bipush (v := 43) hC dX8_sum_33 (by decide) ?_
          refine y_icmp_ne (tgt := 42) hC dX8_sum_35 (by decide) (fun c35 => absurd c17 c35) (fun c35 => ?_)
          refine y_iconst (v := 1) hC dX8_sum_38 (by decide) ?_
          refine y_goto (tgt := 43) hC dX8_sum_39 (by decide) ?_
          refine y_istore_n hC dX8_sum_43 (by decide) rfl ?_
          refine y_aload_n hC dX8_sum_44 rfl ?_
          refine y_dup hC dX8_sum_45 rfl ?_
          refine y_getIR (w9 := 15) hC (by decide) (yM_o hQ) f_X8_48 rfl dX8_sum_46 ?_
          refine y_eqI (y := nI a2) hA2.2.1 ?_
          refine y_iconst (v := nI 1) hC dX8_sum_49 (by decide) ?_
          refine y_iaddN hC dX8_sum_50 ?_
          refine y_putIR (w9 := 15) hC (by decide) (yM_o hQ) f_X8_48 rfl (Or.inl rfl) dX8_sum_51 ?_
          refine y_aload_n hC dX8_sum_54 rfl ?_
          refine y_callY hC (hsub X.2.1 _ _ (hA2.sp (g := 43) (by decide) (by decide) c17) (fun w => by have := hi.2.1 w; show _ ≤ 3 * (P2.1 + 1); exact Nat.le_trans this (by omega))) m_X8_129 rfl (yM_o hQ) (by omega) (Nat.le_of_ble_eq_true rfl) (Nat.zero_le _) (Nat.zero_le _) dX8_sum_55 (fun M3 g3 => ?_)
          refine y_aload_n hC dX8_sum_58 rfl ?_
          refine y_iload_n hC dX8_sum_59 rfl ?_
          refine y_if_eq (tgt := 67) hC dX8_sum_60 (by decide) (fun c60 => absurd c60 (by decide)) (fun c60 => ?_)
          refine y_iconst (v := 2) hC dX8_sum_63 (by decide) ?_
          refine y_goto (tgt := 68) hC dX8_sum_64 (by decide) ?_
          refine y_callY hC (w_emit X.2.1 D z hQ g3 (fun w => by have h1 := g3.bd w; have h2 := hadv.nx hi.2.1 w; omega)) m_X8_123 rfl (yM_o hQ) (by omega) (Nat.le_of_ble_eq_true rfl) (Nat.zero_le _) (Nat.zero_le _) dX8_sum_68 (fun M4 g4 => ?_)
          refine y_goto (tgt := 4) hC dX8_sum_71 (by decide) ?_
          exact ih 0 _ (gAdd (-5) ((gTer (tkK S) (tkV S) (tkS S) par S.length) (gStp P2))) _ (fun w => by have h2 := hadv.nx hi.2.1 w; have h3 := hm c8; show S.length ≤ ((gTer (tkK S) (tkV S) (tkS S) par S.length) (gStp P2)).1 + f9; omega) ⟨g4.k (fun _ => by show _ = cC (_ ++ [_]); rw [cC_app]; rfl), fun w => by
            have h2 := hadv.nx hi.2.1 w
            show 2 * (cC (((gTer (tkK S) (tkV S) (tkS S) par S.length) (gStp P2)).2.2.2.2 ++ [(-5 : Int32)])).length ≤ 3 * ((gTer (tkK S) (tkV S) (tkS S) par S.length) (gStp P2)).1 + 1
            rw [cC_app, List.length_append, show (cE (-5)).length = 1 from by decide]
            omega, by rw [← hi.2.2, gLop, if_pos ⟨c8, Or.inl (show tkK S P2.1 = 43 from (lx_sg hA2.2.2 (g := 43) (by decide) (by decide)).mp c17)⟩, if_pos (show tkK S P2.1 = 43 from (lx_sg hA2.2.2 (g := 43) (by decide) (by decide)).mp c17)]⟩
        · skip
          refine y_aload_n hC dX8_sum_20 rfl ?_
          refine y_callV1 hC (w_nextA X.2.1 D z hQ hx hA2) m_X8_69 rfl (yM_o hQ) (by omega) (Nat.le_of_ble_eq_true rfl) (Nat.zero_le _) (Nat.zero_le _) dX8_sum_21 ?_
          refine y_bipush (v := 45) hC dX8_sum_24 (by decide) ?_
          refine y_icmp_ne (tgt := 74) hC dX8_sum_26 (by decide) (fun c26 => ?_) (fun c26 => ?_)
          · exact y_vret hC hr (Nat.zero_le _) (Nat.zero_le _) dX8_sum_74 (yV.mk (by rw [← hi.2.2, gLop, if_neg (fun w => w.2.elim (fun w => c17 ((lx_sg hA2.2.2 (g := 43) (by decide) (by decide)).mpr w)) (fun w => c26 ((lx_sg hA2.2.2 (g := 45) (by decide) (by decide)).mpr w)))]; exact hA2.1))
          · refine y_aload_n hC dX8_sum_29 rfl ?_
            refine y_callV1 hC (w_nextA X.2.1 D z hQ hx hA2) m_X8_69 rfl (yM_o hQ) (by omega) (Nat.le_of_ble_eq_true rfl) (Nat.zero_le _) (Nat.zero_le _) dX8_sum_30 ?_
            refine y_bipush (v := 43) hC dX8_sum_33 (by decide) ?_
            refine y_icmp_ne (tgt := 42) hC dX8_sum_35 (by decide) (fun c35 => ?_) (fun c35 => absurd c35 c17)
            refine y_iconst (v := 0) hC dX8_sum_42 (by decide) ?_
            refine y_istore_n hC dX8_sum_43 (by decide) rfl ?_
            refine y_aload_n hC dX8_sum_44 rfl ?_
            refine y_dup hC dX8_sum_45 rfl ?_
            refine y_getIR (w9 := 15) hC (by decide) (yM_o hQ) f_X8_48 rfl dX8_sum_46 ?_
            refine y_eqI (y := nI a2) hA2.2.1 ?_
            refine y_iconst (v := nI 1) hC dX8_sum_49 (by decide) ?_
            refine y_iaddN hC dX8_sum_50 ?_
            refine y_putIR (w9 := 15) hC (by decide) (yM_o hQ) f_X8_48 rfl (Or.inl rfl) dX8_sum_51 ?_
            refine y_aload_n hC dX8_sum_54 rfl ?_
            refine y_callY hC (hsub X.2.1 _ _ (hA2.sp (g := 45) (by decide) (by decide) c26) (fun w => by have := hi.2.1 w; show _ ≤ 3 * (P2.1 + 1); exact Nat.le_trans this (by omega))) m_X8_129 rfl (yM_o hQ) (by omega) (Nat.le_of_ble_eq_true rfl) (Nat.zero_le _) (Nat.zero_le _) dX8_sum_55 (fun M5 g5 => ?_)
            refine y_aload_n hC dX8_sum_58 rfl ?_
            refine y_iload_n hC dX8_sum_59 rfl ?_
            refine y_if_eq (tgt := 67) hC dX8_sum_60 (by decide) (fun c60 => ?_) (fun c60 => absurd rfl c60)
            refine y_iconst (v := 3) hC dX8_sum_67 (by decide) ?_
            refine y_callY hC (w_emit X.2.1 D z hQ g5 (fun w => by have h1 := g5.bd w; have h2 := hadv.nx hi.2.1 w; omega)) m_X8_123 rfl (yM_o hQ) (by omega) (Nat.le_of_ble_eq_true rfl) (Nat.zero_le _) (Nat.zero_le _) dX8_sum_68 (fun M6 g6 => ?_)
            refine y_goto (tgt := 4) hC dX8_sum_71 (by decide) ?_
            exact ih 0 _ (gAdd (-6) ((gTer (tkK S) (tkV S) (tkS S) par S.length) (gStp P2))) _ (fun w => by have h2 := hadv.nx hi.2.1 w; have h3 := hm c8; show S.length ≤ ((gTer (tkK S) (tkV S) (tkS S) par S.length) (gStp P2)).1 + f9; omega) ⟨g6.k (fun _ => by show _ = cC (_ ++ [_]); rw [cC_app]; rfl), fun w => by
              have h2 := hadv.nx hi.2.1 w
              show 2 * (cC (((gTer (tkK S) (tkV S) (tkS S) par S.length) (gStp P2)).2.2.2.2 ++ [(-6 : Int32)])).length ≤ 3 * ((gTer (tkK S) (tkV S) (tkS S) par S.length) (gStp P2)).1 + 1
              rw [cC_app, List.length_append, show (cE (-6)).length = 1 from by decide]
              omega, by rw [← hi.2.2, gLop, if_pos ⟨c8, Or.inr (show tkK S P2.1 = 45 from (lx_sg hA2.2.2 (g := 45) (by decide) (by decide)).mp c26)⟩, if_neg (show ¬ tkK S P2.1 = 43 from fun w => c17 ((lx_sg hA2.2.2 (g := 43) (by decide) (by decide)).mpr w))]⟩
  exact lp4 S.length 0 _ _ none (fun _ => by omega) ⟨g1, (fun w => by have h1 := hadv P w; have h2 := hS h1.1; omega), rfl⟩
theorem m_sum_all (D : yD) (z : Nat) {n : Nat} {sh : yS} {I : yI} {L : yL} {q : Nat} {b : Nat → Int32} {len : Nat} {S : List (Int32 × Nat × Int32)} {M0 : yI} (hQ : yMod sh q) (hx : mX b len M0) (hSl : S.length ≤ 901) : ∀ d e, e + d = 4 → ∀ l, yMM l D z n sh I L q b len S M0 e yX8_sum cX8_sum 2 (3 * d + 8) (gSum (tkK S) (tkV S) (tkS S) (gPar (tkK S) (tkV S) (tkS S) S.length d) S.length)
  | 0, e, h, l => by
    have : e = 4 := h
    subst this
    have e0 : gPar (tkK S) (tkV S) (tkS S) S.length 0 = gErr (tkS S) (-5) := funext fun P => rfl
    have h1 : ∀ l, yMM l D z n sh I L q b len S M0 4 yX8_factor cX8_factor 4 6 (gFac (tkK S) (tkV S) (tkS S) (gPar (tkK S) (tkV S) (tkS S) S.length 0)) := fun l M P a c => by
      rw [e0]; exact c_X8_factorD l D z hQ hx hSl M P a c
    have h2 := fun l => c_X8_term l D z (n := n) (I := I) (L := L) hQ hx hSl h1 (gFac_ad2 (gPar_ad2 0)) (by decide)
    exact c_X8_sum l D z hQ hx hSl h2 (gTer_ad2 (gPar_ad2 0)) (by decide)
  | d + 1, e, h, l => by
    have ih := m_sum_all D z (n := n) (I := I) (L := L) hQ hx hSl d (e + 1) (by omega)
    have e0 : gPar (tkK S) (tkV S) (tkS S) S.length (d + 1) = fun P => gTak (tkK S) (tkS S) 41 (gSum (tkK S) (tkV S) (tkS S) (gPar (tkK S) (tkV S) (tkS S) S.length d) S.length (gStp P)) := funext fun P => rfl
    have h1 : ∀ l, yMM l D z n sh I L q b len S M0 e yX8_factor cX8_factor 4 (3 * d + 8 + 1) (gFac (tkK S) (tkV S) (tkS S) (gPar (tkK S) (tkV S) (tkS S) S.length (d + 1))) := fun l M P a c => by
      rw [e0]; exact c_X8_factorS l D z hQ hx hSl ih (by omega) (by omega) M P a c
    have h2 := fun l => c_X8_term l D z (n := n) (I := I) (L := L) hQ hx hSl h1 (gFac_ad2 (gPar_ad2 (d + 1))) (by omega)
    rw [show 3 * (d + 1) + 8 = 3 * d + 8 + 1 + 1 + 1 by omega]
    exact c_X8_sum l D z hQ hx hSl h2 (gTer_ad2 (gPar_ad2 (d + 1))) (by omega)
