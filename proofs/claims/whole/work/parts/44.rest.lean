/-- k days pass: the book, and how many disputes have ended -/
def paS (σ : yI) (it : Nat → Int32) (len : Nat) (B : yI) (nd : Nat) : Nat → yI × Int32
  | 0 => (B, 0)
  | k + 1 => ((daS σ it len (paS σ it len B nd k).1 nd).1, (paS σ it len B nd k).2 + (daS σ it len (paS σ it len B nd k).1 nd).2)
theorem paS_row {σ : yI} {it : Nat → Int32} {len : Nat} {B : yI} {nd r : Nat} (h1 : 3 ≤ r) (h2 : r ≤ 11) : ∀ k, (paS σ it len B nd k).1 r = B r
  | 0 => rfl
  | k + 1 => (daS_row h1 h2 nd).trans (paS_row h1 h2 k)
theorem paS_0 {σ : yI} {it : Nat → Int32} {len : Nat} {B : yI} {nd j : Nat} (h : j ≠ 4) (h1 : j ≠ 1) : ∀ k, (paS σ it len B nd k).1 0 j = B 0 j
  | 0 => rfl
  | k + 1 => (daS_0 h h1 nd).trans (paS_0 h h1 k)
theorem paS_s {σ : yI} {it : Nat → Int32} {len : Nat} {B C : yI} {nd j : Nat} {s : Int32} (hi : (C, s) = paS σ it len B nd j) : ((daS σ it len C nd).1, s + (daS σ it len C nd).2) = paS σ it len B nd (j + 1) := by
  show _ = ((daS σ it len (paS σ it len B nd j).1 nd).1, (paS σ it len B nd j).2 + (daS σ it len (paS σ it len B nd j).1 nd).2)
  rw [← hi]
set_option maxRecDepth 100000 in
set_option maxHeartbeats 4000000 in
theorem c_X7_pass (l : Launch) (D : yD) (z : Nat) {n : Nat} {sh : yS} {I : yI} {L : yL} {c at0 su f m len : Nat} {it : Nat → Int32} {σ B : yI} {ni nm nr np nd : Nat} (hP : yPro sh I c at0) (hB : yBook sh (c + 15 + 14 * at0) su) (hE : yEra sh I su f m len it σ) (hV : yVal σ B ni nm nr np nd) (hBg : B = gR I (c + 15 + 14 * at0)) {u i1 : Nat} {K Bn : yI} (hi1 : i1 = (c + 15 + 14 * ((at0 + 1) % 9))) (hK : K = hsI I (c + 3) ((at0 + 1) % 9) (min (u + 1) 8)) (hBn : Bn = cpB B (gR I i1)) (hRg : ∀ j, j < 9 → ∃ s, yBook sh (c + 15 + 14 * j) s) (hu : I (c + 3) 2 = nI u) (hu8 : u ≤ 8) {x : Int32} {dy : Nat} (hdy : (¬ x < 1 ∧ x ≤ 100) → x = nI dy ∧ dy ≤ 100) : yM l D z yX7_pass cX7_pass 5 (some .int) 10 2 12 [.ref c, .int x] n sh (sR 14 I (c + 15 + 14 * at0) B) L (yOr (oA (¬ x < 1 ∧ x ≤ 100) (oS (B 0 1 + x ≤ 9999) (.ok (paS σ it len Bn nd dy).2))) n (upr sh i1 0 (some su)) K f i1 ((paS σ it len Bn nd dy).1) L) (yOx (oA (¬ x < 1 ∧ x ≤ 100) (oS (B 0 1 + x ≤ 9999) (.ok (paS σ it len Bn nd dy).2))) n sh I (c + 15 + 14 * at0) B L) := by
  refine yM_of (by decide) (Nat.le_of_ble_eq_true rfl) rfl ?_
  intro X hC hr hnm hRc hRs htb
  have hC : yC X D z cX7_pass RX7 5 10 := hC
  have hS := hE.1
  have hF := hE.2.1
  have hσ := hE.sig hB
  have hφ := hE.phi hB
  have hac : yScr f I I := yScr.rf
  obtain ⟨v0, v1, v6, ni4, nm4, nr8, vnp, np24, vnd, nd20, vP, vD⟩ := hV
  refine y_iload_n hC dX7_pass_0 rfl ?_
  refine y_iconst (v := 1) hC dX7_pass_1 (by decide) ?_
  refine y_bipush (v := 100) hC dX7_pass_2 (by decide) ?_
  refine y_callS0k hC (c_X7_checkRange X.2.1 D z) m_X7_153 rfl (by decide) (Nat.le_of_ble_eq_true rfl) ⟨by rw [hRc]; decide, by rw [hRs]; decide⟩ dX7_pass_4 (fun n2 hn2 hN => yx_out hC htb (by decide) (by decide) ⟨oA_f hN, hn2, rfl, rfl, rfl⟩) (fun hy => ?_)
  obtain ⟨rfl, hdl⟩ := hdy hy
  refine y_aload_n hC dX7_pass_7 rfl ?_
  refine y_getR hC (yC_o hP.1) (yC_r1 hP.1) f_X7_24 rfl dX7_pass_8 ?_
  refine y_callV1 hC (c_present_at X.2.1 D z hP) m_X7_90 rfl (yH_o hP.2.1) (by decide) (Nat.le_of_ble_eq_true rfl) (by rw [hRc]; decide) (by rw [hRs]; decide) dX7_pass_11 ?_
  refine y_getIR (w9 := 14) hC (by decide) (yB_o hB) f_X7_106 rfl dX7_pass_14 ?_
  refine y_iload_n hC dX7_pass_17 rfl ?_
  refine y_iadd hC dX7_pass_18 ?_
  refine y_sipush (v := 9999) hC dX7_pass_19 (by decide) ?_
  refine y_icmp_le (tgt := 35) hC dX7_pass_22 (by decide) (fun c22 => ?_) (fun c22 => ?_)
  · refine y_aload_n hC dX7_pass_35 rfl ?_
    refine y_getR hC (yC_o hP.1) (yC_r1 hP.1) f_X7_24 rfl dX7_pass_36 ?_
    refine y_callV1 hC (c_begin_at X.2.1 D z hP hB hBg hi1 hK hBn hRg hu hu8) m_X7_74 rfl (yH_o hP.2.1) (by decide) (Nat.le_of_ble_eq_true rfl) (by rw [hRc]; decide) (by rw [hRs]; decide) dX7_pass_39 ?_
    obtain ⟨s9, hT9⟩ := hRg ((at0 + 1) % 9) (Nat.mod_lt _ (by decide))
    have hB1 : yBook (upr sh i1 0 (some su)) i1 su := by subst hi1; exact hT9.up0
    have hE1 : yEra (upr sh i1 0 (some su)) K su f m len it σ := by subst hi1; subst hK; exact hE.beg hT9 (yH_o hP.2.1)
    have hV1 : yVal σ Bn ni nm nr np nd := by subst hBn; exact (yVal.cp ⟨v0, v1, v6, ni4, nm4, nr8, vnp, np24, vnd, nd20, vP, vD⟩)
    have hS := hE1.1
    have hF := hE1.2.1
    have hσ := hE1.sig hB1
    have hφ := hE1.phi hB1
    have hac : yScr f K K := yScr.rf
    obtain ⟨-, -, -, -, -, -, wnp, -, wnd, -, wP, wD⟩ := hV1
    refine y_astore_n hC dX7_pass_42 (by decide) rfl ?_
    refine y_iconst (v := nI 0) hC dX7_pass_43 (by decide) ?_
    refine y_istore_n hC dX7_pass_44 (by decide) rfl ?_
    refine y_iconst (v := nI 0) hC dX7_pass_45 (by decide) ?_
    refine y_istore hC dX7_pass_46 (by decide) rfl ?_
    have lp48 : ∀ (f9 j : Nat) (C : yI) (s : Int32) (J : yI) (hac : yScr f K J) (hσ : ySig J i1 su σ) (hφ : yPhi J i1 su f len m it), j + f9 = dy → (C, s) = paS σ it len Bn nd j → Y X D z 5 n (upr sh i1 0 (some su)) (sR 14 J i1 C) L 1 6 (yEnd X D z (yOr (oA (¬ nI dy < 1 ∧ nI dy ≤ 100) (oS (B 0 1 + nI dy ≤ 9999) (.ok (paS σ it len Bn nd dy).2))) n (upr sh i1 0 (some su)) K f i1 ((paS σ it len Bn nd dy).1) L) (yOx (oA (¬ nI dy < 1 ∧ nI dy ≤ 100) (oS (B 0 1 + nI dy ≤ 9999) (.ok (paS σ it len Bn nd dy).2))) n sh I (c + 15 + 14 * at0) B L) 2 12) 48 [some (.ref c), some (.int (nI dy)), some (.ref i1), some (.int s), some (.int (nI j))] [] := by
      intro f9
      induction f9 with
      | zero =>
        intro j C s J hac hσ hφ hm hi
        have hCe : C = (paS σ it len Bn nd j).1 := by rw [← hi]
        have hrw : ∀ r, 3 ≤ r → r ≤ 11 → C r = Bn r := fun r h1 h2 => by rw [hCe]; exact paS_row h1 h2 j
        have hndC : C 0 10 = nI nd := by rw [hCe, paS_0 (by decide) (by decide)]; exact wnd
        have q7 : ∀ k, k < nd → vp_in (C 7 k) 24 := fun k hk => by rw [hrw 7 (by decide) (by decide)]; exact vp_mono (wD k hk).1 np24
        have q8 : ∀ k, k < nd → vp_in (C 8 k) 8 := fun k hk => by rw [hrw 8 (by decide) (by decide)]; exact vp_mono (wD k hk).2 nr8
        have q4 : ∀ k, k < nd → vp_in (C 4 (tn (C 7 k))) 4 := fun k hk => by rw [hrw 7 (by decide) (by decide), hrw 4 (by decide) (by decide)]; exact (wP _ (tn_lt (wD k hk).1)).2
        have q3 : ∀ k, k < nd → vp_in (C 3 (tn (C 7 k))) 4 := fun k hk => by rw [hrw 7 (by decide) (by decide), hrw 3 (by decide) (by decide)]; exact (wP _ (tn_lt (wD k hk).1)).1
        refine y_iload hC dX7_pass_48 rfl ?_
        refine y_iload_n hC dX7_pass_50 rfl ?_
        refine y_icmp_ge (tgt := 67) hC dX7_pass_51 (by decide) (fun c51 => ?_) (fun c51 => absurd (nI_le (by omega) (by omega)) c51)
        refine y_iload_n hC dX7_pass_67 rfl ?_
        exact y_iret hC hr rfl (by decide) (by decide) dX7_pass_68 (by obtain rfl : j = dy := (by omega); rw [← hi]; exact ⟨_, (oA_t hy).trans ((oS_t c22).trans rfl), rfl, rfl, rfl, ⟨_, hac, rfl⟩, rfl⟩)
      | succ f9 ih =>
        intro j C s J hac hσ hφ hm hi
        have hCe : C = (paS σ it len Bn nd j).1 := by rw [← hi]
        have hrw : ∀ r, 3 ≤ r → r ≤ 11 → C r = Bn r := fun r h1 h2 => by rw [hCe]; exact paS_row h1 h2 j
        have hndC : C 0 10 = nI nd := by rw [hCe, paS_0 (by decide) (by decide)]; exact wnd
        have q7 : ∀ k, k < nd → vp_in (C 7 k) 24 := fun k hk => by rw [hrw 7 (by decide) (by decide)]; exact vp_mono (wD k hk).1 np24
        have q8 : ∀ k, k < nd → vp_in (C 8 k) 8 := fun k hk => by rw [hrw 8 (by decide) (by decide)]; exact vp_mono (wD k hk).2 nr8
        have q4 : ∀ k, k < nd → vp_in (C 4 (tn (C 7 k))) 4 := fun k hk => by rw [hrw 7 (by decide) (by decide), hrw 4 (by decide) (by decide)]; exact (wP _ (tn_lt (wD k hk).1)).2
        have q3 : ∀ k, k < nd → vp_in (C 3 (tn (C 7 k))) 4 := fun k hk => by rw [hrw 7 (by decide) (by decide), hrw 3 (by decide) (by decide)]; exact (wP _ (tn_lt (wD k hk).1)).1
        refine y_iload hC dX7_pass_48 rfl ?_
        refine y_iload_n hC dX7_pass_50 rfl ?_
        refine y_icmp_ge (tgt := 67) hC dX7_pass_51 (by decide) (fun c51 => absurd c51 (nI_ge (by omega) (by omega))) (fun c51 => ?_)
        refine y_iload_n hC dX7_pass_54 rfl ?_
        refine y_aload_n hC dX7_pass_55 rfl ?_
        refine y_callV1s hC (c_X0_endDay X.2.1 D z hB1 hS hσ hF hφ (nd := nd) hndC nd20 q7 q8 q4 q3) m_X7_229 rfl (yB_o hB1) (by decide) (Nat.le_of_ble_eq_true rfl) (by rw [hRc]; decide) (by rw [hRs]; decide) dX7_pass_56 (fun K56 hsc56 => ?_)
        have hac := hac.trans hsc56
        have hσ := hσ.scr hφ hsc56
        have hφ := hφ.scr hsc56
        refine y_iadd hC dX7_pass_59 ?_
        refine y_istore_n hC dX7_pass_60 (by decide) rfl ?_
        refine y_iincN hC dX7_pass_61 rfl rfl (by decide) rfl ?_
        refine y_goto (tgt := 48) hC dX7_pass_64 (by decide) ?_
        exact ih (j + 1) _ _ _ hac hσ hφ (by omega) (paS_s hi)
    exact lp48 dy 0 _ _ _ hac hσ hφ (Nat.zero_add _) rfl
  · exact y_throw hC th_is (j := 18) (text := "the days are used up") (by decide +kernel) htb (by decide) (Nat.le_of_ble_eq_true rfl) hRc hRs (by decide) (by decide) dX7_pass_25 dX7_pass_28 dX7_pass_29 dX7_pass_31 dX7_pass_34 (fun n2 hn2 => ⟨(oA_t hy).trans (oS_f c22), hn2, rfl, rfl, rfl⟩)
set_option maxRecDepth 100000 in
set_option maxHeartbeats 4000000 in
theorem c_X7_errorOffset (l : Launch) (D : yD) (z : Nat) {n : Nat} {sh : yS} {I : yI} {L : yL} {c : Nat} (hc : yCha sh c) : yM l D z yX7_errorOffset cX7_errorOffset 1 (some .int) 0 0 0 [.ref c] n sh I L (yF (some (.int (I c 2))) n sh I L) (yno) := by
  refine yM_of (by decide) (Nat.le_of_ble_eq_true rfl) rfl ?_
  intro X hC hr hnm hRc hRs htb
  have hC : yC X D z cX7_errorOffset RX7 1 0 := hC
  refine y_aload_n hC dX7_errorOffset_0 rfl ?_
  refine y_getI hC (yC_o hc) f_X7_28 rfl dX7_errorOffset_1 ?_
  exact y_iret hC hr rfl (Nat.zero_le _) (Nat.zero_le _) dX7_errorOffset_4 (yF.mk rfl)
set_option maxRecDepth 100000 in
set_option maxHeartbeats 4000000 in
theorem c_X7_undo (l : Launch) (D : yD) (z : Nat) {n : Nat} {sh : yS} {I : yI} {L : yL} {c at0 u : Nat} (hP : yPro sh I c at0) (hu : I (c + 3) 2 = nI u) (hu8 : u ≤ 8) : yM l D z yX7_undo cX7_undo 1 (some .int) 1 0 0 [.ref c] n sh I L (fun v n2 sh2 I2 L2 => (u = 0 ∧ v = some (.int (-1)) ∧ n2 = n ∧ sh2 = sh ∧ I2 = I ∧ L2 = L) ∨ (u ≠ 0 ∧ v = some (.int (nI (u - 1))) ∧ n2 = n ∧ sh2 = sh ∧ I2 = hsI I (c + 3) ((at0 + 8) % 9) (u - 1) ∧ L2 = L)) (yno) := by
  refine yM_of (by decide) (Nat.le_of_ble_eq_true rfl) rfl ?_
  intro X hC hr hnm hRc hRs htb
  have hC : yC X D z cX7_undo RX7 1 1 := hC
  refine y_aload_n hC dX7_undo_0 rfl ?_
  refine y_getR hC (yC_o hP.1) (yC_r1 hP.1) f_X7_24 rfl dX7_undo_1 ?_
  refine y_callV hC (c_X2_stepBack X.2.1 D z hP.2.1 hP.2.2.2 hP.2.2.1 hu hu8) m_X7_232 rfl (yH_o hP.2.1) (by decide) (Nat.le_of_ble_eq_true rfl) ⟨Nat.zero_le _, Nat.zero_le _⟩ dX7_undo_4 (fun _ _ _ _ _ h => h.elim) (fun v n2 sh2 I2 L2 h => ?_)
  rcases h with ⟨h0, h1, h2, h3, h4, h5⟩ | ⟨h0, h1, h2, h3, h4, h5⟩
  · subst h1 h2 h3 h4 h5
    exact y_iret hC hr rfl (Nat.zero_le _) (Nat.zero_le _) dX7_undo_7 (Or.inl ⟨h0, rfl, rfl, rfl, rfl, rfl⟩)
  · subst h1 h2 h3 h4 h5
    exact y_iret hC hr rfl (Nat.zero_le _) (Nat.zero_le _) dX7_undo_7 (Or.inr ⟨h0, rfl, rfl, rfl, rfl, rfl⟩)
theorem wordB_l {B : yI} {len : Nat} {w : Int32} : wordB B len w 0 1 = nI (len + 4) := by simp [wordB, up2, va_up, upd]; try rfl
def appB (B : yI) (len : Nat) (w0 w1 w2 w3 w4 : Int32) : yI := wordB (wordB (wordB (wordB (wordB B (len + 0) w0) (len + 4) w1) (len + 8) w2) (len + 12) w3) (len + 16) w4
set_option maxRecDepth 100000 in
set_option maxHeartbeats 4000000 in
theorem c_X7_append (l : Launch) (D : yD) (z : Nat) {n : Nat} {sh : yS} {I : yI} {L : yL} {c : Nat} {B : yI} (hc : yCha sh c) (hI : yInp sh (c + 1)) {len : Nat} (hl : B 0 1 = nI len) (hlen : len ≤ 900) {w0 w1 w2 w3 w4 : Int32} : yM l D z yX7_append cX7_append 6 (some .int) 1 0 0 [.ref c, .int w0, .int w1, .int w2, .int w3, .int w4] n sh (sR 2 I (c + 1) B) L (fun v n2 sh2 I2 L2 => (len + 20 ≤ 900 ∧ v = some (.int (nI (len + 20))) ∧ n2 = n ∧ sh2 = sh ∧ I2 = sR 2 I (c + 1) (appB B len w0 w1 w2 w3 w4) ∧ L2 = L) ∨ (¬ len + 20 ≤ 900 ∧ v = some (.int (-1)) ∧ n2 = n ∧ sh2 = sh ∧ I2 = sR 2 I (c + 1) B ∧ L2 = L)) (yno) := by
  refine yM_of (by decide) (Nat.le_of_ble_eq_true rfl) rfl ?_
  intro X hC hr hnm hRc hRs htb
  have hC : yC X D z cX7_append RX7 6 1 := hC
  have hl0 : B 0 1 = nI (len + 0) := hl
  have hl1 : wordB B (len + 0) w0 0 1 = nI (len + 4) := wordB_l
  have hl2 : wordB (wordB B (len + 0) w0) (len + 4) w1 0 1 = nI (len + 8) := wordB_l
  have hl3 : wordB (wordB (wordB B (len + 0) w0) (len + 4) w1) (len + 8) w2 0 1 = nI (len + 12) := wordB_l
  have hl4 : wordB (wordB (wordB (wordB B (len + 0) w0) (len + 4) w1) (len + 8) w2) (len + 12) w3 0 1 = nI (len + 16) := wordB_l
  have hl5 : wordB (wordB (wordB (wordB (wordB B (len + 0) w0) (len + 4) w1) (len + 8) w2) (len + 12) w3) (len + 16) w4 0 1 = nI (len + 20) := wordB_l
  refine y_aload_n hC dX7_append_0 rfl ?_
  refine y_getR hC (yC_o hc) (yC_r0 hc) f_X7_10 rfl dX7_append_1 ?_
  refine y_callV1 hC (c_X3_hasRoom X.2.1 D z hI hl hlen) m_X7_32 rfl (yI_o hI) (by decide) (Nat.le_of_ble_eq_true rfl) (Nat.zero_le _) (Nat.zero_le _) dX7_append_4 ?_
  refine y_if_neB (tgt := 12) hC dX7_append_7 (by decide) (fun c7 => ?_) (fun c7 => ?_)
  · refine y_aload_n hC dX7_append_12 rfl ?_
    refine y_getR hC (yC_o hc) (yC_r0 hc) f_X7_10 rfl dX7_append_13 ?_
    refine y_iload_n hC dX7_append_16 rfl ?_
    refine y_callV0 hC (c_X3_addWord X.2.1 D z hI hl0 (by omega)) m_X7_36 rfl (yI_o hI) (by decide) (Nat.le_of_ble_eq_true rfl) (Nat.zero_le _) (Nat.zero_le _) dX7_append_17 ?_
    refine y_aload_n hC dX7_append_20 rfl ?_
    refine y_getR hC (yC_o hc) (yC_r0 hc) f_X7_10 rfl dX7_append_21 ?_
    refine y_iload_n hC dX7_append_24 rfl ?_
    refine y_callV0 hC (c_X3_addWord X.2.1 D z hI hl1 (by omega)) m_X7_36 rfl (yI_o hI) (by decide) (Nat.le_of_ble_eq_true rfl) (Nat.zero_le _) (Nat.zero_le _) dX7_append_25 ?_
    refine y_aload_n hC dX7_append_28 rfl ?_
    refine y_getR hC (yC_o hc) (yC_r0 hc) f_X7_10 rfl dX7_append_29 ?_
    refine y_iload_n hC dX7_append_32 rfl ?_
    refine y_callV0 hC (c_X3_addWord X.2.1 D z hI hl2 (by omega)) m_X7_36 rfl (yI_o hI) (by decide) (Nat.le_of_ble_eq_true rfl) (Nat.zero_le _) (Nat.zero_le _) dX7_append_33 ?_
    refine y_aload_n hC dX7_append_36 rfl ?_
    refine y_getR hC (yC_o hc) (yC_r0 hc) f_X7_10 rfl dX7_append_37 ?_
    refine y_iload hC dX7_append_40 rfl ?_
    refine y_callV0 hC (c_X3_addWord X.2.1 D z hI hl3 (by omega)) m_X7_36 rfl (yI_o hI) (by decide) (Nat.le_of_ble_eq_true rfl) (Nat.zero_le _) (Nat.zero_le _) dX7_append_42 ?_
    refine y_aload_n hC dX7_append_45 rfl ?_
    refine y_getR hC (yC_o hc) (yC_r0 hc) f_X7_10 rfl dX7_append_46 ?_
    refine y_iload hC dX7_append_49 rfl ?_
    refine y_callV0 hC (c_X3_addWord X.2.1 D z hI hl4 (by omega)) m_X7_36 rfl (yI_o hI) (by decide) (Nat.le_of_ble_eq_true rfl) (Nat.zero_le _) (Nat.zero_le _) dX7_append_51 ?_
    refine y_aload_n hC dX7_append_54 rfl ?_
    refine y_getR hC (yC_o hc) (yC_r0 hc) f_X7_10 rfl dX7_append_55 ?_
    refine y_getIR (w9 := 2) hC (by decide) (yI_o hI) f_X7_40 rfl dX7_append_58 ?_
    exact y_iret hC hr rfl (Nat.zero_le _) (Nat.zero_le _) dX7_append_61 (Or.inl ⟨c7, by rw [hl5], rfl, rfl, rfl, rfl⟩)
  · refine y_iconst (v := (-1)) hC dX7_append_10 (by decide) ?_
    exact y_iret hC hr rfl (Nat.zero_le _) (Nat.zero_le _) dX7_append_11 (Or.inr ⟨c7, rfl, rfl, rfl, rfl, rfl⟩)
def lsm (f : Int64 → Nat → Int64) (s : Int64) : Nat → Int64
  | 0 => s
  | k + 1 => f (lsm f s k) k
def ckS (B : yI) (ni nm np nd : Nat) : Int64 := (lsm (fun s q => 31 * (31 * (31 * s + (B 12 q).toInt64) + (B 13 q).toInt64) + (B 11 q).toInt64) (lsm (fun s p => 31 * s + (sm (fun k => if B 7 k = nI p ∧ ¬ B 12 k = 5 then B 9 k else 0) nd).toInt64) (31 * lsm (fun s q => 31 * s + (B 2 q).toInt64) (lsm (fun s q => 31 * s + (B 1 q).toInt64) (B 0 1).toInt64 ni) nm + (B 0 4).toInt64) np) nd)
set_option maxRecDepth 100000 in
set_option maxHeartbeats 4000000 in
theorem c_X7_checksum (l : Launch) (D : yD) (z : Nat) {n : Nat} {sh : yS} {I : yI} {L : yL} {c at0 su f m len : Nat} {it : Nat → Int32} {σ B : yI} {ni nm nr np nd : Nat} (hP : yPro sh I c at0) (hB : yBook sh (c + 15 + 14 * at0) su) (hE : yEra sh I su f m len it σ) (hV : yVal σ B ni nm nr np nd) : yM l D z yX7_checksum cX7_checksum 5 (some .long) 1 0 0 [.ref c] n sh (sR 14 I (c + 15 + 14 * at0) B) L (yF (some (.long (ckS B ni nm np nd))) n sh (sR 14 I (c + 15 + 14 * at0) B) L) (yno) := by
  refine yM_of (by decide) (Nat.le_of_ble_eq_true rfl) rfl ?_
  intro X hC hr hnm hRc hRs htb
  have hC : yC X D z cX7_checksum RX7 5 1 := hC
  have hS := hE.1
  have hF := hE.2.1
  have hσ := hE.sig hB
  have hφ := hE.phi hB
  have hac : yScr f I I := yScr.rf
  obtain ⟨v0, v1, v6, ni4, nm4, nr8, vnp, np24, vnd, nd20, vP, vD⟩ := hV
  refine y_aload_n hC dX7_checksum_0 rfl ?_
  refine y_getR hC (yC_o hP.1) (yC_r1 hP.1) f_X7_24 rfl dX7_checksum_1 ?_
  refine y_callV1 hC (c_present_at X.2.1 D z hP) m_X7_90 rfl (yH_o hP.2.1) (by decide) (Nat.le_of_ble_eq_true rfl) (Nat.zero_le _) (Nat.zero_le _) dX7_checksum_4 ?_
  refine y_astore_n hC dX7_checksum_7 (by decide) rfl ?_
  refine y_aload_n hC dX7_checksum_8 rfl ?_
  refine y_getIR (w9 := 14) hC (by decide) (yB_o hB) f_X7_106 rfl dX7_checksum_9 ?_
  refine y_i2l hC dX7_checksum_12 ?_
  refine y_lstore_n hC dX7_checksum_13 (by decide) rfl ?_
  refine y_iconst (v := nI 0) hC dX7_checksum_14 (by decide) ?_
  refine y_istore hC dX7_checksum_15 (by decide) rfl ?_
  have lp17 : ∀ (f9 j : Nat) (s17 : Int64), j + f9 = ni → s17 = lsm (fun s q => 31 * s + (B 1 q).toInt64) (B 0 1).toInt64 j → Y X D z 5 n sh (sR 14 I (c + 15 + 14 * at0) B) L 0 0 (yEnd X D z (yF (some (.long (ckS B ni nm np nd))) n sh (sR 14 I (c + 15 + 14 * at0) B) L) (yno) 0 0) 17 [some (.ref c), some (.ref (c + 15 + 14 * at0)), some (.long s17), none, some (.int (nI j))] [] := by
    intro f9
    induction f9 with
    | zero =>
      intro j s17 hm1 hi1
      refine y_iload hC dX7_checksum_17 rfl ?_
      refine y_aload_n hC dX7_checksum_19 rfl ?_
      refine y_getR hC (yB_o hB) (yB_r0 hB) f_X7_93 rfl dX7_checksum_20 ?_
      refine y_getIG hC hσ (yS_o hS) f_X7_94 rfl dX7_checksum_23 ?_
      rw [v0]
      refine y_icmp_ge (tgt := 50) hC dX7_checksum_26 (by decide) (fun c26 => ?_) (fun c26 => absurd (nI_le (by omega) (by omega)) c26)
      refine y_iconst (v := nI 0) hC dX7_checksum_50 (by decide) ?_
      refine y_istore hC dX7_checksum_51 (by decide) rfl ?_
      have lp53 : ∀ (f9 j2 : Nat) (s53 : Int64), j2 + f9 = nm → s53 = lsm (fun s q => 31 * s + (B 2 q).toInt64) (lsm (fun s q => 31 * s + (B 1 q).toInt64) (B 0 1).toInt64 ni) j2 → Y X D z 5 n sh (sR 14 I (c + 15 + 14 * at0) B) L 0 0 (yEnd X D z (yF (some (.long (ckS B ni nm np nd))) n sh (sR 14 I (c + 15 + 14 * at0) B) L) (yno) 0 0) 53 [some (.ref c), some (.ref (c + 15 + 14 * at0)), some (.long s53), none, some (.int (nI j2))] [] := by
        intro f9
        induction f9 with
        | zero =>
          intro j2 s53 hm2 hi2
          refine y_iload hC dX7_checksum_53 rfl ?_
          refine y_aload_n hC dX7_checksum_55 rfl ?_
          refine y_getR hC (yB_o hB) (yB_r0 hB) f_X7_93 rfl dX7_checksum_56 ?_
          refine y_getIG hC hσ (yS_o hS) f_X7_97 rfl dX7_checksum_59 ?_
          rw [v1]
          refine y_icmp_ge (tgt := 86) hC dX7_checksum_62 (by decide) (fun c62 => ?_) (fun c62 => absurd (nI_le (by omega) (by omega)) c62)
          refine y_ldc2 hC k_X7_235 dX7_checksum_86 ?_
          refine y_lload_n hC dX7_checksum_89 rfl ?_
          refine y_lmul hC dX7_checksum_90 ?_
          refine y_aload_n hC dX7_checksum_91 rfl ?_
          refine y_getIR (w9 := 14) hC (by decide) (yB_o hB) f_X7_128 rfl dX7_checksum_92 ?_
          refine y_i2l hC dX7_checksum_95 ?_
          refine y_ladd hC dX7_checksum_96 ?_
          refine y_lstore_n hC dX7_checksum_97 (by decide) rfl ?_
          refine y_iconst (v := nI 0) hC dX7_checksum_98 (by decide) ?_
          refine y_istore hC dX7_checksum_99 (by decide) rfl ?_
          have lp101 : ∀ (f9 j3 : Nat) (s101 : Int64), j3 + f9 = np → s101 = lsm (fun s p => 31 * s + (sm (fun k => if B 7 k = nI p ∧ ¬ B 12 k = 5 then B 9 k else 0) nd).toInt64) (31 * lsm (fun s q => 31 * s + (B 2 q).toInt64) (lsm (fun s q => 31 * s + (B 1 q).toInt64) (B 0 1).toInt64 ni) nm + (B 0 4).toInt64) j3 → Y X D z 5 n sh (sR 14 I (c + 15 + 14 * at0) B) L 0 0 (yEnd X D z (yF (some (.long (ckS B ni nm np nd))) n sh (sR 14 I (c + 15 + 14 * at0) B) L) (yno) 0 0) 101 [some (.ref c), some (.ref (c + 15 + 14 * at0)), some (.long s101), none, some (.int (nI j3))] [] := by
            intro f9
            induction f9 with
            | zero =>
              intro j3 s101 hm3 hi3
              refine y_iload hC dX7_checksum_101 rfl ?_
              refine y_aload_n hC dX7_checksum_103 rfl ?_
              refine y_getIR (w9 := 14) hC (by decide) (yB_o hB) f_X7_100 rfl dX7_checksum_104 ?_
              rw [vnp]
              refine y_icmp_ge (tgt := 130) hC dX7_checksum_107 (by decide) (fun c107 => ?_) (fun c107 => absurd (nI_le (by omega) (by omega)) c107)
              refine y_iconst (v := nI 0) hC dX7_checksum_130 (by decide) ?_
              refine y_istore hC dX7_checksum_131 (by decide) rfl ?_
              have lp133 : ∀ (f9 j4 : Nat) (s133 : Int64), j4 + f9 = nd → s133 = lsm (fun s q => 31 * (31 * (31 * s + (B 12 q).toInt64) + (B 13 q).toInt64) + (B 11 q).toInt64) (lsm (fun s p => 31 * s + (sm (fun k => if B 7 k = nI p ∧ ¬ B 12 k = 5 then B 9 k else 0) nd).toInt64) (31 * lsm (fun s q => 31 * s + (B 2 q).toInt64) (lsm (fun s q => 31 * s + (B 1 q).toInt64) (B 0 1).toInt64 ni) nm + (B 0 4).toInt64) np) j4 → Y X D z 5 n sh (sR 14 I (c + 15 + 14 * at0) B) L 0 0 (yEnd X D z (yF (some (.long (ckS B ni nm np nd))) n sh (sR 14 I (c + 15 + 14 * at0) B) L) (yno) 0 0) 133 [some (.ref c), some (.ref (c + 15 + 14 * at0)), some (.long s133), none, some (.int (nI j4))] [] := by
                intro f9
                induction f9 with
                | zero =>
                  intro j4 s133 hm4 hi4
                  refine y_iload hC dX7_checksum_133 rfl ?_
                  refine y_aload_n hC dX7_checksum_135 rfl ?_
                  refine y_getIR (w9 := 14) hC (by decide) (yB_o hB) f_X7_103 rfl dX7_checksum_136 ?_
                  rw [vnd]
                  refine y_icmp_ge (tgt := 193) hC dX7_checksum_139 (by decide) (fun c139 => ?_) (fun c139 => absurd (nI_le (by omega) (by omega)) c139)
                  refine y_lload_n hC dX7_checksum_193 rfl ?_
                  exact y_lret hC hr (Nat.zero_le _) (Nat.zero_le _) dX7_checksum_194 (yF.mk (by rw [hi4, show j4 = nd by omega]; rfl))
                | succ f9 ih =>
                  intro j4 s133 hm4 hi4
                  refine y_iload hC dX7_checksum_133 rfl ?_
                  refine y_aload_n hC dX7_checksum_135 rfl ?_
                  refine y_getIR (w9 := 14) hC (by decide) (yB_o hB) f_X7_103 rfl dX7_checksum_136 ?_
                  rw [vnd]
                  refine y_icmp_ge (tgt := 193) hC dX7_checksum_139 (by decide) (fun c139 => absurd c139 (nI_ge (by omega) (by omega))) (fun c139 => ?_)
                  refine y_ldc2 hC k_X7_235 dX7_checksum_142 ?_
                  refine y_lload_n hC dX7_checksum_145 rfl ?_
                  refine y_lmul hC dX7_checksum_146 ?_
                  refine y_aload_n hC dX7_checksum_147 rfl ?_
                  refine y_getR hC (yB_o hB) (yB_r16 hB) f_X7_137 rfl dX7_checksum_148 ?_
                  refine y_iload hC dX7_checksum_151 rfl ?_
                  refine y_ialdRN (w9 := 14) hC (by decide) (yB_a16 hB) (by omega) dX7_checksum_153 ?_
                  refine y_i2l hC dX7_checksum_154 ?_
                  refine y_ladd hC dX7_checksum_155 ?_
                  refine y_lstore_n hC dX7_checksum_156 (by decide) rfl ?_
                  refine y_ldc2 hC k_X7_235 dX7_checksum_157 ?_
                  refine y_lload_n hC dX7_checksum_160 rfl ?_
                  refine y_lmul hC dX7_checksum_161 ?_
                  refine y_aload_n hC dX7_checksum_162 rfl ?_
                  refine y_getR hC (yB_o hB) (yB_r17 hB) f_X7_140 rfl dX7_checksum_163 ?_
                  refine y_iload hC dX7_checksum_166 rfl ?_
                  refine y_ialdRN (w9 := 14) hC (by decide) (yB_a17 hB) (by omega) dX7_checksum_168 ?_
                  refine y_i2l hC dX7_checksum_169 ?_
                  refine y_ladd hC dX7_checksum_170 ?_
                  refine y_lstore_n hC dX7_checksum_171 (by decide) rfl ?_
                  refine y_ldc2 hC k_X7_235 dX7_checksum_172 ?_
                  refine y_lload_n hC dX7_checksum_175 rfl ?_
                  refine y_lmul hC dX7_checksum_176 ?_
                  refine y_aload_n hC dX7_checksum_177 rfl ?_
                  refine y_getR hC (yB_o hB) (yB_r15 hB) f_X7_143 rfl dX7_checksum_178 ?_
                  refine y_iload hC dX7_checksum_181 rfl ?_
                  refine y_ialdRN (w9 := 14) hC (by decide) (yB_a15 hB) (by omega) dX7_checksum_183 ?_
                  refine y_i2l hC dX7_checksum_184 ?_
                  refine y_ladd hC dX7_checksum_185 ?_
                  refine y_lstore_n hC dX7_checksum_186 (by decide) rfl ?_
                  refine y_iincN hC dX7_checksum_187 rfl rfl (by decide) rfl ?_
                  refine y_goto (tgt := 133) hC dX7_checksum_190 (by decide) ?_
                  exact ih (j4 + 1) _ (by omega) (by rw [hi4]; rfl)
              exact lp133 nd 0 _ (Nat.zero_add _) (by rw [hi3, show j3 = np by omega]; rfl)
            | succ f9 ih =>
              intro j3 s101 hm3 hi3
              refine y_iload hC dX7_checksum_101 rfl ?_
              refine y_aload_n hC dX7_checksum_103 rfl ?_
              refine y_getIR (w9 := 14) hC (by decide) (yB_o hB) f_X7_100 rfl dX7_checksum_104 ?_
              rw [vnp]
              refine y_icmp_ge (tgt := 130) hC dX7_checksum_107 (by decide) (fun c107 => absurd c107 (nI_ge (by omega) (by omega))) (fun c107 => ?_)
              refine y_ldc2 hC k_X7_235 dX7_checksum_110 ?_
              refine y_lload_n hC dX7_checksum_113 rfl ?_
              refine y_lmul hC dX7_checksum_114 ?_
              refine y_aload_n hC dX7_checksum_115 rfl ?_
              refine y_iload hC dX7_checksum_116 rfl ?_
              refine y_callV1 hC (c_X0_disputedAmount X.2.1 D z hB vnd (by omega)) m_X7_131 rfl (yB_o hB) (by decide) (Nat.le_of_ble_eq_true rfl) (Nat.zero_le _) (Nat.zero_le _) dX7_checksum_118 ?_
              refine y_i2l hC dX7_checksum_121 ?_
              refine y_ladd hC dX7_checksum_122 ?_
              refine y_lstore_n hC dX7_checksum_123 (by decide) rfl ?_
              refine y_iincN hC dX7_checksum_124 rfl rfl (by decide) rfl ?_
              refine y_goto (tgt := 101) hC dX7_checksum_127 (by decide) ?_
              exact ih (j3 + 1) _ (by omega) (by rw [hi3]; rfl)
          exact lp101 np 0 _ (Nat.zero_add _) (by rw [hi2, show j2 = nm by omega]; rfl)
        | succ f9 ih =>
          intro j2 s53 hm2 hi2
          refine y_iload hC dX7_checksum_53 rfl ?_
          refine y_aload_n hC dX7_checksum_55 rfl ?_
          refine y_getR hC (yB_o hB) (yB_r0 hB) f_X7_93 rfl dX7_checksum_56 ?_
          refine y_getIG hC hσ (yS_o hS) f_X7_97 rfl dX7_checksum_59 ?_
          rw [v1]
          refine y_icmp_ge (tgt := 86) hC dX7_checksum_62 (by decide) (fun c62 => absurd c62 (nI_ge (by omega) (by omega))) (fun c62 => ?_)
          refine y_ldc2 hC k_X7_235 dX7_checksum_65 ?_
          refine y_lload_n hC dX7_checksum_68 rfl ?_
          refine y_lmul hC dX7_checksum_69 ?_
          refine y_aload_n hC dX7_checksum_70 rfl ?_
          refine y_getR hC (yB_o hB) (yB_r3 hB) f_X7_125 rfl dX7_checksum_71 ?_
          refine y_iload hC dX7_checksum_74 rfl ?_
          refine y_ialdRN (w9 := 14) hC (by decide) (yB_a3 hB) (by omega) dX7_checksum_76 ?_
          refine y_i2l hC dX7_checksum_77 ?_
          refine y_ladd hC dX7_checksum_78 ?_
          refine y_lstore_n hC dX7_checksum_79 (by decide) rfl ?_
          refine y_iincN hC dX7_checksum_80 rfl rfl (by decide) rfl ?_
          refine y_goto (tgt := 53) hC dX7_checksum_83 (by decide) ?_
          exact ih (j2 + 1) _ (by omega) (by rw [hi2]; rfl)
      exact lp53 nm 0 _ (Nat.zero_add _) (by rw [hi1, show j = ni by omega]; rfl)
    | succ f9 ih =>
      intro j s17 hm1 hi1
      refine y_iload hC dX7_checksum_17 rfl ?_
      refine y_aload_n hC dX7_checksum_19 rfl ?_
      refine y_getR hC (yB_o hB) (yB_r0 hB) f_X7_93 rfl dX7_checksum_20 ?_
      refine y_getIG hC hσ (yS_o hS) f_X7_94 rfl dX7_checksum_23 ?_
      rw [v0]
      refine y_icmp_ge (tgt := 50) hC dX7_checksum_26 (by decide) (fun c26 => absurd c26 (nI_ge (by omega) (by omega))) (fun c26 => ?_)
      refine y_ldc2 hC k_X7_235 dX7_checksum_29 ?_
      refine y_lload_n hC dX7_checksum_32 rfl ?_
      refine y_lmul hC dX7_checksum_33 ?_
      refine y_aload_n hC dX7_checksum_34 rfl ?_
      refine y_getR hC (yB_o hB) (yB_r2 hB) f_X7_117 rfl dX7_checksum_35 ?_
      refine y_iload hC dX7_checksum_38 rfl ?_
      refine y_ialdRN (w9 := 14) hC (by decide) (yB_a2 hB) (by omega) dX7_checksum_40 ?_
      refine y_i2l hC dX7_checksum_41 ?_
      refine y_ladd hC dX7_checksum_42 ?_
      refine y_lstore_n hC dX7_checksum_43 (by decide) rfl ?_
      refine y_iincN hC dX7_checksum_44 rfl rfl (by decide) rfl ?_
      refine y_goto (tgt := 17) hC dX7_checksum_47 (by decide) ?_
      exact ih (j + 1) _ (by omega) (by rw [hi1]; rfl)
  exact lp17 ni 0 _ (Nat.zero_add _) rfl
