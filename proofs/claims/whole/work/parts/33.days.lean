theorem sm_t {P : Nat → Prop} [DecidablePred P] {g : Nat → Int32} {j : Nat} {x s : Int32} (hi : s = x + sm (fun k => if P k then g k else 0) j) (h : P j) : s + g j = x + sm (fun k => if P k then g k else 0) (j + 1) := by
  rw [hi, sm, if_pos h, Int32.add_assoc]
theorem sm_f {P : Nat → Prop} [DecidablePred P] {g : Nat → Int32} {j : Nat} {x s : Int32} (hi : s = x + sm (fun k => if P k then g k else 0) j) (h : ¬ P j) : s = x + sm (fun k => if P k then g k else 0) (j + 1) := by
  rw [hi, sm, if_neg h, Int32.add_zero]
theorem finB_row {σ B : yI} {d : Nat} {o : Int32} {r : Nat} (h1 : 3 ≤ r) (h2 : r ≤ 11) : finB σ B d o r = B r := by
  unfold finB moveB up2
  rw [va_up_ne _ _ (by omega), va_up_ne _ _ (by omega), va_up_ne _ _ (by omega), va_up_ne _ _ (by omega), va_up_ne _ _ (by omega)]
theorem finB_0 {σ B : yI} {d : Nat} {o : Int32} {j : Nat} (h : j ≠ 4) : finB σ B d o 0 j = B 0 j := by
  show upd (B 0) 4 _ j = B 0 j
  unfold upd
  rw [if_neg h]
/-- a day passes: the book and how many have ended, behind the first k disputes -/
def daS (σ : yI) (it : Nat → Int32) (len : Nat) (B : yI) : Nat → yI × Int32
  | 0 => (up2 B 0 1 (B 0 1 + 1), 0)
  | k + 1 => if ¬ ((daS σ it len B k).1 12 k = 4 ∨ (daS σ it len B k).1 12 k = 5) ∧ ¬ (daS σ it len B k).1 0 1 ≤ (daS σ it len B k).1 13 k then (finB σ (daS σ it len B k).1 k (idO σ it len (daS σ it len B k).1 k), (daS σ it len B k).2 + 1) else daS σ it len B k
theorem daS_row {σ : yI} {it : Nat → Int32} {len : Nat} {B : yI} {r : Nat} (h1 : 3 ≤ r) (h2 : r ≤ 11) : ∀ k, (daS σ it len B k).1 r = B r
  | 0 => by
    show up2 B 0 1 _ r = B r
    unfold up2
    rw [va_up_ne _ _ (by omega)]
  | k + 1 => by
    unfold daS
    split
    · exact (finB_row h1 h2).trans (daS_row h1 h2 k)
    · exact daS_row h1 h2 k
theorem daS_0 {σ : yI} {it : Nat → Int32} {len : Nat} {B : yI} {j : Nat} (h : j ≠ 4) (h1 : j ≠ 1) : ∀ k, (daS σ it len B k).1 0 j = B 0 j
  | 0 => by
    show upd (B 0) 1 _ j = B 0 j
    unfold upd
    rw [if_neg h1]
  | k + 1 => by
    unfold daS
    split
    · exact (finB_0 h).trans (daS_0 h h1 k)
    · exact daS_0 h h1 k
theorem daS_1 {σ : yI} {it : Nat → Int32} {len : Nat} {B : yI} : ∀ k, (daS σ it len B k).1 0 1 = B 0 1 + 1
  | 0 => rfl
  | k + 1 => by
    unfold daS
    split
    · exact Eq.trans (finB_0 (σ := σ) (B := (daS σ it len B k).1) (d := k) (o := idO σ it len (daS σ it len B k).1 k) (j := 1) (by decide)) (daS_1 k)
    · exact daS_1 k
theorem daS_t {σ : yI} {it : Nat → Int32} {len : Nat} {B C : yI} {s : Int32} {j : Nat} (hi : (C, s) = daS σ it len B j) (h1 : ¬ (C 12 j = 4 ∨ C 12 j = 5)) (h2 : ¬ C 0 1 ≤ C 13 j) : (finB σ C j (idO σ it len C j), s + 1) = daS σ it len B (j + 1) := by
  unfold daS
  rw [← hi]
  exact (if_pos ⟨h1, h2⟩).symm
theorem daS_f1 {σ : yI} {it : Nat → Int32} {len : Nat} {B C : yI} {s : Int32} {j : Nat} (hi : (C, s) = daS σ it len B j) (h1 : C 12 j = 4 ∨ C 12 j = 5) : (C, s) = daS σ it len B (j + 1) := by
  unfold daS
  rw [← hi]
  exact (if_neg (fun q => q.1 h1)).symm
theorem daS_f2 {σ : yI} {it : Nat → Int32} {len : Nat} {B C : yI} {s : Int32} {j : Nat} (hi : (C, s) = daS σ it len B j) (h2 : C 0 1 ≤ C 13 j) : (C, s) = daS σ it len B (j + 1) := by
  unfold daS
  rw [← hi]
  exact (if_neg (fun q => q.2 h2)).symm
set_option maxRecDepth 100000 in
set_option maxHeartbeats 4000000 in
theorem c_X0_endDay (l : Launch) (D : yD) (z : Nat) {n : Nat} {sh : yS} {I : yI} {L : yL} {i su : Nat} {B : yI} (hB : yBook sh i su) {f : Nat} {σ : yI} (hS : ySet sh su f) (hσ : ySig I i su σ) {len m : Nat} {it : Nat → Int32} (hF : yFor sh f m) (hφ : yPhi I i su f len m it) {nd : Nat} (hnd : B 0 10 = nI nd) (hnl : nd ≤ 20) (h7 : ∀ k, k < nd → vp_in (B 7 k) 24) (h8 : ∀ k, k < nd → vp_in (B 8 k) 8) (h4 : ∀ k, k < nd → vp_in (B 4 (tn (B 7 k))) 4) (h3 : ∀ k, k < nd → vp_in (B 3 (tn (B 7 k))) 4) : yM l D z yX0_endDay cX0_endDay 3 (some .int) 6 0 0 [.ref i] n sh (sR 14 I i B) L (yFs (some (.int (daS σ it len B nd).2)) n sh I f i (daS σ it len B nd).1 L) (yno) := by
  refine yM_of (by decide) (Nat.le_of_ble_eq_true rfl) rfl ?_
  intro X hC hr hnm hRc hRs htb
  have hC : yC X D z cX0_endDay RX0 3 6 := hC
  have hac : yScr f I I := yScr.rf
  generalize hI9 : I = I9 at hac hσ hφ ⊢
  refine y_aload_n hC dX0_endDay_0 rfl ?_
  refine y_dup hC dX0_endDay_1 rfl ?_
  refine y_getIR (w9 := 14) hC (by decide) (yB_o hB) f_X0_55 rfl dX0_endDay_2 ?_
  refine y_iconst (v := nI 1) hC dX0_endDay_5 (by decide) ?_
  refine y_iadd hC dX0_endDay_6 ?_
  refine y_putIR (w9 := 14) hC (by decide) (yB_o hB) f_X0_55 rfl (Or.inl rfl) dX0_endDay_7 ?_
  refine y_iconst (v := nI 0) hC dX0_endDay_10 (by decide) ?_
  refine y_istore_n hC dX0_endDay_11 (by decide) rfl ?_
  refine y_iconst (v := nI 0) hC dX0_endDay_12 (by decide) ?_
  refine y_istore_n hC dX0_endDay_13 (by decide) rfl ?_
  have lp14 : ∀ (f9 j : Nat) (C : yI) (s : Int32) (I : yI) (hac : yScr f I9 I) (hσ : ySig I i su σ) (hφ : yPhi I i su f len m it), j + f9 = nd → (C, s) = daS σ it len B j → Y X D z 3 n sh (sR 14 I i C) L 0 0 (yEnd X D z (yFs (some (.int (daS σ it len B nd).2)) n sh I9 f i (daS σ it len B nd).1 L) (yno) 0 0) 14 [some (.ref i), some (.int s), some (.int (nI j))] [] := by
    intro f9
    induction f9 with
    | zero =>
      intro j C s I hac hσ hφ hm hi
      have hCe : C = (daS σ it len B j).1 := by rw [← hi]
      have hrw : ∀ r, 3 ≤ r → r ≤ 11 → C r = B r := fun r h1 h2 => by rw [hCe]; exact daS_row h1 h2 j
      have hndC : C 0 10 = nI nd := by rw [hCe, daS_0 (by decide) (by decide)]; exact hnd
      refine y_iload_n hC dX0_endDay_14 rfl ?_
      refine y_aload_n hC dX0_endDay_15 rfl ?_
      refine y_getIR (w9 := 14) hC (by decide) (yB_o hB) f_X0_71 rfl dX0_endDay_16 ?_
      rw [hndC]
      refine y_icmp_ge (tgt := 62) hC dX0_endDay_19 (by decide) (fun c19 => ?_) (fun c19 => absurd (nI_le (by omega) (by omega)) c19)
      refine y_iload_n hC dX0_endDay_62 rfl ?_
      exact y_iret hC hr rfl (Nat.zero_le _) (Nat.zero_le _) dX0_endDay_63 (by obtain rfl : j = nd := (by omega); rw [← hi]; exact yFs.mk hac rfl)
    | succ f9 ih =>
      intro j C s I hac hσ hφ hm hi
      have hCe : C = (daS σ it len B j).1 := by rw [← hi]
      have hrw : ∀ r, 3 ≤ r → r ≤ 11 → C r = B r := fun r h1 h2 => by rw [hCe]; exact daS_row h1 h2 j
      have hndC : C 0 10 = nI nd := by rw [hCe, daS_0 (by decide) (by decide)]; exact hnd
      refine y_iload_n hC dX0_endDay_14 rfl ?_
      refine y_aload_n hC dX0_endDay_15 rfl ?_
      refine y_getIR (w9 := 14) hC (by decide) (yB_o hB) f_X0_71 rfl dX0_endDay_16 ?_
      rw [hndC]
      refine y_icmp_ge (tgt := 62) hC dX0_endDay_19 (by decide) (fun c19 => absurd c19 (nI_ge (by omega) (by omega))) (fun c19 => ?_)
      have q7 : vp_in (C 7 j) 24 := by rw [hrw 7 (by decide) (by decide)]; exact h7 j (by omega)
      have q8 : vp_in (C 8 j) 8 := by rw [hrw 8 (by decide) (by decide)]; exact h8 j (by omega)
      have q4 : vp_in (C 4 (tn (C 7 j))) 4 := by rw [hrw 7 (by decide) (by decide), hrw 4 (by decide) (by decide)]; exact h4 j (by omega)
      have q3 : vp_in (C 3 (tn (C 7 j))) 4 := by rw [hrw 7 (by decide) (by decide), hrw 3 (by decide) (by decide)]; exact h3 j (by omega)
      refine y_aload_n hC dX0_endDay_22 rfl ?_
      refine y_iload_n hC dX0_endDay_23 rfl ?_
      refine y_callV1 hC (c_X0_isFinal X.2.1 D z hB (by omega)) m_X0_102 rfl (yB_o hB) (by decide) (Nat.le_of_ble_eq_true rfl) (Nat.zero_le _) (Nat.zero_le _) dX0_endDay_24 ?_
      refine y_if_neB (tgt := 56) hC dX0_endDay_27 (by decide) (fun c27 => ?_) (fun c27 => ?_)
      · refine y_iincN hC dX0_endDay_56 rfl rfl (by decide) rfl ?_
        refine y_goto (tgt := 14) hC dX0_endDay_59 (by decide) ?_
        first | exact ih (j + 1) _ _ _ hac hσ hφ (by omega) (daS_t hi c27 c40) | exact ih (j + 1) _ _ _ hac hσ hφ (by omega) (daS_f1 hi c27) | exact ih (j + 1) _ _ _ hac hσ hφ (by omega) (daS_f2 hi c40)
      · refine y_aload_n hC dX0_endDay_30 rfl ?_
        refine y_getR hC (yB_o hB) (yB_r17 hB) f_X0_52 rfl dX0_endDay_31 ?_
        refine y_iload_n hC dX0_endDay_34 rfl ?_
        refine y_ialdRN (w9 := 14) hC (by decide) (yB_a17 hB) (by omega) dX0_endDay_35 ?_
        refine y_aload_n hC dX0_endDay_36 rfl ?_
        refine y_getIR (w9 := 14) hC (by decide) (yB_o hB) f_X0_55 rfl dX0_endDay_37 ?_
        refine y_icmp_ge (tgt := 56) hC dX0_endDay_40 (by decide) (fun c40 => ?_) (fun c40 => ?_)
        · refine y_iincN hC dX0_endDay_56 rfl rfl (by decide) rfl ?_
          refine y_goto (tgt := 14) hC dX0_endDay_59 (by decide) ?_
          first | exact ih (j + 1) _ _ _ hac hσ hφ (by omega) (daS_t hi c27 c40) | exact ih (j + 1) _ _ _ hac hσ hφ (by omega) (daS_f1 hi c27) | exact ih (j + 1) _ _ _ hac hσ hφ (by omega) (daS_f2 hi c40)
        · refine y_aload_n hC dX0_endDay_43 rfl ?_
          refine y_iload_n hC dX0_endDay_44 rfl ?_
          refine y_aload_n hC dX0_endDay_45 rfl ?_
          refine y_iload_n hC dX0_endDay_46 rfl ?_
          refine y_callV1s hC (c_X0_idleOutcome X.2.1 D z hB hS hσ hF hφ (d := j) (by omega) q7 q8) m_X0_106 rfl (yB_o hB) (by decide) (Nat.le_of_ble_eq_true rfl) (Nat.zero_le _) (Nat.zero_le _) dX0_endDay_47 (fun K47 hsc47 => ?_)
          have hac := hac.trans hsc47
          have hσ := hσ.scr hφ hsc47
          have hφ := hφ.scr hsc47
          refine y_callV0 hC (c_X0_finish X.2.1 D z hB hS hσ (by omega) q7 q4 q3) m_X0_110 rfl (yB_o hB) (by decide) (Nat.le_of_ble_eq_true rfl) (Nat.zero_le _) (Nat.zero_le _) dX0_endDay_50 ?_
          refine y_iinc hC dX0_endDay_53 rfl rfl (by decide) rfl ?_
          refine y_iincN hC dX0_endDay_56 rfl rfl (by decide) rfl ?_
          refine y_goto (tgt := 14) hC dX0_endDay_59 (by decide) ?_
          first | exact ih (j + 1) _ _ _ hac hσ hφ (by omega) (daS_t hi c27 c40) | exact ih (j + 1) _ _ _ hac hσ hφ (by omega) (daS_f1 hi c27) | exact ih (j + 1) _ _ _ hac hσ hφ (by omega) (daS_f2 hi c40)
  exact lp14 nd 0 _ _ _ hac hσ hφ (Nat.zero_add _) rfl
set_option maxRecDepth 100000 in
set_option maxHeartbeats 4000000 in
theorem c_X0_predictedAccount (l : Launch) (D : yD) (z : Nat) {n : Nat} {sh : yS} {I : yI} {L : yL} {i su : Nat} {B : yI} (hB : yBook sh i su) {f : Nat} {σ : yI} (hS : ySet sh su f) (hσ : ySig I i su σ) {len m : Nat} {it : Nat → Int32} (hF : yFor sh f m) (hφ : yPhi I i su f len m it) {nd : Nat} (hnd : B 0 10 = nI nd) (hnl : nd ≤ 20) (h7 : ∀ k, k < nd → vp_in (B 7 k) 24) (h8 : ∀ k, k < nd → vp_in (B 8 k) 8) {mr : Nat} (hmr : mr < 4) : yM l D z yX0_predictedAccount cX0_predictedAccount 4 (some .int) 6 0 0 [.ref i, .int (nI mr)] n sh (sR 14 I i B) L (yFs (some (.int (B 2 mr + sm (fun k => if B 4 (tn (B 7 k)) = nI mr ∧ ¬ (B 12 k = 4 ∨ B 12 k = 5) then gainB σ B k (idO σ it len B k) else 0) nd))) n sh I f i B L) (yno) := by
  refine yM_of (by decide) (Nat.le_of_ble_eq_true rfl) rfl ?_
  intro X hC hr hnm hRc hRs htb
  have hC : yC X D z cX0_predictedAccount RX0 4 6 := hC
  have hac : yScr f I I := yScr.rf
  generalize hI9 : I = I9 at hac hσ hφ ⊢
  refine y_aload_n hC dX0_predictedAccount_0 rfl ?_
  refine y_getR hC (yB_o hB) (yB_r3 hB) f_X0_19 rfl dX0_predictedAccount_1 ?_
  refine y_iload_n hC dX0_predictedAccount_4 rfl ?_
  refine y_ialdRN (w9 := 14) hC (by decide) (yB_a3 hB) (by omega) dX0_predictedAccount_5 ?_
  refine y_istore_n hC dX0_predictedAccount_6 (by decide) rfl ?_
  refine y_iconst (v := nI 0) hC dX0_predictedAccount_7 (by decide) ?_
  refine y_istore_n hC dX0_predictedAccount_8 (by decide) rfl ?_
  have lp9 : ∀ (f9 j : Nat) (s : Int32) (I : yI) (hac : yScr f I9 I) (hσ : ySig I i su σ) (hφ : yPhi I i su f len m it), j + f9 = nd → s = B 2 mr + sm (fun k => if B 4 (tn (B 7 k)) = nI mr ∧ ¬ (B 12 k = 4 ∨ B 12 k = 5) then gainB σ B k (idO σ it len B k) else 0) j → Y X D z 4 n sh (sR 14 I i B) L 0 0 (yEnd X D z (yFs (some (.int (B 2 mr + sm (fun k => if B 4 (tn (B 7 k)) = nI mr ∧ ¬ (B 12 k = 4 ∨ B 12 k = 5) then gainB σ B k (idO σ it len B k) else 0) nd))) n sh I9 f i B L) (yno) 0 0) 9 [some (.ref i), some (.int (nI mr)), some (.int s), some (.int (nI j))] [] := by
    intro f9
    induction f9 with
    | zero =>
      intro j s I hac hσ hφ hm hi
      refine y_iload_n hC dX0_predictedAccount_9 rfl ?_
      refine y_aload_n hC dX0_predictedAccount_10 rfl ?_
      refine y_getIR (w9 := 14) hC (by decide) (yB_o hB) f_X0_71 rfl dX0_predictedAccount_11 ?_
      rw [hnd]
      refine y_icmp_ge (tgt := 53) hC dX0_predictedAccount_14 (by decide) (fun c14 => ?_) (fun c14 => absurd (nI_le (by omega) (by omega)) c14)
      refine y_iload_n hC dX0_predictedAccount_53 rfl ?_
      exact y_iret hC hr rfl (Nat.zero_le _) (Nat.zero_le _) dX0_predictedAccount_54 (yFs.mk hac (by rw [hi, show j = nd by omega]))
    | succ f9 ih =>
      intro j s I hac hσ hφ hm hi
      refine y_iload_n hC dX0_predictedAccount_9 rfl ?_
      refine y_aload_n hC dX0_predictedAccount_10 rfl ?_
      refine y_getIR (w9 := 14) hC (by decide) (yB_o hB) f_X0_71 rfl dX0_predictedAccount_11 ?_
      rw [hnd]
      refine y_icmp_ge (tgt := 53) hC dX0_predictedAccount_14 (by decide) (fun c14 => absurd c14 (nI_ge (by omega) (by omega))) (fun c14 => ?_)
      refine y_aload_n hC dX0_predictedAccount_17 rfl ?_
      refine y_iload_n hC dX0_predictedAccount_18 rfl ?_
      refine y_callV1 hC (c_X0_merchantOf X.2.1 D z hB (by omega) (h7 _ (by omega))) m_X0_133 rfl (yB_o hB) (by decide) (Nat.le_of_ble_eq_true rfl) (Nat.zero_le _) (Nat.zero_le _) dX0_predictedAccount_19 ?_
      refine y_iload_n hC dX0_predictedAccount_22 rfl ?_
      refine y_icmp_ne (tgt := 47) hC dX0_predictedAccount_23 (by decide) (fun c23 => ?_) (fun c23 => ?_)
      · refine y_iincN hC dX0_predictedAccount_47 rfl rfl (by decide) rfl ?_
        refine y_goto (tgt := 9) hC dX0_predictedAccount_50 (by decide) ?_
        first | exact ih (j + 1) _ _ hac hσ hφ (by omega) (sm_t hi ⟨c23, c31⟩) | exact ih (j + 1) _ _ hac hσ hφ (by omega) (sm_f hi (fun q => c23 q.1)) | exact ih (j + 1) _ _ hac hσ hφ (by omega) (sm_f hi (fun q => q.2 c31))
      · refine y_aload_n hC dX0_predictedAccount_26 rfl ?_
        refine y_iload_n hC dX0_predictedAccount_27 rfl ?_
        refine y_callV1 hC (c_X0_isFinal X.2.1 D z hB (by omega)) m_X0_102 rfl (yB_o hB) (by decide) (Nat.le_of_ble_eq_true rfl) (Nat.zero_le _) (Nat.zero_le _) dX0_predictedAccount_28 ?_
        refine y_if_neB (tgt := 47) hC dX0_predictedAccount_31 (by decide) (fun c31 => ?_) (fun c31 => ?_)
        · refine y_iincN hC dX0_predictedAccount_47 rfl rfl (by decide) rfl ?_
          refine y_goto (tgt := 9) hC dX0_predictedAccount_50 (by decide) ?_
          first | exact ih (j + 1) _ _ hac hσ hφ (by omega) (sm_t hi ⟨c23, c31⟩) | exact ih (j + 1) _ _ hac hσ hφ (by omega) (sm_f hi (fun q => c23 q.1)) | exact ih (j + 1) _ _ hac hσ hφ (by omega) (sm_f hi (fun q => q.2 c31))
        · refine y_iload_n hC dX0_predictedAccount_34 rfl ?_
          refine y_aload_n hC dX0_predictedAccount_35 rfl ?_
          refine y_iload_n hC dX0_predictedAccount_36 rfl ?_
          refine y_aload_n hC dX0_predictedAccount_37 rfl ?_
          refine y_iload_n hC dX0_predictedAccount_38 rfl ?_
          refine y_callV1s hC (c_X0_idleOutcome X.2.1 D z hB hS hσ hF hφ (d := j) (by omega) (h7 _ (by omega)) (h8 _ (by omega))) m_X0_106 rfl (yB_o hB) (by decide) (Nat.le_of_ble_eq_true rfl) (Nat.zero_le _) (Nat.zero_le _) dX0_predictedAccount_39 (fun K39 hsc39 => ?_)
          have hac := hac.trans hsc39
          have hσ := hσ.scr hφ hsc39
          have hφ := hφ.scr hsc39
          refine y_callV1 hC (c_X0_merchantGain X.2.1 D z hB hS hσ (d := j) (by omega)) m_X0_98 rfl (yB_o hB) (by decide) (Nat.le_of_ble_eq_true rfl) (Nat.zero_le _) (Nat.zero_le _) dX0_predictedAccount_42 ?_
          refine y_iadd hC dX0_predictedAccount_45 ?_
          refine y_istore_n hC dX0_predictedAccount_46 (by decide) rfl ?_
          refine y_iincN hC dX0_predictedAccount_47 rfl rfl (by decide) rfl ?_
          refine y_goto (tgt := 9) hC dX0_predictedAccount_50 (by decide) ?_
          first | exact ih (j + 1) _ _ hac hσ hφ (by omega) (sm_t hi ⟨c23, c31⟩) | exact ih (j + 1) _ _ hac hσ hφ (by omega) (sm_f hi (fun q => c23 q.1)) | exact ih (j + 1) _ _ hac hσ hφ (by omega) (sm_f hi (fun q => q.2 c31))
  exact lp9 nd 0 _ _ hac hσ hφ (Nat.zero_add _) (by simp [sm])
