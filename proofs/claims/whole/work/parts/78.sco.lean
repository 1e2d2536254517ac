theorem rcP.rows {k v s : Nat → Int32} {cnt fr fm : Nat} {Z Z2 : yI} {P : yPs} (h : rcP k v s cnt fr fm Z P) (hfr : fr = 6 ∨ fr = 15) (e : ∀ j, j < 18 → Z2 j = Z j) : rcP k v s cnt fr fm Z2 P := by
  have e1 : ∀ c, c < 6 → Z2 (9 + c) = Z (9 + c) := fun c hc => e _ (by omega)
  unfold rcP rcS rcD rcF at h ⊢
  rw [e 0 (by decide), e 1 (by decide), e 2 (by decide), e 3 (by decide), e 4 (by decide), e 5 (by decide), e fr (by omega), e (fr + 1) (by omega)]
  refine ⟨h.1, fun q => ?_⟩
  obtain ⟨⟨a1, a2, a3, a4⟩, b⟩ := h.2 q
  exact ⟨⟨a1, a2, fun j hj c hc => by rw [e1 c hc]; exact a3 j hj c hc, a4⟩, b⟩
theorem rcP.fresh {k v s : Nat → Int32} {cnt : Nat} {Z Z2 : yI} {P : yPs} (h : rcP k v s cnt 6 1 Z P) (e : ∀ j, j < 15 → Z2 j = Z j) (e2 : Z2 15 = fun _ => 0) : rcP k v s cnt 15 cnt Z2 P := by
  have e1 : ∀ c, c < 6 → Z2 (9 + c) = Z (9 + c) := fun c hc => e _ (by omega)
  unfold rcP rcS rcD rcF at h ⊢
  rw [e 0 (by decide), e 1 (by decide), e 2 (by decide), e 3 (by decide), e 4 (by decide), e 5 (by decide), e2]
  obtain ⟨⟨t1, t2, t3, t4, t5, t6, t7⟩, hh⟩ := h
  refine ⟨⟨t1, t2, t3, t4, t5, ⟨0, Nat.zero_le _, rfl⟩, t7⟩, fun q => ?_⟩
  obtain ⟨⟨a1, a2, a3, a4⟩, b, c, d⟩ := hh q
  refine ⟨⟨a1, a2, fun j hj c hc => by rw [e1 c hc]; exact a3 j hj c hc, a4⟩, ?_, fun q => absurd rfl q, d⟩
  rw [if_pos rfl, c (by decide)]
  exact ⟨rfl, fun j hj => absurd hj (Nat.not_lt_zero _)⟩
theorem gLop_er {k : Nat → Int32} {a b x y : Int32} {sub : yPs → yPs} {P : yPs} (h : ¬ P.2.1 = 0) : ∀ f, gLop k a b x y sub f P = P
  | 0 => rfl
  | f + 1 => by rw [gLop, if_neg (fun q => h q.1)]
theorem gFac_er {k v s : Nat → Int32} {par : yPs → yPs} {P : yPs} (h : ¬ P.2.1 = 0) : gFac k v s par P = P := if_pos h
theorem gTer_er {k v s : Nat → Int32} {par : yPs → yPs} {f : Nat} {P : yPs} (h : ¬ P.2.1 = 0) : gTer k v s par f P = P := by rw [gTer, gFac_er h, gLop_er h]
theorem gSum_er {k v s : Nat → Int32} {par : yPs → yPs} {f : Nat} {P : yPs} (h : ¬ P.2.1 = 0) : gSum k v s par f P = P := by rw [gSum, gTer_er h, gLop_er h]
/-- the reader, its tokens and its setup behind a new formula at n -/
theorem yPx.nf {k : Nat → Int32} {sh sh2 : yS} {r b m cnt n fo : Nat} (hX : yPx k sh r b m cnt) (hT : ySet sh (r + 5) fo) (hb : b < r) (hn : r + 15 ≤ n) (hs : ∀ a, a < n → sh2 a = sh a) : yPx k (upr sh2 (r + 5) 5 (some n)) r b m cnt ∧ ySet (upr sh2 (r + 5) 5 (some n)) (r + 5) n := by
  have h5 : sh2 (r + 5) = sh (r + 5) := hs _ (by omega)
  have ho : ∀ a, a < n → a ≠ r + 5 → upr sh2 (r + 5) 5 (some n) a = sh a := fun a h1 h2 => (va_up_ne _ _ h2).trans (hs a h1)
  have hq : upr sh2 (r + 5) 5 (some n) (r + 5) = ((sh (r + 5)).1, (sh (r + 5)).2.1, va_up (sh (r + 5)).2.2 5 (some n)) := by rw [upr, va_up_self, h5]
  obtain ⟨⟨p1, p2, p3, p4, p5, p6, p7, p8, p9, p10, p11, p12⟩, m1, m2, m3, m4⟩ := hX
  obtain ⟨s1, s2, s3, s4, s5, s6, s7, s8, s9, s10, s11, s12, s13, s14⟩ := hT
  constructor
  · refine ⟨?_, m1, m2, m3, by rw [hq]; exact m4⟩
    unfold yPar yArr
    rw [ho r (by omega) (by omega), ho (r + 1) (by omega) (by omega), ho (r + 2) (by omega) (by omega), ho (r + 3) (by omega) (by omega), ho (r + 4) (by omega) (by omega), ho b (by omega) (by omega)]
    exact ⟨p1, p2, p3, p4, p5, p6, p7, p8, p9, p10, p11, p12⟩
  · unfold ySet yArr
    rw [hq, ho (r + 5 + 4) (by omega) (by omega), ho (r + 5 + 5) (by omega) (by omega), ho (r + 5 + 6) (by omega) (by omega), ho (r + 5 + 7) (by omega) (by omega), ho (r + 5 + 8) (by omega) (by omega), ho (r + 5 + 9) (by omega) (by omega)]
    exact ⟨s1, rfl, s3, s4, s5, s6, s7, s8, s9, s10, s11, s12, s13, s14⟩
theorem yFor.nf {sh2 : yS} {r n cnt : Nat} (hF : yFor sh2 n cnt) (hn : r + 15 ≤ n) : yFor (upr sh2 (r + 5) 5 (some n)) n cnt := by
  unfold yFor yArr at hF ⊢
  unfold upr
  rw [va_up_ne _ _ (show n ≠ r + 5 by omega), va_up_ne _ _ (show n + 1 ≠ r + 5 by omega), va_up_ne _ _ (show n + 2 ≠ r + 5 by omega)]
  exact hF
set_option maxRecDepth 100000 in
set_option maxHeartbeats 4000000 in
theorem c_X5_readFactor_dead (l : Launch) (D : yD) (z : Nat) {n : Nat} {sh : yS} {I : yI} {L : yL} {r b m cnt fr fm e : Nat} {k v s : Nat → Int32} (hX : yPx k sh r b m cnt) {Z : yI} {P : yPs} (hZ : rcP k v s cnt fr fm Z P) (h0 : ¬ P.2.1 = 0) : yM l D z yX5_readFactor cX5_readFactor 2 none 1 0 0 [.ref r, .int (nI e)] n sh (sR 18 I r Z) L (yF none n sh (sR 18 I r Z) L) (yno) := by
  refine yM_of (by decide) (Nat.le_of_ble_eq_true rfl) rfl ?_
  intro X hC hr hnm hRc hRs htb
  have hC : yC X D z cX5_readFactor RX5 2 1 := hC
  refine y_aload_n hC dX5_readFactor_0 rfl ?_
  refine y_callV1 hC (p_isFine X.2.1 D z hX hZ) m_X5_31 rfl (yP_o hX.1) (by omega) (Nat.le_of_ble_eq_true rfl) (Nat.zero_le _) (Nat.zero_le _) dX5_readFactor_1 ?_
  refine y_if_neB (tgt := 8) hC dX5_readFactor_4 (by decide) (fun c4 => absurd c4 h0) (fun c4 => ?_)
  exact y_vret hC hr (Nat.zero_le _) (Nat.zero_le _) dX5_readFactor_7 (yF.mk rfl)
set_option maxRecDepth 100000 in
set_option maxHeartbeats 4000000 in
theorem c_X5_readTerm_dead (l : Launch) (D : yD) (z : Nat) {n : Nat} {sh : yS} {I : yI} {L : yL} {r b m cnt fr fm e : Nat} {k v s : Nat → Int32} (hX : yPx k sh r b m cnt) {Z : yI} {P : yPs} (hZ : rcP k v s cnt fr fm Z P) (h0 : ¬ P.2.1 = 0) : yM l D z yX5_readTerm cX5_readTerm 4 none 2 0 0 [.ref r, .int (nI e)] n sh (sR 18 I r Z) L (yF none n sh (sR 18 I r Z) L) (yno) := by
  refine yM_of (by decide) (Nat.le_of_ble_eq_true rfl) rfl ?_
  intro X hC hr hnm hRc hRs htb
  have hC : yC X D z cX5_readTerm RX5 4 2 := hC
  refine y_aload_n hC dX5_readTerm_0 rfl ?_
  refine y_iload_n hC dX5_readTerm_1 rfl ?_
  refine y_callV0 hC (c_X5_readFactor_dead X.2.1 D z hX hZ h0) m_X5_130 rfl (yP_o hX.1) (by decide) (Nat.le_of_ble_eq_true rfl) (Nat.zero_le _) (Nat.zero_le _) dX5_readTerm_2 ?_
  refine y_iconst (v := nI 0) hC dX5_readTerm_5 (by decide) ?_
  refine y_istore_n hC dX5_readTerm_6 (by decide) rfl ?_
  refine y_iload_n hC dX5_readTerm_7 rfl ?_
  refine y_aload_n hC dX5_readTerm_8 rfl ?_
  refine y_getR hC (yP_o hX.1) (yP_r0 hX.1) f_X5_9 rfl dX5_readTerm_9 ?_
  refine y_getIK (w9 := 18) (r := 1) hC (by decide) (yP_t hX.1) f_X5_27 rfl dX5_readTerm_12 ?_
  rw [hZ.1.1.2.2.2]
  refine y_icmp_ge (tgt := 86) hC dX5_readTerm_15 (by decide) (fun c15 => absurd (nI_le2 c15 (by have := hX.2.1; have := hX.2.2.1; omega) (by decide)) (by have := hZ.1.2.1.2; omega)) (fun c15 => ?_)
  refine y_aload_n hC dX5_readTerm_18 rfl ?_
  refine y_callV1 hC (p_isFine X.2.1 D z hX hZ) m_X5_31 rfl (yP_o hX.1) (by omega) (Nat.le_of_ble_eq_true rfl) (Nat.zero_le _) (Nat.zero_le _) dX5_readTerm_19 ?_
  refine y_if_eqB (tgt := 86) hC dX5_readTerm_22 (by decide) (fun c22 => ?_) (fun c22 => absurd c22 h0)
  exact y_vret hC hr (Nat.zero_le _) (Nat.zero_le _) dX5_readTerm_86 (yF.mk rfl)
set_option maxRecDepth 100000 in
set_option maxHeartbeats 4000000 in
theorem c_X5_readSum_dead (l : Launch) (D : yD) (z : Nat) {n : Nat} {sh : yS} {I : yI} {L : yL} {r b m cnt fr fm e : Nat} {k v s : Nat → Int32} (hX : yPx k sh r b m cnt) {Z : yI} {P : yPs} (hZ : rcP k v s cnt fr fm Z P) (h0 : ¬ P.2.1 = 0) : yM l D z yX5_readSum cX5_readSum 4 none 3 0 0 [.ref r, .int (nI e)] n sh (sR 18 I r Z) L (yF none n sh (sR 18 I r Z) L) (yno) := by
  refine yM_of (by decide) (Nat.le_of_ble_eq_true rfl) rfl ?_
  intro X hC hr hnm hRc hRs htb
  have hC : yC X D z cX5_readSum RX5 4 3 := hC
  refine y_aload_n hC dX5_readSum_0 rfl ?_
  refine y_iload_n hC dX5_readSum_1 rfl ?_
  refine y_callV0 hC (c_X5_readTerm_dead X.2.1 D z hX hZ h0) m_X5_124 rfl (yP_o hX.1) (by decide) (Nat.le_of_ble_eq_true rfl) (Nat.zero_le _) (Nat.zero_le _) dX5_readSum_2 ?_
  refine y_iconst (v := nI 0) hC dX5_readSum_5 (by decide) ?_
  refine y_istore_n hC dX5_readSum_6 (by decide) rfl ?_
  refine y_iload_n hC dX5_readSum_7 rfl ?_
  refine y_aload_n hC dX5_readSum_8 rfl ?_
  refine y_getR hC (yP_o hX.1) (yP_r0 hX.1) f_X5_9 rfl dX5_readSum_9 ?_
  refine y_getIK (w9 := 18) (r := 1) hC (by decide) (yP_t hX.1) f_X5_27 rfl dX5_readSum_12 ?_
  rw [hZ.1.1.2.2.2]
  refine y_icmp_ge (tgt := 86) hC dX5_readSum_15 (by decide) (fun c15 => absurd (nI_le2 c15 (by have := hX.2.1; have := hX.2.2.1; omega) (by decide)) (by have := hZ.1.2.1.2; omega)) (fun c15 => ?_)
  refine y_aload_n hC dX5_readSum_18 rfl ?_
  refine y_callV1 hC (p_isFine X.2.1 D z hX hZ) m_X5_31 rfl (yP_o hX.1) (by omega) (Nat.le_of_ble_eq_true rfl) (Nat.zero_le _) (Nat.zero_le _) dX5_readSum_19 ?_
  refine y_if_eqB (tgt := 86) hC dX5_readSum_22 (by decide) (fun c22 => ?_) (fun c22 => absurd c22 h0)
  exact y_vret hC hr (Nat.zero_le _) (Nat.zero_le _) dX5_readSum_86 (yF.mk rfl)
set_option maxRecDepth 100000 in
set_option maxHeartbeats 4000000 in
theorem c_X5_readScoreA (l : Launch) (D : yD) (z : Nat) {sh : yS} {I : yI} {L : yL} {r b m cnt fo : Nat} {k v s : Nat → Int32} (hX : yPx k sh r b m cnt) (hT : ySet sh (r + 5) fo) (hb : b < r) (hc9 : cnt ≤ 901) {Z : yI} {P : yPs} (hZ : rcP k v s cnt 6 1 Z P) (h0 : P.2.1 = 0) (hk : k P.1 = 261) (hd : P.2.2.2.1 2002 = 0) : yM l D z yX5_readScore cX5_readScore 1 none 22 3 (cnt + 14) [.ref r] (r + 15) sh (sR 18 I r Z) L (fun v9 n2 sh2 I2 L2 => v9 = none ∧ n2 = r + 18 ∧ yPx k sh2 r b m cnt ∧ ySet sh2 (r + 5) (r + 15) ∧ yFor sh2 (r + 15) cnt ∧ ((∀ a, a < r → sh2 a = sh a) ∧ (∀ a, a < r → I2 a = I a) ∧ (∀ a, a < r → L2 a = L a)) ∧ ∃ I3 Z2, I2 = sR 18 I3 r Z2 ∧ rcP k v s cnt 15 cnt Z2 (gSco k v s cnt P)) (yno) := by
  refine yM_of (by decide) (Nat.le_of_ble_eq_true rfl) rfl ?_
  intro X hC hr hnm hRc hRs htb
  have hC : yC X D z cX5_readScore RX5 1 22 := hC
  refine y_aload_n hC dX5_readScore_0 rfl ?_
  refine y_aload_n hC dX5_readScore_1 rfl ?_
  refine y_getIR (w9 := 18) hC (by decide) (yP_o hX.1) f_X5_104 rfl dX5_readScore_2 ?_
  refine y_callZ hC (p_onc X.2.1 D z hX hZ (Or.inl rfl) (by intro q; rw [hk] at q; exact absurd q (by decide)) hZ.1.2.2.2.2.2.2.2.2.1 (hZ.2 h0).1.1.2.2.1) m_X5_65 rfl (yP_o hX.1) (by omega) (Nat.le_of_ble_eq_true rfl) (Nat.zero_le _) (Nat.zero_le _) dX5_readScore_5 (fun Z1 g1 => ?_)
  refine y_aload_n hC dX5_readScore_8 rfl ?_
  refine y_iconst (v := 1) hC dX5_readScore_9 (by decide) ?_
  refine y_putZR (w9 := 18) hC (by decide) (yP_o hX.1) f_X5_104 rfl (by constructor <;> rfl) dX5_readScore_10 ?_
  have b5 := g1.flag5 (Or.inl rfl)
  refine y_aload_n hC dX5_readScore_13 rfl ?_
  refine y_getR hC (yP_o hX.1) (yP_r1 hX.1) f_X5_18 rfl dX5_readScore_14 ?_
  refine y_new hC kX1 cl_X5_107 (by rw [hRc]; decide) (by rw [hRs]; show 0 + 3 ≤ cnt + 14; omega) dX5_readScore_17 ?_
  refine y_dup hC dX5_readScore_20 rfl ?_
  refine y_aload_n hC dX5_readScore_21 rfl ?_
  refine y_getR (b := r + 1) hC (by rw [va_up_ne _ _ (by omega)]; exact yP_o hX.1) (by rw [va_up_ne _ _ (by omega)]; exact yP_r0 hX.1) f_X5_9 rfl dX5_readScore_22 ?_
  refine y_getI hC (by rw [va_up_ne _ _ (by omega)]; exact yP_t hX.1) f_X5_27 rfl dX5_readScore_25 ?_
  refine y_eqI (y := nI cnt) (by rw [va_up_ne _ _ (by omega), sR_at (by decide)]; exact b5.1.1.2.2.2) ?_
  refine y_callI hC (c_X1_init X.2.1 D z (i := (r + 15)) (cap := cnt) (by rw [va_up_self]) (by rw [va_up_self]) (by omega)) m_X5_109 rfl (by decide) (Nat.le_of_ble_eq_true rfl) ⟨(by rw [hRc]; decide), (by rw [hRs]; show 0 + 3 + (cnt + 11) ≤ cnt + 14; omega)⟩ dX5_readScore_28 (fun _ _ _ _ _ h => h.elim) (fun v9 n9 sh9 I9 L9 hq9 => ?_)
  obtain ⟨rfl, rfl, hF9, hr9, k9, j9, l9⟩ := hq9
  have k9 : ∀ a, a < (r + 15) → sh9 a = sh a := fun a ha => (k9 a ha).trans (va_up_ne _ _ (by omega))
  have j9 : ∀ a, a < (r + 15) → I9 a = sR 18 I r (up2 Z1 0 5 1) a := fun a ha => (j9 a ha).trans (va_up_ne _ _ (by omega))
  have l9 : ∀ a, a < (r + 15) → L9 a = L a := fun a ha => (l9 a ha).trans (va_up_ne _ _ (by omega))
  refine y_putR hC (by rw [k9 _ (by omega)]; exact hX.2.2.2.2) f_X5_111 rfl (by constructor <;> rfl) (Or.inl rfl) dX5_readScore_31 ?_
  obtain ⟨hX2, hT2⟩ := hX.nf hT hb (show r + 15 ≤ (r + 15) by omega) k9
  have hF2 := hF9.nf (r := r) (by omega)
  have hZ2 : rcP k v s cnt 15 cnt (gR I9 r) _ := b5.fresh (Z2 := gR I9 r) (fun j hj => (j9 (r + j) (by omega)).trans (sR_at (by omega))) (hr9 0 (by decide))
  have hs := c_sum_all X.2.1 D z (n := r + 15 + 3) (I := I9) (L := L9) hX2 ⟨hT2.2.1, hF2⟩ (gR I9 r) _ hZ2 (fun q => by rw [show (gPut 9 1 (gPut 2002 1 (if P.2.2.2.1 2002 = 0 then gStp P else gErr s (-2) P))).2.2.2.2 = [] by rw [if_pos hd]; exact (hZ.2 h0).2.2.1 (by decide), if_pos hd]; exact Nat.succ_le_succ (Nat.zero_le _)) trivial
  rw [sR_get] at hs
  refine y_aload_n hC dX5_readScore_34 rfl ?_
  refine y_iconst (v := nI 0) hC dX5_readScore_35 (by decide) ?_
  refine y_callZ hC hs m_X5_115 rfl (yP_o hX2.1) (by decide) (Nat.le_of_ble_eq_true rfl) (by rw [hRc]; decide) (by rw [hRs]; show 0 + 3 + (cnt + 11) ≤ cnt + 14; omega) dX5_readScore_36 (fun Z9 g9 => ?_)
  exact y_vret hC hr (by decide) (show 0 + 3 + (cnt + 11) ≤ cnt + 14 by omega) dX5_readScore_39 ⟨rfl, rfl, hX2, hT2, hF2, ⟨fun a ha => (va_up_ne _ _ (by omega)).trans (k9 a (by omega)), fun a ha => by rw [sR_out (by omega), j9 a (by omega), sR_out (by omega)], fun a ha => l9 a (by omega)⟩, I9, Z9, rfl, g9⟩
set_option maxRecDepth 100000 in
set_option maxHeartbeats 4000000 in
theorem c_X5_readScoreB (l : Launch) (D : yD) (z : Nat) {sh : yS} {I : yI} {L : yL} {r b m cnt fo : Nat} {k v s : Nat → Int32} (hX : yPx k sh r b m cnt) (hT : ySet sh (r + 5) fo) (hb : b < r) (hc9 : cnt ≤ 901) {Z : yI} {P : yPs} (hZ : rcP k v s cnt 15 cnt Z P) (h0 : P.2.1 = 0) (hk : k P.1 = 261) (hd : ¬ P.2.2.2.1 2002 = 0) : yM l D z yX5_readScore cX5_readScore 1 none 22 3 (cnt + 14) [.ref r] (r + 18) sh (sR 18 I r Z) L (fun v9 n2 sh2 I2 L2 => v9 = none ∧ n2 = r + 21 ∧ yPx k sh2 r b m cnt ∧ ((∀ a, a < r → sh2 a = sh a) ∧ (∀ a, a < r → I2 a = I a) ∧ (∀ a, a < r → L2 a = L a)) ∧ ∃ I3 Z2, I2 = sR 18 I3 r Z2 ∧ rcP k v s cnt 15 cnt Z2 (gSco k v s cnt P) ∧ ¬ (gSco k v s cnt P).2.1 = 0) (yno) := by
  refine yM_of (by decide) (Nat.le_of_ble_eq_true rfl) rfl ?_
  intro X hC hr hnm hRc hRs htb
  have hC : yC X D z cX5_readScore RX5 1 22 := hC
  refine y_aload_n hC dX5_readScore_0 rfl ?_
  refine y_aload_n hC dX5_readScore_1 rfl ?_
  refine y_getIR (w9 := 18) hC (by decide) (yP_o hX.1) f_X5_104 rfl dX5_readScore_2 ?_
  refine y_callZ hC (p_onc X.2.1 D z hX hZ (Or.inr rfl) (by intro q; rw [hk] at q; exact absurd q (by decide)) hZ.1.2.2.2.2.2.2.2.2.1 (hZ.2 h0).1.1.2.2.1) m_X5_65 rfl (yP_o hX.1) (by omega) (Nat.le_of_ble_eq_true rfl) (Nat.zero_le _) (Nat.zero_le _) dX5_readScore_5 (fun Z1 g1 => ?_)
  refine y_aload_n hC dX5_readScore_8 rfl ?_
  refine y_iconst (v := 1) hC dX5_readScore_9 (by decide) ?_
  refine y_putZR (w9 := 18) hC (by decide) (yP_o hX.1) f_X5_104 rfl (by constructor <;> rfl) dX5_readScore_10 ?_
  have b5 := g1.flag5 (Or.inr rfl)
  refine y_aload_n hC dX5_readScore_13 rfl ?_
  refine y_getR hC (yP_o hX.1) (yP_r1 hX.1) f_X5_18 rfl dX5_readScore_14 ?_
  refine y_new hC kX1 cl_X5_107 (by rw [hRc]; decide) (by rw [hRs]; show 0 + 3 ≤ cnt + 14; omega) dX5_readScore_17 ?_
  refine y_dup hC dX5_readScore_20 rfl ?_
  refine y_aload_n hC dX5_readScore_21 rfl ?_
  refine y_getR (b := r + 1) hC (by rw [va_up_ne _ _ (by omega)]; exact yP_o hX.1) (by rw [va_up_ne _ _ (by omega)]; exact yP_r0 hX.1) f_X5_9 rfl dX5_readScore_22 ?_
  refine y_getI hC (by rw [va_up_ne _ _ (by omega)]; exact yP_t hX.1) f_X5_27 rfl dX5_readScore_25 ?_
  refine y_eqI (y := nI cnt) (by rw [va_up_ne _ _ (by omega), sR_at (by decide)]; exact b5.1.1.2.2.2) ?_
  refine y_callI hC (c_X1_init X.2.1 D z (i := (r + 18)) (cap := cnt) (by rw [va_up_self]) (by rw [va_up_self]) (by omega)) m_X5_109 rfl (by decide) (Nat.le_of_ble_eq_true rfl) ⟨(by rw [hRc]; decide), (by rw [hRs]; show 0 + 3 + (cnt + 11) ≤ cnt + 14; omega)⟩ dX5_readScore_28 (fun _ _ _ _ _ h => h.elim) (fun v9 n9 sh9 I9 L9 hq9 => ?_)
  obtain ⟨rfl, rfl, hF9, hr9, k9, j9, l9⟩ := hq9
  have k9 : ∀ a, a < (r + 18) → sh9 a = sh a := fun a ha => (k9 a ha).trans (va_up_ne _ _ (by omega))
  have j9 : ∀ a, a < (r + 18) → I9 a = sR 18 I r (up2 Z1 0 5 1) a := fun a ha => (j9 a ha).trans (va_up_ne _ _ (by omega))
  have l9 : ∀ a, a < (r + 18) → L9 a = L a := fun a ha => (l9 a ha).trans (va_up_ne _ _ (by omega))
  refine y_putR hC (by rw [k9 _ (by omega)]; exact hX.2.2.2.2) f_X5_111 rfl (by constructor <;> rfl) (Or.inl rfl) dX5_readScore_31 ?_
  obtain ⟨hX2, hT2⟩ := hX.nf hT hb (show r + 15 ≤ (r + 18) by omega) k9
  have hF2 := hF9.nf (r := r) (by omega)
  have hZ2 : rcP k v s cnt 15 cnt (gR I9 r) _ := b5.rows (Or.inr rfl) (Z2 := gR I9 r) (fun j hj => (j9 (r + j) (by omega)).trans (sR_at (by omega)))
  have he : ¬ (gPut 9 1 (gPut 2002 1 (if P.2.2.2.1 2002 = 0 then gStp P else gErr s (-2) P))).2.1 = 0 := by rw [if_neg hd]; exact gErr_e (by decide)
  have hs := c_X5_readSum_dead X.2.1 D z (n := r + 18 + 3) (I := I9) (L := L9) (e := 0) hX2 hZ2 he
  rw [sR_get] at hs
  refine y_aload_n hC dX5_readScore_34 rfl ?_
  refine y_iconst (v := nI 0) hC dX5_readScore_35 (by decide) ?_
  refine y_callV0 hC hs m_X5_115 rfl (yP_o hX2.1) (by decide) (Nat.le_of_ble_eq_true rfl) (by rw [hRc]; decide) (by rw [hRs]; show 0 + 3 + (cnt + 11) ≤ cnt + 14; omega) dX5_readScore_36 ?_
  exact y_vret hC hr (by decide) (show 0 + 3 + (cnt + 11) ≤ cnt + 14 by omega) dX5_readScore_39 ⟨rfl, rfl, hX2, ⟨fun a ha => (va_up_ne _ _ (by omega)).trans (k9 a (by omega)), fun a ha => by rw [j9 a (by omega), sR_out (by omega)], fun a ha => l9 a (by omega)⟩, I9, gR I9 r, sR_get.symm, by rw [gSco]; exact (gSum_er he).symm ▸ hZ2, by rw [gSco]; exact (gSum_er he).symm ▸ he⟩
