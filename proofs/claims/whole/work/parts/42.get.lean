/-- the processor at c: its parts, and which of the ring's books is the present one -/
def yPro (sh : yS) (I : yI) (c at0 : Nat) : Prop := yCha sh c ∧ yHis sh (c + 3) (c + 14) (c + 15) ∧ at0 < 9 ∧ I (c + 3) 1 = nI at0
/-- a setup at su with its formula at f, and what they hold -/
def yEra (sh : yS) (I : yI) (su f m len : Nat) (it : Nat → Int32) (σ : yI) : Prop := ySet sh su f ∧ yFor sh f m ∧ (∀ k, (k = 0 ∨ 4 ≤ k) → k < 10 → I (su + k) = σ k) ∧ I f 2 = nI len ∧ I (f + 1) = it ∧ len ≤ m ∧ m < 2147483648 ∧ ∀ c nn a d s0, fval c nn a d it s0 len = fval c nn a d it (fun _ => 0) len
/-- the counts, and that all indexes are in range -/
def yVal (σ B : yI) (ni nm nr np nd : Nat) : Prop := σ 0 0 = nI ni ∧ σ 0 1 = nI nm ∧ σ 0 6 = nI nr ∧ ni ≤ 4 ∧ nm ≤ 4 ∧ nr ≤ 8 ∧ B 0 5 = nI np ∧ np ≤ 24 ∧ B 0 10 = nI nd ∧ nd ≤ 20 ∧ (∀ k, k < np → vp_in (B 3 k) 4 ∧ vp_in (B 4 k) 4) ∧ (∀ k, k < nd → vp_in (B 7 k) np ∧ vp_in (B 8 k) nr)
theorem vp_mono {x : Int32} {a b : Nat} (h : vp_in x a) (hab : a ≤ b) : vp_in x b := fun q => h (q.imp id (fun r => Nat.le_trans hab r))
theorem yArr_len {sh : yS} {a t u l1 l2 : Nat} (h1 : yArr sh a t l1) (h2 : yArr sh a u l2) : l1 = l2 := by
  have e1 := h1.2; have e2 := h2.2
  exact e1.symm.trans e2
/-- the rows of a book: none is a setup, a formula or a list of length 8 or 11 -/
theorem yBook.kin {sh : yS} {i s a : Nat} (hB : yBook sh i s) (h1 : i ≤ a) (h2 : a < i + 14) : (sh a).1 = 0 ∨ yArr sh a 10 4 ∨ yArr sh a 10 24 ∨ yArr sh a 10 20 := by
  obtain ⟨k, rfl⟩ : ∃ k, a = i + k := ⟨a - i, by omega⟩
  have hk : k < 14 := by omega
  rcases (show k = 0 ∨ k = 1 ∨ k = 2 ∨ k = 3 ∨ k = 4 ∨ k = 5 ∨ k = 6 ∨ k = 7 ∨ k = 8 ∨ k = 9 ∨ k = 10 ∨ k = 11 ∨ k = 12 ∨ k = 13 by omega) with rfl | rfl | rfl | rfl | rfl | rfl | rfl | rfl | rfl | rfl | rfl | rfl | rfl | rfl
  · exact Or.inl (yB_o hB)
  · exact Or.inr (Or.inl (yB_a2 hB))
  · exact Or.inr (Or.inl (yB_a3 hB))
  · exact Or.inr (Or.inr (Or.inl (yB_a6 hB)))
  · exact Or.inr (Or.inr (Or.inl (yB_a7 hB)))
  · exact Or.inr (Or.inr (Or.inl (yB_a8 hB)))
  · exact Or.inr (Or.inr (Or.inl (yB_a9 hB)))
  · exact Or.inr (Or.inr (Or.inr (yB_a11 hB)))
  · exact Or.inr (Or.inr (Or.inr (yB_a12 hB)))
  · exact Or.inr (Or.inr (Or.inr (yB_a13 hB)))
  · exact Or.inr (Or.inr (Or.inr (yB_a14 hB)))
  · exact Or.inr (Or.inr (Or.inr (yB_a15 hB)))
  · exact Or.inr (Or.inr (Or.inr (yB_a16 hB)))
  · exact Or.inr (Or.inr (Or.inr (yB_a17 hB)))
theorem yBook.no {sh : yS} {i s a : Nat} (hB : yBook sh i s) (h : (sh a).1 ≠ 0 ∧ (sh a).1 ≠ 10 ∨ yArr sh a 10 8 ∨ yArr sh a 10 11) : a < i ∨ i + 14 ≤ a := by
  rcases Nat.lt_or_ge a i with h1 | h1
  · exact Or.inl h1
  rcases Nat.lt_or_ge a (i + 14) with h2 | h2
  · rcases hB.kin h1 h2 with q | q | q | q
    · rcases h with h | h | h
      · exact absurd q h.1
      · exact absurd (q.symm.trans h.1) (by decide)
      · exact absurd (q.symm.trans h.1) (by decide)
    all_goals
      rcases h with h | h | h
      · exact absurd q.1 h.2
      · exact absurd (yArr_len q h) (by decide)
      · exact absurd (yArr_len q h) (by decide)
  · exact Or.inr h2
theorem yBook.set {sh : yS} {i s su f : Nat} (hB : yBook sh i s) (hS : ySet sh su f) : su + 10 ≤ i ∨ i + 14 ≤ su := by
  have h0 := hB.no (a := su) (Or.inl (by rw [yS_o hS]; decide))
  have h4 := hB.no (Or.inr (Or.inl (yS_a7 hS)))
  have h9 := hB.no (Or.inr (Or.inl (yS_a12 hS)))
  have h5 := hB.no (Or.inr (Or.inl (yS_a8 hS)))
  have h6 := hB.no (Or.inr (Or.inl (yS_a9 hS)))
  have h7 := hB.no (Or.inr (Or.inl (yS_a10 hS)))
  have h8 := hB.no (Or.inr (Or.inl (yS_a11 hS)))
  omega
theorem yBook.for {sh : yS} {i s f m : Nat} (hB : yBook sh i s) (hF : yFor sh f m) : f + 3 ≤ i ∨ i + 14 ≤ f := by
  have h0 := hB.no (a := f) (Or.inl (by rw [yF_o hF]; decide))
  have h2 := hB.no (Or.inr (Or.inr (yF_a1 hF)))
  omega
theorem ySet.for {sh : yS} {su f0 f m : Nat} (hS : ySet sh su f0) (hF : yFor sh f m) : f = su + 1 ∨ f + 3 ≤ su ∨ su + 10 ≤ f := by
  have k0 : f ≠ su := fun e => by have a := yS_o hS; have b := yF_o hF; rw [e] at b; rw [a] at b; exact absurd b (by decide)
  have k1 : f + 1 ≠ su := fun e => by have a := yS_o hS; have b := (yF_a0 hF).1; rw [e] at b; rw [a] at b; exact absurd b (by decide)
  have k2 : f + 2 ≠ su := fun e => by have a := yS_o hS; have b := (yF_a1 hF).1; rw [e] at b; rw [a] at b; exact absurd b (by decide)
  have e4 : ∀ r, 4 ≤ r → r < 10 → yArr sh (su + r) 10 8 := fun r h1 h2 => by
    rcases (show r = 4 ∨ r = 5 ∨ r = 6 ∨ r = 7 ∨ r = 8 ∨ r = 9 by omega) with rfl | rfl | rfl | rfl | rfl | rfl
    · exact yS_a7 hS
    · exact yS_a8 hS
    · exact yS_a9 hS
    · exact yS_a10 hS
    · exact yS_a11 hS
    · exact yS_a12 hS
  have k3 : ∀ r, 4 ≤ r → r < 10 → f ≠ su + r := fun r h1 h2 e => by have a := (e4 r h1 h2).1; have b := yF_o hF; rw [e] at b; rw [a] at b; exact absurd b (by decide)
  have k4 : ∀ r, 4 ≤ r → r < 10 → f + 2 ≠ su + r := fun r h1 h2 e => by have a := e4 r h1 h2; have b := yF_a1 hF; rw [e] at b; exact absurd (yArr_len a b) (by decide)
  have := k3 4; have := k3 5; have := k3 6; have := k3 7; have := k3 8; have := k3 9
  have := k4 4; have := k4 5
  omega
theorem yEra.sig {sh : yS} {I : yI} {i s su f m len : Nat} {it : Nat → Int32} {σ : yI} (h : yEra sh I su f m len it σ) (hB : yBook sh i s) : ySig I i su σ := ⟨hB.set h.1, h.2.2.1⟩
theorem yEra.phi {sh : yS} {I : yI} {i s su f m len : Nat} {it : Nat → Int32} {σ : yI} (h : yEra sh I su f m len it σ) (hB : yBook sh i s) : yPhi I i su f len m it := ⟨hB.for h.2.1, h.1.for h.2.1, h.2.2.2⟩
theorem c_present_at (l : Launch) (D : yD) (z : Nat) {n : Nat} {sh : yS} {I : yI} {L : yL} {c at0 : Nat} {B : yI} (hP : yPro sh I c at0) : yM l D z yX2_present cX2_present 1 (some (.object "ChargebackProcessor$Book")) 0 0 0 [.ref (c + 3)] n sh (sR 14 I (c + 15 + 14 * at0) B) L (yF (some (.ref (c + 15 + 14 * at0))) n sh (sR 14 I (c + 15 + 14 * at0) B) L) yno :=
  c_X2_present l D z hP.2.1 (by rw [sR_out (by omega)]; exact hP.2.2.2) hP.2.2.1
/-- what a call comes to: a number, or an exception's class -/
abbrev yRes := Except String Int32
def oI (n : Nat) (x : Int32) (r : yRes) : yRes := if x < 0 ∨ n ≤ tn x then .error "java/lang/IndexOutOfBoundsException" else r
def oA (p : Prop) [Decidable p] (r : yRes) : yRes := if p then r else .error "java/lang/IllegalArgumentException"
def oS (p : Prop) [Decidable p] (r : yRes) : yRes := if p then r else .error "java/lang/IllegalStateException"
theorem oI_t {n : Nat} {x : Int32} {r : yRes} (h : vp_in x n) : oI n x r = r := if_neg h
theorem oI_f {n : Nat} {x : Int32} {r : yRes} (h : ¬ vp_in x n) : oI n x r = .error "java/lang/IndexOutOfBoundsException" := if_pos (Decidable.not_not.mp h)
theorem oA_t {p : Prop} [Decidable p] {r : yRes} (h : p) : oA p r = r := if_pos h
theorem oA_f {p : Prop} [Decidable p] {r : yRes} (h : ¬ p) : oA p r = .error "java/lang/IllegalArgumentException" := if_neg h
theorem oS_t {p : Prop} [Decidable p] {r : yRes} (h : p) : oS p r = r := if_pos h
theorem oS_f {p : Prop} [Decidable p] {r : yRes} (h : ¬ p) : oS p r = .error "java/lang/IllegalStateException" := if_neg h
abbrev yOr (o : yRes) (n : Nat) (sh : yS) (I : yI) (f i : Nat) (B : yI) (L : yL) : Option Value → Nat → yS → yI → yL → Prop := fun v n2 sh2 I2 L2 => ∃ r, o = .ok r ∧ v = some (.int r) ∧ n2 = n ∧ sh2 = sh ∧ (∃ J, yScr f I J ∧ I2 = sR 14 J i B) ∧ L2 = L
abbrev yOx (o : yRes) (n : Nat) (sh : yS) (I : yI) (i : Nat) (B : yI) (L : yL) : String → Nat → yS → yI → yL → Prop := fun E n2 sh2 I2 L2 => o = .error E ∧ n ≤ n2 ∧ sh2 = sh ∧ I2 = sR 14 I i B ∧ L2 = L

set_option maxRecDepth 100000 in
set_option maxHeartbeats 4000000 in
theorem c_X7_bookWithMerchant (l : Launch) (D : yD) (z : Nat) {n : Nat} {sh : yS} {I : yI} {L : yL} {c at0 su f m len : Nat} {it : Nat → Int32} {σ B : yI} {ni nm nr np nd : Nat} (hP : yPro sh I c at0) (hB : yBook sh (c + 15 + 14 * at0) su) (hE : yEra sh I su f m len it σ) (hV : yVal σ B ni nm nr np nd) {x : Int32} : yM l D z yX7_bookWithMerchant cX7_bookWithMerchant 3 (some (.object "ChargebackProcessor$Book")) 7 1 6 [.ref c, .int x] n sh (sR 14 I (c + 15 + 14 * at0) B) L (yCk (vp_in x nm) (some (.ref (c + 15 + 14 * at0))) n sh (sR 14 I (c + 15 + 14 * at0) B) L) (yCx "java/lang/IndexOutOfBoundsException" (vp_in x nm) n sh (sR 14 I (c + 15 + 14 * at0) B) L) := by
  refine yM_of (by decide) (Nat.le_of_ble_eq_true rfl) rfl ?_
  intro X hC hr hnm hRc hRs htb
  have hC : yC X D z cX7_bookWithMerchant RX7 3 7 := hC
  have hS := hE.1
  have hF := hE.2.1
  have hσ := hE.sig hB
  have hφ := hE.phi hB
  have hac : yScr f I I := yScr.rf
  obtain ⟨v0, v1, v6, ni4, nm4, nr8, vnp, np24, vnd, nd20, vP, vD⟩ := hV
  refine y_aload_n hC dX7_bookWithMerchant_0 rfl ?_
  refine y_getR hC (yC_o hP.1) (yC_r1 hP.1) f_X7_24 rfl dX7_bookWithMerchant_1 ?_
  refine y_callV1 hC (c_present_at X.2.1 D z hP) m_X7_90 rfl (yH_o hP.2.1) (by decide) (Nat.le_of_ble_eq_true rfl) (Nat.zero_le _) (Nat.zero_le _) dX7_bookWithMerchant_4 ?_
  refine y_astore_n hC dX7_bookWithMerchant_7 (by decide) rfl ?_
  refine y_iload_n hC dX7_bookWithMerchant_8 rfl ?_
  refine y_aload_n hC dX7_bookWithMerchant_9 rfl ?_
  refine y_getR hC (yB_o hB) (yB_r0 hB) f_X7_93 rfl dX7_bookWithMerchant_10 ?_
  refine y_getIG hC hσ (yS_o hS) f_X7_97 rfl dX7_bookWithMerchant_13 ?_
  rw [v1]
  refine y_callS0k hC (c_X7_checkIndex X.2.1 D z (cnt := nm) (by omega)) m_X7_113 rfl (by decide) (Nat.le_of_ble_eq_true rfl) ⟨by rw [hRc]; decide, by rw [hRs]; decide⟩ dX7_bookWithMerchant_16 (fun n2 hn2 hN => yx_out hC htb (by decide) (by decide) ⟨⟨rfl, hN⟩, hn2, rfl, rfl, rfl⟩) (fun hx => ?_)
  refine y_aload_n hC dX7_bookWithMerchant_19 rfl ?_
  exact y_aret hC hr (Or.inl ⟨_, rfl⟩) (by decide) (by decide) dX7_bookWithMerchant_20 ⟨hx, rfl, rfl, rfl, rfl, rfl⟩
set_option maxRecDepth 100000 in
set_option maxHeartbeats 4000000 in
theorem c_X7_bookWithDispute (l : Launch) (D : yD) (z : Nat) {n : Nat} {sh : yS} {I : yI} {L : yL} {c at0 su f m len : Nat} {it : Nat → Int32} {σ B : yI} {ni nm nr np nd : Nat} (hP : yPro sh I c at0) (hB : yBook sh (c + 15 + 14 * at0) su) (hE : yEra sh I su f m len it σ) (hV : yVal σ B ni nm nr np nd) {x : Int32} : yM l D z yX7_bookWithDispute cX7_bookWithDispute 3 (some (.object "ChargebackProcessor$Book")) 7 1 6 [.ref c, .int x] n sh (sR 14 I (c + 15 + 14 * at0) B) L (yCk (vp_in x nd) (some (.ref (c + 15 + 14 * at0))) n sh (sR 14 I (c + 15 + 14 * at0) B) L) (yCx "java/lang/IndexOutOfBoundsException" (vp_in x nd) n sh (sR 14 I (c + 15 + 14 * at0) B) L) := by
  refine yM_of (by decide) (Nat.le_of_ble_eq_true rfl) rfl ?_
  intro X hC hr hnm hRc hRs htb
  have hC : yC X D z cX7_bookWithDispute RX7 3 7 := hC
  have hS := hE.1
  have hF := hE.2.1
  have hσ := hE.sig hB
  have hφ := hE.phi hB
  have hac : yScr f I I := yScr.rf
  obtain ⟨v0, v1, v6, ni4, nm4, nr8, vnp, np24, vnd, nd20, vP, vD⟩ := hV
  refine y_aload_n hC dX7_bookWithDispute_0 rfl ?_
  refine y_getR hC (yC_o hP.1) (yC_r1 hP.1) f_X7_24 rfl dX7_bookWithDispute_1 ?_
  refine y_callV1 hC (c_present_at X.2.1 D z hP) m_X7_90 rfl (yH_o hP.2.1) (by decide) (Nat.le_of_ble_eq_true rfl) (Nat.zero_le _) (Nat.zero_le _) dX7_bookWithDispute_4 ?_
  refine y_astore_n hC dX7_bookWithDispute_7 (by decide) rfl ?_
  refine y_iload_n hC dX7_bookWithDispute_8 rfl ?_
  refine y_aload_n hC dX7_bookWithDispute_9 rfl ?_
  refine y_getIR (w9 := 14) hC (by decide) (yB_o hB) f_X7_103 rfl dX7_bookWithDispute_10 ?_
  rw [vnd]
  refine y_callS0k hC (c_X7_checkIndex X.2.1 D z (cnt := nd) (by omega)) m_X7_113 rfl (by decide) (Nat.le_of_ble_eq_true rfl) ⟨by rw [hRc]; decide, by rw [hRs]; decide⟩ dX7_bookWithDispute_13 (fun n2 hn2 hN => yx_out hC htb (by decide) (by decide) ⟨⟨rfl, hN⟩, hn2, rfl, rfl, rfl⟩) (fun hx => ?_)
  refine y_aload_n hC dX7_bookWithDispute_16 rfl ?_
  exact y_aret hC hr (Or.inl ⟨_, rfl⟩) (by decide) (by decide) dX7_bookWithDispute_17 ⟨hx, rfl, rfl, rfl, rfl, rfl⟩
set_option maxRecDepth 100000 in
set_option maxHeartbeats 4000000 in
theorem c_X7_issuerCount (l : Launch) (D : yD) (z : Nat) {n : Nat} {sh : yS} {I : yI} {L : yL} {c at0 su f m len : Nat} {it : Nat → Int32} {σ B : yI} {ni nm nr np nd : Nat} (hP : yPro sh I c at0) (hB : yBook sh (c + 15 + 14 * at0) su) (hE : yEra sh I su f m len it σ) (hV : yVal σ B ni nm nr np nd) : yM l D z yX7_issuerCount cX7_issuerCount 1 (some .int) 1 0 0 [.ref c] n sh (sR 14 I (c + 15 + 14 * at0) B) L (yOr (.ok (σ 0 0)) n sh I f (c + 15 + 14 * at0) B L) (yno) := by
  refine yM_of (by decide) (Nat.le_of_ble_eq_true rfl) rfl ?_
  intro X hC hr hnm hRc hRs htb
  have hC : yC X D z cX7_issuerCount RX7 1 1 := hC
  have hS := hE.1
  have hF := hE.2.1
  have hσ := hE.sig hB
  have hφ := hE.phi hB
  have hac : yScr f I I := yScr.rf
  obtain ⟨v0, v1, v6, ni4, nm4, nr8, vnp, np24, vnd, nd20, vP, vD⟩ := hV
  refine y_aload_n hC dX7_issuerCount_0 rfl ?_
  refine y_getR hC (yC_o hP.1) (yC_r1 hP.1) f_X7_24 rfl dX7_issuerCount_1 ?_
  refine y_callV1 hC (c_present_at X.2.1 D z hP) m_X7_90 rfl (yH_o hP.2.1) (by decide) (Nat.le_of_ble_eq_true rfl) (Nat.zero_le _) (Nat.zero_le _) dX7_issuerCount_4 ?_
  refine y_getR hC (yB_o hB) (yB_r0 hB) f_X7_93 rfl dX7_issuerCount_7 ?_
  refine y_getIG hC hσ (yS_o hS) f_X7_94 rfl dX7_issuerCount_10 ?_
  exact y_iret hC hr rfl (Nat.zero_le _) (Nat.zero_le _) dX7_issuerCount_13 ⟨_, rfl, rfl, rfl, rfl, ⟨_, hac, rfl⟩, rfl⟩
set_option maxRecDepth 100000 in
set_option maxHeartbeats 4000000 in
theorem c_X7_merchantCount (l : Launch) (D : yD) (z : Nat) {n : Nat} {sh : yS} {I : yI} {L : yL} {c at0 su f m len : Nat} {it : Nat → Int32} {σ B : yI} {ni nm nr np nd : Nat} (hP : yPro sh I c at0) (hB : yBook sh (c + 15 + 14 * at0) su) (hE : yEra sh I su f m len it σ) (hV : yVal σ B ni nm nr np nd) : yM l D z yX7_merchantCount cX7_merchantCount 1 (some .int) 1 0 0 [.ref c] n sh (sR 14 I (c + 15 + 14 * at0) B) L (yOr (.ok (σ 0 1)) n sh I f (c + 15 + 14 * at0) B L) (yno) := by
  refine yM_of (by decide) (Nat.le_of_ble_eq_true rfl) rfl ?_
  intro X hC hr hnm hRc hRs htb
  have hC : yC X D z cX7_merchantCount RX7 1 1 := hC
  have hS := hE.1
  have hF := hE.2.1
  have hσ := hE.sig hB
  have hφ := hE.phi hB
  have hac : yScr f I I := yScr.rf
  obtain ⟨v0, v1, v6, ni4, nm4, nr8, vnp, np24, vnd, nd20, vP, vD⟩ := hV
  refine y_aload_n hC dX7_merchantCount_0 rfl ?_
  refine y_getR hC (yC_o hP.1) (yC_r1 hP.1) f_X7_24 rfl dX7_merchantCount_1 ?_
  refine y_callV1 hC (c_present_at X.2.1 D z hP) m_X7_90 rfl (yH_o hP.2.1) (by decide) (Nat.le_of_ble_eq_true rfl) (Nat.zero_le _) (Nat.zero_le _) dX7_merchantCount_4 ?_
  refine y_getR hC (yB_o hB) (yB_r0 hB) f_X7_93 rfl dX7_merchantCount_7 ?_
  refine y_getIG hC hσ (yS_o hS) f_X7_97 rfl dX7_merchantCount_10 ?_
  exact y_iret hC hr rfl (Nat.zero_le _) (Nat.zero_le _) dX7_merchantCount_13 ⟨_, rfl, rfl, rfl, rfl, ⟨_, hac, rfl⟩, rfl⟩
set_option maxRecDepth 100000 in
set_option maxHeartbeats 4000000 in
theorem c_X7_reasonCount (l : Launch) (D : yD) (z : Nat) {n : Nat} {sh : yS} {I : yI} {L : yL} {c at0 su f m len : Nat} {it : Nat → Int32} {σ B : yI} {ni nm nr np nd : Nat} (hP : yPro sh I c at0) (hB : yBook sh (c + 15 + 14 * at0) su) (hE : yEra sh I su f m len it σ) (hV : yVal σ B ni nm nr np nd) : yM l D z yX7_reasonCount cX7_reasonCount 1 (some .int) 1 0 0 [.ref c] n sh (sR 14 I (c + 15 + 14 * at0) B) L (yOr (.ok (σ 0 6)) n sh I f (c + 15 + 14 * at0) B L) (yno) := by
  refine yM_of (by decide) (Nat.le_of_ble_eq_true rfl) rfl ?_
  intro X hC hr hnm hRc hRs htb
  have hC : yC X D z cX7_reasonCount RX7 1 1 := hC
  have hS := hE.1
  have hF := hE.2.1
  have hσ := hE.sig hB
  have hφ := hE.phi hB
  have hac : yScr f I I := yScr.rf
  obtain ⟨v0, v1, v6, ni4, nm4, nr8, vnp, np24, vnd, nd20, vP, vD⟩ := hV
  refine y_aload_n hC dX7_reasonCount_0 rfl ?_
  refine y_getR hC (yC_o hP.1) (yC_r1 hP.1) f_X7_24 rfl dX7_reasonCount_1 ?_
  refine y_callV1 hC (c_present_at X.2.1 D z hP) m_X7_90 rfl (yH_o hP.2.1) (by decide) (Nat.le_of_ble_eq_true rfl) (Nat.zero_le _) (Nat.zero_le _) dX7_reasonCount_4 ?_
  refine y_getR hC (yB_o hB) (yB_r0 hB) f_X7_93 rfl dX7_reasonCount_7 ?_
  refine y_getIG hC hσ (yS_o hS) f_X7_87 rfl dX7_reasonCount_10 ?_
  exact y_iret hC hr rfl (Nat.zero_le _) (Nat.zero_le _) dX7_reasonCount_13 ⟨_, rfl, rfl, rfl, rfl, ⟨_, hac, rfl⟩, rfl⟩
set_option maxRecDepth 100000 in
set_option maxHeartbeats 4000000 in
theorem c_X7_purchaseCount (l : Launch) (D : yD) (z : Nat) {n : Nat} {sh : yS} {I : yI} {L : yL} {c at0 su f m len : Nat} {it : Nat → Int32} {σ B : yI} {ni nm nr np nd : Nat} (hP : yPro sh I c at0) (hB : yBook sh (c + 15 + 14 * at0) su) (hE : yEra sh I su f m len it σ) (hV : yVal σ B ni nm nr np nd) : yM l D z yX7_purchaseCount cX7_purchaseCount 1 (some .int) 1 0 0 [.ref c] n sh (sR 14 I (c + 15 + 14 * at0) B) L (yOr (.ok (B 0 5)) n sh I f (c + 15 + 14 * at0) B L) (yno) := by
  refine yM_of (by decide) (Nat.le_of_ble_eq_true rfl) rfl ?_
  intro X hC hr hnm hRc hRs htb
  have hC : yC X D z cX7_purchaseCount RX7 1 1 := hC
  have hS := hE.1
  have hF := hE.2.1
  have hσ := hE.sig hB
  have hφ := hE.phi hB
  have hac : yScr f I I := yScr.rf
  obtain ⟨v0, v1, v6, ni4, nm4, nr8, vnp, np24, vnd, nd20, vP, vD⟩ := hV
  refine y_aload_n hC dX7_purchaseCount_0 rfl ?_
  refine y_getR hC (yC_o hP.1) (yC_r1 hP.1) f_X7_24 rfl dX7_purchaseCount_1 ?_
  refine y_callV1 hC (c_present_at X.2.1 D z hP) m_X7_90 rfl (yH_o hP.2.1) (by decide) (Nat.le_of_ble_eq_true rfl) (Nat.zero_le _) (Nat.zero_le _) dX7_purchaseCount_4 ?_
  refine y_getIR (w9 := 14) hC (by decide) (yB_o hB) f_X7_100 rfl dX7_purchaseCount_7 ?_
  exact y_iret hC hr rfl (Nat.zero_le _) (Nat.zero_le _) dX7_purchaseCount_10 ⟨_, rfl, rfl, rfl, rfl, ⟨_, hac, rfl⟩, rfl⟩
set_option maxRecDepth 100000 in
set_option maxHeartbeats 4000000 in
theorem c_X7_disputeCount (l : Launch) (D : yD) (z : Nat) {n : Nat} {sh : yS} {I : yI} {L : yL} {c at0 su f m len : Nat} {it : Nat → Int32} {σ B : yI} {ni nm nr np nd : Nat} (hP : yPro sh I c at0) (hB : yBook sh (c + 15 + 14 * at0) su) (hE : yEra sh I su f m len it σ) (hV : yVal σ B ni nm nr np nd) : yM l D z yX7_disputeCount cX7_disputeCount 1 (some .int) 1 0 0 [.ref c] n sh (sR 14 I (c + 15 + 14 * at0) B) L (yOr (.ok (B 0 10)) n sh I f (c + 15 + 14 * at0) B L) (yno) := by
  refine yM_of (by decide) (Nat.le_of_ble_eq_true rfl) rfl ?_
  intro X hC hr hnm hRc hRs htb
  have hC : yC X D z cX7_disputeCount RX7 1 1 := hC
  have hS := hE.1
  have hF := hE.2.1
  have hσ := hE.sig hB
  have hφ := hE.phi hB
  have hac : yScr f I I := yScr.rf
  obtain ⟨v0, v1, v6, ni4, nm4, nr8, vnp, np24, vnd, nd20, vP, vD⟩ := hV
  refine y_aload_n hC dX7_disputeCount_0 rfl ?_
  refine y_getR hC (yC_o hP.1) (yC_r1 hP.1) f_X7_24 rfl dX7_disputeCount_1 ?_
  refine y_callV1 hC (c_present_at X.2.1 D z hP) m_X7_90 rfl (yH_o hP.2.1) (by decide) (Nat.le_of_ble_eq_true rfl) (Nat.zero_le _) (Nat.zero_le _) dX7_disputeCount_4 ?_
  refine y_getIR (w9 := 14) hC (by decide) (yB_o hB) f_X7_103 rfl dX7_disputeCount_7 ?_
  exact y_iret hC hr rfl (Nat.zero_le _) (Nat.zero_le _) dX7_disputeCount_10 ⟨_, rfl, rfl, rfl, rfl, ⟨_, hac, rfl⟩, rfl⟩
set_option maxRecDepth 100000 in
set_option maxHeartbeats 4000000 in
theorem c_X7_today (l : Launch) (D : yD) (z : Nat) {n : Nat} {sh : yS} {I : yI} {L : yL} {c at0 su f m len : Nat} {it : Nat → Int32} {σ B : yI} {ni nm nr np nd : Nat} (hP : yPro sh I c at0) (hB : yBook sh (c + 15 + 14 * at0) su) (hE : yEra sh I su f m len it σ) (hV : yVal σ B ni nm nr np nd) : yM l D z yX7_today cX7_today 1 (some .int) 1 0 0 [.ref c] n sh (sR 14 I (c + 15 + 14 * at0) B) L (yOr (.ok (B 0 1)) n sh I f (c + 15 + 14 * at0) B L) (yno) := by
  refine yM_of (by decide) (Nat.le_of_ble_eq_true rfl) rfl ?_
  intro X hC hr hnm hRc hRs htb
  have hC : yC X D z cX7_today RX7 1 1 := hC
  have hS := hE.1
  have hF := hE.2.1
  have hσ := hE.sig hB
  have hφ := hE.phi hB
  have hac : yScr f I I := yScr.rf
  obtain ⟨v0, v1, v6, ni4, nm4, nr8, vnp, np24, vnd, nd20, vP, vD⟩ := hV
  refine y_aload_n hC dX7_today_0 rfl ?_
  refine y_getR hC (yC_o hP.1) (yC_r1 hP.1) f_X7_24 rfl dX7_today_1 ?_
  refine y_callV1 hC (c_present_at X.2.1 D z hP) m_X7_90 rfl (yH_o hP.2.1) (by decide) (Nat.le_of_ble_eq_true rfl) (Nat.zero_le _) (Nat.zero_le _) dX7_today_4 ?_
  refine y_getIR (w9 := 14) hC (by decide) (yB_o hB) f_X7_106 rfl dX7_today_7 ?_
  exact y_iret hC hr rfl (Nat.zero_le _) (Nat.zero_le _) dX7_today_10 ⟨_, rfl, rfl, rfl, rfl, ⟨_, hac, rfl⟩, rfl⟩
set_option maxRecDepth 100000 in
set_option maxHeartbeats 4000000 in
theorem c_X7_networkAccount (l : Launch) (D : yD) (z : Nat) {n : Nat} {sh : yS} {I : yI} {L : yL} {c at0 su f m len : Nat} {it : Nat → Int32} {σ B : yI} {ni nm nr np nd : Nat} (hP : yPro sh I c at0) (hB : yBook sh (c + 15 + 14 * at0) su) (hE : yEra sh I su f m len it σ) (hV : yVal σ B ni nm nr np nd) : yM l D z yX7_networkAccount cX7_networkAccount 1 (some .int) 1 0 0 [.ref c] n sh (sR 14 I (c + 15 + 14 * at0) B) L (yOr (.ok (B 0 4)) n sh I f (c + 15 + 14 * at0) B L) (yno) := by
  refine yM_of (by decide) (Nat.le_of_ble_eq_true rfl) rfl ?_
  intro X hC hr hnm hRc hRs htb
  have hC : yC X D z cX7_networkAccount RX7 1 1 := hC
  have hS := hE.1
  have hF := hE.2.1
  have hσ := hE.sig hB
  have hφ := hE.phi hB
  have hac : yScr f I I := yScr.rf
  obtain ⟨v0, v1, v6, ni4, nm4, nr8, vnp, np24, vnd, nd20, vP, vD⟩ := hV
  refine y_aload_n hC dX7_networkAccount_0 rfl ?_
  refine y_getR hC (yC_o hP.1) (yC_r1 hP.1) f_X7_24 rfl dX7_networkAccount_1 ?_
  refine y_callV1 hC (c_present_at X.2.1 D z hP) m_X7_90 rfl (yH_o hP.2.1) (by decide) (Nat.le_of_ble_eq_true rfl) (Nat.zero_le _) (Nat.zero_le _) dX7_networkAccount_4 ?_
  refine y_getIR (w9 := 14) hC (by decide) (yB_o hB) f_X7_128 rfl dX7_networkAccount_7 ?_
  exact y_iret hC hr rfl (Nat.zero_le _) (Nat.zero_le _) dX7_networkAccount_10 ⟨_, rfl, rfl, rfl, rfl, ⟨_, hac, rfl⟩, rfl⟩
set_option maxRecDepth 100000 in
set_option maxHeartbeats 4000000 in
theorem c_X7_state (l : Launch) (D : yD) (z : Nat) {n : Nat} {sh : yS} {I : yI} {L : yL} {c at0 su f m len : Nat} {it : Nat → Int32} {σ B : yI} {ni nm nr np nd : Nat} (hP : yPro sh I c at0) (hB : yBook sh (c + 15 + 14 * at0) su) (hE : yEra sh I su f m len it σ) (hV : yVal σ B ni nm nr np nd) {x : Int32} {d : Nat} (hd : vp_in x nd → x = nI d ∧ d < nd) : yM l D z yX7_state cX7_state 2 (some .int) 8 1 6 [.ref c, .int x] n sh (sR 14 I (c + 15 + 14 * at0) B) L (yOr (oI nd x (.ok (B 12 d))) n sh I f (c + 15 + 14 * at0) B L) (yOx (oI nd x (.ok (B 12 d))) n sh I (c + 15 + 14 * at0) B L) := by
  refine yM_of (by decide) (Nat.le_of_ble_eq_true rfl) rfl ?_
  intro X hC hr hnm hRc hRs htb
  have hC : yC X D z cX7_state RX7 2 8 := hC
  have hS := hE.1
  have hF := hE.2.1
  have hσ := hE.sig hB
  have hφ := hE.phi hB
  have hac : yScr f I I := yScr.rf
  obtain ⟨v0, v1, v6, ni4, nm4, nr8, vnp, np24, vnd, nd20, vP, vD⟩ := hV
  refine y_aload_n hC dX7_state_0 rfl ?_
  refine y_iload_n hC dX7_state_1 rfl ?_
  refine y_callV1k hC (c_X7_bookWithDispute X.2.1 D z hP hB hE ⟨v0, v1, v6, ni4, nm4, nr8, vnp, np24, vnd, nd20, vP, vD⟩ (x := x)) m_X7_134 rfl (yC_o hP.1) (by decide) (Nat.le_of_ble_eq_true rfl) ⟨by rw [hRc]; decide, by rw [hRs]; decide⟩ dX7_state_2 (fun n2 hn2 hN => yx_out hC htb (by decide) (by decide) ⟨oI_f hN, hn2, rfl, rfl, rfl⟩) (fun hx => ?_)
  obtain ⟨rfl, dl⟩ := hd hx
  obtain ⟨h7, h8⟩ := vD d dl
  refine y_getR hC (yB_o hB) (yB_r16 hB) f_X7_137 rfl dX7_state_5 ?_
  refine y_iload_n hC dX7_state_8 rfl ?_
  refine y_ialdRN (w9 := 14) hC (by decide) (yB_a16 hB) (by omega) dX7_state_9 ?_
  exact y_iret hC hr rfl (by decide) (by decide) dX7_state_10 ⟨_, (oI_t hx).trans (rfl), rfl, rfl, rfl, ⟨_, hac, rfl⟩, rfl⟩
set_option maxRecDepth 100000 in
set_option maxHeartbeats 4000000 in
theorem c_X7_deadline (l : Launch) (D : yD) (z : Nat) {n : Nat} {sh : yS} {I : yI} {L : yL} {c at0 su f m len : Nat} {it : Nat → Int32} {σ B : yI} {ni nm nr np nd : Nat} (hP : yPro sh I c at0) (hB : yBook sh (c + 15 + 14 * at0) su) (hE : yEra sh I su f m len it σ) (hV : yVal σ B ni nm nr np nd) {x : Int32} {d : Nat} (hd : vp_in x nd → x = nI d ∧ d < nd) : yM l D z yX7_deadline cX7_deadline 2 (some .int) 8 1 6 [.ref c, .int x] n sh (sR 14 I (c + 15 + 14 * at0) B) L (yOr (oI nd x (.ok (B 13 d))) n sh I f (c + 15 + 14 * at0) B L) (yOx (oI nd x (.ok (B 13 d))) n sh I (c + 15 + 14 * at0) B L) := by
  refine yM_of (by decide) (Nat.le_of_ble_eq_true rfl) rfl ?_
  intro X hC hr hnm hRc hRs htb
  have hC : yC X D z cX7_deadline RX7 2 8 := hC
  have hS := hE.1
  have hF := hE.2.1
  have hσ := hE.sig hB
  have hφ := hE.phi hB
  have hac : yScr f I I := yScr.rf
  obtain ⟨v0, v1, v6, ni4, nm4, nr8, vnp, np24, vnd, nd20, vP, vD⟩ := hV
  refine y_aload_n hC dX7_deadline_0 rfl ?_
  refine y_iload_n hC dX7_deadline_1 rfl ?_
  refine y_callV1k hC (c_X7_bookWithDispute X.2.1 D z hP hB hE ⟨v0, v1, v6, ni4, nm4, nr8, vnp, np24, vnd, nd20, vP, vD⟩ (x := x)) m_X7_134 rfl (yC_o hP.1) (by decide) (Nat.le_of_ble_eq_true rfl) ⟨by rw [hRc]; decide, by rw [hRs]; decide⟩ dX7_deadline_2 (fun n2 hn2 hN => yx_out hC htb (by decide) (by decide) ⟨oI_f hN, hn2, rfl, rfl, rfl⟩) (fun hx => ?_)
  obtain ⟨rfl, dl⟩ := hd hx
  obtain ⟨h7, h8⟩ := vD d dl
  refine y_getR hC (yB_o hB) (yB_r17 hB) f_X7_140 rfl dX7_deadline_5 ?_
  refine y_iload_n hC dX7_deadline_8 rfl ?_
  refine y_ialdRN (w9 := 14) hC (by decide) (yB_a17 hB) (by omega) dX7_deadline_9 ?_
  exact y_iret hC hr rfl (by decide) (by decide) dX7_deadline_10 ⟨_, (oI_t hx).trans (rfl), rfl, rfl, rfl, ⟨_, hac, rfl⟩, rfl⟩
set_option maxRecDepth 100000 in
set_option maxHeartbeats 4000000 in
theorem c_X7_evidence (l : Launch) (D : yD) (z : Nat) {n : Nat} {sh : yS} {I : yI} {L : yL} {c at0 su f m len : Nat} {it : Nat → Int32} {σ B : yI} {ni nm nr np nd : Nat} (hP : yPro sh I c at0) (hB : yBook sh (c + 15 + 14 * at0) su) (hE : yEra sh I su f m len it σ) (hV : yVal σ B ni nm nr np nd) {x : Int32} {d : Nat} (hd : vp_in x nd → x = nI d ∧ d < nd) : yM l D z yX7_evidence cX7_evidence 2 (some .int) 8 1 6 [.ref c, .int x] n sh (sR 14 I (c + 15 + 14 * at0) B) L (yOr (oI nd x (.ok (B 11 d))) n sh I f (c + 15 + 14 * at0) B L) (yOx (oI nd x (.ok (B 11 d))) n sh I (c + 15 + 14 * at0) B L) := by
  refine yM_of (by decide) (Nat.le_of_ble_eq_true rfl) rfl ?_
  intro X hC hr hnm hRc hRs htb
  have hC : yC X D z cX7_evidence RX7 2 8 := hC
  have hS := hE.1
  have hF := hE.2.1
  have hσ := hE.sig hB
  have hφ := hE.phi hB
  have hac : yScr f I I := yScr.rf
  obtain ⟨v0, v1, v6, ni4, nm4, nr8, vnp, np24, vnd, nd20, vP, vD⟩ := hV
  refine y_aload_n hC dX7_evidence_0 rfl ?_
  refine y_iload_n hC dX7_evidence_1 rfl ?_
  refine y_callV1k hC (c_X7_bookWithDispute X.2.1 D z hP hB hE ⟨v0, v1, v6, ni4, nm4, nr8, vnp, np24, vnd, nd20, vP, vD⟩ (x := x)) m_X7_134 rfl (yC_o hP.1) (by decide) (Nat.le_of_ble_eq_true rfl) ⟨by rw [hRc]; decide, by rw [hRs]; decide⟩ dX7_evidence_2 (fun n2 hn2 hN => yx_out hC htb (by decide) (by decide) ⟨oI_f hN, hn2, rfl, rfl, rfl⟩) (fun hx => ?_)
  obtain ⟨rfl, dl⟩ := hd hx
  obtain ⟨h7, h8⟩ := vD d dl
  refine y_getR hC (yB_o hB) (yB_r15 hB) f_X7_143 rfl dX7_evidence_5 ?_
  refine y_iload_n hC dX7_evidence_8 rfl ?_
  refine y_ialdRN (w9 := 14) hC (by decide) (yB_a15 hB) (by omega) dX7_evidence_9 ?_
  exact y_iret hC hr rfl (by decide) (by decide) dX7_evidence_10 ⟨_, (oI_t hx).trans (rfl), rfl, rfl, rfl, ⟨_, hac, rfl⟩, rfl⟩
set_option maxRecDepth 100000 in
set_option maxHeartbeats 4000000 in
theorem c_X7_isWithMerchant (l : Launch) (D : yD) (z : Nat) {n : Nat} {sh : yS} {I : yI} {L : yL} {c at0 su f m len : Nat} {it : Nat → Int32} {σ B : yI} {ni nm nr np nd : Nat} (hP : yPro sh I c at0) (hB : yBook sh (c + 15 + 14 * at0) su) (hE : yEra sh I su f m len it σ) (hV : yVal σ B ni nm nr np nd) {x : Int32} {d : Nat} (hd : vp_in x nd → x = nI d ∧ d < nd) : yM l D z yX7_isWithMerchant cX7_isWithMerchant 2 (some .boolean) 8 1 6 [.ref c, .int x] n sh (sR 14 I (c + 15 + 14 * at0) B) L (yOr (oI nd x (.ok (b2i (B 12 d = 1 ∨ B 12 d = 5)))) n sh I f (c + 15 + 14 * at0) B L) (yOx (oI nd x (.ok (b2i (B 12 d = 1 ∨ B 12 d = 5)))) n sh I (c + 15 + 14 * at0) B L) := by
  refine yM_of (by decide) (Nat.le_of_ble_eq_true rfl) rfl ?_
  intro X hC hr hnm hRc hRs htb
  have hC : yC X D z cX7_isWithMerchant RX7 2 8 := hC
  have hS := hE.1
  have hF := hE.2.1
  have hσ := hE.sig hB
  have hφ := hE.phi hB
  have hac : yScr f I I := yScr.rf
  obtain ⟨v0, v1, v6, ni4, nm4, nr8, vnp, np24, vnd, nd20, vP, vD⟩ := hV
  refine y_aload_n hC dX7_isWithMerchant_0 rfl ?_
  refine y_iload_n hC dX7_isWithMerchant_1 rfl ?_
  refine y_callV1k hC (c_X7_bookWithDispute X.2.1 D z hP hB hE ⟨v0, v1, v6, ni4, nm4, nr8, vnp, np24, vnd, nd20, vP, vD⟩ (x := x)) m_X7_134 rfl (yC_o hP.1) (by decide) (Nat.le_of_ble_eq_true rfl) ⟨by rw [hRc]; decide, by rw [hRs]; decide⟩ dX7_isWithMerchant_2 (fun n2 hn2 hN => yx_out hC htb (by decide) (by decide) ⟨oI_f hN, hn2, rfl, rfl, rfl⟩) (fun hx => ?_)
  obtain ⟨rfl, dl⟩ := hd hx
  obtain ⟨h7, h8⟩ := vD d dl
  refine y_iload_n hC dX7_isWithMerchant_5 rfl ?_
  refine y_callV1 hC (c_X0_merchantHolds X.2.1 D z hB (by omega)) m_X7_146 rfl (yB_o hB) (by decide) (Nat.le_of_ble_eq_true rfl) (by rw [hRc]; decide) (by rw [hRs]; decide) dX7_isWithMerchant_6 ?_
  exact y_iret hC hr b2i_z (by decide) (by decide) dX7_isWithMerchant_9 ⟨_, (oI_t hx).trans (rfl), rfl, rfl, rfl, ⟨_, hac, rfl⟩, rfl⟩
set_option maxRecDepth 100000 in
set_option maxHeartbeats 4000000 in
theorem c_X7_score (l : Launch) (D : yD) (z : Nat) {n : Nat} {sh : yS} {I : yI} {L : yL} {c at0 su f m len : Nat} {it : Nat → Int32} {σ B : yI} {ni nm nr np nd : Nat} (hP : yPro sh I c at0) (hB : yBook sh (c + 15 + 14 * at0) su) (hE : yEra sh I su f m len it σ) (hV : yVal σ B ni nm nr np nd) {x : Int32} {d : Nat} (hd : vp_in x nd → x = nI d ∧ d < nd) : yM l D z yX7_score cX7_score 2 (some .int) 8 1 6 [.ref c, .int x] n sh (sR 14 I (c + 15 + 14 * at0) B) L (yOr (oI nd x (.ok (scV σ it len B d (B 11 d)))) n sh I f (c + 15 + 14 * at0) B L) (yOx (oI nd x (.ok (scV σ it len B d (B 11 d)))) n sh I (c + 15 + 14 * at0) B L) := by
  refine yM_of (by decide) (Nat.le_of_ble_eq_true rfl) rfl ?_
  intro X hC hr hnm hRc hRs htb
  have hC : yC X D z cX7_score RX7 2 8 := hC
  have hS := hE.1
  have hF := hE.2.1
  have hσ := hE.sig hB
  have hφ := hE.phi hB
  have hac : yScr f I I := yScr.rf
  obtain ⟨v0, v1, v6, ni4, nm4, nr8, vnp, np24, vnd, nd20, vP, vD⟩ := hV
  refine y_aload_n hC dX7_score_0 rfl ?_
  refine y_iload_n hC dX7_score_1 rfl ?_
  refine y_callV1k hC (c_X7_bookWithDispute X.2.1 D z hP hB hE ⟨v0, v1, v6, ni4, nm4, nr8, vnp, np24, vnd, nd20, vP, vD⟩ (x := x)) m_X7_134 rfl (yC_o hP.1) (by decide) (Nat.le_of_ble_eq_true rfl) ⟨by rw [hRc]; decide, by rw [hRs]; decide⟩ dX7_score_2 (fun n2 hn2 hN => yx_out hC htb (by decide) (by decide) ⟨oI_f hN, hn2, rfl, rfl, rfl⟩) (fun hx => ?_)
  obtain ⟨rfl, dl⟩ := hd hx
  obtain ⟨h7, h8⟩ := vD d dl
  refine y_iload_n hC dX7_score_5 rfl ?_
  refine y_callV1s hC (c_X0_ownScore X.2.1 D z hB hS hσ hF hφ (d := d) (by omega) (vp_mono h7 np24) (vp_mono h8 nr8)) m_X7_150 rfl (yB_o hB) (by decide) (Nat.le_of_ble_eq_true rfl) (by rw [hRc]; decide) (by rw [hRs]; decide) dX7_score_6 (fun K6 hsc6 => ?_)
  have hac := hac.trans hsc6
  have hσ := hσ.scr hφ hsc6
  have hφ := hφ.scr hsc6
  exact y_iret hC hr rfl (by decide) (by decide) dX7_score_9 ⟨_, (oI_t hx).trans (rfl), rfl, rfl, rfl, ⟨_, hac, rfl⟩, rfl⟩
set_option maxRecDepth 100000 in
set_option maxHeartbeats 4000000 in
theorem c_X7_bestEvidence (l : Launch) (D : yD) (z : Nat) {n : Nat} {sh : yS} {I : yI} {L : yL} {c at0 su f m len : Nat} {it : Nat → Int32} {σ B : yI} {ni nm nr np nd : Nat} (hP : yPro sh I c at0) (hB : yBook sh (c + 15 + 14 * at0) su) (hE : yEra sh I su f m len it σ) (hV : yVal σ B ni nm nr np nd) {x : Int32} {d : Nat} (hd : vp_in x nd → x = nI d ∧ d < nd) : yM l D z yX7_bestEvidence cX7_bestEvidence 2 (some .int) 8 1 6 [.ref c, .int x] n sh (sR 14 I (c + 15 + 14 * at0) B) L (yOr (oI nd x (.ok (lstS (cvP σ it len B d) 9 (B 11 d ||| σ 9 (tn (B 8 d)))))) n sh I f (c + 15 + 14 * at0) B L) (yOx (oI nd x (.ok (lstS (cvP σ it len B d) 9 (B 11 d ||| σ 9 (tn (B 8 d)))))) n sh I (c + 15 + 14 * at0) B L) := by
  refine yM_of (by decide) (Nat.le_of_ble_eq_true rfl) rfl ?_
  intro X hC hr hnm hRc hRs htb
  have hC : yC X D z cX7_bestEvidence RX7 2 8 := hC
  have hS := hE.1
  have hF := hE.2.1
  have hσ := hE.sig hB
  have hφ := hE.phi hB
  have hac : yScr f I I := yScr.rf
  obtain ⟨v0, v1, v6, ni4, nm4, nr8, vnp, np24, vnd, nd20, vP, vD⟩ := hV
  refine y_aload_n hC dX7_bestEvidence_0 rfl ?_
  refine y_iload_n hC dX7_bestEvidence_1 rfl ?_
  refine y_callV1k hC (c_X7_bookWithDispute X.2.1 D z hP hB hE ⟨v0, v1, v6, ni4, nm4, nr8, vnp, np24, vnd, nd20, vP, vD⟩ (x := x)) m_X7_134 rfl (yC_o hP.1) (by decide) (Nat.le_of_ble_eq_true rfl) ⟨by rw [hRc]; decide, by rw [hRs]; decide⟩ dX7_bestEvidence_2 (fun n2 hn2 hN => yx_out hC htb (by decide) (by decide) ⟨oI_f hN, hn2, rfl, rfl, rfl⟩) (fun hx => ?_)
  obtain ⟨rfl, dl⟩ := hd hx
  obtain ⟨h7, h8⟩ := vD d dl
  refine y_iload_n hC dX7_bestEvidence_5 rfl ?_
  refine y_callV1s hC (c_X0_leastConvincing X.2.1 D z hB hS hσ hF hφ (d := d) (by omega) (vp_mono h7 np24) (vp_mono h8 nr8)) m_X7_161 rfl (yB_o hB) (by decide) (Nat.le_of_ble_eq_true rfl) (by rw [hRc]; decide) (by rw [hRs]; decide) dX7_bestEvidence_6 (fun K6 hsc6 => ?_)
  have hac := hac.trans hsc6
  have hσ := hσ.scr hφ hsc6
  have hφ := hφ.scr hsc6
  exact y_iret hC hr rfl (by decide) (by decide) dX7_bestEvidence_9 ⟨_, (oI_t hx).trans (rfl), rfl, rfl, rfl, ⟨_, hac, rfl⟩, rfl⟩
set_option maxRecDepth 100000 in
set_option maxHeartbeats 4000000 in
theorem c_X7_issuerAccount (l : Launch) (D : yD) (z : Nat) {n : Nat} {sh : yS} {I : yI} {L : yL} {c at0 su f m len : Nat} {it : Nat → Int32} {σ B : yI} {ni nm nr np nd : Nat} (hP : yPro sh I c at0) (hB : yBook sh (c + 15 + 14 * at0) su) (hE : yEra sh I su f m len it σ) (hV : yVal σ B ni nm nr np nd) {x : Int32} {mi : Nat} (hmi : vp_in x ni → x = nI mi ∧ mi < ni) : yM l D z yX7_issuerAccount cX7_issuerAccount 3 (some .int) 8 1 6 [.ref c, .int x] n sh (sR 14 I (c + 15 + 14 * at0) B) L (yOr (oI ni x (.ok (B 1 mi))) n sh I f (c + 15 + 14 * at0) B L) (yOx (oI ni x (.ok (B 1 mi))) n sh I (c + 15 + 14 * at0) B L) := by
  refine yM_of (by decide) (Nat.le_of_ble_eq_true rfl) rfl ?_
  intro X hC hr hnm hRc hRs htb
  have hC : yC X D z cX7_issuerAccount RX7 3 8 := hC
  have hS := hE.1
  have hF := hE.2.1
  have hσ := hE.sig hB
  have hφ := hE.phi hB
  have hac : yScr f I I := yScr.rf
  obtain ⟨v0, v1, v6, ni4, nm4, nr8, vnp, np24, vnd, nd20, vP, vD⟩ := hV
  refine y_aload_n hC dX7_issuerAccount_0 rfl ?_
  refine y_getR hC (yC_o hP.1) (yC_r1 hP.1) f_X7_24 rfl dX7_issuerAccount_1 ?_
  refine y_callV1 hC (c_present_at X.2.1 D z hP) m_X7_90 rfl (yH_o hP.2.1) (by decide) (Nat.le_of_ble_eq_true rfl) (Nat.zero_le _) (Nat.zero_le _) dX7_issuerAccount_4 ?_
  refine y_astore_n hC dX7_issuerAccount_7 (by decide) rfl ?_
  refine y_iload_n hC dX7_issuerAccount_8 rfl ?_
  refine y_aload_n hC dX7_issuerAccount_9 rfl ?_
  refine y_getR hC (yB_o hB) (yB_r0 hB) f_X7_93 rfl dX7_issuerAccount_10 ?_
  refine y_getIG hC hσ (yS_o hS) f_X7_94 rfl dX7_issuerAccount_13 ?_
  rw [v0]
  refine y_callS0k hC (c_X7_checkIndex X.2.1 D z (cnt := ni) (by omega)) m_X7_113 rfl (by decide) (Nat.le_of_ble_eq_true rfl) ⟨by rw [hRc]; decide, by rw [hRs]; decide⟩ dX7_issuerAccount_16 (fun n2 hn2 hN => yx_out hC htb (by decide) (by decide) ⟨oI_f hN, hn2, rfl, rfl, rfl⟩) (fun hx => ?_)
  obtain ⟨rfl, mil⟩ := hmi hx
  refine y_aload_n hC dX7_issuerAccount_19 rfl ?_
  refine y_getR hC (yB_o hB) (yB_r2 hB) f_X7_117 rfl dX7_issuerAccount_20 ?_
  refine y_iload_n hC dX7_issuerAccount_23 rfl ?_
  refine y_ialdRN (w9 := 14) hC (by decide) (yB_a2 hB) (by omega) dX7_issuerAccount_24 ?_
  exact y_iret hC hr rfl (by decide) (by decide) dX7_issuerAccount_25 ⟨_, (oI_t hx).trans (rfl), rfl, rfl, rfl, ⟨_, hac, rfl⟩, rfl⟩
set_option maxRecDepth 100000 in
set_option maxHeartbeats 4000000 in
theorem c_X7_disputed (l : Launch) (D : yD) (z : Nat) {n : Nat} {sh : yS} {I : yI} {L : yL} {c at0 su f m len : Nat} {it : Nat → Int32} {σ B : yI} {ni nm nr np nd : Nat} (hP : yPro sh I c at0) (hB : yBook sh (c + 15 + 14 * at0) su) (hE : yEra sh I su f m len it σ) (hV : yVal σ B ni nm nr np nd) {x : Int32} {p : Nat} (hp : vp_in x np → x = nI p ∧ p < np) : yM l D z yX7_disputed cX7_disputed 3 (some .int) 8 1 6 [.ref c, .int x] n sh (sR 14 I (c + 15 + 14 * at0) B) L (yOr (oI np x (.ok (sm (fun k => if B 7 k = nI p ∧ ¬ B 12 k = 5 then B 9 k else 0) nd))) n sh I f (c + 15 + 14 * at0) B L) (yOx (oI np x (.ok (sm (fun k => if B 7 k = nI p ∧ ¬ B 12 k = 5 then B 9 k else 0) nd))) n sh I (c + 15 + 14 * at0) B L) := by
  refine yM_of (by decide) (Nat.le_of_ble_eq_true rfl) rfl ?_
  intro X hC hr hnm hRc hRs htb
  have hC : yC X D z cX7_disputed RX7 3 8 := hC
  have hS := hE.1
  have hF := hE.2.1
  have hσ := hE.sig hB
  have hφ := hE.phi hB
  have hac : yScr f I I := yScr.rf
  obtain ⟨v0, v1, v6, ni4, nm4, nr8, vnp, np24, vnd, nd20, vP, vD⟩ := hV
  refine y_aload_n hC dX7_disputed_0 rfl ?_
  refine y_getR hC (yC_o hP.1) (yC_r1 hP.1) f_X7_24 rfl dX7_disputed_1 ?_
  refine y_callV1 hC (c_present_at X.2.1 D z hP) m_X7_90 rfl (yH_o hP.2.1) (by decide) (Nat.le_of_ble_eq_true rfl) (Nat.zero_le _) (Nat.zero_le _) dX7_disputed_4 ?_
  refine y_astore_n hC dX7_disputed_7 (by decide) rfl ?_
  refine y_iload_n hC dX7_disputed_8 rfl ?_
  refine y_aload_n hC dX7_disputed_9 rfl ?_
  refine y_getIR (w9 := 14) hC (by decide) (yB_o hB) f_X7_100 rfl dX7_disputed_10 ?_
  rw [vnp]
  refine y_callS0k hC (c_X7_checkIndex X.2.1 D z (cnt := np) (by omega)) m_X7_113 rfl (by decide) (Nat.le_of_ble_eq_true rfl) ⟨by rw [hRc]; decide, by rw [hRs]; decide⟩ dX7_disputed_13 (fun n2 hn2 hN => yx_out hC htb (by decide) (by decide) ⟨oI_f hN, hn2, rfl, rfl, rfl⟩) (fun hx => ?_)
  obtain ⟨rfl, pl⟩ := hp hx
  refine y_aload_n hC dX7_disputed_16 rfl ?_
  refine y_iload_n hC dX7_disputed_17 rfl ?_
  refine y_callV1 hC (c_X0_disputedAmount X.2.1 D z hB vnd (by omega)) m_X7_131 rfl (yB_o hB) (by decide) (Nat.le_of_ble_eq_true rfl) (by rw [hRc]; decide) (by rw [hRs]; decide) dX7_disputed_18 ?_
  exact y_iret hC hr rfl (by decide) (by decide) dX7_disputed_21 ⟨_, (oI_t hx).trans (rfl), rfl, rfl, rfl, ⟨_, hac, rfl⟩, rfl⟩
set_option maxRecDepth 100000 in
set_option maxHeartbeats 4000000 in
theorem c_X7_merchantAccount (l : Launch) (D : yD) (z : Nat) {n : Nat} {sh : yS} {I : yI} {L : yL} {c at0 su f m len : Nat} {it : Nat → Int32} {σ B : yI} {ni nm nr np nd : Nat} (hP : yPro sh I c at0) (hB : yBook sh (c + 15 + 14 * at0) su) (hE : yEra sh I su f m len it σ) (hV : yVal σ B ni nm nr np nd) {x : Int32} {mr : Nat} (hmr : vp_in x nm → x = nI mr ∧ mr < nm) : yM l D z yX7_merchantAccount cX7_merchantAccount 3 (some .int) 8 1 6 [.ref c, .int x] n sh (sR 14 I (c + 15 + 14 * at0) B) L (yOr (oI nm x (.ok (B 2 mr))) n sh I f (c + 15 + 14 * at0) B L) (yOx (oI nm x (.ok (B 2 mr))) n sh I (c + 15 + 14 * at0) B L) := by
  refine yM_of (by decide) (Nat.le_of_ble_eq_true rfl) rfl ?_
  intro X hC hr hnm hRc hRs htb
  have hC : yC X D z cX7_merchantAccount RX7 3 8 := hC
  have hS := hE.1
  have hF := hE.2.1
  have hσ := hE.sig hB
  have hφ := hE.phi hB
  have hac : yScr f I I := yScr.rf
  obtain ⟨v0, v1, v6, ni4, nm4, nr8, vnp, np24, vnd, nd20, vP, vD⟩ := hV
  refine y_aload_n hC dX7_merchantAccount_0 rfl ?_
  refine y_iload_n hC dX7_merchantAccount_1 rfl ?_
  refine y_callV1k hC (c_X7_bookWithMerchant X.2.1 D z hP hB hE ⟨v0, v1, v6, ni4, nm4, nr8, vnp, np24, vnd, nd20, vP, vD⟩ (x := x)) m_X7_121 rfl (yC_o hP.1) (by decide) (Nat.le_of_ble_eq_true rfl) ⟨by rw [hRc]; decide, by rw [hRs]; decide⟩ dX7_merchantAccount_2 (fun n2 hn2 hN => yx_out hC htb (by decide) (by decide) ⟨oI_f hN, hn2, rfl, rfl, rfl⟩) (fun hx => ?_)
  obtain ⟨rfl, mrl⟩ := hmr hx
  refine y_astore_n hC dX7_merchantAccount_5 (by decide) rfl ?_
  refine y_aload_n hC dX7_merchantAccount_6 rfl ?_
  refine y_getR hC (yB_o hB) (yB_r3 hB) f_X7_125 rfl dX7_merchantAccount_7 ?_
  refine y_iload_n hC dX7_merchantAccount_10 rfl ?_
  refine y_ialdRN (w9 := 14) hC (by decide) (yB_a3 hB) (by omega) dX7_merchantAccount_11 ?_
  exact y_iret hC hr rfl (by decide) (by decide) dX7_merchantAccount_12 ⟨_, (oI_t hx).trans (rfl), rfl, rfl, rfl, ⟨_, hac, rfl⟩, rfl⟩
set_option maxRecDepth 100000 in
set_option maxHeartbeats 4000000 in
theorem c_X7_rate (l : Launch) (D : yD) (z : Nat) {n : Nat} {sh : yS} {I : yI} {L : yL} {c at0 su f m len : Nat} {it : Nat → Int32} {σ B : yI} {ni nm nr np nd : Nat} (hP : yPro sh I c at0) (hB : yBook sh (c + 15 + 14 * at0) su) (hE : yEra sh I su f m len it σ) (hV : yVal σ B ni nm nr np nd) {x : Int32} {mr : Nat} (hmr : vp_in x nm → x = nI mr ∧ mr < nm) : yM l D z yX7_rate cX7_rate 2 (some .int) 8 1 6 [.ref c, .int x] n sh (sR 14 I (c + 15 + 14 * at0) B) L (yOr (oI nm x (.ok (rateB B np nd (nI mr)))) n sh I f (c + 15 + 14 * at0) B L) (yOx (oI nm x (.ok (rateB B np nd (nI mr)))) n sh I (c + 15 + 14 * at0) B L) := by
  refine yM_of (by decide) (Nat.le_of_ble_eq_true rfl) rfl ?_
  intro X hC hr hnm hRc hRs htb
  have hC : yC X D z cX7_rate RX7 2 8 := hC
  have hS := hE.1
  have hF := hE.2.1
  have hσ := hE.sig hB
  have hφ := hE.phi hB
  have hac : yScr f I I := yScr.rf
  obtain ⟨v0, v1, v6, ni4, nm4, nr8, vnp, np24, vnd, nd20, vP, vD⟩ := hV
  refine y_aload_n hC dX7_rate_0 rfl ?_
  refine y_iload_n hC dX7_rate_1 rfl ?_
  refine y_callV1k hC (c_X7_bookWithMerchant X.2.1 D z hP hB hE ⟨v0, v1, v6, ni4, nm4, nr8, vnp, np24, vnd, nd20, vP, vD⟩ (x := x)) m_X7_121 rfl (yC_o hP.1) (by decide) (Nat.le_of_ble_eq_true rfl) ⟨by rw [hRc]; decide, by rw [hRs]; decide⟩ dX7_rate_2 (fun n2 hn2 hN => yx_out hC htb (by decide) (by decide) ⟨oI_f hN, hn2, rfl, rfl, rfl⟩) (fun hx => ?_)
  obtain ⟨rfl, mrl⟩ := hmr hx
  refine y_iload_n hC dX7_rate_5 rfl ?_
  refine y_callV1 hC (c_X0_disputeRate X.2.1 D z hB vnp np24 vnd nd20 (fun k hk => vp_mono (vD k hk).1 np24)) m_X7_168 rfl (yB_o hB) (by decide) (Nat.le_of_ble_eq_true rfl) (by rw [hRc]; decide) (by rw [hRs]; decide) dX7_rate_6 ?_
  exact y_iret hC hr rfl (by decide) (by decide) dX7_rate_9 ⟨_, (oI_t hx).trans (rfl), rfl, rfl, rfl, ⟨_, hac, rfl⟩, rfl⟩
set_option maxRecDepth 100000 in
set_option maxHeartbeats 4000000 in
theorem c_X7_isWatched (l : Launch) (D : yD) (z : Nat) {n : Nat} {sh : yS} {I : yI} {L : yL} {c at0 su f m len : Nat} {it : Nat → Int32} {σ B : yI} {ni nm nr np nd : Nat} (hP : yPro sh I c at0) (hB : yBook sh (c + 15 + 14 * at0) su) (hE : yEra sh I su f m len it σ) (hV : yVal σ B ni nm nr np nd) {x : Int32} {mr : Nat} (hmr : vp_in x nm → x = nI mr ∧ mr < nm) : yM l D z yX7_isWatched cX7_isWatched 3 (some .boolean) 8 1 6 [.ref c, .int x] n sh (sR 14 I (c + 15 + 14 * at0) B) L (yOr (oI nm x (.ok (b2i (¬ rateB B np nd (nI mr) ≤ σ 0 4)))) n sh I f (c + 15 + 14 * at0) B L) (yOx (oI nm x (.ok (b2i (¬ rateB B np nd (nI mr) ≤ σ 0 4)))) n sh I (c + 15 + 14 * at0) B L) := by
  refine yM_of (by decide) (Nat.le_of_ble_eq_true rfl) rfl ?_
  intro X hC hr hnm hRc hRs htb
  have hC : yC X D z cX7_isWatched RX7 3 8 := hC
  have hS := hE.1
  have hF := hE.2.1
  have hσ := hE.sig hB
  have hφ := hE.phi hB
  have hac : yScr f I I := yScr.rf
  obtain ⟨v0, v1, v6, ni4, nm4, nr8, vnp, np24, vnd, nd20, vP, vD⟩ := hV
  refine y_aload_n hC dX7_isWatched_0 rfl ?_
  refine y_iload_n hC dX7_isWatched_1 rfl ?_
  refine y_callV1k hC (c_X7_bookWithMerchant X.2.1 D z hP hB hE ⟨v0, v1, v6, ni4, nm4, nr8, vnp, np24, vnd, nd20, vP, vD⟩ (x := x)) m_X7_121 rfl (yC_o hP.1) (by decide) (Nat.le_of_ble_eq_true rfl) ⟨by rw [hRc]; decide, by rw [hRs]; decide⟩ dX7_isWatched_2 (fun n2 hn2 hN => yx_out hC htb (by decide) (by decide) ⟨oI_f hN, hn2, rfl, rfl, rfl⟩) (fun hx => ?_)
  obtain ⟨rfl, mrl⟩ := hmr hx
  refine y_astore_n hC dX7_isWatched_5 (by decide) rfl ?_
  refine y_aload_n hC dX7_isWatched_6 rfl ?_
  refine y_iload_n hC dX7_isWatched_7 rfl ?_
  refine y_callV1 hC (c_X0_disputeRate X.2.1 D z hB vnp np24 vnd nd20 (fun k hk => vp_mono (vD k hk).1 np24)) m_X7_168 rfl (yB_o hB) (by decide) (Nat.le_of_ble_eq_true rfl) (by rw [hRc]; decide) (by rw [hRs]; decide) dX7_isWatched_8 ?_
  refine y_aload_n hC dX7_isWatched_11 rfl ?_
  refine y_getR hC (yB_o hB) (yB_r0 hB) f_X7_93 rfl dX7_isWatched_12 ?_
  refine y_getIG hC hσ (yS_o hS) f_X7_171 rfl dX7_isWatched_15 ?_
  refine y_icmp_le (tgt := 25) hC dX7_isWatched_18 (by decide) (fun c18 => ?_) (fun c18 => ?_)
  · refine y_iconst (v := 0) hC dX7_isWatched_25 (by decide) ?_
    exact y_iret hC hr rfl (by decide) (by decide) dX7_isWatched_26 ⟨_, (oI_t hx).trans rfl, by first | exact congrArg (fun q => some (Value.int q)) (b2i_t c18).symm | exact congrArg (fun q => some (Value.int q)) (b2i_f (fun q => q c18)).symm, rfl, rfl, ⟨_, hac, rfl⟩, rfl⟩
  · refine y_iconst (v := nI 1) hC dX7_isWatched_21 (by decide) ?_
    refine y_goto (tgt := 26) hC dX7_isWatched_22 (by decide) ?_
    exact y_iret hC hr rfl (by decide) (by decide) dX7_isWatched_26 ⟨_, (oI_t hx).trans rfl, by first | exact congrArg (fun q => some (Value.int q)) (b2i_t c18).symm | exact congrArg (fun q => some (Value.int q)) (b2i_f (fun q => q c18)).symm, rfl, rfl, ⟨_, hac, rfl⟩, rfl⟩
set_option maxRecDepth 100000 in
set_option maxHeartbeats 4000000 in
theorem c_X7_exposure (l : Launch) (D : yD) (z : Nat) {n : Nat} {sh : yS} {I : yI} {L : yL} {c at0 su f m len : Nat} {it : Nat → Int32} {σ B : yI} {ni nm nr np nd : Nat} (hP : yPro sh I c at0) (hB : yBook sh (c + 15 + 14 * at0) su) (hE : yEra sh I su f m len it σ) (hV : yVal σ B ni nm nr np nd) {x : Int32} {mr : Nat} (hmr : vp_in x nm → x = nI mr ∧ mr < nm) : yM l D z yX7_exposure cX7_exposure 2 (some .int) 8 1 6 [.ref c, .int x] n sh (sR 14 I (c + 15 + 14 * at0) B) L (yOr (oI nm x (.ok (sm (fun k => if B 4 (tn (B 7 k)) = nI mr ∧ ¬ (B 12 k = 4 ∨ B 12 k = 5) then B 9 k else 0) nd))) n sh I f (c + 15 + 14 * at0) B L) (yOx (oI nm x (.ok (sm (fun k => if B 4 (tn (B 7 k)) = nI mr ∧ ¬ (B 12 k = 4 ∨ B 12 k = 5) then B 9 k else 0) nd))) n sh I (c + 15 + 14 * at0) B L) := by
  refine yM_of (by decide) (Nat.le_of_ble_eq_true rfl) rfl ?_
  intro X hC hr hnm hRc hRs htb
  have hC : yC X D z cX7_exposure RX7 2 8 := hC
  have hS := hE.1
  have hF := hE.2.1
  have hσ := hE.sig hB
  have hφ := hE.phi hB
  have hac : yScr f I I := yScr.rf
  obtain ⟨v0, v1, v6, ni4, nm4, nr8, vnp, np24, vnd, nd20, vP, vD⟩ := hV
  refine y_aload_n hC dX7_exposure_0 rfl ?_
  refine y_iload_n hC dX7_exposure_1 rfl ?_
  refine y_callV1k hC (c_X7_bookWithMerchant X.2.1 D z hP hB hE ⟨v0, v1, v6, ni4, nm4, nr8, vnp, np24, vnd, nd20, vP, vD⟩ (x := x)) m_X7_121 rfl (yC_o hP.1) (by decide) (Nat.le_of_ble_eq_true rfl) ⟨by rw [hRc]; decide, by rw [hRs]; decide⟩ dX7_exposure_2 (fun n2 hn2 hN => yx_out hC htb (by decide) (by decide) ⟨oI_f hN, hn2, rfl, rfl, rfl⟩) (fun hx => ?_)
  obtain ⟨rfl, mrl⟩ := hmr hx
  refine y_iload_n hC dX7_exposure_5 rfl ?_
  refine y_callV1 hC (c_X0_openAmount X.2.1 D z hB vnd nd20 (fun k hk => vp_mono (vD k hk).1 np24)) m_X7_174 rfl (yB_o hB) (by decide) (Nat.le_of_ble_eq_true rfl) (by rw [hRc]; decide) (by rw [hRs]; decide) dX7_exposure_6 ?_
  exact y_iret hC hr rfl (by decide) (by decide) dX7_exposure_9 ⟨_, (oI_t hx).trans (rfl), rfl, rfl, rfl, ⟨_, hac, rfl⟩, rfl⟩
set_option maxRecDepth 100000 in
set_option maxHeartbeats 4000000 in
theorem c_X7_settled (l : Launch) (D : yD) (z : Nat) {n : Nat} {sh : yS} {I : yI} {L : yL} {c at0 su f m len : Nat} {it : Nat → Int32} {σ B : yI} {ni nm nr np nd : Nat} (hP : yPro sh I c at0) (hB : yBook sh (c + 15 + 14 * at0) su) (hE : yEra sh I su f m len it σ) (hV : yVal σ B ni nm nr np nd) {x : Int32} {mr : Nat} (hmr : vp_in x nm → x = nI mr ∧ mr < nm) : yM l D z yX7_settled cX7_settled 2 (some .int) 8 1 6 [.ref c, .int x] n sh (sR 14 I (c + 15 + 14 * at0) B) L (yOr (oI nm x (.ok (B 2 mr + sm (fun k => if B 4 (tn (B 7 k)) = nI mr ∧ ¬ (B 12 k = 4 ∨ B 12 k = 5) then gainB σ B k (idO σ it len B k) else 0) nd))) n sh I f (c + 15 + 14 * at0) B L) (yOx (oI nm x (.ok (B 2 mr + sm (fun k => if B 4 (tn (B 7 k)) = nI mr ∧ ¬ (B 12 k = 4 ∨ B 12 k = 5) then gainB σ B k (idO σ it len B k) else 0) nd))) n sh I (c + 15 + 14 * at0) B L) := by
  refine yM_of (by decide) (Nat.le_of_ble_eq_true rfl) rfl ?_
  intro X hC hr hnm hRc hRs htb
  have hC : yC X D z cX7_settled RX7 2 8 := hC
  have hS := hE.1
  have hF := hE.2.1
  have hσ := hE.sig hB
  have hφ := hE.phi hB
  have hac : yScr f I I := yScr.rf
  obtain ⟨v0, v1, v6, ni4, nm4, nr8, vnp, np24, vnd, nd20, vP, vD⟩ := hV
  refine y_aload_n hC dX7_settled_0 rfl ?_
  refine y_iload_n hC dX7_settled_1 rfl ?_
  refine y_callV1k hC (c_X7_bookWithMerchant X.2.1 D z hP hB hE ⟨v0, v1, v6, ni4, nm4, nr8, vnp, np24, vnd, nd20, vP, vD⟩ (x := x)) m_X7_121 rfl (yC_o hP.1) (by decide) (Nat.le_of_ble_eq_true rfl) ⟨by rw [hRc]; decide, by rw [hRs]; decide⟩ dX7_settled_2 (fun n2 hn2 hN => yx_out hC htb (by decide) (by decide) ⟨oI_f hN, hn2, rfl, rfl, rfl⟩) (fun hx => ?_)
  obtain ⟨rfl, mrl⟩ := hmr hx
  refine y_iload_n hC dX7_settled_5 rfl ?_
  refine y_callV1s hC (c_X0_predictedAccount X.2.1 D z hB hS hσ hF hφ vnd nd20 (fun k hk => vp_mono (vD k hk).1 np24) (fun k hk => vp_mono (vD k hk).2 nr8) (mr := mr) (by omega)) m_X7_177 rfl (yB_o hB) (by decide) (Nat.le_of_ble_eq_true rfl) (by rw [hRc]; decide) (by rw [hRs]; decide) dX7_settled_6 (fun K6 hsc6 => ?_)
  have hac := hac.trans hsc6
  have hσ := hσ.scr hφ hsc6
  have hφ := hφ.scr hsc6
  exact y_iret hC hr rfl (by decide) (by decide) dX7_settled_9 ⟨_, (oI_t hx).trans (rfl), rfl, rfl, rfl, ⟨_, hac, rfl⟩, rfl⟩
set_option maxRecDepth 100000 in
set_option maxHeartbeats 4000000 in
theorem c_X7_wouldWin (l : Launch) (D : yD) (z : Nat) {n : Nat} {sh : yS} {I : yI} {L : yL} {c at0 su f m len : Nat} {it : Nat → Int32} {σ B : yI} {ni nm nr np nd : Nat} (hP : yPro sh I c at0) (hB : yBook sh (c + 15 + 14 * at0) su) (hE : yEra sh I su f m len it σ) (hV : yVal σ B ni nm nr np nd) {x : Int32} {d : Nat} (hd : vp_in x nd → x = nI d ∧ d < nd) {ev : Int32} : yM l D z yX7_wouldWin cX7_wouldWin 4 (some .boolean) 8 2 12 [.ref c, .int x, .int ev] n sh (sR 14 I (c + 15 + 14 * at0) B) L (yOr (oI nd x (oA (¬ ev < 0 ∧ ev ≤ 255) (.ok (b2i (cvP σ it len B d ev))))) n sh I f (c + 15 + 14 * at0) B L) (yOx (oI nd x (oA (¬ ev < 0 ∧ ev ≤ 255) (.ok (b2i (cvP σ it len B d ev))))) n sh I (c + 15 + 14 * at0) B L) := by
  refine yM_of (by decide) (Nat.le_of_ble_eq_true rfl) rfl ?_
  intro X hC hr hnm hRc hRs htb
  have hC : yC X D z cX7_wouldWin RX7 4 8 := hC
  have hS := hE.1
  have hF := hE.2.1
  have hσ := hE.sig hB
  have hφ := hE.phi hB
  have hac : yScr f I I := yScr.rf
  obtain ⟨v0, v1, v6, ni4, nm4, nr8, vnp, np24, vnd, nd20, vP, vD⟩ := hV
  refine y_aload_n hC dX7_wouldWin_0 rfl ?_
  refine y_iload_n hC dX7_wouldWin_1 rfl ?_
  refine y_callV1k hC (c_X7_bookWithDispute X.2.1 D z hP hB hE ⟨v0, v1, v6, ni4, nm4, nr8, vnp, np24, vnd, nd20, vP, vD⟩ (x := x)) m_X7_134 rfl (yC_o hP.1) (by decide) (Nat.le_of_ble_eq_true rfl) ⟨by rw [hRc]; decide, by rw [hRs]; decide⟩ dX7_wouldWin_2 (fun n2 hn2 hN => yx_out hC htb (by decide) (by decide) ⟨oI_f hN, hn2, rfl, rfl, rfl⟩) (fun hx => ?_)
  obtain ⟨rfl, dl⟩ := hd hx
  obtain ⟨h7, h8⟩ := vD d dl
  refine y_astore_n hC dX7_wouldWin_5 (by decide) rfl ?_
  refine y_iload_n hC dX7_wouldWin_6 rfl ?_
  refine y_iconst (v := 0) hC dX7_wouldWin_7 (by decide) ?_
  refine y_sipush (v := 255) hC dX7_wouldWin_8 (by decide) ?_
  refine y_callS0k hC (c_X7_checkRange X.2.1 D z) m_X7_153 rfl (by decide) (Nat.le_of_ble_eq_true rfl) ⟨by rw [hRc]; decide, by rw [hRs]; decide⟩ dX7_wouldWin_11 (fun n2 hn2 hN => yx_out hC htb (by decide) (by decide) ⟨(oI_t hx).trans (oA_f hN), hn2, rfl, rfl, rfl⟩) (fun hy => ?_)
  refine y_aload_n hC dX7_wouldWin_14 rfl ?_
  refine y_iload_n hC dX7_wouldWin_15 rfl ?_
  refine y_iload_n hC dX7_wouldWin_16 rfl ?_
  refine y_callV1s hC (c_X0_convinces X.2.1 D z hB hS hσ hF hφ (d := d) (by omega) (vp_mono h7 np24) (vp_mono h8 nr8)) m_X7_157 rfl (yB_o hB) (by decide) (Nat.le_of_ble_eq_true rfl) (by rw [hRc]; decide) (by rw [hRs]; decide) dX7_wouldWin_17 (fun K17 hsc17 => ?_)
  have hac := hac.trans hsc17
  have hσ := hσ.scr hφ hsc17
  have hφ := hφ.scr hsc17
  exact y_iret hC hr b2i_z (by decide) (by decide) dX7_wouldWin_20 ⟨_, (oI_t hx).trans ((oA_t hy).trans (rfl)), rfl, rfl, rfl, ⟨_, hac, rfl⟩, rfl⟩
set_option maxRecDepth 100000 in
set_option maxHeartbeats 4000000 in
theorem c_X7_nextDeadline (l : Launch) (D : yD) (z : Nat) {n : Nat} {sh : yS} {I : yI} {L : yL} {c at0 su f m len : Nat} {it : Nat → Int32} {σ B : yI} {ni nm nr np nd : Nat} (hP : yPro sh I c at0) (hB : yBook sh (c + 15 + 14 * at0) su) (hE : yEra sh I su f m len it σ) (hV : yVal σ B ni nm nr np nd) : yM l D z yX7_nextDeadline cX7_nextDeadline 1 (some .int) 2 0 0 [.ref c] n sh (sR 14 I (c + 15 + 14 * at0) B) L (yOr (.ok (edl (B 12) (B 13) nd)) n sh I f (c + 15 + 14 * at0) B L) (yno) := by
  refine yM_of (by decide) (Nat.le_of_ble_eq_true rfl) rfl ?_
  intro X hC hr hnm hRc hRs htb
  have hC : yC X D z cX7_nextDeadline RX7 1 2 := hC
  have hS := hE.1
  have hF := hE.2.1
  have hσ := hE.sig hB
  have hφ := hE.phi hB
  have hac : yScr f I I := yScr.rf
  obtain ⟨v0, v1, v6, ni4, nm4, nr8, vnp, np24, vnd, nd20, vP, vD⟩ := hV
  refine y_aload_n hC dX7_nextDeadline_0 rfl ?_
  refine y_getR hC (yC_o hP.1) (yC_r1 hP.1) f_X7_24 rfl dX7_nextDeadline_1 ?_
  refine y_callV1 hC (c_present_at X.2.1 D z hP) m_X7_90 rfl (yH_o hP.2.1) (by decide) (Nat.le_of_ble_eq_true rfl) (Nat.zero_le _) (Nat.zero_le _) dX7_nextDeadline_4 ?_
  refine y_callV1 hC (c_X0_earliestDeadline X.2.1 D z hB vnd nd20) m_X7_164 rfl (yB_o hB) (by decide) (Nat.le_of_ble_eq_true rfl) (Nat.zero_le _) (Nat.zero_le _) dX7_nextDeadline_7 ?_
  exact y_iret hC hr rfl (Nat.zero_le _) (Nat.zero_le _) dX7_nextDeadline_10 ⟨_, rfl, rfl, rfl, rfl, ⟨_, hac, rfl⟩, rfl⟩
set_option maxRecDepth 100000 in
set_option maxHeartbeats 4000000 in
theorem c_X7_reasonOf (l : Launch) (D : yD) (z : Nat) {n : Nat} {sh : yS} {I : yI} {L : yL} {c at0 su f m len : Nat} {it : Nat → Int32} {σ B : yI} {ni nm nr np nd : Nat} (hP : yPro sh I c at0) (hB : yBook sh (c + 15 + 14 * at0) su) (hE : yEra sh I su f m len it σ) (hV : yVal σ B ni nm nr np nd) {x : Int32} : yM l D z yX7_reasonOf cX7_reasonOf 2 (some .int) 1 0 0 [.ref c, .int x] n sh (sR 14 I (c + 15 + 14 * at0) B) L (yOr (.ok (rwc (σ 4) x 0 nr)) n sh I f (c + 15 + 14 * at0) B L) (yno) := by
  refine yM_of (by decide) (Nat.le_of_ble_eq_true rfl) rfl ?_
  intro X hC hr hnm hRc hRs htb
  have hC : yC X D z cX7_reasonOf RX7 2 1 := hC
  have hS := hE.1
  have hF := hE.2.1
  have hσ := hE.sig hB
  have hφ := hE.phi hB
  have hac : yScr f I I := yScr.rf
  obtain ⟨v0, v1, v6, ni4, nm4, nr8, vnp, np24, vnd, nd20, vP, vD⟩ := hV
  refine y_aload_n hC dX7_reasonOf_0 rfl ?_
  refine y_getR hC (yC_o hP.1) (yC_r1 hP.1) f_X7_24 rfl dX7_reasonOf_1 ?_
  refine y_callV1 hC (c_present_at X.2.1 D z hP) m_X7_90 rfl (yH_o hP.2.1) (by decide) (Nat.le_of_ble_eq_true rfl) (Nat.zero_le _) (Nat.zero_le _) dX7_reasonOf_4 ?_
  refine y_getR hC (yB_o hB) (yB_r0 hB) f_X7_93 rfl dX7_reasonOf_7 ?_
  refine y_iload_n hC dX7_reasonOf_10 rfl ?_
  refine y_callV1 hC (c_X4_reasonWithCode X.2.1 D z hS (nr := nr) ((congrFun (hσ.at (r := 0) (by decide)) 6).trans v6) nr8) m_X7_109 rfl (yS_o hS) (by decide) (Nat.le_of_ble_eq_true rfl) (Nat.zero_le _) (Nat.zero_le _) dX7_reasonOf_11 ?_
  rw [hσ.at (r := 4) (by decide)]
  exact y_iret hC hr rfl (Nat.zero_le _) (Nat.zero_le _) dX7_reasonOf_14 ⟨_, rfl, rfl, rfl, rfl, ⟨_, hac, rfl⟩, rfl⟩
