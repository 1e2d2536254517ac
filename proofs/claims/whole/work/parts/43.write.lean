/-- the history's two numbers -/
def hsI (I : yI) (h a u : Nat) : yI := up2 (up2 I h 1 (nI a)) h 2 (nI u)
theorem hsI_ne {I : yI} {h a u b : Nat} (hb : b ≠ h) : hsI I h a u b = I b := by
  unfold hsI up2
  rw [va_up_ne _ _ hb, va_up_ne _ _ hb]
theorem hsI_1 {I : yI} {h a u : Nat} : hsI I h a u h 1 = nI a := by simp [hsI, up2, va_up, upd]
theorem hsI_2 {I : yI} {h a u : Nat} : hsI I h a u h 2 = nI u := by simp [hsI, up2, va_up, upd]
theorem cpB_0 {C B : yI} {j : Nat} (h : j = 1 ∨ j = 4 ∨ j = 5 ∨ j = 10) : cpB C B 0 j = C 0 j := by
  rcases h with rfl | rfl | rfl | rfl <;> rfl
theorem va_cpy0 {f g : Nat → Int32} {n k : Nat} (h : k < n) : va_cpy f g 0 0 n k = f k := by
  unfold va_cpy
  rw [if_pos ⟨Nat.zero_le _, by omega⟩, Nat.zero_add, Nat.sub_zero]
theorem cpB_1 {C B : yI} {k : Nat} (h : k < 4) : cpB C B 1 k = C 1 k := va_cpy0 (f := C 1) (g := B 1) h
theorem cpB_2 {C B : yI} {k : Nat} (h : k < 4) : cpB C B 2 k = C 2 k := va_cpy0 (f := C 2) (g := B 2) h
theorem cpB_3 {C B : yI} {k : Nat} (h : k < 24) : cpB C B 3 k = C 3 k := va_cpy0 (f := C 3) (g := B 3) h
theorem cpB_4 {C B : yI} {k : Nat} (h : k < 24) : cpB C B 4 k = C 4 k := va_cpy0 (f := C 4) (g := B 4) h
theorem cpB_5 {C B : yI} {k : Nat} (h : k < 24) : cpB C B 5 k = C 5 k := va_cpy0 (f := C 5) (g := B 5) h
theorem cpB_6 {C B : yI} {k : Nat} (h : k < 24) : cpB C B 6 k = C 6 k := va_cpy0 (f := C 6) (g := B 6) h
theorem cpB_7 {C B : yI} {k : Nat} (h : k < 20) : cpB C B 7 k = C 7 k := va_cpy0 (f := C 7) (g := B 7) h
theorem cpB_8 {C B : yI} {k : Nat} (h : k < 20) : cpB C B 8 k = C 8 k := va_cpy0 (f := C 8) (g := B 8) h
theorem cpB_9 {C B : yI} {k : Nat} (h : k < 20) : cpB C B 9 k = C 9 k := va_cpy0 (f := C 9) (g := B 9) h
theorem cpB_10 {C B : yI} {k : Nat} (h : k < 20) : cpB C B 10 k = C 10 k := va_cpy0 (f := C 10) (g := B 10) h
theorem cpB_11 {C B : yI} {k : Nat} (h : k < 20) : cpB C B 11 k = C 11 k := va_cpy0 (f := C 11) (g := B 11) h
theorem cpB_12 {C B : yI} {k : Nat} (h : k < 20) : cpB C B 12 k = C 12 k := va_cpy0 (f := C 12) (g := B 12) h
theorem cpB_13 {C B : yI} {k : Nat} (h : k < 20) : cpB C B 13 k = C 13 k := va_cpy0 (f := C 13) (g := B 13) h
theorem yVal.cp {σ B C : yI} {ni nm nr np nd : Nat} (h : yVal σ B ni nm nr np nd) : yVal σ (cpB B C) ni nm nr np nd := by
  obtain ⟨v0, v1, v6, ni4, nm4, nr8, vnp, np24, vnd, nd20, vP, vD⟩ := h
  refine ⟨v0, v1, v6, ni4, nm4, nr8, (cpB_0 (by decide)).trans vnp, np24, (cpB_0 (by decide)).trans vnd, nd20, fun k hk => ?_, fun k hk => ?_⟩
  · rw [cpB_3 (by omega), cpB_4 (by omega)]; exact vP k hk
  · rw [cpB_7 (by omega), cpB_8 (by omega)]; exact vD k hk
theorem yEra.of {sh sh2 : yS} {I J : yI} {su f m len : Nat} {it : Nat → Int32} {σ : yI} (h : yEra sh I su f m len it σ) (e1 : ∀ k, (k = 0 ∨ 4 ≤ k) → k < 10 → sh2 (su + k) = sh (su + k)) (e2 : ∀ k, k < 3 → sh2 (f + k) = sh (f + k)) (e3 : ∀ k, (k = 0 ∨ 4 ≤ k) → k < 10 → J (su + k) = I (su + k)) (e4 : ∀ k, k < 2 → J (f + k) = I (f + k)) : yEra sh2 J su f m len it σ :=
  ⟨h.1.of e1, h.2.1.of e2, fun k h1 h2 => (e3 k h1 h2).trans (h.2.2.1 k h1 h2), (congrFun (e4 0 (by decide)) 2).trans h.2.2.2.1, (e4 1 (by decide)).trans h.2.2.2.2.1, h.2.2.2.2.2⟩
theorem ySet.kin {sh : yS} {su f k : Nat} (h : ySet sh su f) (h1 : k = 0 ∨ 4 ≤ k) (h2 : k < 10) : (sh (su + k)).1 = 4 ∨ yArr sh (su + k) 10 8 := by
  rcases (show k = 0 ∨ k = 4 ∨ k = 5 ∨ k = 6 ∨ k = 7 ∨ k = 8 ∨ k = 9 by omega) with rfl | rfl | rfl | rfl | rfl | rfl | rfl
  · exact Or.inl (yS_o h)
  · exact Or.inr (yS_a7 h)
  · exact Or.inr (yS_a8 h)
  · exact Or.inr (yS_a9 h)
  · exact Or.inr (yS_a10 h)
  · exact Or.inr (yS_a11 h)
  · exact Or.inr (yS_a12 h)
theorem yFor.kin {sh : yS} {f m k : Nat} (h : yFor sh f m) (h2 : k < 3) : (sh (f + k)).1 = 1 ∨ (sh (f + k)).1 = 10 := by
  rcases (show k = 0 ∨ k = 1 ∨ k = 2 by omega) with rfl | rfl | rfl
  · exact Or.inl (yF_o h)
  · exact Or.inr (yF_a0 h).1
  · exact Or.inr (yF_a1 h).1
/-- an address of another kind than a setup's or a formula's rows is none of them -/
theorem yEra.no {sh : yS} {I : yI} {su f m len : Nat} {it : Nat → Int32} {σ : yI} (h : yEra sh I su f m len it σ) {a : Nat} (ha : (sh a).1 ≠ 4 ∧ (sh a).1 ≠ 10 ∧ (sh a).1 ≠ 1) : (∀ k, (k = 0 ∨ 4 ≤ k) → k < 10 → su + k ≠ a) ∧ ∀ k, k < 3 → f + k ≠ a :=
  ⟨fun k h1 h2 e => by
    rcases h.1.kin h1 h2 with q | q
    · rw [e] at q; exact ha.1 q
    · have := q.1; rw [e] at this; exact ha.2.1 this,
   fun k h2 e => by
    rcases h.2.1.kin h2 with q | q
    · rw [e] at q; exact ha.2.2 q
    · rw [e] at q; exact ha.2.1 q⟩
/-- a change has begun -/
theorem yEra.beg {sh : yS} {I : yI} {su f m len : Nat} {it : Nat → Int32} {σ : yI} (h : yEra sh I su f m len it σ) {i s c a u : Nat} (hB : yBook sh i s) (hH : (sh c).1 = 2) {v : Option Nat} : yEra (upr sh i 0 v) (hsI I c a u) su f m len it σ := by
  have q1 := h.no (a := i) (by rw [yB_o hB]; decide)
  have q2 := h.no (a := c) (by rw [hH]; decide)
  exact h.of (fun k h1 h2 => va_up_ne _ _ (q1.1 k h1 h2)) (fun k h2 => va_up_ne _ _ (q1.2 k h2)) (fun k h1 h2 => hsI_ne (q2.1 k h1 h2)) (fun k h2 => hsI_ne (q2.2 k (by omega)))
theorem bc_eq {I : yI} {h b at0 u : Nat} (hh : h < b) : bcI I h b at0 u = sR 14 (hsI I h ((at0 + 1) % 9) (min (u + 1) 8)) (b + 14 * ((at0 + 1) % 9)) (cpB (gR I (b + 14 * at0)) (gR I (b + 14 * ((at0 + 1) % 9)))) := by
  unfold bcI hsI
  rw [show ∀ (J : yI) (x : Int32), up2 J h 2 x = va_up J h (upd (J h) 2 x) from fun _ _ => rfl, sR_rowO (by omega), sR_out (by omega)]
  rfl
theorem c_begin_at (l : Launch) (D : yD) (z : Nat) {n : Nat} {sh : yS} {I : yI} {L : yL} {c at0 su : Nat} {B : yI} (hP : yPro sh I c at0) (hB : yBook sh (c + 15 + 14 * at0) su) (hBg : B = gR I (c + 15 + 14 * at0)) {u i1 : Nat} {K Bn : yI} (hi1 : i1 = (c + 15 + 14 * ((at0 + 1) % 9))) (hK : K = hsI I (c + 3) ((at0 + 1) % 9) (min (u + 1) 8)) (hBn : Bn = cpB B (gR I i1)) (hRg : ∀ j, j < 9 → ∃ s, yBook sh (c + 15 + 14 * j) s) (hu : I (c + 3) 2 = nI u) (hu8 : u ≤ 8) : yM l D z yX2_beginChange cX2_beginChange 2 (some (.object "ChargebackProcessor$Book")) 3 0 0 [.ref (c + 3)] n sh (sR 14 I (c + 15 + 14 * at0) B) L (yF (some (.ref i1)) n (upr sh i1 0 (some su)) (sR 14 K i1 Bn) L) yno := by
  obtain ⟨s, hT⟩ := hRg ((at0 + 1) % 9) (Nat.mod_lt _ (by decide))
  have h := c_X2_beginChange l D z (n := n) (L := L) hP.2.1 hP.2.2.2 hP.2.2.1 hu hu8 (by omega) (by omega) hB hT
  rw [bc_eq (by omega)] at h
  subst hBg hi1 hK hBn
  rw [sR_get]
  exact h
set_option maxRecDepth 100000 in
set_option maxHeartbeats 4000000 in
theorem c_X7_purchase (l : Launch) (D : yD) (z : Nat) {n : Nat} {sh : yS} {I : yI} {L : yL} {c at0 su f m len : Nat} {it : Nat → Int32} {σ B : yI} {ni nm nr np nd : Nat} (hP : yPro sh I c at0) (hB : yBook sh (c + 15 + 14 * at0) su) (hE : yEra sh I su f m len it σ) (hV : yVal σ B ni nm nr np nd) (hBg : B = gR I (c + 15 + 14 * at0)) {u i1 : Nat} {K Bn : yI} (hi1 : i1 = (c + 15 + 14 * ((at0 + 1) % 9))) (hK : K = hsI I (c + 3) ((at0 + 1) % 9) (min (u + 1) 8)) (hBn : Bn = cpB B (gR I i1)) (hRg : ∀ j, j < 9 → ∃ s, yBook sh (c + 15 + 14 * j) s) (hu : I (c + 3) 2 = nI u) (hu8 : u ≤ 8) {x : Int32} {mi : Nat} (hmi : vp_in x ni → x = nI mi ∧ mi < ni) {x2 : Int32} {mr : Nat} (hmr : vp_in x2 nm → x2 = nI mr ∧ mr < nm) {am : Int32} : yM l D z yX7_purchase cX7_purchase 5 (some .int) 10 4 24 [.ref c, .int x, .int x2, .int am] n sh (sR 14 I (c + 15 + 14 * at0) B) L (yOr (oI ni x (oI nm x2 (oA (¬ am < 1 ∧ am ≤ 99999) (oS (np < 24) (.ok (nI np)))))) n (upr sh i1 0 (some su)) K f i1 (addPB Bn np (nI mi) (nI mr) am) L) (yOx (oI ni x (oI nm x2 (oA (¬ am < 1 ∧ am ≤ 99999) (oS (np < 24) (.ok (nI np)))))) n sh I (c + 15 + 14 * at0) B L) := by
  refine yM_of (by decide) (Nat.le_of_ble_eq_true rfl) rfl ?_
  intro X hC hr hnm hRc hRs htb
  have hC : yC X D z cX7_purchase RX7 5 10 := hC
  have hS := hE.1
  have hF := hE.2.1
  have hσ := hE.sig hB
  have hφ := hE.phi hB
  have hac : yScr f I I := yScr.rf
  obtain ⟨v0, v1, v6, ni4, nm4, nr8, vnp, np24, vnd, nd20, vP, vD⟩ := hV
  refine y_aload_n hC dX7_purchase_0 rfl ?_
  refine y_getR hC (yC_o hP.1) (yC_r1 hP.1) f_X7_24 rfl dX7_purchase_1 ?_
  refine y_callV1 hC (c_present_at X.2.1 D z hP) m_X7_90 rfl (yH_o hP.2.1) (by decide) (Nat.le_of_ble_eq_true rfl) (by rw [hRc]; decide) (by rw [hRs]; decide) dX7_purchase_4 ?_
  refine y_astore hC dX7_purchase_7 (by decide) rfl ?_
  refine y_iload_n hC dX7_purchase_9 rfl ?_
  refine y_aload hC dX7_purchase_10 rfl ?_
  refine y_getR hC (yB_o hB) (yB_r0 hB) f_X7_93 rfl dX7_purchase_12 ?_
  refine y_getIG hC hσ (yS_o hS) f_X7_94 rfl dX7_purchase_15 ?_
  rw [v0]
  refine y_callS0k hC (c_X7_checkIndex X.2.1 D z (cnt := ni) (by omega)) m_X7_113 rfl (by decide) (Nat.le_of_ble_eq_true rfl) ⟨by rw [hRc]; decide, by rw [hRs]; decide⟩ dX7_purchase_18 (fun n2 hn2 hN => yx_out hC htb (by decide) (by decide) ⟨oI_f hN, hn2, rfl, rfl, rfl⟩) (fun hx => ?_)
  obtain ⟨rfl, mil⟩ := hmi hx
  refine y_iload_n hC dX7_purchase_21 rfl ?_
  refine y_aload hC dX7_purchase_22 rfl ?_
  refine y_getR hC (yB_o hB) (yB_r0 hB) f_X7_93 rfl dX7_purchase_24 ?_
  refine y_getIG hC hσ (yS_o hS) f_X7_97 rfl dX7_purchase_27 ?_
  rw [v1]
  refine y_callS0k hC (c_X7_checkIndex X.2.1 D z (cnt := nm) (by omega)) m_X7_113 rfl (by decide) (Nat.le_of_ble_eq_true rfl) ⟨by rw [hRc]; decide, by rw [hRs]; decide⟩ dX7_purchase_30 (fun n2 hn2 hN => yx_out hC htb (by decide) (by decide) ⟨(oI_t hx).trans (oI_f hN), hn2, rfl, rfl, rfl⟩) (fun hx2 => ?_)
  obtain ⟨rfl, mrl⟩ := hmr hx2
  refine y_iload_n hC dX7_purchase_33 rfl ?_
  refine y_iconst (v := 1) hC dX7_purchase_34 (by decide) ?_
  refine y_ldc hC k_X7_180 dX7_purchase_35 ?_
  refine y_callS0k hC (c_X7_checkRange X.2.1 D z) m_X7_153 rfl (by decide) (Nat.le_of_ble_eq_true rfl) ⟨by rw [hRc]; decide, by rw [hRs]; decide⟩ dX7_purchase_37 (fun n2 hn2 hN => yx_out hC htb (by decide) (by decide) ⟨(oI_t hx).trans ((oI_t hx2).trans (oA_f hN)), hn2, rfl, rfl, rfl⟩) (fun hy => ?_)
  refine y_aload hC dX7_purchase_40 rfl ?_
  refine y_getIR (w9 := 14) hC (by decide) (yB_o hB) f_X7_100 rfl dX7_purchase_42 ?_
  rw [vnp]
  refine y_bipush (v := nI 24) hC dX7_purchase_45 (by decide) ?_
  refine y_icmp_lt (tgt := 60) hC dX7_purchase_47 (by decide) (fun c47 => ?_) (fun c47 => ?_)
  · refine y_aload_n hC dX7_purchase_60 rfl ?_
    refine y_getR hC (yC_o hP.1) (yC_r1 hP.1) f_X7_24 rfl dX7_purchase_61 ?_
    refine y_callV1 hC (c_begin_at X.2.1 D z hP hB hBg hi1 hK hBn hRg hu hu8) m_X7_74 rfl (yH_o hP.2.1) (by decide) (Nat.le_of_ble_eq_true rfl) (by rw [hRc]; decide) (by rw [hRs]; decide) dX7_purchase_64 ?_
    obtain ⟨s9, hT9⟩ := hRg ((at0 + 1) % 9) (Nat.mod_lt _ (by decide))
    have hB1 : yBook (upr sh i1 0 (some su)) i1 su := by subst hi1; exact hT9.up0
    have hE1 : yEra (upr sh i1 0 (some su)) K su f m len it σ := by subst hi1; subst hK; exact hE.beg hT9 (yH_o hP.2.1)
    have hV1 : yVal σ Bn ni nm nr np nd := by subst hBn; exact (yVal.cp ⟨v0, v1, v6, ni4, nm4, nr8, vnp, np24, vnd, nd20, vP, vD⟩)
    have hS := hE1.1
    have hF := hE1.2.1
    have hσ := hE1.sig hB1
    have hφ := hE1.phi hB1
    have hac : yScr f K K := yScr.rf
    obtain ⟨-, -, -, -, -, -, wnp, -, wnd, -, wP, wD⟩ := hV1
    refine y_iload_n hC dX7_purchase_67 rfl ?_
    refine y_iload_n hC dX7_purchase_68 rfl ?_
    refine y_iload_n hC dX7_purchase_69 rfl ?_
    refine y_callV1 hC (c_X0_addPurchase X.2.1 D z hB1 wnp (nI_lt2 c47) (vp_in_nI (by omega) (by decide)) (vp_in_nI (by omega) (by decide))) m_X7_186 rfl (yB_o hB1) (by decide) (Nat.le_of_ble_eq_true rfl) (by rw [hRc]; decide) (by rw [hRs]; decide) dX7_purchase_70 ?_
    exact y_iret hC hr rfl (by decide) (by decide) dX7_purchase_73 ⟨_, (oI_t hx).trans ((oI_t hx2).trans ((oA_t hy).trans ((oS_t (nI_lt2 c47)).trans (rfl)))), rfl, rfl, rfl, ⟨_, hac, rfl⟩, rfl⟩
  · exact y_throw hC th_is (j := 13) (text := "there are too many purchases") (by decide +kernel) htb (by decide) (Nat.le_of_ble_eq_true rfl) hRc hRs (by decide) (by decide) dX7_purchase_50 dX7_purchase_53 dX7_purchase_54 dX7_purchase_56 dX7_purchase_59 (fun n2 hn2 => ⟨(oI_t hx).trans ((oI_t hx2).trans ((oA_t hy).trans (oS_f (Nat.not_lt.mpr (nI_nlt2 c47))))), hn2, rfl, rfl, rfl⟩)
set_option maxRecDepth 100000 in
set_option maxHeartbeats 4000000 in
theorem c_X7_file (l : Launch) (D : yD) (z : Nat) {n : Nat} {sh : yS} {I : yI} {L : yL} {c at0 su f m len : Nat} {it : Nat → Int32} {σ B : yI} {ni nm nr np nd : Nat} (hP : yPro sh I c at0) (hB : yBook sh (c + 15 + 14 * at0) su) (hE : yEra sh I su f m len it σ) (hV : yVal σ B ni nm nr np nd) (hBg : B = gR I (c + 15 + 14 * at0)) {u i1 : Nat} {K Bn : yI} (hi1 : i1 = (c + 15 + 14 * ((at0 + 1) % 9))) (hK : K = hsI I (c + 3) ((at0 + 1) % 9) (min (u + 1) 8)) (hBn : Bn = cpB B (gR I i1)) (hRg : ∀ j, j < 9 → ∃ s, yBook sh (c + 15 + 14 * j) s) (hu : I (c + 3) 2 = nI u) (hu8 : u ≤ 8) {x : Int32} {p : Nat} (hp : vp_in x np → x = nI p ∧ p < np) {x2 : Int32} {r : Nat} (hr9 : vp_in x2 nr → x2 = nI r ∧ r < nr) {am : Int32} : yM l D z yX7_file cX7_file 5 (some .int) 10 4 24 [.ref c, .int x, .int x2, .int am] n sh (sR 14 I (c + 15 + 14 * at0) B) L (yOr (oI np x (oI nr x2 (oA (¬ am < 1 ∧ am ≤ 99999) (oA (am ≤ B 5 p - (sm (fun k => if B 7 k = nI p ∧ ¬ B 12 k = 5 then B 9 k else 0) nd)) (oS (B 0 1 ≤ B 6 p + σ 5 r ∧ nd < 20) (.ok (nI nd))))))) n (upr sh i1 0 (some su)) K f i1 (addDB σ Bn nd p r am) L) (yOx (oI np x (oI nr x2 (oA (¬ am < 1 ∧ am ≤ 99999) (oA (am ≤ B 5 p - (sm (fun k => if B 7 k = nI p ∧ ¬ B 12 k = 5 then B 9 k else 0) nd)) (oS (B 0 1 ≤ B 6 p + σ 5 r ∧ nd < 20) (.ok (nI nd))))))) n sh I (c + 15 + 14 * at0) B L) := by
  refine yM_of (by decide) (Nat.le_of_ble_eq_true rfl) rfl ?_
  intro X hC hr hnm hRc hRs htb
  have hC : yC X D z cX7_file RX7 5 10 := hC
  have hS := hE.1
  have hF := hE.2.1
  have hσ := hE.sig hB
  have hφ := hE.phi hB
  have hac : yScr f I I := yScr.rf
  obtain ⟨v0, v1, v6, ni4, nm4, nr8, vnp, np24, vnd, nd20, vP, vD⟩ := hV
  refine y_aload_n hC dX7_file_0 rfl ?_
  refine y_getR hC (yC_o hP.1) (yC_r1 hP.1) f_X7_24 rfl dX7_file_1 ?_
  refine y_callV1 hC (c_present_at X.2.1 D z hP) m_X7_90 rfl (yH_o hP.2.1) (by decide) (Nat.le_of_ble_eq_true rfl) (by rw [hRc]; decide) (by rw [hRs]; decide) dX7_file_4 ?_
  refine y_astore hC dX7_file_7 (by decide) rfl ?_
  refine y_iload_n hC dX7_file_9 rfl ?_
  refine y_aload hC dX7_file_10 rfl ?_
  refine y_getIR (w9 := 14) hC (by decide) (yB_o hB) f_X7_100 rfl dX7_file_12 ?_
  rw [vnp]
  refine y_callS0k hC (c_X7_checkIndex X.2.1 D z (cnt := np) (by omega)) m_X7_113 rfl (by decide) (Nat.le_of_ble_eq_true rfl) ⟨by rw [hRc]; decide, by rw [hRs]; decide⟩ dX7_file_15 (fun n2 hn2 hN => yx_out hC htb (by decide) (by decide) ⟨oI_f hN, hn2, rfl, rfl, rfl⟩) (fun hx => ?_)
  obtain ⟨rfl, pl⟩ := hp hx
  refine y_iload_n hC dX7_file_18 rfl ?_
  refine y_aload hC dX7_file_19 rfl ?_
  refine y_getR hC (yB_o hB) (yB_r0 hB) f_X7_93 rfl dX7_file_21 ?_
  refine y_getIG hC hσ (yS_o hS) f_X7_87 rfl dX7_file_24 ?_
  rw [v6]
  refine y_callS0k hC (c_X7_checkIndex X.2.1 D z (cnt := nr) (by omega)) m_X7_113 rfl (by decide) (Nat.le_of_ble_eq_true rfl) ⟨by rw [hRc]; decide, by rw [hRs]; decide⟩ dX7_file_27 (fun n2 hn2 hN => yx_out hC htb (by decide) (by decide) ⟨(oI_t hx).trans (oI_f hN), hn2, rfl, rfl, rfl⟩) (fun hx2 => ?_)
  obtain ⟨rfl, rl⟩ := hr9 hx2
  refine y_iload_n hC dX7_file_30 rfl ?_
  refine y_iconst (v := 1) hC dX7_file_31 (by decide) ?_
  refine y_ldc hC k_X7_180 dX7_file_32 ?_
  refine y_callS0k hC (c_X7_checkRange X.2.1 D z) m_X7_153 rfl (by decide) (Nat.le_of_ble_eq_true rfl) ⟨by rw [hRc]; decide, by rw [hRs]; decide⟩ dX7_file_34 (fun n2 hn2 hN => yx_out hC htb (by decide) (by decide) ⟨(oI_t hx).trans ((oI_t hx2).trans (oA_f hN)), hn2, rfl, rfl, rfl⟩) (fun hy => ?_)
  refine y_iload_n hC dX7_file_37 rfl ?_
  refine y_aload hC dX7_file_38 rfl ?_
  refine y_getR hC (yB_o hB) (yB_r8 hB) f_X7_190 rfl dX7_file_40 ?_
  refine y_iload_n hC dX7_file_43 rfl ?_
  refine y_ialdRN (w9 := 14) hC (by decide) (yB_a8 hB) (by omega) dX7_file_44 ?_
  refine y_aload hC dX7_file_45 rfl ?_
  refine y_iload_n hC dX7_file_47 rfl ?_
  refine y_callV1 hC (c_X0_disputedAmount X.2.1 D z hB vnd (by omega)) m_X7_131 rfl (yB_o hB) (by decide) (Nat.le_of_ble_eq_true rfl) (by rw [hRc]; decide) (by rw [hRs]; decide) dX7_file_48 ?_
  refine y_isub hC dX7_file_51 ?_
  refine y_icmp_le (tgt := 65) hC dX7_file_52 (by decide) (fun c52 => ?_) (fun c52 => ?_)
  · refine y_aload hC dX7_file_65 rfl ?_
    refine y_iload_n hC dX7_file_67 rfl ?_
    refine y_iload_n hC dX7_file_68 rfl ?_
    refine y_callV1 hC (c_X0_isTooLate X.2.1 D z hB hS hσ (by omega) (by omega)) m_X7_195 rfl (yB_o hB) (by decide) (Nat.le_of_ble_eq_true rfl) (by rw [hRc]; decide) (by rw [hRs]; decide) dX7_file_69 ?_
    refine y_if_neB (tgt := 85) hC dX7_file_72 (by decide) (fun c72 => ?_) (fun c72 => ?_)
    · exact y_throw hC th_is (j := 15) (text := "it is too late, or there are too many disputes") (by decide +kernel) htb (by decide) (Nat.le_of_ble_eq_true rfl) hRc hRs (by decide) (by decide) dX7_file_85 dX7_file_88 dX7_file_89 dX7_file_91 dX7_file_94 (fun n2 hn2 => ⟨(oI_t hx).trans ((oI_t hx2).trans ((oA_t hy).trans ((oA_t c52).trans (oS_f (by first | exact fun q => c72 q.1 | exact fun q => absurd q.2 (Nat.not_lt.mpr (nI_nlt2 c82))))))), hn2, rfl, rfl, rfl⟩)
    · refine y_aload hC dX7_file_75 rfl ?_
      refine y_getIR (w9 := 14) hC (by decide) (yB_o hB) f_X7_103 rfl dX7_file_77 ?_
      rw [vnd]
      refine y_bipush (v := nI 20) hC dX7_file_80 (by decide) ?_
      refine y_icmp_lt (tgt := 95) hC dX7_file_82 (by decide) (fun c82 => ?_) (fun c82 => ?_)
      · refine y_aload_n hC dX7_file_95 rfl ?_
        refine y_getR hC (yC_o hP.1) (yC_r1 hP.1) f_X7_24 rfl dX7_file_96 ?_
        refine y_callV1 hC (c_begin_at X.2.1 D z hP hB hBg hi1 hK hBn hRg hu hu8) m_X7_74 rfl (yH_o hP.2.1) (by decide) (Nat.le_of_ble_eq_true rfl) (by rw [hRc]; decide) (by rw [hRs]; decide) dX7_file_99 ?_
        obtain ⟨s9, hT9⟩ := hRg ((at0 + 1) % 9) (Nat.mod_lt _ (by decide))
        have hB1 : yBook (upr sh i1 0 (some su)) i1 su := by subst hi1; exact hT9.up0
        have hE1 : yEra (upr sh i1 0 (some su)) K su f m len it σ := by subst hi1; subst hK; exact hE.beg hT9 (yH_o hP.2.1)
        have hV1 : yVal σ Bn ni nm nr np nd := by subst hBn; exact (yVal.cp ⟨v0, v1, v6, ni4, nm4, nr8, vnp, np24, vnd, nd20, vP, vD⟩)
        have hS := hE1.1
        have hF := hE1.2.1
        have hσ := hE1.sig hB1
        have hφ := hE1.phi hB1
        have hac : yScr f K K := yScr.rf
        obtain ⟨-, -, -, -, -, -, wnp, -, wnd, -, wP, wD⟩ := hV1
        refine y_iload_n hC dX7_file_102 rfl ?_
        refine y_iload_n hC dX7_file_103 rfl ?_
        refine y_iload_n hC dX7_file_104 rfl ?_
        refine y_callV1 hC (c_X0_addDispute X.2.1 D z hB1 hS hσ wnd (nI_lt2 c82) (by omega) (by omega) (wP p (by omega)).2 (wP p (by omega)).1) m_X7_200 rfl (yB_o hB1) (by decide) (Nat.le_of_ble_eq_true rfl) (by rw [hRc]; decide) (by rw [hRs]; decide) dX7_file_105 ?_
        exact y_iret hC hr rfl (by decide) (by decide) dX7_file_108 ⟨_, (oI_t hx).trans ((oI_t hx2).trans ((oA_t hy).trans ((oA_t c52).trans ((oS_t ⟨Decidable.not_not.mp c72, nI_lt2 c82⟩).trans (rfl))))), rfl, rfl, rfl, ⟨_, hac, rfl⟩, rfl⟩
      · exact y_throw hC th_is (j := 15) (text := "it is too late, or there are too many disputes") (by decide +kernel) htb (by decide) (Nat.le_of_ble_eq_true rfl) hRc hRs (by decide) (by decide) dX7_file_85 dX7_file_88 dX7_file_89 dX7_file_91 dX7_file_94 (fun n2 hn2 => ⟨(oI_t hx).trans ((oI_t hx2).trans ((oA_t hy).trans ((oA_t c52).trans (oS_f (by first | exact fun q => c72 q.1 | exact fun q => absurd q.2 (Nat.not_lt.mpr (nI_nlt2 c82))))))), hn2, rfl, rfl, rfl⟩)
  · exact y_throw hC th_ia (j := 14) (text := "so much of the purchase is not free to dispute") (by decide +kernel) htb (by decide) (Nat.le_of_ble_eq_true rfl) hRc hRs (by decide) (by decide) dX7_file_55 dX7_file_58 dX7_file_59 dX7_file_61 dX7_file_64 (fun n2 hn2 => ⟨(oI_t hx).trans ((oI_t hx2).trans ((oA_t hy).trans (oA_f c52))), hn2, rfl, rfl, rfl⟩)
theorem repB_row {σ B : yI} {d : Nat} {ev : Int32} {r : Nat} (h1 : 3 ≤ r) (h2 : r ≤ 10) : repB σ B d ev r = B r := by
  unfold repB moveB up2
  rw [va_up_ne _ _ (by omega), va_up_ne _ _ (by omega), va_up_ne _ _ (by omega), va_up_ne _ _ (by omega), va_up_ne _ _ (by omega), va_up_ne _ _ (by omega)]
set_option maxRecDepth 100000 in
set_option maxHeartbeats 4000000 in
theorem c_X7_represent (l : Launch) (D : yD) (z : Nat) {n : Nat} {sh : yS} {I : yI} {L : yL} {c at0 su f m len : Nat} {it : Nat → Int32} {σ B : yI} {ni nm nr np nd : Nat} (hP : yPro sh I c at0) (hB : yBook sh (c + 15 + 14 * at0) su) (hE : yEra sh I su f m len it σ) (hV : yVal σ B ni nm nr np nd) (hBg : B = gR I (c + 15 + 14 * at0)) {u i1 : Nat} {K Bn : yI} (hi1 : i1 = (c + 15 + 14 * ((at0 + 1) % 9))) (hK : K = hsI I (c + 3) ((at0 + 1) % 9) (min (u + 1) 8)) (hBn : Bn = cpB B (gR I i1)) (hRg : ∀ j, j < 9 → ∃ s, yBook sh (c + 15 + 14 * j) s) (hu : I (c + 3) 2 = nI u) (hu8 : u ≤ 8) {x : Int32} {d : Nat} (hd : vp_in x nd → x = nI d ∧ d < nd) {ev : Int32} : yM l D z yX7_represent cX7_represent 5 (some .int) 10 3 18 [.ref c, .int x, .int ev] n sh (sR 14 I (c + 15 + 14 * at0) B) L (yOr (oI nd x (oA (¬ ev < 1 ∧ ev ≤ 255) (oS (B 12 d = 0) (.ok (scV σ it len (repB σ Bn d ev) d (repB σ Bn d ev 11 d)))))) n (upr sh i1 0 (some su)) K f i1 (repB σ Bn d ev) L) (yOx (oI nd x (oA (¬ ev < 1 ∧ ev ≤ 255) (oS (B 12 d = 0) (.ok (scV σ it len (repB σ Bn d ev) d (repB σ Bn d ev 11 d)))))) n sh I (c + 15 + 14 * at0) B L) := by
  refine yM_of (by decide) (Nat.le_of_ble_eq_true rfl) rfl ?_
  intro X hC hr hnm hRc hRs htb
  have hC : yC X D z cX7_represent RX7 5 10 := hC
  have hS := hE.1
  have hF := hE.2.1
  have hσ := hE.sig hB
  have hφ := hE.phi hB
  have hac : yScr f I I := yScr.rf
  obtain ⟨v0, v1, v6, ni4, nm4, nr8, vnp, np24, vnd, nd20, vP, vD⟩ := hV
  refine y_aload_n hC dX7_represent_0 rfl ?_
  refine y_iload_n hC dX7_represent_1 rfl ?_
  refine y_callV1k hC (c_X7_bookWithDispute X.2.1 D z hP hB hE ⟨v0, v1, v6, ni4, nm4, nr8, vnp, np24, vnd, nd20, vP, vD⟩ (x := x)) m_X7_134 rfl (yC_o hP.1) (by decide) (Nat.le_of_ble_eq_true rfl) ⟨by rw [hRc]; decide, by rw [hRs]; decide⟩ dX7_represent_2 (fun n2 hn2 hN => yx_out hC htb (by decide) (by decide) ⟨oI_f hN, hn2, rfl, rfl, rfl⟩) (fun hx => ?_)
  obtain ⟨rfl, dl⟩ := hd hx
  obtain ⟨h7, h8⟩ := vD d dl
  refine y_astore_n hC dX7_represent_5 (by decide) rfl ?_
  refine y_iload_n hC dX7_represent_6 rfl ?_
  refine y_iconst (v := 1) hC dX7_represent_7 (by decide) ?_
  refine y_sipush (v := 255) hC dX7_represent_8 (by decide) ?_
  refine y_callS0k hC (c_X7_checkRange X.2.1 D z) m_X7_153 rfl (by decide) (Nat.le_of_ble_eq_true rfl) ⟨by rw [hRc]; decide, by rw [hRs]; decide⟩ dX7_represent_11 (fun n2 hn2 hN => yx_out hC htb (by decide) (by decide) ⟨(oI_t hx).trans (oA_f hN), hn2, rfl, rfl, rfl⟩) (fun hy => ?_)
  refine y_aload_n hC dX7_represent_14 rfl ?_
  refine y_iload_n hC dX7_represent_15 rfl ?_
  refine y_iconst (v := 0) hC dX7_represent_16 (by decide) ?_
  refine y_callS0k hC (c_X7_checkState X.2.1 D z hB (d := d) (by omega)) m_X7_203 rfl (by decide) (Nat.le_of_ble_eq_true rfl) ⟨by rw [hRc]; decide, by rw [hRs]; decide⟩ dX7_represent_17 (fun n2 hn2 hN => yx_out hC htb (by decide) (by decide) ⟨(oI_t hx).trans ((oA_t hy).trans (oS_f hN)), hn2, rfl, rfl, rfl⟩) (fun hz => ?_)
  refine y_aload_n hC dX7_represent_20 rfl ?_
  refine y_getR hC (yC_o hP.1) (yC_r1 hP.1) f_X7_24 rfl dX7_represent_21 ?_
  refine y_callV1 hC (c_begin_at X.2.1 D z hP hB hBg hi1 hK hBn hRg hu hu8) m_X7_74 rfl (yH_o hP.2.1) (by decide) (Nat.le_of_ble_eq_true rfl) (by rw [hRc]; decide) (by rw [hRs]; decide) dX7_represent_24 ?_
  obtain ⟨s9, hT9⟩ := hRg ((at0 + 1) % 9) (Nat.mod_lt _ (by decide))
  have hB1 : yBook (upr sh i1 0 (some su)) i1 su := by subst hi1; exact hT9.up0
  have hE1 : yEra (upr sh i1 0 (some su)) K su f m len it σ := by subst hi1; subst hK; exact hE.beg hT9 (yH_o hP.2.1)
  have hV1 : yVal σ Bn ni nm nr np nd := by subst hBn; exact (yVal.cp ⟨v0, v1, v6, ni4, nm4, nr8, vnp, np24, vnd, nd20, vP, vD⟩)
  have hS := hE1.1
  have hF := hE1.2.1
  have hσ := hE1.sig hB1
  have hφ := hE1.phi hB1
  have hac : yScr f K K := yScr.rf
  obtain ⟨-, -, -, -, -, -, wnp, -, wnd, -, wP, wD⟩ := hV1
  refine y_astore hC dX7_represent_27 (by decide) rfl ?_
  refine y_aload hC dX7_represent_29 rfl ?_
  refine y_iload_n hC dX7_represent_31 rfl ?_
  refine y_iload_n hC dX7_represent_32 rfl ?_
  refine y_callV0 hC (c_X0_toRepresented X.2.1 D z hB1 hS hσ (d := d) (by omega) (vp_mono (wD d dl).1 np24) (vp_mono (wD d dl).2 nr8) (wP _ (tn_lt (wD d dl).1)).2 (wP _ (tn_lt (wD d dl).1)).1) m_X7_207 rfl (yB_o hB1) (by decide) (Nat.le_of_ble_eq_true rfl) (by rw [hRc]; decide) (by rw [hRs]; decide) dX7_represent_33 ?_
  refine y_aload hC dX7_represent_36 rfl ?_
  refine y_iload_n hC dX7_represent_38 rfl ?_
  refine y_callV1s hC (c_X0_ownScore X.2.1 D z hB1 hS hσ hF hφ (d := d) (by omega) (by rw [repB_row (by decide) (by decide)]; exact vp_mono (wD d dl).1 np24) (by rw [repB_row (by decide) (by decide)]; exact vp_mono (wD d dl).2 nr8)) m_X7_150 rfl (yB_o hB1) (by decide) (Nat.le_of_ble_eq_true rfl) (by rw [hRc]; decide) (by rw [hRs]; decide) dX7_represent_39 (fun K39 hsc39 => ?_)
  have hac := hac.trans hsc39
  have hσ := hσ.scr hφ hsc39
  have hφ := hφ.scr hsc39
  exact y_iret hC hr rfl (by decide) (by decide) dX7_represent_42 ⟨_, (oI_t hx).trans ((oA_t hy).trans ((oS_t hz).trans (rfl))), rfl, rfl, rfl, ⟨_, hac, rfl⟩, rfl⟩
set_option maxRecDepth 100000 in
set_option maxHeartbeats 4000000 in
theorem c_X7_escalate (l : Launch) (D : yD) (z : Nat) {n : Nat} {sh : yS} {I : yI} {L : yL} {c at0 su f m len : Nat} {it : Nat → Int32} {σ B : yI} {ni nm nr np nd : Nat} (hP : yPro sh I c at0) (hB : yBook sh (c + 15 + 14 * at0) su) (hE : yEra sh I su f m len it σ) (hV : yVal σ B ni nm nr np nd) (hBg : B = gR I (c + 15 + 14 * at0)) {u i1 : Nat} {K Bn : yI} (hi1 : i1 = (c + 15 + 14 * ((at0 + 1) % 9))) (hK : K = hsI I (c + 3) ((at0 + 1) % 9) (min (u + 1) 8)) (hBn : Bn = cpB B (gR I i1)) (hRg : ∀ j, j < 9 → ∃ s, yBook sh (c + 15 + 14 * j) s) (hu : I (c + 3) 2 = nI u) (hu8 : u ≤ 8) {x : Int32} {d : Nat} (hd : vp_in x nd → x = nI d ∧ d < nd) : yM l D z yX7_escalate cX7_escalate 4 (some .int) 10 2 12 [.ref c, .int x] n sh (sR 14 I (c + 15 + 14 * at0) B) L (yOr (oI nd x (oS (B 12 d = 1) (.ok (escB σ Bn d 13 d)))) n (upr sh i1 0 (some su)) K f i1 (escB σ Bn d) L) (yOx (oI nd x (oS (B 12 d = 1) (.ok (escB σ Bn d 13 d)))) n sh I (c + 15 + 14 * at0) B L) := by
  refine yM_of (by decide) (Nat.le_of_ble_eq_true rfl) rfl ?_
  intro X hC hr hnm hRc hRs htb
  have hC : yC X D z cX7_escalate RX7 4 10 := hC
  have hS := hE.1
  have hF := hE.2.1
  have hσ := hE.sig hB
  have hφ := hE.phi hB
  have hac : yScr f I I := yScr.rf
  obtain ⟨v0, v1, v6, ni4, nm4, nr8, vnp, np24, vnd, nd20, vP, vD⟩ := hV
  refine y_aload_n hC dX7_escalate_0 rfl ?_
  refine y_iload_n hC dX7_escalate_1 rfl ?_
  refine y_callV1k hC (c_X7_bookWithDispute X.2.1 D z hP hB hE ⟨v0, v1, v6, ni4, nm4, nr8, vnp, np24, vnd, nd20, vP, vD⟩ (x := x)) m_X7_134 rfl (yC_o hP.1) (by decide) (Nat.le_of_ble_eq_true rfl) ⟨by rw [hRc]; decide, by rw [hRs]; decide⟩ dX7_escalate_2 (fun n2 hn2 hN => yx_out hC htb (by decide) (by decide) ⟨oI_f hN, hn2, rfl, rfl, rfl⟩) (fun hx => ?_)
  obtain ⟨rfl, dl⟩ := hd hx
  obtain ⟨h7, h8⟩ := vD d dl
  refine y_astore_n hC dX7_escalate_5 (by decide) rfl ?_
  refine y_aload_n hC dX7_escalate_6 rfl ?_
  refine y_iload_n hC dX7_escalate_7 rfl ?_
  refine y_iconst (v := 1) hC dX7_escalate_8 (by decide) ?_
  refine y_callS0k hC (c_X7_checkState X.2.1 D z hB (d := d) (by omega)) m_X7_203 rfl (by decide) (Nat.le_of_ble_eq_true rfl) ⟨by rw [hRc]; decide, by rw [hRs]; decide⟩ dX7_escalate_9 (fun n2 hn2 hN => yx_out hC htb (by decide) (by decide) ⟨(oI_t hx).trans (oS_f hN), hn2, rfl, rfl, rfl⟩) (fun hz => ?_)
  refine y_aload_n hC dX7_escalate_12 rfl ?_
  refine y_getR hC (yC_o hP.1) (yC_r1 hP.1) f_X7_24 rfl dX7_escalate_13 ?_
  refine y_callV1 hC (c_begin_at X.2.1 D z hP hB hBg hi1 hK hBn hRg hu hu8) m_X7_74 rfl (yH_o hP.2.1) (by decide) (Nat.le_of_ble_eq_true rfl) (by rw [hRc]; decide) (by rw [hRs]; decide) dX7_escalate_16 ?_
  obtain ⟨s9, hT9⟩ := hRg ((at0 + 1) % 9) (Nat.mod_lt _ (by decide))
  have hB1 : yBook (upr sh i1 0 (some su)) i1 su := by subst hi1; exact hT9.up0
  have hE1 : yEra (upr sh i1 0 (some su)) K su f m len it σ := by subst hi1; subst hK; exact hE.beg hT9 (yH_o hP.2.1)
  have hV1 : yVal σ Bn ni nm nr np nd := by subst hBn; exact (yVal.cp ⟨v0, v1, v6, ni4, nm4, nr8, vnp, np24, vnd, nd20, vP, vD⟩)
  have hS := hE1.1
  have hF := hE1.2.1
  have hσ := hE1.sig hB1
  have hφ := hE1.phi hB1
  have hac : yScr f K K := yScr.rf
  obtain ⟨-, -, -, -, -, -, wnp, -, wnd, -, wP, wD⟩ := hV1
  refine y_astore_n hC dX7_escalate_19 (by decide) rfl ?_
  refine y_aload_n hC dX7_escalate_20 rfl ?_
  refine y_iload_n hC dX7_escalate_21 rfl ?_
  refine y_callV0 hC (c_X0_toEscalated X.2.1 D z hB1 hS hσ (d := d) (by omega) (vp_mono (wD d dl).1 np24) (vp_mono (wD d dl).2 nr8) (wP _ (tn_lt (wD d dl).1)).2 (wP _ (tn_lt (wD d dl).1)).1) m_X7_210 rfl (yB_o hB1) (by decide) (Nat.le_of_ble_eq_true rfl) (by rw [hRc]; decide) (by rw [hRs]; decide) dX7_escalate_22 ?_
  refine y_aload_n hC dX7_escalate_25 rfl ?_
  refine y_getR hC (yB_o hB1) (yB_r17 hB1) f_X7_140 rfl dX7_escalate_26 ?_
  refine y_iload_n hC dX7_escalate_29 rfl ?_
  refine y_ialdRN (w9 := 14) hC (by decide) (yB_a17 hB1) (by omega) dX7_escalate_30 ?_
  exact y_iret hC hr rfl (by decide) (by decide) dX7_escalate_31 ⟨_, (oI_t hx).trans ((oS_t hz).trans (rfl)), rfl, rfl, rfl, ⟨_, hac, rfl⟩, rfl⟩
set_option maxRecDepth 100000 in
set_option maxHeartbeats 4000000 in
theorem c_X7_contest (l : Launch) (D : yD) (z : Nat) {n : Nat} {sh : yS} {I : yI} {L : yL} {c at0 su f m len : Nat} {it : Nat → Int32} {σ B : yI} {ni nm nr np nd : Nat} (hP : yPro sh I c at0) (hB : yBook sh (c + 15 + 14 * at0) su) (hE : yEra sh I su f m len it σ) (hV : yVal σ B ni nm nr np nd) (hBg : B = gR I (c + 15 + 14 * at0)) {u i1 : Nat} {K Bn : yI} (hi1 : i1 = (c + 15 + 14 * ((at0 + 1) % 9))) (hK : K = hsI I (c + 3) ((at0 + 1) % 9) (min (u + 1) 8)) (hBn : Bn = cpB B (gR I i1)) (hRg : ∀ j, j < 9 → ∃ s, yBook sh (c + 15 + 14 * j) s) (hu : I (c + 3) 2 = nI u) (hu8 : u ≤ 8) {x : Int32} {d : Nat} (hd : vp_in x nd → x = nI d ∧ d < nd) {ev : Int32} : yM l D z yX7_contest cX7_contest 5 (some .int) 10 3 18 [.ref c, .int x, .int ev] n sh (sR 14 I (c + 15 + 14 * at0) B) L (yOr (oI nd x (oA (¬ ev < 0 ∧ ev ≤ 255) (oS (B 12 d = 2) (.ok (arbB Bn d ev 13 d + 1))))) n (upr sh i1 0 (some su)) K f i1 (arbB Bn d ev) L) (yOx (oI nd x (oA (¬ ev < 0 ∧ ev ≤ 255) (oS (B 12 d = 2) (.ok (arbB Bn d ev 13 d + 1))))) n sh I (c + 15 + 14 * at0) B L) := by
  refine yM_of (by decide) (Nat.le_of_ble_eq_true rfl) rfl ?_
  intro X hC hr hnm hRc hRs htb
  have hC : yC X D z cX7_contest RX7 5 10 := hC
  have hS := hE.1
  have hF := hE.2.1
  have hσ := hE.sig hB
  have hφ := hE.phi hB
  have hac : yScr f I I := yScr.rf
  obtain ⟨v0, v1, v6, ni4, nm4, nr8, vnp, np24, vnd, nd20, vP, vD⟩ := hV
  refine y_aload_n hC dX7_contest_0 rfl ?_
  refine y_iload_n hC dX7_contest_1 rfl ?_
  refine y_callV1k hC (c_X7_bookWithDispute X.2.1 D z hP hB hE ⟨v0, v1, v6, ni4, nm4, nr8, vnp, np24, vnd, nd20, vP, vD⟩ (x := x)) m_X7_134 rfl (yC_o hP.1) (by decide) (Nat.le_of_ble_eq_true rfl) ⟨by rw [hRc]; decide, by rw [hRs]; decide⟩ dX7_contest_2 (fun n2 hn2 hN => yx_out hC htb (by decide) (by decide) ⟨oI_f hN, hn2, rfl, rfl, rfl⟩) (fun hx => ?_)
  obtain ⟨rfl, dl⟩ := hd hx
  obtain ⟨h7, h8⟩ := vD d dl
  refine y_astore_n hC dX7_contest_5 (by decide) rfl ?_
  refine y_iload_n hC dX7_contest_6 rfl ?_
  refine y_iconst (v := 0) hC dX7_contest_7 (by decide) ?_
  refine y_sipush (v := 255) hC dX7_contest_8 (by decide) ?_
  refine y_callS0k hC (c_X7_checkRange X.2.1 D z) m_X7_153 rfl (by decide) (Nat.le_of_ble_eq_true rfl) ⟨by rw [hRc]; decide, by rw [hRs]; decide⟩ dX7_contest_11 (fun n2 hn2 hN => yx_out hC htb (by decide) (by decide) ⟨(oI_t hx).trans (oA_f hN), hn2, rfl, rfl, rfl⟩) (fun hy => ?_)
  refine y_aload_n hC dX7_contest_14 rfl ?_
  refine y_iload_n hC dX7_contest_15 rfl ?_
  refine y_iconst (v := 2) hC dX7_contest_16 (by decide) ?_
  refine y_callS0k hC (c_X7_checkState X.2.1 D z hB (d := d) (by omega)) m_X7_203 rfl (by decide) (Nat.le_of_ble_eq_true rfl) ⟨by rw [hRc]; decide, by rw [hRs]; decide⟩ dX7_contest_17 (fun n2 hn2 hN => yx_out hC htb (by decide) (by decide) ⟨(oI_t hx).trans ((oA_t hy).trans (oS_f hN)), hn2, rfl, rfl, rfl⟩) (fun hz => ?_)
  refine y_aload_n hC dX7_contest_20 rfl ?_
  refine y_getR hC (yC_o hP.1) (yC_r1 hP.1) f_X7_24 rfl dX7_contest_21 ?_
  refine y_callV1 hC (c_begin_at X.2.1 D z hP hB hBg hi1 hK hBn hRg hu hu8) m_X7_74 rfl (yH_o hP.2.1) (by decide) (Nat.le_of_ble_eq_true rfl) (by rw [hRc]; decide) (by rw [hRs]; decide) dX7_contest_24 ?_
  obtain ⟨s9, hT9⟩ := hRg ((at0 + 1) % 9) (Nat.mod_lt _ (by decide))
  have hB1 : yBook (upr sh i1 0 (some su)) i1 su := by subst hi1; exact hT9.up0
  have hE1 : yEra (upr sh i1 0 (some su)) K su f m len it σ := by subst hi1; subst hK; exact hE.beg hT9 (yH_o hP.2.1)
  have hV1 : yVal σ Bn ni nm nr np nd := by subst hBn; exact (yVal.cp ⟨v0, v1, v6, ni4, nm4, nr8, vnp, np24, vnd, nd20, vP, vD⟩)
  have hS := hE1.1
  have hF := hE1.2.1
  have hσ := hE1.sig hB1
  have hφ := hE1.phi hB1
  have hac : yScr f K K := yScr.rf
  obtain ⟨-, -, -, -, -, -, wnp, -, wnd, -, wP, wD⟩ := hV1
  refine y_astore hC dX7_contest_27 (by decide) rfl ?_
  refine y_aload hC dX7_contest_29 rfl ?_
  refine y_iload_n hC dX7_contest_31 rfl ?_
  refine y_iload_n hC dX7_contest_32 rfl ?_
  refine y_callV0 hC (c_X0_toArbitration X.2.1 D z hB1 (d := d) (by omega)) m_X7_213 rfl (yB_o hB1) (by decide) (Nat.le_of_ble_eq_true rfl) (by rw [hRc]; decide) (by rw [hRs]; decide) dX7_contest_33 ?_
  refine y_aload hC dX7_contest_36 rfl ?_
  refine y_getR hC (yB_o hB1) (yB_r17 hB1) f_X7_140 rfl dX7_contest_38 ?_
  refine y_iload_n hC dX7_contest_41 rfl ?_
  refine y_ialdRN (w9 := 14) hC (by decide) (yB_a17 hB1) (by omega) dX7_contest_42 ?_
  refine y_iconst (v := 1) hC dX7_contest_43 (by decide) ?_
  refine y_iadd hC dX7_contest_44 ?_
  exact y_iret hC hr rfl (by decide) (by decide) dX7_contest_45 ⟨_, (oI_t hx).trans ((oA_t hy).trans ((oS_t hz).trans (rfl))), rfl, rfl, rfl, ⟨_, hac, rfl⟩, rfl⟩
set_option maxRecDepth 100000 in
set_option maxHeartbeats 4000000 in
theorem c_X7_accept (l : Launch) (D : yD) (z : Nat) {n : Nat} {sh : yS} {I : yI} {L : yL} {c at0 su f m len : Nat} {it : Nat → Int32} {σ B : yI} {ni nm nr np nd : Nat} (hP : yPro sh I c at0) (hB : yBook sh (c + 15 + 14 * at0) su) (hE : yEra sh I su f m len it σ) (hV : yVal σ B ni nm nr np nd) (hBg : B = gR I (c + 15 + 14 * at0)) {u i1 : Nat} {K Bn : yI} (hi1 : i1 = (c + 15 + 14 * ((at0 + 1) % 9))) (hK : K = hsI I (c + 3) ((at0 + 1) % 9) (min (u + 1) 8)) (hBn : Bn = cpB B (gR I i1)) (hRg : ∀ j, j < 9 → ∃ s, yBook sh (c + 15 + 14 * j) s) (hu : I (c + 3) 2 = nI u) (hu8 : u ≤ 8) {x : Int32} {d : Nat} (hd : vp_in x nd → x = nI d ∧ d < nd) : yM l D z yX7_accept cX7_accept 4 (some .int) 10 2 12 [.ref c, .int x] n sh (sR 14 I (c + 15 + 14 * at0) B) L (yOr (oI nd x (oS (¬ B 12 d = 3 ∧ ¬ (B 12 d = 4 ∨ B 12 d = 5)) (.ok (finB σ Bn d (idO σ it len Bn d) 12 d)))) n (upr sh i1 0 (some su)) K f i1 (finB σ Bn d (idO σ it len Bn d)) L) (yOx (oI nd x (oS (¬ B 12 d = 3 ∧ ¬ (B 12 d = 4 ∨ B 12 d = 5)) (.ok (finB σ Bn d (idO σ it len Bn d) 12 d)))) n sh I (c + 15 + 14 * at0) B L) := by
  refine yM_of (by decide) (Nat.le_of_ble_eq_true rfl) rfl ?_
  intro X hC hr hnm hRc hRs htb
  have hC : yC X D z cX7_accept RX7 4 10 := hC
  have hS := hE.1
  have hF := hE.2.1
  have hσ := hE.sig hB
  have hφ := hE.phi hB
  have hac : yScr f I I := yScr.rf
  obtain ⟨v0, v1, v6, ni4, nm4, nr8, vnp, np24, vnd, nd20, vP, vD⟩ := hV
  refine y_aload_n hC dX7_accept_0 rfl ?_
  refine y_iload_n hC dX7_accept_1 rfl ?_
  refine y_callV1k hC (c_X7_bookWithDispute X.2.1 D z hP hB hE ⟨v0, v1, v6, ni4, nm4, nr8, vnp, np24, vnd, nd20, vP, vD⟩ (x := x)) m_X7_134 rfl (yC_o hP.1) (by decide) (Nat.le_of_ble_eq_true rfl) ⟨by rw [hRc]; decide, by rw [hRs]; decide⟩ dX7_accept_2 (fun n2 hn2 hN => yx_out hC htb (by decide) (by decide) ⟨oI_f hN, hn2, rfl, rfl, rfl⟩) (fun hx => ?_)
  obtain ⟨rfl, dl⟩ := hd hx
  obtain ⟨h7, h8⟩ := vD d dl
  refine y_astore_n hC dX7_accept_5 (by decide) rfl ?_
  refine y_aload_n hC dX7_accept_6 rfl ?_
  refine y_getR hC (yB_o hB) (yB_r16 hB) f_X7_137 rfl dX7_accept_7 ?_
  refine y_iload_n hC dX7_accept_10 rfl ?_
  refine y_ialdRN (w9 := 14) hC (by decide) (yB_a16 hB) (by omega) dX7_accept_11 ?_
  refine y_iconst (v := 3) hC dX7_accept_12 (by decide) ?_
  refine y_icmp_eq (tgt := 24) hC dX7_accept_13 (by decide) (fun c13 => ?_) (fun c13 => ?_)
  · exact y_throw hC th_is (j := 17) (text := "nobody can accept this dispute") (by decide +kernel) htb (by decide) (Nat.le_of_ble_eq_true rfl) hRc hRs (by decide) (by decide) dX7_accept_24 dX7_accept_27 dX7_accept_28 dX7_accept_30 dX7_accept_33 (fun n2 hn2 => ⟨(oI_t hx).trans (oS_f (by first | exact fun q => q.1 c13 | exact fun q => q.2 c21)), hn2, rfl, rfl, rfl⟩)
  · refine y_aload_n hC dX7_accept_16 rfl ?_
    refine y_iload_n hC dX7_accept_17 rfl ?_
    refine y_callV1 hC (c_X0_isFinal X.2.1 D z hB (by omega)) m_X7_216 rfl (yB_o hB) (by decide) (Nat.le_of_ble_eq_true rfl) (by rw [hRc]; decide) (by rw [hRs]; decide) dX7_accept_18 ?_
    refine y_if_eqB (tgt := 34) hC dX7_accept_21 (by decide) (fun c21 => ?_) (fun c21 => ?_)
    · refine y_aload_n hC dX7_accept_34 rfl ?_
      refine y_getR hC (yC_o hP.1) (yC_r1 hP.1) f_X7_24 rfl dX7_accept_35 ?_
      refine y_callV1 hC (c_begin_at X.2.1 D z hP hB hBg hi1 hK hBn hRg hu hu8) m_X7_74 rfl (yH_o hP.2.1) (by decide) (Nat.le_of_ble_eq_true rfl) (by rw [hRc]; decide) (by rw [hRs]; decide) dX7_accept_38 ?_
      obtain ⟨s9, hT9⟩ := hRg ((at0 + 1) % 9) (Nat.mod_lt _ (by decide))
      have hB1 : yBook (upr sh i1 0 (some su)) i1 su := by subst hi1; exact hT9.up0
      have hE1 : yEra (upr sh i1 0 (some su)) K su f m len it σ := by subst hi1; subst hK; exact hE.beg hT9 (yH_o hP.2.1)
      have hV1 : yVal σ Bn ni nm nr np nd := by subst hBn; exact (yVal.cp ⟨v0, v1, v6, ni4, nm4, nr8, vnp, np24, vnd, nd20, vP, vD⟩)
      have hS := hE1.1
      have hF := hE1.2.1
      have hσ := hE1.sig hB1
      have hφ := hE1.phi hB1
      have hac : yScr f K K := yScr.rf
      obtain ⟨-, -, -, -, -, -, wnp, -, wnd, -, wP, wD⟩ := hV1
      refine y_astore_n hC dX7_accept_41 (by decide) rfl ?_
      refine y_aload_n hC dX7_accept_42 rfl ?_
      refine y_iload_n hC dX7_accept_43 rfl ?_
      refine y_aload_n hC dX7_accept_44 rfl ?_
      refine y_iload_n hC dX7_accept_45 rfl ?_
      refine y_callV1s hC (c_X0_idleOutcome X.2.1 D z hB1 hS hσ hF hφ (d := d) (by omega) (vp_mono (wD d dl).1 np24) (vp_mono (wD d dl).2 nr8)) m_X7_221 rfl (yB_o hB1) (by decide) (Nat.le_of_ble_eq_true rfl) (by rw [hRc]; decide) (by rw [hRs]; decide) dX7_accept_46 (fun K46 hsc46 => ?_)
      have hac := hac.trans hsc46
      have hσ := hσ.scr hφ hsc46
      have hφ := hφ.scr hsc46
      refine y_callV0 hC (c_X0_finish X.2.1 D z hB1 hS hσ (d := d) (by omega) (vp_mono (wD d dl).1 np24) (wP _ (tn_lt (wD d dl).1)).2 (wP _ (tn_lt (wD d dl).1)).1) m_X7_224 rfl (yB_o hB1) (by decide) (Nat.le_of_ble_eq_true rfl) (by rw [hRc]; decide) (by rw [hRs]; decide) dX7_accept_49 ?_
      refine y_aload_n hC dX7_accept_52 rfl ?_
      refine y_getR hC (yB_o hB1) (yB_r16 hB1) f_X7_137 rfl dX7_accept_53 ?_
      refine y_iload_n hC dX7_accept_56 rfl ?_
      refine y_ialdRN (w9 := 14) hC (by decide) (yB_a16 hB1) (by omega) dX7_accept_57 ?_
      exact y_iret hC hr rfl (by decide) (by decide) dX7_accept_58 ⟨_, (oI_t hx).trans ((oS_t ⟨c13, c21⟩).trans (rfl)), rfl, rfl, rfl, ⟨_, hac, rfl⟩, rfl⟩
    · exact y_throw hC th_is (j := 17) (text := "nobody can accept this dispute") (by decide +kernel) htb (by decide) (Nat.le_of_ble_eq_true rfl) hRc hRs (by decide) (by decide) dX7_accept_24 dX7_accept_27 dX7_accept_28 dX7_accept_30 dX7_accept_33 (fun n2 hn2 => ⟨(oI_t hx).trans (oS_f (by first | exact fun q => q.1 c13 | exact fun q => q.2 c21)), hn2, rfl, rfl, rfl⟩)
