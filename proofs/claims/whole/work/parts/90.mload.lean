/-- a piece that succeeds goes on in the text -/
def gMo (P P2 : yPs) : Prop := P2.2.1 = 0 → P.2.1 = 0 ∧ P.1 ≤ P2.1
theorem gMo.tr {P P2 P3 : yPs} (h1 : gMo P P2) (h2 : gMo P2 P3) : gMo P P3 := fun q => ⟨(h1 (h2 q).1).1, Nat.le_trans (h1 (h2 q).1).2 (h2 q).2⟩
theorem gMo_err {s : Nat → Int32} {c : Int32} (hc : ¬ c = 0) {P : yPs} : gMo P (gErr s c P) := fun q => absurd q (gErr_e hc)
theorem gMo_stp {P : yPs} : gMo P (gStp P) := fun q => ⟨q, Nat.le_succ _⟩
theorem gMo_put {j : Nat} {x : Int32} {P : yPs} : gMo P (gPut j x P) := fun q => ⟨q, Nat.le_refl _⟩
theorem gMo_nu2 {k v s : Nat → Int32} {j : Nat} {lo hi : Int32} {P : yPs} : gMo P (gNu2 k v s j lo hi P) := fun q => ⟨(gNum_0 q).1, by show P.1 ≤ (gNum k v s lo hi P).2.1; rw [(gNum_0 q).2.2.1]; exact Nat.le_succ _⟩
theorem gMo_onc {s : Nat → Int32} {j : Nat} {P : yPs} : gMo P (gOnc s j P) := fun q => by
  have q2 : (if P.2.2.2.1 j = 0 then gStp P else gErr s (-2) P).2.1 = 0 := q
  show _ ∧ P.1 ≤ (if P.2.2.2.1 j = 0 then gStp P else gErr s (-2) P).1
  split at q2
  · rename_i h
    rw [if_pos h]; exact ⟨q2, Nat.le_succ _⟩
  · exact absurd q2 (gErr_e (by decide))
theorem gMo_cod {k v s : Nat → Int32} {nr j : Nat} {P : yPs} : gMo P (gCod k v s nr j P) := by
  unfold gCod
  split
  · exact gMo_err (by decide)
  · exact gMo_nu2
theorem gMo_num {k v s : Nat → Int32} {lo hi : Int32} {P : yPs} : gMo P (gNum k v s lo hi P).2 := fun q => ⟨(gNum_0 q).1, by rw [(gNum_0 q).2.2.1]; exact Nat.le_succ _⟩
theorem gMo_typ {k v s : Nat → Int32} {j : Nat} : ∀ (f : Nat) (P : yPs), gMo P (gTyp k v s j f P)
  | 0, P => fun q => ⟨q, Nat.le_refl _⟩
  | f + 1, P => by
    unfold gTyp
    split
    · refine gMo.tr ?_ (gMo_typ f _)
      split
      · exact gMo_err (by decide)
      · exact gMo_num.tr gMo_put
    · exact fun q => ⟨q, Nat.le_refl _⟩
theorem gMo_nee {k v s : Nat → Int32} {j : Nat} {P : yPs} : gMo P (gNee k v s j P) := by
  unfold gNee
  split
  · exact ((gMo_stp.tr gMo_num).tr gMo_put).tr (gMo_typ _ _)
  · exact fun q => ⟨q, Nat.le_refl _⟩
theorem gMo_rea {k v s : Nat → Int32} {nr : Nat} {P : yPs} : gMo P (gRea k v s nr P) := by
  unfold gRea
  split
  · exact gMo_err (by decide)
  · exact (((((((gMo_stp.tr gMo_cod).tr gMo_nu2).tr gMo_nu2).tr gMo_nu2).tr gMo_nu2).tr gMo_put).tr gMo_nee).tr gMo_put
theorem gMo_sco {k v s : Nat → Int32} {f : Nat} {P : yPs} : gMo P (gSco k v s f P) := (gMo_onc.tr gMo_put).tr (fun q => ⟨(gSum_ad2 (gPar_ad2 4) _ q).1, (gSum_ad2 (gPar_ad2 4) _ q).2.1⟩)
/-- a statement that succeeds: what it keeps -/
theorem gSta_ok {k v s : Nat → Int32} {f : Nat} {P : yPs} (hn : ∃ nr, nr ≤ 8 ∧ P.2.2.2.1 2 = nI nr) (hcd : P.2.2.2.1 2002 = 0 → P.2.2.2.2 = []) (h : (gSta k v s f P).2.1 = 0) : P.1 + 1 ≤ (gSta k v s f P).1 ∧ ((gSta k v s f P).2.2.2.1 2002 = 0 → (gSta k v s f P).2.2.2.2 = []) := by
  obtain ⟨nr, hr8, hd2⟩ := hn
  have ht : tn (P.2.2.2.1 2) = nr := by rw [hd2, tn_nI (by omega)]
  have main : ∀ P2 : yPs, gMo P P2 → ((P2.2.1 = 0 → P2.2.2.2.1 2002 = P.2.2.2.1 2002) ∧ P2.2.2.2.2 = P.2.2.2.2 ∨ P2.2.2.2.1 2002 = 1) → (gTak k s 59 P2).2.1 = 0 → P.1 + 1 ≤ (gTak k s 59 P2).1 ∧ ((gTak k s 59 P2).2.2.2.1 2002 = 0 → (gTak k s 59 P2).2.2.2.2 = []) := fun P2 m c q => by
    obtain ⟨q1, -, q3⟩ := gTak_0 q
    rw [q3]
    refine ⟨Nat.succ_le_succ (m q1).2, fun w => ?_⟩
    rcases c with ⟨c1, c2⟩ | c
    · rw [show (gStp P2).2.2.2.2 = P2.2.2.2.2 from rfl, c2]
      exact hcd ((c1 q1).symm.trans w)
    · have w : P2.2.2.2.1 2002 = 0 := w
      rw [c] at w; exact absurd w (by decide)
  unfold gSta at h ⊢
  split at h
  · rename_i c; rw [if_pos c]; exact main _ ((gMo_onc.tr gMo_nu2).tr gMo_nu2) (Or.inl ⟨fun w => (gKp_prt w).2, gPrt_cd⟩) h
  · rename_i c1
    rw [if_neg c1]
    split at h
    · rename_i c
      rw [if_pos c]; exact main _ gMo_rea (Or.inl ⟨fun w => (gKp_rea (by omega) w).2, gRea_cd⟩) h
    · rename_i c2
      rw [if_neg c2]
      split at h
      · rename_i c; rw [if_pos c]; exact main _ ((gMo_onc.tr gMo_nu2).tr gMo_nu2) (Or.inl ⟨fun w => (gKp_fee w).2, gFee_cd⟩) h
      · rename_i c3
        rw [if_neg c3]
        split at h
        · rename_i c; rw [if_pos c]; exact main _ gMo_sco (Or.inr gSco_d) h
        · rename_i c4
          rw [if_neg c4]
          split at h
          · rename_i c; rw [if_pos c]; exact main _ (gMo_onc.tr gMo_nu2) (Or.inl ⟨fun w => (gKp_lim w).2, gLim_cd⟩) h
          · rename_i c5
            rw [if_neg c5]; exact main _ (gMo_err (by decide)) (Or.inl ⟨fun w => absurd w (gErr_e (by decide)), by rw [gErr_d]⟩) h
theorem c_clear_at (l : Launch) (D : yD) (z : Nat) {n : Nat} {sh : yS} {I : yI} {L : yL} {q : Nat} {M : yI} {a : Nat} (ha : yArr sh (q + a) 10 1824) (a15 : a < 15) : yM l D z yX8_clear cX8_clear 2 none 0 0 0 [.ref (q + a)] n sh (sR 15 I q M) L (yF none n sh (sR 15 I q (va_up M a (clrD (M a)))) L) yno := by
  have h := c_X8_clear l D z (n := n) (I := sR 15 I q M) (L := L) (a := q + a) (d := M a) ha
  rw [at_row a15, sR_row a15] at h
  exact h
/-- what the model's load does: thrown, or an error, or a new setup -/
def mlQ (n : Nat) (sh : yS) (I : yI) (q : Nat) (M : yI) (u len : Nat) (L : yL) (x : Int32) (bl : Nat) : Option Value → Nat → yS → yI → yL → Prop := fun v n2 sh2 I2 L2 => n2 = n ∧ sh2 = sh ∧ L2 = L ∧ ∃ M2, I2 = sR 15 I q M2 ∧
  ((¬ (¬ x < 0 ∧ x ≤ nI bl) ∧ v = some (.int 0) ∧ M2 = up2 M 0 0 1) ∨
   ((¬ x < 0 ∧ x ≤ nI bl) ∧ ∃ M3, (∀ r, r ≠ 0 → r ≠ 3 → M3 r = M r) ∧ (M3 0 0 = 0 ∧ M3 0 2 = 0 ∧ M3 0 7 = eatP (gTxt (M 1) len) ∧ M3 0 12 = M 0 12) ∧
     ((¬ (gTxt (M 1) len).2.1 = 0 ∧ v = some (.int (gTxt (M 1) len).2.1) ∧ M2 = M3) ∨
      ((gTxt (M 1) len).2.1 = 0 ∧ v = some (.int ((gTxt (M 1) len).2.2.2.1 2)) ∧ rmD M3 (gTxt (M 1) len).2.2.2.1 ∧ rmC M3 (cC (gTxt (M 1) len).2.2.2.2) ∧ ∃ M4, rmP M3 M4 u ∧ M2 = va_up M4 2 (cpyD (M4 3) (M4 2) 1824)))))
theorem rm_init {b : Nat → Int32} {len : Nat} {M : yI} (h4 : M 0 4 = 0 ∧ M 0 5 = 0 ∧ M 0 6 = -1 ∧ M 0 14 = 0 ∧ M 0 15 = 0) {d : Nat → Int32} (h3 : M 3 = clrD d) : rmK b len (tk b len len 0) M 0 (cC gP0.2.2.2.2) M gP0 := by
  obtain ⟨a4, a5, a6, a14, a15⟩ := h4
  have hc : ∀ j, j < 1824 → clrD d j = gD0 j := fun j hj => by
    unfold clrD gD0
    by_cases e8 : j = 8
    · subst e8; rfl
    rw [upd_ne9 e8]
    by_cases e1 : j = 1
    · subst e1; rfl
    rw [upd_ne9 e1]
    by_cases e0 : j = 0
    · subst e0; rfl
    rw [upd_ne9 e0, if_neg e0, if_neg e1, if_neg e8]
    exact if_pos hj
  refine ⟨⟨fun _ _ _ => rfl, rfl, rfl, rfl, rfl, rfl⟩, ⟨0, a4, Nat.zero_le _, fun _ => ⟨Nat.zero_le _, rfl⟩⟩, a5, a6, a14, ⟨0, by decide, by rw [h3, hc 2 (by decide)]; rfl, rfl⟩, ⟨0, by decide, by rw [h3, hc 10 (by decide)]; rfl⟩, fun _ => ⟨fun j hj _ => by rw [h3, hc j (by omega)]; rfl, ⟨by rw [h3, hc 10 (by decide)]; rfl, fun i hi => absurd hi (Nat.not_lt_zero _)⟩, ⟨⟨Or.inl rfl, Or.inl rfl, Or.inl rfl, Or.inl rfl⟩, a15⟩⟩⟩
set_option maxRecDepth 100000 in
set_option maxHeartbeats 4000000 in
theorem c_X8_load (l : Launch) (D : yD) (z : Nat) {n : Nat} {sh : yS} {I : yI} {L : yL} {q : Nat} {M : yI} (hQ : yMod sh q) (hby : byP (M 1)) {u : Nat} (hu : M 0 12 = nI u) (hu8 : u ≤ 8) {bl len : Nat} (hbl : M 0 2 = nI bl) (hbl9 : bl ≤ 900) {x : Int32} (hlen : ¬ x < 0 ∧ x ≤ nI bl → x = nI len ∧ len ≤ bl) : yM l D z yX8_load cX8_load 2 (some .int) 22 0 0 [.ref q, .int x] n sh (sR 15 I q M) L (mlQ n sh I q M u len L x bl) (yno) := by
  refine yM_of (by decide) (Nat.le_of_ble_eq_true rfl) rfl ?_
  intro X hC hr hnm hRc hRs htb
  have hC : yC X D z cX8_load RX8 2 22 := hC
  refine y_aload_n hC dX8_load_0 rfl ?_
  refine y_iconst (v := 0) hC dX8_load_1 (by decide) ?_
  refine y_putIR (w9 := 15) hC (by decide) (yM_o hQ) f_X8_39 rfl (Or.inl rfl) dX8_load_2 ?_
  refine y_aload_n hC dX8_load_5 rfl ?_
  refine y_iload_n hC dX8_load_6 rfl ?_
  refine y_iconst (v := 0) hC dX8_load_7 (by decide) ?_
  refine y_aload_n hC dX8_load_8 rfl ?_
  refine y_getIR (w9 := 15) hC (by decide) (yM_o hQ) f_X8_42 rfl dX8_load_9 ?_
  refine y_eqI (y := nI bl) ((show up2 M 0 0 0 0 2 = M 0 2 from rfl).trans hbl) ?_
  refine y_callS1 hC (c_X8_in X.2.1 D z) m_X8_61 rfl (by decide) (Nat.le_of_ble_eq_true rfl) (Nat.zero_le _) (Nat.zero_le _) dX8_load_12 ?_
  refine y_if_neB (tgt := 22) hC dX8_load_15 (by decide) (fun c15 => ?_) (fun c15 => ?_)
  · refine y_iconst (v := 0) hC dX8_load_22 (by decide) ?_
    refine y_iconst (v := 1) hC dX8_load_23 (by decide) ?_
    refine y_callV1 hC (c_X8_fails0 X.2.1 D z (M := up2 M 0 0 0) hQ rfl) m_X8_158 rfl (yM_o hQ) (by decide) (Nat.le_of_ble_eq_true rfl) (Nat.zero_le _) (Nat.zero_le _) dX8_load_24 ?_
    refine y_if_eq (tgt := 32) hC dX8_load_27 (by decide) (fun c27 => ?_) (fun c27 => absurd rfl c27)
    obtain ⟨ex, hle⟩ := hlen c15
    refine y_aload_n hC dX8_load_32 rfl ?_
    refine y_iconst (v := 0) hC dX8_load_33 (by decide) ?_
    refine y_putIR (w9 := 15) hC (by decide) (yM_o hQ) f_X8_42 rfl (Or.inl rfl) dX8_load_34 ?_
    refine y_aload_n hC dX8_load_37 rfl ?_
    refine y_iload_n hC dX8_load_38 rfl ?_
    refine y_putIR (w9 := 15) hC (by decide) (yM_o hQ) f_X8_45 rfl (Or.inl rfl) dX8_load_39 ?_
    refine y_aload_n hC dX8_load_42 rfl ?_
    refine y_iconst (v := 0) hC dX8_load_43 (by decide) ?_
    refine y_putIR (w9 := 15) hC (by decide) (yM_o hQ) f_X8_48 rfl (Or.inl rfl) dX8_load_44 ?_
    refine y_aload_n hC dX8_load_47 rfl ?_
    refine y_iconst (v := 0) hC dX8_load_48 (by decide) ?_
    refine y_putIR (w9 := 15) hC (by decide) (yM_o hQ) f_X8_55 rfl (Or.inl rfl) dX8_load_49 ?_
    refine y_aload_n hC dX8_load_52 rfl ?_
    refine y_iconst (v := (-1)) hC dX8_load_53 (by decide) ?_
    refine y_putIR (w9 := 15) hC (by decide) (yM_o hQ) f_X8_58 rfl (Or.inl rfl) dX8_load_54 ?_
    refine y_aload_n hC dX8_load_57 rfl ?_
    refine y_iconst (v := 0) hC dX8_load_58 (by decide) ?_
    refine y_putIR (w9 := 15) hC (by decide) (yM_o hQ) f_X8_98 rfl (Or.inl rfl) dX8_load_59 ?_
    refine y_aload_n hC dX8_load_62 rfl ?_
    refine y_iconst (v := 0) hC dX8_load_63 (by decide) ?_
    refine y_putIR (w9 := 15) hC (by decide) (yM_o hQ) f_X8_132 rfl (Or.inl rfl) dX8_load_64 ?_
    refine y_aload_n hC dX8_load_67 rfl ?_
    refine y_getR hC (yM_o hQ) (yM_r9 hQ) f_X8_20 rfl dX8_load_68 ?_
    refine y_callS0 hC (c_clear_at X.2.1 D z (a := 3) (yM_a9 hQ) (by decide)) m_X8_35 rfl (by decide) (Nat.le_of_ble_eq_true rfl) (Nat.zero_le _) (Nat.zero_le _) dX8_load_71 ?_
    obtain ⟨MZ, hMZ⟩ : ∃ MZ, MZ = va_up (up2 (up2 (up2 (up2 (up2 (up2 (up2 (up2 M 0 0 0) 0 2 0) 0 3 x) 0 4 0) 0 5 0) 0 6 (-1)) 0 14 0) 0 15 0) 3 (clrD ((up2 (up2 (up2 (up2 (up2 (up2 (up2 (up2 M 0 0 0) 0 2 0) 0 3 x) 0 4 0) 0 5 0) 0 6 (-1)) 0 14 0) 0 15 0) 3)) := ⟨_, rfl⟩
    rw [← hMZ]
    have hx : mX (M 1) len MZ := ⟨hby, by rw [hMZ]; rfl, by rw [hMZ]; exact ex, by omega⟩
    have hSl : (tk (M 1) len len 0).length ≤ 901 := by have := tk_len (b := M 1) (N := len) len 0; omega
    have mzr : ∀ r, r ≠ 0 → r ≠ 3 → MZ r = M r := fun r r0 r3 => by
      rw [hMZ, va_up_ne _ _ r3, up2_r r0, up2_r r0, up2_r r0, up2_r r0, up2_r r0, up2_r r0, up2_r r0, up2_r r0]
    have mz0 : MZ 0 0 = 0 := by rw [hMZ]; rfl
    have mz2 : MZ 0 2 = 0 := by rw [hMZ]; rfl
    have mz12 : MZ 0 12 = M 0 12 := by rw [hMZ]; rfl
    have hI0 : rmK (M 1) len (tk (M 1) len len 0) MZ 0 (cC gP0.2.2.2.2) MZ gP0 := rm_init (by rw [hMZ]; exact ⟨rfl, rfl, rfl, rfl, rfl⟩) (d := (up2 (up2 (up2 (up2 (up2 (up2 (up2 (up2 M 0 0 0) 0 2 0) 0 3 x) 0 4 0) 0 5 0) 0 6 (-1)) 0 14 0) 0 15 0) 3) (by rw [hMZ]; exact va_up_self _ _ _)
    have lp74 : ∀ (f9 j9 : Nat) (M9 : yI) (P2 : yPs), (P2.2.1 = 0 → (tk (M 1) len len 0).length ≤ P2.1 + f9) → (rmK (M 1) len (tk (M 1) len len 0) MZ 0 (cC P2.2.2.2.2) M9 P2 ∧ (P2.2.1 = 0 → P2.2.2.2.1 2002 = 0 → P2.2.2.2.2 = []) ∧ gAll (tkK (tk (M 1) len len 0)) (tkV (tk (M 1) len len 0)) (tkS (tk (M 1) len len 0)) (tk (M 1) len len 0).length f9 P2 = (gTxt (M 1) len)) → Y X D z 2 n sh (sR 15 I q M9) L 0 0 (yEnd X D z (mlQ n sh I q M u len L x bl) (yno) 0 0) 74 [some (.ref q), some (.int x)] [] := by
      intro f9
      induction f9 with
      | zero =>
        intro j9 M9 P2 hm hi
        refine y_aload_n hC dX8_load_74 rfl ?_
        refine y_callV1 hC (w_isGood X.2.1 D z hQ hi.1) m_X8_65 rfl (yM_o hQ) (by decide) (Nat.le_of_ble_eq_true rfl) (Nat.zero_le _) (Nat.zero_le _) dX8_load_75 ?_
        refine y_if_eqB (tgt := 96) hC dX8_load_78 (by decide) (fun c78 => ?_) (fun c78 => absurd (hi.1.bd c78) (by have := hm c78; omega))
        have eG : P2 = (gTxt (M 1) len) := by
          first | rw [← hi.2.2, gAll, if_neg (fun w => c78 w.1)] | rw [← hi.2.2, gAll]
        have hE : rmK (M 1) len (tk (M 1) len len 0) MZ 0 (cC (gTxt (M 1) len).2.2.2.2) M9 (gTxt (M 1) len) := by rw [← eG]; exact hi.1
        refine y_aload_n hC dX8_load_96 rfl ?_
        refine y_aload_n hC dX8_load_97 rfl ?_
        refine y_getIR (w9 := 15) hC (by decide) (yM_o hQ) f_X8_58 rfl dX8_load_98 ?_
        refine y_putIR (w9 := 15) hC (by decide) (yM_o hQ) f_X8_13 rfl (Or.inl rfl) dX8_load_101 ?_
        refine y_aload_n hC dX8_load_104 rfl ?_
        have e7 : up2 M9 0 7 (M9 0 6) 0 5 = (gTxt (M 1) len).2.1 := hE.2.2.1
        have hgd := c_X8_isGood X.2.1 D z (n := n) (I := I) (L := L) (M := up2 M9 0 7 (M9 0 6)) hQ
        rw [e7] at hgd
        have hz0 := hE.1
        have hM3 : (∀ r, r ≠ 0 → r ≠ 3 → up2 M9 0 7 (M9 0 6) r = M r) ∧ (up2 M9 0 7 (M9 0 6) 0 0 = 0 ∧ up2 M9 0 7 (M9 0 6) 0 2 = 0 ∧ up2 M9 0 7 (M9 0 6) 0 7 = eatP (gTxt (M 1) len) ∧ up2 M9 0 7 (M9 0 6) 0 12 = M 0 12) := ⟨fun r r0 r3 => ((up2_r r0).trans (hz0.1 r r0 r3)).trans (mzr r r0 r3), hz0.2.1.trans mz0, hz0.2.2.1.trans mz2, hE.2.2.2.1, hz0.2.2.2.2.2.trans mz12⟩
        refine y_callV1 hC hgd m_X8_65 rfl (yM_o hQ) (by decide) (Nat.le_of_ble_eq_true rfl) (Nat.zero_le _) (Nat.zero_le _) dX8_load_105 ?_
        refine y_if_neB (tgt := 116) hC dX8_load_108 (by decide) (fun c108 => ?_) (fun c108 => ?_)
        · refine y_aload_n hC dX8_load_116 rfl ?_
          refine y_callRem hC (c_rem_at X.2.1 D z (M := up2 M9 0 7 (M9 0 6)) hQ (u := u) (hM3.2.2.2.2.trans hu) hu8) m_X8_165 rfl (yM_o hQ) (by decide) (Nat.le_of_ble_eq_true rfl) (Nat.zero_le _) (Nat.zero_le _) dX8_load_117 (fun M4 hM4 => ?_)
          refine y_aload_n hC dX8_load_120 rfl ?_
          refine y_getR hC (yM_o hQ) (yM_r9 hQ) f_X8_20 rfl dX8_load_121 ?_
          refine y_aload_n hC dX8_load_124 rfl ?_
          refine y_getR hC (yM_o hQ) (yM_r8 hQ) f_X8_17 rfl dX8_load_125 ?_
          refine y_callS0 hC (c_copy_at X.2.1 D z (M := M4) hQ (a := 3) (b := 2) (yM_a9 hQ) (yM_a8 hQ) (by decide) (by decide) (by decide)) m_X8_168 rfl (by decide) (Nat.le_of_ble_eq_true rfl) (Nat.zero_le _) (Nat.zero_le _) dX8_load_128 ?_
          have rdE := hE.2.2.2.2.2.2.2 c108
          have v2 : va_up M4 2 (cpyD (M4 3) (M4 2) 1824) 2 2 = (gTxt (M 1) len).2.2.2.1 2 := by
            rw [va_up_self]
            show (if 2 < 1824 then M4 3 2 else _) = _
            rw [if_pos (by decide), hM4.2.2.2.2.2.2]
            exact rdE.1 2 (by decide) (by decide)
          refine y_aload_n hC dX8_load_131 rfl ?_
          refine y_getR hC (yM_o hQ) (yM_r8 hQ) f_X8_17 rfl dX8_load_132 ?_
          refine y_iconst (v := nI 2) hC dX8_load_135 (by decide) ?_
          refine y_ialdRN (w9 := 15) hC (by decide) (yM_a8 hQ) (by decide) dX8_load_136 ?_
          refine y_eqI v2 ?_
          exact y_iret hC hr rfl (Nat.zero_le _) (Nat.zero_le _) dX8_load_137 ⟨rfl, rfl, rfl, _, rfl, Or.inr ⟨c15, _, hM3.1, hM3.2, Or.inr ⟨c108, rfl, rdE.1, rdE.2.1, M4, hM4, rfl⟩⟩⟩
        · refine y_aload_n hC dX8_load_111 rfl ?_
          refine y_getIR (w9 := 15) hC (by decide) (yM_o hQ) f_X8_55 rfl dX8_load_112 ?_
          exact y_iret hC hr rfl (Nat.zero_le _) (Nat.zero_le _) dX8_load_115 ⟨rfl, rfl, rfl, _, rfl, Or.inr ⟨c15, _, hM3.1, hM3.2, Or.inl ⟨c108, congrArg (fun w => some (Value.int w)) e7, rfl⟩⟩⟩
      | succ f9 ih =>
        intro j9 M9 P2 hm hi
        refine y_aload_n hC dX8_load_74 rfl ?_
        refine y_callV1 hC (w_isGood X.2.1 D z hQ hi.1) m_X8_65 rfl (yM_o hQ) (by decide) (Nat.le_of_ble_eq_true rfl) (Nat.zero_le _) (Nat.zero_le _) dX8_load_75 ?_
        refine y_if_eqB (tgt := 96) hC dX8_load_78 (by decide) (fun c78 => ?_) (fun c78 => ?_)
        · have eG : P2 = (gTxt (M 1) len) := by
            first | rw [← hi.2.2, gAll, if_neg (fun w => c78 w.1)] | rw [← hi.2.2, gAll]
          have hE : rmK (M 1) len (tk (M 1) len len 0) MZ 0 (cC (gTxt (M 1) len).2.2.2.2) M9 (gTxt (M 1) len) := by rw [← eG]; exact hi.1
          refine y_aload_n hC dX8_load_96 rfl ?_
          refine y_aload_n hC dX8_load_97 rfl ?_
          refine y_getIR (w9 := 15) hC (by decide) (yM_o hQ) f_X8_58 rfl dX8_load_98 ?_
          refine y_putIR (w9 := 15) hC (by decide) (yM_o hQ) f_X8_13 rfl (Or.inl rfl) dX8_load_101 ?_
          refine y_aload_n hC dX8_load_104 rfl ?_
          have e7 : up2 M9 0 7 (M9 0 6) 0 5 = (gTxt (M 1) len).2.1 := hE.2.2.1
          have hgd := c_X8_isGood X.2.1 D z (n := n) (I := I) (L := L) (M := up2 M9 0 7 (M9 0 6)) hQ
          rw [e7] at hgd
          have hz0 := hE.1
          have hM3 : (∀ r, r ≠ 0 → r ≠ 3 → up2 M9 0 7 (M9 0 6) r = M r) ∧ (up2 M9 0 7 (M9 0 6) 0 0 = 0 ∧ up2 M9 0 7 (M9 0 6) 0 2 = 0 ∧ up2 M9 0 7 (M9 0 6) 0 7 = eatP (gTxt (M 1) len) ∧ up2 M9 0 7 (M9 0 6) 0 12 = M 0 12) := ⟨fun r r0 r3 => ((up2_r r0).trans (hz0.1 r r0 r3)).trans (mzr r r0 r3), hz0.2.1.trans mz0, hz0.2.2.1.trans mz2, hE.2.2.2.1, hz0.2.2.2.2.2.trans mz12⟩
          refine y_callV1 hC hgd m_X8_65 rfl (yM_o hQ) (by decide) (Nat.le_of_ble_eq_true rfl) (Nat.zero_le _) (Nat.zero_le _) dX8_load_105 ?_
          refine y_if_neB (tgt := 116) hC dX8_load_108 (by decide) (fun c108 => ?_) (fun c108 => ?_)
          · refine y_aload_n hC dX8_load_116 rfl ?_
            refine y_callRem hC (c_rem_at X.2.1 D z (M := up2 M9 0 7 (M9 0 6)) hQ (u := u) (hM3.2.2.2.2.trans hu) hu8) m_X8_165 rfl (yM_o hQ) (by decide) (Nat.le_of_ble_eq_true rfl) (Nat.zero_le _) (Nat.zero_le _) dX8_load_117 (fun M4 hM4 => ?_)
            refine y_aload_n hC dX8_load_120 rfl ?_
            refine y_getR hC (yM_o hQ) (yM_r9 hQ) f_X8_20 rfl dX8_load_121 ?_
            refine y_aload_n hC dX8_load_124 rfl ?_
            refine y_getR hC (yM_o hQ) (yM_r8 hQ) f_X8_17 rfl dX8_load_125 ?_
            refine y_callS0 hC (c_copy_at X.2.1 D z (M := M4) hQ (a := 3) (b := 2) (yM_a9 hQ) (yM_a8 hQ) (by decide) (by decide) (by decide)) m_X8_168 rfl (by decide) (Nat.le_of_ble_eq_true rfl) (Nat.zero_le _) (Nat.zero_le _) dX8_load_128 ?_
            have rdE := hE.2.2.2.2.2.2.2 c108
            have v2 : va_up M4 2 (cpyD (M4 3) (M4 2) 1824) 2 2 = (gTxt (M 1) len).2.2.2.1 2 := by
              rw [va_up_self]
              show (if 2 < 1824 then M4 3 2 else _) = _
              rw [if_pos (by decide), hM4.2.2.2.2.2.2]
              exact rdE.1 2 (by decide) (by decide)
            refine y_aload_n hC dX8_load_131 rfl ?_
            refine y_getR hC (yM_o hQ) (yM_r8 hQ) f_X8_17 rfl dX8_load_132 ?_
            refine y_iconst (v := nI 2) hC dX8_load_135 (by decide) ?_
            refine y_ialdRN (w9 := 15) hC (by decide) (yM_a8 hQ) (by decide) dX8_load_136 ?_
            refine y_eqI v2 ?_
            exact y_iret hC hr rfl (Nat.zero_le _) (Nat.zero_le _) dX8_load_137 ⟨rfl, rfl, rfl, _, rfl, Or.inr ⟨c15, _, hM3.1, hM3.2, Or.inr ⟨c108, rfl, rdE.1, rdE.2.1, M4, hM4, rfl⟩⟩⟩
          · refine y_aload_n hC dX8_load_111 rfl ?_
            refine y_getIR (w9 := 15) hC (by decide) (yM_o hQ) f_X8_55 rfl dX8_load_112 ?_
            exact y_iret hC hr rfl (Nat.zero_le _) (Nat.zero_le _) dX8_load_115 ⟨rfl, rfl, rfl, _, rfl, Or.inr ⟨c15, _, hM3.1, hM3.2, Or.inl ⟨c108, congrArg (fun w => some (Value.int w)) e7, rfl⟩⟩⟩
        · refine y_aload_n hC dX8_load_81 rfl ?_
          refine y_callYn hC (w_next X.2.1 D z hQ hx hi.1 c78) m_X8_69 rfl (yM_o hQ) (by decide) (Nat.le_of_ble_eq_true rfl) (Nat.zero_le _) (Nat.zero_le _) dX8_load_82 (fun x1 M1 g1 => ?_)
          obtain ⟨a1, rfl, hA1⟩ := g1
          refine y_iconst (v := (-1)) hC dX8_load_85 (by decide) ?_
          refine y_icmp_eq (tgt := 96) hC dX8_load_86 (by decide) (fun c86 => ?_) (fun c86 => ?_)
          · have eG : P2 = (gTxt (M 1) len) := by
              rw [← hi.2.2, gAll, if_neg (fun w => w.2 ((lx_end hA1.2.2).mp c86))]
            have hE : rmK (M 1) len (tk (M 1) len len 0) MZ 0 (cC (gTxt (M 1) len).2.2.2.2) M1 (gTxt (M 1) len) := by rw [← eG]; exact hA1.1
            refine y_aload_n hC dX8_load_96 rfl ?_
            refine y_aload_n hC dX8_load_97 rfl ?_
            refine y_getIR (w9 := 15) hC (by decide) (yM_o hQ) f_X8_58 rfl dX8_load_98 ?_
            refine y_putIR (w9 := 15) hC (by decide) (yM_o hQ) f_X8_13 rfl (Or.inl rfl) dX8_load_101 ?_
            refine y_aload_n hC dX8_load_104 rfl ?_
            have e7 : up2 M1 0 7 (M1 0 6) 0 5 = (gTxt (M 1) len).2.1 := hE.2.2.1
            have hgd := c_X8_isGood X.2.1 D z (n := n) (I := I) (L := L) (M := up2 M1 0 7 (M1 0 6)) hQ
            rw [e7] at hgd
            have hz0 := hE.1
            have hM3 : (∀ r, r ≠ 0 → r ≠ 3 → up2 M1 0 7 (M1 0 6) r = M r) ∧ (up2 M1 0 7 (M1 0 6) 0 0 = 0 ∧ up2 M1 0 7 (M1 0 6) 0 2 = 0 ∧ up2 M1 0 7 (M1 0 6) 0 7 = eatP (gTxt (M 1) len) ∧ up2 M1 0 7 (M1 0 6) 0 12 = M 0 12) := ⟨fun r r0 r3 => ((up2_r r0).trans (hz0.1 r r0 r3)).trans (mzr r r0 r3), hz0.2.1.trans mz0, hz0.2.2.1.trans mz2, hE.2.2.2.1, hz0.2.2.2.2.2.trans mz12⟩
            refine y_callV1 hC hgd m_X8_65 rfl (yM_o hQ) (by decide) (Nat.le_of_ble_eq_true rfl) (Nat.zero_le _) (Nat.zero_le _) dX8_load_105 ?_
            refine y_if_neB (tgt := 116) hC dX8_load_108 (by decide) (fun c108 => ?_) (fun c108 => ?_)
            · refine y_aload_n hC dX8_load_116 rfl ?_
              refine y_callRem hC (c_rem_at X.2.1 D z (M := up2 M1 0 7 (M1 0 6)) hQ (u := u) (hM3.2.2.2.2.trans hu) hu8) m_X8_165 rfl (yM_o hQ) (by decide) (Nat.le_of_ble_eq_true rfl) (Nat.zero_le _) (Nat.zero_le _) dX8_load_117 (fun M4 hM4 => ?_)
              refine y_aload_n hC dX8_load_120 rfl ?_
              refine y_getR hC (yM_o hQ) (yM_r9 hQ) f_X8_20 rfl dX8_load_121 ?_
              refine y_aload_n hC dX8_load_124 rfl ?_
              refine y_getR hC (yM_o hQ) (yM_r8 hQ) f_X8_17 rfl dX8_load_125 ?_
              refine y_callS0 hC (c_copy_at X.2.1 D z (M := M4) hQ (a := 3) (b := 2) (yM_a9 hQ) (yM_a8 hQ) (by decide) (by decide) (by decide)) m_X8_168 rfl (by decide) (Nat.le_of_ble_eq_true rfl) (Nat.zero_le _) (Nat.zero_le _) dX8_load_128 ?_
              have rdE := hE.2.2.2.2.2.2.2 c108
              have v2 : va_up M4 2 (cpyD (M4 3) (M4 2) 1824) 2 2 = (gTxt (M 1) len).2.2.2.1 2 := by
                rw [va_up_self]
                show (if 2 < 1824 then M4 3 2 else _) = _
                rw [if_pos (by decide), hM4.2.2.2.2.2.2]
                exact rdE.1 2 (by decide) (by decide)
              refine y_aload_n hC dX8_load_131 rfl ?_
              refine y_getR hC (yM_o hQ) (yM_r8 hQ) f_X8_17 rfl dX8_load_132 ?_
              refine y_iconst (v := nI 2) hC dX8_load_135 (by decide) ?_
              refine y_ialdRN (w9 := 15) hC (by decide) (yM_a8 hQ) (by decide) dX8_load_136 ?_
              refine y_eqI v2 ?_
              exact y_iret hC hr rfl (Nat.zero_le _) (Nat.zero_le _) dX8_load_137 ⟨rfl, rfl, rfl, _, rfl, Or.inr ⟨c15, _, hM3.1, hM3.2, Or.inr ⟨c108, rfl, rdE.1, rdE.2.1, M4, hM4, rfl⟩⟩⟩
            · refine y_aload_n hC dX8_load_111 rfl ?_
              refine y_getIR (w9 := 15) hC (by decide) (yM_o hQ) f_X8_55 rfl dX8_load_112 ?_
              exact y_iret hC hr rfl (Nat.zero_le _) (Nat.zero_le _) dX8_load_115 ⟨rfl, rfl, rfl, _, rfl, Or.inr ⟨c15, _, hM3.1, hM3.2, Or.inl ⟨c108, congrArg (fun w => some (Value.int w)) e7, rfl⟩⟩⟩
          · refine y_aload_n hC dX8_load_89 rfl ?_
            refine y_callY hC (c_X8_statement X.2.1 D z hQ hx hSl hA1.1 c78 (hi.2.1 c78)) m_X8_162 rfl (yM_o hQ) (by decide) (Nat.le_of_ble_eq_true rfl) (Nat.zero_le _) (Nat.zero_le _) dX8_load_90 (fun M2 g2 => ?_)
            refine y_goto (tgt := 74) hC dX8_load_93 (by decide) ?_
            have hnr : ∃ nr, nr ≤ 8 ∧ P2.2.2.2.1 2 = nI nr := by
              obtain ⟨nr, w1, -, w3⟩ := hi.1.2.2.2.2.2.1
              exact ⟨nr, w1, w3⟩
            exact ih 0 _ (gSta (tkK (tk (M 1) len len 0)) (tkV (tk (M 1) len len 0)) (tkS (tk (M 1) len len 0)) (tk (M 1) len len 0).length P2) (fun w => by have w1 := (gSta_ok hnr (hi.2.1 c78) w).1; have w2 := hm c78; omega) ⟨g2, fun w => (gSta_ok hnr (hi.2.1 c78) w).2, by rw [← hi.2.2, gAll, if_pos ⟨c78, fun w => c86 ((lx_end hA1.2.2).mpr w)⟩]⟩
    exact lp74 (tk (M 1) len len 0).length 0 _ gP0 (fun _ => by omega) ⟨hI0, fun _ _ => rfl, rfl⟩
  · refine y_iconst (v := 1) hC dX8_load_18 (by decide) ?_
    refine y_goto (tgt := 23) hC dX8_load_19 (by decide) ?_
    refine y_iconst (v := 1) hC dX8_load_23 (by decide) ?_
    refine y_callV1 hC (c_X8_fails1 X.2.1 D z (M := up2 M 0 0 0) hQ rfl (by decide)) m_X8_158 rfl (yM_o hQ) (by decide) (Nat.le_of_ble_eq_true rfl) (Nat.zero_le _) (Nat.zero_le _) dX8_load_24 ?_
    refine y_if_eq (tgt := 32) hC dX8_load_27 (by decide) (fun c27 => absurd c27 (by decide)) (fun c27 => ?_)
    refine y_iconst (v := 0) hC dX8_load_30 (by decide) ?_
    exact y_iret hC hr rfl (Nat.zero_le _) (Nat.zero_le _) dX8_load_31 ⟨rfl, rfl, rfl, _, rfl, Or.inl ⟨c15, rfl, up2_up2⟩⟩
