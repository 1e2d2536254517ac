def pD (d : Nat → Int32) (k : Nat) : Nat := tn (d (164 + 8 * k))
def iD (d : Nat → Int32) (k : Nat) : Nat := tn (d (68 + 4 * pD d k))
def mD (d : Nat → Int32) (k : Nat) : Nat := tn (d (68 + 4 * pD d k + 1))
def rD (d : Nat → Int32) (k : Nat) : Nat := tn (d (164 + 8 * k + 1))
def nD (d : Nat → Int32) (k : Nat) : Nat := tn (d (20 + 6 * rD d k + 5))
def eD (d : Nat → Int32) (k : Nat) : Nat := tn (d (164 + 8 * k + 4))
/-- the array is in order: its disputes, its code -/
def dV (d : Nat → Int32) (nd : Nat) (cd : List Int32) : Prop := nd ≤ 20 ∧ d 4 = nI nd ∧ (∀ k, k < nd → dK d k (pD d k) (iD d k) (mD d k) (rD d k) ∧ d (20 + 6 * rD d k + 5) = nI (nD d k) ∧ nD d k < 256 ∧ d (164 + 8 * k + 4) = nI (eD d k) ∧ eD d k < 256) ∧ (d 9 = 0 ∨ (cAt d 0 cd ∧ okc 1500 cd 0))
theorem pD_fz {d d2 : Nat → Int32} (f : dF d d2) (k : Nat) : pD d2 k = pD d k := by unfold pD; rw [f _ (by unfold frz; omega)]
theorem tn_24 {d : Nat → Int32} {k p i m r : Nat} (h : dK d k p i m r) : pD d k = p := by
  unfold pD
  rw [h.2.1, tn_nI (by have := h.2.2.1; omega)]
theorem dV.fz {d d2 : Nat → Int32} {nd : Nat} {cd : List Int32} (h : dV d nd cd) (f : dF d d2) : dV d2 nd cd := by
  obtain ⟨h1, h2, h3, h4⟩ := h
  refine ⟨h1, (f 4 (by unfold frz; omega)).trans h2, fun k hk => ?_, ?_⟩
  · obtain ⟨a1, a2, a3, a4, a5⟩ := h3 k hk
    have ep := pD_fz f k
    have p24 := a1.2.2.1
    have r8 := a1.2.2.2.2.2.2.2.2
    have ei : iD d2 k = iD d k := by unfold iD; rw [ep, f _ (by unfold frz; omega)]
    have em : mD d2 k = mD d k := by unfold mD; rw [ep, f _ (by unfold frz; omega)]
    have er : rD d2 k = rD d k := by unfold rD; rw [f _ (by unfold frz; omega)]
    have en : nD d2 k = nD d k := by unfold nD; rw [er, f _ (by unfold frz; omega)]
    have ee : eD d2 k = eD d k := by unfold eD; rw [f _ (by unfold frz; omega)]
    rw [ep, ei, em, er, en, ee]
    exact ⟨a1.fz f, (f _ (by unfold frz; omega)).trans a2, a3, (f _ (by unfold frz; omega)).trans a4, a5⟩
  · rcases h4 with h4 | ⟨h4, h5⟩
    · exact Or.inl ((f 9 (by unfold frz; omega)).trans h4)
    · exact Or.inr ⟨h4.fz f, h5⟩
/-- does the merchant win dispute k if nobody does anything -/
abbrev mwP (d : Nat → Int32) (cd : List Int32) (k : Nat) : Prop := d (164 + 8 * k + 5) = 1 ∨ (d (164 + 8 * k + 5) = 3 ∧ wnM d k (pD d k) (rD d k) (eD d k) (nD d k) cd)
abbrev duP (d : Nat → Int32) (k : Nat) : Prop := d (164 + 8 * k + 5) < 4 ∧ d (164 + 8 * k + 6) < d 5
/-- a day passes -/
def pdS (d : Nat → Int32) (cd : List Int32) : Nat → (Nat → Int32) × Int32
  | 0 => (upd d 5 (d 5 + 1), 0)
  | k + 1 => if duP (pdS d cd k).1 k then (endD (pdS d cd k).1 k (iD (pdS d cd k).1 k) (mD (pdS d cd k).1 k) (mwP (pdS d cd k).1 cd k) ((pdS d cd k).1 (164 + 8 * k + 5) = 3), (pdS d cd k).2 + 1) else pdS d cd k
theorem endD_c {d : Nat → Int32} {k i m : Nat} {w b w2 b2 : Prop} [Decidable w] [Decidable b] [Decidable w2] [Decidable b2] (h1 : w ↔ w2) (h2 : b ↔ b2) : endD d k i m w b = endD d k i m w2 b2 := by
  unfold endD arbD giveD
  by_cases hw : w
  · have hw2 := h1.mp hw
    by_cases hb : b
    · have hb2 := h2.mp hb
      simp only [hw, hw2, hb, hb2, if_true]
    · have hb2 : ¬ b2 := fun q => hb (h2.mpr q)
      simp only [hw, hw2, hb, hb2, if_true, if_false]
  · have hw2 : ¬ w2 := fun q => hw (h1.mpr q)
    by_cases hb : b
    · have hb2 := h2.mp hb
      simp only [hw, hw2, hb, hb2, if_true, if_false]
    · have hb2 : ¬ b2 := fun q => hb (h2.mpr q)
      simp only [hw, hw2, hb, hb2, if_false]
theorem pdS_t {d C : Nat → Int32} {cd : List Int32} {s : Int32} {j : Nat} {w b : Prop} [Decidable w] [Decidable b] (hi : (C, s) = pdS d cd j) (h1 : duP C j) (hw : w ↔ mwP C cd j) (hb : b ↔ C (164 + 8 * j + 5) = 3) : (endD C j (iD C j) (mD C j) w b, s + 1) = pdS d cd (j + 1) := by
  rw [pdS, ← hi]
  show _ = if duP C j then _ else _
  rw [if_pos h1, endD_c hw hb]
theorem pdS_f {d C : Nat → Int32} {cd : List Int32} {s : Int32} {j : Nat} (hi : (C, s) = pdS d cd j) (h1 : ¬ duP C j) : (C, s) = pdS d cd (j + 1) := by
  rw [pdS, ← hi]
  show _ = if duP C j then _ else _
  rw [if_neg h1]
theorem upd_same {d : Nat → Int32} {j : Nat} {v : Int32} : upd d j v j = v := by
  unfold upd
  rw [if_pos rfl]
set_option maxRecDepth 100000 in
set_option maxHeartbeats 4000000 in
theorem c_X8_passDay (l : Launch) (D : yD) (z : Nat) {n : Nat} {sh : yS} {I : yI} {L : yL} {q a : Nat} {d : Nat → Int32} (hQ : yMod sh q) (ha : yArr sh a 10 1824) {nd : Nat} {cd : List Int32} (hV : dV d nd cd) {S0 : Nat → Int64} : yM l D z yX8_passDay cX8_passDay 6 (some .int) 4 0 0 [.ref q, .ref a] n sh (va_up I a d) (va_up L (q + 14) S0) (yFl (some (.int (pdS d cd nd).2)) n sh (va_up I a (pdS d cd nd).1) q (va_up L (q + 14) S0)) (yno) := by
  refine yM_of (by decide) (Nat.le_of_ble_eq_true rfl) rfl ?_
  intro X hC hr hnm hRc hRs htb
  have hC : yC X D z cX8_passDay RX8 6 4 := hC
  refine y_iconst (v := 0) hC dX8_passDay_0 (by decide) ?_
  refine y_istore_n hC dX8_passDay_1 (by decide) rfl ?_
  refine y_aload_n hC dX8_passDay_2 rfl ?_
  refine y_iconst (v := nI 5) hC dX8_passDay_3 (by decide) ?_
  refine y_dup2 hC dX8_passDay_4 rfl rfl ?_
  refine y_ialdAN hC ha (by decide) dX8_passDay_5 ?_
  refine y_iconst (v := 1) hC dX8_passDay_6 (by decide) ?_
  refine y_iadd hC dX8_passDay_7 ?_
  refine y_iastAN hC ha (by decide) dX8_passDay_8 ?_
  refine y_iconst (v := nI 0) hC dX8_passDay_9 (by decide) ?_
  refine y_istore_n hC dX8_passDay_10 (by decide) rfl ?_
  have lp11 : ∀ (f9 j : Nat) (C : Nat → Int32) (s : Int32) (S : Nat → Int64) (v4 v5 : Option Value), j + f9 = nd → (C, s) = pdS d cd j → dF d C → Y X D z 6 n sh (va_up I a C) (va_up L (q + 14) S) 0 0 (yEnd X D z (yFl (some (.int (pdS d cd nd).2)) n sh (va_up I a (pdS d cd nd).1) q (va_up L (q + 14) S0)) (yno) 0 0) 11 [some (.ref q), some (.ref a), some (.int s), some (.int (nI j)), v4, v5] [] := by
    intro f9
    induction f9 with
    | zero =>
      intro j C s S v4 v5 hm hi hf
      have hVC := hV.fz hf
      have n20 := hV.1
      refine y_iload_n hC dX8_passDay_11 rfl ?_
      refine y_aload_n hC dX8_passDay_12 rfl ?_
      refine y_iconst (v := nI 4) hC dX8_passDay_13 (by decide) ?_
      refine y_ialdAN hC ha (by decide) dX8_passDay_14 ?_
      rw [hVC.2.1]
      refine y_icmp_ge (tgt := 113) hC dX8_passDay_15 (by decide) (fun c15 => ?_) (fun c15 => absurd (nI_le (by omega) (by omega)) c15)
      refine y_iload_n hC dX8_passDay_113 rfl ?_
      exact y_iret hC hr rfl (Nat.zero_le _) (Nat.zero_le _) dX8_passDay_114 (by obtain rfl : j = nd := (by omega); rw [← hi, ← bx_uu L (q + 14) S0 S]; exact yFl.mk rfl)
    | succ f9 ih =>
      intro j C s S v4 v5 hm hi hf
      have hVC := hV.fz hf
      have n20 := hV.1
      refine y_iload_n hC dX8_passDay_11 rfl ?_
      refine y_aload_n hC dX8_passDay_12 rfl ?_
      refine y_iconst (v := nI 4) hC dX8_passDay_13 (by decide) ?_
      refine y_ialdAN hC ha (by decide) dX8_passDay_14 ?_
      rw [hVC.2.1]
      refine y_icmp_ge (tgt := 113) hC dX8_passDay_15 (by decide) (fun c15 => absurd c15 (nI_ge (by omega) (by omega))) (fun c15 => ?_)
      have vK := hVC.2.2.1 j (by omega)
      refine y_iload_n hC dX8_passDay_18 rfl ?_
      refine y_callS1 hC (c_X8_dispute X.2.1 D z (j := j) rfl) m_X8_180 rfl (by decide) (Nat.le_of_ble_eq_true rfl) (Nat.zero_le _) (Nat.zero_le _) dX8_passDay_19 ?_
      refine y_istore hC dX8_passDay_22 (by decide) rfl ?_
      refine y_aload_n hC dX8_passDay_24 rfl ?_
      refine y_iload hC dX8_passDay_25 rfl ?_
      refine y_iconst (v := nI 5) hC dX8_passDay_27 (by decide) ?_
      refine y_iaddN hC dX8_passDay_28 ?_
      refine y_ialdAN hC ha (by omega) dX8_passDay_29 ?_
      refine y_istore hC dX8_passDay_30 (by decide) rfl ?_
      refine y_aload_n hC dX8_passDay_32 rfl ?_
      refine y_iload_n hC dX8_passDay_33 rfl ?_
      refine y_callS1 hC (c_X8_isFinal X.2.1 D z ha (k := j) (by omega)) m_X8_215 rfl (by decide) (Nat.le_of_ble_eq_true rfl) (Nat.zero_le _) (Nat.zero_le _) dX8_passDay_34 ?_
      refine y_if_neB (tgt := 107) hC dX8_passDay_37 (by decide) (fun c37 => ?_) (fun c37 => ?_)
      · refine y_iincN hC dX8_passDay_107 rfl rfl (by decide) rfl ?_
        refine y_goto (tgt := 11) hC dX8_passDay_110 (by decide) ?_
        first | exact ih (j + 1) _ _ _ _ _ (by omega) (pdS_f hi (fun q => c37 q.1)) hf | exact ih (j + 1) _ _ _ _ _ (by omega) (pdS_f hi (fun q => c50 q.2)) hf
      · refine y_aload_n hC dX8_passDay_40 rfl ?_
        refine y_iload hC dX8_passDay_41 rfl ?_
        refine y_bipush (v := nI 6) hC dX8_passDay_43 (by decide) ?_
        refine y_iaddN hC dX8_passDay_45 ?_
        refine y_ialdAN hC ha (by omega) dX8_passDay_46 ?_
        refine y_aload_n hC dX8_passDay_47 rfl ?_
        refine y_iconst (v := nI 5) hC dX8_passDay_48 (by decide) ?_
        refine y_ialdAN hC ha (by decide) dX8_passDay_49 ?_
        refine y_icmp_lt (tgt := 56) hC dX8_passDay_50 (by decide) (fun c50 => ?_) (fun c50 => ?_)
        · refine y_aload_n hC dX8_passDay_56 rfl ?_
          refine y_iload_n hC dX8_passDay_57 rfl ?_
          refine y_iload hC dX8_passDay_58 rfl ?_
          refine y_iconst (v := 1) hC dX8_passDay_60 (by decide) ?_
          refine y_icmp_eq (tgt := 85) hC dX8_passDay_61 (by decide) (fun c61 => ?_) (fun c61 => ?_)
          · refine y_iconst (v := 1) hC dX8_passDay_85 (by decide) ?_
            refine y_goto (tgt := 90) hC dX8_passDay_86 (by decide) ?_
            refine y_iload hC dX8_passDay_90 rfl ?_
            refine y_iconst (v := 3) hC dX8_passDay_92 (by decide) ?_
            refine y_icmp_ne (tgt := 100) hC dX8_passDay_93 (by decide) (fun c93 => ?_) (fun c93 => ?_)
            · refine y_iconst (v := 0) hC dX8_passDay_100 (by decide) ?_
              refine y_callS0 hC (c_X8_end10 X.2.1 D z ha vK.1) m_X8_223 rfl (by decide) (Nat.le_of_ble_eq_true rfl) (Nat.zero_le _) (Nat.zero_le _) dX8_passDay_101 ?_
              refine y_iinc hC dX8_passDay_104 rfl rfl (by decide) rfl ?_
              refine y_iincN hC dX8_passDay_107 rfl rfl (by decide) rfl ?_
              refine y_goto (tgt := 11) hC dX8_passDay_110 (by decide) ?_
              have hw9 : True ↔ mwP C cd j := (by first | exact iff_of_true trivial (Or.inl c61) | exact iff_of_true trivial (Or.inr ⟨c67, c82⟩))
              have hb9 : False ↔ C (164 + 8 * j + 5) = 3 := (iff_of_false id c93)
              exact ih (j + 1) _ _ _ _ _ (by omega) (pdS_t (w := True) (b := False) hi ⟨Decidable.not_not.mp c37, c50⟩ hw9 hb9) (hf.trans (endF (by omega) vK.1.2.2.2.2.1 vK.1.2.2.2.2.2.2.1))
            · refine y_iconst (v := 1) hC dX8_passDay_96 (by decide) ?_
              refine y_goto (tgt := 101) hC dX8_passDay_97 (by decide) ?_
              refine y_callS0 hC (c_X8_end11 X.2.1 D z ha vK.1) m_X8_223 rfl (by decide) (Nat.le_of_ble_eq_true rfl) (Nat.zero_le _) (Nat.zero_le _) dX8_passDay_101 ?_
              refine y_iinc hC dX8_passDay_104 rfl rfl (by decide) rfl ?_
              refine y_iincN hC dX8_passDay_107 rfl rfl (by decide) rfl ?_
              refine y_goto (tgt := 11) hC dX8_passDay_110 (by decide) ?_
              have hw9 : True ↔ mwP C cd j := (by first | exact iff_of_true trivial (Or.inl c61) | exact iff_of_true trivial (Or.inr ⟨c67, c82⟩))
              have hb9 : True ↔ C (164 + 8 * j + 5) = 3 := (iff_of_true trivial c93)
              exact ih (j + 1) _ _ _ _ _ (by omega) (pdS_t (w := True) (b := True) hi ⟨Decidable.not_not.mp c37, c50⟩ hw9 hb9) (hf.trans (endF (by omega) vK.1.2.2.2.2.1 vK.1.2.2.2.2.2.2.1))
          · refine y_iload hC dX8_passDay_64 rfl ?_
            refine y_iconst (v := 3) hC dX8_passDay_66 (by decide) ?_
            refine y_icmp_ne (tgt := 89) hC dX8_passDay_67 (by decide) (fun c67 => ?_) (fun c67 => ?_)
            · refine y_iconst (v := 0) hC dX8_passDay_89 (by decide) ?_
              refine y_iload hC dX8_passDay_90 rfl ?_
              refine y_iconst (v := 3) hC dX8_passDay_92 (by decide) ?_
              refine y_icmp_ne (tgt := 100) hC dX8_passDay_93 (by decide) (fun c93 => ?_) (fun c93 => ?_)
              · refine y_iconst (v := 0) hC dX8_passDay_100 (by decide) ?_
                refine y_callS0 hC (c_X8_end00 X.2.1 D z ha vK.1) m_X8_223 rfl (by decide) (Nat.le_of_ble_eq_true rfl) (Nat.zero_le _) (Nat.zero_le _) dX8_passDay_101 ?_
                refine y_iinc hC dX8_passDay_104 rfl rfl (by decide) rfl ?_
                refine y_iincN hC dX8_passDay_107 rfl rfl (by decide) rfl ?_
                refine y_goto (tgt := 11) hC dX8_passDay_110 (by decide) ?_
                have hw9 : False ↔ mwP C cd j := (by first | exact iff_of_false id (fun q => q.elim c61 (fun r => c67 r.1)) | exact iff_of_false id (fun q => q.elim c61 (fun r => c82 r.2)))
                have hb9 : False ↔ C (164 + 8 * j + 5) = 3 := (iff_of_false id c93)
                exact ih (j + 1) _ _ _ _ _ (by omega) (pdS_t (w := False) (b := False) hi ⟨Decidable.not_not.mp c37, c50⟩ hw9 hb9) (hf.trans (endF (by omega) vK.1.2.2.2.2.1 vK.1.2.2.2.2.2.2.1))
              · refine y_iconst (v := 1) hC dX8_passDay_96 (by decide) ?_
                refine y_goto (tgt := 101) hC dX8_passDay_97 (by decide) ?_
                refine y_callS0 hC (c_X8_end01 X.2.1 D z ha vK.1) m_X8_223 rfl (by decide) (Nat.le_of_ble_eq_true rfl) (Nat.zero_le _) (Nat.zero_le _) dX8_passDay_101 ?_
                refine y_iinc hC dX8_passDay_104 rfl rfl (by decide) rfl ?_
                refine y_iincN hC dX8_passDay_107 rfl rfl (by decide) rfl ?_
                refine y_goto (tgt := 11) hC dX8_passDay_110 (by decide) ?_
                have hw9 : False ↔ mwP C cd j := (by first | exact iff_of_false id (fun q => q.elim c61 (fun r => c67 r.1)) | exact iff_of_false id (fun q => q.elim c61 (fun r => c82 r.2)))
                have hb9 : True ↔ C (164 + 8 * j + 5) = 3 := (iff_of_true trivial c93)
                exact ih (j + 1) _ _ _ _ _ (by omega) (pdS_t (w := False) (b := True) hi ⟨Decidable.not_not.mp c37, c50⟩ hw9 hb9) (hf.trans (endF (by omega) vK.1.2.2.2.2.1 vK.1.2.2.2.2.2.2.1))
            · refine y_aload_n hC dX8_passDay_70 rfl ?_
              refine y_aload_n hC dX8_passDay_71 rfl ?_
              refine y_iload_n hC dX8_passDay_72 rfl ?_
              refine y_aload_n hC dX8_passDay_73 rfl ?_
              refine y_iload hC dX8_passDay_74 rfl ?_
              refine y_iconst (v := nI 4) hC dX8_passDay_76 (by decide) ?_
              refine y_iaddN hC dX8_passDay_77 ?_
              refine y_ialdAN hC ha (by omega) dX8_passDay_78 ?_
              rw [vK.2.2.2.1]
              refine y_callV1l (q := q) hC (fun S => c_X8_wins X.2.1 D z hQ ha vK.1 vK.2.2.2.2 vK.2.2.1 vK.2.1 hVC.2.2.2 (S0 := S)) m_X8_219 rfl (yM_o hQ) (by decide) (Nat.le_of_ble_eq_true rfl) (Nat.zero_le _) (Nat.zero_le _) dX8_passDay_79 (fun S79 => ?_)
              refine y_if_eqB (tgt := 89) hC dX8_passDay_82 (by decide) (fun c82 => ?_) (fun c82 => ?_)
              · refine y_iconst (v := 0) hC dX8_passDay_89 (by decide) ?_
                refine y_iload hC dX8_passDay_90 rfl ?_
                refine y_iconst (v := 3) hC dX8_passDay_92 (by decide) ?_
                refine y_icmp_ne (tgt := 100) hC dX8_passDay_93 (by decide) (fun c93 => ?_) (fun c93 => ?_)
                · refine y_iconst (v := 0) hC dX8_passDay_100 (by decide) ?_
                  refine y_callS0 hC (c_X8_end00 X.2.1 D z ha vK.1) m_X8_223 rfl (by decide) (Nat.le_of_ble_eq_true rfl) (Nat.zero_le _) (Nat.zero_le _) dX8_passDay_101 ?_
                  refine y_iinc hC dX8_passDay_104 rfl rfl (by decide) rfl ?_
                  refine y_iincN hC dX8_passDay_107 rfl rfl (by decide) rfl ?_
                  refine y_goto (tgt := 11) hC dX8_passDay_110 (by decide) ?_
                  have hw9 : False ↔ mwP C cd j := (by first | exact iff_of_false id (fun q => q.elim c61 (fun r => c67 r.1)) | exact iff_of_false id (fun q => q.elim c61 (fun r => c82 r.2)))
                  have hb9 : False ↔ C (164 + 8 * j + 5) = 3 := (iff_of_false id c93)
                  exact ih (j + 1) _ _ _ _ _ (by omega) (pdS_t (w := False) (b := False) hi ⟨Decidable.not_not.mp c37, c50⟩ hw9 hb9) (hf.trans (endF (by omega) vK.1.2.2.2.2.1 vK.1.2.2.2.2.2.2.1))
                · refine y_iconst (v := 1) hC dX8_passDay_96 (by decide) ?_
                  refine y_goto (tgt := 101) hC dX8_passDay_97 (by decide) ?_
                  refine y_callS0 hC (c_X8_end01 X.2.1 D z ha vK.1) m_X8_223 rfl (by decide) (Nat.le_of_ble_eq_true rfl) (Nat.zero_le _) (Nat.zero_le _) dX8_passDay_101 ?_
                  refine y_iinc hC dX8_passDay_104 rfl rfl (by decide) rfl ?_
                  refine y_iincN hC dX8_passDay_107 rfl rfl (by decide) rfl ?_
                  refine y_goto (tgt := 11) hC dX8_passDay_110 (by decide) ?_
                  have hw9 : False ↔ mwP C cd j := (by first | exact iff_of_false id (fun q => q.elim c61 (fun r => c67 r.1)) | exact iff_of_false id (fun q => q.elim c61 (fun r => c82 r.2)))
                  have hb9 : True ↔ C (164 + 8 * j + 5) = 3 := (iff_of_true trivial c93)
                  exact ih (j + 1) _ _ _ _ _ (by omega) (pdS_t (w := False) (b := True) hi ⟨Decidable.not_not.mp c37, c50⟩ hw9 hb9) (hf.trans (endF (by omega) vK.1.2.2.2.2.1 vK.1.2.2.2.2.2.2.1))
              · refine y_iconst (v := 1) hC dX8_passDay_85 (by decide) ?_
                refine y_goto (tgt := 90) hC dX8_passDay_86 (by decide) ?_
                refine y_iload hC dX8_passDay_90 rfl ?_
                refine y_iconst (v := 3) hC dX8_passDay_92 (by decide) ?_
                refine y_icmp_ne (tgt := 100) hC dX8_passDay_93 (by decide) (fun c93 => ?_) (fun c93 => ?_)
                · refine y_iconst (v := 0) hC dX8_passDay_100 (by decide) ?_
                  refine y_callS0 hC (c_X8_end10 X.2.1 D z ha vK.1) m_X8_223 rfl (by decide) (Nat.le_of_ble_eq_true rfl) (Nat.zero_le _) (Nat.zero_le _) dX8_passDay_101 ?_
                  refine y_iinc hC dX8_passDay_104 rfl rfl (by decide) rfl ?_
                  refine y_iincN hC dX8_passDay_107 rfl rfl (by decide) rfl ?_
                  refine y_goto (tgt := 11) hC dX8_passDay_110 (by decide) ?_
                  have hw9 : True ↔ mwP C cd j := (by first | exact iff_of_true trivial (Or.inl c61) | exact iff_of_true trivial (Or.inr ⟨c67, c82⟩))
                  have hb9 : False ↔ C (164 + 8 * j + 5) = 3 := (iff_of_false id c93)
                  exact ih (j + 1) _ _ _ _ _ (by omega) (pdS_t (w := True) (b := False) hi ⟨Decidable.not_not.mp c37, c50⟩ hw9 hb9) (hf.trans (endF (by omega) vK.1.2.2.2.2.1 vK.1.2.2.2.2.2.2.1))
                · refine y_iconst (v := 1) hC dX8_passDay_96 (by decide) ?_
                  refine y_goto (tgt := 101) hC dX8_passDay_97 (by decide) ?_
                  refine y_callS0 hC (c_X8_end11 X.2.1 D z ha vK.1) m_X8_223 rfl (by decide) (Nat.le_of_ble_eq_true rfl) (Nat.zero_le _) (Nat.zero_le _) dX8_passDay_101 ?_
                  refine y_iinc hC dX8_passDay_104 rfl rfl (by decide) rfl ?_
                  refine y_iincN hC dX8_passDay_107 rfl rfl (by decide) rfl ?_
                  refine y_goto (tgt := 11) hC dX8_passDay_110 (by decide) ?_
                  have hw9 : True ↔ mwP C cd j := (by first | exact iff_of_true trivial (Or.inl c61) | exact iff_of_true trivial (Or.inr ⟨c67, c82⟩))
                  have hb9 : True ↔ C (164 + 8 * j + 5) = 3 := (iff_of_true trivial c93)
                  exact ih (j + 1) _ _ _ _ _ (by omega) (pdS_t (w := True) (b := True) hi ⟨Decidable.not_not.mp c37, c50⟩ hw9 hb9) (hf.trans (endF (by omega) vK.1.2.2.2.2.1 vK.1.2.2.2.2.2.2.1))
        · refine y_goto (tgt := 107) hC dX8_passDay_53 (by decide) ?_
          refine y_iincN hC dX8_passDay_107 rfl rfl (by decide) rfl ?_
          refine y_goto (tgt := 11) hC dX8_passDay_110 (by decide) ?_
          first | exact ih (j + 1) _ _ _ _ _ (by omega) (pdS_f hi (fun q => c37 q.1)) hf | exact ih (j + 1) _ _ _ _ _ (by omega) (pdS_f hi (fun q => c50 q.2)) hf
  exact lp11 nd 0 _ _ _ _ _ (Nat.zero_add _) rfl (dF.upd (by unfold frz; omega))
set_option maxRecDepth 100000 in
set_option maxHeartbeats 4000000 in
theorem c_X8_isAnyOpen (l : Launch) (D : yD) (z : Nat) {n : Nat} {sh : yS} {I : yI} {L : yL} {q a : Nat} {d : Nat → Int32} (ha : yArr sh a 10 1824) {nd : Nat} (hnd : d 4 = nI nd) (n20 : nd ≤ 20) : yM l D z yX8_isAnyOpen cX8_isAnyOpen 3 (some .boolean) 2 0 0 [.ref q, .ref a] n sh (va_up I a d) L (fun v n2 sh2 I2 L2 => ((v = some (.int 1) ∧ ∃ k, k < nd ∧ d (164 + 8 * k + 5) < 4) ∨ (v = some (.int 0) ∧ ∀ k, k < nd → ¬ d (164 + 8 * k + 5) < 4)) ∧ n2 = n ∧ sh2 = sh ∧ I2 = va_up I a d ∧ L2 = L) (yno) := by
  refine yM_of (by decide) (Nat.le_of_ble_eq_true rfl) rfl ?_
  intro X hC hr hnm hRc hRs htb
  have hC : yC X D z cX8_isAnyOpen RX8 3 2 := hC
  refine y_iconst (v := nI 0) hC dX8_isAnyOpen_0 (by decide) ?_
  refine y_istore_n hC dX8_isAnyOpen_1 (by decide) rfl ?_
  have lp2 : ∀ (f9 j : Nat) , j + f9 = nd → (∀ k, k < j → ¬ d (164 + 8 * k + 5) < 4) → Y X D z 3 n sh (va_up I a d) L 0 0 (yEnd X D z (fun v n2 sh2 I2 L2 => ((v = some (.int 1) ∧ ∃ k, k < nd ∧ d (164 + 8 * k + 5) < 4) ∨ (v = some (.int 0) ∧ ∀ k, k < nd → ¬ d (164 + 8 * k + 5) < 4)) ∧ n2 = n ∧ sh2 = sh ∧ I2 = va_up I a d ∧ L2 = L) (yno) 0 0) 2 [some (.ref q), some (.ref a), some (.int (nI j))] [] := by
    intro f9
    induction f9 with
    | zero =>
      intro j  hm hi
      refine y_iload_n hC dX8_isAnyOpen_2 rfl ?_
      refine y_aload_n hC dX8_isAnyOpen_3 rfl ?_
      refine y_iconst (v := nI 4) hC dX8_isAnyOpen_4 (by decide) ?_
      refine y_ialdAN hC ha (by decide) dX8_isAnyOpen_5 ?_
      rw [hnd]
      refine y_icmp_ge (tgt := 25) hC dX8_isAnyOpen_6 (by decide) (fun c6 => ?_) (fun c6 => absurd (nI_le (by omega) (by omega)) c6)
      refine y_iconst (v := 0) hC dX8_isAnyOpen_25 (by decide) ?_
      exact y_iret hC hr rfl (Nat.zero_le _) (Nat.zero_le _) dX8_isAnyOpen_26 (by first | exact ⟨Or.inl ⟨rfl, j, by omega, Decidable.not_not.mp c14⟩, rfl, rfl, rfl, rfl⟩ | exact ⟨Or.inr ⟨rfl, (show j = nd by omega) ▸ hi⟩, rfl, rfl, rfl, rfl⟩)
    | succ f9 ih =>
      intro j  hm hi
      refine y_iload_n hC dX8_isAnyOpen_2 rfl ?_
      refine y_aload_n hC dX8_isAnyOpen_3 rfl ?_
      refine y_iconst (v := nI 4) hC dX8_isAnyOpen_4 (by decide) ?_
      refine y_ialdAN hC ha (by decide) dX8_isAnyOpen_5 ?_
      rw [hnd]
      refine y_icmp_ge (tgt := 25) hC dX8_isAnyOpen_6 (by decide) (fun c6 => absurd c6 (nI_ge (by omega) (by omega))) (fun c6 => ?_)
      refine y_aload_n hC dX8_isAnyOpen_9 rfl ?_
      refine y_iload_n hC dX8_isAnyOpen_10 rfl ?_
      refine y_callS1 hC (c_X8_isFinal X.2.1 D z ha (k := j) (by omega)) m_X8_215 rfl (by decide) (Nat.le_of_ble_eq_true rfl) (Nat.zero_le _) (Nat.zero_le _) dX8_isAnyOpen_11 ?_
      refine y_if_neB (tgt := 19) hC dX8_isAnyOpen_14 (by decide) (fun c14 => ?_) (fun c14 => ?_)
      · refine y_iincN hC dX8_isAnyOpen_19 rfl rfl (by decide) rfl ?_
        refine y_goto (tgt := 2) hC dX8_isAnyOpen_22 (by decide) ?_
        exact ih (j + 1) (by omega) (fun k hk => by rcases Nat.lt_or_ge k j with h | h; exact hi k h; exact (show k = j by omega) ▸ c14)
      · refine y_iconst (v := 1) hC dX8_isAnyOpen_17 (by decide) ?_
        exact y_iret hC hr rfl (Nat.zero_le _) (Nat.zero_le _) dX8_isAnyOpen_18 (by first | exact ⟨Or.inl ⟨rfl, j, by omega, Decidable.not_not.mp c14⟩, rfl, rfl, rfl, rfl⟩ | exact ⟨Or.inr ⟨rfl, (show j = nd by omega) ▸ hi⟩, rfl, rfl, rfl, rfl⟩)
  exact lp2 nd 0 (Nat.zero_add _) (fun k hk => absurd hk (Nat.not_lt_zero _))
