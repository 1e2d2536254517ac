theorem popc_le : ∀ f a, popc f a ≤ f
  | 0, _ => Nat.le_refl _
  | f + 1, a => by
    show a % 2 + popc f (a / 2) ≤ f + 1
    have := popc_le f (a / 2)
    omega
def bI : Option Nat → Int32
  | none => -1
  | some f => nI f
def btB : Option Nat → Nat → Bool
  | none, _ => true
  | some f, e => decide (popc 31 e < popc 31 f)
theorem btB_s {f e : Nat} : btB (some f) e = true ↔ popc 31 e < popc 31 f := by
  generalize h1 : popc 31 e = a
  generalize h2 : popc 31 f = b
  rw [btB, h1, h2, decide_eq_true_iff]
/-- the best set among the first e -/
def bst (W : Nat → Prop) [DecidablePred W] (own : Int32) : Nat → Option Nat
  | 0 => none
  | e + 1 => if own &&& (nI e ^^^ -1) = 0 ∧ btB (bst W own e) e = true ∧ W e then some e else bst W own e
theorem bst_lt {W : Nat → Prop} [DecidablePred W] {own : Int32} : ∀ e f, bst W own e = some f → f < e
  | 0, f, h => by simp [bst] at h
  | e + 1, f, h => by
    unfold bst at h
    split at h
    · have := Option.some.inj h; omega
    · have := bst_lt e f h; omega
theorem bI_no {f : Nat} (h : f < 256) : ¬ bI (some f) = -1 := fun q => by
  have q2 : nI f = -1 := q
  have := nI_pos (n := f) (by omega)
  rw [q2] at this
  exact this (by decide)
set_option maxRecDepth 100000 in
set_option maxHeartbeats 4000000 in
theorem c_X8_bestEvidence (l : Launch) (D : yD) (z : Nat) {n : Nat} {sh : yS} {I : yI} {L : yL} {q : Nat} {M : yI} (hQ : yMod sh q) {nd : Nat} (hnd : M 2 4 = nI nd) (nd20 : nd ≤ 20) {x : Int32} {d : Nat} (hd : vp_in x nd → x = nI d ∧ d < nd) {cd : List Int32} (hV : dV (M 2) nd cd) : yM l D z yX8_bestEvidence cX8_bestEvidence 5 (some .int) 4 0 0 [.ref q, .int x] n sh (sR 15 I q M) L (yMo (mI nd x (0, bI (bst (fun e => wnM (M 2) d (pD (M 2) d) (rD (M 2) d) e (nD (M 2) d) cd) (M 2 (164 + 8 * d + 4)) 256))) n sh I q M L) (yno) := by
  refine yM_of (by decide) (Nat.le_of_ble_eq_true rfl) rfl ?_
  intro X hC hr hnm hRc hRs htb
  have hC : yC X D z cX8_bestEvidence RX8 5 4 := hC
  refine y_aload_n hC dX8_bestEvidence_0 rfl ?_
  refine y_iconst (v := 0) hC dX8_bestEvidence_1 (by decide) ?_
  refine y_putIR (w9 := 15) hC (by decide) (yM_o hQ) f_X8_39 rfl (Or.inl rfl) dX8_bestEvidence_2 ?_
  refine y_toS q ?_
  refine y_aload_n hC dX8_bestEvidence_5 rfl ?_
  refine y_iload_n hC dX8_bestEvidence_6 rfl ?_
  by_cases hx : vp_in x nd
  · obtain ⟨rfl, dl⟩ := hd hx
    refine y_callV1 hC (c_X8_noDispute0 X.2.1 D z hQ up2_at ((congrFun (show up2 M 0 0 0 2 = M 2 from up2_r (by decide)) 4).trans hnd) (by omega) hx) m_X8_239 rfl (yM_o hQ) (by decide) (Nat.le_of_ble_eq_true rfl) (Nat.zero_le _) (Nat.zero_le _) dX8_bestEvidence_7 ?_
    refine y_if_eq (tgt := 15) hC dX8_bestEvidence_10 (by decide) (fun c10 => ?_) (fun c10 => absurd rfl c10)
    have vK := hV.2.2.1 d dl
    refine y_aload_n hC dX8_bestEvidence_15 rfl ?_
    refine y_getR hC (yM_o hQ) (yM_r8 hQ) f_X8_17 rfl dX8_bestEvidence_16 ?_
    refine y_iload_n hC dX8_bestEvidence_19 rfl ?_
    refine y_callS1 hC (c_X8_dispute X.2.1 D z (j := d) rfl) m_X8_180 rfl (by decide) (Nat.le_of_ble_eq_true rfl) (Nat.zero_le _) (Nat.zero_le _) dX8_bestEvidence_20 ?_
    refine y_iconst (v := nI 4) hC dX8_bestEvidence_23 (by decide) ?_
    refine y_iaddN hC dX8_bestEvidence_24 ?_
    refine y_ialdRN (w9 := 15) hC (by decide) (yM_a8 hQ) (by omega) dX8_bestEvidence_25 ?_
    refine y_istore_n hC dX8_bestEvidence_26 (by decide) rfl ?_
    refine y_iconst (v := (-1)) hC dX8_bestEvidence_27 (by decide) ?_
    refine y_istore_n hC dX8_bestEvidence_28 (by decide) rfl ?_
    refine y_iconst (v := nI 0) hC dX8_bestEvidence_29 (by decide) ?_
    refine y_istore hC dX8_bestEvidence_30 (by decide) rfl ?_
    have lp32 : ∀ (f9 j : Nat) (bo : Option Nat) (S : Nat → Int64), j + f9 = 256 → bo = (bst (fun e => wnM (M 2) d (pD (M 2) d) (rD (M 2) d) e (nD (M 2) d) cd) (M 2 (164 + 8 * d + 4)) j) → Y X D z 5 n sh (sR 15 I q (up2 M 0 0 0)) (va_up L (q + 14) S) 0 0 (yEnd X D z (yMo (mI nd (nI d) (0, bI (bst (fun e => wnM (M 2) d (pD (M 2) d) (rD (M 2) d) e (nD (M 2) d) cd) (M 2 (164 + 8 * d + 4)) 256))) n sh I q M L) (yno) 0 0) 32 [some (.ref q), some (.int (nI d)), some (.int (M 2 (164 + 8 * d + 4))), some (.int (bI bo)), some (.int (nI j))] [] := by
      intro f9
      induction f9 with
      | zero =>
        intro j bo S hm hi
        refine y_iload hC dX8_bestEvidence_32 rfl ?_
        refine y_sipush (v := nI 256) hC dX8_bestEvidence_34 (by decide) ?_
        refine y_icmp_ge (tgt := 89) hC dX8_bestEvidence_37 (by decide) (fun c37 => ?_) (fun c37 => absurd (nI_le (by omega) (by omega)) c37)
        refine y_iload_n hC dX8_bestEvidence_89 rfl ?_
        exact y_iret hC hr rfl (Nat.zero_le _) (Nat.zero_le _) dX8_bestEvidence_90 (yMo.mkS (t := 0) (r := bI bo) ((mI_t hx).trans (congrArg (Prod.mk 0) (by rw [hi, show j = 256 by omega]))) rfl rfl)
      | succ f9 ih =>
        intro j bo S hm hi
        refine y_iload hC dX8_bestEvidence_32 rfl ?_
        refine y_sipush (v := nI 256) hC dX8_bestEvidence_34 (by decide) ?_
        refine y_icmp_ge (tgt := 89) hC dX8_bestEvidence_37 (by decide) (fun c37 => absurd c37 (nI_ge (by omega) (by omega))) (fun c37 => ?_)
        refine y_iload_n hC dX8_bestEvidence_40 rfl ?_
        refine y_iload hC dX8_bestEvidence_41 rfl ?_
        refine y_iconst (v := (-1)) hC dX8_bestEvidence_43 (by decide) ?_
        refine y_ixor hC dX8_bestEvidence_44 ?_
        refine y_iand hC dX8_bestEvidence_45 ?_
        refine y_if_ne (tgt := 83) hC dX8_bestEvidence_46 (by decide) (fun c46 => ?_) (fun c46 => ?_)
        · refine y_iincN hC dX8_bestEvidence_83 rfl rfl (by decide) rfl ?_
          refine y_goto (tgt := 32) hC dX8_bestEvidence_86 (by decide) ?_
          first
          | exact ih (j + 1) (some j) _ (by omega) ((if_pos ⟨c46, hb9, c77⟩).symm)
          | exact ih (j + 1) _ _ (by omega) (hi.trans (if_neg (fun q => c77 q.2.2)).symm)
          | exact ih (j + 1) _ _ (by omega) (hi.trans (if_neg (fun q => c46 q.1)).symm)
          | exact ih (j + 1) _ _ (by omega) (hi.trans (if_neg (fun q => hb8 q.2.1)).symm)
        · refine y_iload_n hC dX8_bestEvidence_49 rfl ?_
          refine y_iconst (v := (-1)) hC dX8_bestEvidence_50 (by decide) ?_
          refine y_icmp_eq (tgt := 66) hC dX8_bestEvidence_51 (by decide) (fun c51 => ?_) (fun c51 => ?_)
          · have hb9 : btB (bst (fun e => wnM (M 2) d (pD (M 2) d) (rD (M 2) d) e (nD (M 2) d) cd) (M 2 (164 + 8 * d + 4)) j) j = true := by
              rw [← hi]
              rcases bo with _ | f
              · rfl
              · exact absurd c51 (bI_no (by have := bst_lt _ _ hi.symm; omega))
            refine y_aload_n hC dX8_bestEvidence_66 rfl ?_
            refine y_aload_n hC dX8_bestEvidence_67 rfl ?_
            refine y_getR hC (yM_o hQ) (yM_r8 hQ) f_X8_17 rfl dX8_bestEvidence_68 ?_
            refine y_iload_n hC dX8_bestEvidence_71 rfl ?_
            refine y_iload hC dX8_bestEvidence_72 rfl ?_
            refine y_callV1l (q := q) hC (fun S => c_wins_at X.2.1 D z (M := up2 M 0 0 0) hQ vK.1 (e := j) (by omega) vK.2.2.1 vK.2.1 hV.2.2.2 S) m_X8_219 rfl (yM_o hQ) (by decide) (Nat.le_of_ble_eq_true rfl) (Nat.zero_le _) (Nat.zero_le _) dX8_bestEvidence_74 (fun S74 => ?_)
            refine y_if_eqB (tgt := 83) hC dX8_bestEvidence_77 (by decide) (fun c77 => ?_) (fun c77 => ?_)
            · refine y_iincN hC dX8_bestEvidence_83 rfl rfl (by decide) rfl ?_
              refine y_goto (tgt := 32) hC dX8_bestEvidence_86 (by decide) ?_
              first
              | exact ih (j + 1) (some j) _ (by omega) ((if_pos ⟨c46, hb9, c77⟩).symm)
              | exact ih (j + 1) _ _ (by omega) (hi.trans (if_neg (fun q => c77 q.2.2)).symm)
              | exact ih (j + 1) _ _ (by omega) (hi.trans (if_neg (fun q => c46 q.1)).symm)
              | exact ih (j + 1) _ _ (by omega) (hi.trans (if_neg (fun q => hb8 q.2.1)).symm)
            · refine y_iload hC dX8_bestEvidence_80 rfl ?_
              refine y_istore_n hC dX8_bestEvidence_82 (by decide) rfl ?_
              refine y_iincN hC dX8_bestEvidence_83 rfl rfl (by decide) rfl ?_
              refine y_goto (tgt := 32) hC dX8_bestEvidence_86 (by decide) ?_
              first
              | exact ih (j + 1) (some j) _ (by omega) ((if_pos ⟨c46, hb9, c77⟩).symm)
              | exact ih (j + 1) _ _ (by omega) (hi.trans (if_neg (fun q => c77 q.2.2)).symm)
              | exact ih (j + 1) _ _ (by omega) (hi.trans (if_neg (fun q => c46 q.1)).symm)
              | exact ih (j + 1) _ _ (by omega) (hi.trans (if_neg (fun q => hb8 q.2.1)).symm)
          · obtain ⟨f, rfl⟩ : ∃ f, bo = some f := by
              rcases bo with _ | f
              · exact absurd rfl c51
              · exact ⟨f, rfl⟩
            have f256 : f < 256 := by have := bst_lt _ _ hi.symm; omega
            refine y_iload hC dX8_bestEvidence_54 rfl ?_
            refine y_callS1 hC (c_X8_members X.2.1 D z (e := j) rfl (by omega)) m_X8_183 rfl (by decide) (Nat.le_of_ble_eq_true rfl) (Nat.zero_le _) (Nat.zero_le _) dX8_bestEvidence_56 ?_
            refine y_iload_n hC dX8_bestEvidence_59 rfl ?_
            refine y_callS1 hC (c_X8_members X.2.1 D z (e := f) rfl (by omega)) m_X8_183 rfl (by decide) (Nat.le_of_ble_eq_true rfl) (Nat.zero_le _) (Nat.zero_le _) dX8_bestEvidence_60 ?_
            refine y_icmp_ge (tgt := 83) hC dX8_bestEvidence_63 (by decide) (fun c63 => ?_) (fun c63 => ?_)
            · have hb8 : ¬ btB (bst (fun e => wnM (M 2) d (pD (M 2) d) (rD (M 2) d) e (nD (M 2) d) cd) (M 2 (164 + 8 * d + 4)) j) j = true := by rw [← hi]; exact fun q => absurd (btB_s.mp q) (Nat.not_lt.mpr (nI_le2 c63 (by have := popc_le 31 f; omega) (by have := popc_le 31 j; omega)))
              refine y_iincN hC dX8_bestEvidence_83 rfl rfl (by decide) rfl ?_
              refine y_goto (tgt := 32) hC dX8_bestEvidence_86 (by decide) ?_
              first
              | exact ih (j + 1) (some j) _ (by omega) ((if_pos ⟨c46, hb9, c77⟩).symm)
              | exact ih (j + 1) _ _ (by omega) (hi.trans (if_neg (fun q => c77 q.2.2)).symm)
              | exact ih (j + 1) _ _ (by omega) (hi.trans (if_neg (fun q => c46 q.1)).symm)
              | exact ih (j + 1) _ _ (by omega) (hi.trans (if_neg (fun q => hb8 q.2.1)).symm)
            · have hb9 : btB (bst (fun e => wnM (M 2) d (pD (M 2) d) (rD (M 2) d) e (nD (M 2) d) cd) (M 2 (164 + 8 * d + 4)) j) j = true := by rw [← hi]; exact btB_s.mpr (nI_nle2 c63 (by have := popc_le 31 f; omega) (by have := popc_le 31 j; omega))
              refine y_aload_n hC dX8_bestEvidence_66 rfl ?_
              refine y_aload_n hC dX8_bestEvidence_67 rfl ?_
              refine y_getR hC (yM_o hQ) (yM_r8 hQ) f_X8_17 rfl dX8_bestEvidence_68 ?_
              refine y_iload_n hC dX8_bestEvidence_71 rfl ?_
              refine y_iload hC dX8_bestEvidence_72 rfl ?_
              refine y_callV1l (q := q) hC (fun S => c_wins_at X.2.1 D z (M := up2 M 0 0 0) hQ vK.1 (e := j) (by omega) vK.2.2.1 vK.2.1 hV.2.2.2 S) m_X8_219 rfl (yM_o hQ) (by decide) (Nat.le_of_ble_eq_true rfl) (Nat.zero_le _) (Nat.zero_le _) dX8_bestEvidence_74 (fun S74 => ?_)
              refine y_if_eqB (tgt := 83) hC dX8_bestEvidence_77 (by decide) (fun c77 => ?_) (fun c77 => ?_)
              · refine y_iincN hC dX8_bestEvidence_83 rfl rfl (by decide) rfl ?_
                refine y_goto (tgt := 32) hC dX8_bestEvidence_86 (by decide) ?_
                first
                | exact ih (j + 1) (some j) _ (by omega) ((if_pos ⟨c46, hb9, c77⟩).symm)
                | exact ih (j + 1) _ _ (by omega) (hi.trans (if_neg (fun q => c77 q.2.2)).symm)
                | exact ih (j + 1) _ _ (by omega) (hi.trans (if_neg (fun q => c46 q.1)).symm)
                | exact ih (j + 1) _ _ (by omega) (hi.trans (if_neg (fun q => hb8 q.2.1)).symm)
              · refine y_iload hC dX8_bestEvidence_80 rfl ?_
                refine y_istore_n hC dX8_bestEvidence_82 (by decide) rfl ?_
                refine y_iincN hC dX8_bestEvidence_83 rfl rfl (by decide) rfl ?_
                refine y_goto (tgt := 32) hC dX8_bestEvidence_86 (by decide) ?_
                first
                | exact ih (j + 1) (some j) _ (by omega) ((if_pos ⟨c46, hb9, c77⟩).symm)
                | exact ih (j + 1) _ _ (by omega) (hi.trans (if_neg (fun q => c77 q.2.2)).symm)
                | exact ih (j + 1) _ _ (by omega) (hi.trans (if_neg (fun q => c46 q.1)).symm)
                | exact ih (j + 1) _ _ (by omega) (hi.trans (if_neg (fun q => hb8 q.2.1)).symm)
    exact lp32 256 0 none _ (Nat.zero_add _) rfl
  · refine y_callV1 hC (c_X8_noDispute1 X.2.1 D z hQ up2_at ((congrFun (show up2 M 0 0 0 2 = M 2 from up2_r (by decide)) 4).trans hnd) (by omega) hx) m_X8_239 rfl (yM_o hQ) (by decide) (Nat.le_of_ble_eq_true rfl) (Nat.zero_le _) (Nat.zero_le _) dX8_bestEvidence_7 ?_
    refine y_if_eq (tgt := 15) hC dX8_bestEvidence_10 (by decide) (fun c10 => absurd c10 (by decide)) (fun c10 => ?_)
    refine y_iconst (v := 0) hC dX8_bestEvidence_13 (by decide) ?_
    exact y_iret hC hr rfl (Nat.zero_le _) (Nat.zero_le _) dX8_bestEvidence_14 (yMo.mkS (mI_f hx) rfl up2_up2)
def wsel (w0 w1 w2 w3 w4 : Int32) (k : Nat) : Int32 := if k < 4 then w0 else if k < 8 then w1 else if k < 12 then w2 else if k < 16 then w3 else w4
def apB (b : Nat → Int32) (len : Nat) (w0 w1 w2 w3 w4 : Int32) : Nat → (Nat → Int32)
  | 0 => b
  | k + 1 => upd (apB b len w0 w1 w2 w3 w4 k) (len + k) ((wsel w0 w1 w2 w3 w4 k >>> (nI (24 - 8 * (k % 4)) &&& 31)) &&& 255)
def apM (M : yI) (len : Nat) (w0 w1 w2 w3 w4 : Int32) (k : Nat) : yI := va_up (up2 (up2 M 0 0 0) 0 2 (nI (len + k))) 1 (apB (M 1) len w0 w1 w2 w3 w4 k)
theorem apM_s {M : yI} {len k : Nat} {w w0 w1 w2 w3 w4 : Int32} (hw : wsel w0 w1 w2 w3 w4 k = w) : up2 (up2 (apM M len w0 w1 w2 w3 w4 k) 1 (len + k) ((w >>> (nI (24 - 8 * (k % 4)) &&& 31)) &&& 255)) 0 2 (nI (len + k + 1)) = apM M len w0 w1 w2 w3 w4 (k + 1) := by
  subst hw
  funext r
  by_cases h0 : r = 0
  · subst h0
    funext j
    show upd (upd (upd (M 0) 0 0) 2 (nI (len + k))) 2 (nI (len + k + 1)) j = upd (upd (M 0) 0 0) 2 (nI (len + (k + 1))) j
    unfold upd
    by_cases e : j = 2
    · rw [if_pos e, if_pos e, Nat.add_assoc]
    · rw [if_neg e, if_neg e, if_neg e]
  · by_cases h1 : r = 1
    · subst h1
      rfl
    · unfold apM up2
      rw [va_up_ne _ _ h0, va_up_ne _ _ h1, va_up_ne _ _ h1, va_up_ne _ _ h0, va_up_ne _ _ h0, va_up_ne _ _ h1, va_up_ne _ _ h0, va_up_ne _ _ h0]
theorem apM_0 {M : yI} {len : Nat} {w0 w1 w2 w3 w4 : Int32} (hl : M 0 2 = nI len) : apM M len w0 w1 w2 w3 w4 0 = up2 M 0 0 0 := by
  funext r
  by_cases h0 : r = 0
  · subst h0
    funext j
    show upd (upd (M 0) 0 0) 2 (nI (len + 0)) j = upd (M 0) 0 0 j
    unfold upd
    by_cases e : j = 2
    · subst e; rw [if_pos rfl, if_neg (by decide)]; exact hl.symm
    · rw [if_neg e]
  · by_cases h1 : r = 1
    · subst h1
      rfl
    · unfold apM up2
      rw [va_up_ne _ _ h1, va_up_ne _ _ h0]
set_option maxRecDepth 100000 in
set_option maxHeartbeats 4000000 in
theorem c_X8_append (l : Launch) (D : yD) (z : Nat) {n : Nat} {sh : yS} {I : yI} {L : yL} {q : Nat} {M : yI} (hQ : yMod sh q) {len : Nat} (hl : M 0 2 = nI len) (hlen : len ≤ 900) {w0 w1 w2 w3 w4 : Int32} : yM l D z yX8_append cX8_append 8 (some .int) 0 0 0 [.ref q, .int w0, .int w1, .int w2, .int w3, .int w4] n sh (sR 15 I q M) L (fun v n2 sh2 I2 L2 => n2 = n ∧ sh2 = sh ∧ L2 = L ∧ ((len + 20 ≤ 900 ∧ v = some (.int (nI (len + 20))) ∧ I2 = sR 15 I q (apM M len w0 w1 w2 w3 w4 20)) ∨ (¬ len + 20 ≤ 900 ∧ v = some (.int (-1)) ∧ I2 = sR 15 I q (up2 M 0 0 0)))) (yno) := by
  refine yM_of (by decide) (Nat.le_of_ble_eq_true rfl) rfl ?_
  intro X hC hr hnm hRc hRs htb
  have hC : yC X D z cX8_append RX8 8 0 := hC
  refine y_aload_n hC dX8_append_0 rfl ?_
  refine y_iconst (v := 0) hC dX8_append_1 (by decide) ?_
  refine y_putIR (w9 := 15) hC (by decide) (yM_o hQ) f_X8_39 rfl (Or.inl rfl) dX8_append_2 ?_
  refine y_aload_n hC dX8_append_5 rfl ?_
  refine y_getIR (w9 := 15) hC (by decide) (yM_o hQ) f_X8_42 rfl dX8_append_6 ?_
  rw [show up2 M 0 0 0 0 2 = nI len from hl]
  refine y_bipush (v := nI 20) hC dX8_append_9 (by decide) ?_
  refine y_iaddN hC dX8_append_11 ?_
  refine y_sipush (v := nI 900) hC dX8_append_12 (by decide) ?_
  refine y_icmp_le (tgt := 20) hC dX8_append_15 (by decide) (fun c15 => ?_) (fun c15 => ?_)
  · have l880 : len + 20 ≤ 900 := nI_le2 c15
    refine y_iconst (v := nI 0) hC dX8_append_20 (by decide) ?_
    refine y_istore hC dX8_append_21 (by decide) rfl ?_
    have lp23 : ∀ (f9 k : Nat) (v7 : Option Value), k + f9 = 20 → Y X D z 8 n sh (sR 15 I q (apM M len w0 w1 w2 w3 w4 k)) L 0 0 (yEnd X D z (fun v n2 sh2 I2 L2 => n2 = n ∧ sh2 = sh ∧ L2 = L ∧ ((len + 20 ≤ 900 ∧ v = some (.int (nI (len + 20))) ∧ I2 = sR 15 I q (apM M len w0 w1 w2 w3 w4 20)) ∨ (¬ len + 20 ≤ 900 ∧ v = some (.int (-1)) ∧ I2 = sR 15 I q (up2 M 0 0 0)))) (yno) 0 0) 23 [some (.ref q), some (.int w0), some (.int w1), some (.int w2), some (.int w3), some (.int w4), some (.int (nI k)), v7] [] := by
      intro f9
      induction f9 with
      | zero =>
        intro k v7 hm 
        refine y_iload hC dX8_append_23 rfl ?_
        refine y_bipush (v := nI 20) hC dX8_append_25 (by decide) ?_
        refine y_icmp_ge (tgt := 120) hC dX8_append_27 (by decide) (fun c27 => ?_) (fun c27 => absurd (nI_le (by omega) (by omega)) c27)
        refine y_aload_n hC dX8_append_120 rfl ?_
        refine y_getIR (w9 := 15) hC (by decide) (yM_o hQ) f_X8_42 rfl dX8_append_121 ?_
        rw [show apM M len w0 w1 w2 w3 w4 k 0 2 = nI (len + k) from rfl]
        exact y_iret hC hr rfl (Nat.zero_le _) (Nat.zero_le _) dX8_append_124 ⟨rfl, rfl, rfl, Or.inl ⟨nI_le2 c15, by rw [show k = 20 by omega], by rw [show k = 20 by omega]⟩⟩
      | succ f9 ih =>
        intro k v7 hm 
        refine y_iload hC dX8_append_23 rfl ?_
        refine y_bipush (v := nI 20) hC dX8_append_25 (by decide) ?_
        refine y_icmp_ge (tgt := 120) hC dX8_append_27 (by decide) (fun c27 => absurd c27 (nI_ge (by omega) (by omega))) (fun c27 => ?_)
        refine y_iload hC dX8_append_30 rfl ?_
        refine y_iconst (v := nI 4) hC dX8_append_32 (by decide) ?_
        refine y_icmp_ge (tgt := 40) hC dX8_append_33 (by decide) (fun c33 => ?_) (fun c33 => ?_)
        · refine y_iload hC dX8_append_40 rfl ?_
          refine y_bipush (v := nI 8) hC dX8_append_42 (by decide) ?_
          refine y_icmp_ge (tgt := 51) hC dX8_append_44 (by decide) (fun c44 => ?_) (fun c44 => ?_)
          · refine y_iload hC dX8_append_51 rfl ?_
            refine y_bipush (v := nI 12) hC dX8_append_53 (by decide) ?_
            refine y_icmp_ge (tgt := 62) hC dX8_append_55 (by decide) (fun c55 => ?_) (fun c55 => ?_)
            · refine y_iload hC dX8_append_62 rfl ?_
              refine y_bipush (v := nI 16) hC dX8_append_64 (by decide) ?_
              refine y_icmp_ge (tgt := 74) hC dX8_append_66 (by decide) (fun c66 => ?_) (fun c66 => ?_)
              · refine y_iload hC dX8_append_74 rfl ?_
                refine y_istore hC dX8_append_76 (by decide) rfl ?_
                refine y_aload_n hC dX8_append_78 rfl ?_
                refine y_getR hC (yM_o hQ) (yM_r1 hQ) f_X8_9 rfl dX8_append_79 ?_
                refine y_aload_n hC dX8_append_82 rfl ?_
                refine y_getIR (w9 := 15) hC (by decide) (yM_o hQ) f_X8_42 rfl dX8_append_83 ?_
                rw [show apM M len w0 w1 w2 w3 w4 k 0 2 = nI (len + k) from rfl]
                refine y_iload hC dX8_append_86 rfl ?_
                refine y_bipush (v := nI 24) hC dX8_append_88 (by decide) ?_
                refine y_bipush (v := nI 8) hC dX8_append_90 (by decide) ?_
                refine y_iload hC dX8_append_92 rfl ?_
                refine y_iconst (v := nI 4) hC dX8_append_94 (by decide) ?_
                refine y_irem hC dX8_append_95 (by decide) ?_
                rw [pk_rem (by omega) (by decide) (by decide)]
                refine y_imulN hC dX8_append_96 ?_
                refine y_isub hC dX8_append_97 ?_
                rw [pk_sub (by omega)]
                refine y_ishr hC dX8_append_98 ?_
                refine y_sipush (v := 255) hC dX8_append_99 (by decide) ?_
                refine y_iand hC dX8_append_102 ?_
                refine y_iastRN (w9 := 15) hC (by decide) (yM_a1 hQ) (by omega) dX8_append_103 ?_
                refine y_aload_n hC dX8_append_104 rfl ?_
                refine y_dup hC dX8_append_105 rfl ?_
                refine y_getIR (w9 := 15) hC (by decide) (yM_o hQ) f_X8_42 rfl dX8_append_106 ?_
                refine y_eqI (y := nI (len + k)) rfl ?_
                refine y_iconst (v := nI 1) hC dX8_append_109 (by decide) ?_
                refine y_iaddN hC dX8_append_110 ?_
                refine y_putIR (w9 := 15) hC (by decide) (yM_o hQ) f_X8_42 rfl (Or.inl rfl) dX8_append_111 ?_
                refine y_iincN hC dX8_append_114 rfl rfl (by decide) rfl ?_
                refine y_goto (tgt := 23) hC dX8_append_117 (by decide) ?_
                have e9 : up2 (up2 (apM M len w0 w1 w2 w3 w4 k) 1 (len + k) ((w4 >>> (nI (24 - 8 * (k % 4)) &&& 31)) &&& 255)) 0 2 (nI (len + k + 1)) = apM M len w0 w1 w2 w3 w4 (k + 1) := apM_s (by rw [wsel, if_neg (Nat.not_lt.mpr (nI_le2 c33)), if_neg (Nat.not_lt.mpr (nI_le2 c44)), if_neg (Nat.not_lt.mpr (nI_le2 c55)), if_neg (Nat.not_lt.mpr (nI_le2 c66))])
                change Y X D z 8 n sh (sR 15 I q (up2 (up2 (apM M len w0 w1 w2 w3 w4 k) 1 (len + k) ((w4 >>> (nI (24 - 8 * (k % 4)) &&& 31)) &&& 255)) 0 2 (nI (len + k + 1)))) L 0 0 _ _ _ _
                rw [e9]
                exact ih (k + 1) _ (by omega)
              · refine y_iload hC dX8_append_69 rfl ?_
                refine y_goto (tgt := 76) hC dX8_append_71 (by decide) ?_
                refine y_istore hC dX8_append_76 (by decide) rfl ?_
                refine y_aload_n hC dX8_append_78 rfl ?_
                refine y_getR hC (yM_o hQ) (yM_r1 hQ) f_X8_9 rfl dX8_append_79 ?_
                refine y_aload_n hC dX8_append_82 rfl ?_
                refine y_getIR (w9 := 15) hC (by decide) (yM_o hQ) f_X8_42 rfl dX8_append_83 ?_
                rw [show apM M len w0 w1 w2 w3 w4 k 0 2 = nI (len + k) from rfl]
                refine y_iload hC dX8_append_86 rfl ?_
                refine y_bipush (v := nI 24) hC dX8_append_88 (by decide) ?_
                refine y_bipush (v := nI 8) hC dX8_append_90 (by decide) ?_
                refine y_iload hC dX8_append_92 rfl ?_
                refine y_iconst (v := nI 4) hC dX8_append_94 (by decide) ?_
                refine y_irem hC dX8_append_95 (by decide) ?_
                rw [pk_rem (by omega) (by decide) (by decide)]
                refine y_imulN hC dX8_append_96 ?_
                refine y_isub hC dX8_append_97 ?_
                rw [pk_sub (by omega)]
                refine y_ishr hC dX8_append_98 ?_
                refine y_sipush (v := 255) hC dX8_append_99 (by decide) ?_
                refine y_iand hC dX8_append_102 ?_
                refine y_iastRN (w9 := 15) hC (by decide) (yM_a1 hQ) (by omega) dX8_append_103 ?_
                refine y_aload_n hC dX8_append_104 rfl ?_
                refine y_dup hC dX8_append_105 rfl ?_
                refine y_getIR (w9 := 15) hC (by decide) (yM_o hQ) f_X8_42 rfl dX8_append_106 ?_
                refine y_eqI (y := nI (len + k)) rfl ?_
                refine y_iconst (v := nI 1) hC dX8_append_109 (by decide) ?_
                refine y_iaddN hC dX8_append_110 ?_
                refine y_putIR (w9 := 15) hC (by decide) (yM_o hQ) f_X8_42 rfl (Or.inl rfl) dX8_append_111 ?_
                refine y_iincN hC dX8_append_114 rfl rfl (by decide) rfl ?_
                refine y_goto (tgt := 23) hC dX8_append_117 (by decide) ?_
                have e9 : up2 (up2 (apM M len w0 w1 w2 w3 w4 k) 1 (len + k) ((w3 >>> (nI (24 - 8 * (k % 4)) &&& 31)) &&& 255)) 0 2 (nI (len + k + 1)) = apM M len w0 w1 w2 w3 w4 (k + 1) := apM_s (by rw [wsel, if_neg (Nat.not_lt.mpr (nI_le2 c33)), if_neg (Nat.not_lt.mpr (nI_le2 c44)), if_neg (Nat.not_lt.mpr (nI_le2 c55)), if_pos (nI_nle2 c66)])
                change Y X D z 8 n sh (sR 15 I q (up2 (up2 (apM M len w0 w1 w2 w3 w4 k) 1 (len + k) ((w3 >>> (nI (24 - 8 * (k % 4)) &&& 31)) &&& 255)) 0 2 (nI (len + k + 1)))) L 0 0 _ _ _ _
                rw [e9]
                exact ih (k + 1) _ (by omega)
            · refine y_iload_n hC dX8_append_58 rfl ?_
              refine y_goto (tgt := 76) hC dX8_append_59 (by decide) ?_
              refine y_istore hC dX8_append_76 (by decide) rfl ?_
              refine y_aload_n hC dX8_append_78 rfl ?_
              refine y_getR hC (yM_o hQ) (yM_r1 hQ) f_X8_9 rfl dX8_append_79 ?_
              refine y_aload_n hC dX8_append_82 rfl ?_
              refine y_getIR (w9 := 15) hC (by decide) (yM_o hQ) f_X8_42 rfl dX8_append_83 ?_
              rw [show apM M len w0 w1 w2 w3 w4 k 0 2 = nI (len + k) from rfl]
              refine y_iload hC dX8_append_86 rfl ?_
              refine y_bipush (v := nI 24) hC dX8_append_88 (by decide) ?_
              refine y_bipush (v := nI 8) hC dX8_append_90 (by decide) ?_
              refine y_iload hC dX8_append_92 rfl ?_
              refine y_iconst (v := nI 4) hC dX8_append_94 (by decide) ?_
              refine y_irem hC dX8_append_95 (by decide) ?_
              rw [pk_rem (by omega) (by decide) (by decide)]
              refine y_imulN hC dX8_append_96 ?_
              refine y_isub hC dX8_append_97 ?_
              rw [pk_sub (by omega)]
              refine y_ishr hC dX8_append_98 ?_
              refine y_sipush (v := 255) hC dX8_append_99 (by decide) ?_
              refine y_iand hC dX8_append_102 ?_
              refine y_iastRN (w9 := 15) hC (by decide) (yM_a1 hQ) (by omega) dX8_append_103 ?_
              refine y_aload_n hC dX8_append_104 rfl ?_
              refine y_dup hC dX8_append_105 rfl ?_
              refine y_getIR (w9 := 15) hC (by decide) (yM_o hQ) f_X8_42 rfl dX8_append_106 ?_
              refine y_eqI (y := nI (len + k)) rfl ?_
              refine y_iconst (v := nI 1) hC dX8_append_109 (by decide) ?_
              refine y_iaddN hC dX8_append_110 ?_
              refine y_putIR (w9 := 15) hC (by decide) (yM_o hQ) f_X8_42 rfl (Or.inl rfl) dX8_append_111 ?_
              refine y_iincN hC dX8_append_114 rfl rfl (by decide) rfl ?_
              refine y_goto (tgt := 23) hC dX8_append_117 (by decide) ?_
              have e9 : up2 (up2 (apM M len w0 w1 w2 w3 w4 k) 1 (len + k) ((w2 >>> (nI (24 - 8 * (k % 4)) &&& 31)) &&& 255)) 0 2 (nI (len + k + 1)) = apM M len w0 w1 w2 w3 w4 (k + 1) := apM_s (by rw [wsel, if_neg (Nat.not_lt.mpr (nI_le2 c33)), if_neg (Nat.not_lt.mpr (nI_le2 c44)), if_pos (nI_nle2 c55)])
              change Y X D z 8 n sh (sR 15 I q (up2 (up2 (apM M len w0 w1 w2 w3 w4 k) 1 (len + k) ((w2 >>> (nI (24 - 8 * (k % 4)) &&& 31)) &&& 255)) 0 2 (nI (len + k + 1)))) L 0 0 _ _ _ _
              rw [e9]
              exact ih (k + 1) _ (by omega)
          · refine y_iload_n hC dX8_append_47 rfl ?_
            refine y_goto (tgt := 76) hC dX8_append_48 (by decide) ?_
            refine y_istore hC dX8_append_76 (by decide) rfl ?_
            refine y_aload_n hC dX8_append_78 rfl ?_
            refine y_getR hC (yM_o hQ) (yM_r1 hQ) f_X8_9 rfl dX8_append_79 ?_
            refine y_aload_n hC dX8_append_82 rfl ?_
            refine y_getIR (w9 := 15) hC (by decide) (yM_o hQ) f_X8_42 rfl dX8_append_83 ?_
            rw [show apM M len w0 w1 w2 w3 w4 k 0 2 = nI (len + k) from rfl]
            refine y_iload hC dX8_append_86 rfl ?_
            refine y_bipush (v := nI 24) hC dX8_append_88 (by decide) ?_
            refine y_bipush (v := nI 8) hC dX8_append_90 (by decide) ?_
            refine y_iload hC dX8_append_92 rfl ?_
            refine y_iconst (v := nI 4) hC dX8_append_94 (by decide) ?_
            refine y_irem hC dX8_append_95 (by decide) ?_
            rw [pk_rem (by omega) (by decide) (by decide)]
            refine y_imulN hC dX8_append_96 ?_
            refine y_isub hC dX8_append_97 ?_
            rw [pk_sub (by omega)]
            refine y_ishr hC dX8_append_98 ?_
            refine y_sipush (v := 255) hC dX8_append_99 (by decide) ?_
            refine y_iand hC dX8_append_102 ?_
            refine y_iastRN (w9 := 15) hC (by decide) (yM_a1 hQ) (by omega) dX8_append_103 ?_
            refine y_aload_n hC dX8_append_104 rfl ?_
            refine y_dup hC dX8_append_105 rfl ?_
            refine y_getIR (w9 := 15) hC (by decide) (yM_o hQ) f_X8_42 rfl dX8_append_106 ?_
            refine y_eqI (y := nI (len + k)) rfl ?_
            refine y_iconst (v := nI 1) hC dX8_append_109 (by decide) ?_
            refine y_iaddN hC dX8_append_110 ?_
            refine y_putIR (w9 := 15) hC (by decide) (yM_o hQ) f_X8_42 rfl (Or.inl rfl) dX8_append_111 ?_
            refine y_iincN hC dX8_append_114 rfl rfl (by decide) rfl ?_
            refine y_goto (tgt := 23) hC dX8_append_117 (by decide) ?_
            have e9 : up2 (up2 (apM M len w0 w1 w2 w3 w4 k) 1 (len + k) ((w1 >>> (nI (24 - 8 * (k % 4)) &&& 31)) &&& 255)) 0 2 (nI (len + k + 1)) = apM M len w0 w1 w2 w3 w4 (k + 1) := apM_s (by rw [wsel, if_neg (Nat.not_lt.mpr (nI_le2 c33)), if_pos (nI_nle2 c44)])
            change Y X D z 8 n sh (sR 15 I q (up2 (up2 (apM M len w0 w1 w2 w3 w4 k) 1 (len + k) ((w1 >>> (nI (24 - 8 * (k % 4)) &&& 31)) &&& 255)) 0 2 (nI (len + k + 1)))) L 0 0 _ _ _ _
            rw [e9]
            exact ih (k + 1) _ (by omega)
        · refine y_iload_n hC dX8_append_36 rfl ?_
          refine y_goto (tgt := 76) hC dX8_append_37 (by decide) ?_
          refine y_istore hC dX8_append_76 (by decide) rfl ?_
          refine y_aload_n hC dX8_append_78 rfl ?_
          refine y_getR hC (yM_o hQ) (yM_r1 hQ) f_X8_9 rfl dX8_append_79 ?_
          refine y_aload_n hC dX8_append_82 rfl ?_
          refine y_getIR (w9 := 15) hC (by decide) (yM_o hQ) f_X8_42 rfl dX8_append_83 ?_
          rw [show apM M len w0 w1 w2 w3 w4 k 0 2 = nI (len + k) from rfl]
          refine y_iload hC dX8_append_86 rfl ?_
          refine y_bipush (v := nI 24) hC dX8_append_88 (by decide) ?_
          refine y_bipush (v := nI 8) hC dX8_append_90 (by decide) ?_
          refine y_iload hC dX8_append_92 rfl ?_
          refine y_iconst (v := nI 4) hC dX8_append_94 (by decide) ?_
          refine y_irem hC dX8_append_95 (by decide) ?_
          rw [pk_rem (by omega) (by decide) (by decide)]
          refine y_imulN hC dX8_append_96 ?_
          refine y_isub hC dX8_append_97 ?_
          rw [pk_sub (by omega)]
          refine y_ishr hC dX8_append_98 ?_
          refine y_sipush (v := 255) hC dX8_append_99 (by decide) ?_
          refine y_iand hC dX8_append_102 ?_
          refine y_iastRN (w9 := 15) hC (by decide) (yM_a1 hQ) (by omega) dX8_append_103 ?_
          refine y_aload_n hC dX8_append_104 rfl ?_
          refine y_dup hC dX8_append_105 rfl ?_
          refine y_getIR (w9 := 15) hC (by decide) (yM_o hQ) f_X8_42 rfl dX8_append_106 ?_
          refine y_eqI (y := nI (len + k)) rfl ?_
          refine y_iconst (v := nI 1) hC dX8_append_109 (by decide) ?_
          refine y_iaddN hC dX8_append_110 ?_
          refine y_putIR (w9 := 15) hC (by decide) (yM_o hQ) f_X8_42 rfl (Or.inl rfl) dX8_append_111 ?_
          refine y_iincN hC dX8_append_114 rfl rfl (by decide) rfl ?_
          refine y_goto (tgt := 23) hC dX8_append_117 (by decide) ?_
          have e9 : up2 (up2 (apM M len w0 w1 w2 w3 w4 k) 1 (len + k) ((w0 >>> (nI (24 - 8 * (k % 4)) &&& 31)) &&& 255)) 0 2 (nI (len + k + 1)) = apM M len w0 w1 w2 w3 w4 (k + 1) := apM_s (by rw [wsel, if_pos (nI_nle2 c33)])
          change Y X D z 8 n sh (sR 15 I q (up2 (up2 (apM M len w0 w1 w2 w3 w4 k) 1 (len + k) ((w0 >>> (nI (24 - 8 * (k % 4)) &&& 31)) &&& 255)) 0 2 (nI (len + k + 1)))) L 0 0 _ _ _ _
          rw [e9]
          exact ih (k + 1) _ (by omega)
    have h0 := lp23 20 0 none (Nat.zero_add _)
    rw [show apM M len w0 w1 w2 w3 w4 0 = up2 M 0 0 0 from apM_0 hl] at h0
    exact h0
  · refine y_iconst (v := (-1)) hC dX8_append_18 (by decide) ?_
    exact y_iret hC hr rfl (Nat.zero_le _) (Nat.zero_le _) dX8_append_19 ⟨rfl, rfl, rfl, Or.inr ⟨Nat.not_le.mpr (nI_nle2 c15), rfl, rfl⟩⟩
