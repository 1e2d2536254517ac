theorem yFl.t {p : Prop} [Decidable p] {n : Nat} {sh : yS} {I : yI} {q : Nat} {L : yL} {S : Nat → Int64} (h : p) : yFl (some (.int (b2i p))) n sh I q L (some (.int 1)) n sh I (va_up L (q + 14) S) := yFl.mk (by rw [b2i_t h])
theorem yFl.f {p : Prop} [Decidable p] {n : Nat} {sh : yS} {I : yI} {q : Nat} {L : yL} {S : Nat → Int64} (h : ¬ p) : yFl (some (.int (b2i p))) n sh I q L (some (.int 0)) n sh I (va_up L (q + 14) S) := yFl.mk (by rw [b2i_f h])
abbrev wnM (d : Nat → Int32) (k p r e ne : Nat) (cd : List Int32) : Prop := ¬ scM d k p e ne cd < d (20 + 6 * r + 4) ∧ nI ne &&& (nI e ^^^ -1) = 0
set_option maxRecDepth 100000 in
set_option maxHeartbeats 4000000 in
theorem c_X8_wins (l : Launch) (D : yD) (z : Nat) {n : Nat} {sh : yS} {I : yI} {L : yL} {q a : Nat} {d : Nat → Int32} (hQ : yMod sh q) (ha : yArr sh a 10 1824) {k p i m r : Nat} (hk : dK d k p i m r) {e ne : Nat} (he : e < 256) (hn8 : ne < 256) (hne : d (20 + 6 * r + 5) = nI ne) {cd : List Int32} (hcd : d 9 = 0 ∨ (cAt d 0 cd ∧ okc 1500 cd 0)) {S0 : Nat → Int64} : yM l D z yX8_wins cX8_wins 4 (some .boolean) 3 0 0 [.ref q, .ref a, .int (nI k), .int (nI e)] n sh (va_up I a d) (va_up L (q + 14) S0) (yFl (some (.int (b2i (wnM d k p r e ne cd)))) n sh (va_up I a d) q (va_up L (q + 14) S0)) (yno) := by
  refine yM_of (by decide) (Nat.le_of_ble_eq_true rfl) rfl ?_
  intro X hC hr hnm hRc hRs htb
  have hC : yC X D z cX8_wins RX8 4 3 := hC
  have hkk := hk
  obtain ⟨k20, hp, p24, hi, i4, hm, m4, hr0, r8⟩ := hk
  refine y_aload_n hC dX8_wins_0 rfl ?_
  refine y_aload_n hC dX8_wins_1 rfl ?_
  refine y_iload_n hC dX8_wins_2 rfl ?_
  refine y_iload_n hC dX8_wins_3 rfl ?_
  refine y_callV1l (q := q) hC (fun S => c_X8_scoreOf X.2.1 D z hQ ha hkk he hn8 hne hcd) m_X8_197 rfl (yM_o hQ) (by decide) (Nat.le_of_ble_eq_true rfl) (Nat.zero_le _) (Nat.zero_le _) dX8_wins_4 (fun S4 => ?_)
  refine y_aload_n hC dX8_wins_7 rfl ?_
  refine y_aload_n hC dX8_wins_8 rfl ?_
  refine y_iload_n hC dX8_wins_9 rfl ?_
  refine y_callS1 hC (c_X8_dispute X.2.1 D z (j := k) rfl) m_X8_180 rfl (by decide) (Nat.le_of_ble_eq_true rfl) (Nat.zero_le _) (Nat.zero_le _) dX8_wins_10 ?_
  refine y_iconst (v := nI 1) hC dX8_wins_13 (by decide) ?_
  refine y_iaddN hC dX8_wins_14 ?_
  refine y_ialdAN hC ha (by omega) dX8_wins_15 ?_
  refine y_callS1 hC (c_X8_reason X.2.1 D z hr0) m_X8_135 rfl (by decide) (Nat.le_of_ble_eq_true rfl) (Nat.zero_le _) (Nat.zero_le _) dX8_wins_16 ?_
  refine y_iconst (v := nI 4) hC dX8_wins_19 (by decide) ?_
  refine y_iaddN hC dX8_wins_20 ?_
  refine y_ialdAN hC ha (by omega) dX8_wins_21 ?_
  refine y_icmp_lt (tgt := 41) hC dX8_wins_22 (by decide) (fun c22 => ?_) (fun c22 => ?_)
  · refine y_iconst (v := 0) hC dX8_wins_41 (by decide) ?_
    exact y_iret hC hr rfl (Nat.zero_le _) (Nat.zero_le _) dX8_wins_42 (by rw [show va_up L (q + 14) S4 = va_up (va_up L (q + 14) S0) (q + 14) S4 from (bx_uu _ _ _ _).symm]; first | exact yFl.t ⟨c22, c34⟩ | exact yFl.f (fun q => q.1 c22) | exact yFl.f (fun q => c34 q.2))
  · refine y_aload_n hC dX8_wins_25 rfl ?_
    refine y_iload_n hC dX8_wins_26 rfl ?_
    refine y_callS1 hC (c_X8_needsOf X.2.1 D z ha hkk) m_X8_186 rfl (by decide) (Nat.le_of_ble_eq_true rfl) (Nat.zero_le _) (Nat.zero_le _) dX8_wins_27 ?_
    rw [hne]
    refine y_iload_n hC dX8_wins_30 rfl ?_
    refine y_iconst (v := (-1)) hC dX8_wins_31 (by decide) ?_
    refine y_ixor hC dX8_wins_32 ?_
    refine y_iand hC dX8_wins_33 ?_
    refine y_if_ne (tgt := 41) hC dX8_wins_34 (by decide) (fun c34 => ?_) (fun c34 => ?_)
    · refine y_iconst (v := 0) hC dX8_wins_41 (by decide) ?_
      exact y_iret hC hr rfl (Nat.zero_le _) (Nat.zero_le _) dX8_wins_42 (by rw [show va_up L (q + 14) S4 = va_up (va_up L (q + 14) S0) (q + 14) S4 from (bx_uu _ _ _ _).symm]; first | exact yFl.t ⟨c22, c34⟩ | exact yFl.f (fun q => q.1 c22) | exact yFl.f (fun q => c34 q.2))
    · refine y_iconst (v := nI 1) hC dX8_wins_37 (by decide) ?_
      refine y_goto (tgt := 42) hC dX8_wins_38 (by decide) ?_
      exact y_iret hC hr rfl (Nat.zero_le _) (Nat.zero_le _) dX8_wins_42 (by rw [show va_up L (q + 14) S4 = va_up (va_up L (q + 14) S0) (q + 14) S4 from (bx_uu _ _ _ _).symm]; first | exact yFl.t ⟨c22, c34⟩ | exact yFl.f (fun q => q.1 c22) | exact yFl.f (fun q => c34 q.2))
def give1D (d : Nat → Int32) (k i m : Nat) : Nat → Int32 := if d (164 + 8 * k + 7) = 1 then d else upd (payD d (12 + i) (16 + m) (d (164 + 8 * k + 2))) (164 + 8 * k + 7) 1
set_option maxRecDepth 100000 in
set_option maxHeartbeats 4000000 in
theorem c_X8_give1 (l : Launch) (D : yD) (z : Nat) {n : Nat} {sh : yS} {I : yI} {L : yL} {a : Nat} {d : Nat → Int32} (ha : yArr sh a 10 1824) {k p i m r : Nat} (hk : dK d k p i m r) : yM l D z yX8_give cX8_give 6 none 2 0 0 [.ref a, .int (nI k), .int 1] n sh (va_up I a d) L (yF none n sh (va_up I a (give1D d k i m)) L) (yno) := by
  refine yM_of (by decide) (Nat.le_of_ble_eq_true rfl) rfl ?_
  intro X hC hr hnm hRc hRs htb
  have hC : yC X D z cX8_give RX8 6 2 := hC
  have hkk := hk
  obtain ⟨k20, hp, p24, hi, i4, hm, m4, hr0, r8⟩ := hk
  refine y_iload_n hC dX8_give_0 rfl ?_
  refine y_callS1 hC (c_X8_dispute X.2.1 D z (j := k) rfl) m_X8_180 rfl (by decide) (Nat.le_of_ble_eq_true rfl) (Nat.zero_le _) (Nat.zero_le _) dX8_give_1 ?_
  refine y_istore_n hC dX8_give_4 (by decide) rfl ?_
  refine y_aload_n hC dX8_give_5 rfl ?_
  refine y_iload_n hC dX8_give_6 rfl ?_
  refine y_callS1 hC (c_X8_merchantOf X.2.1 D z ha hkk) m_X8_201 rfl (by decide) (Nat.le_of_ble_eq_true rfl) (Nat.zero_le _) (Nat.zero_le _) dX8_give_7 ?_
  refine y_istore hC dX8_give_10 (by decide) rfl ?_
  refine y_aload_n hC dX8_give_12 rfl ?_
  refine y_iload_n hC dX8_give_13 rfl ?_
  refine y_callS1 hC (c_X8_issuerOf X.2.1 D z ha hkk) m_X8_204 rfl (by decide) (Nat.le_of_ble_eq_true rfl) (Nat.zero_le _) (Nat.zero_le _) dX8_give_14 ?_
  refine y_istore hC dX8_give_17 (by decide) rfl ?_
  refine y_aload_n hC dX8_give_19 rfl ?_
  refine y_iload_n hC dX8_give_20 rfl ?_
  refine y_bipush (v := nI 7) hC dX8_give_21 (by decide) ?_
  refine y_iaddN hC dX8_give_23 ?_
  refine y_ialdAN hC ha (by omega) dX8_give_24 ?_
  refine y_iconst (v := 1) hC dX8_give_25 (by decide) ?_
  refine y_icmp_ne (tgt := 33) hC dX8_give_26 (by decide) (fun c26 => ?_) (fun c26 => ?_)
  · refine y_iconst (v := 0) hC dX8_give_33 (by decide) ?_
    refine y_iload_n hC dX8_give_34 rfl ?_
    refine y_icmp_ne (tgt := 39) hC dX8_give_35 (by decide) (fun c35 => ?_) (fun c35 => absurd c35 (by decide))
    refine y_aload_n hC dX8_give_39 rfl ?_
    refine y_iload_n hC dX8_give_40 rfl ?_
    refine y_if_eq (tgt := 49) hC dX8_give_41 (by decide) (fun c41 => absurd c41 (by decide)) (fun c41 => ?_)
    refine y_iload hC dX8_give_44 rfl ?_
    refine y_goto (tgt := 51) hC dX8_give_46 (by decide) ?_
    refine y_iload_n hC dX8_give_51 rfl ?_
    refine y_if_eq (tgt := 60) hC dX8_give_52 (by decide) (fun c52 => absurd c52 (by decide)) (fun c52 => ?_)
    refine y_iload hC dX8_give_55 rfl ?_
    refine y_goto (tgt := 62) hC dX8_give_57 (by decide) ?_
    refine y_aload_n hC dX8_give_62 rfl ?_
    refine y_iload_n hC dX8_give_63 rfl ?_
    refine y_iconst (v := nI 2) hC dX8_give_64 (by decide) ?_
    refine y_iaddN hC dX8_give_65 ?_
    refine y_ialdAN hC ha (by omega) dX8_give_66 ?_
    refine y_callS0 hC (c_X8_pay X.2.1 D z ha rfl rfl (by omega) (by omega)) m_X8_207 rfl (by decide) (Nat.le_of_ble_eq_true rfl) (Nat.zero_le _) (Nat.zero_le _) dX8_give_67 ?_
    refine y_aload_n hC dX8_give_70 rfl ?_
    refine y_iload_n hC dX8_give_71 rfl ?_
    refine y_bipush (v := nI 7) hC dX8_give_72 (by decide) ?_
    refine y_iaddN hC dX8_give_74 ?_
    refine y_iload_n hC dX8_give_75 rfl ?_
    refine y_if_eq (tgt := 83) hC dX8_give_76 (by decide) (fun c76 => absurd c76 (by decide)) (fun c76 => ?_)
    refine y_iconst (v := 1) hC dX8_give_79 (by decide) ?_
    refine y_goto (tgt := 84) hC dX8_give_80 (by decide) ?_
    refine y_iastAN hC ha (by omega) dX8_give_84 ?_
    exact y_vret hC hr (Nat.zero_le _) (Nat.zero_le _) dX8_give_85 (by first | (rw [give1D, if_pos c26]; exact yF.mk rfl) | (rw [give1D, if_neg c26]; exact yF.mk rfl))
  · refine y_iconst (v := 1) hC dX8_give_29 (by decide) ?_
    refine y_goto (tgt := 34) hC dX8_give_30 (by decide) ?_
    refine y_iload_n hC dX8_give_34 rfl ?_
    refine y_icmp_ne (tgt := 39) hC dX8_give_35 (by decide) (fun c35 => absurd rfl c35) (fun c35 => ?_)
    exact y_vret hC hr (Nat.zero_le _) (Nat.zero_le _) dX8_give_38 (by first | (rw [give1D, if_pos c26]; exact yF.mk rfl) | (rw [give1D, if_neg c26]; exact yF.mk rfl))
def give0D (d : Nat → Int32) (k i m : Nat) : Nat → Int32 := if d (164 + 8 * k + 7) = 1 then upd (payD d (16 + m) (12 + i) (d (164 + 8 * k + 2))) (164 + 8 * k + 7) 0 else d
set_option maxRecDepth 100000 in
set_option maxHeartbeats 4000000 in
theorem c_X8_give0 (l : Launch) (D : yD) (z : Nat) {n : Nat} {sh : yS} {I : yI} {L : yL} {a : Nat} {d : Nat → Int32} (ha : yArr sh a 10 1824) {k p i m r : Nat} (hk : dK d k p i m r) : yM l D z yX8_give cX8_give 6 none 2 0 0 [.ref a, .int (nI k), .int 0] n sh (va_up I a d) L (yF none n sh (va_up I a (give0D d k i m)) L) (yno) := by
  refine yM_of (by decide) (Nat.le_of_ble_eq_true rfl) rfl ?_
  intro X hC hr hnm hRc hRs htb
  have hC : yC X D z cX8_give RX8 6 2 := hC
  have hkk := hk
  obtain ⟨k20, hp, p24, hi, i4, hm, m4, hr0, r8⟩ := hk
  refine y_iload_n hC dX8_give_0 rfl ?_
  refine y_callS1 hC (c_X8_dispute X.2.1 D z (j := k) rfl) m_X8_180 rfl (by decide) (Nat.le_of_ble_eq_true rfl) (Nat.zero_le _) (Nat.zero_le _) dX8_give_1 ?_
  refine y_istore_n hC dX8_give_4 (by decide) rfl ?_
  refine y_aload_n hC dX8_give_5 rfl ?_
  refine y_iload_n hC dX8_give_6 rfl ?_
  refine y_callS1 hC (c_X8_merchantOf X.2.1 D z ha hkk) m_X8_201 rfl (by decide) (Nat.le_of_ble_eq_true rfl) (Nat.zero_le _) (Nat.zero_le _) dX8_give_7 ?_
  refine y_istore hC dX8_give_10 (by decide) rfl ?_
  refine y_aload_n hC dX8_give_12 rfl ?_
  refine y_iload_n hC dX8_give_13 rfl ?_
  refine y_callS1 hC (c_X8_issuerOf X.2.1 D z ha hkk) m_X8_204 rfl (by decide) (Nat.le_of_ble_eq_true rfl) (Nat.zero_le _) (Nat.zero_le _) dX8_give_14 ?_
  refine y_istore hC dX8_give_17 (by decide) rfl ?_
  refine y_aload_n hC dX8_give_19 rfl ?_
  refine y_iload_n hC dX8_give_20 rfl ?_
  refine y_bipush (v := nI 7) hC dX8_give_21 (by decide) ?_
  refine y_iaddN hC dX8_give_23 ?_
  refine y_ialdAN hC ha (by omega) dX8_give_24 ?_
  refine y_iconst (v := 1) hC dX8_give_25 (by decide) ?_
  refine y_icmp_ne (tgt := 33) hC dX8_give_26 (by decide) (fun c26 => ?_) (fun c26 => ?_)
  · refine y_iconst (v := 0) hC dX8_give_33 (by decide) ?_
    refine y_iload_n hC dX8_give_34 rfl ?_
    refine y_icmp_ne (tgt := 39) hC dX8_give_35 (by decide) (fun c35 => absurd rfl c35) (fun c35 => ?_)
    exact y_vret hC hr (Nat.zero_le _) (Nat.zero_le _) dX8_give_38 (by first | (rw [give0D, if_pos c26]; exact yF.mk rfl) | (rw [give0D, if_neg c26]; exact yF.mk rfl))
  · refine y_iconst (v := 1) hC dX8_give_29 (by decide) ?_
    refine y_goto (tgt := 34) hC dX8_give_30 (by decide) ?_
    refine y_iload_n hC dX8_give_34 rfl ?_
    refine y_icmp_ne (tgt := 39) hC dX8_give_35 (by decide) (fun c35 => ?_) (fun c35 => absurd c35 (by decide))
    refine y_aload_n hC dX8_give_39 rfl ?_
    refine y_iload_n hC dX8_give_40 rfl ?_
    refine y_if_eq (tgt := 49) hC dX8_give_41 (by decide) (fun c41 => ?_) (fun c41 => absurd rfl c41)
    refine y_iload hC dX8_give_49 rfl ?_
    refine y_iload_n hC dX8_give_51 rfl ?_
    refine y_if_eq (tgt := 60) hC dX8_give_52 (by decide) (fun c52 => ?_) (fun c52 => absurd rfl c52)
    refine y_iload hC dX8_give_60 rfl ?_
    refine y_aload_n hC dX8_give_62 rfl ?_
    refine y_iload_n hC dX8_give_63 rfl ?_
    refine y_iconst (v := nI 2) hC dX8_give_64 (by decide) ?_
    refine y_iaddN hC dX8_give_65 ?_
    refine y_ialdAN hC ha (by omega) dX8_give_66 ?_
    refine y_callS0 hC (c_X8_pay X.2.1 D z ha rfl rfl (by omega) (by omega)) m_X8_207 rfl (by decide) (Nat.le_of_ble_eq_true rfl) (Nat.zero_le _) (Nat.zero_le _) dX8_give_67 ?_
    refine y_aload_n hC dX8_give_70 rfl ?_
    refine y_iload_n hC dX8_give_71 rfl ?_
    refine y_bipush (v := nI 7) hC dX8_give_72 (by decide) ?_
    refine y_iaddN hC dX8_give_74 ?_
    refine y_iload_n hC dX8_give_75 rfl ?_
    refine y_if_eq (tgt := 83) hC dX8_give_76 (by decide) (fun c76 => ?_) (fun c76 => absurd rfl c76)
    refine y_iconst (v := 0) hC dX8_give_83 (by decide) ?_
    refine y_iastAN hC ha (by omega) dX8_give_84 ?_
    exact y_vret hC hr (Nat.zero_le _) (Nat.zero_le _) dX8_give_85 (by first | (rw [give0D, if_pos c26]; exact yF.mk rfl) | (rw [give0D, if_neg c26]; exact yF.mk rfl))
/-- the places that the end of a dispute leaves alone -/
def frz (j : Nat) : Prop := (j ≤ 10 ∧ j ≠ 5) ∨ (20 ≤ j ∧ j < 164) ∨ 324 ≤ j ∨ (164 ≤ j ∧ (j - 164) % 8 ≤ 4)
def dF (d d2 : Nat → Int32) : Prop := ∀ j, frz j → d2 j = d j
theorem dF.rf {d : Nat → Int32} : dF d d := fun _ _ => rfl
theorem dF.trans {d d2 d3 : Nat → Int32} (h1 : dF d d2) (h2 : dF d2 d3) : dF d d3 := fun j hj => (h2 j hj).trans (h1 j hj)
theorem upd_ne9 {d : Nat → Int32} {a j : Nat} {v : Int32} (h : j ≠ a) : upd d a v j = d j := by
  unfold upd
  rw [if_neg h]
theorem dF.upd {d : Nat → Int32} {a : Nat} {v : Int32} (h : ¬ frz a) : dF d (upd d a v) := fun j hj => upd_ne9 (fun e => h (e ▸ hj))
theorem dF.pay {d : Nat → Int32} {a b : Nat} {x : Int32} (h1 : ¬ frz a) (h2 : ¬ frz b) : dF d (payD d a b x) := (dF.upd h1).trans (dF.upd h2)
theorem nf_acc {j : Nat} (h1 : 11 ≤ j) (h2 : j < 20) : ¬ frz j := fun q => by unfold frz at q; omega
theorem nf_dis {k j : Nat} (h1 : 5 ≤ j) (h2 : j < 8) (hk : k < 20) : ¬ frz (164 + 8 * k + j) := fun q => by unfold frz at q; omega
theorem dK.fz {d d2 : Nat → Int32} {k p i m r : Nat} (h : dK d k p i m r) (f : dF d d2) : dK d2 k p i m r := by
  obtain ⟨k20, hp, p24, hi, i4, hm, m4, hr0, r8⟩ := h
  exact ⟨k20, (f _ (by unfold frz; omega)).trans hp, p24, (f _ (by unfold frz; omega)).trans hi, i4, (f _ (by unfold frz; omega)).trans hm, m4, (f _ (by unfold frz; omega)).trans hr0, r8⟩
theorem cAt.fz {d d2 : Nat → Int32} (f : dF d d2) : ∀ {cd : List Int32} {i : Nat}, cAt d i cd → cAt d2 i cd
  | [], i, h => ⟨(f 10 (by unfold frz; omega)).trans h.1, h.2⟩
  | it :: r, i, h => by
    have e10 : d2 10 = d 10 := f 10 (by unfold frz; omega)
    have e : ∀ j, d2 (324 + j) = d (324 + j) := fun j => f _ (by unfold frz; omega)
    obtain ⟨h1, h2, h3⟩ := h
    refine ⟨h1, by rw [e10]; exact h2, ?_⟩
    rw [e, e]
    rcases h3 with ⟨a1, a2, a3, a4⟩ | ⟨a1, a2, a3, a4⟩ | ⟨a1, a2, a3, a4⟩ | ⟨a1, a2, a3, a4⟩ | ⟨a1, a2, a3, a4⟩ | ⟨a1, a2, a4⟩ | ⟨a1, a2, a4⟩ | ⟨a1, a2, a4⟩ | ⟨a1, a2, a4⟩
    · exact Or.inl ⟨a1, a2, a3, cAt.fz f a4⟩
    · exact Or.inr (Or.inl ⟨a1, a2, a3, cAt.fz f a4⟩)
    · exact Or.inr (Or.inr (Or.inl ⟨a1, a2, a3, cAt.fz f a4⟩))
    · exact Or.inr (Or.inr (Or.inr (Or.inl ⟨a1, a2, a3, cAt.fz f a4⟩)))
    · exact Or.inr (Or.inr (Or.inr (Or.inr (Or.inl ⟨a1, a2, a3, cAt.fz f a4⟩))))
    · exact Or.inr (Or.inr (Or.inr (Or.inr (Or.inr (Or.inl ⟨a1, a2, cAt.fz f a4⟩)))))
    · exact Or.inr (Or.inr (Or.inr (Or.inr (Or.inr (Or.inr (Or.inl ⟨a1, a2, cAt.fz f a4⟩))))))
    · exact Or.inr (Or.inr (Or.inr (Or.inr (Or.inr (Or.inr (Or.inr (Or.inl ⟨a1, a2, cAt.fz f a4⟩)))))))
    · exact Or.inr (Or.inr (Or.inr (Or.inr (Or.inr (Or.inr (Or.inr (Or.inr ⟨a1, a2, cAt.fz f a4⟩)))))))
theorem give1F {d : Nat → Int32} {k i m : Nat} (hk : k < 20) (hi : i < 4) (hm : m < 4) : dF d (give1D d k i m) := by
  unfold give1D
  split
  · exact dF.rf
  · exact (dF.pay (nf_acc (by omega) (by omega)) (nf_acc (by omega) (by omega))).trans (dF.upd (nf_dis (by decide) (by decide) hk))
theorem give0F {d : Nat → Int32} {k i m : Nat} (hk : k < 20) (hi : i < 4) (hm : m < 4) : dF d (give0D d k i m) := by
  unfold give0D
  split
  · exact (dF.pay (nf_acc (by omega) (by omega)) (nf_acc (by omega) (by omega))).trans (dF.upd (nf_dis (by decide) (by decide) hk))
  · exact dF.rf
def giveD (d : Nat → Int32) (k i m : Nat) (w : Prop) [Decidable w] : Nat → Int32 := if w then payD (give1D d k i m) (12 + i) (16 + m) (give1D d k i m 6) else give0D d k i m
def arbD (d : Nat → Int32) (i m : Nat) (w b : Prop) [Decidable w] [Decidable b] : Nat → Int32 := if b then payD d (if w then 12 + i else 16 + m) 11 (d 7) else d
/-- a dispute ends -/
def endD (d : Nat → Int32) (k i m : Nat) (w b : Prop) [Decidable w] [Decidable b] : Nat → Int32 := upd (upd (arbD (giveD d k i m w) i m w b) (164 + 8 * k + 5) (if w then 5 else 4)) (164 + 8 * k + 6) (-1)
theorem giveF {d : Nat → Int32} {k i m : Nat} {w : Prop} [Decidable w] (hk : k < 20) (hi : i < 4) (hm : m < 4) : dF d (giveD d k i m w) := by
  unfold giveD
  split
  · exact (give1F hk hi hm).trans (dF.pay (nf_acc (by omega) (by omega)) (nf_acc (by omega) (by omega)))
  · exact give0F hk hi hm
theorem endF {d : Nat → Int32} {k i m : Nat} {w b : Prop} [Decidable w] [Decidable b] (hk : k < 20) (hi : i < 4) (hm : m < 4) : dF d (endD d k i m w b) := by
  refine dF.trans (dF.trans (dF.trans (giveF (w := w) hk hi hm) ?_) (dF.upd (nf_dis (by decide) (by decide) hk))) (dF.upd (nf_dis (by decide) (by decide) hk))
  unfold arbD
  split
  · refine dF.pay ?_ (nf_acc (by omega) (by omega))
    split
    · exact nf_acc (by omega) (by omega)
    · exact nf_acc (by omega) (by omega)
  · exact dF.rf
set_option maxRecDepth 100000 in
set_option maxHeartbeats 4000000 in
theorem c_X8_end11 (l : Launch) (D : yD) (z : Nat) {n : Nat} {sh : yS} {I : yI} {L : yL} {a : Nat} {d : Nat → Int32} (ha : yArr sh a 10 1824) {k p i m r : Nat} (hk : dK d k p i m r) : yM l D z yX8_end cX8_end 5 none 3 0 0 [.ref a, .int (nI k), .int 1, .int 1] n sh (va_up I a d) L (yF none n sh (va_up I a (endD d k i m True True)) L) (yno) := by
  refine yM_of (by decide) (Nat.le_of_ble_eq_true rfl) rfl ?_
  intro X hC hr hnm hRc hRs htb
  have hC : yC X D z cX8_end RX8 5 3 := hC
  have hkk := hk
  obtain ⟨k20, hp, p24, hi, i4, hm, m4, hr0, r8⟩ := hk
  have hk1 := hkk.fz (give1F (d := d) k20 i4 m4)
  have hk2 := hkk.fz (giveF (d := d) (w := True) k20 i4 m4)
  refine y_iload_n hC dX8_end_0 rfl ?_
  refine y_callS1 hC (c_X8_dispute X.2.1 D z (j := k) rfl) m_X8_180 rfl (by decide) (Nat.le_of_ble_eq_true rfl) (Nat.zero_le _) (Nat.zero_le _) dX8_end_1 ?_
  refine y_istore hC dX8_end_4 (by decide) rfl ?_
  refine y_aload_n hC dX8_end_6 rfl ?_
  refine y_iload_n hC dX8_end_7 rfl ?_
  refine y_iload_n hC dX8_end_8 rfl ?_
  refine y_callS0 hC (c_X8_give1 X.2.1 D z ha hkk) m_X8_211 rfl (by decide) (Nat.le_of_ble_eq_true rfl) (Nat.zero_le _) (Nat.zero_le _) dX8_end_9 ?_
  refine y_iload_n hC dX8_end_12 rfl ?_
  refine y_if_eq (tgt := 34) hC dX8_end_13 (by decide) (fun c13 => absurd c13 (by decide)) (fun c13 => ?_)
  refine y_aload_n hC dX8_end_16 rfl ?_
  refine y_aload_n hC dX8_end_17 rfl ?_
  refine y_iload_n hC dX8_end_18 rfl ?_
  refine y_callS1 hC (c_X8_issuerOf X.2.1 D z ha hk1) m_X8_204 rfl (by decide) (Nat.le_of_ble_eq_true rfl) (Nat.zero_le _) (Nat.zero_le _) dX8_end_19 ?_
  refine y_aload_n hC dX8_end_22 rfl ?_
  refine y_iload_n hC dX8_end_23 rfl ?_
  refine y_callS1 hC (c_X8_merchantOf X.2.1 D z ha hk1) m_X8_201 rfl (by decide) (Nat.le_of_ble_eq_true rfl) (Nat.zero_le _) (Nat.zero_le _) dX8_end_24 ?_
  refine y_aload_n hC dX8_end_27 rfl ?_
  refine y_bipush (v := nI 6) hC dX8_end_28 (by decide) ?_
  refine y_ialdAN hC ha (by decide) dX8_end_30 ?_
  refine y_callS0 hC (c_X8_pay X.2.1 D z ha rfl rfl (by omega) (by omega)) m_X8_207 rfl (by decide) (Nat.le_of_ble_eq_true rfl) (Nat.zero_le _) (Nat.zero_le _) dX8_end_31 ?_
  refine y_iload_n hC dX8_end_34 rfl ?_
  refine y_if_eq (tgt := 65) hC dX8_end_35 (by decide) (fun c35 => absurd c35 (by decide)) (fun c35 => ?_)
  refine y_aload_n hC dX8_end_38 rfl ?_
  refine y_iload_n hC dX8_end_39 rfl ?_
  refine y_if_eq (tgt := 51) hC dX8_end_40 (by decide) (fun c40 => absurd c40 (by decide)) (fun c40 => ?_)
  refine y_aload_n hC dX8_end_43 rfl ?_
  refine y_iload_n hC dX8_end_44 rfl ?_
  refine y_callS1 hC (c_X8_issuerOf X.2.1 D z ha hk2) m_X8_204 rfl (by decide) (Nat.le_of_ble_eq_true rfl) (Nat.zero_le _) (Nat.zero_le _) dX8_end_45 ?_
  refine y_goto (tgt := 56) hC dX8_end_48 (by decide) ?_
  refine y_bipush (v := nI 11) hC dX8_end_56 (by decide) ?_
  refine y_aload_n hC dX8_end_58 rfl ?_
  refine y_bipush (v := nI 7) hC dX8_end_59 (by decide) ?_
  refine y_ialdAN hC ha (by decide) dX8_end_61 ?_
  refine y_callS0 hC (c_X8_pay X.2.1 D z ha rfl rfl (by omega) (by omega)) m_X8_207 rfl (by decide) (Nat.le_of_ble_eq_true rfl) (Nat.zero_le _) (Nat.zero_le _) dX8_end_62 ?_
  refine y_aload_n hC dX8_end_65 rfl ?_
  refine y_iload hC dX8_end_66 rfl ?_
  refine y_iconst (v := nI 5) hC dX8_end_68 (by decide) ?_
  refine y_iaddN hC dX8_end_69 ?_
  refine y_iload_n hC dX8_end_70 rfl ?_
  refine y_if_eq (tgt := 78) hC dX8_end_71 (by decide) (fun c71 => absurd c71 (by decide)) (fun c71 => ?_)
  refine y_iconst (v := 5) hC dX8_end_74 (by decide) ?_
  refine y_goto (tgt := 79) hC dX8_end_75 (by decide) ?_
  refine y_iastAN hC ha (by omega) dX8_end_79 ?_
  refine y_aload_n hC dX8_end_80 rfl ?_
  refine y_iload hC dX8_end_81 rfl ?_
  refine y_bipush (v := nI 6) hC dX8_end_83 (by decide) ?_
  refine y_iaddN hC dX8_end_85 ?_
  refine y_iconst (v := (-1)) hC dX8_end_86 (by decide) ?_
  refine y_iastAN hC ha (by omega) dX8_end_87 ?_
  exact y_vret hC hr (Nat.zero_le _) (Nat.zero_le _) dX8_end_88 (yF.mk rfl)
set_option maxRecDepth 100000 in
set_option maxHeartbeats 4000000 in
theorem c_X8_end10 (l : Launch) (D : yD) (z : Nat) {n : Nat} {sh : yS} {I : yI} {L : yL} {a : Nat} {d : Nat → Int32} (ha : yArr sh a 10 1824) {k p i m r : Nat} (hk : dK d k p i m r) : yM l D z yX8_end cX8_end 5 none 3 0 0 [.ref a, .int (nI k), .int 1, .int 0] n sh (va_up I a d) L (yF none n sh (va_up I a (endD d k i m True False)) L) (yno) := by
  refine yM_of (by decide) (Nat.le_of_ble_eq_true rfl) rfl ?_
  intro X hC hr hnm hRc hRs htb
  have hC : yC X D z cX8_end RX8 5 3 := hC
  have hkk := hk
  obtain ⟨k20, hp, p24, hi, i4, hm, m4, hr0, r8⟩ := hk
  have hk1 := hkk.fz (give1F (d := d) k20 i4 m4)
  have hk2 := hkk.fz (giveF (d := d) (w := True) k20 i4 m4)
  refine y_iload_n hC dX8_end_0 rfl ?_
  refine y_callS1 hC (c_X8_dispute X.2.1 D z (j := k) rfl) m_X8_180 rfl (by decide) (Nat.le_of_ble_eq_true rfl) (Nat.zero_le _) (Nat.zero_le _) dX8_end_1 ?_
  refine y_istore hC dX8_end_4 (by decide) rfl ?_
  refine y_aload_n hC dX8_end_6 rfl ?_
  refine y_iload_n hC dX8_end_7 rfl ?_
  refine y_iload_n hC dX8_end_8 rfl ?_
  refine y_callS0 hC (c_X8_give1 X.2.1 D z ha hkk) m_X8_211 rfl (by decide) (Nat.le_of_ble_eq_true rfl) (Nat.zero_le _) (Nat.zero_le _) dX8_end_9 ?_
  refine y_iload_n hC dX8_end_12 rfl ?_
  refine y_if_eq (tgt := 34) hC dX8_end_13 (by decide) (fun c13 => absurd c13 (by decide)) (fun c13 => ?_)
  refine y_aload_n hC dX8_end_16 rfl ?_
  refine y_aload_n hC dX8_end_17 rfl ?_
  refine y_iload_n hC dX8_end_18 rfl ?_
  refine y_callS1 hC (c_X8_issuerOf X.2.1 D z ha hk1) m_X8_204 rfl (by decide) (Nat.le_of_ble_eq_true rfl) (Nat.zero_le _) (Nat.zero_le _) dX8_end_19 ?_
  refine y_aload_n hC dX8_end_22 rfl ?_
  refine y_iload_n hC dX8_end_23 rfl ?_
  refine y_callS1 hC (c_X8_merchantOf X.2.1 D z ha hk1) m_X8_201 rfl (by decide) (Nat.le_of_ble_eq_true rfl) (Nat.zero_le _) (Nat.zero_le _) dX8_end_24 ?_
  refine y_aload_n hC dX8_end_27 rfl ?_
  refine y_bipush (v := nI 6) hC dX8_end_28 (by decide) ?_
  refine y_ialdAN hC ha (by decide) dX8_end_30 ?_
  refine y_callS0 hC (c_X8_pay X.2.1 D z ha rfl rfl (by omega) (by omega)) m_X8_207 rfl (by decide) (Nat.le_of_ble_eq_true rfl) (Nat.zero_le _) (Nat.zero_le _) dX8_end_31 ?_
  refine y_iload_n hC dX8_end_34 rfl ?_
  refine y_if_eq (tgt := 65) hC dX8_end_35 (by decide) (fun c35 => ?_) (fun c35 => absurd rfl c35)
  refine y_aload_n hC dX8_end_65 rfl ?_
  refine y_iload hC dX8_end_66 rfl ?_
  refine y_iconst (v := nI 5) hC dX8_end_68 (by decide) ?_
  refine y_iaddN hC dX8_end_69 ?_
  refine y_iload_n hC dX8_end_70 rfl ?_
  refine y_if_eq (tgt := 78) hC dX8_end_71 (by decide) (fun c71 => absurd c71 (by decide)) (fun c71 => ?_)
  refine y_iconst (v := 5) hC dX8_end_74 (by decide) ?_
  refine y_goto (tgt := 79) hC dX8_end_75 (by decide) ?_
  refine y_iastAN hC ha (by omega) dX8_end_79 ?_
  refine y_aload_n hC dX8_end_80 rfl ?_
  refine y_iload hC dX8_end_81 rfl ?_
  refine y_bipush (v := nI 6) hC dX8_end_83 (by decide) ?_
  refine y_iaddN hC dX8_end_85 ?_
  refine y_iconst (v := (-1)) hC dX8_end_86 (by decide) ?_
  refine y_iastAN hC ha (by omega) dX8_end_87 ?_
  exact y_vret hC hr (Nat.zero_le _) (Nat.zero_le _) dX8_end_88 (yF.mk rfl)
set_option maxRecDepth 100000 in
set_option maxHeartbeats 4000000 in
theorem c_X8_end01 (l : Launch) (D : yD) (z : Nat) {n : Nat} {sh : yS} {I : yI} {L : yL} {a : Nat} {d : Nat → Int32} (ha : yArr sh a 10 1824) {k p i m r : Nat} (hk : dK d k p i m r) : yM l D z yX8_end cX8_end 5 none 3 0 0 [.ref a, .int (nI k), .int 0, .int 1] n sh (va_up I a d) L (yF none n sh (va_up I a (endD d k i m False True)) L) (yno) := by
  refine yM_of (by decide) (Nat.le_of_ble_eq_true rfl) rfl ?_
  intro X hC hr hnm hRc hRs htb
  have hC : yC X D z cX8_end RX8 5 3 := hC
  have hkk := hk
  obtain ⟨k20, hp, p24, hi, i4, hm, m4, hr0, r8⟩ := hk
  have hk1 := hkk.fz (give0F (d := d) k20 i4 m4)
  have hk2 := hkk.fz (giveF (d := d) (w := False) k20 i4 m4)
  refine y_iload_n hC dX8_end_0 rfl ?_
  refine y_callS1 hC (c_X8_dispute X.2.1 D z (j := k) rfl) m_X8_180 rfl (by decide) (Nat.le_of_ble_eq_true rfl) (Nat.zero_le _) (Nat.zero_le _) dX8_end_1 ?_
  refine y_istore hC dX8_end_4 (by decide) rfl ?_
  refine y_aload_n hC dX8_end_6 rfl ?_
  refine y_iload_n hC dX8_end_7 rfl ?_
  refine y_iload_n hC dX8_end_8 rfl ?_
  refine y_callS0 hC (c_X8_give0 X.2.1 D z ha hkk) m_X8_211 rfl (by decide) (Nat.le_of_ble_eq_true rfl) (Nat.zero_le _) (Nat.zero_le _) dX8_end_9 ?_
  refine y_iload_n hC dX8_end_12 rfl ?_
  refine y_if_eq (tgt := 34) hC dX8_end_13 (by decide) (fun c13 => ?_) (fun c13 => absurd rfl c13)
  refine y_iload_n hC dX8_end_34 rfl ?_
  refine y_if_eq (tgt := 65) hC dX8_end_35 (by decide) (fun c35 => absurd c35 (by decide)) (fun c35 => ?_)
  refine y_aload_n hC dX8_end_38 rfl ?_
  refine y_iload_n hC dX8_end_39 rfl ?_
  refine y_if_eq (tgt := 51) hC dX8_end_40 (by decide) (fun c40 => ?_) (fun c40 => absurd rfl c40)
  refine y_aload_n hC dX8_end_51 rfl ?_
  refine y_iload_n hC dX8_end_52 rfl ?_
  refine y_callS1 hC (c_X8_merchantOf X.2.1 D z ha hk2) m_X8_201 rfl (by decide) (Nat.le_of_ble_eq_true rfl) (Nat.zero_le _) (Nat.zero_le _) dX8_end_53 ?_
  refine y_bipush (v := nI 11) hC dX8_end_56 (by decide) ?_
  refine y_aload_n hC dX8_end_58 rfl ?_
  refine y_bipush (v := nI 7) hC dX8_end_59 (by decide) ?_
  refine y_ialdAN hC ha (by decide) dX8_end_61 ?_
  refine y_callS0 hC (c_X8_pay X.2.1 D z ha rfl rfl (by omega) (by omega)) m_X8_207 rfl (by decide) (Nat.le_of_ble_eq_true rfl) (Nat.zero_le _) (Nat.zero_le _) dX8_end_62 ?_
  refine y_aload_n hC dX8_end_65 rfl ?_
  refine y_iload hC dX8_end_66 rfl ?_
  refine y_iconst (v := nI 5) hC dX8_end_68 (by decide) ?_
  refine y_iaddN hC dX8_end_69 ?_
  refine y_iload_n hC dX8_end_70 rfl ?_
  refine y_if_eq (tgt := 78) hC dX8_end_71 (by decide) (fun c71 => ?_) (fun c71 => absurd rfl c71)
  refine y_iconst (v := 4) hC dX8_end_78 (by decide) ?_
  refine y_iastAN hC ha (by omega) dX8_end_79 ?_
  refine y_aload_n hC dX8_end_80 rfl ?_
  refine y_iload hC dX8_end_81 rfl ?_
  refine y_bipush (v := nI 6) hC dX8_end_83 (by decide) ?_
  refine y_iaddN hC dX8_end_85 ?_
  refine y_iconst (v := (-1)) hC dX8_end_86 (by decide) ?_
  refine y_iastAN hC ha (by omega) dX8_end_87 ?_
  exact y_vret hC hr (Nat.zero_le _) (Nat.zero_le _) dX8_end_88 (yF.mk rfl)
set_option maxRecDepth 100000 in
set_option maxHeartbeats 4000000 in
theorem c_X8_end00 (l : Launch) (D : yD) (z : Nat) {n : Nat} {sh : yS} {I : yI} {L : yL} {a : Nat} {d : Nat → Int32} (ha : yArr sh a 10 1824) {k p i m r : Nat} (hk : dK d k p i m r) : yM l D z yX8_end cX8_end 5 none 3 0 0 [.ref a, .int (nI k), .int 0, .int 0] n sh (va_up I a d) L (yF none n sh (va_up I a (endD d k i m False False)) L) (yno) := by
  refine yM_of (by decide) (Nat.le_of_ble_eq_true rfl) rfl ?_
  intro X hC hr hnm hRc hRs htb
  have hC : yC X D z cX8_end RX8 5 3 := hC
  have hkk := hk
  obtain ⟨k20, hp, p24, hi, i4, hm, m4, hr0, r8⟩ := hk
  have hk1 := hkk.fz (give0F (d := d) k20 i4 m4)
  have hk2 := hkk.fz (giveF (d := d) (w := False) k20 i4 m4)
  refine y_iload_n hC dX8_end_0 rfl ?_
  refine y_callS1 hC (c_X8_dispute X.2.1 D z (j := k) rfl) m_X8_180 rfl (by decide) (Nat.le_of_ble_eq_true rfl) (Nat.zero_le _) (Nat.zero_le _) dX8_end_1 ?_
  refine y_istore hC dX8_end_4 (by decide) rfl ?_
  refine y_aload_n hC dX8_end_6 rfl ?_
  refine y_iload_n hC dX8_end_7 rfl ?_
  refine y_iload_n hC dX8_end_8 rfl ?_
  refine y_callS0 hC (c_X8_give0 X.2.1 D z ha hkk) m_X8_211 rfl (by decide) (Nat.le_of_ble_eq_true rfl) (Nat.zero_le _) (Nat.zero_le _) dX8_end_9 ?_
  refine y_iload_n hC dX8_end_12 rfl ?_
  refine y_if_eq (tgt := 34) hC dX8_end_13 (by decide) (fun c13 => ?_) (fun c13 => absurd rfl c13)
  refine y_iload_n hC dX8_end_34 rfl ?_
  refine y_if_eq (tgt := 65) hC dX8_end_35 (by decide) (fun c35 => ?_) (fun c35 => absurd rfl c35)
  refine y_aload_n hC dX8_end_65 rfl ?_
  refine y_iload hC dX8_end_66 rfl ?_
  refine y_iconst (v := nI 5) hC dX8_end_68 (by decide) ?_
  refine y_iaddN hC dX8_end_69 ?_
  refine y_iload_n hC dX8_end_70 rfl ?_
  refine y_if_eq (tgt := 78) hC dX8_end_71 (by decide) (fun c71 => ?_) (fun c71 => absurd rfl c71)
  refine y_iconst (v := 4) hC dX8_end_78 (by decide) ?_
  refine y_iastAN hC ha (by omega) dX8_end_79 ?_
  refine y_aload_n hC dX8_end_80 rfl ?_
  refine y_iload hC dX8_end_81 rfl ?_
  refine y_bipush (v := nI 6) hC dX8_end_83 (by decide) ?_
  refine y_iaddN hC dX8_end_85 ?_
  refine y_iconst (v := (-1)) hC dX8_end_86 (by decide) ?_
  refine y_iastAN hC ha (by omega) dX8_end_87 ?_
  exact y_vret hC hr (Nat.zero_le _) (Nat.zero_le _) dX8_end_88 (yF.mk rfl)
theorem c_X8_end (l : Launch) (D : yD) (z : Nat) {n : Nat} {sh : yS} {I : yI} {L : yL} {a : Nat} {d : Nat → Int32} (ha : yArr sh a 10 1824) {k p i m r : Nat} (hk : dK d k p i m r) {w b : Prop} [Decidable w] [Decidable b] : yM l D z yX8_end cX8_end 5 none 3 0 0 [.ref a, .int (nI k), .int (b2i w), .int (b2i b)] n sh (va_up I a d) L (yF none n sh (va_up I a (endD d k i m w b)) L) yno := by
  have e : ∀ (w2 b2 : Prop) (q1 : Decidable w2) (q2 : Decidable b2), (w ↔ w2) → (b ↔ b2) → endD d k i m w b = endD d k i m w2 b2 := fun w2 b2 q1 q2 h1 h2 => by
    obtain rfl := propext h1
    obtain rfl := propext h2
    congr
  by_cases hw : w
  · rw [b2i_t hw]
    by_cases hb : b
    · rw [b2i_t hb, e True True inferInstance inferInstance (iff_true_intro hw) (iff_true_intro hb)]; exact c_X8_end11 l D z ha hk
    · rw [b2i_f hb, e True False inferInstance inferInstance (iff_true_intro hw) (iff_false_intro hb)]; exact c_X8_end10 l D z ha hk
  · rw [b2i_f hw]
    by_cases hb : b
    · rw [b2i_t hb, e False True inferInstance inferInstance (iff_false_intro hw) (iff_true_intro hb)]; exact c_X8_end01 l D z ha hk
    · rw [b2i_f hb, e False False inferInstance inferInstance (iff_false_intro hw) (iff_false_intro hb)]; exact c_X8_end00 l D z ha hk
