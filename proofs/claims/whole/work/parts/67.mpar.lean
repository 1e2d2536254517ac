/-- the word i stands at s, and no letter behind it -/
abbrev mtP (b : Nat → Int32) (len s i : Nat) : Prop := (∀ k, k < sN i → bA b len (s + k) = sB i k) ∧ ¬ ltP (bA b len (s + sN i))
def twM (M : yI) (len p i : Nat) : Int32 × yI := if ¬ M 0 5 = 0 then (0, M) else if mtP (M 1) len (skp (M 1) len p) i then (1, posM M (skp (M 1) len p + sN i)) else (0, posM M (skp (M 1) len p))
set_option maxRecDepth 100000 in
set_option maxHeartbeats 4000000 in
theorem c_X8_takeWord (l : Launch) (D : yD) (z : Nat) {n : Nat} {sh : yS} {I : yI} {L : yL} {q : Nat} {M : yI} (hQ : yMod sh q) {len : Nat} (hlen : M 0 3 = nI len) (hl9 : len ≤ 900) {p : Nat} (hp : M 0 4 = nI p) (hpl : p ≤ len) {i : Nat} (h10 : i < 10) : yM l D z yX8_takeWord cX8_takeWord 3 (some .boolean) 5 0 0 [.ref q, .ref (D.2.2.1 i)] n sh (sR 15 I q M) L (yF (some (.int (twM M len p i).1)) n sh (sR 15 I q (twM M len p i).2) L) (yno) := by
  refine yM_of (by decide) (Nat.le_of_ble_eq_true rfl) rfl ?_
  intro X hC hr hnm hRc hRs htb
  have hC : yC X D z cX8_takeWord RX8 3 5 := hC
  have sn := sN_lt i h10
  refine y_aload_n hC dX8_takeWord_0 rfl ?_
  refine y_callV1 hC (c_X8_isGood X.2.1 D z hQ) m_X8_65 rfl (yM_o hQ) (by decide) (Nat.le_of_ble_eq_true rfl) (Nat.zero_le _) (Nat.zero_le _) dX8_takeWord_1 ?_
  refine y_if_neB (tgt := 9) hC dX8_takeWord_4 (by decide) (fun c4 => ?_) (fun c4 => ?_)
  · refine y_aload_n hC dX8_takeWord_9 rfl ?_
    refine y_callV1 hC (c_X8_next X.2.1 D z hQ hlen hl9 hp hpl) m_X8_69 rfl (yM_o hQ) (by decide) (Nat.le_of_ble_eq_true rfl) (Nat.zero_le _) (Nat.zero_le _) dX8_takeWord_10 ?_
    have kl := skp_le (b := M 1) hpl
    refine y_pop hC dX8_takeWord_13 rfl ?_
    obtain ⟨s0, hs0⟩ : ∃ s0, s0 = skp (M 1) len p := ⟨_, rfl⟩
    rw [← hs0] at kl ⊢
    refine y_iconst (v := nI 0) hC dX8_takeWord_14 (by decide) ?_
    refine y_istore_n hC dX8_takeWord_15 (by decide) rfl ?_
    have lp16 : ∀ (f9 k : Nat) , k + f9 = (sN i) → (∀ q, q < k → bA (M 1) len (s0 + q) = sB i q) → Y X D z 3 n sh (sR 15 I q (posM M s0)) L 0 0 (yEnd X D z (yF (some (.int (twM M len p i).1)) n sh (sR 15 I q (twM M len p i).2) L) (yno) 0 0) 16 [some (.ref q), some (.ref (D.2.2.1 i)), some (.int (nI k))] [] := by
      intro f9
      induction f9 with
      | zero =>
        intro k hm hk
        refine y_iload_n hC dX8_takeWord_16 rfl ?_
        refine y_aload_n hC dX8_takeWord_17 rfl ?_
        refine y_callT hC h10 (c_J0_length_8abf5 X.2.1 D z h10) t_X8_73 rfl (by decide) (Nat.le_of_ble_eq_true rfl) (Nat.zero_le _) (Nat.zero_le _) dX8_takeWord_18 ?_
        refine y_icmp_ge (tgt := 48) hC dX8_takeWord_21 (by decide) (fun c21 => ?_) (fun c21 => absurd (nI_le (by omega) (by omega)) c21)
        refine y_iload_n hC dX8_takeWord_48 rfl ?_
        refine y_aload_n hC dX8_takeWord_49 rfl ?_
        refine y_callT hC h10 (c_J0_length_8abf5 X.2.1 D z h10) t_X8_73 rfl (by decide) (Nat.le_of_ble_eq_true rfl) (Nat.zero_le _) (Nat.zero_le _) dX8_takeWord_50 ?_
        refine y_icmp_lt (tgt := 76) hC dX8_takeWord_53 (by decide) (fun c53 => absurd (nI_lt2 c53) (by omega)) (fun c53 => ?_)
        refine y_aload_n hC dX8_takeWord_56 rfl ?_
        refine y_aload_n hC dX8_takeWord_57 rfl ?_
        refine y_getIR (w9 := 15) hC (by decide) (yM_o hQ) f_X8_48 rfl dX8_takeWord_58 ?_
        refine y_eqI (y := nI s0) up2_at ?_
        refine y_iload_n hC dX8_takeWord_61 rfl ?_
        refine y_iaddN hC dX8_takeWord_62 ?_
        refine y_callV1 hC (c_X8_byteAt X.2.1 D z (M := posM M s0) hQ hlen hl9 (j := s0 + k) (by omega)) m_X8_51 rfl (yM_o hQ) (by decide) (Nat.le_of_ble_eq_true rfl) (Nat.zero_le _) (Nat.zero_le _) dX8_takeWord_63 ?_
        refine y_bipush (v := 97) hC dX8_takeWord_66 (by decide) ?_
        refine y_bipush (v := 122) hC dX8_takeWord_68 (by decide) ?_
        refine y_callS1 hC (c_X8_in X.2.1 D z) m_X8_61 rfl (by decide) (Nat.le_of_ble_eq_true rfl) (Nat.zero_le _) (Nat.zero_le _) dX8_takeWord_70 ?_
        refine y_if_eqB (tgt := 78) hC dX8_takeWord_73 (by decide) (fun c73 => ?_) (fun c73 => ?_)
        · refine y_aload_n hC dX8_takeWord_78 rfl ?_
          refine y_dup hC dX8_takeWord_79 rfl ?_
          refine y_getIR (w9 := 15) hC (by decide) (yM_o hQ) f_X8_48 rfl dX8_takeWord_80 ?_
          refine y_eqI (y := nI s0) up2_at ?_
          refine y_iload_n hC dX8_takeWord_83 rfl ?_
          refine y_iaddN hC dX8_takeWord_84 ?_
          refine y_putIR (w9 := 15) hC (by decide) (yM_o hQ) f_X8_48 rfl (Or.inl rfl) dX8_takeWord_85 ?_
          refine y_iconst (v := 1) hC dX8_takeWord_88 (by decide) ?_
          exact y_iret hC hr rfl (Nat.zero_le _) (Nat.zero_le _) dX8_takeWord_89 (by
  rw [twM, ← hs0, if_neg (Decidable.not_not.mpr c4)]
  first
  | (rw [if_neg (fun q => c39 (q.1 k (by omega)))]; exact yF.mk rfl)
  | (obtain rfl : k = sN i := (by omega)
     first
     | (rw [if_neg (fun q => q.2 c73)]; exact yF.mk rfl)
     | (rw [if_pos ⟨hk, c73⟩, ← show up2 (posM M s0) 0 4 (nI (s0 + sN i)) = posM M (s0 + sN i) from up2_up2]; exact yF.mk rfl)))
        · refine y_iconst (v := 0) hC dX8_takeWord_76 (by decide) ?_
          exact y_iret hC hr rfl (Nat.zero_le _) (Nat.zero_le _) dX8_takeWord_77 (by
  rw [twM, ← hs0, if_neg (Decidable.not_not.mpr c4)]
  first
  | (rw [if_neg (fun q => c39 (q.1 k (by omega)))]; exact yF.mk rfl)
  | (obtain rfl : k = sN i := (by omega)
     first
     | (rw [if_neg (fun q => q.2 c73)]; exact yF.mk rfl)
     | (rw [if_pos ⟨hk, c73⟩, ← show up2 (posM M s0) 0 4 (nI (s0 + sN i)) = posM M (s0 + sN i) from up2_up2]; exact yF.mk rfl)))
      | succ f9 ih =>
        intro k hm hk
        refine y_iload_n hC dX8_takeWord_16 rfl ?_
        refine y_aload_n hC dX8_takeWord_17 rfl ?_
        refine y_callT hC h10 (c_J0_length_8abf5 X.2.1 D z h10) t_X8_73 rfl (by decide) (Nat.le_of_ble_eq_true rfl) (Nat.zero_le _) (Nat.zero_le _) dX8_takeWord_18 ?_
        refine y_icmp_ge (tgt := 48) hC dX8_takeWord_21 (by decide) (fun c21 => absurd c21 (nI_ge (by omega) (by omega))) (fun c21 => ?_)
        refine y_aload_n hC dX8_takeWord_24 rfl ?_
        refine y_aload_n hC dX8_takeWord_25 rfl ?_
        refine y_getIR (w9 := 15) hC (by decide) (yM_o hQ) f_X8_48 rfl dX8_takeWord_26 ?_
        refine y_eqI (y := nI s0) up2_at ?_
        refine y_iload_n hC dX8_takeWord_29 rfl ?_
        refine y_iaddN hC dX8_takeWord_30 ?_
        refine y_callV1 hC (c_X8_byteAt X.2.1 D z (M := posM M s0) hQ hlen hl9 (j := s0 + k) (by omega)) m_X8_51 rfl (yM_o hQ) (by decide) (Nat.le_of_ble_eq_true rfl) (Nat.zero_le _) (Nat.zero_le _) dX8_takeWord_31 ?_
        refine y_aload_n hC dX8_takeWord_34 rfl ?_
        refine y_iload_n hC dX8_takeWord_35 rfl ?_
        refine y_callT hC h10 (c_J0_charAt_5068e X.2.1 D z h10 (j := k) (by omega)) t_X8_78 rfl (by decide) (Nat.le_of_ble_eq_true rfl) (Nat.zero_le _) (Nat.zero_le _) dX8_takeWord_36 ?_
        refine y_icmp_ne (tgt := 48) hC dX8_takeWord_39 (by decide) (fun c39 => ?_) (fun c39 => ?_)
        · refine y_iload_n hC dX8_takeWord_48 rfl ?_
          refine y_aload_n hC dX8_takeWord_49 rfl ?_
          refine y_callT hC h10 (c_J0_length_8abf5 X.2.1 D z h10) t_X8_73 rfl (by decide) (Nat.le_of_ble_eq_true rfl) (Nat.zero_le _) (Nat.zero_le _) dX8_takeWord_50 ?_
          refine y_icmp_lt (tgt := 76) hC dX8_takeWord_53 (by decide) (fun c53 => ?_) (fun c53 => absurd (nI_lt (by omega) (by omega)) c53)
          refine y_iconst (v := 0) hC dX8_takeWord_76 (by decide) ?_
          exact y_iret hC hr rfl (Nat.zero_le _) (Nat.zero_le _) dX8_takeWord_77 (by
  rw [twM, ← hs0, if_neg (Decidable.not_not.mpr c4)]
  first
  | (rw [if_neg (fun q => c39 (q.1 k (by omega)))]; exact yF.mk rfl)
  | (obtain rfl : k = sN i := (by omega)
     first
     | (rw [if_neg (fun q => q.2 c73)]; exact yF.mk rfl)
     | (rw [if_pos ⟨hk, c73⟩, ← show up2 (posM M s0) 0 4 (nI (s0 + sN i)) = posM M (s0 + sN i) from up2_up2]; exact yF.mk rfl)))
        · refine y_iincN hC dX8_takeWord_42 rfl rfl (by decide) rfl ?_
          refine y_goto (tgt := 16) hC dX8_takeWord_45 (by decide) ?_
          exact ih (k + 1) (by omega) (fun q hq => by rcases Nat.lt_or_ge q k with h | h; exact hk q h; exact (show q = k by omega) ▸ c39)
    exact lp16 (sN i) 0 (Nat.zero_add _) (fun k hk => absurd hk (Nat.not_lt_zero _))
  · refine y_iconst (v := 0) hC dX8_takeWord_7 (by decide) ?_
    exact y_iret hC hr rfl (Nat.zero_le _) (Nat.zero_le _) dX8_takeWord_8 (by rw [twM, if_pos c4]; exact yF.mk rfl)
