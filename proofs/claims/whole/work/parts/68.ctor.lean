theorem min9 {w : Nat} (h : w ≤ 900) : (if nI 900 < nI w then nI 900 else nI w) = nI w := by rw [if_neg (nI_nlt h (by omega))]
set_option maxRecDepth 100000 in
set_option maxHeartbeats 4000000 in
theorem c_X6_init (l : Launch) (D : yD) (z : Nat) {sh : yS} {I : yI} {L : yL} {i b w : Nat} (ho : (sh i).1 = 6) (hz : I i = fun _ => 0) (hb : yArr sh b 9 900) (hbi : b < i) (hw : w ≤ 900) : yM l D z yX6_init cX6_init 3 none 1 3 2703 [.ref i, .ref b, .int (nI w)] (i + 1) sh I L (fun v n2 sh2 I2 L2 => v = none ∧ n2 = i + 4 ∧ yTok sh2 i b (w + 1) 900 ∧ (I2 i 1 = nI w ∧ I2 i 5 = 0) ∧ (∀ k, k < 3 → I2 (i + 1 + k) = fun _ => 0) ∧ (∀ b, b < i → sh2 b = sh b) ∧ (∀ b, b < i → I2 b = I b) ∧ (∀ b, b < i → L2 b = L b)) (yno) := by
  refine yM_of (by decide) (Nat.le_of_ble_eq_true rfl) rfl ?_
  intro X hC hr hnm hRc hRs htb
  have hC : yC X D z cX6_init RX6 3 1 := hC
  refine y_aload_n hC dX6_init_0 rfl ?_
  refine y_objInit hC oi_X6 oi_inst oi_code (by decide) (Nat.le_of_ble_eq_true rfl) dX6_init_1 ?_
  refine y_aload_n hC dX6_init_4 rfl ?_
  refine y_aload_n hC dX6_init_5 rfl ?_
  refine y_putR hC (by simp [upr, va_up, up2, ho, Nat.add_assoc]) f_X6_7 rfl (by constructor <;> rfl) (Or.inr ⟨hnm, fun _ _ _ h => yCls_own h kX6⟩) dX6_init_6 ?_
  have hb2 : yArr (upr sh i 0 (some b)) b 9 900 := by unfold yArr upr; rw [va_up_ne _ _ (by omega)]; exact hb
  refine y_aload_n hC dX6_init_9 rfl ?_
  refine y_iconst (v := nI 0) hC dX6_init_10 (by decide) ?_
  refine y_iload_n hC dX6_init_11 rfl ?_
  refine y_aload_n hC dX6_init_12 rfl ?_
  refine y_alen hC hb2 (by decide) rfl dX6_init_13 ?_
  refine y_mmin hC m_X6_13 (by decide) (Nat.le_of_ble_eq_true rfl) (Nat.zero_le _) (Nat.zero_le _) dX6_init_14 ?_
  refine y_eqI (y := nI w) (min9 hw) ?_
  refine y_mmax hC m_X6_19 (by decide) (Nat.le_of_ble_eq_true rfl) (Nat.zero_le _) (Nat.zero_le _) dX6_init_17 ?_
  rw [max0 (by omega)]
  refine y_putI hC (by simp [upr, va_up, up2, ho, Nat.add_assoc]) f_X6_22 rfl (Or.inr ⟨hnm, fun _ _ _ h => yCls_own h kX6⟩) dX6_init_20 ?_
  refine y_aload_n hC dX6_init_23 rfl ?_
  refine y_aload_n hC dX6_init_24 rfl ?_
  refine y_getI hC (by simp [upr, va_up, up2, ho, Nat.add_assoc]) f_X6_22 rfl dX6_init_25 ?_
  refine y_eqI (y := nI w) (by simp [up2, va_up, upd]) ?_
  refine y_iconst (v := nI 1) hC dX6_init_28 (by decide) ?_
  refine y_iaddN hC dX6_init_29 ?_
  refine y_newarr (t := 10) (ti := 1) (N := (w + 1)) hC (Or.inr (Or.inl ⟨rfl, rfl, rfl⟩)) (nI_pos (by omega)) (nI_clamp (by omega)) (by omega) ac_int (by rw [hRc]; omega) (by rw [hRs]; omega) dX6_init_30 ?_
  refine y_putR hC (by simp [upr, va_up, up2, ho, Nat.add_assoc]) f_X6_26 rfl (by constructor <;> rfl) (Or.inr ⟨hnm, fun _ _ _ h => yCls_own h kX6⟩) dX6_init_32 ?_
  refine y_aload_n hC dX6_init_35 rfl ?_
  refine y_aload_n hC dX6_init_36 rfl ?_
  refine y_getI hC (by simp [upr, va_up, up2, ho, Nat.add_assoc]) f_X6_22 rfl dX6_init_37 ?_
  refine y_eqI (y := nI w) (by simp [up2, va_up, upd]) ?_
  refine y_iconst (v := nI 1) hC dX6_init_40 (by decide) ?_
  refine y_iaddN hC dX6_init_41 ?_
  refine y_newarr (t := 10) (ti := 1) (N := (w + 1)) hC (Or.inr (Or.inl ⟨rfl, rfl, rfl⟩)) (nI_pos (by omega)) (nI_clamp (by omega)) (by omega) ac_int (by rw [hRc]; omega) (by rw [hRs]; omega) dX6_init_42 ?_
  refine y_putR hC (by simp [upr, va_up, up2, ho, Nat.add_assoc]) f_X6_30 rfl (by constructor <;> rfl) (Or.inr ⟨hnm, fun _ _ _ h => yCls_own h kX6⟩) dX6_init_44 ?_
  refine y_aload_n hC dX6_init_47 rfl ?_
  refine y_aload_n hC dX6_init_48 rfl ?_
  refine y_getI hC (by simp [upr, va_up, up2, ho, Nat.add_assoc]) f_X6_22 rfl dX6_init_49 ?_
  refine y_eqI (y := nI w) (by simp [up2, va_up, upd, Nat.add_assoc]) ?_
  refine y_iconst (v := nI 1) hC dX6_init_52 (by decide) ?_
  refine y_iaddN hC dX6_init_53 ?_
  refine y_newarr (t := 10) (ti := 1) (N := (w + 1)) hC (Or.inr (Or.inl ⟨rfl, rfl, rfl⟩)) (nI_pos (by omega)) (nI_clamp (by omega)) (by omega) ac_int (by rw [hRc]; omega) (by rw [hRs]; omega) dX6_init_54 ?_
  refine y_putR hC (by simp [upr, va_up, up2, ho, Nat.add_assoc]) f_X6_33 rfl (by constructor <;> rfl) (Or.inr ⟨hnm, fun _ _ _ h => yCls_own h kX6⟩) dX6_init_56 ?_
  exact y_vret hC hr (by omega) (by omega) dX6_init_59 ⟨rfl, rfl, by have e0 : b ≠ i := (by omega); have e1 : ∀ j, b ≠ i + j := (fun j => by omega); simp only [yArr] at hb; simp [yTok, yArr, upr, va_up, ho, hb, e0, e1, Nat.add_assoc], by simp [va_up, up2, upd, hz, Nat.add_assoc], fun k hk => by rcases (show k = 0 ∨ k = 1 ∨ k = 2 by omega) with rfl | rfl | rfl <;> simp [va_up, up2, upd, hz, Nat.add_assoc], fun b hb => by have e0 : b ≠ i := (by omega); have e1 : ∀ j, b ≠ i + j := (fun j => by omega); simp [upr, va_up, up2, e0, e1, Nat.add_assoc], fun b hb => by have e0 : b ≠ i := (by omega); have e1 : ∀ j, b ≠ i + j := (fun j => by omega); simp [upr, va_up, up2, e0, e1, Nat.add_assoc], fun b hb => by have e0 : b ≠ i := (by omega); have e1 : ∀ j, b ≠ i + j := (fun j => by omega); simp [upr, va_up, up2, e0, e1, Nat.add_assoc]⟩
