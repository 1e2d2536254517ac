set_option maxRecDepth 100000 in
set_option maxHeartbeats 4000000 in
theorem c_X7_init (l : Launch) (D : yD) (z : Nat) {sh : yS} {I : yI} {L : yL} {i : Nat} (ho : (sh i).1 = 7) (hz : I i = fun _ => 0) : yM l D z yX7_init cX7_init 1 none 3 150 3400 [.ref i] (i + 1) sh I L (fun v n2 sh2 I2 L2 => v = none ∧ n2 = i + 141 ∧ yCha sh2 i ∧ yInp sh2 (i + 1) ∧ yHis sh2 (i + 3) (i + 14) (i + 15) ∧ (∀ q, q < 9 → yBook sh2 (i + 15 + 14 * q) (i + 4) ∧ ∀ k, k < 14 → I2 (i + 15 + 14 * q + k) = fun _ => 0) ∧ (ySet sh2 (i + 4) (i + 5) ∧ yFor sh2 (i + 5) 1) ∧ (I2 (i + 4) 0 = 1 ∧ I2 (i + 4) 1 = 1 ∧ I2 (i + 4) 2 = 0 ∧ I2 (i + 4) 3 = 0 ∧ I2 (i + 4) 4 = 100 ∧ I2 (i + 4) 6 = 0) ∧ (I2 (i + 5) 2 = 1 ∧ I2 (i + 6) 0 = -1) ∧ (I2 i 2 = -1 ∧ I2 (i + 1) 1 = 0 ∧ I2 (i + 3) 1 = 0 ∧ I2 (i + 3) 2 = 0) ∧ (∀ b, b < i → sh2 b = sh b) ∧ (∀ b, b < i → I2 b = I b) ∧ (∀ b, b < i → L2 b = L b)) (yno) := by
  refine yM_of (by decide) (Nat.le_of_ble_eq_true rfl) rfl ?_
  intro X hC hr hnm hRc hRs htb
  have hC : yC X D z cX7_init RX7 1 3 := hC
  refine y_aload_n hC dX7_init_0 rfl ?_
  refine y_objInit hC oi_X7 oi_inst oi_code (by decide) (Nat.le_of_ble_eq_true rfl) dX7_init_1 ?_
  refine y_aload_n hC dX7_init_4 rfl ?_
  refine y_new hC kX3 cl_X7_7 (by rw [hRc]; decide) (by rw [hRs]; decide) dX7_init_5 ?_
  refine y_dup hC dX7_init_8 rfl ?_
  refine y_callI hC (c_X3_init X.2.1 D z (i := i + 1) (by simp [va_up]) (by simp [va_up])) m_X7_9 rfl (by decide) (Nat.le_of_ble_eq_true rfl) ⟨(by rw [hRc]; decide), (by rw [hRs]; decide)⟩ dX7_init_9 (fun _ _ _ _ _ h => h.elim) (fun v9 n9 sh9 I9 L9 hq9 => ?_)
  obtain ⟨rfl, rfl, hi9, r9, k9, j9, l9⟩ := hq9
  have m9 : ∀ b, b < i + 1 → sh9 b = sh b := fun b hb => by rw [k9 b (by omega)]; simp [va_up, show b ≠ i + 1 by omega]
  have m9i : ∀ b, b < i + 1 → I9 b = I b := fun b hb => by rw [j9 b (by omega)]; simp [va_up, show b ≠ i + 1 by omega]
  have m9l : ∀ b, b < i + 1 → L9 b = L b := fun b hb => by rw [l9 b (by omega)]; simp [va_up, show b ≠ i + 1 by omega]
  refine y_putR hC (by first | exact ho | (simp [upr, va_up, ho]; done) | (rw [m9 i (by omega)]; exact ho) | (simp [upr, va_up]; rw [m9 i (by omega)]; exact ho) | (rw [m27 i (by omega)]; simp [upr, va_up]; rw [m9 i (by omega)]; exact ho) | (simp only [upr, va_up_self]; rw [m27 i (by omega)]; simp [upr, va_up]; rw [m9 i (by omega)]; exact ho)) f_X7_10 rfl (by constructor <;> rfl) (Or.inr ⟨hnm, fun _ _ _ h => yCls_own h kX7⟩) dX7_init_12 ?_
  refine y_aload_n hC dX7_init_15 rfl ?_
  refine y_new hC kX2 cl_X7_16 (by rw [hRc]; decide) (by rw [hRs]; decide) dX7_init_16 ?_
  refine y_dup hC dX7_init_19 rfl ?_
  refine y_new hC kX4 cl_X7_18 (by rw [hRc]; decide) (by rw [hRs]; decide) dX7_init_20 ?_
  refine y_dup hC dX7_init_23 rfl ?_
  refine y_callI hC (c_X4_init X.2.1 D z (i := i + 4) (by simp [va_up, Nat.add_assoc]) (by simp [va_up, Nat.add_assoc])) m_X7_20 rfl (by decide) (Nat.le_of_ble_eq_true rfl) ⟨(by rw [hRc]; decide), (by rw [hRs]; decide)⟩ dX7_init_24 (fun _ _ _ _ _ h => h.elim) (fun v9 n24 sh24 I24 L24 hq24 => ?_)
  obtain ⟨rfl, rfl, hs24, hf24, v24, u24, k24, j24, l24⟩ := hq24
  have m24 : ∀ b, b < i + 3 → sh24 b = upr sh9 i 0 (some (i + 1)) b := fun b hb => by rw [k24 b (by omega)]; simp [va_up, show b ≠ i + 3 by omega, show b ≠ i + 4 by omega, Nat.add_assoc]
  have m24h : (sh24 (i + 3)).1 = 2 := by rw [k24 _ (by omega)]; simp [va_up, Nat.add_assoc]
  have m24i : ∀ b, b < i + 3 → I24 b = I9 b := fun b hb => by rw [j24 b (by omega)]; simp [va_up, show b ≠ i + 3 by omega, show b ≠ i + 4 by omega, Nat.add_assoc]
  have m24z : I24 (i + 3) = fun _ => 0 := by rw [j24 _ (by omega)]; simp [va_up, Nat.add_assoc]
  have m24l : ∀ b, b < i + 3 → L24 b = L9 b := fun b hb => by rw [l24 b (by omega)]; simp [va_up, show b ≠ i + 3 by omega, show b ≠ i + 4 by omega, Nat.add_assoc]
  refine y_callI hC (c_X2_init X.2.1 D z (n := i + 14) (i := i + 3) (su := i + 4) (by omega) m24h m24z) m_X7_21 rfl (by decide) (Nat.le_of_ble_eq_true rfl) ⟨(by rw [hRc]; decide), (by rw [hRs]; decide)⟩ dX7_init_27 (fun _ _ _ _ _ h => h.elim) (fun v9 n27 sh27 I27 L27 hq27 => ?_)
  obtain ⟨rfl, rfl, hh27, hb27, k27, j27, l27⟩ := hq27
  have m27 : ∀ b, b < i + 3 → sh27 b = upr sh9 i 0 (some (i + 1)) b := fun b hb => by rw [k27 b (by omega) (by omega)]; exact m24 b hb
  refine y_putR hC (by first | exact ho | (simp [upr, va_up, ho]; done) | (rw [m9 i (by omega)]; exact ho) | (simp [upr, va_up]; rw [m9 i (by omega)]; exact ho) | (rw [m27 i (by omega)]; simp [upr, va_up]; rw [m9 i (by omega)]; exact ho) | (simp only [upr, va_up_self]; rw [m27 i (by omega)]; simp [upr, va_up]; rw [m9 i (by omega)]; exact ho)) f_X7_24 rfl (by constructor <;> rfl) (Or.inr ⟨hnm, fun _ _ _ h => yCls_own h kX7⟩) dX7_init_30 ?_
  refine y_aload_n hC dX7_init_33 rfl ?_
  refine y_iconst (v := (-1)) hC dX7_init_34 (by decide) ?_
  refine y_putI hC (by first | exact ho | (simp [upr, va_up, ho]; done) | (rw [m9 i (by omega)]; exact ho) | (simp [upr, va_up]; rw [m9 i (by omega)]; exact ho) | (rw [m27 i (by omega)]; simp [upr, va_up]; rw [m9 i (by omega)]; exact ho) | (simp only [upr, va_up_self]; rw [m27 i (by omega)]; simp [upr, va_up]; rw [m9 i (by omega)]; exact ho)) f_X7_28 rfl (Or.inl rfl) dX7_init_35 ?_
  exact y_vret hC hr (by decide) (by decide) dX7_init_38 (by
      have hne : ∀ b, b ≠ i → ∀ v, upr sh27 i 1 v b = sh27 b := fun b hb v => va_up_ne _ _ hb
      have hnI : ∀ b, b ≠ i → ∀ v, up2 I27 i 2 v b = I27 b := fun b hb v => va_up_ne _ _ hb
      have hi0 : sh27 i = upr sh9 i 0 (some (i + 1)) i := m27 i (by omega)
      refine ⟨rfl, rfl, ?_, ?_, ?_, ?_, ?_, ?_, ?_, ?_, ?_, ?_, ?_⟩
      · have h9 : (sh9 i).1 = 7 := by rw [m9 i (by omega)]; exact ho
        simp [yCha, upr, va_up, hi0, h9]
      · exact hi9.of (fun k hk => by rw [hne _ (by omega), m27 _ (by omega)]; exact va_up_ne _ _ (by omega))
      · exact hh27.of (hne _ (by omega) _) (hne _ (by omega) _)
      · exact fun q hq => ⟨(hb27 q hq).1.of (fun k hk => hne _ (by omega) _), fun k hk => by rw [hnI _ (by omega)]; exact (hb27 q hq).2 k hk⟩
      · refine ⟨hs24.of (fun k h1 h2 => ?_), hf24.of (fun k h1 => ?_)⟩
        · rw [hne _ (by omega), k27 _ (by omega) (by omega)]
        · rw [hne _ (by omega), k27 _ (by omega) (by omega)]
      · rw [hnI _ (by omega), j27 _ (by omega)]; exact v24
      · rw [hnI _ (by omega), hnI _ (by omega), j27 _ (by omega), j27 _ (by omega)]; exact u24
      · refine ⟨by simp [up2, va_up, upd], ?_, ?_, ?_⟩
        · rw [hnI _ (by omega), j27 _ (by omega), m24i _ (by omega)]; exact congrFun (r9 0 (by decide)) 1
        · rw [hnI _ (by omega), j27 _ (by omega), m24z]
        · rw [hnI _ (by omega), j27 _ (by omega), m24z]
      · exact fun b hb => by rw [hne _ (by omega), m27 _ (by omega)]; simp [upr, va_up, show b ≠ i by omega, m9 b (by omega)]
      · exact fun b hb => by rw [hnI _ (by omega), j27 _ (by omega), m24i _ (by omega), m9i _ (by omega)]
      · exact fun b hb => by rw [l27 _ (by omega), m24l _ (by omega), m9l _ (by omega)])
