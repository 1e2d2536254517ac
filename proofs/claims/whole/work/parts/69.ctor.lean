set_option maxRecDepth 100000 in
set_option maxHeartbeats 4000000 in
theorem c_X5_init (l : Launch) (D : yD) (z : Nat) {sh : yS} {I : yI} {L : yL} {i t a : Nat} (ho : (sh i).1 = 5) (hia : i < a) : yM l D z yX5_init cX5_init 2 none 3 10 76 [.ref i, .ref t] a sh I L (fun v n2 sh2 I2 L2 => v = none ∧ n2 = a + 10 ∧ ((sh2 i).1 = 5 ∧ (sh2 i).2.2 0 = some t ∧ (sh2 i).2.2 1 = some a) ∧ ySet sh2 a (a + 1) ∧ yFor sh2 (a + 1) 1 ∧ (I2 a 0 = 1 ∧ I2 a 1 = 1 ∧ I2 a 2 = 0 ∧ I2 a 3 = 0 ∧ I2 a 4 = 100 ∧ I2 a 6 = 0) ∧ (I2 (a + 1) 2 = 1 ∧ I2 (a + 2) 0 = -1) ∧ (∀ b, b < a → b ≠ i → sh2 b = sh b) ∧ (∀ b, b < a → I2 b = I b) ∧ (∀ b, b < a → L2 b = L b)) (yno) := by
  refine yM_of (by decide) (Nat.le_of_ble_eq_true rfl) rfl ?_
  intro X hC hr hnm hRc hRs htb
  have hC : yC X D z cX5_init RX5 2 3 := hC
  refine y_aload_n hC dX5_init_0 rfl ?_
  refine y_objInit hC oi_X5 oi_inst oi_code (by decide) (Nat.le_of_ble_eq_true rfl) dX5_init_1 ?_
  refine y_aload_n hC dX5_init_4 rfl ?_
  refine y_aload_n hC dX5_init_5 rfl ?_
  refine y_putR hC (by simp [upr, va_up, ho, show i ≠ a by omega]) f_X5_9 rfl (by constructor <;> rfl) (Or.inr ⟨hnm, fun _ _ _ h => yCls_own h kX5⟩) dX5_init_6 ?_
  refine y_aload_n hC dX5_init_9 rfl ?_
  refine y_new hC kX4 cl_X5_15 (by rw [hRc]; decide) (by rw [hRs]; decide) dX5_init_10 ?_
  refine y_dup hC dX5_init_13 rfl ?_
  refine y_callI hC (c_X4_init X.2.1 D z (i := a) (by simp [va_up]) (by simp [va_up])) m_X5_17 rfl (by decide) (Nat.le_of_ble_eq_true rfl) ⟨by rw [hRc]; decide, by rw [hRs]; decide⟩ dX5_init_14 (fun _ _ _ _ _ h => h.elim) (fun v9 n14 sh14 I14 L14 hq14 => ?_)
  obtain ⟨rfl, rfl, hS14, hF14, hA14, hB14, k14, j14, l14⟩ := hq14
  refine y_putR hC (by rw [k14 i (by omega)]; simp [upr, va_up, ho, show i ≠ a by omega]) f_X5_18 rfl (by constructor <;> rfl) (Or.inr ⟨hnm, fun _ _ _ h => yCls_own h kX5⟩) dX5_init_17 ?_
  exact y_vret hC hr (by decide) (by decide) dX5_init_20 ⟨rfl, rfl, ⟨by simp [upr, va_up]; rw [k14 i (by omega)]; simp [upr, va_up, ho, show i ≠ a by omega], by simp [upr, va_up]; rw [k14 i (by omega)]; simp [upr, va_up, show i ≠ a by omega], by simp [upr, va_up]⟩, hS14.of (fun k h1 h2 => va_up_ne _ _ (by omega)), hF14.of (fun k h2 => va_up_ne _ _ (by omega)), hA14, hB14, fun b hb hbi => by rw [show upr sh14 i 1 (some a) b = sh14 b from va_up_ne _ _ hbi, k14 b hb]; simp [upr, va_up, hbi, show b ≠ a by omega], fun b hb => by rw [j14 b hb]; simp [va_up, show b ≠ a by omega], fun b hb => by rw [l14 b hb]; simp [va_up, show b ≠ a by omega]⟩
