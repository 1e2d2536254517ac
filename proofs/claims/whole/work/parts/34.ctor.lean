set_option maxRecDepth 100000 in
set_option maxHeartbeats 4000000 in
theorem c_X0_init (l : Launch) (D : yD) (z : Nat) {sh : yS} {I : yI} {L : yL} {i su : Nat} (ho : (sh i).1 = 0) (hz : I i = fun _ => 0) : yM l D z yX0_init cX0_init 2 none 1 13 244 [.ref i, .ref su] (i + 1) sh I L (fun v n2 sh2 I2 L2 => v = none ∧ n2 = i + 14 ∧ yBook sh2 i su ∧ (∀ k, k < 14 → I2 (i + k) = fun _ => 0) ∧ (∀ b, b < i → sh2 b = sh b) ∧ (∀ b, b < i → I2 b = I b) ∧ (∀ b, b < i → L2 b = L b)) (yno) := by
  refine yM_of (by decide) (Nat.le_of_ble_eq_true rfl) rfl ?_
  intro X hC hr hnm hRc hRs htb
  have hC : yC X D z cX0_init RX0 2 1 := hC
  refine y_aload_n hC dX0_init_0 rfl ?_
  refine y_objInit hC oi_X0 oi_inst oi_code (by decide) (Nat.le_of_ble_eq_true rfl) dX0_init_1 ?_
  refine y_aload_n hC dX0_init_4 rfl ?_
  refine y_aload_n hC dX0_init_5 rfl ?_
  refine y_putR hC (by simp [upr, va_up, up2, ho, Nat.add_assoc]) f_X0_9 rfl (by constructor <;> rfl) (Or.inl rfl) dX0_init_6 ?_
  refine y_aload_n hC dX0_init_9 rfl ?_
  refine y_iconst (v := nI 4) hC dX0_init_10 (by decide) ?_
  refine y_newarr (t := 10) (ti := 1) (N := 4) hC (Or.inr (Or.inl ⟨rfl, rfl, rfl⟩)) (by decide) (by decide) (by decide) ac_int (by rw [hRc]; decide) (by rw [hRs]; decide) dX0_init_11 ?_
  refine y_putR hC (by simp [upr, va_up, up2, ho, Nat.add_assoc]) f_X0_15 rfl (by constructor <;> rfl) (Or.inr ⟨hnm, fun _ _ _ h => yCls_own h kX0⟩) dX0_init_13 ?_
  refine y_aload_n hC dX0_init_16 rfl ?_
  refine y_iconst (v := nI 4) hC dX0_init_17 (by decide) ?_
  refine y_newarr (t := 10) (ti := 1) (N := 4) hC (Or.inr (Or.inl ⟨rfl, rfl, rfl⟩)) (by decide) (by decide) (by decide) ac_int (by rw [hRc]; decide) (by rw [hRs]; decide) dX0_init_18 ?_
  refine y_putR hC (by simp [upr, va_up, up2, ho, Nat.add_assoc]) f_X0_19 rfl (by constructor <;> rfl) (Or.inr ⟨hnm, fun _ _ _ h => yCls_own h kX0⟩) dX0_init_20 ?_
  refine y_aload_n hC dX0_init_23 rfl ?_
  refine y_bipush (v := nI 24) hC dX0_init_24 (by decide) ?_
  refine y_newarr (t := 10) (ti := 1) (N := 24) hC (Or.inr (Or.inl ⟨rfl, rfl, rfl⟩)) (by decide) (by decide) (by decide) ac_int (by rw [hRc]; decide) (by rw [hRs]; decide) dX0_init_26 ?_
  refine y_putR hC (by simp [upr, va_up, up2, ho, Nat.add_assoc]) f_X0_22 rfl (by constructor <;> rfl) (Or.inr ⟨hnm, fun _ _ _ h => yCls_own h kX0⟩) dX0_init_28 ?_
  refine y_aload_n hC dX0_init_31 rfl ?_
  refine y_bipush (v := nI 24) hC dX0_init_32 (by decide) ?_
  refine y_newarr (t := 10) (ti := 1) (N := 24) hC (Or.inr (Or.inl ⟨rfl, rfl, rfl⟩)) (by decide) (by decide) (by decide) ac_int (by rw [hRc]; decide) (by rw [hRs]; decide) dX0_init_34 ?_
  refine y_putR hC (by simp [upr, va_up, up2, ho, Nat.add_assoc]) f_X0_25 rfl (by constructor <;> rfl) (Or.inr ⟨hnm, fun _ _ _ h => yCls_own h kX0⟩) dX0_init_36 ?_
  refine y_aload_n hC dX0_init_39 rfl ?_
  refine y_bipush (v := nI 24) hC dX0_init_40 (by decide) ?_
  refine y_newarr (t := 10) (ti := 1) (N := 24) hC (Or.inr (Or.inl ⟨rfl, rfl, rfl⟩)) (by decide) (by decide) (by decide) ac_int (by rw [hRc]; decide) (by rw [hRs]; decide) dX0_init_42 ?_
  refine y_putR hC (by simp [upr, va_up, up2, ho, Nat.add_assoc]) f_X0_28 rfl (by constructor <;> rfl) (Or.inr ⟨hnm, fun _ _ _ h => yCls_own h kX0⟩) dX0_init_44 ?_
  refine y_aload_n hC dX0_init_47 rfl ?_
  refine y_bipush (v := nI 24) hC dX0_init_48 (by decide) ?_
  refine y_newarr (t := 10) (ti := 1) (N := 24) hC (Or.inr (Or.inl ⟨rfl, rfl, rfl⟩)) (by decide) (by decide) (by decide) ac_int (by rw [hRc]; decide) (by rw [hRs]; decide) dX0_init_50 ?_
  refine y_putR hC (by simp [upr, va_up, up2, ho, Nat.add_assoc]) f_X0_31 rfl (by constructor <;> rfl) (Or.inr ⟨hnm, fun _ _ _ h => yCls_own h kX0⟩) dX0_init_52 ?_
  refine y_aload_n hC dX0_init_55 rfl ?_
  refine y_bipush (v := nI 20) hC dX0_init_56 (by decide) ?_
  refine y_newarr (t := 10) (ti := 1) (N := 20) hC (Or.inr (Or.inl ⟨rfl, rfl, rfl⟩)) (by decide) (by decide) (by decide) ac_int (by rw [hRc]; decide) (by rw [hRs]; decide) dX0_init_58 ?_
  refine y_putR hC (by simp [upr, va_up, up2, ho, Nat.add_assoc]) f_X0_34 rfl (by constructor <;> rfl) (Or.inr ⟨hnm, fun _ _ _ h => yCls_own h kX0⟩) dX0_init_60 ?_
  refine y_aload_n hC dX0_init_63 rfl ?_
  refine y_bipush (v := nI 20) hC dX0_init_64 (by decide) ?_
  refine y_newarr (t := 10) (ti := 1) (N := 20) hC (Or.inr (Or.inl ⟨rfl, rfl, rfl⟩)) (by decide) (by decide) (by decide) ac_int (by rw [hRc]; decide) (by rw [hRs]; decide) dX0_init_66 ?_
  refine y_putR hC (by simp [upr, va_up, up2, ho, Nat.add_assoc]) f_X0_37 rfl (by constructor <;> rfl) (Or.inr ⟨hnm, fun _ _ _ h => yCls_own h kX0⟩) dX0_init_68 ?_
  refine y_aload_n hC dX0_init_71 rfl ?_
  refine y_bipush (v := nI 20) hC dX0_init_72 (by decide) ?_
  refine y_newarr (t := 10) (ti := 1) (N := 20) hC (Or.inr (Or.inl ⟨rfl, rfl, rfl⟩)) (by decide) (by decide) (by decide) ac_int (by rw [hRc]; decide) (by rw [hRs]; decide) dX0_init_74 ?_
  refine y_putR hC (by simp [upr, va_up, up2, ho, Nat.add_assoc]) f_X0_40 rfl (by constructor <;> rfl) (Or.inr ⟨hnm, fun _ _ _ h => yCls_own h kX0⟩) dX0_init_76 ?_
  refine y_aload_n hC dX0_init_79 rfl ?_
  refine y_bipush (v := nI 20) hC dX0_init_80 (by decide) ?_
  refine y_newarr (t := 10) (ti := 1) (N := 20) hC (Or.inr (Or.inl ⟨rfl, rfl, rfl⟩)) (by decide) (by decide) (by decide) ac_int (by rw [hRc]; decide) (by rw [hRs]; decide) dX0_init_82 ?_
  refine y_putR hC (by simp [upr, va_up, up2, ho, Nat.add_assoc]) f_X0_43 rfl (by constructor <;> rfl) (Or.inr ⟨hnm, fun _ _ _ h => yCls_own h kX0⟩) dX0_init_84 ?_
  refine y_aload_n hC dX0_init_87 rfl ?_
  refine y_bipush (v := nI 20) hC dX0_init_88 (by decide) ?_
  refine y_newarr (t := 10) (ti := 1) (N := 20) hC (Or.inr (Or.inl ⟨rfl, rfl, rfl⟩)) (by decide) (by decide) (by decide) ac_int (by rw [hRc]; decide) (by rw [hRs]; decide) dX0_init_90 ?_
  refine y_putR hC (by simp [upr, va_up, up2, ho, Nat.add_assoc]) f_X0_46 rfl (by constructor <;> rfl) (Or.inr ⟨hnm, fun _ _ _ h => yCls_own h kX0⟩) dX0_init_92 ?_
  refine y_aload_n hC dX0_init_95 rfl ?_
  refine y_bipush (v := nI 20) hC dX0_init_96 (by decide) ?_
  refine y_newarr (t := 10) (ti := 1) (N := 20) hC (Or.inr (Or.inl ⟨rfl, rfl, rfl⟩)) (by decide) (by decide) (by decide) ac_int (by rw [hRc]; decide) (by rw [hRs]; decide) dX0_init_98 ?_
  refine y_putR hC (by simp [upr, va_up, up2, ho, Nat.add_assoc]) f_X0_49 rfl (by constructor <;> rfl) (Or.inr ⟨hnm, fun _ _ _ h => yCls_own h kX0⟩) dX0_init_100 ?_
  refine y_aload_n hC dX0_init_103 rfl ?_
  refine y_bipush (v := nI 20) hC dX0_init_104 (by decide) ?_
  refine y_newarr (t := 10) (ti := 1) (N := 20) hC (Or.inr (Or.inl ⟨rfl, rfl, rfl⟩)) (by decide) (by decide) (by decide) ac_int (by rw [hRc]; decide) (by rw [hRs]; decide) dX0_init_106 ?_
  refine y_putR hC (by simp [upr, va_up, up2, ho, Nat.add_assoc]) f_X0_52 rfl (by constructor <;> rfl) (Or.inr ⟨hnm, fun _ _ _ h => yCls_own h kX0⟩) dX0_init_108 ?_
  exact y_vret hC hr (by decide) (by decide) dX0_init_111 ⟨rfl, rfl, by simp [yBook, yArr, upr, va_up, ho, Nat.add_assoc], fun k hk => by rcases (show k = 0 ∨ k = 1 ∨ k = 2 ∨ k = 3 ∨ k = 4 ∨ k = 5 ∨ k = 6 ∨ k = 7 ∨ k = 8 ∨ k = 9 ∨ k = 10 ∨ k = 11 ∨ k = 12 ∨ k = 13 by omega) with rfl | rfl | rfl | rfl | rfl | rfl | rfl | rfl | rfl | rfl | rfl | rfl | rfl | rfl <;> simp [va_up, hz, Nat.add_assoc], fun b hb => by have e0 : b ≠ i := (by omega); have e1 : ∀ j, b ≠ i + j := (fun j => by omega); simp [upr, va_up, up2, e0, e1, Nat.add_assoc], fun b hb => by have e0 : b ≠ i := (by omega); have e1 : ∀ j, b ≠ i + j := (fun j => by omega); simp [upr, va_up, up2, e0, e1, Nat.add_assoc], fun b hb => by have e0 : b ≠ i := (by omega); have e1 : ∀ j, b ≠ i + j := (fun j => by omega); simp [upr, va_up, up2, e0, e1, Nat.add_assoc]⟩
theorem max0 {c : Nat} (h : c < 2147483648) : (if nI 0 < nI c then nI c else nI 0) = nI c := by
  by_cases e : c = 0
  · subst e; simp
  · rw [if_pos (nI_lt (by omega) h)]
theorem c_add_at (l : Launch) (D : yD) (z : Nat) {n : Nat} {sh : yS} {J : yI} {L : yL} {f m : Nat} (hF : yFor sh f m) {len : Nat} {it : Int32} (hl : J f 2 = nI len) (hm : len < m) (hm2 : m < 2147483648) : yM l D z yX1_add cX1_add 2 none 0 0 0 [.ref f, .int it] n sh J L (yF none n sh (up2 (up2 J (f + 1) len it) f 2 (nI (len + 1))) L) (yno) := by
  have h := c_X1_add l D z (n := n) (I := J) (L := L) (F := gR J f) hF (it := it) (len := len) hl hm hm2
  rw [sR_get, ← sR_up0 (by decide), ← sR_up (by decide), sR_get] at h
  exact h
set_option maxRecDepth 100000 in
set_option maxHeartbeats 4000000 in
theorem c_X1_init (l : Launch) (D : yD) (z : Nat) {sh : yS} {I : yI} {L : yL} {i cap : Nat} (ho : (sh i).1 = 1) (hz : I i = fun _ => 0) (hcap : cap < 65536) : yM l D z yX1_init cX1_init 2 none 1 2 (cap + 11) [.ref i, .int (nI cap)] (i + 1) sh I L (fun v n2 sh2 I2 L2 => v = none ∧ n2 = i + 3 ∧ yFor sh2 i cap ∧ (∀ k, k < 3 → I2 (i + k) = fun _ => 0) ∧ (∀ b, b < i → sh2 b = sh b) ∧ (∀ b, b < i → I2 b = I b) ∧ (∀ b, b < i → L2 b = L b)) (yno) := by
  refine yM_of (by decide) (Nat.le_of_ble_eq_true rfl) rfl ?_
  intro X hC hr hnm hRc hRs htb
  have hC : yC X D z cX1_init RX1 2 1 := hC
  refine y_aload_n hC dX1_init_0 rfl ?_
  refine y_objInit hC oi_X1 oi_inst oi_code (by decide) (Nat.le_of_ble_eq_true rfl) dX1_init_1 ?_
  refine y_aload_n hC dX1_init_4 rfl ?_
  refine y_iconst (v := nI 0) hC dX1_init_5 (by decide) ?_
  refine y_iload_n hC dX1_init_6 rfl ?_
  refine y_mmax hC m_X1_7 (by decide) (Nat.le_of_ble_eq_true rfl) (Nat.zero_le _) (Nat.zero_le _) dX1_init_7 ?_
  rw [max0 (by omega)]
  refine y_newarr (t := 10) (ti := 1) (N := cap) hC (Or.inr (Or.inl ⟨rfl, rfl, rfl⟩)) (nI_pos (by omega)) (nI_clamp (by omega)) (by omega) ac_int (by rw [hRc]; omega) (by rw [hRs]; omega) dX1_init_10 ?_
  refine y_putR hC (by simp [upr, va_up, up2, ho, Nat.add_assoc]) f_X1_13 rfl (by constructor <;> rfl) (Or.inr ⟨hnm, fun _ _ _ h => yCls_own h kX1⟩) dX1_init_12 ?_
  refine y_aload_n hC dX1_init_15 rfl ?_
  refine y_bipush (v := nI 11) hC dX1_init_16 (by decide) ?_
  refine y_newarr (t := 10) (ti := 1) (N := 11) hC (Or.inr (Or.inl ⟨rfl, rfl, rfl⟩)) (by decide) (by decide) (by decide) ac_int (by rw [hRc]; omega) (by rw [hRs]; omega) dX1_init_18 ?_
  refine y_putR hC (by simp [upr, va_up, up2, ho, Nat.add_assoc]) f_X1_19 rfl (by constructor <;> rfl) (Or.inr ⟨hnm, fun _ _ _ h => yCls_own h kX1⟩) dX1_init_20 ?_
  exact y_vret hC hr (by omega) (by omega) dX1_init_23 ⟨rfl, rfl, by simp [yFor, yArr, upr, va_up, ho, Nat.add_assoc], fun k hk => by rcases (show k = 0 ∨ k = 1 ∨ k = 2 by omega) with rfl | rfl | rfl <;> simp [va_up, hz, Nat.add_assoc], fun b hb => by have e0 : b ≠ i := (by omega); have e1 : ∀ j, b ≠ i + j := (fun j => by omega); simp [upr, va_up, up2, e0, e1, Nat.add_assoc], fun b hb => by have e0 : b ≠ i := (by omega); have e1 : ∀ j, b ≠ i + j := (fun j => by omega); simp [upr, va_up, up2, e0, e1, Nat.add_assoc], fun b hb => by have e0 : b ≠ i := (by omega); have e1 : ∀ j, b ≠ i + j := (fun j => by omega); simp [upr, va_up, up2, e0, e1, Nat.add_assoc]⟩
set_option maxRecDepth 100000 in
set_option maxHeartbeats 4000000 in
theorem c_X4_init (l : Launch) (D : yD) (z : Nat) {sh : yS} {I : yI} {L : yL} {i : Nat} (ho : (sh i).1 = 4) (hz : I i = fun _ => 0) : yM l D z yX4_init cX4_init 1 none 2 9 63 [.ref i] (i + 1) sh I L (fun v n2 sh2 I2 L2 => v = none ∧ n2 = i + 10 ∧ ySet sh2 i (i + 1) ∧ yFor sh2 (i + 1) 1 ∧ (I2 i 0 = 1 ∧ I2 i 1 = 1 ∧ I2 i 2 = 0 ∧ I2 i 3 = 0 ∧ I2 i 4 = 100 ∧ I2 i 6 = 0) ∧ (I2 (i + 1) 2 = 1 ∧ I2 (i + 2) 0 = -1) ∧ (∀ b, b < i → sh2 b = sh b) ∧ (∀ b, b < i → I2 b = I b) ∧ (∀ b, b < i → L2 b = L b)) (yno) := by
  refine yM_of (by decide) (Nat.le_of_ble_eq_true rfl) rfl ?_
  intro X hC hr hnm hRc hRs htb
  have hC : yC X D z cX4_init RX4 1 2 := hC
  refine y_aload_n hC dX4_init_0 rfl ?_
  refine y_objInit hC oi_X4 oi_inst oi_code (by decide) (Nat.le_of_ble_eq_true rfl) dX4_init_1 ?_
  refine y_aload_n hC dX4_init_4 rfl ?_
  refine y_iconst (v := 1) hC dX4_init_5 (by decide) ?_
  refine y_putI hC (by simp [upr, va_up, up2, ho, Nat.add_assoc]) f_X4_9 rfl (Or.inl rfl) dX4_init_6 ?_
  refine y_aload_n hC dX4_init_9 rfl ?_
  refine y_iconst (v := 1) hC dX4_init_10 (by decide) ?_
  refine y_putI hC (by simp [upr, va_up, up2, ho, Nat.add_assoc]) f_X4_15 rfl (Or.inl rfl) dX4_init_11 ?_
  refine y_aload_n hC dX4_init_14 rfl ?_
  refine y_bipush (v := 100) hC dX4_init_15 (by decide) ?_
  refine y_putI hC (by simp [upr, va_up, up2, ho, Nat.add_assoc]) f_X4_18 rfl (Or.inl rfl) dX4_init_17 ?_
  refine y_aload_n hC dX4_init_20 rfl ?_
  refine y_new hC kX1 cl_X4_21 (by rw [hRc]; decide) (by rw [hRs]; decide) dX4_init_21 ?_
  refine y_dup hC dX4_init_24 rfl ?_
  refine y_iconst (v := nI 1) hC dX4_init_25 (by decide) ?_
  refine y_callI hC (c_X1_init X.2.1 D z (i := i + 1) (cap := 1) (by simp [va_up]) (by simp [va_up]) (by decide)) m_X4_23 rfl (by decide) (Nat.le_of_ble_eq_true rfl) ⟨(by rw [hRc]; decide), (by rw [hRs]; decide)⟩ dX4_init_26 (fun _ _ _ _ _ h => h.elim) (fun v9 n26 sh26 I26 L26 hq26 => ?_)
  obtain ⟨rfl, rfl, hF26, hr26, k26, j26, l26⟩ := hq26
  have ho26 : (sh26 i).1 = 4 := by rw [k26 i (by omega)]; simp [va_up, ho]
  have q0 : ∀ j, I26 i j = up2 (up2 (up2 I i 0 1) i 1 1) i 4 100 i j := fun j => by rw [j26 i (by omega)]; simp [va_up]
  have q1 : I26 (i + 1) = fun _ => 0 := hr26 0 (by decide)
  have q2 : I26 (i + 1 + 1) = fun _ => 0 := hr26 1 (by decide)
  have kk26 : ∀ b, b < i → sh26 b = sh b := fun b hb => by rw [k26 b (by omega)]; simp [va_up, show b ≠ i + 1 by omega]
  have jj26 : ∀ b, b < i → I26 b = I b := fun b hb => by rw [j26 b (by omega)]; simp [va_up, up2, show b ≠ i + 1 by omega, show b ≠ i by omega]
  have ll26 : ∀ b, b < i → L26 b = L b := fun b hb => by rw [l26 b (by omega)]; simp [va_up, show b ≠ i + 1 by omega]
  have hF27 := hF26
  obtain ⟨f1, f2, f3, f4, f5⟩ := hF27
  refine y_putR hC (by simp [upr, va_up, up2, ho26, Nat.add_assoc]) f_X4_26 rfl (by constructor <;> rfl) (Or.inl rfl) dX4_init_29 ?_
  refine y_aload_n hC dX4_init_32 rfl ?_
  refine y_getR (b := i + 1) hC (by simp [upr, va_up, up2, ho26, Nat.add_assoc]) (by simp [upr, va_up]) f_X4_26 rfl dX4_init_33 ?_
  refine y_iconst (v := (-1)) hC dX4_init_36 (by decide) ?_
  refine y_callV0 hC (c_add_at X.2.1 D z (f := i + 1) (m := 1) (len := 0) (by simp only [yFor, yArr] at f1 f2 f3 f4 f5 ⊢; simp [upr, va_up, Nat.add_assoc, f1, f2, f3, f4, f5]) (by rw [q1]; rfl) (by decide) (by decide)) m_X4_30 rfl (by simp [upr, va_up, f1]) (by decide) (Nat.le_of_ble_eq_true rfl) (by rw [hRc]; decide) (by rw [hRs]; decide) dX4_init_37 ?_
  refine y_aload_n hC dX4_init_40 rfl ?_
  refine y_bipush (v := nI 8) hC dX4_init_41 (by decide) ?_
  refine y_newarr (t := 10) (ti := 1) (N := 8) hC (Or.inr (Or.inl ⟨rfl, rfl, rfl⟩)) (by decide) (by decide) (by decide) ac_int (by rw [hRc]; decide) (by rw [hRs]; decide) dX4_init_43 ?_
  refine y_putR hC (by simp [upr, va_up, up2, ho26, Nat.add_assoc]) f_X4_33 rfl (by constructor <;> rfl) (Or.inr ⟨hnm, fun _ _ _ h => yCls_own h kX4⟩) dX4_init_45 ?_
  refine y_aload_n hC dX4_init_48 rfl ?_
  refine y_bipush (v := nI 8) hC dX4_init_49 (by decide) ?_
  refine y_newarr (t := 10) (ti := 1) (N := 8) hC (Or.inr (Or.inl ⟨rfl, rfl, rfl⟩)) (by decide) (by decide) (by decide) ac_int (by rw [hRc]; decide) (by rw [hRs]; decide) dX4_init_51 ?_
  refine y_putR hC (by simp [upr, va_up, up2, ho26, Nat.add_assoc]) f_X4_37 rfl (by constructor <;> rfl) (Or.inr ⟨hnm, fun _ _ _ h => yCls_own h kX4⟩) dX4_init_53 ?_
  refine y_aload_n hC dX4_init_56 rfl ?_
  refine y_bipush (v := nI 8) hC dX4_init_57 (by decide) ?_
  refine y_newarr (t := 10) (ti := 1) (N := 8) hC (Or.inr (Or.inl ⟨rfl, rfl, rfl⟩)) (by decide) (by decide) (by decide) ac_int (by rw [hRc]; decide) (by rw [hRs]; decide) dX4_init_59 ?_
  refine y_putR hC (by simp [upr, va_up, up2, ho26, Nat.add_assoc]) f_X4_40 rfl (by constructor <;> rfl) (Or.inr ⟨hnm, fun _ _ _ h => yCls_own h kX4⟩) dX4_init_61 ?_
  refine y_aload_n hC dX4_init_64 rfl ?_
  refine y_bipush (v := nI 8) hC dX4_init_65 (by decide) ?_
  refine y_newarr (t := 10) (ti := 1) (N := 8) hC (Or.inr (Or.inl ⟨rfl, rfl, rfl⟩)) (by decide) (by decide) (by decide) ac_int (by rw [hRc]; decide) (by rw [hRs]; decide) dX4_init_67 ?_
  refine y_putR hC (by simp [upr, va_up, up2, ho26, Nat.add_assoc]) f_X4_43 rfl (by constructor <;> rfl) (Or.inr ⟨hnm, fun _ _ _ h => yCls_own h kX4⟩) dX4_init_69 ?_
  refine y_aload_n hC dX4_init_72 rfl ?_
  refine y_bipush (v := nI 8) hC dX4_init_73 (by decide) ?_
  refine y_newarr (t := 10) (ti := 1) (N := 8) hC (Or.inr (Or.inl ⟨rfl, rfl, rfl⟩)) (by decide) (by decide) (by decide) ac_int (by rw [hRc]; decide) (by rw [hRs]; decide) dX4_init_75 ?_
  refine y_putR hC (by simp [upr, va_up, up2, ho26, Nat.add_assoc]) f_X4_46 rfl (by constructor <;> rfl) (Or.inr ⟨hnm, fun _ _ _ h => yCls_own h kX4⟩) dX4_init_77 ?_
  refine y_aload_n hC dX4_init_80 rfl ?_
  refine y_bipush (v := nI 8) hC dX4_init_81 (by decide) ?_
  refine y_newarr (t := 10) (ti := 1) (N := 8) hC (Or.inr (Or.inl ⟨rfl, rfl, rfl⟩)) (by decide) (by decide) (by decide) ac_int (by rw [hRc]; decide) (by rw [hRs]; decide) dX4_init_83 ?_
  refine y_putR hC (by simp [upr, va_up, up2, ho26, Nat.add_assoc]) f_X4_49 rfl (by constructor <;> rfl) (Or.inr ⟨hnm, fun _ _ _ h => yCls_own h kX4⟩) dX4_init_85 ?_
  exact y_vret hC hr (by decide) (by decide) dX4_init_88 ⟨rfl, rfl, by simp [ySet, yArr, upr, va_up, ho26, Nat.add_assoc], by simp only [yFor, yArr, Nat.add_assoc, Nat.reduceAdd] at f1 f2 f3 f4 f5 ⊢; simp [upr, va_up, f1, f2, f3, f4, f5], by simp [va_up, up2, q0, hz, upd, Nat.add_assoc], by simp [va_up, up2, q1, q2, upd, Nat.add_assoc]; decide, fun b hb => by have e0 : b ≠ i := (by omega); have e1 : ∀ j, b ≠ i + j := (fun j => by omega); simp [upr, va_up, e0, e1, Nat.add_assoc, kk26 b hb], fun b hb => by have e0 : b ≠ i := (by omega); have e1 : ∀ j, b ≠ i + j := (fun j => by omega); simp [up2, va_up, e0, e1, Nat.add_assoc, jj26 b hb], fun b hb => by have e0 : b ≠ i := (by omega); have e1 : ∀ j, b ≠ i + j := (fun j => by omega); simp [va_up, e0, e1, Nat.add_assoc, ll26 b hb]⟩
set_option maxRecDepth 100000 in
set_option maxHeartbeats 4000000 in
theorem c_X3_init (l : Launch) (D : yD) (z : Nat) {sh : yS} {I : yI} {L : yL} {i : Nat} (ho : (sh i).1 = 3) (hz : I i = fun _ => 0) : yM l D z yX3_init cX3_init 1 none 1 1 900 [.ref i] (i + 1) sh I L (fun v n2 sh2 I2 L2 => v = none ∧ n2 = i + 2 ∧ yInp sh2 i ∧ (∀ k, k < 2 → I2 (i + k) = fun _ => 0) ∧ (∀ b, b < i → sh2 b = sh b) ∧ (∀ b, b < i → I2 b = I b) ∧ (∀ b, b < i → L2 b = L b)) (yno) := by
  refine yM_of (by decide) (Nat.le_of_ble_eq_true rfl) rfl ?_
  intro X hC hr hnm hRc hRs htb
  have hC : yC X D z cX3_init RX3 1 1 := hC
  refine y_aload_n hC dX3_init_0 rfl ?_
  refine y_objInit hC oi_X3 oi_inst oi_code (by decide) (Nat.le_of_ble_eq_true rfl) dX3_init_1 ?_
  refine y_aload_n hC dX3_init_4 rfl ?_
  refine y_sipush (v := nI 900) hC dX3_init_5 (by decide) ?_
  refine y_newarr (t := 9) (ti := 0) (N := 900) hC (Or.inl ⟨rfl, rfl, rfl⟩) (by decide) (by decide) (by decide) ac_byte (by rw [hRc]; decide) (by rw [hRs]; decide) dX3_init_8 ?_
  refine y_putR hC (by simp [upr, va_up, up2, ho, Nat.add_assoc]) f_X3_9 rfl (by constructor <;> rfl) (Or.inr ⟨hnm, fun _ _ _ h => yCls_own h kX3⟩) dX3_init_10 ?_
  exact y_vret hC hr (by decide) (by decide) dX3_init_13 ⟨rfl, rfl, by simp [yInp, yArr, upr, va_up, ho, Nat.add_assoc], fun k hk => by rcases (show k = 0 ∨ k = 1 by omega) with rfl | rfl <;> simp [va_up, hz, Nat.add_assoc], fun b hb => by have e0 : b ≠ i := (by omega); have e1 : ∀ j, b ≠ i + j := (fun j => by omega); simp [upr, va_up, up2, e0, e1, Nat.add_assoc], fun b hb => by have e0 : b ≠ i := (by omega); have e1 : ∀ j, b ≠ i + j := (fun j => by omega); simp [upr, va_up, up2, e0, e1, Nat.add_assoc], fun b hb => by have e0 : b ≠ i := (by omega); have e1 : ∀ j, b ≠ i + j := (fun j => by omega); simp [upr, va_up, up2, e0, e1, Nat.add_assoc]⟩
