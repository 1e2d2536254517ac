theorem yBook.of {sh sh2 : yS} {i su : Nat} (h : yBook sh i su) (e : ∀ k, k < 14 → sh2 (i + k) = sh (i + k)) : yBook sh2 i su := by
  have e0 : sh2 i = sh i := e 0 (by decide)
  unfold yBook yArr at h ⊢
  rw [e0, e 1 (by decide), e 2 (by decide), e 3 (by decide), e 4 (by decide), e 5 (by decide), e 6 (by decide), e 7 (by decide), e 8 (by decide), e 9 (by decide), e 10 (by decide), e 11 (by decide), e 12 (by decide), e 13 (by decide)]
  exact h
theorem ySet.of {sh sh2 : yS} {a f : Nat} (h : ySet sh a f) (e : ∀ k, (k = 0 ∨ 4 ≤ k) → k < 10 → sh2 (a + k) = sh (a + k)) : ySet sh2 a f := by
  have e0 : sh2 a = sh a := e 0 (by decide) (by decide)
  unfold ySet yArr at h ⊢
  rw [e0, e 4 (by decide) (by decide), e 5 (by decide) (by decide), e 6 (by decide) (by decide), e 7 (by decide) (by decide), e 8 (by decide) (by decide), e 9 (by decide) (by decide)]
  exact h
theorem yFor.of {sh sh2 : yS} {f m : Nat} (h : yFor sh f m) (e : ∀ k, k < 3 → sh2 (f + k) = sh (f + k)) : yFor sh2 f m := by
  have e0 : sh2 f = sh f := e 0 (by decide)
  unfold yFor yArr at h ⊢
  rw [e0, e 1 (by decide), e 2 (by decide)]
  exact h
theorem yInp.of {sh sh2 : yS} {a : Nat} (h : yInp sh a) (e : ∀ k, k < 2 → sh2 (a + k) = sh (a + k)) : yInp sh2 a := by
  have e0 : sh2 a = sh a := e 0 (by decide)
  unfold yInp yArr at h ⊢
  rw [e0, e 1 (by decide)]
  exact h
theorem yHis.of {sh sh2 : yS} {h r b : Nat} (hh : yHis sh h r b) (e1 : sh2 h = sh h) (e2 : sh2 r = sh r) : yHis sh2 h r b := by
  unfold yHis yArr at hh ⊢
  rw [e1, e2]
  exact hh
set_option maxRecDepth 100000 in
set_option maxHeartbeats 4000000 in
theorem c_X2_init (l : Launch) (D : yD) (z : Nat) {sh : yS} {I : yI} {L : yL} {n i su : Nat} (hin : i < n) (ho : (sh i).1 = 2) (hz : I i = fun _ => 0) : yM l D z yX2_init cX2_init 3 none 2 136 2367 [.ref i, .ref su] n sh I L (fun v n2 sh2 I2 L2 => v = none ∧ n2 = n + 127 ∧ yHis sh2 i n (n + 1) ∧ (∀ q, q < 9 → yBook sh2 (n + 1 + 14 * q) su ∧ ∀ k, k < 14 → I2 (n + 1 + 14 * q + k) = fun _ => 0) ∧ (∀ b, b < n → b ≠ i → sh2 b = sh b) ∧ (∀ b, b < n → I2 b = I b) ∧ (∀ b, b < n → L2 b = L b)) (yno) := by
  refine yM_of (by decide) (Nat.le_of_ble_eq_true rfl) rfl ?_
  intro X hC hr hnm hRc hRs htb
  have hC : yC X D z cX2_init RX2 3 2 := hC
  generalize hsh9 : sh = sh9 at ho ⊢
  generalize hI9 : I = I9 at hz ⊢
  generalize hL9 : L = L9
  refine y_aload_n hC dX2_init_0 rfl ?_
  refine y_objInit hC oi_X2 oi_inst oi_code (by decide) (Nat.le_of_ble_eq_true rfl) dX2_init_1 ?_
  refine y_aload_n hC dX2_init_4 rfl ?_
  refine y_bipush (v := nI 9) hC dX2_init_5 (by decide) ?_
  refine y_anew12 (N := 9) hC (by decide) (by decide) (by decide) cl_X2_11 (by rw [hRc]; omega) (by rw [hRs]; first | omega | (show _ + 18 ≤ _; omega)) dX2_init_7 ?_
  refine y_putR hC (by simp [va_up, ho, show i ≠ n by omega]) f_X2_13 rfl (by constructor <;> rfl) (Or.inr ⟨hnm, fun _ _ _ h => yCls_own h kX2⟩) dX2_init_10 ?_
  refine y_iconst (v := nI 0) hC dX2_init_13 (by decide) ?_
  refine y_istore_n hC dX2_init_14 (by decide) rfl ?_
  have lp15 : ∀ (f9 j : Nat) (sh : yS) (I : yI) (L : yL), j + f9 = 9 → (∀ q, q < j → yBook sh (n + 1 + 14 * q) su ∧ (sh n).2.2 q = some (n + 1 + 14 * q) ∧ ∀ k, k < 14 → I (n + 1 + 14 * q + k) = fun _ => 0) ∧ (sh i).1 = 2 ∧ (sh i).2.2 0 = some n ∧ yArr sh n 12 9 ∧ (∀ b, b < n → b ≠ i → sh b = sh9 b) ∧ (∀ b, b < n → I b = I9 b) ∧ (∀ b, b < n → L b = L9 b) → Y X D z 3 (n + 1 + 14 * j) sh I L (1 + 15 * j) (9 + 262 * j) (yEnd X D z (fun v n2 sh2 I2 L2 => v = none ∧ n2 = n + 127 ∧ yHis sh2 i n (n + 1) ∧ (∀ q, q < 9 → yBook sh2 (n + 1 + 14 * q) su ∧ ∀ k, k < 14 → I2 (n + 1 + 14 * q + k) = fun _ => 0) ∧ (∀ b, b < n → b ≠ i → sh2 b = sh9 b) ∧ (∀ b, b < n → I2 b = I9 b) ∧ (∀ b, b < n → L2 b = L9 b)) (yno) 136 2367) 15 [some (.ref i), some (.ref su), some (.int (nI j))] [] := by
    intro f9
    induction f9 with
    | zero =>
      intro j sh I L hm hi
      refine y_iload_n hC dX2_init_15 rfl ?_
      refine y_bipush (v := nI 9) hC dX2_init_16 (by decide) ?_
      refine y_icmp_ge (tgt := 41) hC dX2_init_18 (by decide) (fun c18 => ?_) (fun c18 => absurd (nI_le (a := 9) (by omega) (by omega)) c18)
      exact y_vret hC hr (by omega) (by omega) dX2_init_41 ⟨rfl, by omega, ⟨hi.2.1, hi.2.2.1, hi.2.2.2.1, fun q hq => (hi.1 q (by omega)).2.1⟩, fun q hq => ⟨(hi.1 q (by omega)).1, (hi.1 q (by omega)).2.2⟩, hi.2.2.2.2.1, hi.2.2.2.2.2.1, hi.2.2.2.2.2.2⟩
    | succ f9 ih =>
      intro j sh I L hm hi
      refine y_iload_n hC dX2_init_15 rfl ?_
      refine y_bipush (v := nI 9) hC dX2_init_16 (by decide) ?_
      refine y_icmp_ge (tgt := 41) hC dX2_init_18 (by decide) (fun c18 => absurd (nI_le2 (a := 9) c18) (by omega)) (fun c18 => ?_)
      refine y_aload_n hC dX2_init_21 rfl ?_
      refine y_getR hC hi.2.1 hi.2.2.1 f_X2_13 rfl dX2_init_22 ?_
      refine y_iload_n hC dX2_init_25 rfl ?_
      refine y_new hC kX0 cl_X2_11 (by rw [hRc]; omega) (by rw [hRs]; first | omega | (show _ + 18 ≤ _; omega)) dX2_init_26 ?_
      refine y_dup hC dX2_init_29 rfl ?_
      refine y_aload_n hC dX2_init_30 rfl ?_
      refine y_callI hC (c_X0_init X.2.1 D z (i := n + 1 + 14 * j) (by simp [va_up]) (by simp [va_up])) m_X2_17 rfl (by decide) (Nat.le_of_ble_eq_true rfl) ⟨(by rw [hRc]; omega), (by rw [hRs]; show _ + 18 + _ ≤ _; omega)⟩ dX2_init_31 (fun _ _ _ _ _ h => h.elim) (fun v9 n31 sh31 I31 L31 hq31 => ?_)
      obtain ⟨rfl, rfl, hb31, r31, k31, j31, l31⟩ := hq31
      refine y_aast12 hC (a := n) (len := 9) ⟨by rw [k31 n (by omega)]; simp [va_up, hi.2.2.2.1.1, show n ≠ n + 1 + 14 * j by omega], by rw [k31 n (by omega)]; simp [va_up, hi.2.2.2.1.2, show n ≠ n + 1 + 14 * j by omega]⟩ hb31.1 (vp_in_nI (by omega) (by decide)) dX2_init_34 ?_
      rw [nI_clamp (by omega)]
      refine y_iincN hC dX2_init_35 rfl rfl (by decide) rfl ?_
      refine y_goto (tgt := 15) hC dX2_init_38 (by decide) ?_
      have hs1 : ∀ b, b < n + 1 + 14 * j → b ≠ n → upr sh31 n j (some (n + 1 + 14 * j)) b = sh b := fun b h1 h2 => by simp only [upr, va_up, if_neg h2]; rw [k31 b h1]; simp [va_up, show b ≠ n + 1 + 14 * j by omega]
      have hs2 : ∀ b, b < n + 1 + 14 * j → I31 b = I b := fun b h1 => by rw [j31 b h1]; simp [va_up, show b ≠ n + 1 + 14 * j by omega]
      have hs3 : ∀ b, b < n + 1 + 14 * j → L31 b = L b := fun b h1 => by rw [l31 b h1]; simp [va_up, show b ≠ n + 1 + 14 * j by omega]
      have hs4 : sh31 n = sh n := by rw [k31 n (by omega)]; simp [va_up, show n ≠ n + 1 + 14 * j by omega]
      refine y_widen (k2 := 1 + 15 * (j + 1)) (w2 := 9 + 262 * (j + 1)) (by omega) (by show _ + 18 + _ ≤ _; omega) ?_
      refine ih (j + 1) _ _ _ (by omega) ⟨fun q hq => ?_, ?_, ?_, ?_, fun b h1 h2 => ?_, fun b h1 => ?_, fun b h1 => ?_⟩
      · rcases Nat.lt_or_eq_of_le (Nat.le_of_lt_succ hq) with hq | hq
        · obtain ⟨g1, g2, g3⟩ := hi.1 q hq
          refine ⟨g1.of (fun k hk => hs1 _ (by omega) (by omega)), ?_, fun k hk => by rw [hs2 _ (by omega)]; exact g3 k hk⟩
          simp only [upr, va_up_self, hs4]
          rw [va_up_ne _ _ (by omega)]
          exact g2
        · subst hq
          refine ⟨hb31.of (fun k hk => by simp [upr, va_up, show n + 1 + 14 * q + k ≠ n by omega]), ?_, r31⟩
          simp only [upr, va_up_self]
      · rw [hs1 i (by omega) (by omega)]; exact hi.2.1
      · rw [hs1 i (by omega) (by omega)]; exact hi.2.2.1
      · simp only [yArr, upr, va_up_self, hs4]; exact hi.2.2.2.1
      · rw [hs1 b (by omega) (by omega)]; exact hi.2.2.2.2.1 b h1 h2
      · rw [hs2 b (by omega)]; exact hi.2.2.2.2.2.1 b h1
      · rw [hs3 b (by omega)]; exact hi.2.2.2.2.2.2 b h1
  exact lp15 9 0 _ _ _ (Nat.zero_add _) ⟨fun q hq => absurd hq (by omega), by simp [upr, va_up, ho, show i ≠ n by omega], by simp [upr, va_up], by simp [yArr, upr, va_up, show n ≠ i by omega], fun b h1 h2 => by simp [upr, va_up, h2, show b ≠ n by omega], fun b h1 => by simp [va_up, show b ≠ n by omega], fun b h1 => by simp [va_up, show b ≠ n by omega]⟩
