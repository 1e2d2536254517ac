section RowsA
variable {X : yX} {D : yD} {z nL n : Nat} {sh : yS} {I : yI} {L : yL} {k w : Nat} {Q : State → Prop} {pc : Nat} {lv : List (Option Value)} {st : List Value} {cc : ByteArray} {own : String} {dep : Nat} {a len : Nat} {d : Nat → Int32}
theorem up2_va {I : yI} {a j : Nat} {d : Nat → Int32} {v : Int32} : up2 (va_up I a d) a j v = va_up I a (upd d j v) := by
  unfold up2
  rw [bx_uu, show va_up I a d a = d by simp [va_up]]
theorem y_ialdA (hC : yC X D z cc own nL dep) {x : Int32} (ha : yArr sh a 10 len) (hin : vp_in x len) (hd : decode cc pc = .ok (.iaload, 1)) (kk : Y X D z nL n sh (va_up I a d) L k w Q (pc + 1) lv (.int (d (tn x)) :: st)) : Y X D z nL n sh (va_up I a d) L k w Q pc lv (.int x :: .ref a :: st) := y_iald hC ha hin hd (by rw [show va_up I a d a = d by simp [va_up]]; exact kk)
theorem y_ialdAN (hC : yC X D z cc own nL dep) {j : Nat} (ha : yArr sh a 10 len) (hj : j < len ∧ len < 2147483648) (hd : decode cc pc = .ok (.iaload, 1)) (kk : Y X D z nL n sh (va_up I a d) L k w Q (pc + 1) lv (.int (d j) :: st)) : Y X D z nL n sh (va_up I a d) L k w Q pc lv (.int (nI j) :: .ref a :: st) := y_ialdN hC ha hj hd (by rw [show va_up I a d a = d by simp [va_up]]; exact kk)
theorem y_iastA (hC : yC X D z cc own nL dep) {x v : Int32} (ha : yArr sh a 10 len) (hin : vp_in x len) (hd : decode cc pc = .ok (.iastore, 1)) (kk : Y X D z nL n sh (va_up I a (upd d (tn x) v)) L k w Q (pc + 1) lv st) : Y X D z nL n sh (va_up I a d) L k w Q pc lv (.int v :: .int x :: .ref a :: st) := y_iast hC ha hin hd (by rw [up2_va]; exact kk)
theorem y_iastAN (hC : yC X D z cc own nL dep) {j : Nat} {v : Int32} (ha : yArr sh a 10 len) (hj : j < len ∧ len < 2147483648) (hd : decode cc pc = .ok (.iastore, 1)) (kk : Y X D z nL n sh (va_up I a (upd d j v)) L k w Q (pc + 1) lv st) : Y X D z nL n sh (va_up I a d) L k w Q pc lv (.int v :: .int (nI j) :: .ref a :: st) := y_iastN hC ha hj hd (by rw [up2_va]; exact kk)
end RowsA
set_option maxRecDepth 100000 in
set_option maxHeartbeats 4000000 in
theorem c_X8_in (l : Launch) (D : yD) (z : Nat) {n : Nat} {sh : yS} {I : yI} {L : yL} {x lo hi : Int32} : yM l D z yX8_in cX8_in 3 (some .boolean) 0 0 0 [.int x, .int lo, .int hi] n sh I L (yF (some (.int (b2i (¬ x < lo ∧ x ≤ hi)))) n sh I L) (yno) := by
  refine yM_of (by decide) (Nat.le_of_ble_eq_true rfl) rfl ?_
  intro X hC hr hnm hRc hRs htb
  have hC : yC X D z cX8_in RX8 3 0 := hC
  refine y_iload_n hC dX8_in_0 rfl ?_
  refine y_iload_n hC dX8_in_1 rfl ?_
  refine y_icmp_lt (tgt := 14) hC dX8_in_2 (by decide) (fun c2 => ?_) (fun c2 => ?_)
  · refine y_iconst (v := 0) hC dX8_in_14 (by decide) ?_
    exact y_iret hC hr rfl (Nat.zero_le _) (Nat.zero_le _) dX8_in_15 (by first | exact yF.t ⟨c2, Int32.not_lt.mp c7⟩ | exact yF.f (fun q => (Int32.not_lt.mpr q.2) c7) | exact yF.f (fun q => q.1 c2))
  · refine y_iload_n hC dX8_in_5 rfl ?_
    refine y_iload_n hC dX8_in_6 rfl ?_
    refine y_icmp_gt (tgt := 14) hC dX8_in_7 (by decide) (fun c7 => ?_) (fun c7 => ?_)
    · refine y_iconst (v := 0) hC dX8_in_14 (by decide) ?_
      exact y_iret hC hr rfl (Nat.zero_le _) (Nat.zero_le _) dX8_in_15 (by first | exact yF.t ⟨c2, Int32.not_lt.mp c7⟩ | exact yF.f (fun q => (Int32.not_lt.mpr q.2) c7) | exact yF.f (fun q => q.1 c2))
    · refine y_iconst (v := nI 1) hC dX8_in_10 (by decide) ?_
      refine y_goto (tgt := 15) hC dX8_in_11 (by decide) ?_
      exact y_iret hC hr rfl (Nat.zero_le _) (Nat.zero_le _) dX8_in_15 (by first | exact yF.t ⟨c2, Int32.not_lt.mp c7⟩ | exact yF.f (fun q => (Int32.not_lt.mpr q.2) c7) | exact yF.f (fun q => q.1 c2))
set_option maxRecDepth 100000 in
set_option maxHeartbeats 4000000 in
theorem c_X8_min (l : Launch) (D : yD) (z : Nat) {n : Nat} {sh : yS} {I : yI} {L : yL} {x y : Int32} : yM l D z yX8_min cX8_min 2 (some .int) 0 0 0 [.int x, .int y] n sh I L (yF (some (.int (if y ≤ x then y else x))) n sh I L) (yno) := by
  refine yM_of (by decide) (Nat.le_of_ble_eq_true rfl) rfl ?_
  intro X hC hr hnm hRc hRs htb
  have hC : yC X D z cX8_min RX8 2 0 := hC
  refine y_iload_n hC dX8_min_0 rfl ?_
  refine y_iload_n hC dX8_min_1 rfl ?_
  refine y_icmp_ge (tgt := 9) hC dX8_min_2 (by decide) (fun c2 => ?_) (fun c2 => ?_)
  · refine y_iload_n hC dX8_min_9 rfl ?_
    exact y_iret hC hr rfl (Nat.zero_le _) (Nat.zero_le _) dX8_min_10 (by first | (rw [if_pos c2]; exact yF.mk rfl) | (rw [if_neg c2]; exact yF.mk rfl))
  · refine y_iload_n hC dX8_min_5 rfl ?_
    refine y_goto (tgt := 10) hC dX8_min_6 (by decide) ?_
    exact y_iret hC hr rfl (Nat.zero_le _) (Nat.zero_le _) dX8_min_10 (by first | (rw [if_pos c2]; exact yF.mk rfl) | (rw [if_neg c2]; exact yF.mk rfl))
set_option maxRecDepth 100000 in
set_option maxHeartbeats 4000000 in
theorem c_X8_reason (l : Launch) (D : yD) (z : Nat) {n : Nat} {sh : yS} {I : yI} {L : yL} {x : Int32} {j : Nat} (hx : x = nI j) : yM l D z yX8_reason cX8_reason 1 (some .int) 0 0 0 [.int x] n sh I L (yF (some (.int (nI (20 + 6 * j)))) n sh I L) (yno) := by
  subst hx
  refine yM_of (by decide) (Nat.le_of_ble_eq_true rfl) rfl ?_
  intro X hC hr hnm hRc hRs htb
  have hC : yC X D z cX8_reason RX8 1 0 := hC
  refine y_bipush (v := nI 20) hC dX8_reason_0 (by decide) ?_
  refine y_bipush (v := nI 6) hC dX8_reason_2 (by decide) ?_
  refine y_iload_n hC dX8_reason_4 rfl ?_
  refine y_imulN hC dX8_reason_5 ?_
  refine y_iaddN hC dX8_reason_6 ?_
  exact y_iret hC hr rfl (Nat.zero_le _) (Nat.zero_le _) dX8_reason_7 (yF.mk rfl)
set_option maxRecDepth 100000 in
set_option maxHeartbeats 4000000 in
theorem c_X8_purchase (l : Launch) (D : yD) (z : Nat) {n : Nat} {sh : yS} {I : yI} {L : yL} {x : Int32} {j : Nat} (hx : x = nI j) : yM l D z yX8_purchase cX8_purchase 1 (some .int) 0 0 0 [.int x] n sh I L (yF (some (.int (nI (68 + 4 * j)))) n sh I L) (yno) := by
  subst hx
  refine yM_of (by decide) (Nat.le_of_ble_eq_true rfl) rfl ?_
  intro X hC hr hnm hRc hRs htb
  have hC : yC X D z cX8_purchase RX8 1 0 := hC
  refine y_bipush (v := nI 68) hC dX8_purchase_0 (by decide) ?_
  refine y_iconst (v := nI 4) hC dX8_purchase_2 (by decide) ?_
  refine y_iload_n hC dX8_purchase_3 rfl ?_
  refine y_imulN hC dX8_purchase_4 ?_
  refine y_iaddN hC dX8_purchase_5 ?_
  exact y_iret hC hr rfl (Nat.zero_le _) (Nat.zero_le _) dX8_purchase_6 (yF.mk rfl)
set_option maxRecDepth 100000 in
set_option maxHeartbeats 4000000 in
theorem c_X8_dispute (l : Launch) (D : yD) (z : Nat) {n : Nat} {sh : yS} {I : yI} {L : yL} {x : Int32} {j : Nat} (hx : x = nI j) : yM l D z yX8_dispute cX8_dispute 1 (some .int) 0 0 0 [.int x] n sh I L (yF (some (.int (nI (164 + 8 * j)))) n sh I L) (yno) := by
  subst hx
  refine yM_of (by decide) (Nat.le_of_ble_eq_true rfl) rfl ?_
  intro X hC hr hnm hRc hRs htb
  have hC : yC X D z cX8_dispute RX8 1 0 := hC
  refine y_sipush (v := nI 164) hC dX8_dispute_0 (by decide) ?_
  refine y_bipush (v := nI 8) hC dX8_dispute_3 (by decide) ?_
  refine y_iload_n hC dX8_dispute_5 rfl ?_
  refine y_imulN hC dX8_dispute_6 ?_
  refine y_iaddN hC dX8_dispute_7 ?_
  exact y_iret hC hr rfl (Nat.zero_le _) (Nat.zero_le _) dX8_dispute_8 (yF.mk rfl)
set_option maxRecDepth 100000 in
set_option maxHeartbeats 4000000 in
theorem c_X8_isDigit (l : Launch) (D : yD) (z : Nat) {n : Nat} {sh : yS} {I : yI} {L : yL} {x : Int32} : yM l D z yX8_isDigit cX8_isDigit 1 (some .boolean) 1 0 0 [.int x] n sh I L (yF (some (.int (b2i (¬ x < 48 ∧ x ≤ 57)))) n sh I L) (yno) := by
  refine yM_of (by decide) (Nat.le_of_ble_eq_true rfl) rfl ?_
  intro X hC hr hnm hRc hRs htb
  have hC : yC X D z cX8_isDigit RX8 1 1 := hC
  refine y_iload_n hC dX8_isDigit_0 rfl ?_
  refine y_bipush (v := nI 48) hC dX8_isDigit_1 (by decide) ?_
  refine y_bipush (v := 57) hC dX8_isDigit_3 (by decide) ?_
  refine y_callS1 hC (c_X8_in X.2.1 D z) m_X8_61 rfl (by decide) (Nat.le_of_ble_eq_true rfl) (Nat.zero_le _) (Nat.zero_le _) dX8_isDigit_5 ?_
  exact y_iret hC hr b2i_z (Nat.zero_le _) (Nat.zero_le _) dX8_isDigit_8 (yF.mk rfl)
/-- the first k numbers of s, behind them those of d -/
def cpyD (s d : Nat → Int32) (k : Nat) : Nat → Int32 := fun j => if j < k then s j else d j
theorem cpyD_s {s d : Nat → Int32} {k : Nat} : upd (cpyD s d k) k (s k) = cpyD s d (k + 1) := by
  funext j
  unfold upd cpyD
  by_cases h : j = k
  · rw [if_pos h, if_pos (by omega), h]
  · rw [if_neg h]
    by_cases h2 : j < k
    · rw [if_pos h2, if_pos (by omega)]
    · rw [if_neg h2, if_neg (by omega)]
theorem cpyD_0 {s d : Nat → Int32} : cpyD s d 0 = d := by
  funext j
  unfold cpyD
  rw [if_neg (by omega)]
set_option maxRecDepth 100000 in
set_option maxHeartbeats 4000000 in
theorem c_X8_copy (l : Launch) (D : yD) (z : Nat) {n : Nat} {sh : yS} {I : yI} {L : yL} {a : Nat} {d : Nat → Int32} (ha : yArr sh a 10 1824) {b : Nat} {s : Nat → Int32} (hb : yArr sh b 10 1824) (hba : b ≠ a) (hs : I b = s) : yM l D z yX8_copy cX8_copy 3 none 0 0 0 [.ref b, .ref a] n sh (va_up I a d) L (yF none n sh (va_up I a (cpyD s d 1824)) L) (yno) := by
  refine yM_of (by decide) (Nat.le_of_ble_eq_true rfl) rfl ?_
  intro X hC hr hnm hRc hRs htb
  have hC : yC X D z cX8_copy RX8 3 0 := hC
  refine y_iconst (v := nI 0) hC dX8_copy_0 (by decide) ?_
  refine y_istore_n hC dX8_copy_1 (by decide) rfl ?_
  have lp2 : ∀ (f9 j : Nat) , j + f9 = 1824 → Y X D z 3 n sh (va_up I a (cpyD s d j)) L 0 0 (yEnd X D z (yF none n sh (va_up I a (cpyD s d 1824)) L) (yno) 0 0) 2 [some (.ref b), some (.ref a), some (.int (nI j))] [] := by
    intro f9
    induction f9 with
    | zero =>
      intro j  hm 
      refine y_iload_n hC dX8_copy_2 rfl ?_
      refine y_sipush (v := nI 1824) hC dX8_copy_3 (by decide) ?_
      refine y_icmp_ge (tgt := 21) hC dX8_copy_6 (by decide) (fun c6 => ?_) (fun c6 => absurd (nI_le (by omega) (by omega)) c6)
      exact y_vret hC hr (Nat.zero_le _) (Nat.zero_le _) dX8_copy_21 (by obtain rfl : j = 1824 := (by omega); exact yF.mk rfl)
    | succ f9 ih =>
      intro j  hm 
      refine y_iload_n hC dX8_copy_2 rfl ?_
      refine y_sipush (v := nI 1824) hC dX8_copy_3 (by decide) ?_
      refine y_icmp_ge (tgt := 21) hC dX8_copy_6 (by decide) (fun c6 => absurd c6 (nI_ge (by omega) (by omega))) (fun c6 => ?_)
      refine y_aload_n hC dX8_copy_9 rfl ?_
      refine y_iload_n hC dX8_copy_10 rfl ?_
      refine y_aload_n hC dX8_copy_11 rfl ?_
      refine y_iload_n hC dX8_copy_12 rfl ?_
      refine y_ialdN hC hb (by omega) dX8_copy_13 ?_
      rw [va_up_ne _ _ hba, hs]
      refine y_iastAN hC ha (by omega) dX8_copy_14 ?_
      refine y_iincN hC dX8_copy_15 rfl rfl (by decide) rfl ?_
      refine y_goto (tgt := 2) hC dX8_copy_18 (by decide) ?_
      rw [cpyD_s]
      exact ih (j + 1) (by omega)
  have h0 := lp2 1824 0 (by rfl)
  rw [cpyD_0] at h0
  exact h0
/-- what an empty setup text describes -/
def clrD (d : Nat → Int32) : Nat → Int32 := upd (upd (upd (cpyD (fun _ => 0) d 1824) 0 1) 1 1) 8 100
set_option maxRecDepth 100000 in
set_option maxHeartbeats 4000000 in
theorem c_X8_clear (l : Launch) (D : yD) (z : Nat) {n : Nat} {sh : yS} {I : yI} {L : yL} {a : Nat} {d : Nat → Int32} (ha : yArr sh a 10 1824) : yM l D z yX8_clear cX8_clear 2 none 0 0 0 [.ref a] n sh (va_up I a d) L (yF none n sh (va_up I a (clrD d)) L) (yno) := by
  refine yM_of (by decide) (Nat.le_of_ble_eq_true rfl) rfl ?_
  intro X hC hr hnm hRc hRs htb
  have hC : yC X D z cX8_clear RX8 2 0 := hC
  refine y_iconst (v := nI 0) hC dX8_clear_0 (by decide) ?_
  refine y_istore_n hC dX8_clear_1 (by decide) rfl ?_
  have lp2 : ∀ (f9 j : Nat) , j + f9 = 1824 → Y X D z 2 n sh (va_up I a (cpyD (fun _ => 0) d j)) L 0 0 (yEnd X D z (yF none n sh (va_up I a (clrD d)) L) (yno) 0 0) 2 [some (.ref a), some (.int (nI j))] [] := by
    intro f9
    induction f9 with
    | zero =>
      intro j  hm 
      refine y_iload_n hC dX8_clear_2 rfl ?_
      refine y_sipush (v := nI 1824) hC dX8_clear_3 (by decide) ?_
      refine y_icmp_ge (tgt := 19) hC dX8_clear_6 (by decide) (fun c6 => ?_) (fun c6 => absurd (nI_le (by omega) (by omega)) c6)
      refine y_aload_n hC dX8_clear_19 rfl ?_
      refine y_iconst (v := nI 0) hC dX8_clear_20 (by decide) ?_
      refine y_iconst (v := 1) hC dX8_clear_21 (by decide) ?_
      refine y_iastAN hC ha (by decide) dX8_clear_22 ?_
      refine y_aload_n hC dX8_clear_23 rfl ?_
      refine y_iconst (v := nI 1) hC dX8_clear_24 (by decide) ?_
      refine y_iconst (v := 1) hC dX8_clear_25 (by decide) ?_
      refine y_iastAN hC ha (by decide) dX8_clear_26 ?_
      refine y_aload_n hC dX8_clear_27 rfl ?_
      refine y_bipush (v := nI 8) hC dX8_clear_28 (by decide) ?_
      refine y_bipush (v := 100) hC dX8_clear_30 (by decide) ?_
      refine y_iastAN hC ha (by decide) dX8_clear_32 ?_
      exact y_vret hC hr (Nat.zero_le _) (Nat.zero_le _) dX8_clear_33 (by obtain rfl : j = 1824 := (by omega); exact yF.mk rfl)
    | succ f9 ih =>
      intro j  hm 
      refine y_iload_n hC dX8_clear_2 rfl ?_
      refine y_sipush (v := nI 1824) hC dX8_clear_3 (by decide) ?_
      refine y_icmp_ge (tgt := 19) hC dX8_clear_6 (by decide) (fun c6 => absurd c6 (nI_ge (by omega) (by omega))) (fun c6 => ?_)
      refine y_aload_n hC dX8_clear_9 rfl ?_
      refine y_iload_n hC dX8_clear_10 rfl ?_
      refine y_iconst (v := 0) hC dX8_clear_11 (by decide) ?_
      refine y_iastAN hC ha (by omega) dX8_clear_12 ?_
      refine y_iincN hC dX8_clear_13 rfl rfl (by decide) rfl ?_
      refine y_goto (tgt := 2) hC dX8_clear_16 (by decide) ?_
      rw [cpyD_s (s := fun _ => 0)]
      exact ih (j + 1) (by omega)
  have h0 := lp2 1824 0 (by rfl)
  rw [cpyD_0] at h0
  exact h0
/-- dispute k in the array d: its purchase p (of issuer i at merchant m), its reason r -/
def dK (d : Nat → Int32) (k p i m r : Nat) : Prop := k < 20 ∧ d (164 + 8 * k) = nI p ∧ p < 24 ∧ d (68 + 4 * p) = nI i ∧ i < 4 ∧ d (68 + 4 * p + 1) = nI m ∧ m < 4 ∧ d (164 + 8 * k + 1) = nI r ∧ r < 8
set_option maxRecDepth 100000 in
set_option maxHeartbeats 4000000 in
theorem c_X8_needsOf (l : Launch) (D : yD) (z : Nat) {n : Nat} {sh : yS} {I : yI} {L : yL} {a : Nat} {d : Nat → Int32} (ha : yArr sh a 10 1824) {k p i m r : Nat} (hk : dK d k p i m r) : yM l D z yX8_needsOf cX8_needsOf 2 (some .int) 1 0 0 [.ref a, .int (nI k)] n sh (va_up I a d) L (yF (some (.int (d (20 + 6 * r + 5)))) n sh (va_up I a d) L) (yno) := by
  refine yM_of (by decide) (Nat.le_of_ble_eq_true rfl) rfl ?_
  intro X hC hr hnm hRc hRs htb
  have hC : yC X D z cX8_needsOf RX8 2 1 := hC
  obtain ⟨k20, hp, p24, hi, i4, hm, m4, hr0, r8⟩ := hk
  refine y_aload_n hC dX8_needsOf_0 rfl ?_
  refine y_aload_n hC dX8_needsOf_1 rfl ?_
  refine y_iload_n hC dX8_needsOf_2 rfl ?_
  refine y_callS1 hC (c_X8_dispute X.2.1 D z (j := k) rfl) m_X8_180 rfl (by decide) (Nat.le_of_ble_eq_true rfl) (Nat.zero_le _) (Nat.zero_le _) dX8_needsOf_3 ?_
  refine y_iconst (v := nI 1) hC dX8_needsOf_6 (by decide) ?_
  refine y_iaddN hC dX8_needsOf_7 ?_
  refine y_ialdAN hC ha (by omega) dX8_needsOf_8 ?_
  refine y_callS1 hC (c_X8_reason X.2.1 D z hr0) m_X8_135 rfl (by decide) (Nat.le_of_ble_eq_true rfl) (Nat.zero_le _) (Nat.zero_le _) dX8_needsOf_9 ?_
  refine y_iconst (v := nI 5) hC dX8_needsOf_12 (by decide) ?_
  refine y_iaddN hC dX8_needsOf_13 ?_
  refine y_ialdAN hC ha (by omega) dX8_needsOf_14 ?_
  exact y_iret hC hr rfl (Nat.zero_le _) (Nat.zero_le _) dX8_needsOf_15 (yF.mk rfl)
set_option maxRecDepth 100000 in
set_option maxHeartbeats 4000000 in
theorem c_X8_issuerOf (l : Launch) (D : yD) (z : Nat) {n : Nat} {sh : yS} {I : yI} {L : yL} {a : Nat} {d : Nat → Int32} (ha : yArr sh a 10 1824) {k p i m r : Nat} (hk : dK d k p i m r) : yM l D z yX8_issuerOf cX8_issuerOf 2 (some .int) 1 0 0 [.ref a, .int (nI k)] n sh (va_up I a d) L (yF (some (.int (nI (12 + i)))) n sh (va_up I a d) L) (yno) := by
  refine yM_of (by decide) (Nat.le_of_ble_eq_true rfl) rfl ?_
  intro X hC hr hnm hRc hRs htb
  have hC : yC X D z cX8_issuerOf RX8 2 1 := hC
  obtain ⟨k20, hp, p24, hi, i4, hm, m4, hr0, r8⟩ := hk
  refine y_bipush (v := nI 12) hC dX8_issuerOf_0 (by decide) ?_
  refine y_aload_n hC dX8_issuerOf_2 rfl ?_
  refine y_aload_n hC dX8_issuerOf_3 rfl ?_
  refine y_iload_n hC dX8_issuerOf_4 rfl ?_
  refine y_callS1 hC (c_X8_dispute X.2.1 D z (j := k) rfl) m_X8_180 rfl (by decide) (Nat.le_of_ble_eq_true rfl) (Nat.zero_le _) (Nat.zero_le _) dX8_issuerOf_5 ?_
  refine y_ialdAN hC ha (by omega) dX8_issuerOf_8 ?_
  refine y_callS1 hC (c_X8_purchase X.2.1 D z hp) m_X8_190 rfl (by decide) (Nat.le_of_ble_eq_true rfl) (Nat.zero_le _) (Nat.zero_le _) dX8_issuerOf_9 ?_
  refine y_ialdAN hC ha (by omega) dX8_issuerOf_12 ?_
  rw [hi]
  refine y_iaddN hC dX8_issuerOf_13 ?_
  exact y_iret hC hr rfl (Nat.zero_le _) (Nat.zero_le _) dX8_issuerOf_14 (yF.mk rfl)
set_option maxRecDepth 100000 in
set_option maxHeartbeats 4000000 in
theorem c_X8_merchantOf (l : Launch) (D : yD) (z : Nat) {n : Nat} {sh : yS} {I : yI} {L : yL} {a : Nat} {d : Nat → Int32} (ha : yArr sh a 10 1824) {k p i m r : Nat} (hk : dK d k p i m r) : yM l D z yX8_merchantOf cX8_merchantOf 2 (some .int) 1 0 0 [.ref a, .int (nI k)] n sh (va_up I a d) L (yF (some (.int (nI (16 + m)))) n sh (va_up I a d) L) (yno) := by
  refine yM_of (by decide) (Nat.le_of_ble_eq_true rfl) rfl ?_
  intro X hC hr hnm hRc hRs htb
  have hC : yC X D z cX8_merchantOf RX8 2 1 := hC
  obtain ⟨k20, hp, p24, hi, i4, hm, m4, hr0, r8⟩ := hk
  refine y_bipush (v := nI 16) hC dX8_merchantOf_0 (by decide) ?_
  refine y_aload_n hC dX8_merchantOf_2 rfl ?_
  refine y_aload_n hC dX8_merchantOf_3 rfl ?_
  refine y_iload_n hC dX8_merchantOf_4 rfl ?_
  refine y_callS1 hC (c_X8_dispute X.2.1 D z (j := k) rfl) m_X8_180 rfl (by decide) (Nat.le_of_ble_eq_true rfl) (Nat.zero_le _) (Nat.zero_le _) dX8_merchantOf_5 ?_
  refine y_ialdAN hC ha (by omega) dX8_merchantOf_8 ?_
  refine y_callS1 hC (c_X8_purchase X.2.1 D z hp) m_X8_190 rfl (by decide) (Nat.le_of_ble_eq_true rfl) (Nat.zero_le _) (Nat.zero_le _) dX8_merchantOf_9 ?_
  refine y_iconst (v := nI 1) hC dX8_merchantOf_12 (by decide) ?_
  refine y_iaddN hC dX8_merchantOf_13 ?_
  refine y_ialdAN hC ha (by omega) dX8_merchantOf_14 ?_
  rw [hm]
  refine y_iaddN hC dX8_merchantOf_15 ?_
  exact y_iret hC hr rfl (Nat.zero_le _) (Nat.zero_le _) dX8_merchantOf_16 (yF.mk rfl)
def payD (d : Nat → Int32) (f t : Nat) (x : Int32) : Nat → Int32 := upd (upd d f (d f - x)) t (upd d f (d f - x) t + x)
set_option maxRecDepth 100000 in
set_option maxHeartbeats 4000000 in
theorem c_X8_pay (l : Launch) (D : yD) (z : Nat) {n : Nat} {sh : yS} {I : yI} {L : yL} {a : Nat} {d : Nat → Int32} (ha : yArr sh a 10 1824) {xf xt : Int32} {f t : Nat} (hxf : xf = nI f) (hxt : xt = nI t) (hf : f < 1824) (ht : t < 1824) {x : Int32} : yM l D z yX8_pay cX8_pay 4 none 0 0 0 [.ref a, .int xf, .int xt, .int x] n sh (va_up I a d) L (yF none n sh (va_up I a (payD d f t x)) L) (yno) := by
  subst hxf hxt
  refine yM_of (by decide) (Nat.le_of_ble_eq_true rfl) rfl ?_
  intro X hC hr hnm hRc hRs htb
  have hC : yC X D z cX8_pay RX8 4 0 := hC
  refine y_aload_n hC dX8_pay_0 rfl ?_
  refine y_iload_n hC dX8_pay_1 rfl ?_
  refine y_dup2 hC dX8_pay_2 rfl rfl ?_
  refine y_ialdAN hC ha (by omega) dX8_pay_3 ?_
  refine y_iload_n hC dX8_pay_4 rfl ?_
  refine y_isub hC dX8_pay_5 ?_
  refine y_iastAN hC ha (by omega) dX8_pay_6 ?_
  refine y_aload_n hC dX8_pay_7 rfl ?_
  refine y_iload_n hC dX8_pay_8 rfl ?_
  refine y_dup2 hC dX8_pay_9 rfl rfl ?_
  refine y_ialdAN hC ha (by omega) dX8_pay_10 ?_
  refine y_iload_n hC dX8_pay_11 rfl ?_
  refine y_iadd hC dX8_pay_12 ?_
  refine y_iastAN hC ha (by omega) dX8_pay_13 ?_
  exact y_vret hC hr (Nat.zero_le _) (Nat.zero_le _) dX8_pay_14 (yF.mk rfl)
set_option maxRecDepth 100000 in
set_option maxHeartbeats 4000000 in
theorem c_X8_isFinal (l : Launch) (D : yD) (z : Nat) {n : Nat} {sh : yS} {I : yI} {L : yL} {a : Nat} {d : Nat → Int32} (ha : yArr sh a 10 1824) {k : Nat} (hk : k < 20) : yM l D z yX8_isFinal cX8_isFinal 2 (some .boolean) 1 0 0 [.ref a, .int (nI k)] n sh (va_up I a d) L (yF (some (.int (b2i (¬ d (164 + 8 * k + 5) < 4)))) n sh (va_up I a d) L) (yno) := by
  refine yM_of (by decide) (Nat.le_of_ble_eq_true rfl) rfl ?_
  intro X hC hr hnm hRc hRs htb
  have hC : yC X D z cX8_isFinal RX8 2 1 := hC
  refine y_aload_n hC dX8_isFinal_0 rfl ?_
  refine y_iload_n hC dX8_isFinal_1 rfl ?_
  refine y_callS1 hC (c_X8_dispute X.2.1 D z (j := k) rfl) m_X8_180 rfl (by decide) (Nat.le_of_ble_eq_true rfl) (Nat.zero_le _) (Nat.zero_le _) dX8_isFinal_2 ?_
  refine y_iconst (v := nI 5) hC dX8_isFinal_5 (by decide) ?_
  refine y_iaddN hC dX8_isFinal_6 ?_
  refine y_ialdAN hC ha (by omega) dX8_isFinal_7 ?_
  refine y_iconst (v := 4) hC dX8_isFinal_8 (by decide) ?_
  refine y_icmp_lt (tgt := 16) hC dX8_isFinal_9 (by decide) (fun c9 => ?_) (fun c9 => ?_)
  · refine y_iconst (v := 0) hC dX8_isFinal_16 (by decide) ?_
    exact y_iret hC hr rfl (Nat.zero_le _) (Nat.zero_le _) dX8_isFinal_17 (by first | exact yF.t c9 | exact yF.f (fun q => q c9) | exact yF.t c8 | exact yF.f (fun q => q c8) | exact yF.t c10 | exact yF.f (fun q => q c10))
  · refine y_iconst (v := nI 1) hC dX8_isFinal_12 (by decide) ?_
    refine y_goto (tgt := 17) hC dX8_isFinal_13 (by decide) ?_
    exact y_iret hC hr rfl (Nat.zero_le _) (Nat.zero_le _) dX8_isFinal_17 (by first | exact yF.t c9 | exact yF.f (fun q => q c9) | exact yF.t c8 | exact yF.f (fun q => q c8) | exact yF.t c10 | exact yF.f (fun q => q c10))
