set_option maxRecDepth 100000 in
set_option maxHeartbeats 4000000 in
theorem c_X6_isDigit (l : Launch) (D : yD) (z : Nat) {n : Nat} {sh : yS} {I : yI} {L : yL} {x : Int32} : yM l D z yX6_isDigit cX6_isDigit 1 (some .boolean) 0 0 0 [.int x] n sh I L (yF (some (.int (b2i (¬ x < 48 ∧ x ≤ 57)))) n sh I L) (yno) := by
  refine yM_of (by decide) (Nat.le_of_ble_eq_true rfl) rfl ?_
  intro X hC hr hnm hRc hRs htb
  have hC : yC X D z cX6_isDigit RX6 1 0 := hC
  refine y_iload_n hC dX6_isDigit_0 rfl ?_
  refine y_bipush (v := 48) hC dX6_isDigit_1 (by decide) ?_
  refine y_icmp_lt (tgt := 16) hC dX6_isDigit_3 (by decide) (fun c3 => ?_) (fun c3 => ?_)
  · refine y_iconst (v := 0) hC dX6_isDigit_16 (by decide) ?_
    exact y_iret hC hr rfl (Nat.zero_le _) (Nat.zero_le _) dX6_isDigit_17 (by first | exact yF.t ⟨c3, Int32.not_lt.mp c9⟩ | exact yF.f (fun q => (Int32.not_lt.mpr q.2) c9) | exact yF.f (fun q => q.1 c3))
  · refine y_iload_n hC dX6_isDigit_6 rfl ?_
    refine y_bipush (v := 57) hC dX6_isDigit_7 (by decide) ?_
    refine y_icmp_gt (tgt := 16) hC dX6_isDigit_9 (by decide) (fun c9 => ?_) (fun c9 => ?_)
    · refine y_iconst (v := 0) hC dX6_isDigit_16 (by decide) ?_
      exact y_iret hC hr rfl (Nat.zero_le _) (Nat.zero_le _) dX6_isDigit_17 (by first | exact yF.t ⟨c3, Int32.not_lt.mp c9⟩ | exact yF.f (fun q => (Int32.not_lt.mpr q.2) c9) | exact yF.f (fun q => q.1 c3))
    · refine y_iconst (v := 1) hC dX6_isDigit_12 (by decide) ?_
      refine y_goto (tgt := 17) hC dX6_isDigit_13 (by decide) ?_
      exact y_iret hC hr rfl (Nat.zero_le _) (Nat.zero_le _) dX6_isDigit_17 (by first | exact yF.t ⟨c3, Int32.not_lt.mp c9⟩ | exact yF.f (fun q => (Int32.not_lt.mpr q.2) c9) | exact yF.f (fun q => q.1 c3))
set_option maxRecDepth 100000 in
set_option maxHeartbeats 4000000 in
theorem c_X6_isLetter (l : Launch) (D : yD) (z : Nat) {n : Nat} {sh : yS} {I : yI} {L : yL} {x : Int32} : yM l D z yX6_isLetter cX6_isLetter 1 (some .boolean) 0 0 0 [.int x] n sh I L (yF (some (.int (b2i (¬ x < 97 ∧ x ≤ 122)))) n sh I L) (yno) := by
  refine yM_of (by decide) (Nat.le_of_ble_eq_true rfl) rfl ?_
  intro X hC hr hnm hRc hRs htb
  have hC : yC X D z cX6_isLetter RX6 1 0 := hC
  refine y_iload_n hC dX6_isLetter_0 rfl ?_
  refine y_bipush (v := 97) hC dX6_isLetter_1 (by decide) ?_
  refine y_icmp_lt (tgt := 16) hC dX6_isLetter_3 (by decide) (fun c3 => ?_) (fun c3 => ?_)
  · refine y_iconst (v := 0) hC dX6_isLetter_16 (by decide) ?_
    exact y_iret hC hr rfl (Nat.zero_le _) (Nat.zero_le _) dX6_isLetter_17 (by first | exact yF.t ⟨c3, Int32.not_lt.mp c9⟩ | exact yF.f (fun q => (Int32.not_lt.mpr q.2) c9) | exact yF.f (fun q => q.1 c3))
  · refine y_iload_n hC dX6_isLetter_6 rfl ?_
    refine y_bipush (v := 122) hC dX6_isLetter_7 (by decide) ?_
    refine y_icmp_gt (tgt := 16) hC dX6_isLetter_9 (by decide) (fun c9 => ?_) (fun c9 => ?_)
    · refine y_iconst (v := 0) hC dX6_isLetter_16 (by decide) ?_
      exact y_iret hC hr rfl (Nat.zero_le _) (Nat.zero_le _) dX6_isLetter_17 (by first | exact yF.t ⟨c3, Int32.not_lt.mp c9⟩ | exact yF.f (fun q => (Int32.not_lt.mpr q.2) c9) | exact yF.f (fun q => q.1 c3))
    · refine y_iconst (v := 1) hC dX6_isLetter_12 (by decide) ?_
      refine y_goto (tgt := 17) hC dX6_isLetter_13 (by decide) ?_
      exact y_iret hC hr rfl (Nat.zero_le _) (Nat.zero_le _) dX6_isLetter_17 (by first | exact yF.t ⟨c3, Int32.not_lt.mp c9⟩ | exact yF.f (fun q => (Int32.not_lt.mpr q.2) c9) | exact yF.f (fun q => q.1 c3))
abbrev dgP (x : Int32) : Prop := ¬ x < 48 ∧ x ≤ 57
abbrev ltP (x : Int32) : Prop := ¬ x < 97 ∧ x ≤ 122
/-- where the run of such bytes from s on ends, at most f further -/
def rn (P : Int32 → Prop) [DecidablePred P] (b : Nat → Int32) : Nat → Nat → Nat
  | 0, s => s
  | f + 1, s => if P (b s) then rn P b f (s + 1) else s
def dv (b : Nat → Int32) : Nat → Nat → Int32 → Int32
  | 0, _, v => v
  | f + 1, s, v => dv b f (s + 1) (if v < 100000 then 10 * v + (b s - 48) else v)
theorem rn_le {P : Int32 → Prop} [DecidablePred P] {b : Nat → Int32} : ∀ f s, rn P b f s ≤ s + f
  | 0, s => Nat.le_refl _
  | f + 1, s => by
    unfold rn
    split
    · have := rn_le (P := P) (b := b) f (s + 1); omega
    · omega
theorem rn_ge {P : Int32 → Prop} [DecidablePred P] {b : Nat → Int32} : ∀ f s, s ≤ rn P b f s
  | 0, s => Nat.le_refl _
  | f + 1, s => by
    unfold rn
    split
    · have := rn_ge (P := P) (b := b) f (s + 1); omega
    · omega
set_option maxRecDepth 100000 in
set_option maxHeartbeats 4000000 in
theorem c_X6_endOfDigits (l : Launch) (D : yD) (z : Nat) {n : Nat} {sh : yS} {I : yI} {L : yL} {t b m : Nat} {T : yI} {by8 : Nat → Int32} (hT : yTok sh t b m 900) (hbt : b < t ∨ t + 4 ≤ b) (hb : I b = by8) {len : Nat} (hlen : T 0 1 = nI len) (hl9 : len ≤ 900) {s : Nat} (hs : s ≤ len) : yM l D z yX6_endOfDigits cX6_endOfDigits 3 (some .int) 1 0 0 [.ref t, .int (nI s)] n sh (sR 4 I t T) L (yF (some (.int (nI (rn dgP by8 (len - s) s)))) n sh (sR 4 I t T) L) (yno) := by
  refine yM_of (by decide) (Nat.le_of_ble_eq_true rfl) rfl ?_
  intro X hC hr hnm hRc hRs htb
  have hC : yC X D z cX6_endOfDigits RX6 3 1 := hC
  refine y_iload_n hC dX6_endOfDigits_0 rfl ?_
  refine y_istore_n hC dX6_endOfDigits_1 (by decide) rfl ?_
  have lp2 : ∀ (f9 j : Nat) , j + f9 = len → rn dgP by8 f9 j = rn dgP by8 (len - s) s → Y X D z 3 n sh (sR 4 I t T) L 0 0 (yEnd X D z (yF (some (.int (nI (rn dgP by8 (len - s) s)))) n sh (sR 4 I t T) L) (yno) 0 0) 2 [some (.ref t), some (.int (nI s)), some (.int (nI j))] [] := by
    intro f9
    induction f9 with
    | zero =>
      intro j  hm hi
      refine y_iload_n hC dX6_endOfDigits_2 rfl ?_
      refine y_aload_n hC dX6_endOfDigits_3 rfl ?_
      refine y_getIR (w9 := 4) hC (by decide) (yK_o hT) f_X6_22 rfl dX6_endOfDigits_4 ?_
      rw [hlen]
      refine y_icmp_ge (tgt := 28) hC dX6_endOfDigits_7 (by decide) (fun c7 => ?_) (fun c7 => absurd (nI_le (by omega) (by omega)) c7)
      refine y_iload_n hC dX6_endOfDigits_28 rfl ?_
      exact y_iret hC hr rfl (Nat.zero_le _) (Nat.zero_le _) dX6_endOfDigits_29 (by first | exact yF.mk (congrArg (fun q => some (Value.int (nI q))) hi) | exact yF.mk (congrArg (fun q => some (Value.int (nI q))) ((if_neg c19).symm.trans hi)))
    | succ f9 ih =>
      intro j  hm hi
      refine y_iload_n hC dX6_endOfDigits_2 rfl ?_
      refine y_aload_n hC dX6_endOfDigits_3 rfl ?_
      refine y_getIR (w9 := 4) hC (by decide) (yK_o hT) f_X6_22 rfl dX6_endOfDigits_4 ?_
      rw [hlen]
      refine y_icmp_ge (tgt := 28) hC dX6_endOfDigits_7 (by decide) (fun c7 => absurd c7 (nI_ge (by omega) (by omega))) (fun c7 => ?_)
      refine y_aload_n hC dX6_endOfDigits_10 rfl ?_
      refine y_getR hC (yK_o hT) (yK_r0 hT) f_X6_7 rfl dX6_endOfDigits_11 ?_
      refine y_iload_n hC dX6_endOfDigits_14 rfl ?_
      refine y_baldN hC (yK_a0 hT) (by omega) dX6_endOfDigits_15 ?_
      rw [sR_out hbt, hb]
      refine y_callS1 hC (c_X6_isDigit X.2.1 D z) m_X6_36 rfl (by decide) (Nat.le_of_ble_eq_true rfl) (Nat.zero_le _) (Nat.zero_le _) dX6_endOfDigits_16 ?_
      refine y_if_eqB (tgt := 28) hC dX6_endOfDigits_19 (by decide) (fun c19 => ?_) (fun c19 => ?_)
      · refine y_iload_n hC dX6_endOfDigits_28 rfl ?_
        exact y_iret hC hr rfl (Nat.zero_le _) (Nat.zero_le _) dX6_endOfDigits_29 (by first | exact yF.mk (congrArg (fun q => some (Value.int (nI q))) hi) | exact yF.mk (congrArg (fun q => some (Value.int (nI q))) ((if_neg c19).symm.trans hi)))
      · refine y_iincN hC dX6_endOfDigits_22 rfl rfl (by decide) rfl ?_
        refine y_goto (tgt := 2) hC dX6_endOfDigits_25 (by decide) ?_
        exact ih (j + 1) (by omega) (hi ▸ (if_pos c19).symm)
  exact lp2 (len - s) s (by omega) rfl
set_option maxRecDepth 100000 in
set_option maxHeartbeats 4000000 in
theorem c_X6_endOfLetters (l : Launch) (D : yD) (z : Nat) {n : Nat} {sh : yS} {I : yI} {L : yL} {t b m : Nat} {T : yI} {by8 : Nat → Int32} (hT : yTok sh t b m 900) (hbt : b < t ∨ t + 4 ≤ b) (hb : I b = by8) {len : Nat} (hlen : T 0 1 = nI len) (hl9 : len ≤ 900) {s : Nat} (hs : s ≤ len) : yM l D z yX6_endOfLetters cX6_endOfLetters 3 (some .int) 1 0 0 [.ref t, .int (nI s)] n sh (sR 4 I t T) L (yF (some (.int (nI (rn ltP by8 (len - s) s)))) n sh (sR 4 I t T) L) (yno) := by
  refine yM_of (by decide) (Nat.le_of_ble_eq_true rfl) rfl ?_
  intro X hC hr hnm hRc hRs htb
  have hC : yC X D z cX6_endOfLetters RX6 3 1 := hC
  refine y_iload_n hC dX6_endOfLetters_0 rfl ?_
  refine y_istore_n hC dX6_endOfLetters_1 (by decide) rfl ?_
  have lp2 : ∀ (f9 j : Nat) , j + f9 = len → rn ltP by8 f9 j = rn ltP by8 (len - s) s → Y X D z 3 n sh (sR 4 I t T) L 0 0 (yEnd X D z (yF (some (.int (nI (rn ltP by8 (len - s) s)))) n sh (sR 4 I t T) L) (yno) 0 0) 2 [some (.ref t), some (.int (nI s)), some (.int (nI j))] [] := by
    intro f9
    induction f9 with
    | zero =>
      intro j  hm hi
      refine y_iload_n hC dX6_endOfLetters_2 rfl ?_
      refine y_aload_n hC dX6_endOfLetters_3 rfl ?_
      refine y_getIR (w9 := 4) hC (by decide) (yK_o hT) f_X6_22 rfl dX6_endOfLetters_4 ?_
      rw [hlen]
      refine y_icmp_ge (tgt := 28) hC dX6_endOfLetters_7 (by decide) (fun c7 => ?_) (fun c7 => absurd (nI_le (by omega) (by omega)) c7)
      refine y_iload_n hC dX6_endOfLetters_28 rfl ?_
      exact y_iret hC hr rfl (Nat.zero_le _) (Nat.zero_le _) dX6_endOfLetters_29 (by first | exact yF.mk (congrArg (fun q => some (Value.int (nI q))) hi) | exact yF.mk (congrArg (fun q => some (Value.int (nI q))) ((if_neg c19).symm.trans hi)))
    | succ f9 ih =>
      intro j  hm hi
      refine y_iload_n hC dX6_endOfLetters_2 rfl ?_
      refine y_aload_n hC dX6_endOfLetters_3 rfl ?_
      refine y_getIR (w9 := 4) hC (by decide) (yK_o hT) f_X6_22 rfl dX6_endOfLetters_4 ?_
      rw [hlen]
      refine y_icmp_ge (tgt := 28) hC dX6_endOfLetters_7 (by decide) (fun c7 => absurd c7 (nI_ge (by omega) (by omega))) (fun c7 => ?_)
      refine y_aload_n hC dX6_endOfLetters_10 rfl ?_
      refine y_getR hC (yK_o hT) (yK_r0 hT) f_X6_7 rfl dX6_endOfLetters_11 ?_
      refine y_iload_n hC dX6_endOfLetters_14 rfl ?_
      refine y_baldN hC (yK_a0 hT) (by omega) dX6_endOfLetters_15 ?_
      rw [sR_out hbt, hb]
      refine y_callS1 hC (c_X6_isLetter X.2.1 D z) m_X6_51 rfl (by decide) (Nat.le_of_ble_eq_true rfl) (Nat.zero_le _) (Nat.zero_le _) dX6_endOfLetters_16 ?_
      refine y_if_eqB (tgt := 28) hC dX6_endOfLetters_19 (by decide) (fun c19 => ?_) (fun c19 => ?_)
      · refine y_iload_n hC dX6_endOfLetters_28 rfl ?_
        exact y_iret hC hr rfl (Nat.zero_le _) (Nat.zero_le _) dX6_endOfLetters_29 (by first | exact yF.mk (congrArg (fun q => some (Value.int (nI q))) hi) | exact yF.mk (congrArg (fun q => some (Value.int (nI q))) ((if_neg c19).symm.trans hi)))
      · refine y_iincN hC dX6_endOfLetters_22 rfl rfl (by decide) rfl ?_
        refine y_goto (tgt := 2) hC dX6_endOfLetters_25 (by decide) ?_
        exact ih (j + 1) (by omega) (hi ▸ (if_pos c19).symm)
  exact lp2 (len - s) s (by omega) rfl
set_option maxRecDepth 100000 in
set_option maxHeartbeats 4000000 in
theorem c_X6_valueOfDigits (l : Launch) (D : yD) (z : Nat) {n : Nat} {sh : yS} {I : yI} {L : yL} {t b m : Nat} {T : yI} {by8 : Nat → Int32} (hT : yTok sh t b m 900) (hbt : b < t ∨ t + 4 ≤ b) (hb : I b = by8) {len : Nat} (hlen : T 0 1 = nI len) (hl9 : len ≤ 900) {s e : Nat} (hs : s ≤ e) (he : e ≤ len) : yM l D z yX6_valueOfDigits cX6_valueOfDigits 5 (some .int) 0 0 0 [.ref t, .int (nI s), .int (nI e)] n sh (sR 4 I t T) L (yF (some (.int (dv by8 (e - s) s 0))) n sh (sR 4 I t T) L) (yno) := by
  refine yM_of (by decide) (Nat.le_of_ble_eq_true rfl) rfl ?_
  intro X hC hr hnm hRc hRs htb
  have hC : yC X D z cX6_valueOfDigits RX6 5 0 := hC
  refine y_iconst (v := 0) hC dX6_valueOfDigits_0 (by decide) ?_
  refine y_istore_n hC dX6_valueOfDigits_1 (by decide) rfl ?_
  refine y_iload_n hC dX6_valueOfDigits_2 rfl ?_
  refine y_istore hC dX6_valueOfDigits_3 (by decide) rfl ?_
  have lp5 : ∀ (f9 j : Nat) (v : Int32), j + f9 = e → dv by8 f9 j v = dv by8 (e - s) s 0 → Y X D z 5 n sh (sR 4 I t T) L 0 0 (yEnd X D z (yF (some (.int (dv by8 (e - s) s 0))) n sh (sR 4 I t T) L) (yno) 0 0) 5 [some (.ref t), some (.int (nI s)), some (.int (nI e)), some (.int v), some (.int (nI j))] [] := by
    intro f9
    induction f9 with
    | zero =>
      intro j v hm hi
      refine y_iload hC dX6_valueOfDigits_5 rfl ?_
      refine y_iload_n hC dX6_valueOfDigits_7 rfl ?_
      refine y_icmp_ge (tgt := 39) hC dX6_valueOfDigits_8 (by decide) (fun c8 => ?_) (fun c8 => absurd (nI_le (by omega) (by omega)) c8)
      refine y_iload_n hC dX6_valueOfDigits_39 rfl ?_
      exact y_iret hC hr rfl (Nat.zero_le _) (Nat.zero_le _) dX6_valueOfDigits_40 (yF.mk (congrArg (fun q => some (Value.int q)) hi))
    | succ f9 ih =>
      intro j v hm hi
      refine y_iload hC dX6_valueOfDigits_5 rfl ?_
      refine y_iload_n hC dX6_valueOfDigits_7 rfl ?_
      refine y_icmp_ge (tgt := 39) hC dX6_valueOfDigits_8 (by decide) (fun c8 => absurd c8 (nI_ge (by omega) (by omega))) (fun c8 => ?_)
      refine y_iload_n hC dX6_valueOfDigits_11 rfl ?_
      refine y_ldc hC k_X6_63 dX6_valueOfDigits_12 ?_
      refine y_icmp_ge (tgt := 33) hC dX6_valueOfDigits_14 (by decide) (fun c14 => ?_) (fun c14 => ?_)
      · refine y_iincN hC dX6_valueOfDigits_33 rfl rfl (by decide) rfl ?_
        refine y_goto (tgt := 5) hC dX6_valueOfDigits_36 (by decide) ?_
        first | exact ih (j + 1) _ (by omega) (Eq.trans (congrArg (dv by8 f9 (j + 1)) (if_pos (Int32.not_le.mp c14)).symm) hi) | exact ih (j + 1) _ (by omega) (Eq.trans (congrArg (dv by8 f9 (j + 1)) (if_neg (Int32.not_lt.mpr c14)).symm) hi)
      · refine y_bipush (v := 10) hC dX6_valueOfDigits_17 (by decide) ?_
        refine y_iload_n hC dX6_valueOfDigits_19 rfl ?_
        refine y_imul hC dX6_valueOfDigits_20 ?_
        refine y_aload_n hC dX6_valueOfDigits_21 rfl ?_
        refine y_getR hC (yK_o hT) (yK_r0 hT) f_X6_7 rfl dX6_valueOfDigits_22 ?_
        refine y_iload hC dX6_valueOfDigits_25 rfl ?_
        refine y_baldN hC (yK_a0 hT) (by omega) dX6_valueOfDigits_27 ?_
        rw [sR_out hbt, hb]
        refine y_bipush (v := 48) hC dX6_valueOfDigits_28 (by decide) ?_
        refine y_isub hC dX6_valueOfDigits_30 ?_
        refine y_iadd hC dX6_valueOfDigits_31 ?_
        refine y_istore_n hC dX6_valueOfDigits_32 (by decide) rfl ?_
        refine y_iincN hC dX6_valueOfDigits_33 rfl rfl (by decide) rfl ?_
        refine y_goto (tgt := 5) hC dX6_valueOfDigits_36 (by decide) ?_
        first | exact ih (j + 1) _ (by omega) (Eq.trans (congrArg (dv by8 f9 (j + 1)) (if_pos (Int32.not_le.mp c14)).symm) hi) | exact ih (j + 1) _ (by omega) (Eq.trans (congrArg (dv by8 f9 (j + 1)) (if_neg (Int32.not_lt.mpr c14)).symm) hi)
  exact lp5 (e - s) s _ (by omega) rfl
def addT (T : yI) (c : Nat) (k s v : Int32) : yI := up2 (up2 (up2 (up2 T 1 c k) 2 c s) 3 c v) 0 5 (nI (c + 1))
set_option maxRecDepth 100000 in
set_option maxHeartbeats 4000000 in
theorem c_X6_add (l : Launch) (D : yD) (z : Nat) {n : Nat} {sh : yS} {I : yI} {L : yL} {t b m : Nat} {T : yI} (hT : yTok sh t b m 900) {c : Nat} (hc : T 0 5 = nI c) (hcm : c < m) (hm : m < 2147483648) {k s v : Int32} : yM l D z yX6_add cX6_add 4 none 0 0 0 [.ref t, .int k, .int s, .int v] n sh (sR 4 I t T) L (yF none n sh (sR 4 I t (addT T c k s v)) L) (yno) := by
  refine yM_of (by decide) (Nat.le_of_ble_eq_true rfl) rfl ?_
  intro X hC hr hnm hRc hRs htb
  have hC : yC X D z cX6_add RX6 4 0 := hC
  refine y_aload_n hC dX6_add_0 rfl ?_
  refine y_getIR (w9 := 4) hC (by decide) (yK_o hT) f_X6_60 rfl dX6_add_1 ?_
  rw [hc]
  refine y_aload_n hC dX6_add_4 rfl ?_
  refine y_getR hC (yK_o hT) (yK_r2 hT) f_X6_26 rfl dX6_add_5 ?_
  refine y_alen hC (yK_a2 hT) (by decide) rfl dX6_add_8 ?_
  refine y_icmp_ge (tgt := 52) hC dX6_add_9 (by decide) (fun c9 => absurd (nI_le2 c9) (by omega)) (fun c9 => ?_)
  refine y_aload_n hC dX6_add_12 rfl ?_
  refine y_getR hC (yK_o hT) (yK_r2 hT) f_X6_26 rfl dX6_add_13 ?_
  refine y_aload_n hC dX6_add_16 rfl ?_
  refine y_getIR (w9 := 4) hC (by decide) (yK_o hT) f_X6_60 rfl dX6_add_17 ?_
  rw [hc]
  refine y_iload_n hC dX6_add_20 rfl ?_
  refine y_iastRN (w9 := 4) hC (by decide) (yK_a2 hT) (by omega) dX6_add_21 ?_
  refine y_aload_n hC dX6_add_22 rfl ?_
  refine y_getR hC (yK_o hT) (yK_r3 hT) f_X6_30 rfl dX6_add_23 ?_
  refine y_aload_n hC dX6_add_26 rfl ?_
  refine y_getIR (w9 := 4) hC (by decide) (yK_o hT) f_X6_60 rfl dX6_add_27 ?_
  refine y_eqI (y := nI c) hc ?_
  refine y_iload_n hC dX6_add_30 rfl ?_
  refine y_iastRN (w9 := 4) hC (by decide) (yK_a3 hT) (by omega) dX6_add_31 ?_
  refine y_aload_n hC dX6_add_32 rfl ?_
  refine y_getR hC (yK_o hT) (yK_r4 hT) f_X6_33 rfl dX6_add_33 ?_
  refine y_aload_n hC dX6_add_36 rfl ?_
  refine y_getIR (w9 := 4) hC (by decide) (yK_o hT) f_X6_60 rfl dX6_add_37 ?_
  refine y_eqI (y := nI c) hc ?_
  refine y_iload_n hC dX6_add_40 rfl ?_
  refine y_iastRN (w9 := 4) hC (by decide) (yK_a4 hT) (by omega) dX6_add_41 ?_
  refine y_aload_n hC dX6_add_42 rfl ?_
  refine y_dup hC dX6_add_43 rfl ?_
  refine y_getIR (w9 := 4) hC (by decide) (yK_o hT) f_X6_60 rfl dX6_add_44 ?_
  refine y_eqI (y := nI c) hc ?_
  refine y_iconst (v := nI 1) hC dX6_add_47 (by decide) ?_
  refine y_iaddN hC dX6_add_48 ?_
  refine y_putIR (w9 := 4) hC (by decide) (yK_o hT) f_X6_60 rfl (Or.inl rfl) dX6_add_49 ?_
  exact y_vret hC hr (Nat.zero_le _) (Nat.zero_le _) dX6_add_52 (yF.mk rfl)
