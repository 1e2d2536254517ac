abbrev wdP (b : Nat → Int32) (s e i : Nat) : Prop := e - s = sN i ∧ ∀ k, k < sN i → b (s + k) = sB i k
set_option maxRecDepth 100000 in
set_option maxHeartbeats 4000000 in
theorem c_X6_isWord (l : Launch) (D : yD) (z : Nat) {n : Nat} {sh : yS} {I : yI} {L : yL} {t b m : Nat} {T : yI} {by8 : Nat → Int32} (hT : yTok sh t b m 900) (hbt : b < t ∨ t + 4 ≤ b) (hb : I b = by8) {len : Nat} (hlen : T 0 1 = nI len) (hl9 : len ≤ 900) {i s e : Nat} (hi : i < 10) (hs : s ≤ e) (he : e ≤ len) : yM l D z yX6_isWord cX6_isWord 5 (some .boolean) 4 0 0 [.ref t, .ref (D.2.2.1 i), .int (nI s), .int (nI e)] n sh (sR 4 I t T) L (yF (some (.int (b2i (wdP by8 s e i)))) n sh (sR 4 I t T) L) (yno) := by
  refine yM_of (by decide) (Nat.le_of_ble_eq_true rfl) rfl ?_
  intro X hC hr hnm hRc hRs htb
  have hC : yC X D z cX6_isWord RX6 5 4 := hC
  have sn := sN_lt i hi
  refine y_aload_n hC dX6_isWord_0 rfl ?_
  refine y_callT hC hi (c_J0_length_8abf5 X.2.1 D z hi) t_X6_87 rfl (by decide) (Nat.le_of_ble_eq_true rfl) (Nat.zero_le _) (Nat.zero_le _) dX6_isWord_1 ?_
  refine y_iload_n hC dX6_isWord_4 rfl ?_
  refine y_iload_n hC dX6_isWord_5 rfl ?_
  refine y_isub hC dX6_isWord_6 ?_
  rw [pk_sub (by omega)]
  refine y_icmp_eq (tgt := 12) hC dX6_isWord_7 (by decide) (fun c7 => ?_) (fun c7 => ?_)
  · have hse : e - s = sN i := (nI_eq2 c7).symm
    refine y_iconst (v := nI 0) hC dX6_isWord_12 (by decide) ?_
    refine y_istore hC dX6_isWord_13 (by decide) rfl ?_
    have lp15 : ∀ (f9 j : Nat) , j + f9 = (sN i) → (∀ k, k < j → by8 (s + k) = sB i k) → Y X D z 5 n sh (sR 4 I t T) L 0 0 (yEnd X D z (yF (some (.int (b2i (wdP by8 s e i)))) n sh (sR 4 I t T) L) (yno) 0 0) 15 [some (.ref t), some (.ref (D.2.2.1 i)), some (.int (nI s)), some (.int (nI e)), some (.int (nI j))] [] := by
      intro f9
      induction f9 with
      | zero =>
        intro j hm hj
        refine y_iload hC dX6_isWord_15 rfl ?_
        refine y_aload_n hC dX6_isWord_17 rfl ?_
        refine y_callT hC hi (c_J0_length_8abf5 X.2.1 D z hi) t_X6_87 rfl (by decide) (Nat.le_of_ble_eq_true rfl) (Nat.zero_le _) (Nat.zero_le _) dX6_isWord_18 ?_
        refine y_icmp_ge (tgt := 50) hC dX6_isWord_21 (by decide) (fun c21 => ?_) (fun c21 => absurd (nI_le (by omega) (by omega)) c21)
        refine y_iconst (v := 1) hC dX6_isWord_50 (by decide) ?_
        exact y_iret hC hr rfl (Nat.zero_le _) (Nat.zero_le _) dX6_isWord_51 (yF.t ⟨hse, fun k hk => hj k (by omega)⟩)
      | succ f9 ih =>
        intro j hm hj
        refine y_iload hC dX6_isWord_15 rfl ?_
        refine y_aload_n hC dX6_isWord_17 rfl ?_
        refine y_callT hC hi (c_J0_length_8abf5 X.2.1 D z hi) t_X6_87 rfl (by decide) (Nat.le_of_ble_eq_true rfl) (Nat.zero_le _) (Nat.zero_le _) dX6_isWord_18 ?_
        refine y_icmp_ge (tgt := 50) hC dX6_isWord_21 (by decide) (fun c21 => absurd c21 (nI_ge (by omega) (by omega))) (fun c21 => ?_)
        refine y_aload_n hC dX6_isWord_24 rfl ?_
        refine y_getR hC (yK_o hT) (yK_r0 hT) f_X6_7 rfl dX6_isWord_25 ?_
        refine y_iload_n hC dX6_isWord_28 rfl ?_
        refine y_iload hC dX6_isWord_29 rfl ?_
        refine y_iaddN hC dX6_isWord_31 ?_
        refine y_baldN hC (yK_a0 hT) (by omega) dX6_isWord_32 ?_
        rw [sR_out hbt, hb]
        refine y_aload_n hC dX6_isWord_33 rfl ?_
        refine y_iload hC dX6_isWord_34 rfl ?_
        refine y_callT hC hi (c_J0_charAt_5068e X.2.1 D z hi (j := j) (by omega)) t_X6_92 rfl (by decide) (Nat.le_of_ble_eq_true rfl) (Nat.zero_le _) (Nat.zero_le _) dX6_isWord_36 ?_
        refine y_icmp_eq (tgt := 44) hC dX6_isWord_39 (by decide) (fun c39 => ?_) (fun c39 => ?_)
        · refine y_iincN hC dX6_isWord_44 rfl rfl (by decide) rfl ?_
          refine y_goto (tgt := 15) hC dX6_isWord_47 (by decide) ?_
          exact ih (j + 1) (by omega) (fun k hk => by rcases Nat.lt_or_ge k j with h | h; exact hj k h; exact (show k = j by omega) ▸ c39)
        · refine y_iconst (v := 0) hC dX6_isWord_42 (by decide) ?_
          exact y_iret hC hr rfl (Nat.zero_le _) (Nat.zero_le _) dX6_isWord_43 (yF.f (fun q => c39 (q.2 j (by omega))))
    exact lp15 (sN i) 0 (Nat.zero_add _) (fun k hk => absurd hk (Nat.not_lt_zero _))
  · refine y_iconst (v := 0) hC dX6_isWord_10 (by decide) ?_
    exact y_iret hC hr rfl (Nat.zero_le _) (Nat.zero_le _) dX6_isWord_11 (yF.f (fun q => c7 (by rw [q.1])))
def kwd (b : Nat → Int32) (s e : Nat) : Int32 := if wdP b s e 0 then 257 else if wdP b s e 1 then 258 else if wdP b s e 2 then 259 else if wdP b s e 3 then 260 else if wdP b s e 4 then 261 else if wdP b s e 5 then 262 else if wdP b s e 6 then 263 else if wdP b s e 7 then 264 else if wdP b s e 8 then 265 else if wdP b s e 9 then 266 else 267
set_option maxRecDepth 100000 in
set_option maxHeartbeats 4000000 in
theorem c_X6_kindOfWord (l : Launch) (D : yD) (z : Nat) {n : Nat} {sh : yS} {I : yI} {L : yL} {t b m : Nat} {T : yI} {by8 : Nat → Int32} (hT : yTok sh t b m 900) (hbt : b < t ∨ t + 4 ≤ b) (hb : I b = by8) {len : Nat} (hlen : T 0 1 = nI len) (hl9 : len ≤ 900) {s e : Nat} (hs : s ≤ e) (he : e ≤ len) : yM l D z yX6_kindOfWord cX6_kindOfWord 3 (some .int) 5 0 0 [.ref t, .int (nI s), .int (nI e)] n sh (sR 4 I t T) L (yF (some (.int (kwd by8 s e))) n sh (sR 4 I t T) L) (yno) := by
  refine yM_of (by decide) (Nat.le_of_ble_eq_true rfl) rfl ?_
  intro X hC hr hnm hRc hRs htb
  have hC : yC X D z cX6_kindOfWord RX6 3 5 := hC
  refine y_aload_n hC dX6_kindOfWord_0 rfl ?_
  refine y_ldcS (j := 0) (tx := "parties") hC (by decide +kernel) dX6_kindOfWord_1 ?_
  refine y_iload_n hC dX6_kindOfWord_3 rfl ?_
  refine y_iload_n hC dX6_kindOfWord_4 rfl ?_
  refine y_callV1 hC (c_X6_isWord X.2.1 D z hT hbt hb hlen hl9 (i := 0) (by decide) hs he) m_X6_66 rfl (yK_o hT) (by decide) (Nat.le_of_ble_eq_true rfl) (Nat.zero_le _) (Nat.zero_le _) dX6_kindOfWord_5 ?_
  refine y_if_eqB (tgt := 15) hC dX6_kindOfWord_8 (by decide) (fun c8 => ?_) (fun c8 => ?_)
  · refine y_aload_n hC dX6_kindOfWord_15 rfl ?_
    refine y_ldcS (j := 1) (tx := "reason") hC (by decide +kernel) dX6_kindOfWord_16 ?_
    refine y_iload_n hC dX6_kindOfWord_18 rfl ?_
    refine y_iload_n hC dX6_kindOfWord_19 rfl ?_
    refine y_callV1 hC (c_X6_isWord X.2.1 D z hT hbt hb hlen hl9 (i := 1) (by decide) hs he) m_X6_66 rfl (yK_o hT) (by decide) (Nat.le_of_ble_eq_true rfl) (Nat.zero_le _) (Nat.zero_le _) dX6_kindOfWord_20 ?_
    refine y_if_eqB (tgt := 30) hC dX6_kindOfWord_23 (by decide) (fun c23 => ?_) (fun c23 => ?_)
    · refine y_aload_n hC dX6_kindOfWord_30 rfl ?_
      refine y_ldcS (j := 2) (tx := "needs") hC (by decide +kernel) dX6_kindOfWord_31 ?_
      refine y_iload_n hC dX6_kindOfWord_33 rfl ?_
      refine y_iload_n hC dX6_kindOfWord_34 rfl ?_
      refine y_callV1 hC (c_X6_isWord X.2.1 D z hT hbt hb hlen hl9 (i := 2) (by decide) hs he) m_X6_66 rfl (yK_o hT) (by decide) (Nat.le_of_ble_eq_true rfl) (Nat.zero_le _) (Nat.zero_le _) dX6_kindOfWord_35 ?_
      refine y_if_eqB (tgt := 45) hC dX6_kindOfWord_38 (by decide) (fun c38 => ?_) (fun c38 => ?_)
      · refine y_aload_n hC dX6_kindOfWord_45 rfl ?_
        refine y_ldcS (j := 3) (tx := "fees") hC (by decide +kernel) dX6_kindOfWord_46 ?_
        refine y_iload_n hC dX6_kindOfWord_48 rfl ?_
        refine y_iload_n hC dX6_kindOfWord_49 rfl ?_
        refine y_callV1 hC (c_X6_isWord X.2.1 D z hT hbt hb hlen hl9 (i := 3) (by decide) hs he) m_X6_66 rfl (yK_o hT) (by decide) (Nat.le_of_ble_eq_true rfl) (Nat.zero_le _) (Nat.zero_le _) dX6_kindOfWord_50 ?_
        refine y_if_eqB (tgt := 60) hC dX6_kindOfWord_53 (by decide) (fun c53 => ?_) (fun c53 => ?_)
        · refine y_aload_n hC dX6_kindOfWord_60 rfl ?_
          refine y_ldcS (j := 4) (tx := "score") hC (by decide +kernel) dX6_kindOfWord_61 ?_
          refine y_iload_n hC dX6_kindOfWord_63 rfl ?_
          refine y_iload_n hC dX6_kindOfWord_64 rfl ?_
          refine y_callV1 hC (c_X6_isWord X.2.1 D z hT hbt hb hlen hl9 (i := 4) (by decide) hs he) m_X6_66 rfl (yK_o hT) (by decide) (Nat.le_of_ble_eq_true rfl) (Nat.zero_le _) (Nat.zero_le _) dX6_kindOfWord_65 ?_
          refine y_if_eqB (tgt := 75) hC dX6_kindOfWord_68 (by decide) (fun c68 => ?_) (fun c68 => ?_)
          · refine y_aload_n hC dX6_kindOfWord_75 rfl ?_
            refine y_ldcS (j := 5) (tx := "limit") hC (by decide +kernel) dX6_kindOfWord_76 ?_
            refine y_iload_n hC dX6_kindOfWord_78 rfl ?_
            refine y_iload_n hC dX6_kindOfWord_79 rfl ?_
            refine y_callV1 hC (c_X6_isWord X.2.1 D z hT hbt hb hlen hl9 (i := 5) (by decide) hs he) m_X6_66 rfl (yK_o hT) (by decide) (Nat.le_of_ble_eq_true rfl) (Nat.zero_le _) (Nat.zero_le _) dX6_kindOfWord_80 ?_
            refine y_if_eqB (tgt := 90) hC dX6_kindOfWord_83 (by decide) (fun c83 => ?_) (fun c83 => ?_)
            · refine y_aload_n hC dX6_kindOfWord_90 rfl ?_
              refine y_ldcS (j := 6) (tx := "count") hC (by decide +kernel) dX6_kindOfWord_91 ?_
              refine y_iload_n hC dX6_kindOfWord_93 rfl ?_
              refine y_iload_n hC dX6_kindOfWord_94 rfl ?_
              refine y_callV1 hC (c_X6_isWord X.2.1 D z hT hbt hb hlen hl9 (i := 6) (by decide) hs he) m_X6_66 rfl (yK_o hT) (by decide) (Nat.le_of_ble_eq_true rfl) (Nat.zero_le _) (Nat.zero_le _) dX6_kindOfWord_95 ?_
              refine y_if_eqB (tgt := 105) hC dX6_kindOfWord_98 (by decide) (fun c98 => ?_) (fun c98 => ?_)
              · refine y_aload_n hC dX6_kindOfWord_105 rfl ?_
                refine y_ldcS (j := 7) (tx := "needed") hC (by decide +kernel) dX6_kindOfWord_106 ?_
                refine y_iload_n hC dX6_kindOfWord_108 rfl ?_
                refine y_iload_n hC dX6_kindOfWord_109 rfl ?_
                refine y_callV1 hC (c_X6_isWord X.2.1 D z hT hbt hb hlen hl9 (i := 7) (by decide) hs he) m_X6_66 rfl (yK_o hT) (by decide) (Nat.le_of_ble_eq_true rfl) (Nat.zero_le _) (Nat.zero_le _) dX6_kindOfWord_110 ?_
                refine y_if_eqB (tgt := 120) hC dX6_kindOfWord_113 (by decide) (fun c113 => ?_) (fun c113 => ?_)
                · refine y_aload_n hC dX6_kindOfWord_120 rfl ?_
                  refine y_ldcS (j := 8) (tx := "amount") hC (by decide +kernel) dX6_kindOfWord_121 ?_
                  refine y_iload_n hC dX6_kindOfWord_123 rfl ?_
                  refine y_iload_n hC dX6_kindOfWord_124 rfl ?_
                  refine y_callV1 hC (c_X6_isWord X.2.1 D z hT hbt hb hlen hl9 (i := 8) (by decide) hs he) m_X6_66 rfl (yK_o hT) (by decide) (Nat.le_of_ble_eq_true rfl) (Nat.zero_le _) (Nat.zero_le _) dX6_kindOfWord_125 ?_
                  refine y_if_eqB (tgt := 135) hC dX6_kindOfWord_128 (by decide) (fun c128 => ?_) (fun c128 => ?_)
                  · refine y_aload_n hC dX6_kindOfWord_135 rfl ?_
                    refine y_ldcS (j := 9) (tx := "days") hC (by decide +kernel) dX6_kindOfWord_136 ?_
                    refine y_iload_n hC dX6_kindOfWord_138 rfl ?_
                    refine y_iload_n hC dX6_kindOfWord_139 rfl ?_
                    refine y_callV1 hC (c_X6_isWord X.2.1 D z hT hbt hb hlen hl9 (i := 9) (by decide) hs he) m_X6_66 rfl (yK_o hT) (by decide) (Nat.le_of_ble_eq_true rfl) (Nat.zero_le _) (Nat.zero_le _) dX6_kindOfWord_140 ?_
                    refine y_if_eqB (tgt := 152) hC dX6_kindOfWord_143 (by decide) (fun c143 => ?_) (fun c143 => ?_)
                    · refine y_sipush (v := 267) hC dX6_kindOfWord_152 (by decide) ?_
                      exact y_iret hC hr rfl (Nat.zero_le _) (Nat.zero_le _) dX6_kindOfWord_155 (yF.mk (congrArg (fun q => some (Value.int q)) (by rw [kwd, if_neg c8, if_neg c23, if_neg c38, if_neg c53, if_neg c68, if_neg c83, if_neg c98, if_neg c113, if_neg c128, if_neg c143])))
                    · refine y_sipush (v := 266) hC dX6_kindOfWord_146 (by decide) ?_
                      refine y_goto (tgt := 155) hC dX6_kindOfWord_149 (by decide) ?_
                      exact y_iret hC hr rfl (Nat.zero_le _) (Nat.zero_le _) dX6_kindOfWord_155 (yF.mk (congrArg (fun q => some (Value.int q)) (by rw [kwd, if_neg c8, if_neg c23, if_neg c38, if_neg c53, if_neg c68, if_neg c83, if_neg c98, if_neg c113, if_neg c128, if_pos c143])))
                  · refine y_sipush (v := 265) hC dX6_kindOfWord_131 (by decide) ?_
                    exact y_iret hC hr rfl (Nat.zero_le _) (Nat.zero_le _) dX6_kindOfWord_134 (yF.mk (congrArg (fun q => some (Value.int q)) (by rw [kwd, if_neg c8, if_neg c23, if_neg c38, if_neg c53, if_neg c68, if_neg c83, if_neg c98, if_neg c113, if_pos c128])))
                · refine y_sipush (v := 264) hC dX6_kindOfWord_116 (by decide) ?_
                  exact y_iret hC hr rfl (Nat.zero_le _) (Nat.zero_le _) dX6_kindOfWord_119 (yF.mk (congrArg (fun q => some (Value.int q)) (by rw [kwd, if_neg c8, if_neg c23, if_neg c38, if_neg c53, if_neg c68, if_neg c83, if_neg c98, if_pos c113])))
              · refine y_sipush (v := 263) hC dX6_kindOfWord_101 (by decide) ?_
                exact y_iret hC hr rfl (Nat.zero_le _) (Nat.zero_le _) dX6_kindOfWord_104 (yF.mk (congrArg (fun q => some (Value.int q)) (by rw [kwd, if_neg c8, if_neg c23, if_neg c38, if_neg c53, if_neg c68, if_neg c83, if_pos c98])))
            · refine y_sipush (v := 262) hC dX6_kindOfWord_86 (by decide) ?_
              exact y_iret hC hr rfl (Nat.zero_le _) (Nat.zero_le _) dX6_kindOfWord_89 (yF.mk (congrArg (fun q => some (Value.int q)) (by rw [kwd, if_neg c8, if_neg c23, if_neg c38, if_neg c53, if_neg c68, if_pos c83])))
          · refine y_sipush (v := 261) hC dX6_kindOfWord_71 (by decide) ?_
            exact y_iret hC hr rfl (Nat.zero_le _) (Nat.zero_le _) dX6_kindOfWord_74 (yF.mk (congrArg (fun q => some (Value.int q)) (by rw [kwd, if_neg c8, if_neg c23, if_neg c38, if_neg c53, if_pos c68])))
        · refine y_sipush (v := 260) hC dX6_kindOfWord_56 (by decide) ?_
          exact y_iret hC hr rfl (Nat.zero_le _) (Nat.zero_le _) dX6_kindOfWord_59 (yF.mk (congrArg (fun q => some (Value.int q)) (by rw [kwd, if_neg c8, if_neg c23, if_neg c38, if_pos c53])))
      · refine y_sipush (v := 259) hC dX6_kindOfWord_41 (by decide) ?_
        exact y_iret hC hr rfl (Nat.zero_le _) (Nat.zero_le _) dX6_kindOfWord_44 (yF.mk (congrArg (fun q => some (Value.int q)) (by rw [kwd, if_neg c8, if_neg c23, if_pos c38])))
    · refine y_sipush (v := 258) hC dX6_kindOfWord_26 (by decide) ?_
      exact y_iret hC hr rfl (Nat.zero_le _) (Nat.zero_le _) dX6_kindOfWord_29 (yF.mk (congrArg (fun q => some (Value.int q)) (by rw [kwd, if_neg c8, if_pos c23])))
  · refine y_sipush (v := 257) hC dX6_kindOfWord_11 (by decide) ?_
    exact y_iret hC hr rfl (Nat.zero_le _) (Nat.zero_le _) dX6_kindOfWord_14 (yF.mk (congrArg (fun q => some (Value.int q)) (by rw [kwd, if_pos c8])))
theorem mx_nI {a b : Nat} (ha : a < 2147483648) (hb : b < 2147483648) : (if nI a < nI b then nI b else nI a) = nI (max a b) := by
  by_cases h : a < b
  · rw [if_pos (nI_lt h (by omega)), Nat.max_eq_right (by omega)]
  · rw [if_neg (nI_nlt (by omega) (by omega)), Nat.max_eq_left (by omega)]
theorem rn_gt {P : Int32 → Prop} [DecidablePred P] {b : Nat → Int32} {f s : Nat} (h : P (b s)) (hf : 0 < f) : s + 1 ≤ rn P b f s := by
  rcases f with _ | f
  · exact absurd hf (by decide)
  · rw [rn, if_pos h]; exact rn_ge f (s + 1)
/-- the text from a on is cut into tokens; c stand there already -/
def cuS (b : Nat → Int32) (N : Nat) : Nat → Nat → Nat → yI → yI
  | 0, _, c, T => addT T c (-1) (nI N) 0
  | f + 1, a, c, T => if N ≤ a then addT T c (-1) (nI N) 0
    else if dgP (b a) then cuS b N f (rn dgP b (N - a) a) (c + 1) (addT T c 256 (nI a) (dv b (rn dgP b (N - a) a - a) a 0))
    else if ltP (b a) then cuS b N f (rn ltP b (N - a) a) (c + 1) (addT T c (kwd b a (rn ltP b (N - a) a)) (nI a) 0)
    else if b a = 32 then cuS b N f (a + 1) c T
    else cuS b N f (a + 1) (c + 1) (addT T c (b a &&& 255) (nI a) 0)
set_option maxRecDepth 100000 in
set_option maxHeartbeats 4000000 in
theorem c_X6_cut (l : Launch) (D : yD) (z : Nat) {n : Nat} {sh : yS} {I : yI} {L : yL} {t b len : Nat} {T : yI} {by8 : Nat → Int32} (hT : yTok sh t b (len + 1) 900) (hbt : b < t ∨ t + 4 ≤ b) (hb : I b = by8) (hlen : T 0 1 = nI len) (hl9 : len ≤ 900) (hc0 : T 0 5 = nI 0) : yM l D z yX6_cut cX6_cut 3 none 6 0 0 [.ref t] n sh (sR 4 I t T) L (yF none n sh (sR 4 I t (cuS by8 len len 0 0 T)) L) (yno) := by
  refine yM_of (by decide) (Nat.le_of_ble_eq_true rfl) rfl ?_
  intro X hC hr hnm hRc hRs htb
  have hC : yC X D z cX6_cut RX6 3 6 := hC
  obtain ⟨T0, hT0⟩ : ∃ T0, T0 = T := ⟨_, rfl⟩
  rw [show cuS by8 len len 0 0 T = cuS by8 len len 0 0 T0 by rw [hT0]]
  refine y_iconst (v := nI 0) hC dX6_cut_0 (by decide) ?_
  refine y_istore_n hC dX6_cut_1 (by decide) rfl ?_
  refine y_iconst (v := nI 0) hC dX6_cut_2 (by decide) ?_
  refine y_istore_n hC dX6_cut_3 (by decide) rfl ?_
  have lp4 : ∀ (f9 a : Nat) (e9 c : Nat) (T : yI), (len ≤ a + f9 ∧ a ≤ len ∧ e9 ≤ a ∧ c ≤ a) → (T 0 1 = nI len ∧ T 0 5 = nI c) → cuS by8 len f9 a c T = cuS by8 len len 0 0 T0 → Y X D z 3 n sh (sR 4 I t T) L 0 0 (yEnd X D z (yF none n sh (sR 4 I t (cuS by8 len len 0 0 T0)) L) (yno) 0 0) 4 [some (.ref t), some (.int (nI e9)), some (.int (nI a))] [] := by
    intro f9
    induction f9 with
    | zero =>
      intro a e9 c T hm ht hi
      obtain ⟨m1, m2, m3, m4⟩ := hm
      obtain ⟨hlen, hc⟩ := ht
      refine y_iload_n hC dX6_cut_4 rfl ?_
      refine y_aload_n hC dX6_cut_5 rfl ?_
      refine y_getIR (w9 := 4) hC (by decide) (yK_o hT) f_X6_22 rfl dX6_cut_6 ?_
      rw [hlen]
      refine y_icmp_ge (tgt := 118) hC dX6_cut_9 (by decide) (fun c9 => ?_) (fun c9 => absurd (nI_le (by omega) (by omega)) c9)
      refine y_aload_n hC dX6_cut_118 rfl ?_
      refine y_iconst (v := (-1)) hC dX6_cut_119 (by decide) ?_
      refine y_aload_n hC dX6_cut_120 rfl ?_
      refine y_getIR (w9 := 4) hC (by decide) (yK_o hT) f_X6_22 rfl dX6_cut_121 ?_
      rw [hlen]
      refine y_iconst (v := 0) hC dX6_cut_124 (by decide) ?_
      refine y_callV0 hC (c_X6_add X.2.1 D z hT hc (by omega) (by omega)) m_X6_47 rfl (yK_o hT) (by decide) (Nat.le_of_ble_eq_true rfl) (Nat.zero_le _) (Nat.zero_le _) dX6_cut_125 ?_
      exact y_vret hC hr (Nat.zero_le _) (Nat.zero_le _) dX6_cut_128 (by rw [← hi]; first | exact yF.mk rfl | (rw [cuS, if_pos (nI_le2 c9)]; exact yF.mk rfl))
    | succ f9 ih =>
      intro a e9 c T hm ht hi
      obtain ⟨m1, m2, m3, m4⟩ := hm
      obtain ⟨hlen, hc⟩ := ht
      refine y_iload_n hC dX6_cut_4 rfl ?_
      refine y_aload_n hC dX6_cut_5 rfl ?_
      refine y_getIR (w9 := 4) hC (by decide) (yK_o hT) f_X6_22 rfl dX6_cut_6 ?_
      rw [hlen]
      refine y_icmp_ge (tgt := 118) hC dX6_cut_9 (by decide) (fun c9 => ?_) (fun c9 => ?_)
      · refine y_aload_n hC dX6_cut_118 rfl ?_
        refine y_iconst (v := (-1)) hC dX6_cut_119 (by decide) ?_
        refine y_aload_n hC dX6_cut_120 rfl ?_
        refine y_getIR (w9 := 4) hC (by decide) (yK_o hT) f_X6_22 rfl dX6_cut_121 ?_
        rw [hlen]
        refine y_iconst (v := 0) hC dX6_cut_124 (by decide) ?_
        refine y_callV0 hC (c_X6_add X.2.1 D z hT hc (by omega) (by omega)) m_X6_47 rfl (yK_o hT) (by decide) (Nat.le_of_ble_eq_true rfl) (Nat.zero_le _) (Nat.zero_le _) dX6_cut_125 ?_
        exact y_vret hC hr (Nat.zero_le _) (Nat.zero_le _) dX6_cut_128 (by rw [← hi]; first | exact yF.mk rfl | (rw [cuS, if_pos (nI_le2 c9)]; exact yF.mk rfl))
      · have aN : a < len := nI_nle2 c9
        refine y_aload_n hC dX6_cut_12 rfl ?_
        refine y_getR hC (yK_o hT) (yK_r0 hT) f_X6_7 rfl dX6_cut_13 ?_
        refine y_iload_n hC dX6_cut_16 rfl ?_
        refine y_baldN hC (yK_a0 hT) (by omega) dX6_cut_17 ?_
        rw [sR_out hbt, hb]
        refine y_callS1 hC (c_X6_isDigit X.2.1 D z) m_X6_36 rfl (by decide) (Nat.le_of_ble_eq_true rfl) (Nat.zero_le _) (Nat.zero_le _) dX6_cut_18 ?_
        refine y_if_eqB (tgt := 47) hC dX6_cut_21 (by decide) (fun c21 => ?_) (fun c21 => ?_)
        · refine y_aload_n hC dX6_cut_47 rfl ?_
          refine y_getR hC (yK_o hT) (yK_r0 hT) f_X6_7 rfl dX6_cut_48 ?_
          refine y_iload_n hC dX6_cut_51 rfl ?_
          refine y_baldN hC (yK_a0 hT) (by omega) dX6_cut_52 ?_
          rw [sR_out hbt, hb]
          refine y_callS1 hC (c_X6_isLetter X.2.1 D z) m_X6_51 rfl (by decide) (Nat.le_of_ble_eq_true rfl) (Nat.zero_le _) (Nat.zero_le _) dX6_cut_53 ?_
          refine y_if_eqB (tgt := 80) hC dX6_cut_56 (by decide) (fun c56 => ?_) (fun c56 => ?_)
          · refine y_aload_n hC dX6_cut_80 rfl ?_
            refine y_getR hC (yK_o hT) (yK_r0 hT) f_X6_7 rfl dX6_cut_81 ?_
            refine y_iload_n hC dX6_cut_84 rfl ?_
            refine y_baldN hC (yK_a0 hT) (by omega) dX6_cut_85 ?_
            rw [sR_out hbt, hb]
            refine y_bipush (v := 32) hC dX6_cut_86 (by decide) ?_
            refine y_icmp_eq (tgt := 107) hC dX6_cut_88 (by decide) (fun c88 => ?_) (fun c88 => ?_)
            · refine y_iload_n hC dX6_cut_107 rfl ?_
              refine y_iconst (v := nI 1) hC dX6_cut_108 (by decide) ?_
              refine y_iaddN hC dX6_cut_109 ?_
              refine y_iload_n hC dX6_cut_110 rfl ?_
              refine y_mmax hC m_X6_19 (by decide) (Nat.le_of_ble_eq_true rfl) (Nat.zero_le _) (Nat.zero_le _) dX6_cut_111 ?_
              rw [mx_nI (by omega) (by omega)]
              refine y_istore_n hC dX6_cut_114 (by decide) rfl ?_
              refine y_goto (tgt := 4) hC dX6_cut_115 (by decide) ?_
              rw [Nat.max_eq_left (by omega)]
              exact ih (a + 1) e9 c _ ⟨by omega, by omega, by omega, by omega⟩ ⟨hlen, hc⟩ (Eq.trans (by rw [cuS, if_neg (by omega), if_neg c21, if_neg c56, if_pos c88]) hi)
            · refine y_aload_n hC dX6_cut_91 rfl ?_
              refine y_aload_n hC dX6_cut_92 rfl ?_
              refine y_getR hC (yK_o hT) (yK_r0 hT) f_X6_7 rfl dX6_cut_93 ?_
              refine y_iload_n hC dX6_cut_96 rfl ?_
              refine y_baldN hC (yK_a0 hT) (by omega) dX6_cut_97 ?_
              rw [sR_out hbt, hb]
              refine y_sipush (v := 255) hC dX6_cut_98 (by decide) ?_
              refine y_iand hC dX6_cut_101 ?_
              refine y_iload_n hC dX6_cut_102 rfl ?_
              refine y_iconst (v := 0) hC dX6_cut_103 (by decide) ?_
              refine y_callV0 hC (c_X6_add X.2.1 D z hT hc (by omega) (by omega)) m_X6_47 rfl (yK_o hT) (by decide) (Nat.le_of_ble_eq_true rfl) (Nat.zero_le _) (Nat.zero_le _) dX6_cut_104 ?_
              refine y_iload_n hC dX6_cut_107 rfl ?_
              refine y_iconst (v := nI 1) hC dX6_cut_108 (by decide) ?_
              refine y_iaddN hC dX6_cut_109 ?_
              refine y_iload_n hC dX6_cut_110 rfl ?_
              refine y_mmax hC m_X6_19 (by decide) (Nat.le_of_ble_eq_true rfl) (Nat.zero_le _) (Nat.zero_le _) dX6_cut_111 ?_
              rw [mx_nI (by omega) (by omega)]
              refine y_istore_n hC dX6_cut_114 (by decide) rfl ?_
              refine y_goto (tgt := 4) hC dX6_cut_115 (by decide) ?_
              rw [Nat.max_eq_left (by omega)]
              exact ih (a + 1) e9 (c + 1) _ ⟨by omega, by omega, by omega, by omega⟩ ⟨hlen, rfl⟩ (Eq.trans (by rw [cuS, if_neg (by omega), if_neg c21, if_neg c56, if_neg c88]) hi)
          · refine y_aload_n hC dX6_cut_59 rfl ?_
            refine y_iload_n hC dX6_cut_60 rfl ?_
            refine y_callV1 hC (c_X6_endOfLetters X.2.1 D z hT hbt hb hlen hl9 (s := a) (by omega)) m_X6_54 rfl (yK_o hT) (by decide) (Nat.le_of_ble_eq_true rfl) (Nat.zero_le _) (Nat.zero_le _) dX6_cut_61 ?_
            have r1 := rn_le (P := ltP) (b := by8) (len - a) a
            have r2 := rn_ge (P := ltP) (b := by8) (len - a) a
            refine y_istore_n hC dX6_cut_64 (by decide) rfl ?_
            refine y_aload_n hC dX6_cut_65 rfl ?_
            refine y_aload_n hC dX6_cut_66 rfl ?_
            refine y_iload_n hC dX6_cut_67 rfl ?_
            refine y_iload_n hC dX6_cut_68 rfl ?_
            refine y_callV1 hC (c_X6_kindOfWord X.2.1 D z hT hbt hb hlen hl9 (s := a) (e := rn ltP by8 (len - a) a) (by omega) (by omega)) m_X6_57 rfl (yK_o hT) (by decide) (Nat.le_of_ble_eq_true rfl) (Nat.zero_le _) (Nat.zero_le _) dX6_cut_69 ?_
            refine y_iload_n hC dX6_cut_72 rfl ?_
            refine y_iconst (v := 0) hC dX6_cut_73 (by decide) ?_
            refine y_callV0 hC (c_X6_add X.2.1 D z hT hc (by omega) (by omega)) m_X6_47 rfl (yK_o hT) (by decide) (Nat.le_of_ble_eq_true rfl) (Nat.zero_le _) (Nat.zero_le _) dX6_cut_74 ?_
            refine y_goto (tgt := 107) hC dX6_cut_77 (by decide) ?_
            refine y_iload_n hC dX6_cut_107 rfl ?_
            refine y_iconst (v := nI 1) hC dX6_cut_108 (by decide) ?_
            refine y_iaddN hC dX6_cut_109 ?_
            refine y_iload_n hC dX6_cut_110 rfl ?_
            refine y_mmax hC m_X6_19 (by decide) (Nat.le_of_ble_eq_true rfl) (Nat.zero_le _) (Nat.zero_le _) dX6_cut_111 ?_
            rw [mx_nI (by omega) (by omega)]
            refine y_istore_n hC dX6_cut_114 (by decide) rfl ?_
            refine y_goto (tgt := 4) hC dX6_cut_115 (by decide) ?_
            have g1 := rn_gt (P := ltP) (b := by8) (f := len - a) (s := a) c56 (by omega)
            rw [Nat.max_eq_right (by omega)]
            exact ih (rn ltP by8 (len - a) a) (rn ltP by8 (len - a) a) (c + 1) _ ⟨by omega, by omega, by omega, by omega⟩ ⟨hlen, rfl⟩ (Eq.trans (by rw [cuS, if_neg (by omega), if_neg c21, if_pos c56]) hi)
        · refine y_aload_n hC dX6_cut_24 rfl ?_
          refine y_iload_n hC dX6_cut_25 rfl ?_
          refine y_callV1 hC (c_X6_endOfDigits X.2.1 D z hT hbt hb hlen hl9 (s := a) (by omega)) m_X6_40 rfl (yK_o hT) (by decide) (Nat.le_of_ble_eq_true rfl) (Nat.zero_le _) (Nat.zero_le _) dX6_cut_26 ?_
          have r1 := rn_le (P := dgP) (b := by8) (len - a) a
          have r2 := rn_ge (P := dgP) (b := by8) (len - a) a
          refine y_istore_n hC dX6_cut_29 (by decide) rfl ?_
          refine y_aload_n hC dX6_cut_30 rfl ?_
          refine y_sipush (v := 256) hC dX6_cut_31 (by decide) ?_
          refine y_iload_n hC dX6_cut_34 rfl ?_
          refine y_aload_n hC dX6_cut_35 rfl ?_
          refine y_iload_n hC dX6_cut_36 rfl ?_
          refine y_iload_n hC dX6_cut_37 rfl ?_
          refine y_callV1 hC (c_X6_valueOfDigits X.2.1 D z hT hbt hb hlen hl9 (s := a) (e := rn dgP by8 (len - a) a) (by omega) (by omega)) m_X6_44 rfl (yK_o hT) (by decide) (Nat.le_of_ble_eq_true rfl) (Nat.zero_le _) (Nat.zero_le _) dX6_cut_38 ?_
          refine y_callV0 hC (c_X6_add X.2.1 D z hT hc (by omega) (by omega)) m_X6_47 rfl (yK_o hT) (by decide) (Nat.le_of_ble_eq_true rfl) (Nat.zero_le _) (Nat.zero_le _) dX6_cut_41 ?_
          refine y_goto (tgt := 107) hC dX6_cut_44 (by decide) ?_
          refine y_iload_n hC dX6_cut_107 rfl ?_
          refine y_iconst (v := nI 1) hC dX6_cut_108 (by decide) ?_
          refine y_iaddN hC dX6_cut_109 ?_
          refine y_iload_n hC dX6_cut_110 rfl ?_
          refine y_mmax hC m_X6_19 (by decide) (Nat.le_of_ble_eq_true rfl) (Nat.zero_le _) (Nat.zero_le _) dX6_cut_111 ?_
          rw [mx_nI (by omega) (by omega)]
          refine y_istore_n hC dX6_cut_114 (by decide) rfl ?_
          refine y_goto (tgt := 4) hC dX6_cut_115 (by decide) ?_
          have g1 := rn_gt (P := dgP) (b := by8) (f := len - a) (s := a) c21 (by omega)
          rw [Nat.max_eq_right (by omega)]
          exact ih (rn dgP by8 (len - a) a) (rn dgP by8 (len - a) a) (c + 1) _ ⟨by omega, by omega, by omega, by omega⟩ ⟨hlen, rfl⟩ (Eq.trans (by rw [cuS, if_neg (by omega), if_pos c21]) hi)
  exact lp4 len 0 0 0 T ⟨by omega, by omega, by omega, by omega⟩ ⟨hlen, hc0⟩ (by rw [hT0])
