theorem y_eqI {X : yX} {D : yD} {z nL n : Nat} {sh : yS} {I : yI} {L : yL} {k w : Nat} {Q : State → Prop} {pc : Nat} {lv : List (Option Value)} {st : List Value} {x y : Int32} (h : x = y) (kk : Y X D z nL n sh I L k w Q pc lv (.int y :: st)) : Y X D z nL n sh I L k w Q pc lv (.int x :: st) := h ▸ kk
theorem y_callRem {X : yX} {D : yD} {z nL n : Nat} {sh : yS} {I : yI} {L : yL} {k w : Nat} {Q : State → Prop} {pc : Nat} {lv : List (Option Value)} {st stk : List Value} {cc : ByteArray} {own : String} {dep : Nat} {y : MethodName} {bytes : ByteArray} {maxL : Nat} {ret : Option FieldType} {d2 idx ci b q : Nat} {As : List Value} {I0 : yI} {P : yI → Prop} (hC : yC X D z cc own nL dep) (hM : yM X.2.1 D z y bytes maxL ret d2 0 0 (.ref b :: As) n sh I L (fun v n2 sh2 I2 L2 => v = none ∧ n2 = n ∧ sh2 = sh ∧ (∃ M2, I2 = sR 15 I0 q M2 ∧ P M2) ∧ L2 = L) yno) (cw : yCV own idx ci y bytes maxL ret As.length) (hs : stk = ypush (.ref b :: As) st) (hb : (sh b).1 = ci) (hdep : d2 + 1 ≤ dep) (hst : (st.map fun v => v.category).sum ≤ 8) (hk : k ≤ (yR X).cells) (hw : w ≤ (yR X).slots) (hd : decode cc pc = .ok (.invokevirtual idx, 3)) (kk : ∀ M2, P M2 → Y X D z nL n sh (sR 15 I0 q M2) L k w Q (pc + 3) lv st) : Y X D z nL n sh I L k w Q pc lv stk := y_callV hC hM cw hs hb hdep hst ⟨hk, hw⟩ hd (fun _ _ _ _ _ h => h.elim) (fun _ _ _ _ _ h => by obtain ⟨rfl, rfl, rfl, ⟨M2, rfl, hP⟩, rfl⟩ := h; exact kk M2 hP)
def pur1 (d : Nat → Int32) (np mi mr : Nat) (am : Int32) : Nat → Int32 := upd (upd (upd (upd d 3 (d 3 + 1)) (68 + 4 * np) (nI mi)) (68 + 4 * np + 1) (nI mr)) (68 + 4 * np + 2) am
def purD (d : Nat → Int32) (np mi mr : Nat) (am : Int32) : Nat → Int32 := payD (upd (pur1 d np mi mr am) (68 + 4 * np + 3) (pur1 d np mi mr am 5)) (12 + mi) (16 + mr) am
set_option maxRecDepth 100000 in
set_option maxHeartbeats 4000000 in
theorem c_X8_purchase_ (l : Launch) (D : yD) (z : Nat) {n : Nat} {sh : yS} {I : yI} {L : yL} {q : Nat} {M : yI} (hQ : yMod sh q) {u : Nat} (hu : M 0 12 = nI u) (hu8 : u ≤ 8) {ni : Nat} (hni : M 2 0 = nI ni) (ni4 : ni ≤ 4) {nm : Nat} (hnm9 : M 2 1 = nI nm) (nm4 : nm ≤ 4) {np : Nat} (hnp : M 2 3 = nI np) (np24 : np ≤ 24) {x : Int32} {mi : Nat} (hmi : vp_in x ni → x = nI mi ∧ mi < ni) {x2 : Int32} {mr : Nat} (hmr : vp_in x2 nm → x2 = nI mr ∧ mr < nm) {am : Int32} : yM l D z yX8_purchase_ cX8_purchase_ 6 (some .int) 5 0 0 [.ref q, .int x, .int x2, .int am] n sh (sR 15 I q M) L (yMw (mI ni x (mI nm x2 (mA 2 (¬ am < 1 ∧ am ≤ 99999) (mA 3 (¬ np = 24) (0, nI np))))) (purD (M 2) np mi mr am) n sh I q M u L) (yno) := by
  refine yM_of (by decide) (Nat.le_of_ble_eq_true rfl) rfl ?_
  intro X hC hr hnm hRc hRs htb
  have hC : yC X D z cX8_purchase_ RX8 6 5 := hC
  refine y_aload_n hC dX8_purchase__0 rfl ?_
  refine y_iconst (v := 0) hC dX8_purchase__1 (by decide) ?_
  refine y_putIR (w9 := 15) hC (by decide) (yM_o hQ) f_X8_39 rfl (Or.inl rfl) dX8_purchase__2 ?_
  refine y_toS q ?_
  refine y_aload_n hC dX8_purchase__5 rfl ?_
  refine y_iload_n hC dX8_purchase__6 rfl ?_
  by_cases hx : vp_in x ni
  · obtain ⟨rfl, mil⟩ := hmi hx
    refine y_callV1 hC (c_X8_noIssuer0 X.2.1 D z hQ up2_at ((congrFun (show up2 M 0 0 0 2 = M 2 from up2_r (by decide)) 0).trans hni) (by omega) hx) m_X8_227 rfl (yM_o hQ) (by decide) (Nat.le_of_ble_eq_true rfl) (Nat.zero_le _) (Nat.zero_le _) dX8_purchase__7 ?_
    refine y_if_ne (tgt := 69) hC dX8_purchase__10 (by decide) (fun c10 => absurd rfl c10) (fun c10 => ?_)
    refine y_aload_n hC dX8_purchase__13 rfl ?_
    refine y_iload_n hC dX8_purchase__14 rfl ?_
    by_cases hx2 : vp_in x2 nm
    · obtain ⟨rfl, mrl⟩ := hmr hx2
      refine y_callV1 hC (c_X8_noMerchant0 X.2.1 D z hQ up2_at ((congrFun (show up2 M 0 0 0 2 = M 2 from up2_r (by decide)) 1).trans hnm9) (by omega) hx2) m_X8_230 rfl (yM_o hQ) (by decide) (Nat.le_of_ble_eq_true rfl) (Nat.zero_le _) (Nat.zero_le _) dX8_purchase__15 ?_
      refine y_if_ne (tgt := 69) hC dX8_purchase__18 (by decide) (fun c18 => absurd rfl c18) (fun c18 => ?_)
      refine y_aload_n hC dX8_purchase__21 rfl ?_
      refine y_iload_n hC dX8_purchase__22 rfl ?_
      refine y_iconst (v := 1) hC dX8_purchase__23 (by decide) ?_
      refine y_ldcw hC k_X8_259 dX8_purchase__24 ?_
      refine y_callS1 hC (c_X8_in X.2.1 D z) m_X8_61 rfl (by decide) (Nat.le_of_ble_eq_true rfl) (Nat.zero_le _) (Nat.zero_le _) dX8_purchase__27 ?_
      refine y_if_neB (tgt := 37) hC dX8_purchase__30 (by decide) (fun c30 => ?_) (fun c30 => ?_)
      · refine y_iconst (v := 0) hC dX8_purchase__37 (by decide) ?_
        refine y_iconst (v := 2) hC dX8_purchase__38 (by decide) ?_
        refine y_callV1 hC (c_X8_fails0 X.2.1 D z hQ up2_at) m_X8_158 rfl (yM_o hQ) (by decide) (Nat.le_of_ble_eq_true rfl) (Nat.zero_le _) (Nat.zero_le _) dX8_purchase__39 ?_
        refine y_if_ne (tgt := 69) hC dX8_purchase__42 (by decide) (fun c42 => absurd rfl c42) (fun c42 => ?_)
        refine y_aload_n hC dX8_purchase__45 rfl ?_
        refine y_aload_n hC dX8_purchase__46 rfl ?_
        refine y_getR hC (yM_o hQ) (yM_r8 hQ) f_X8_17 rfl dX8_purchase__47 ?_
        refine y_iconst (v := nI 3) hC dX8_purchase__50 (by decide) ?_
        refine y_ialdRN (w9 := 15) hC (by decide) (yM_a8 hQ) (by decide) dX8_purchase__51 ?_
        rw [show up2 M 0 0 0 2 3 = nI np from hnp]
        refine y_bipush (v := nI 24) hC dX8_purchase__52 (by decide) ?_
        refine y_icmp_ne (tgt := 61) hC dX8_purchase__54 (by decide) (fun c54 => ?_) (fun c54 => ?_)
        · refine y_iconst (v := 0) hC dX8_purchase__61 (by decide) ?_
          refine y_iconst (v := 3) hC dX8_purchase__62 (by decide) ?_
          refine y_callV1 hC (c_X8_fails0 X.2.1 D z hQ up2_at) m_X8_158 rfl (yM_o hQ) (by decide) (Nat.le_of_ble_eq_true rfl) (Nat.zero_le _) (Nat.zero_le _) dX8_purchase__63 ?_
          refine y_if_eq (tgt := 71) hC dX8_purchase__66 (by decide) (fun c66 => ?_) (fun c66 => absurd rfl c66)
          refine y_aload_n hC dX8_purchase__71 rfl ?_
          refine y_callRem (I0 := I) (q := q) hC (c_rem_at X.2.1 D z (M := up2 M 0 0 0) hQ hu hu8) m_X8_165 rfl (yM_o hQ) (by decide) (Nat.le_of_ble_eq_true rfl) (Nat.zero_le _) (Nat.zero_le _) dX8_purchase__72 (fun Mr hrm => ?_)
          have e2 : Mr 2 = M 2 := hrm.1
          have np23 : np < 24 := by have := nI_ne2 c54; omega
          refine y_aload_n hC dX8_purchase__75 rfl ?_
          refine y_getR hC (yM_o hQ) (yM_r8 hQ) f_X8_17 rfl dX8_purchase__76 ?_
          refine y_iconst (v := nI 3) hC dX8_purchase__79 (by decide) ?_
          refine y_ialdRN (w9 := 15) hC (by decide) (yM_a8 hQ) (by decide) dX8_purchase__80 ?_
          rw [show Mr 2 3 = nI np from (congrFun e2 3).trans hnp]
          refine y_istore hC dX8_purchase__81 (by decide) rfl ?_
          refine y_iload hC dX8_purchase__83 rfl ?_
          refine y_callS1 hC (c_X8_purchase X.2.1 D z (j := np) rfl) m_X8_190 rfl (by decide) (Nat.le_of_ble_eq_true rfl) (Nat.zero_le _) (Nat.zero_le _) dX8_purchase__85 ?_
          refine y_istore hC dX8_purchase__88 (by decide) rfl ?_
          refine y_aload_n hC dX8_purchase__90 rfl ?_
          refine y_getR hC (yM_o hQ) (yM_r8 hQ) f_X8_17 rfl dX8_purchase__91 ?_
          refine y_iconst (v := nI 3) hC dX8_purchase__94 (by decide) ?_
          refine y_dup2 hC dX8_purchase__95 rfl rfl ?_
          refine y_ialdRN (w9 := 15) hC (by decide) (yM_a8 hQ) (by decide) dX8_purchase__96 ?_
          refine y_iconst (v := 1) hC dX8_purchase__97 (by decide) ?_
          refine y_iadd hC dX8_purchase__98 ?_
          refine y_iastRN (w9 := 15) hC (by decide) (yM_a8 hQ) (by decide) dX8_purchase__99 ?_
          refine y_aload_n hC dX8_purchase__100 rfl ?_
          refine y_getR hC (yM_o hQ) (yM_r8 hQ) f_X8_17 rfl dX8_purchase__101 ?_
          refine y_iload hC dX8_purchase__104 rfl ?_
          refine y_iload_n hC dX8_purchase__106 rfl ?_
          refine y_iastRN (w9 := 15) hC (by decide) (yM_a8 hQ) (by omega) dX8_purchase__107 ?_
          refine y_aload_n hC dX8_purchase__108 rfl ?_
          refine y_getR hC (yM_o hQ) (yM_r8 hQ) f_X8_17 rfl dX8_purchase__109 ?_
          refine y_iload hC dX8_purchase__112 rfl ?_
          refine y_iconst (v := nI 1) hC dX8_purchase__114 (by decide) ?_
          refine y_iaddN hC dX8_purchase__115 ?_
          refine y_iload_n hC dX8_purchase__116 rfl ?_
          refine y_iastRN (w9 := 15) hC (by decide) (yM_a8 hQ) (by omega) dX8_purchase__117 ?_
          refine y_aload_n hC dX8_purchase__118 rfl ?_
          refine y_getR hC (yM_o hQ) (yM_r8 hQ) f_X8_17 rfl dX8_purchase__119 ?_
          refine y_iload hC dX8_purchase__122 rfl ?_
          refine y_iconst (v := nI 2) hC dX8_purchase__124 (by decide) ?_
          refine y_iaddN hC dX8_purchase__125 ?_
          refine y_iload_n hC dX8_purchase__126 rfl ?_
          refine y_iastRN (w9 := 15) hC (by decide) (yM_a8 hQ) (by omega) dX8_purchase__127 ?_
          refine y_aload_n hC dX8_purchase__128 rfl ?_
          refine y_getR hC (yM_o hQ) (yM_r8 hQ) f_X8_17 rfl dX8_purchase__129 ?_
          refine y_iload hC dX8_purchase__132 rfl ?_
          refine y_iconst (v := nI 3) hC dX8_purchase__134 (by decide) ?_
          refine y_iaddN hC dX8_purchase__135 ?_
          refine y_aload_n hC dX8_purchase__136 rfl ?_
          refine y_getR hC (yM_o hQ) (yM_r8 hQ) f_X8_17 rfl dX8_purchase__137 ?_
          refine y_iconst (v := nI 5) hC dX8_purchase__140 (by decide) ?_
          refine y_ialdRN (w9 := 15) hC (by decide) (yM_a8 hQ) (by decide) dX8_purchase__141 ?_
          refine y_iastRN (w9 := 15) hC (by decide) (yM_a8 hQ) (by omega) dX8_purchase__142 ?_
          refine y_aload_n hC dX8_purchase__143 rfl ?_
          refine y_getR hC (yM_o hQ) (yM_r8 hQ) f_X8_17 rfl dX8_purchase__144 ?_
          refine y_bipush (v := nI 12) hC dX8_purchase__147 (by decide) ?_
          refine y_iload_n hC dX8_purchase__149 rfl ?_
          refine y_iaddN hC dX8_purchase__150 ?_
          refine y_bipush (v := nI 16) hC dX8_purchase__151 (by decide) ?_
          refine y_iload_n hC dX8_purchase__153 rfl ?_
          refine y_iaddN hC dX8_purchase__154 ?_
          refine y_iload_n hC dX8_purchase__155 rfl ?_
          refine y_callS0 hC (c_pay_at X.2.1 D z hQ rfl rfl (by omega) (by omega)) m_X8_207 rfl (by decide) (Nat.le_of_ble_eq_true rfl) (Nat.zero_le _) (Nat.zero_le _) dX8_purchase__156 ?_
          refine y_iload hC dX8_purchase__159 rfl ?_
          exact y_iret hC hr rfl (Nat.zero_le _) (Nat.zero_le _) dX8_purchase__161 (yMw.ok ((mI_t hx).trans ((mI_t hx2).trans ((mA_t c30).trans (mA_t (nI_ne2 c54))))) rfl (by rw [← e2]; rfl) hrm (fun r9 hr9 => by simp only [up2, va_up_ne _ _ hr9]))
        · refine y_iconst (v := 1) hC dX8_purchase__57 (by decide) ?_
          refine y_goto (tgt := 62) hC dX8_purchase__58 (by decide) ?_
          refine y_iconst (v := 3) hC dX8_purchase__62 (by decide) ?_
          refine y_callV1 hC (c_X8_fails1 X.2.1 D z hQ up2_at (by decide)) m_X8_158 rfl (yM_o hQ) (by decide) (Nat.le_of_ble_eq_true rfl) (Nat.zero_le _) (Nat.zero_le _) dX8_purchase__63 ?_
          refine y_if_eq (tgt := 71) hC dX8_purchase__66 (by decide) (fun c66 => absurd c66 (by decide)) (fun c66 => ?_)
          refine y_iconst (v := 0) hC dX8_purchase__69 (by decide) ?_
          exact y_iret hC hr rfl (Nat.zero_le _) (Nat.zero_le _) dX8_purchase__70 (by first | exact yMw.no (mI_f hx) (by decide) rfl up2_up2 | exact yMw.no ((mI_t hx).trans (mI_f hx2)) (by decide) rfl up2_up2 | exact yMw.no ((mI_t hx).trans ((mI_t hx2).trans (mA_f c30))) (by decide) rfl up2_up2 | exact yMw.no ((mI_t hx).trans ((mI_t hx2).trans ((mA_t c30).trans (mA_f (Decidable.not_not.mpr (nI_eq2 c54)))))) (by decide) rfl up2_up2)
      · refine y_iconst (v := 1) hC dX8_purchase__33 (by decide) ?_
        refine y_goto (tgt := 38) hC dX8_purchase__34 (by decide) ?_
        refine y_iconst (v := 2) hC dX8_purchase__38 (by decide) ?_
        refine y_callV1 hC (c_X8_fails1 X.2.1 D z hQ up2_at (by decide)) m_X8_158 rfl (yM_o hQ) (by decide) (Nat.le_of_ble_eq_true rfl) (Nat.zero_le _) (Nat.zero_le _) dX8_purchase__39 ?_
        refine y_if_ne (tgt := 69) hC dX8_purchase__42 (by decide) (fun c42 => ?_) (fun c42 => absurd c42 (by decide))
        refine y_iconst (v := 0) hC dX8_purchase__69 (by decide) ?_
        exact y_iret hC hr rfl (Nat.zero_le _) (Nat.zero_le _) dX8_purchase__70 (by first | exact yMw.no (mI_f hx) (by decide) rfl up2_up2 | exact yMw.no ((mI_t hx).trans (mI_f hx2)) (by decide) rfl up2_up2 | exact yMw.no ((mI_t hx).trans ((mI_t hx2).trans (mA_f c30))) (by decide) rfl up2_up2 | exact yMw.no ((mI_t hx).trans ((mI_t hx2).trans ((mA_t c30).trans (mA_f (Decidable.not_not.mpr (nI_eq2 c54)))))) (by decide) rfl up2_up2)
    · refine y_callV1 hC (c_X8_noMerchant1 X.2.1 D z hQ up2_at ((congrFun (show up2 M 0 0 0 2 = M 2 from up2_r (by decide)) 1).trans hnm9) (by omega) hx2) m_X8_230 rfl (yM_o hQ) (by decide) (Nat.le_of_ble_eq_true rfl) (Nat.zero_le _) (Nat.zero_le _) dX8_purchase__15 ?_
      refine y_if_ne (tgt := 69) hC dX8_purchase__18 (by decide) (fun c18 => ?_) (fun c18 => absurd c18 (by decide))
      refine y_iconst (v := 0) hC dX8_purchase__69 (by decide) ?_
      exact y_iret hC hr rfl (Nat.zero_le _) (Nat.zero_le _) dX8_purchase__70 (by first | exact yMw.no (mI_f hx) (by decide) rfl up2_up2 | exact yMw.no ((mI_t hx).trans (mI_f hx2)) (by decide) rfl up2_up2 | exact yMw.no ((mI_t hx).trans ((mI_t hx2).trans (mA_f c30))) (by decide) rfl up2_up2 | exact yMw.no ((mI_t hx).trans ((mI_t hx2).trans ((mA_t c30).trans (mA_f (Decidable.not_not.mpr (nI_eq2 c54)))))) (by decide) rfl up2_up2)
  · refine y_callV1 hC (c_X8_noIssuer1 X.2.1 D z hQ up2_at ((congrFun (show up2 M 0 0 0 2 = M 2 from up2_r (by decide)) 0).trans hni) (by omega) hx) m_X8_227 rfl (yM_o hQ) (by decide) (Nat.le_of_ble_eq_true rfl) (Nat.zero_le _) (Nat.zero_le _) dX8_purchase__7 ?_
    refine y_if_ne (tgt := 69) hC dX8_purchase__10 (by decide) (fun c10 => ?_) (fun c10 => absurd c10 (by decide))
    refine y_iconst (v := 0) hC dX8_purchase__69 (by decide) ?_
    exact y_iret hC hr rfl (Nat.zero_le _) (Nat.zero_le _) dX8_purchase__70 (by first | exact yMw.no (mI_f hx) (by decide) rfl up2_up2 | exact yMw.no ((mI_t hx).trans (mI_f hx2)) (by decide) rfl up2_up2 | exact yMw.no ((mI_t hx).trans ((mI_t hx2).trans (mA_f c30))) (by decide) rfl up2_up2 | exact yMw.no ((mI_t hx).trans ((mI_t hx2).trans ((mA_t c30).trans (mA_f (Decidable.not_not.mpr (nI_eq2 c54)))))) (by decide) rfl up2_up2)
set_option maxRecDepth 100000 in
set_option maxHeartbeats 4000000 in
theorem c_X8_escalate (l : Launch) (D : yD) (z : Nat) {n : Nat} {sh : yS} {I : yI} {L : yL} {q : Nat} {M : yI} (hQ : yMod sh q) {u : Nat} (hu : M 0 12 = nI u) (hu8 : u ≤ 8) {nd : Nat} (hnd : M 2 4 = nI nd) (nd20 : nd ≤ 20) {x : Int32} {d : Nat} (hd : vp_in x nd → x = nI d ∧ d < nd) {cd : List Int32} (hV : dV (M 2) nd cd) : yM l D z yX8_escalate cX8_escalate 3 (some .int) 5 0 0 [.ref q, .int x] n sh (sR 15 I q M) L (yMw (mI nd x (mA 2 (M 2 (164 + 8 * d + 5) = 1) (0, goD (give0D (M 2) d (iD (M 2) d) (mD (M 2) d)) d 2 (give0D (M 2) d (iD (M 2) d) (mD (M 2) d) (20 + 6 * rD (M 2) d + 2)) (164 + 8 * d + 6)))) (goD (give0D (M 2) d (iD (M 2) d) (mD (M 2) d)) d 2 (give0D (M 2) d (iD (M 2) d) (mD (M 2) d) (20 + 6 * rD (M 2) d + 2))) n sh I q M u L) (yno) := by
  refine yM_of (by decide) (Nat.le_of_ble_eq_true rfl) rfl ?_
  intro X hC hr hnm hRc hRs htb
  have hC : yC X D z cX8_escalate RX8 3 5 := hC
  refine y_aload_n hC dX8_escalate_0 rfl ?_
  refine y_iconst (v := 0) hC dX8_escalate_1 (by decide) ?_
  refine y_putIR (w9 := 15) hC (by decide) (yM_o hQ) f_X8_39 rfl (Or.inl rfl) dX8_escalate_2 ?_
  refine y_toS q ?_
  refine y_aload_n hC dX8_escalate_5 rfl ?_
  refine y_iload_n hC dX8_escalate_6 rfl ?_
  by_cases hx : vp_in x nd
  · obtain ⟨rfl, dl⟩ := hd hx
    refine y_callV1 hC (c_X8_noDispute0 X.2.1 D z hQ up2_at ((congrFun (show up2 M 0 0 0 2 = M 2 from up2_r (by decide)) 4).trans hnd) (by omega) hx) m_X8_239 rfl (yM_o hQ) (by decide) (Nat.le_of_ble_eq_true rfl) (Nat.zero_le _) (Nat.zero_le _) dX8_escalate_7 ?_
    refine y_if_eq (tgt := 15) hC dX8_escalate_10 (by decide) (fun c10 => ?_) (fun c10 => absurd rfl c10)
    refine y_iload_n hC dX8_escalate_15 rfl ?_
    refine y_callS1 hC (c_X8_dispute X.2.1 D z (j := d) rfl) m_X8_180 rfl (by decide) (Nat.le_of_ble_eq_true rfl) (Nat.zero_le _) (Nat.zero_le _) dX8_escalate_16 ?_
    refine y_istore_n hC dX8_escalate_19 (by decide) rfl ?_
    refine y_aload_n hC dX8_escalate_20 rfl ?_
    refine y_aload_n hC dX8_escalate_21 rfl ?_
    refine y_getR hC (yM_o hQ) (yM_r8 hQ) f_X8_17 rfl dX8_escalate_22 ?_
    refine y_iload_n hC dX8_escalate_25 rfl ?_
    refine y_iconst (v := nI 5) hC dX8_escalate_26 (by decide) ?_
    refine y_iaddN hC dX8_escalate_27 ?_
    refine y_ialdRN (w9 := 15) hC (by decide) (yM_a8 hQ) (by omega) dX8_escalate_28 ?_
    refine y_iconst (v := 1) hC dX8_escalate_29 (by decide) ?_
    refine y_icmp_eq (tgt := 37) hC dX8_escalate_30 (by decide) (fun c30 => ?_) (fun c30 => ?_)
    · refine y_iconst (v := 0) hC dX8_escalate_37 (by decide) ?_
      refine y_iconst (v := 2) hC dX8_escalate_38 (by decide) ?_
      refine y_callV1 hC (c_X8_fails0 X.2.1 D z hQ up2_at) m_X8_158 rfl (yM_o hQ) (by decide) (Nat.le_of_ble_eq_true rfl) (Nat.zero_le _) (Nat.zero_le _) dX8_escalate_39 ?_
      refine y_if_eq (tgt := 47) hC dX8_escalate_42 (by decide) (fun c42 => ?_) (fun c42 => absurd rfl c42)
      refine y_aload_n hC dX8_escalate_47 rfl ?_
      refine y_callRem (I0 := I) (q := q) hC (c_rem_at X.2.1 D z (M := up2 M 0 0 0) hQ hu hu8) m_X8_165 rfl (yM_o hQ) (by decide) (Nat.le_of_ble_eq_true rfl) (Nat.zero_le _) (Nat.zero_le _) dX8_escalate_48 (fun Mr hrm => ?_)
      have e2 : Mr 2 = M 2 := hrm.1
      have d20 : d < 20 := by omega
      have vK : dK (Mr 2) d (pD (M 2) d) (iD (M 2) d) (mD (M 2) d) (rD (M 2) d) := by rw [e2]; exact (hV.2.2.1 d dl).1
      have vK2 := vK.fz (give0F (d := Mr 2) d20 vK.2.2.2.2.1 vK.2.2.2.2.2.2.1)
      refine y_aload_n hC dX8_escalate_51 rfl ?_
      refine y_getR hC (yM_o hQ) (yM_r8 hQ) f_X8_17 rfl dX8_escalate_52 ?_
      refine y_iload_n hC dX8_escalate_55 rfl ?_
      refine y_iconst (v := 0) hC dX8_escalate_56 (by decide) ?_
      refine y_callS0 hC (c_give0_at X.2.1 D z hQ vK) m_X8_211 rfl (by decide) (Nat.le_of_ble_eq_true rfl) (Nat.zero_le _) (Nat.zero_le _) dX8_escalate_57 ?_
      refine y_aload_n hC dX8_escalate_60 rfl ?_
      refine y_iload_n hC dX8_escalate_61 rfl ?_
      refine y_iconst (v := 2) hC dX8_escalate_62 (by decide) ?_
      refine y_aload_n hC dX8_escalate_63 rfl ?_
      refine y_getR hC (yM_o hQ) (yM_r8 hQ) f_X8_17 rfl dX8_escalate_64 ?_
      refine y_aload_n hC dX8_escalate_67 rfl ?_
      refine y_getR hC (yM_o hQ) (yM_r8 hQ) f_X8_17 rfl dX8_escalate_68 ?_
      refine y_iload_n hC dX8_escalate_71 rfl ?_
      refine y_iconst (v := nI 1) hC dX8_escalate_72 (by decide) ?_
      refine y_iaddN hC dX8_escalate_73 ?_
      refine y_ialdRN (w9 := 15) hC (by decide) (yM_a8 hQ) (by omega) dX8_escalate_74 ?_
      refine y_callS1 hC (c_X8_reason X.2.1 D z vK2.2.2.2.2.2.2.2.1) m_X8_135 rfl (by decide) (Nat.le_of_ble_eq_true rfl) (Nat.zero_le _) (Nat.zero_le _) dX8_escalate_75 ?_
      refine y_iconst (v := nI 2) hC dX8_escalate_78 (by decide) ?_
      refine y_iaddN hC dX8_escalate_79 ?_
      have r8 := vK.2.2.2.2.2.2.2.2
      refine y_ialdRN (w9 := 15) hC (by decide) (yM_a8 hQ) (by omega) dX8_escalate_80 ?_
      refine y_callV0 hC (c_X8_goOn X.2.1 D z hQ d20) m_X8_260 rfl (yM_o hQ) (by decide) (Nat.le_of_ble_eq_true rfl) (Nat.zero_le _) (Nat.zero_le _) dX8_escalate_81 ?_
      refine y_aload_n hC dX8_escalate_84 rfl ?_
      refine y_getR hC (yM_o hQ) (yM_r8 hQ) f_X8_17 rfl dX8_escalate_85 ?_
      refine y_iload_n hC dX8_escalate_88 rfl ?_
      refine y_bipush (v := nI 6) hC dX8_escalate_89 (by decide) ?_
      refine y_iaddN hC dX8_escalate_91 ?_
      refine y_ialdRN (w9 := 15) hC (by decide) (yM_a8 hQ) (by omega) dX8_escalate_92 ?_
      exact y_iret hC hr rfl (Nat.zero_le _) (Nat.zero_le _) dX8_escalate_93 (yMw.ok ((mI_t hx).trans ((mA_t c30).trans (by rw [← e2]; rfl))) rfl (by rw [← e2]; rfl) hrm (fun r9 hr9 => by simp only [up2, va_up_ne _ _ hr9]))
    · refine y_iconst (v := 1) hC dX8_escalate_33 (by decide) ?_
      refine y_goto (tgt := 38) hC dX8_escalate_34 (by decide) ?_
      refine y_iconst (v := 2) hC dX8_escalate_38 (by decide) ?_
      refine y_callV1 hC (c_X8_fails1 X.2.1 D z hQ up2_at (by decide)) m_X8_158 rfl (yM_o hQ) (by decide) (Nat.le_of_ble_eq_true rfl) (Nat.zero_le _) (Nat.zero_le _) dX8_escalate_39 ?_
      refine y_if_eq (tgt := 47) hC dX8_escalate_42 (by decide) (fun c42 => absurd c42 (by decide)) (fun c42 => ?_)
      refine y_iconst (v := 0) hC dX8_escalate_45 (by decide) ?_
      exact y_iret hC hr rfl (Nat.zero_le _) (Nat.zero_le _) dX8_escalate_46 (by first | exact yMw.no (mI_f hx) (by decide) rfl up2_up2 | exact yMw.no ((mI_t hx).trans (mA_f c30)) (by decide) rfl up2_up2)
  · refine y_callV1 hC (c_X8_noDispute1 X.2.1 D z hQ up2_at ((congrFun (show up2 M 0 0 0 2 = M 2 from up2_r (by decide)) 4).trans hnd) (by omega) hx) m_X8_239 rfl (yM_o hQ) (by decide) (Nat.le_of_ble_eq_true rfl) (Nat.zero_le _) (Nat.zero_le _) dX8_escalate_7 ?_
    refine y_if_eq (tgt := 15) hC dX8_escalate_10 (by decide) (fun c10 => absurd c10 (by decide)) (fun c10 => ?_)
    refine y_iconst (v := 0) hC dX8_escalate_13 (by decide) ?_
    exact y_iret hC hr rfl (Nat.zero_le _) (Nat.zero_le _) dX8_escalate_14 (by first | exact yMw.no (mI_f hx) (by decide) rfl up2_up2 | exact yMw.no ((mI_t hx).trans (mA_f c30)) (by decide) rfl up2_up2)
set_option maxRecDepth 100000 in
set_option maxHeartbeats 4000000 in
theorem c_X8_contest (l : Launch) (D : yD) (z : Nat) {n : Nat} {sh : yS} {I : yI} {L : yL} {q : Nat} {M : yI} (hQ : yMod sh q) {u : Nat} (hu : M 0 12 = nI u) (hu8 : u ≤ 8) {nd : Nat} (hnd : M 2 4 = nI nd) (nd20 : nd ≤ 20) {x : Int32} {d : Nat} (hd : vp_in x nd → x = nI d ∧ d < nd) {ev : Int32} : yM l D z yX8_contest cX8_contest 4 (some .int) 5 0 0 [.ref q, .int x, .int ev] n sh (sR 15 I q M) L (yMw (mI nd x (mA 2 (¬ ev < 0 ∧ ev ≤ 255) (mA 3 (M 2 (164 + 8 * d + 5) = 2) (0, goD (upd (M 2) (164 + 8 * d + 4) (M 2 (164 + 8 * d + 4) ||| ev)) d 3 10 (164 + 8 * d + 6) + 1)))) (goD (upd (M 2) (164 + 8 * d + 4) (M 2 (164 + 8 * d + 4) ||| ev)) d 3 10) n sh I q M u L) (yno) := by
  refine yM_of (by decide) (Nat.le_of_ble_eq_true rfl) rfl ?_
  intro X hC hr hnm hRc hRs htb
  have hC : yC X D z cX8_contest RX8 4 5 := hC
  refine y_aload_n hC dX8_contest_0 rfl ?_
  refine y_iconst (v := 0) hC dX8_contest_1 (by decide) ?_
  refine y_putIR (w9 := 15) hC (by decide) (yM_o hQ) f_X8_39 rfl (Or.inl rfl) dX8_contest_2 ?_
  refine y_toS q ?_
  refine y_aload_n hC dX8_contest_5 rfl ?_
  refine y_iload_n hC dX8_contest_6 rfl ?_
  by_cases hx : vp_in x nd
  · obtain ⟨rfl, dl⟩ := hd hx
    refine y_callV1 hC (c_X8_noDispute0 X.2.1 D z hQ up2_at ((congrFun (show up2 M 0 0 0 2 = M 2 from up2_r (by decide)) 4).trans hnd) (by omega) hx) m_X8_239 rfl (yM_o hQ) (by decide) (Nat.le_of_ble_eq_true rfl) (Nat.zero_le _) (Nat.zero_le _) dX8_contest_7 ?_
    refine y_if_ne (tgt := 37) hC dX8_contest_10 (by decide) (fun c10 => absurd rfl c10) (fun c10 => ?_)
    refine y_aload_n hC dX8_contest_13 rfl ?_
    refine y_iload_n hC dX8_contest_14 rfl ?_
    refine y_iconst (v := 0) hC dX8_contest_15 (by decide) ?_
    refine y_sipush (v := 255) hC dX8_contest_16 (by decide) ?_
    refine y_callS1 hC (c_X8_in X.2.1 D z) m_X8_61 rfl (by decide) (Nat.le_of_ble_eq_true rfl) (Nat.zero_le _) (Nat.zero_le _) dX8_contest_19 ?_
    refine y_if_neB (tgt := 29) hC dX8_contest_22 (by decide) (fun c22 => ?_) (fun c22 => ?_)
    · refine y_iconst (v := 0) hC dX8_contest_29 (by decide) ?_
      refine y_iconst (v := 2) hC dX8_contest_30 (by decide) ?_
      refine y_callV1 hC (c_X8_fails0 X.2.1 D z hQ up2_at) m_X8_158 rfl (yM_o hQ) (by decide) (Nat.le_of_ble_eq_true rfl) (Nat.zero_le _) (Nat.zero_le _) dX8_contest_31 ?_
      refine y_if_eq (tgt := 39) hC dX8_contest_34 (by decide) (fun c34 => ?_) (fun c34 => absurd rfl c34)
      refine y_iload_n hC dX8_contest_39 rfl ?_
      refine y_callS1 hC (c_X8_dispute X.2.1 D z (j := d) rfl) m_X8_180 rfl (by decide) (Nat.le_of_ble_eq_true rfl) (Nat.zero_le _) (Nat.zero_le _) dX8_contest_40 ?_
      refine y_istore_n hC dX8_contest_43 (by decide) rfl ?_
      refine y_aload_n hC dX8_contest_44 rfl ?_
      refine y_aload_n hC dX8_contest_45 rfl ?_
      refine y_getR hC (yM_o hQ) (yM_r8 hQ) f_X8_17 rfl dX8_contest_46 ?_
      refine y_iload_n hC dX8_contest_49 rfl ?_
      refine y_iconst (v := nI 5) hC dX8_contest_50 (by decide) ?_
      refine y_iaddN hC dX8_contest_51 ?_
      refine y_ialdRN (w9 := 15) hC (by decide) (yM_a8 hQ) (by omega) dX8_contest_52 ?_
      refine y_iconst (v := 2) hC dX8_contest_53 (by decide) ?_
      refine y_icmp_eq (tgt := 61) hC dX8_contest_54 (by decide) (fun c54 => ?_) (fun c54 => ?_)
      · refine y_iconst (v := 0) hC dX8_contest_61 (by decide) ?_
        refine y_iconst (v := 3) hC dX8_contest_62 (by decide) ?_
        refine y_callV1 hC (c_X8_fails0 X.2.1 D z hQ up2_at) m_X8_158 rfl (yM_o hQ) (by decide) (Nat.le_of_ble_eq_true rfl) (Nat.zero_le _) (Nat.zero_le _) dX8_contest_63 ?_
        refine y_if_eq (tgt := 71) hC dX8_contest_66 (by decide) (fun c66 => ?_) (fun c66 => absurd rfl c66)
        refine y_aload_n hC dX8_contest_71 rfl ?_
        refine y_callRem (I0 := I) (q := q) hC (c_rem_at X.2.1 D z (M := up2 M 0 0 0) hQ hu hu8) m_X8_165 rfl (yM_o hQ) (by decide) (Nat.le_of_ble_eq_true rfl) (Nat.zero_le _) (Nat.zero_le _) dX8_contest_72 (fun Mr hrm => ?_)
        have e2 : Mr 2 = M 2 := hrm.1
        have d20 : d < 20 := by omega
        refine y_aload_n hC dX8_contest_75 rfl ?_
        refine y_getR hC (yM_o hQ) (yM_r8 hQ) f_X8_17 rfl dX8_contest_76 ?_
        refine y_iload_n hC dX8_contest_79 rfl ?_
        refine y_iconst (v := nI 4) hC dX8_contest_80 (by decide) ?_
        refine y_iaddN hC dX8_contest_81 ?_
        refine y_dup2 hC dX8_contest_82 rfl rfl ?_
        refine y_ialdRN (w9 := 15) hC (by decide) (yM_a8 hQ) (by omega) dX8_contest_83 ?_
        refine y_iload_n hC dX8_contest_84 rfl ?_
        refine y_ior hC dX8_contest_85 ?_
        refine y_iastRN (w9 := 15) hC (by decide) (yM_a8 hQ) (by omega) dX8_contest_86 ?_
        refine y_aload_n hC dX8_contest_87 rfl ?_
        refine y_iload_n hC dX8_contest_88 rfl ?_
        refine y_iconst (v := 3) hC dX8_contest_89 (by decide) ?_
        refine y_bipush (v := 10) hC dX8_contest_90 (by decide) ?_
        refine y_callV0 hC (c_X8_goOn X.2.1 D z hQ d20) m_X8_260 rfl (yM_o hQ) (by decide) (Nat.le_of_ble_eq_true rfl) (Nat.zero_le _) (Nat.zero_le _) dX8_contest_92 ?_
        refine y_aload_n hC dX8_contest_95 rfl ?_
        refine y_getR hC (yM_o hQ) (yM_r8 hQ) f_X8_17 rfl dX8_contest_96 ?_
        refine y_iload_n hC dX8_contest_99 rfl ?_
        refine y_bipush (v := nI 6) hC dX8_contest_100 (by decide) ?_
        refine y_iaddN hC dX8_contest_102 ?_
        refine y_ialdRN (w9 := 15) hC (by decide) (yM_a8 hQ) (by omega) dX8_contest_103 ?_
        refine y_iconst (v := 1) hC dX8_contest_104 (by decide) ?_
        refine y_iadd hC dX8_contest_105 ?_
        exact y_iret hC hr rfl (Nat.zero_le _) (Nat.zero_le _) dX8_contest_106 (yMw.ok ((mI_t hx).trans ((mA_t c22).trans ((mA_t c54).trans (by rw [← e2]; rfl)))) rfl (by rw [← e2]; rfl) hrm (fun r9 hr9 => by simp only [up2, va_up_ne _ _ hr9]))
      · refine y_iconst (v := 1) hC dX8_contest_57 (by decide) ?_
        refine y_goto (tgt := 62) hC dX8_contest_58 (by decide) ?_
        refine y_iconst (v := 3) hC dX8_contest_62 (by decide) ?_
        refine y_callV1 hC (c_X8_fails1 X.2.1 D z hQ up2_at (by decide)) m_X8_158 rfl (yM_o hQ) (by decide) (Nat.le_of_ble_eq_true rfl) (Nat.zero_le _) (Nat.zero_le _) dX8_contest_63 ?_
        refine y_if_eq (tgt := 71) hC dX8_contest_66 (by decide) (fun c66 => absurd c66 (by decide)) (fun c66 => ?_)
        refine y_iconst (v := 0) hC dX8_contest_69 (by decide) ?_
        exact y_iret hC hr rfl (Nat.zero_le _) (Nat.zero_le _) dX8_contest_70 (by first | exact yMw.no (mI_f hx) (by decide) rfl up2_up2 | exact yMw.no ((mI_t hx).trans (mA_f c22)) (by decide) rfl up2_up2 | exact yMw.no ((mI_t hx).trans ((mA_t c22).trans (mA_f c54))) (by decide) rfl up2_up2)
    · refine y_iconst (v := 1) hC dX8_contest_25 (by decide) ?_
      refine y_goto (tgt := 30) hC dX8_contest_26 (by decide) ?_
      refine y_iconst (v := 2) hC dX8_contest_30 (by decide) ?_
      refine y_callV1 hC (c_X8_fails1 X.2.1 D z hQ up2_at (by decide)) m_X8_158 rfl (yM_o hQ) (by decide) (Nat.le_of_ble_eq_true rfl) (Nat.zero_le _) (Nat.zero_le _) dX8_contest_31 ?_
      refine y_if_eq (tgt := 39) hC dX8_contest_34 (by decide) (fun c34 => absurd c34 (by decide)) (fun c34 => ?_)
      refine y_iconst (v := 0) hC dX8_contest_37 (by decide) ?_
      exact y_iret hC hr rfl (Nat.zero_le _) (Nat.zero_le _) dX8_contest_38 (by first | exact yMw.no (mI_f hx) (by decide) rfl up2_up2 | exact yMw.no ((mI_t hx).trans (mA_f c22)) (by decide) rfl up2_up2 | exact yMw.no ((mI_t hx).trans ((mA_t c22).trans (mA_f c54))) (by decide) rfl up2_up2)
  · refine y_callV1 hC (c_X8_noDispute1 X.2.1 D z hQ up2_at ((congrFun (show up2 M 0 0 0 2 = M 2 from up2_r (by decide)) 4).trans hnd) (by omega) hx) m_X8_239 rfl (yM_o hQ) (by decide) (Nat.le_of_ble_eq_true rfl) (Nat.zero_le _) (Nat.zero_le _) dX8_contest_7 ?_
    refine y_if_ne (tgt := 37) hC dX8_contest_10 (by decide) (fun c10 => ?_) (fun c10 => absurd c10 (by decide))
    refine y_iconst (v := 0) hC dX8_contest_37 (by decide) ?_
    exact y_iret hC hr rfl (Nat.zero_le _) (Nat.zero_le _) dX8_contest_38 (by first | exact yMw.no (mI_f hx) (by decide) rfl up2_up2 | exact yMw.no ((mI_t hx).trans (mA_f c22)) (by decide) rfl up2_up2 | exact yMw.no ((mI_t hx).trans ((mA_t c22).trans (mA_f c54))) (by decide) rfl up2_up2)
theorem cAt.up {d : Nat → Int32} {a : Nat} {v : Int32} (ha : 164 ≤ a ∧ a < 324) {cd : List Int32} {i : Nat} (h : cAt d i cd) : cAt (upd d a v) i cd := by
  induction cd generalizing i with
  | nil => exact ⟨(upd_ne9 (by omega)).trans h.1, h.2⟩
  | cons it r ih =>
    obtain ⟨h1, h2, h3⟩ := h
    refine ⟨h1, by rw [upd_ne9 (by omega)]; exact h2, ?_⟩
    rw [upd_ne9 (by omega), upd_ne9 (by omega)]
    rcases h3 with ⟨a1, a2, a3, a4⟩ | ⟨a1, a2, a3, a4⟩ | ⟨a1, a2, a3, a4⟩ | ⟨a1, a2, a3, a4⟩ | ⟨a1, a2, a3, a4⟩ | ⟨a1, a2, a4⟩ | ⟨a1, a2, a4⟩ | ⟨a1, a2, a4⟩ | ⟨a1, a2, a4⟩
    · exact Or.inl ⟨a1, a2, a3, ih a4⟩
    · exact Or.inr (Or.inl ⟨a1, a2, a3, ih a4⟩)
    · exact Or.inr (Or.inr (Or.inl ⟨a1, a2, a3, ih a4⟩))
    · exact Or.inr (Or.inr (Or.inr (Or.inl ⟨a1, a2, a3, ih a4⟩)))
    · exact Or.inr (Or.inr (Or.inr (Or.inr (Or.inl ⟨a1, a2, a3, ih a4⟩))))
    · exact Or.inr (Or.inr (Or.inr (Or.inr (Or.inr (Or.inl ⟨a1, a2, ih a4⟩)))))
    · exact Or.inr (Or.inr (Or.inr (Or.inr (Or.inr (Or.inr (Or.inl ⟨a1, a2, ih a4⟩))))))
    · exact Or.inr (Or.inr (Or.inr (Or.inr (Or.inr (Or.inr (Or.inr (Or.inl ⟨a1, a2, ih a4⟩)))))))
    · exact Or.inr (Or.inr (Or.inr (Or.inr (Or.inr (Or.inr (Or.inr (Or.inr ⟨a1, a2, ih a4⟩)))))))
set_option maxRecDepth 100000 in
set_option maxHeartbeats 4000000 in
theorem c_X8_represent (l : Launch) (D : yD) (z : Nat) {n : Nat} {sh : yS} {I : yI} {L : yL} {q : Nat} {M : yI} (hQ : yMod sh q) {u : Nat} (hu : M 0 12 = nI u) (hu8 : u ≤ 8) {nd : Nat} (hnd : M 2 4 = nI nd) (nd20 : nd ≤ 20) {x : Int32} {d : Nat} (hd : vp_in x nd → x = nI d ∧ d < nd) {cd : List Int32} (hV : dV (M 2) nd cd) {ev : Int32} {e2v : Nat} (hev : vp_in x nd → (¬ ev < 1 ∧ ev ≤ 255) → e2v < 256 ∧ M 2 (164 + 8 * d + 4) ||| ev = nI e2v) : yM l D z yX8_represent cX8_represent 4 (some .int) 6 0 0 [.ref q, .int x, .int ev] n sh (sR 15 I q M) L (yMw (mI nd x (mA 2 (¬ ev < 1 ∧ ev ≤ 255) (mA 3 (M 2 (164 + 8 * d + 5) = 0) (0, scM (goD (give1D (upd (M 2) (164 + 8 * d + 4) (M 2 (164 + 8 * d + 4) ||| ev)) d (iD (M 2) d) (mD (M 2) d)) d 1 (give1D (upd (M 2) (164 + 8 * d + 4) (M 2 (164 + 8 * d + 4) ||| ev)) d (iD (M 2) d) (mD (M 2) d) (20 + 6 * rD (M 2) d + 3))) d (pD (M 2) d) e2v (nD (M 2) d) cd)))) (goD (give1D (upd (M 2) (164 + 8 * d + 4) (M 2 (164 + 8 * d + 4) ||| ev)) d (iD (M 2) d) (mD (M 2) d)) d 1 (give1D (upd (M 2) (164 + 8 * d + 4) (M 2 (164 + 8 * d + 4) ||| ev)) d (iD (M 2) d) (mD (M 2) d) (20 + 6 * rD (M 2) d + 3))) n sh I q M u L) (yno) := by
  refine yM_of (by decide) (Nat.le_of_ble_eq_true rfl) rfl ?_
  intro X hC hr hnm hRc hRs htb
  have hC : yC X D z cX8_represent RX8 4 6 := hC
  refine y_aload_n hC dX8_represent_0 rfl ?_
  refine y_iconst (v := 0) hC dX8_represent_1 (by decide) ?_
  refine y_putIR (w9 := 15) hC (by decide) (yM_o hQ) f_X8_39 rfl (Or.inl rfl) dX8_represent_2 ?_
  refine y_toS q ?_
  refine y_aload_n hC dX8_represent_5 rfl ?_
  refine y_iload_n hC dX8_represent_6 rfl ?_
  by_cases hx : vp_in x nd
  · obtain ⟨rfl, dl⟩ := hd hx
    refine y_callV1 hC (c_X8_noDispute0 X.2.1 D z hQ up2_at ((congrFun (show up2 M 0 0 0 2 = M 2 from up2_r (by decide)) 4).trans hnd) (by omega) hx) m_X8_239 rfl (yM_o hQ) (by decide) (Nat.le_of_ble_eq_true rfl) (Nat.zero_le _) (Nat.zero_le _) dX8_represent_7 ?_
    refine y_if_ne (tgt := 37) hC dX8_represent_10 (by decide) (fun c10 => absurd rfl c10) (fun c10 => ?_)
    refine y_aload_n hC dX8_represent_13 rfl ?_
    refine y_iload_n hC dX8_represent_14 rfl ?_
    refine y_iconst (v := 1) hC dX8_represent_15 (by decide) ?_
    refine y_sipush (v := 255) hC dX8_represent_16 (by decide) ?_
    refine y_callS1 hC (c_X8_in X.2.1 D z) m_X8_61 rfl (by decide) (Nat.le_of_ble_eq_true rfl) (Nat.zero_le _) (Nat.zero_le _) dX8_represent_19 ?_
    refine y_if_neB (tgt := 29) hC dX8_represent_22 (by decide) (fun c22 => ?_) (fun c22 => ?_)
    · refine y_iconst (v := 0) hC dX8_represent_29 (by decide) ?_
      refine y_iconst (v := 2) hC dX8_represent_30 (by decide) ?_
      refine y_callV1 hC (c_X8_fails0 X.2.1 D z hQ up2_at) m_X8_158 rfl (yM_o hQ) (by decide) (Nat.le_of_ble_eq_true rfl) (Nat.zero_le _) (Nat.zero_le _) dX8_represent_31 ?_
      refine y_if_eq (tgt := 39) hC dX8_represent_34 (by decide) (fun c34 => ?_) (fun c34 => absurd rfl c34)
      refine y_iload_n hC dX8_represent_39 rfl ?_
      refine y_callS1 hC (c_X8_dispute X.2.1 D z (j := d) rfl) m_X8_180 rfl (by decide) (Nat.le_of_ble_eq_true rfl) (Nat.zero_le _) (Nat.zero_le _) dX8_represent_40 ?_
      refine y_istore_n hC dX8_represent_43 (by decide) rfl ?_
      refine y_aload_n hC dX8_represent_44 rfl ?_
      refine y_aload_n hC dX8_represent_45 rfl ?_
      refine y_getR hC (yM_o hQ) (yM_r8 hQ) f_X8_17 rfl dX8_represent_46 ?_
      refine y_iload_n hC dX8_represent_49 rfl ?_
      refine y_iconst (v := nI 5) hC dX8_represent_50 (by decide) ?_
      refine y_iaddN hC dX8_represent_51 ?_
      refine y_ialdRN (w9 := 15) hC (by decide) (yM_a8 hQ) (by omega) dX8_represent_52 ?_
      refine y_if_eq (tgt := 60) hC dX8_represent_53 (by decide) (fun c53 => ?_) (fun c53 => ?_)
      · refine y_iconst (v := 0) hC dX8_represent_60 (by decide) ?_
        refine y_iconst (v := 3) hC dX8_represent_61 (by decide) ?_
        refine y_callV1 hC (c_X8_fails0 X.2.1 D z hQ up2_at) m_X8_158 rfl (yM_o hQ) (by decide) (Nat.le_of_ble_eq_true rfl) (Nat.zero_le _) (Nat.zero_le _) dX8_represent_62 ?_
        refine y_if_eq (tgt := 70) hC dX8_represent_65 (by decide) (fun c65 => ?_) (fun c65 => absurd rfl c65)
        refine y_aload_n hC dX8_represent_70 rfl ?_
        refine y_callRem (I0 := I) (q := q) hC (c_rem_at X.2.1 D z (M := up2 M 0 0 0) hQ hu hu8) m_X8_165 rfl (yM_o hQ) (by decide) (Nat.le_of_ble_eq_true rfl) (Nat.zero_le _) (Nat.zero_le _) dX8_represent_71 (fun Mr hrm => ?_)
        have e2 : Mr 2 = M 2 := hrm.1
        have d20 : d < 20 := by omega
        have vK : dK (Mr 2) d (pD (M 2) d) (iD (M 2) d) (mD (M 2) d) (rD (M 2) d) := by rw [e2]; exact (hV.2.2.1 d dl).1
        obtain ⟨e256, hevv⟩ := hev hx c22
        have hvv : Mr 2 (164 + 8 * d + 4) ||| ev = nI e2v := by rw [e2]; exact hevv
        have vK1 : dK (upd (Mr 2) (164 + 8 * d + 4) (Mr 2 (164 + 8 * d + 4) ||| ev)) d (pD (M 2) d) (iD (M 2) d) (mD (M 2) d) (rD (M 2) d) := by
          obtain ⟨k20, hp, p24, hi, i4, hm, m4, hr0, r8⟩ := vK
          exact ⟨k20, (upd_ne9 (by omega)).trans hp, p24, (upd_ne9 (by omega)).trans hi, i4, (upd_ne9 (by omega)).trans hm, m4, (upd_ne9 (by omega)).trans hr0, r8⟩
        have gF := give1F (d := upd (Mr 2) (164 + 8 * d + 4) (Mr 2 (164 + 8 * d + 4) ||| ev)) d20 vK.2.2.2.2.1 vK.2.2.2.2.2.2.1
        have vK2 := vK1.fz gF
        have r8 := vK.2.2.2.2.2.2.2.2
        refine y_aload_n hC dX8_represent_74 rfl ?_
        refine y_getR hC (yM_o hQ) (yM_r8 hQ) f_X8_17 rfl dX8_represent_75 ?_
        refine y_iload_n hC dX8_represent_78 rfl ?_
        refine y_iconst (v := nI 4) hC dX8_represent_79 (by decide) ?_
        refine y_iaddN hC dX8_represent_80 ?_
        refine y_dup2 hC dX8_represent_81 rfl rfl ?_
        refine y_ialdRN (w9 := 15) hC (by decide) (yM_a8 hQ) (by omega) dX8_represent_82 ?_
        refine y_iload_n hC dX8_represent_83 rfl ?_
        refine y_ior hC dX8_represent_84 ?_
        refine y_iastRN (w9 := 15) hC (by decide) (yM_a8 hQ) (by omega) dX8_represent_85 ?_
        refine y_aload_n hC dX8_represent_86 rfl ?_
        refine y_getR hC (yM_o hQ) (yM_r8 hQ) f_X8_17 rfl dX8_represent_87 ?_
        refine y_iload_n hC dX8_represent_90 rfl ?_
        refine y_iconst (v := 1) hC dX8_represent_91 (by decide) ?_
        refine y_callS0 hC (c_give1_at X.2.1 D z hQ vK1) m_X8_211 rfl (by decide) (Nat.le_of_ble_eq_true rfl) (Nat.zero_le _) (Nat.zero_le _) dX8_represent_92 ?_
        refine y_aload_n hC dX8_represent_95 rfl ?_
        refine y_iload_n hC dX8_represent_96 rfl ?_
        refine y_iconst (v := 1) hC dX8_represent_97 (by decide) ?_
        refine y_aload_n hC dX8_represent_98 rfl ?_
        refine y_getR hC (yM_o hQ) (yM_r8 hQ) f_X8_17 rfl dX8_represent_99 ?_
        refine y_aload_n hC dX8_represent_102 rfl ?_
        refine y_getR hC (yM_o hQ) (yM_r8 hQ) f_X8_17 rfl dX8_represent_103 ?_
        refine y_iload_n hC dX8_represent_106 rfl ?_
        refine y_iconst (v := nI 1) hC dX8_represent_107 (by decide) ?_
        refine y_iaddN hC dX8_represent_108 ?_
        refine y_ialdRN (w9 := 15) hC (by decide) (yM_a8 hQ) (by omega) dX8_represent_109 ?_
        refine y_callS1 hC (c_X8_reason X.2.1 D z vK2.2.2.2.2.2.2.2.1) m_X8_135 rfl (by decide) (Nat.le_of_ble_eq_true rfl) (Nat.zero_le _) (Nat.zero_le _) dX8_represent_110 ?_
        refine y_iconst (v := nI 3) hC dX8_represent_113 (by decide) ?_
        refine y_iaddN hC dX8_represent_114 ?_
        refine y_ialdRN (w9 := 15) hC (by decide) (yM_a8 hQ) (by omega) dX8_represent_115 ?_
        refine y_callV0 hC (c_X8_goOn X.2.1 D z hQ d20) m_X8_260 rfl (yM_o hQ) (by decide) (Nat.le_of_ble_eq_true rfl) (Nat.zero_le _) (Nat.zero_le _) dX8_represent_116 ?_
        have gG : dF (give1D (upd (Mr 2) (164 + 8 * d + 4) (Mr 2 (164 + 8 * d + 4) ||| ev)) d (iD (M 2) d) (mD (M 2) d)) (goD (give1D (upd (Mr 2) (164 + 8 * d + 4) (Mr 2 (164 + 8 * d + 4) ||| ev)) d (iD (M 2) d) (mD (M 2) d)) d 1 (give1D (upd (Mr 2) (164 + 8 * d + 4) (Mr 2 (164 + 8 * d + 4) ||| ev)) d (iD (M 2) d) (mD (M 2) d) (20 + 6 * rD (M 2) d + 3))) := (dF.upd (nf_dis (by decide) (by decide) d20)).trans (dF.upd (nf_dis (by decide) (by decide) d20))
        have gA := gF.trans gG
        have vK3 := vK2.fz gG
        have hne3 := (gA (20 + 6 * rD (M 2) d + 5) (by unfold frz; omega)).trans ((upd_ne9 (by omega)).trans ((congrFun e2 _).trans (hV.2.2.1 d dl).2.1))
        have hc3 : _ ∨ _ := hV.2.2.2.imp (fun h => (gA 9 (by unfold frz; omega)).trans ((upd_ne9 (by omega)).trans ((congrFun e2 9).trans h))) (fun h => (⟨(cAt.up (by omega) (e2 ▸ h.1)).fz gA, h.2⟩ : cAt _ 0 cd ∧ okc 1500 cd 0))
        refine y_aload_n hC dX8_represent_119 rfl ?_
        refine y_aload_n hC dX8_represent_120 rfl ?_
        refine y_getR hC (yM_o hQ) (yM_r8 hQ) f_X8_17 rfl dX8_represent_121 ?_
        refine y_iload_n hC dX8_represent_124 rfl ?_
        refine y_aload_n hC dX8_represent_125 rfl ?_
        refine y_getR hC (yM_o hQ) (yM_r8 hQ) f_X8_17 rfl dX8_represent_126 ?_
        refine y_iload_n hC dX8_represent_129 rfl ?_
        refine y_iconst (v := nI 4) hC dX8_represent_130 (by decide) ?_
        refine y_iaddN hC dX8_represent_131 ?_
        refine y_ialdRN (w9 := 15) hC (by decide) (yM_a8 hQ) (by omega) dX8_represent_132 ?_
        refine y_eqI (y := nI e2v) ?_ ?_
        · exact (gA _ (by unfold frz; omega)).trans (upd_same.trans hvv)
        refine y_callV1l (q := q) hC (fun S => c_scoreOf_at X.2.1 D z hQ vK3 e256 (hV.2.2.1 d dl).2.2.1 hne3 hc3 S) m_X8_197 rfl (yM_o hQ) (by decide) (Nat.le_of_ble_eq_true rfl) (Nat.zero_le _) (Nat.zero_le _) dX8_represent_133 (fun S133 => ?_)
        exact y_iret hC hr rfl (Nat.zero_le _) (Nat.zero_le _) dX8_represent_136 (yMw.ok ((mI_t hx).trans ((mA_t c22).trans ((mA_t c53).trans (by rw [← e2]; rfl)))) rfl (by rw [← e2]; rfl) hrm (fun r9 hr9 => by simp only [up2, va_up_ne _ _ hr9]))
      · refine y_iconst (v := 1) hC dX8_represent_56 (by decide) ?_
        refine y_goto (tgt := 61) hC dX8_represent_57 (by decide) ?_
        refine y_iconst (v := 3) hC dX8_represent_61 (by decide) ?_
        refine y_callV1 hC (c_X8_fails1 X.2.1 D z hQ up2_at (by decide)) m_X8_158 rfl (yM_o hQ) (by decide) (Nat.le_of_ble_eq_true rfl) (Nat.zero_le _) (Nat.zero_le _) dX8_represent_62 ?_
        refine y_if_eq (tgt := 70) hC dX8_represent_65 (by decide) (fun c65 => absurd c65 (by decide)) (fun c65 => ?_)
        refine y_iconst (v := 0) hC dX8_represent_68 (by decide) ?_
        exact y_iret hC hr rfl (Nat.zero_le _) (Nat.zero_le _) dX8_represent_69 (by first | exact yMw.no (mI_f hx) (by decide) rfl up2_up2 | exact yMw.no ((mI_t hx).trans (mA_f c22)) (by decide) rfl up2_up2 | exact yMw.no ((mI_t hx).trans ((mA_t c22).trans (mA_f c53))) (by decide) rfl up2_up2)
    · refine y_iconst (v := 1) hC dX8_represent_25 (by decide) ?_
      refine y_goto (tgt := 30) hC dX8_represent_26 (by decide) ?_
      refine y_iconst (v := 2) hC dX8_represent_30 (by decide) ?_
      refine y_callV1 hC (c_X8_fails1 X.2.1 D z hQ up2_at (by decide)) m_X8_158 rfl (yM_o hQ) (by decide) (Nat.le_of_ble_eq_true rfl) (Nat.zero_le _) (Nat.zero_le _) dX8_represent_31 ?_
      refine y_if_eq (tgt := 39) hC dX8_represent_34 (by decide) (fun c34 => absurd c34 (by decide)) (fun c34 => ?_)
      refine y_iconst (v := 0) hC dX8_represent_37 (by decide) ?_
      exact y_iret hC hr rfl (Nat.zero_le _) (Nat.zero_le _) dX8_represent_38 (by first | exact yMw.no (mI_f hx) (by decide) rfl up2_up2 | exact yMw.no ((mI_t hx).trans (mA_f c22)) (by decide) rfl up2_up2 | exact yMw.no ((mI_t hx).trans ((mA_t c22).trans (mA_f c53))) (by decide) rfl up2_up2)
  · refine y_callV1 hC (c_X8_noDispute1 X.2.1 D z hQ up2_at ((congrFun (show up2 M 0 0 0 2 = M 2 from up2_r (by decide)) 4).trans hnd) (by omega) hx) m_X8_239 rfl (yM_o hQ) (by decide) (Nat.le_of_ble_eq_true rfl) (Nat.zero_le _) (Nat.zero_le _) dX8_represent_7 ?_
    refine y_if_ne (tgt := 37) hC dX8_represent_10 (by decide) (fun c10 => ?_) (fun c10 => absurd c10 (by decide))
    refine y_iconst (v := 0) hC dX8_represent_37 (by decide) ?_
    exact y_iret hC hr rfl (Nat.zero_le _) (Nat.zero_le _) dX8_represent_38 (by first | exact yMw.no (mI_f hx) (by decide) rfl up2_up2 | exact yMw.no ((mI_t hx).trans (mA_f c22)) (by decide) rfl up2_up2 | exact yMw.no ((mI_t hx).trans ((mA_t c22).trans (mA_f c53))) (by decide) rfl up2_up2)
set_option maxRecDepth 100000 in
set_option maxHeartbeats 4000000 in
theorem c_X8_accept (l : Launch) (D : yD) (z : Nat) {n : Nat} {sh : yS} {I : yI} {L : yL} {q : Nat} {M : yI} (hQ : yMod sh q) {u : Nat} (hu : M 0 12 = nI u) (hu8 : u ≤ 8) {nd : Nat} (hnd : M 2 4 = nI nd) (nd20 : nd ≤ 20) {x : Int32} {d : Nat} (hd : vp_in x nd → x = nI d ∧ d < nd) {cd : List Int32} (hV : dV (M 2) nd cd) : yM l D z yX8_accept cX8_accept 3 (some .int) 5 0 0 [.ref q, .int x] n sh (sR 15 I q M) L (yMw (mI nd x (mA 2 (M 2 (164 + 8 * d + 5) < 3) (0, endD (M 2) d (iD (M 2) d) (mD (M 2) d) (M 2 (164 + 8 * d + 5) = 1) False (164 + 8 * d + 5)))) (endD (M 2) d (iD (M 2) d) (mD (M 2) d) (M 2 (164 + 8 * d + 5) = 1) False) n sh I q M u L) (yno) := by
  refine yM_of (by decide) (Nat.le_of_ble_eq_true rfl) rfl ?_
  intro X hC hr hnm hRc hRs htb
  have hC : yC X D z cX8_accept RX8 3 5 := hC
  refine y_aload_n hC dX8_accept_0 rfl ?_
  refine y_iconst (v := 0) hC dX8_accept_1 (by decide) ?_
  refine y_putIR (w9 := 15) hC (by decide) (yM_o hQ) f_X8_39 rfl (Or.inl rfl) dX8_accept_2 ?_
  refine y_toS q ?_
  refine y_aload_n hC dX8_accept_5 rfl ?_
  refine y_iload_n hC dX8_accept_6 rfl ?_
  by_cases hx : vp_in x nd
  · obtain ⟨rfl, dl⟩ := hd hx
    refine y_callV1 hC (c_X8_noDispute0 X.2.1 D z hQ up2_at ((congrFun (show up2 M 0 0 0 2 = M 2 from up2_r (by decide)) 4).trans hnd) (by omega) hx) m_X8_239 rfl (yM_o hQ) (by decide) (Nat.le_of_ble_eq_true rfl) (Nat.zero_le _) (Nat.zero_le _) dX8_accept_7 ?_
    refine y_if_eq (tgt := 15) hC dX8_accept_10 (by decide) (fun c10 => ?_) (fun c10 => absurd rfl c10)
    refine y_iload_n hC dX8_accept_15 rfl ?_
    refine y_callS1 hC (c_X8_dispute X.2.1 D z (j := d) rfl) m_X8_180 rfl (by decide) (Nat.le_of_ble_eq_true rfl) (Nat.zero_le _) (Nat.zero_le _) dX8_accept_16 ?_
    refine y_istore_n hC dX8_accept_19 (by decide) rfl ?_
    refine y_aload_n hC dX8_accept_20 rfl ?_
    refine y_aload_n hC dX8_accept_21 rfl ?_
    refine y_getR hC (yM_o hQ) (yM_r8 hQ) f_X8_17 rfl dX8_accept_22 ?_
    refine y_iload_n hC dX8_accept_25 rfl ?_
    refine y_iconst (v := nI 5) hC dX8_accept_26 (by decide) ?_
    refine y_iaddN hC dX8_accept_27 ?_
    refine y_ialdRN (w9 := 15) hC (by decide) (yM_a8 hQ) (by omega) dX8_accept_28 ?_
    refine y_iconst (v := 3) hC dX8_accept_29 (by decide) ?_
    refine y_icmp_lt (tgt := 37) hC dX8_accept_30 (by decide) (fun c30 => ?_) (fun c30 => ?_)
    · refine y_iconst (v := 0) hC dX8_accept_37 (by decide) ?_
      refine y_iconst (v := 2) hC dX8_accept_38 (by decide) ?_
      refine y_callV1 hC (c_X8_fails0 X.2.1 D z hQ up2_at) m_X8_158 rfl (yM_o hQ) (by decide) (Nat.le_of_ble_eq_true rfl) (Nat.zero_le _) (Nat.zero_le _) dX8_accept_39 ?_
      refine y_if_eq (tgt := 47) hC dX8_accept_42 (by decide) (fun c42 => ?_) (fun c42 => absurd rfl c42)
      refine y_aload_n hC dX8_accept_47 rfl ?_
      refine y_callRem (I0 := I) (q := q) hC (c_rem_at X.2.1 D z (M := up2 M 0 0 0) hQ hu hu8) m_X8_165 rfl (yM_o hQ) (by decide) (Nat.le_of_ble_eq_true rfl) (Nat.zero_le _) (Nat.zero_le _) dX8_accept_48 (fun Mr hrm => ?_)
      have e2 : Mr 2 = M 2 := hrm.1
      have d20 : d < 20 := by omega
      have vK : dK (Mr 2) d (pD (M 2) d) (iD (M 2) d) (mD (M 2) d) (rD (M 2) d) := by rw [e2]; exact (hV.2.2.1 d dl).1
      refine y_aload_n hC dX8_accept_51 rfl ?_
      refine y_getR hC (yM_o hQ) (yM_r8 hQ) f_X8_17 rfl dX8_accept_52 ?_
      refine y_iload_n hC dX8_accept_55 rfl ?_
      refine y_aload_n hC dX8_accept_56 rfl ?_
      refine y_getR hC (yM_o hQ) (yM_r8 hQ) f_X8_17 rfl dX8_accept_57 ?_
      refine y_iload_n hC dX8_accept_60 rfl ?_
      refine y_iconst (v := nI 5) hC dX8_accept_61 (by decide) ?_
      refine y_iaddN hC dX8_accept_62 ?_
      refine y_ialdRN (w9 := 15) hC (by decide) (yM_a8 hQ) (by omega) dX8_accept_63 ?_
      refine y_iconst (v := 1) hC dX8_accept_64 (by decide) ?_
      refine y_icmp_ne (tgt := 72) hC dX8_accept_65 (by decide) (fun c65 => ?_) (fun c65 => ?_)
      · refine y_iconst (v := 0) hC dX8_accept_72 (by decide) ?_
        refine y_iconst (v := 0) hC dX8_accept_73 (by decide) ?_
        refine y_callS0 hC (c_end_at X.2.1 D z hQ vK (w := False) (b := False)) m_X8_223 rfl (by decide) (Nat.le_of_ble_eq_true rfl) (Nat.zero_le _) (Nat.zero_le _) dX8_accept_74 ?_
        rw [endD_c (w2 := Mr 2 (164 + 8 * d + 5) = 1) (b2 := False) (iff_of_false id c65) Iff.rfl]
        refine y_aload_n hC dX8_accept_77 rfl ?_
        refine y_getR hC (yM_o hQ) (yM_r8 hQ) f_X8_17 rfl dX8_accept_78 ?_
        refine y_iload_n hC dX8_accept_81 rfl ?_
        refine y_iconst (v := nI 5) hC dX8_accept_82 (by decide) ?_
        refine y_iaddN hC dX8_accept_83 ?_
        refine y_ialdRN (w9 := 15) hC (by decide) (yM_a8 hQ) (by omega) dX8_accept_84 ?_
        exact y_iret hC hr rfl (Nat.zero_le _) (Nat.zero_le _) dX8_accept_85 (yMw.ok ((mI_t hx).trans ((mA_t c30).trans (congrArg (fun dd => ((0 : Int32), endD dd d (iD (M 2) d) (mD (M 2) d) (dd (164 + 8 * d + 5) = 1) False (164 + 8 * d + 5))) e2.symm))) rfl (congrArg (fun dd => endD dd d (iD (M 2) d) (mD (M 2) d) (dd (164 + 8 * d + 5) = 1) False) e2) hrm (fun r9 hr9 => by simp only [up2, va_up_ne _ _ hr9]))
      · refine y_iconst (v := 1) hC dX8_accept_68 (by decide) ?_
        refine y_goto (tgt := 73) hC dX8_accept_69 (by decide) ?_
        refine y_iconst (v := 0) hC dX8_accept_73 (by decide) ?_
        refine y_callS0 hC (c_end_at X.2.1 D z hQ vK (w := True) (b := False)) m_X8_223 rfl (by decide) (Nat.le_of_ble_eq_true rfl) (Nat.zero_le _) (Nat.zero_le _) dX8_accept_74 ?_
        rw [endD_c (w2 := Mr 2 (164 + 8 * d + 5) = 1) (b2 := False) (iff_of_true trivial c65) Iff.rfl]
        refine y_aload_n hC dX8_accept_77 rfl ?_
        refine y_getR hC (yM_o hQ) (yM_r8 hQ) f_X8_17 rfl dX8_accept_78 ?_
        refine y_iload_n hC dX8_accept_81 rfl ?_
        refine y_iconst (v := nI 5) hC dX8_accept_82 (by decide) ?_
        refine y_iaddN hC dX8_accept_83 ?_
        refine y_ialdRN (w9 := 15) hC (by decide) (yM_a8 hQ) (by omega) dX8_accept_84 ?_
        exact y_iret hC hr rfl (Nat.zero_le _) (Nat.zero_le _) dX8_accept_85 (yMw.ok ((mI_t hx).trans ((mA_t c30).trans (congrArg (fun dd => ((0 : Int32), endD dd d (iD (M 2) d) (mD (M 2) d) (dd (164 + 8 * d + 5) = 1) False (164 + 8 * d + 5))) e2.symm))) rfl (congrArg (fun dd => endD dd d (iD (M 2) d) (mD (M 2) d) (dd (164 + 8 * d + 5) = 1) False) e2) hrm (fun r9 hr9 => by simp only [up2, va_up_ne _ _ hr9]))
    · refine y_iconst (v := 1) hC dX8_accept_33 (by decide) ?_
      refine y_goto (tgt := 38) hC dX8_accept_34 (by decide) ?_
      refine y_iconst (v := 2) hC dX8_accept_38 (by decide) ?_
      refine y_callV1 hC (c_X8_fails1 X.2.1 D z hQ up2_at (by decide)) m_X8_158 rfl (yM_o hQ) (by decide) (Nat.le_of_ble_eq_true rfl) (Nat.zero_le _) (Nat.zero_le _) dX8_accept_39 ?_
      refine y_if_eq (tgt := 47) hC dX8_accept_42 (by decide) (fun c42 => absurd c42 (by decide)) (fun c42 => ?_)
      refine y_iconst (v := 0) hC dX8_accept_45 (by decide) ?_
      exact y_iret hC hr rfl (Nat.zero_le _) (Nat.zero_le _) dX8_accept_46 (by first | exact yMw.no (mI_f hx) (by decide) rfl up2_up2 | exact yMw.no ((mI_t hx).trans (mA_f c30)) (by decide) rfl up2_up2)
  · refine y_callV1 hC (c_X8_noDispute1 X.2.1 D z hQ up2_at ((congrFun (show up2 M 0 0 0 2 = M 2 from up2_r (by decide)) 4).trans hnd) (by omega) hx) m_X8_239 rfl (yM_o hQ) (by decide) (Nat.le_of_ble_eq_true rfl) (Nat.zero_le _) (Nat.zero_le _) dX8_accept_7 ?_
    refine y_if_eq (tgt := 15) hC dX8_accept_10 (by decide) (fun c10 => absurd c10 (by decide)) (fun c10 => ?_)
    refine y_iconst (v := 0) hC dX8_accept_13 (by decide) ?_
    exact y_iret hC hr rfl (Nat.zero_le _) (Nat.zero_le _) dX8_accept_14 (by first | exact yMw.no (mI_f hx) (by decide) rfl up2_up2 | exact yMw.no ((mI_t hx).trans (mA_f c30)) (by decide) rfl up2_up2)
def fil0 (d : Nat → Int32) (nd p r : Nat) (am : Int32) : Nat → Int32 := upd (upd (upd (upd d 4 (d 4 + 1)) (164 + 8 * nd) (nI p)) (164 + 8 * nd + 1) (nI r)) (164 + 8 * nd + 2) am
def fil2 (d : Nat → Int32) (nd p r : Nat) (am : Int32) : Nat → Int32 := upd (upd (upd (fil0 d nd p r am) (164 + 8 * nd + 3) (fil0 d nd p r am 5)) (164 + 8 * nd + 4) 0) (164 + 8 * nd + 5) 0
def fil1 (d : Nat → Int32) (nd p r : Nat) (am : Int32) : Nat → Int32 := upd (upd (fil2 d nd p r am) (164 + 8 * nd + 6) (fil2 d nd p r am 5 + fil2 d nd p r am (20 + 6 * r + 2))) (164 + 8 * nd + 7) 1
def filD (d : Nat → Int32) (nd p r : Nat) (am : Int32) (i m : Nat) : Nat → Int32 := payD (give0D (fil1 d nd p r am) nd i m) (16 + m) 11 (give0D (fil1 d nd p r am) nd i m 6)
theorem fil1_K {d : Nat → Int32} {nd p r i m : Nat} {am : Int32} (h1 : nd < 20) (h2 : p < 24) (h3 : i < 4) (h4 : m < 4) (h5 : r < 8) (e1 : d (68 + 4 * p) = nI i) (e2 : d (68 + 4 * p + 1) = nI m) : dK (fil1 d nd p r am) nd p i m r := by
  refine ⟨h1, ?_, h2, ?_, h3, ?_, h4, ?_, h5⟩
  · unfold fil1 fil2 fil0
    rw [upd_ne9 (by omega), upd_ne9 (by omega), upd_ne9 (by omega), upd_ne9 (by omega), upd_ne9 (by omega), upd_ne9 (by omega), upd_ne9 (by omega), upd_same]
  · unfold fil1 fil2 fil0
    rw [upd_ne9 (by omega), upd_ne9 (by omega), upd_ne9 (by omega), upd_ne9 (by omega), upd_ne9 (by omega), upd_ne9 (by omega), upd_ne9 (by omega), upd_ne9 (by omega), upd_ne9 (by omega)]; exact e1
  · unfold fil1 fil2 fil0
    rw [upd_ne9 (by omega), upd_ne9 (by omega), upd_ne9 (by omega), upd_ne9 (by omega), upd_ne9 (by omega), upd_ne9 (by omega), upd_ne9 (by omega), upd_ne9 (by omega), upd_ne9 (by omega)]; exact e2
  · unfold fil1 fil2 fil0
    rw [upd_ne9 (by omega), upd_ne9 (by omega), upd_ne9 (by omega), upd_ne9 (by omega), upd_ne9 (by omega), upd_ne9 (by omega), upd_same]
set_option maxRecDepth 100000 in
set_option maxHeartbeats 4000000 in
theorem c_X8_file (l : Launch) (D : yD) (z : Nat) {n : Nat} {sh : yS} {I : yI} {L : yL} {q : Nat} {M : yI} (hQ : yMod sh q) {u : Nat} (hu : M 0 12 = nI u) (hu8 : u ≤ 8) {nd : Nat} (hnd : M 2 4 = nI nd) (nd20 : nd ≤ 20) {np : Nat} (hnp : M 2 3 = nI np) (np24 : np ≤ 24) {nr : Nat} (hnr : M 2 2 = nI nr) (nr8 : nr ≤ 8) {x : Int32} {p : Nat} (hp : vp_in x np → x = nI p ∧ p < np) {x2 : Int32} {r : Nat} (hr9 : vp_in x2 nr → x2 = nI r ∧ r < nr) {am : Int32} {i m : Nat} (hpi : p < np → M 2 (68 + 4 * p) = nI i ∧ i < 4 ∧ M 2 (68 + 4 * p + 1) = nI m ∧ m < 4) : yM l D z yX8_file cX8_file 8 (some .int) 5 0 0 [.ref q, .int x, .int x2, .int am] n sh (sR 15 I q M) L (yMw (mI np x (mI nr x2 (mA 2 ((¬ am < 1 ∧ am ≤ 99999) ∧ am ≤ M 2 (68 + 4 * p + 2) - (sm (fun k => if M 2 (164 + 8 * k) = nI p ∧ ¬ M 2 (164 + 8 * k + 5) = 5 then M 2 (164 + 8 * k + 2) else 0) nd)) (mA 3 (M 2 5 ≤ M 2 (68 + 4 * p + 3) + M 2 (20 + 6 * r + 1) ∧ ¬ nd = 20) (0, nI nd))))) (filD (M 2) nd p r am i m) n sh I q M u L) (yno) := by
  refine yM_of (by decide) (Nat.le_of_ble_eq_true rfl) rfl ?_
  intro X hC hr hnm hRc hRs htb
  have hC : yC X D z cX8_file RX8 8 5 := hC
  refine y_aload_n hC dX8_file_0 rfl ?_
  refine y_iconst (v := 0) hC dX8_file_1 (by decide) ?_
  refine y_putIR (w9 := 15) hC (by decide) (yM_o hQ) f_X8_39 rfl (Or.inl rfl) dX8_file_2 ?_
  refine y_toS q ?_
  refine y_aload_n hC dX8_file_5 rfl ?_
  refine y_iload_n hC dX8_file_6 rfl ?_
  by_cases hx : vp_in x np
  · obtain ⟨rfl, pl⟩ := hp hx
    refine y_callV1 hC (c_X8_noPurchase0 X.2.1 D z hQ up2_at ((congrFun (show up2 M 0 0 0 2 = M 2 from up2_r (by decide)) 3).trans hnp) (by omega) hx) m_X8_233 rfl (yM_o hQ) (by decide) (Nat.le_of_ble_eq_true rfl) (Nat.zero_le _) (Nat.zero_le _) dX8_file_7 ?_
    refine y_if_ne (tgt := 42) hC dX8_file_10 (by decide) (fun c10 => absurd rfl c10) (fun c10 => ?_)
    refine y_aload_n hC dX8_file_13 rfl ?_
    refine y_iload_n hC dX8_file_14 rfl ?_
    refine y_iconst (v := 0) hC dX8_file_15 (by decide) ?_
    refine y_aload_n hC dX8_file_16 rfl ?_
    refine y_getR hC (yM_o hQ) (yM_r8 hQ) f_X8_17 rfl dX8_file_17 ?_
    refine y_iconst (v := nI 2) hC dX8_file_20 (by decide) ?_
    refine y_ialdRN (w9 := 15) hC (by decide) (yM_a8 hQ) (by decide) dX8_file_21 ?_
    rw [show up2 M 0 0 0 2 2 = nI nr from hnr]
    refine y_iconst (v := 1) hC dX8_file_22 (by decide) ?_
    refine y_isub hC dX8_file_23 ?_
    refine y_callS1 hC (c_X8_in X.2.1 D z) m_X8_61 rfl (by decide) (Nat.le_of_ble_eq_true rfl) (Nat.zero_le _) (Nat.zero_le _) dX8_file_24 ?_
    refine y_if_neB (tgt := 34) hC dX8_file_27 (by decide) (fun c27 => ?_) (fun c27 => ?_)
    · refine y_iconst (v := 0) hC dX8_file_34 (by decide) ?_
      refine y_iconst (v := 1) hC dX8_file_35 (by decide) ?_
      refine y_callV1 hC (c_X8_fails0 X.2.1 D z hQ up2_at) m_X8_158 rfl (yM_o hQ) (by decide) (Nat.le_of_ble_eq_true rfl) (Nat.zero_le _) (Nat.zero_le _) dX8_file_36 ?_
      refine y_if_eq (tgt := 44) hC dX8_file_39 (by decide) (fun c39 => ?_) (fun c39 => absurd rfl c39)
      have hx2 := (in_vp (by omega)).mp c27
      obtain ⟨rfl, rl⟩ := hr9 hx2
      refine y_iload_n hC dX8_file_44 rfl ?_
      refine y_callS1 hC (c_X8_purchase X.2.1 D z (j := p) rfl) m_X8_190 rfl (by decide) (Nat.le_of_ble_eq_true rfl) (Nat.zero_le _) (Nat.zero_le _) dX8_file_45 ?_
      refine y_istore hC dX8_file_48 (by decide) rfl ?_
      refine y_iload_n hC dX8_file_50 rfl ?_
      refine y_callS1 hC (c_X8_reason X.2.1 D z (j := r) rfl) m_X8_135 rfl (by decide) (Nat.le_of_ble_eq_true rfl) (Nat.zero_le _) (Nat.zero_le _) dX8_file_51 ?_
      refine y_istore hC dX8_file_54 (by decide) rfl ?_
      refine y_aload_n hC dX8_file_56 rfl ?_
      refine y_iload_n hC dX8_file_57 rfl ?_
      refine y_iconst (v := 1) hC dX8_file_58 (by decide) ?_
      refine y_ldcw hC k_X8_259 dX8_file_59 ?_
      refine y_callS1 hC (c_X8_in X.2.1 D z) m_X8_61 rfl (by decide) (Nat.le_of_ble_eq_true rfl) (Nat.zero_le _) (Nat.zero_le _) dX8_file_62 ?_
      refine y_if_eqB (tgt := 87) hC dX8_file_65 (by decide) (fun c65 => ?_) (fun c65 => ?_)
      · refine y_iconst (v := 1) hC dX8_file_87 (by decide) ?_
        refine y_goto (tgt := 92) hC dX8_file_88 (by decide) ?_
        refine y_iconst (v := 2) hC dX8_file_92 (by decide) ?_
        refine y_callV1 hC (c_X8_fails1 X.2.1 D z hQ up2_at (by decide)) m_X8_158 rfl (yM_o hQ) (by decide) (Nat.le_of_ble_eq_true rfl) (Nat.zero_le _) (Nat.zero_le _) dX8_file_93 ?_
        refine y_if_ne (tgt := 151) hC dX8_file_96 (by decide) (fun c96 => ?_) (fun c96 => absurd c96 (by decide))
        refine y_iconst (v := 0) hC dX8_file_151 (by decide) ?_
        exact y_iret hC hr rfl (Nat.zero_le _) (Nat.zero_le _) dX8_file_152 (by first | exact yMw.no (mI_f hx) (by decide) rfl up2_up2 | exact yMw.no ((mI_t hx).trans (mI_f (fun q => c27 ((in_vp (by omega)).mpr q)))) (by decide) rfl up2_up2 | exact yMw.no ((mI_t hx).trans ((mI_t hx2).trans (mA_f (fun q => c65 q.1)))) (by decide) rfl up2_up2 | exact yMw.no ((mI_t hx).trans ((mI_t hx2).trans (mA_f (fun q => c84 q.2)))) (by decide) rfl up2_up2 | exact yMw.no ((mI_t hx).trans ((mI_t hx2).trans ((mA_t ⟨c65, c84⟩).trans (mA_f (fun q => Int32.not_lt.mpr q.1 c125))))) (by decide) rfl up2_up2 | exact yMw.no ((mI_t hx).trans ((mI_t hx2).trans ((mA_t ⟨c65, c84⟩).trans (mA_f (fun q => q.2 (nI_eq2 c136)))))) (by decide) rfl up2_up2)
      · refine y_iload_n hC dX8_file_68 rfl ?_
        refine y_aload_n hC dX8_file_69 rfl ?_
        refine y_getR hC (yM_o hQ) (yM_r8 hQ) f_X8_17 rfl dX8_file_70 ?_
        refine y_iload hC dX8_file_73 rfl ?_
        refine y_iconst (v := nI 2) hC dX8_file_75 (by decide) ?_
        refine y_iaddN hC dX8_file_76 ?_
        refine y_ialdRN (w9 := 15) hC (by decide) (yM_a8 hQ) (by omega) dX8_file_77 ?_
        refine y_aload_n hC dX8_file_78 rfl ?_
        refine y_iload_n hC dX8_file_79 rfl ?_
        refine y_callV1 hC (c_X8_disputedOf X.2.1 D z (M := up2 M 0 0 0) hQ hnd nd20) m_X8_236 rfl (yM_o hQ) (by decide) (Nat.le_of_ble_eq_true rfl) (Nat.zero_le _) (Nat.zero_le _) dX8_file_80 ?_
        refine y_isub hC dX8_file_83 ?_
        refine y_icmp_le (tgt := 91) hC dX8_file_84 (by decide) (fun c84 => ?_) (fun c84 => ?_)
        · refine y_iconst (v := 0) hC dX8_file_91 (by decide) ?_
          refine y_iconst (v := 2) hC dX8_file_92 (by decide) ?_
          refine y_callV1 hC (c_X8_fails0 X.2.1 D z hQ up2_at) m_X8_158 rfl (yM_o hQ) (by decide) (Nat.le_of_ble_eq_true rfl) (Nat.zero_le _) (Nat.zero_le _) dX8_file_93 ?_
          refine y_if_ne (tgt := 151) hC dX8_file_96 (by decide) (fun c96 => absurd rfl c96) (fun c96 => ?_)
          refine y_aload_n hC dX8_file_99 rfl ?_
          refine y_aload_n hC dX8_file_100 rfl ?_
          refine y_getR hC (yM_o hQ) (yM_r8 hQ) f_X8_17 rfl dX8_file_101 ?_
          refine y_iconst (v := nI 5) hC dX8_file_104 (by decide) ?_
          refine y_ialdRN (w9 := 15) hC (by decide) (yM_a8 hQ) (by decide) dX8_file_105 ?_
          refine y_aload_n hC dX8_file_106 rfl ?_
          refine y_getR hC (yM_o hQ) (yM_r8 hQ) f_X8_17 rfl dX8_file_107 ?_
          refine y_iload hC dX8_file_110 rfl ?_
          refine y_iconst (v := nI 3) hC dX8_file_112 (by decide) ?_
          refine y_iaddN hC dX8_file_113 ?_
          refine y_ialdRN (w9 := 15) hC (by decide) (yM_a8 hQ) (by omega) dX8_file_114 ?_
          refine y_aload_n hC dX8_file_115 rfl ?_
          refine y_getR hC (yM_o hQ) (yM_r8 hQ) f_X8_17 rfl dX8_file_116 ?_
          refine y_iload hC dX8_file_119 rfl ?_
          refine y_iconst (v := nI 1) hC dX8_file_121 (by decide) ?_
          refine y_iaddN hC dX8_file_122 ?_
          refine y_ialdRN (w9 := 15) hC (by decide) (yM_a8 hQ) (by omega) dX8_file_123 ?_
          refine y_iadd hC dX8_file_124 ?_
          refine y_icmp_gt (tgt := 139) hC dX8_file_125 (by decide) (fun c125 => ?_) (fun c125 => ?_)
          · refine y_iconst (v := 1) hC dX8_file_139 (by decide) ?_
            refine y_goto (tgt := 144) hC dX8_file_140 (by decide) ?_
            refine y_iconst (v := 3) hC dX8_file_144 (by decide) ?_
            refine y_callV1 hC (c_X8_fails1 X.2.1 D z hQ up2_at (by decide)) m_X8_158 rfl (yM_o hQ) (by decide) (Nat.le_of_ble_eq_true rfl) (Nat.zero_le _) (Nat.zero_le _) dX8_file_145 ?_
            refine y_if_eq (tgt := 153) hC dX8_file_148 (by decide) (fun c148 => absurd c148 (by decide)) (fun c148 => ?_)
            refine y_iconst (v := 0) hC dX8_file_151 (by decide) ?_
            exact y_iret hC hr rfl (Nat.zero_le _) (Nat.zero_le _) dX8_file_152 (by first | exact yMw.no (mI_f hx) (by decide) rfl up2_up2 | exact yMw.no ((mI_t hx).trans (mI_f (fun q => c27 ((in_vp (by omega)).mpr q)))) (by decide) rfl up2_up2 | exact yMw.no ((mI_t hx).trans ((mI_t hx2).trans (mA_f (fun q => c65 q.1)))) (by decide) rfl up2_up2 | exact yMw.no ((mI_t hx).trans ((mI_t hx2).trans (mA_f (fun q => c84 q.2)))) (by decide) rfl up2_up2 | exact yMw.no ((mI_t hx).trans ((mI_t hx2).trans ((mA_t ⟨c65, c84⟩).trans (mA_f (fun q => Int32.not_lt.mpr q.1 c125))))) (by decide) rfl up2_up2 | exact yMw.no ((mI_t hx).trans ((mI_t hx2).trans ((mA_t ⟨c65, c84⟩).trans (mA_f (fun q => q.2 (nI_eq2 c136)))))) (by decide) rfl up2_up2)
          · refine y_aload_n hC dX8_file_128 rfl ?_
            refine y_getR hC (yM_o hQ) (yM_r8 hQ) f_X8_17 rfl dX8_file_129 ?_
            refine y_iconst (v := nI 4) hC dX8_file_132 (by decide) ?_
            refine y_ialdRN (w9 := 15) hC (by decide) (yM_a8 hQ) (by decide) dX8_file_133 ?_
            rw [show up2 M 0 0 0 2 4 = nI nd from hnd]
            refine y_bipush (v := nI 20) hC dX8_file_134 (by decide) ?_
            refine y_icmp_ne (tgt := 143) hC dX8_file_136 (by decide) (fun c136 => ?_) (fun c136 => ?_)
            · refine y_iconst (v := 0) hC dX8_file_143 (by decide) ?_
              refine y_iconst (v := 3) hC dX8_file_144 (by decide) ?_
              refine y_callV1 hC (c_X8_fails0 X.2.1 D z hQ up2_at) m_X8_158 rfl (yM_o hQ) (by decide) (Nat.le_of_ble_eq_true rfl) (Nat.zero_le _) (Nat.zero_le _) dX8_file_145 ?_
              refine y_if_eq (tgt := 153) hC dX8_file_148 (by decide) (fun c148 => ?_) (fun c148 => absurd rfl c148)
              refine y_aload_n hC dX8_file_153 rfl ?_
              refine y_callRem (I0 := I) (q := q) hC (c_rem_at X.2.1 D z (M := up2 M 0 0 0) hQ hu hu8) m_X8_165 rfl (yM_o hQ) (by decide) (Nat.le_of_ble_eq_true rfl) (Nat.zero_le _) (Nat.zero_le _) dX8_file_154 (fun Mr hrm => ?_)
              have e2 : Mr 2 = M 2 := hrm.1
              have nd19 : nd < 20 := by have := nI_ne2 c136; omega
              obtain ⟨q1, i4, q2, m4⟩ := hpi pl
              have vK : dK (fil1 (Mr 2) nd p r am) nd p i m r := fil1_K (by omega) (by omega) i4 m4 (by omega) (by rw [e2]; exact q1) (by rw [e2]; exact q2)
              have vK2 := vK.fz (give0F (d := fil1 (Mr 2) nd p r am) nd19 i4 m4)
              refine y_aload_n hC dX8_file_157 rfl ?_
              refine y_getR hC (yM_o hQ) (yM_r8 hQ) f_X8_17 rfl dX8_file_158 ?_
              refine y_iconst (v := nI 4) hC dX8_file_161 (by decide) ?_
              refine y_ialdRN (w9 := 15) hC (by decide) (yM_a8 hQ) (by decide) dX8_file_162 ?_
              rw [show Mr 2 4 = nI nd from (congrFun e2 4).trans hnd]
              refine y_istore hC dX8_file_163 (by decide) rfl ?_
              refine y_iload hC dX8_file_165 rfl ?_
              refine y_callS1 hC (c_X8_dispute X.2.1 D z (j := nd) rfl) m_X8_180 rfl (by decide) (Nat.le_of_ble_eq_true rfl) (Nat.zero_le _) (Nat.zero_le _) dX8_file_167 ?_
              refine y_istore hC dX8_file_170 (by decide) rfl ?_
              refine y_aload_n hC dX8_file_172 rfl ?_
              refine y_getR hC (yM_o hQ) (yM_r8 hQ) f_X8_17 rfl dX8_file_173 ?_
              refine y_iconst (v := nI 4) hC dX8_file_176 (by decide) ?_
              refine y_dup2 hC dX8_file_177 rfl rfl ?_
              refine y_ialdRN (w9 := 15) hC (by decide) (yM_a8 hQ) (by decide) dX8_file_178 ?_
              refine y_iconst (v := 1) hC dX8_file_179 (by decide) ?_
              refine y_iadd hC dX8_file_180 ?_
              refine y_iastRN (w9 := 15) hC (by decide) (yM_a8 hQ) (by decide) dX8_file_181 ?_
              refine y_aload_n hC dX8_file_182 rfl ?_
              refine y_getR hC (yM_o hQ) (yM_r8 hQ) f_X8_17 rfl dX8_file_183 ?_
              refine y_iload hC dX8_file_186 rfl ?_
              refine y_iload_n hC dX8_file_188 rfl ?_
              refine y_iastRN (w9 := 15) hC (by decide) (yM_a8 hQ) (by omega) dX8_file_189 ?_
              refine y_aload_n hC dX8_file_190 rfl ?_
              refine y_getR hC (yM_o hQ) (yM_r8 hQ) f_X8_17 rfl dX8_file_191 ?_
              refine y_iload hC dX8_file_194 rfl ?_
              refine y_iconst (v := nI 1) hC dX8_file_196 (by decide) ?_
              refine y_iaddN hC dX8_file_197 ?_
              refine y_iload_n hC dX8_file_198 rfl ?_
              refine y_iastRN (w9 := 15) hC (by decide) (yM_a8 hQ) (by omega) dX8_file_199 ?_
              refine y_aload_n hC dX8_file_200 rfl ?_
              refine y_getR hC (yM_o hQ) (yM_r8 hQ) f_X8_17 rfl dX8_file_201 ?_
              refine y_iload hC dX8_file_204 rfl ?_
              refine y_iconst (v := nI 2) hC dX8_file_206 (by decide) ?_
              refine y_iaddN hC dX8_file_207 ?_
              refine y_iload_n hC dX8_file_208 rfl ?_
              refine y_iastRN (w9 := 15) hC (by decide) (yM_a8 hQ) (by omega) dX8_file_209 ?_
              refine y_aload_n hC dX8_file_210 rfl ?_
              refine y_getR hC (yM_o hQ) (yM_r8 hQ) f_X8_17 rfl dX8_file_211 ?_
              refine y_iload hC dX8_file_214 rfl ?_
              refine y_iconst (v := nI 3) hC dX8_file_216 (by decide) ?_
              refine y_iaddN hC dX8_file_217 ?_
              refine y_aload_n hC dX8_file_218 rfl ?_
              refine y_getR hC (yM_o hQ) (yM_r8 hQ) f_X8_17 rfl dX8_file_219 ?_
              refine y_iconst (v := nI 5) hC dX8_file_222 (by decide) ?_
              refine y_ialdRN (w9 := 15) hC (by decide) (yM_a8 hQ) (by decide) dX8_file_223 ?_
              refine y_iastRN (w9 := 15) hC (by decide) (yM_a8 hQ) (by omega) dX8_file_224 ?_
              refine y_aload_n hC dX8_file_225 rfl ?_
              refine y_getR hC (yM_o hQ) (yM_r8 hQ) f_X8_17 rfl dX8_file_226 ?_
              refine y_iload hC dX8_file_229 rfl ?_
              refine y_iconst (v := nI 4) hC dX8_file_231 (by decide) ?_
              refine y_iaddN hC dX8_file_232 ?_
              refine y_iconst (v := 0) hC dX8_file_233 (by decide) ?_
              refine y_iastRN (w9 := 15) hC (by decide) (yM_a8 hQ) (by omega) dX8_file_234 ?_
              refine y_aload_n hC dX8_file_235 rfl ?_
              refine y_getR hC (yM_o hQ) (yM_r8 hQ) f_X8_17 rfl dX8_file_236 ?_
              refine y_iload hC dX8_file_239 rfl ?_
              refine y_iconst (v := nI 5) hC dX8_file_241 (by decide) ?_
              refine y_iaddN hC dX8_file_242 ?_
              refine y_iconst (v := 0) hC dX8_file_243 (by decide) ?_
              refine y_iastRN (w9 := 15) hC (by decide) (yM_a8 hQ) (by omega) dX8_file_244 ?_
              refine y_aload_n hC dX8_file_245 rfl ?_
              refine y_getR hC (yM_o hQ) (yM_r8 hQ) f_X8_17 rfl dX8_file_246 ?_
              refine y_iload hC dX8_file_249 rfl ?_
              refine y_bipush (v := nI 6) hC dX8_file_251 (by decide) ?_
              refine y_iaddN hC dX8_file_253 ?_
              refine y_aload_n hC dX8_file_254 rfl ?_
              refine y_getR hC (yM_o hQ) (yM_r8 hQ) f_X8_17 rfl dX8_file_255 ?_
              refine y_iconst (v := nI 5) hC dX8_file_258 (by decide) ?_
              refine y_ialdRN (w9 := 15) hC (by decide) (yM_a8 hQ) (by decide) dX8_file_259 ?_
              refine y_aload_n hC dX8_file_260 rfl ?_
              refine y_getR hC (yM_o hQ) (yM_r8 hQ) f_X8_17 rfl dX8_file_261 ?_
              refine y_iload hC dX8_file_264 rfl ?_
              refine y_iconst (v := nI 2) hC dX8_file_266 (by decide) ?_
              refine y_iaddN hC dX8_file_267 ?_
              refine y_ialdRN (w9 := 15) hC (by decide) (yM_a8 hQ) (by omega) dX8_file_268 ?_
              refine y_iadd hC dX8_file_269 ?_
              refine y_iastRN (w9 := 15) hC (by decide) (yM_a8 hQ) (by omega) dX8_file_270 ?_
              refine y_aload_n hC dX8_file_271 rfl ?_
              refine y_getR hC (yM_o hQ) (yM_r8 hQ) f_X8_17 rfl dX8_file_272 ?_
              refine y_iload hC dX8_file_275 rfl ?_
              refine y_bipush (v := nI 7) hC dX8_file_277 (by decide) ?_
              refine y_iaddN hC dX8_file_279 ?_
              refine y_iconst (v := 1) hC dX8_file_280 (by decide) ?_
              refine y_iastRN (w9 := 15) hC (by decide) (yM_a8 hQ) (by omega) dX8_file_281 ?_
              refine y_aload_n hC dX8_file_282 rfl ?_
              refine y_getR hC (yM_o hQ) (yM_r8 hQ) f_X8_17 rfl dX8_file_283 ?_
              refine y_iload hC dX8_file_286 rfl ?_
              refine y_iconst (v := 0) hC dX8_file_288 (by decide) ?_
              refine y_callS0 hC (c_give0_at X.2.1 D z hQ (k := nd) vK) m_X8_211 rfl (by decide) (Nat.le_of_ble_eq_true rfl) (Nat.zero_le _) (Nat.zero_le _) dX8_file_289 ?_
              refine y_aload_n hC dX8_file_292 rfl ?_
              refine y_getR hC (yM_o hQ) (yM_r8 hQ) f_X8_17 rfl dX8_file_293 ?_
              refine y_aload_n hC dX8_file_296 rfl ?_
              refine y_getR hC (yM_o hQ) (yM_r8 hQ) f_X8_17 rfl dX8_file_297 ?_
              refine y_iload hC dX8_file_300 rfl ?_
              refine y_callS1 hC (c_merchantOf_at X.2.1 D z hQ (k := nd) vK2) m_X8_201 rfl (by decide) (Nat.le_of_ble_eq_true rfl) (Nat.zero_le _) (Nat.zero_le _) dX8_file_302 ?_
              refine y_bipush (v := nI 11) hC dX8_file_305 (by decide) ?_
              refine y_aload_n hC dX8_file_307 rfl ?_
              refine y_getR hC (yM_o hQ) (yM_r8 hQ) f_X8_17 rfl dX8_file_308 ?_
              refine y_bipush (v := nI 6) hC dX8_file_311 (by decide) ?_
              refine y_ialdRN (w9 := 15) hC (by decide) (yM_a8 hQ) (by decide) dX8_file_313 ?_
              refine y_callS0 hC (c_pay_at X.2.1 D z hQ rfl rfl (by omega) (by omega)) m_X8_207 rfl (by decide) (Nat.le_of_ble_eq_true rfl) (Nat.zero_le _) (Nat.zero_le _) dX8_file_314 ?_
              refine y_iload hC dX8_file_317 rfl ?_
              exact y_iret hC hr rfl (Nat.zero_le _) (Nat.zero_le _) dX8_file_319 (yMw.ok ((mI_t hx).trans ((mI_t hx2).trans ((mA_t ⟨c65, c84⟩).trans (mA_t ⟨Int32.not_lt.mp c125, nI_ne2 c136⟩)))) rfl (by rw [← e2]; rfl) hrm (fun r9 hr9 => by simp only [up2, va_up_ne _ _ hr9]))
            · refine y_iconst (v := 1) hC dX8_file_139 (by decide) ?_
              refine y_goto (tgt := 144) hC dX8_file_140 (by decide) ?_
              refine y_iconst (v := 3) hC dX8_file_144 (by decide) ?_
              refine y_callV1 hC (c_X8_fails1 X.2.1 D z hQ up2_at (by decide)) m_X8_158 rfl (yM_o hQ) (by decide) (Nat.le_of_ble_eq_true rfl) (Nat.zero_le _) (Nat.zero_le _) dX8_file_145 ?_
              refine y_if_eq (tgt := 153) hC dX8_file_148 (by decide) (fun c148 => absurd c148 (by decide)) (fun c148 => ?_)
              refine y_iconst (v := 0) hC dX8_file_151 (by decide) ?_
              exact y_iret hC hr rfl (Nat.zero_le _) (Nat.zero_le _) dX8_file_152 (by first | exact yMw.no (mI_f hx) (by decide) rfl up2_up2 | exact yMw.no ((mI_t hx).trans (mI_f (fun q => c27 ((in_vp (by omega)).mpr q)))) (by decide) rfl up2_up2 | exact yMw.no ((mI_t hx).trans ((mI_t hx2).trans (mA_f (fun q => c65 q.1)))) (by decide) rfl up2_up2 | exact yMw.no ((mI_t hx).trans ((mI_t hx2).trans (mA_f (fun q => c84 q.2)))) (by decide) rfl up2_up2 | exact yMw.no ((mI_t hx).trans ((mI_t hx2).trans ((mA_t ⟨c65, c84⟩).trans (mA_f (fun q => Int32.not_lt.mpr q.1 c125))))) (by decide) rfl up2_up2 | exact yMw.no ((mI_t hx).trans ((mI_t hx2).trans ((mA_t ⟨c65, c84⟩).trans (mA_f (fun q => q.2 (nI_eq2 c136)))))) (by decide) rfl up2_up2)
        · refine y_iconst (v := 1) hC dX8_file_87 (by decide) ?_
          refine y_goto (tgt := 92) hC dX8_file_88 (by decide) ?_
          refine y_iconst (v := 2) hC dX8_file_92 (by decide) ?_
          refine y_callV1 hC (c_X8_fails1 X.2.1 D z hQ up2_at (by decide)) m_X8_158 rfl (yM_o hQ) (by decide) (Nat.le_of_ble_eq_true rfl) (Nat.zero_le _) (Nat.zero_le _) dX8_file_93 ?_
          refine y_if_ne (tgt := 151) hC dX8_file_96 (by decide) (fun c96 => ?_) (fun c96 => absurd c96 (by decide))
          refine y_iconst (v := 0) hC dX8_file_151 (by decide) ?_
          exact y_iret hC hr rfl (Nat.zero_le _) (Nat.zero_le _) dX8_file_152 (by first | exact yMw.no (mI_f hx) (by decide) rfl up2_up2 | exact yMw.no ((mI_t hx).trans (mI_f (fun q => c27 ((in_vp (by omega)).mpr q)))) (by decide) rfl up2_up2 | exact yMw.no ((mI_t hx).trans ((mI_t hx2).trans (mA_f (fun q => c65 q.1)))) (by decide) rfl up2_up2 | exact yMw.no ((mI_t hx).trans ((mI_t hx2).trans (mA_f (fun q => c84 q.2)))) (by decide) rfl up2_up2 | exact yMw.no ((mI_t hx).trans ((mI_t hx2).trans ((mA_t ⟨c65, c84⟩).trans (mA_f (fun q => Int32.not_lt.mpr q.1 c125))))) (by decide) rfl up2_up2 | exact yMw.no ((mI_t hx).trans ((mI_t hx2).trans ((mA_t ⟨c65, c84⟩).trans (mA_f (fun q => q.2 (nI_eq2 c136)))))) (by decide) rfl up2_up2)
    · refine y_iconst (v := 1) hC dX8_file_30 (by decide) ?_
      refine y_goto (tgt := 35) hC dX8_file_31 (by decide) ?_
      refine y_iconst (v := 1) hC dX8_file_35 (by decide) ?_
      refine y_callV1 hC (c_X8_fails1 X.2.1 D z hQ up2_at (by decide)) m_X8_158 rfl (yM_o hQ) (by decide) (Nat.le_of_ble_eq_true rfl) (Nat.zero_le _) (Nat.zero_le _) dX8_file_36 ?_
      refine y_if_eq (tgt := 44) hC dX8_file_39 (by decide) (fun c39 => absurd c39 (by decide)) (fun c39 => ?_)
      refine y_iconst (v := 0) hC dX8_file_42 (by decide) ?_
      exact y_iret hC hr rfl (Nat.zero_le _) (Nat.zero_le _) dX8_file_43 (by first | exact yMw.no (mI_f hx) (by decide) rfl up2_up2 | exact yMw.no ((mI_t hx).trans (mI_f (fun q => c27 ((in_vp (by omega)).mpr q)))) (by decide) rfl up2_up2 | exact yMw.no ((mI_t hx).trans ((mI_t hx2).trans (mA_f (fun q => c65 q.1)))) (by decide) rfl up2_up2 | exact yMw.no ((mI_t hx).trans ((mI_t hx2).trans (mA_f (fun q => c84 q.2)))) (by decide) rfl up2_up2 | exact yMw.no ((mI_t hx).trans ((mI_t hx2).trans ((mA_t ⟨c65, c84⟩).trans (mA_f (fun q => Int32.not_lt.mpr q.1 c125))))) (by decide) rfl up2_up2 | exact yMw.no ((mI_t hx).trans ((mI_t hx2).trans ((mA_t ⟨c65, c84⟩).trans (mA_f (fun q => q.2 (nI_eq2 c136)))))) (by decide) rfl up2_up2)
  · refine y_callV1 hC (c_X8_noPurchase1 X.2.1 D z hQ up2_at ((congrFun (show up2 M 0 0 0 2 = M 2 from up2_r (by decide)) 3).trans hnp) (by omega) hx) m_X8_233 rfl (yM_o hQ) (by decide) (Nat.le_of_ble_eq_true rfl) (Nat.zero_le _) (Nat.zero_le _) dX8_file_7 ?_
    refine y_if_ne (tgt := 42) hC dX8_file_10 (by decide) (fun c10 => ?_) (fun c10 => absurd c10 (by decide))
    refine y_iconst (v := 0) hC dX8_file_42 (by decide) ?_
    exact y_iret hC hr rfl (Nat.zero_le _) (Nat.zero_le _) dX8_file_43 (by first | exact yMw.no (mI_f hx) (by decide) rfl up2_up2 | exact yMw.no ((mI_t hx).trans (mI_f (fun q => c27 ((in_vp (by omega)).mpr q)))) (by decide) rfl up2_up2 | exact yMw.no ((mI_t hx).trans ((mI_t hx2).trans (mA_f (fun q => c65 q.1)))) (by decide) rfl up2_up2 | exact yMw.no ((mI_t hx).trans ((mI_t hx2).trans (mA_f (fun q => c84 q.2)))) (by decide) rfl up2_up2 | exact yMw.no ((mI_t hx).trans ((mI_t hx2).trans ((mA_t ⟨c65, c84⟩).trans (mA_f (fun q => Int32.not_lt.mpr q.1 c125))))) (by decide) rfl up2_up2 | exact yMw.no ((mI_t hx).trans ((mI_t hx2).trans ((mA_t ⟨c65, c84⟩).trans (mA_f (fun q => q.2 (nI_eq2 c136)))))) (by decide) rfl up2_up2)
