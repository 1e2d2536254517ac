/-- the two ints' heaps differ in the formula's stack alone -/
def yScr (f : Nat) (I J : yI) : Prop := ∃ g, J = va_up I (f + 2) g
theorem yScr.rf {f : Nat} {I : yI} : yScr f I I := ⟨I (f + 2), (va_up_id I (f + 2)).symm⟩
theorem yScr.trans {f : Nat} {I J K : yI} (h1 : yScr f I J) (h2 : yScr f J K) : yScr f I K := by
  obtain ⟨g, rfl⟩ := h1
  obtain ⟨g2, rfl⟩ := h2
  exact ⟨g2, bx_uu _ _ _ _⟩
theorem yScr.eq {f : Nat} {I J : yI} (h : yScr f I J) {a : Nat} (ha : a ≠ f + 2) : J a = I a := by
  obtain ⟨g, rfl⟩ := h
  exact va_up_ne _ _ ha
/-- the formula of the setup at su: apart from the book and from the setup's own rows; its items; its value doesn't hang on what its stack held -/
def yPhi (I : yI) (i su f len m : Nat) (it : Nat → Int32) : Prop := (f + 3 ≤ i ∨ i + 14 ≤ f) ∧ (f = su + 1 ∨ f + 3 ≤ su ∨ su + 10 ≤ f) ∧ I f 2 = nI len ∧ I (f + 1) = it ∧ len ≤ m ∧ m < 2147483648 ∧ ∀ c nn a d s0, fval c nn a d it s0 len = fval c nn a d it (fun _ => 0) len
theorem yPhi.scr {I J : yI} {i su f len m : Nat} {it : Nat → Int32} (h : yPhi I i su f len m it) (hs : yScr f I J) : yPhi J i su f len m it := ⟨h.1, h.2.1, by rw [hs.eq (by omega)]; exact h.2.2.1, by rw [hs.eq (by omega)]; exact h.2.2.2.1, h.2.2.2.2⟩
theorem ySig.scr {I J : yI} {i su f len m : Nat} {it : Nat → Int32} {σ : yI} (h : ySig I i su σ) (hp : yPhi I i su f len m it) (hs : yScr f I J) : ySig J i su σ := ⟨h.1, fun k h1 h2 => by rw [hs.eq (by have := hp.2.1; omega)]; exact h.2 k h1 h2⟩
/-- it returns r, the book is B then, and outside it the formula's stack alone has changed -/
abbrev yFs (r : Option Value) (n : Nat) (sh : yS) (I : yI) (f i : Nat) (B : yI) (L : yL) : Option Value → Nat → yS → yI → yL → Prop := fun v n2 sh2 I2 L2 => v = r ∧ n2 = n ∧ sh2 = sh ∧ (∃ J, yScr f I J ∧ I2 = sR 14 J i B) ∧ L2 = L
theorem yFs.mk {r : Option Value} {n : Nat} {sh : yS} {I J : yI} {f i : Nat} {B : yI} {L : yL} {v : Option Value} (hs : yScr f I J) (h : v = r) : yFs r n sh I f i B L v n sh (sR 14 J i B) L := ⟨h, rfl, rfl, ⟨J, hs, rfl⟩, rfl⟩
theorem yFs.t {p : Prop} [Decidable p] {n : Nat} {sh : yS} {I J : yI} {f i : Nat} {B : yI} {L : yL} (hs : yScr f I J) (h : p) : yFs (some (.int (b2i p))) n sh I f i B L (some (.int 1)) n sh (sR 14 J i B) L := yFs.mk hs (by rw [b2i_t h])
theorem yFs.f {p : Prop} [Decidable p] {n : Nat} {sh : yS} {I J : yI} {f i : Nat} {B : yI} {L : yL} (hs : yScr f I J) (h : ¬ p) : yFs (some (.int (b2i p))) n sh I f i B L (some (.int 0)) n sh (sR 14 J i B) L := yFs.mk hs (by rw [b2i_f h])
section CallsS
variable {X : yX} {D : yD} {z nL n n2 : Nat} {sh sh2 : yS} {I J : yI} {L L2 : yL} {k w : Nat} {Q : State → Prop} {pc : Nat} {lv : List (Option Value)} {st stk : List Value} {cc : ByteArray} {own : String} {dep : Nat}
variable {y : MethodName} {bytes : ByteArray} {maxL : Nat} {ret : Option FieldType} {d2 mc ms idx ci b f i : Nat} {As : List Value} {v : Value} {B : yI}
theorem y_callV1s (hC : yC X D z cc own nL dep) (hM : yM X.2.1 D z y bytes maxL ret d2 0 0 (.ref b :: As) n sh J L (yFs (some v) n2 sh2 I f i B L2) yno) (cw : yCV own idx ci y bytes maxL ret As.length) (hs : stk = ypush (.ref b :: As) st) (hb : (sh b).1 = ci) (hdep : d2 + 1 ≤ dep) (hst : (st.map fun v => v.category).sum ≤ 8) (hk : k ≤ (yR X).cells) (hw : w ≤ (yR X).slots) (hd : decode cc pc = .ok (.invokevirtual idx, 3)) (kk : ∀ K, yScr f I K → Y X D z nL n2 sh2 (sR 14 K i B) L2 k w Q (pc + 3) lv (v :: st)) : Y X D z nL n sh J L k w Q pc lv stk := y_callV hC hM cw hs hb hdep hst ⟨hk, hw⟩ hd (fun _ _ _ _ _ h => h.elim) (fun _ _ _ _ _ h => by obtain ⟨rfl, rfl, rfl, ⟨K, hK, rfl⟩, rfl⟩ := h; exact kk K hK)
end CallsS
theorem c_valueFor_at (l : Launch) (D : yD) (z : Nat) {n : Nat} {sh : yS} {J : yI} {L : yL} {f m : Nat} (hF : yFor sh f m) {len : Nat} {c nn a d : Int32} (hl : J f 2 = nI len) (hm : len ≤ m) (hm2 : m < 2147483648) : yM l D z yX1_valueFor cX1_valueFor 8 (some .int) 2 0 0 [.ref f, .int c, .int nn, .int a, .int d] n sh J L (yF (some (.int (fval c nn a d (J (f + 1)) (J (f + 2)) len))) n sh (va_up J (f + 2) (frun c nn a d (J (f + 1)) (J (f + 2)) len).2) L) (yno) := by
  have h := c_X1_valueFor l D z (n := n) (I := J) (L := L) (F := gR J f) hF (c := c) (nn := nn) (a := a) (d := d) (len := len) hl hm hm2
  rw [sR_get, ← sR_row (by decide), sR_get] at h
  exact h
def scV (σ : yI) (it : Nat → Int32) (len : Nat) (B : yI) (d : Nat) (ev : Int32) : Int32 := fval (bcn ev) (bcn (ev &&& σ 9 (tn (B 8 d)))) (B 9 d) (B 10 d - B 6 (tn (B 7 d))) it (fun _ => 0) len
set_option maxRecDepth 100000 in
set_option maxHeartbeats 4000000 in
theorem c_X0_scoreWith (l : Launch) (D : yD) (z : Nat) {n : Nat} {sh : yS} {I : yI} {L : yL} {i su : Nat} {B : yI} (hB : yBook sh i su) {f : Nat} {σ : yI} (hS : ySet sh su f) (hσ : ySig I i su σ) {len m : Nat} {it : Nat → Int32} (hF : yFor sh f m) (hφ : yPhi I i su f len m it) {d : Nat} {ev : Int32} (hd : d < 20) (h7 : vp_in (B 7 d) 24) (h8 : vp_in (B 8 d) 8) : yM l D z yX0_scoreWith cX0_scoreWith 6 (some .int) 3 0 0 [.ref i, .int (nI d), .int ev] n sh (sR 14 I i B) L (yFs (some (.int (scV σ it len B d ev))) n sh I f i (B) L) (yno) := by
  refine yM_of (by decide) (Nat.le_of_ble_eq_true rfl) rfl ?_
  intro X hC hr hnm hRc hRs htb
  have hC : yC X D z cX0_scoreWith RX0 6 3 := hC
  refine y_iload_n hC dX0_scoreWith_0 rfl ?_
  refine y_callS1 hC (c_J6_bitCount_0f7a4 X.2.1 D z) m_X0_136 rfl (by decide) (Nat.le_of_ble_eq_true rfl) (Nat.zero_le _) (Nat.zero_le _) dX0_scoreWith_1 ?_
  refine y_istore_n hC dX0_scoreWith_4 (by decide) rfl ?_
  refine y_iload_n hC dX0_scoreWith_5 rfl ?_
  refine y_aload_n hC dX0_scoreWith_6 rfl ?_
  refine y_getR hC (yB_o hB) (yB_r0 hB) f_X0_9 rfl dX0_scoreWith_7 ?_
  refine y_getR hC (yS_o hS) (yS_r12 hS) f_X0_124 rfl dX0_scoreWith_10 ?_
  refine y_aload_n hC dX0_scoreWith_13 rfl ?_
  refine y_getR hC (yB_o hB) (yB_r12 hB) f_X0_37 rfl dX0_scoreWith_14 ?_
  refine y_iload_n hC dX0_scoreWith_17 rfl ?_
  refine y_ialdRN (w9 := 14) hC (by decide) (yB_a12 hB) (by omega) dX0_scoreWith_18 ?_
  refine y_ialdG hC hσ (by decide) (yS_a12 hS) h8 dX0_scoreWith_19 ?_
  refine y_iand hC dX0_scoreWith_20 ?_
  refine y_callS1 hC (c_J6_bitCount_0f7a4 X.2.1 D z) m_X0_136 rfl (by decide) (Nat.le_of_ble_eq_true rfl) (Nat.zero_le _) (Nat.zero_le _) dX0_scoreWith_21 ?_
  refine y_istore hC dX0_scoreWith_24 (by decide) rfl ?_
  refine y_aload_n hC dX0_scoreWith_26 rfl ?_
  refine y_getR hC (yB_o hB) (yB_r14 hB) f_X0_43 rfl dX0_scoreWith_27 ?_
  refine y_iload_n hC dX0_scoreWith_30 rfl ?_
  refine y_ialdRN (w9 := 14) hC (by decide) (yB_a14 hB) (by omega) dX0_scoreWith_31 ?_
  refine y_aload_n hC dX0_scoreWith_32 rfl ?_
  refine y_getR hC (yB_o hB) (yB_r9 hB) f_X0_31 rfl dX0_scoreWith_33 ?_
  refine y_aload_n hC dX0_scoreWith_36 rfl ?_
  refine y_getR hC (yB_o hB) (yB_r11 hB) f_X0_34 rfl dX0_scoreWith_37 ?_
  refine y_iload_n hC dX0_scoreWith_40 rfl ?_
  refine y_ialdRN (w9 := 14) hC (by decide) (yB_a11 hB) (by omega) dX0_scoreWith_41 ?_
  refine y_ialdR (w9 := 14) hC (by decide) (yB_a9 hB) h7 dX0_scoreWith_42 ?_
  refine y_isub hC dX0_scoreWith_43 ?_
  refine y_istore hC dX0_scoreWith_44 (by decide) rfl ?_
  refine y_aload_n hC dX0_scoreWith_46 rfl ?_
  refine y_getR hC (yB_o hB) (yB_r0 hB) f_X0_9 rfl dX0_scoreWith_47 ?_
  refine y_getR hC (yS_o hS) (yS_r5 hS) f_X0_141 rfl dX0_scoreWith_50 ?_
  refine y_iload_n hC dX0_scoreWith_53 rfl ?_
  refine y_iload hC dX0_scoreWith_54 rfl ?_
  refine y_aload_n hC dX0_scoreWith_56 rfl ?_
  refine y_getR hC (yB_o hB) (yB_r13 hB) f_X0_40 rfl dX0_scoreWith_57 ?_
  refine y_iload_n hC dX0_scoreWith_60 rfl ?_
  refine y_ialdRN (w9 := 14) hC (by decide) (yB_a13 hB) (by omega) dX0_scoreWith_61 ?_
  refine y_iload hC dX0_scoreWith_62 rfl ?_
  refine y_callV1 hC (c_valueFor_at X.2.1 D z hF (len := len) (by rw [sR_out (by have := hφ.1; omega)]; exact hφ.2.2.1) hφ.2.2.2.2.1 hφ.2.2.2.2.2.1) m_X0_145 rfl (yF_o hF) (by decide) (Nat.le_of_ble_eq_true rfl) (Nat.zero_le _) (Nat.zero_le _) dX0_scoreWith_64 ?_
  rw [sR_rowO (by have := hφ.1; omega), sR_out (a := f + 1) (by have := hφ.1; omega), sR_out (a := f + 2) (by have := hφ.1; omega), hφ.2.2.2.1, hφ.2.2.2.2.2.2]
  exact y_iret hC hr rfl (Nat.zero_le _) (Nat.zero_le _) dX0_scoreWith_67 (yFs.mk ⟨_, rfl⟩ rfl)
set_option maxRecDepth 100000 in
set_option maxHeartbeats 4000000 in
theorem c_X0_ownScore (l : Launch) (D : yD) (z : Nat) {n : Nat} {sh : yS} {I : yI} {L : yL} {i su : Nat} {B : yI} (hB : yBook sh i su) {f : Nat} {σ : yI} (hS : ySet sh su f) (hσ : ySig I i su σ) {len m : Nat} {it : Nat → Int32} (hF : yFor sh f m) (hφ : yPhi I i su f len m it) {d : Nat} (hd : d < 20) (h7 : vp_in (B 7 d) 24) (h8 : vp_in (B 8 d) 8) : yM l D z yX0_ownScore cX0_ownScore 2 (some .int) 4 0 0 [.ref i, .int (nI d)] n sh (sR 14 I i B) L (yFs (some (.int (scV σ it len B d (B 11 d)))) n sh I f i (B) L) (yno) := by
  refine yM_of (by decide) (Nat.le_of_ble_eq_true rfl) rfl ?_
  intro X hC hr hnm hRc hRs htb
  have hC : yC X D z cX0_ownScore RX0 2 4 := hC
  have hac : yScr f I I := yScr.rf
  refine y_aload_n hC dX0_ownScore_0 rfl ?_
  refine y_iload_n hC dX0_ownScore_1 rfl ?_
  refine y_aload_n hC dX0_ownScore_2 rfl ?_
  refine y_getR hC (yB_o hB) (yB_r15 hB) f_X0_46 rfl dX0_ownScore_3 ?_
  refine y_iload_n hC dX0_ownScore_6 rfl ?_
  refine y_ialdRN (w9 := 14) hC (by decide) (yB_a15 hB) (by omega) dX0_ownScore_7 ?_
  refine y_callV1s hC (c_X0_scoreWith X.2.1 D z hB hS hσ hF hφ hd h7 h8) m_X0_121 rfl (yB_o hB) (by decide) (Nat.le_of_ble_eq_true rfl) (Nat.zero_le _) (Nat.zero_le _) dX0_ownScore_8 (fun K8 hsc8 => ?_)
  have hac := hac.trans hsc8
  have hσ := hσ.scr hφ hsc8
  have hφ := hφ.scr hsc8
  exact y_iret hC hr rfl (Nat.zero_le _) (Nat.zero_le _) dX0_ownScore_11 (yFs.mk hac rfl)
abbrev cvP (σ : yI) (it : Nat → Int32) (len : Nat) (B : yI) (d : Nat) (ev : Int32) : Prop := σ 9 (tn (B 8 d)) &&& (ev ^^^ -1) = 0 ∧ ¬ scV σ it len B d ev < σ 8 (tn (B 8 d))
set_option maxRecDepth 100000 in
set_option maxHeartbeats 4000000 in
theorem c_X0_convinces (l : Launch) (D : yD) (z : Nat) {n : Nat} {sh : yS} {I : yI} {L : yL} {i su : Nat} {B : yI} (hB : yBook sh i su) {f : Nat} {σ : yI} (hS : ySet sh su f) (hσ : ySig I i su σ) {len m : Nat} {it : Nat → Int32} (hF : yFor sh f m) (hφ : yPhi I i su f len m it) {d : Nat} {ev : Int32} (hd : d < 20) (h7 : vp_in (B 7 d) 24) (h8 : vp_in (B 8 d) 8) : yM l D z yX0_convinces cX0_convinces 5 (some .boolean) 4 0 0 [.ref i, .int (nI d), .int ev] n sh (sR 14 I i B) L (yFs (some (.int (b2i (cvP σ it len B d ev)))) n sh I f i (B) L) (yno) := by
  refine yM_of (by decide) (Nat.le_of_ble_eq_true rfl) rfl ?_
  intro X hC hr hnm hRc hRs htb
  have hC : yC X D z cX0_convinces RX0 5 4 := hC
  have hac : yScr f I I := yScr.rf
  refine y_aload_n hC dX0_convinces_0 rfl ?_
  refine y_getR hC (yB_o hB) (yB_r12 hB) f_X0_37 rfl dX0_convinces_1 ?_
  refine y_iload_n hC dX0_convinces_4 rfl ?_
  refine y_ialdRN (w9 := 14) hC (by decide) (yB_a12 hB) (by omega) dX0_convinces_5 ?_
  refine y_istore_n hC dX0_convinces_6 (by decide) rfl ?_
  refine y_aload_n hC dX0_convinces_7 rfl ?_
  refine y_getR hC (yB_o hB) (yB_r0 hB) f_X0_9 rfl dX0_convinces_8 ?_
  refine y_getR hC (yS_o hS) (yS_r12 hS) f_X0_124 rfl dX0_convinces_11 ?_
  refine y_iload_n hC dX0_convinces_14 rfl ?_
  refine y_ialdG hC hσ (by decide) (yS_a12 hS) h8 dX0_convinces_15 ?_
  refine y_iload_n hC dX0_convinces_16 rfl ?_
  refine y_iconst (v := (-1)) hC dX0_convinces_17 (by decide) ?_
  refine y_ixor hC dX0_convinces_18 ?_
  refine y_iand hC dX0_convinces_19 ?_
  refine y_istore hC dX0_convinces_20 (by decide) rfl ?_
  refine y_iload hC dX0_convinces_22 rfl ?_
  refine y_if_ne (tgt := 49) hC dX0_convinces_24 (by decide) (fun c24 => ?_) (fun c24 => ?_)
  · refine y_iconst (v := 0) hC dX0_convinces_49 (by decide) ?_
    exact y_iret hC hr rfl (Nat.zero_le _) (Nat.zero_le _) dX0_convinces_50 (by first | exact yFs.t hac ⟨c24, c42⟩ | exact yFs.f hac (fun q => c24 q.1) | exact yFs.f hac (fun q => q.2 c42))
  · refine y_aload_n hC dX0_convinces_27 rfl ?_
    refine y_iload_n hC dX0_convinces_28 rfl ?_
    refine y_iload_n hC dX0_convinces_29 rfl ?_
    refine y_callV1s hC (c_X0_scoreWith X.2.1 D z hB hS hσ hF hφ hd h7 h8) m_X0_121 rfl (yB_o hB) (by decide) (Nat.le_of_ble_eq_true rfl) (Nat.zero_le _) (Nat.zero_le _) dX0_convinces_30 (fun K30 hsc30 => ?_)
    have hac := hac.trans hsc30
    have hσ := hσ.scr hφ hsc30
    have hφ := hφ.scr hsc30
    refine y_aload_n hC dX0_convinces_33 rfl ?_
    refine y_getR hC (yB_o hB) (yB_r0 hB) f_X0_9 rfl dX0_convinces_34 ?_
    refine y_getR hC (yS_o hS) (yS_r11 hS) f_X0_127 rfl dX0_convinces_37 ?_
    refine y_iload_n hC dX0_convinces_40 rfl ?_
    refine y_ialdG hC hσ (by decide) (yS_a11 hS) h8 dX0_convinces_41 ?_
    refine y_icmp_lt (tgt := 49) hC dX0_convinces_42 (by decide) (fun c42 => ?_) (fun c42 => ?_)
    · refine y_iconst (v := 0) hC dX0_convinces_49 (by decide) ?_
      exact y_iret hC hr rfl (Nat.zero_le _) (Nat.zero_le _) dX0_convinces_50 (by first | exact yFs.t hac ⟨c24, c42⟩ | exact yFs.f hac (fun q => c24 q.1) | exact yFs.f hac (fun q => q.2 c42))
    · refine y_iconst (v := nI 1) hC dX0_convinces_45 (by decide) ?_
      refine y_goto (tgt := 50) hC dX0_convinces_46 (by decide) ?_
      exact y_iret hC hr rfl (Nat.zero_le _) (Nat.zero_le _) dX0_convinces_50 (by first | exact yFs.t hac ⟨c24, c42⟩ | exact yFs.f hac (fun q => c24 q.1) | exact yFs.f hac (fun q => q.2 c42))
def idO (σ : yI) (it : Nat → Int32) (len : Nat) (B : yI) (d : Nat) : Int32 := if B 12 d = 1 then 5 else if B 12 d = 3 then (if cvP σ it len B d (B 11 d) then 5 else 4) else 4
set_option maxRecDepth 100000 in
set_option maxHeartbeats 4000000 in
theorem c_X0_idleOutcome (l : Launch) (D : yD) (z : Nat) {n : Nat} {sh : yS} {I : yI} {L : yL} {i su : Nat} {B : yI} (hB : yBook sh i su) {f : Nat} {σ : yI} (hS : ySet sh su f) (hσ : ySig I i su σ) {len m : Nat} {it : Nat → Int32} (hF : yFor sh f m) (hφ : yPhi I i su f len m it) {d : Nat} (hd : d < 20) (h7 : vp_in (B 7 d) 24) (h8 : vp_in (B 8 d) 8) : yM l D z yX0_idleOutcome cX0_idleOutcome 2 (some .int) 5 0 0 [.ref i, .int (nI d)] n sh (sR 14 I i B) L (yFs (some (.int (idO σ it len B d))) n sh I f i (B) L) (yno) := by
  refine yM_of (by decide) (Nat.le_of_ble_eq_true rfl) rfl ?_
  intro X hC hr hnm hRc hRs htb
  have hC : yC X D z cX0_idleOutcome RX0 2 5 := hC
  have hac : yScr f I I := yScr.rf
  refine y_aload_n hC dX0_idleOutcome_0 rfl ?_
  refine y_getR hC (yB_o hB) (yB_r16 hB) f_X0_49 rfl dX0_idleOutcome_1 ?_
  refine y_iload_n hC dX0_idleOutcome_4 rfl ?_
  refine y_ialdRN (w9 := 14) hC (by decide) (yB_a16 hB) (by omega) dX0_idleOutcome_5 ?_
  by_cases e6_0 : B 12 d = 1
  · refine y_lookup (tgt := 32) hC dX0_idleOutcome_6 (by decide) (by rw [e6_0] <;> rfl) (by decide) ?_
    refine y_iconst (v := 5) hC dX0_idleOutcome_32 (by decide) ?_
    exact y_iret hC hr rfl (Nat.zero_le _) (Nat.zero_le _) dX0_idleOutcome_33 (yFs.mk hac (congrArg (fun q => some (Value.int q)) (by unfold idO; first | exact (if_pos e6_0).symm | exact ((if_neg e6_0).trans ((if_pos e6_1).trans (if_pos c45))).symm | exact ((if_neg e6_0).trans ((if_pos e6_1).trans (if_neg c45))).symm | exact ((if_neg e6_0).trans (if_neg e6_1)).symm)))
  by_cases e6_1 : B 12 d = 3
  · refine y_lookup (tgt := 34) hC dX0_idleOutcome_6 (by decide) (by rw [e6_1] <;> rfl) (by decide) ?_
    refine y_aload_n hC dX0_idleOutcome_34 rfl ?_
    refine y_iload_n hC dX0_idleOutcome_35 rfl ?_
    refine y_aload_n hC dX0_idleOutcome_36 rfl ?_
    refine y_getR hC (yB_o hB) (yB_r15 hB) f_X0_46 rfl dX0_idleOutcome_37 ?_
    refine y_iload_n hC dX0_idleOutcome_40 rfl ?_
    refine y_ialdRN (w9 := 14) hC (by decide) (yB_a15 hB) (by omega) dX0_idleOutcome_41 ?_
    refine y_callV1s hC (c_X0_convinces X.2.1 D z hB hS hσ hF hφ hd h7 h8) m_X0_114 rfl (yB_o hB) (by decide) (Nat.le_of_ble_eq_true rfl) (Nat.zero_le _) (Nat.zero_le _) dX0_idleOutcome_42 (fun K42 hsc42 => ?_)
    have hac := hac.trans hsc42
    have hσ := hσ.scr hφ hsc42
    have hφ := hφ.scr hsc42
    refine y_if_eqB (tgt := 52) hC dX0_idleOutcome_45 (by decide) (fun c45 => ?_) (fun c45 => ?_)
    · refine y_iconst (v := 4) hC dX0_idleOutcome_52 (by decide) ?_
      exact y_iret hC hr rfl (Nat.zero_le _) (Nat.zero_le _) dX0_idleOutcome_53 (yFs.mk hac (congrArg (fun q => some (Value.int q)) (by unfold idO; first | exact (if_pos e6_0).symm | exact ((if_neg e6_0).trans ((if_pos e6_1).trans (if_pos c45))).symm | exact ((if_neg e6_0).trans ((if_pos e6_1).trans (if_neg c45))).symm | exact ((if_neg e6_0).trans (if_neg e6_1)).symm)))
    · refine y_iconst (v := nI 5) hC dX0_idleOutcome_48 (by decide) ?_
      refine y_goto (tgt := 53) hC dX0_idleOutcome_49 (by decide) ?_
      exact y_iret hC hr rfl (Nat.zero_le _) (Nat.zero_le _) dX0_idleOutcome_53 (yFs.mk hac (congrArg (fun q => some (Value.int q)) (by unfold idO; first | exact (if_pos e6_0).symm | exact ((if_neg e6_0).trans ((if_pos e6_1).trans (if_pos c45))).symm | exact ((if_neg e6_0).trans ((if_pos e6_1).trans (if_neg c45))).symm | exact ((if_neg e6_0).trans (if_neg e6_1)).symm)))
  refine y_lookup (off := 48) (tgt := 54) hC dX0_idleOutcome_6 (by decide) (by show Op.lookupswitch.offset [(1, 26), (3, 28)] _ _ = _; rw [lv_osw (k := 1) e6_0 (by decide), lv_osw (k := 3) e6_1 (by decide)] <;> rfl) (by decide) ?_
  refine y_iconst (v := 4) hC dX0_idleOutcome_54 (by decide) ?_
  exact y_iret hC hr rfl (Nat.zero_le _) (Nat.zero_le _) dX0_idleOutcome_55 (yFs.mk hac (congrArg (fun q => some (Value.int q)) (by unfold idO; first | exact (if_pos e6_0).symm | exact ((if_neg e6_0).trans ((if_pos e6_1).trans (if_pos c45))).symm | exact ((if_neg e6_0).trans ((if_pos e6_1).trans (if_neg c45))).symm | exact ((if_neg e6_0).trans (if_neg e6_1)).symm)))
def lstS (P : Int32 → Prop) [DecidablePred P] : Nat → Int32 → Int32
  | 0, _ => -1
  | k + 1, s => if s ≤ 255 then (if P s then s else lstS P k (s ||| (s + 1))) else -1
set_option maxRecDepth 100000 in
set_option maxHeartbeats 4000000 in
theorem c_X0_leastConvincing (l : Launch) (D : yD) (z : Nat) {n : Nat} {sh : yS} {I : yI} {L : yL} {i su : Nat} {B : yI} (hB : yBook sh i su) {f : Nat} {σ : yI} (hS : ySet sh su f) (hσ : ySig I i su σ) {len m : Nat} {it : Nat → Int32} (hF : yFor sh f m) (hφ : yPhi I i su f len m it) {d : Nat} (hd : d < 20) (h7 : vp_in (B 7 d) 24) (h8 : vp_in (B 8 d) 8) : yM l D z yX0_leastConvincing cX0_leastConvincing 4 (some .int) 5 0 0 [.ref i, .int (nI d)] n sh (sR 14 I i B) L (yFs (some (.int (lstS (cvP σ it len B d) 9 (B 11 d ||| σ 9 (tn (B 8 d)))))) n sh I f i (B) L) (yno) := by
  refine yM_of (by decide) (Nat.le_of_ble_eq_true rfl) rfl ?_
  intro X hC hr hnm hRc hRs htb
  have hC : yC X D z cX0_leastConvincing RX0 4 5 := hC
  have hac : yScr f I I := yScr.rf
  generalize hI9 : I = I9 at hac hσ hφ ⊢
  refine y_aload_n hC dX0_leastConvincing_0 rfl ?_
  refine y_getR hC (yB_o hB) (yB_r15 hB) f_X0_46 rfl dX0_leastConvincing_1 ?_
  refine y_iload_n hC dX0_leastConvincing_4 rfl ?_
  refine y_ialdRN (w9 := 14) hC (by decide) (yB_a15 hB) (by omega) dX0_leastConvincing_5 ?_
  refine y_aload_n hC dX0_leastConvincing_6 rfl ?_
  refine y_getR hC (yB_o hB) (yB_r0 hB) f_X0_9 rfl dX0_leastConvincing_7 ?_
  refine y_getR hC (yS_o hS) (yS_r12 hS) f_X0_124 rfl dX0_leastConvincing_10 ?_
  refine y_aload_n hC dX0_leastConvincing_13 rfl ?_
  refine y_getR hC (yB_o hB) (yB_r12 hB) f_X0_37 rfl dX0_leastConvincing_14 ?_
  refine y_iload_n hC dX0_leastConvincing_17 rfl ?_
  refine y_ialdRN (w9 := 14) hC (by decide) (yB_a12 hB) (by omega) dX0_leastConvincing_18 ?_
  refine y_ialdG hC hσ (by decide) (yS_a12 hS) h8 dX0_leastConvincing_19 ?_
  refine y_ior hC dX0_leastConvincing_20 ?_
  refine y_istore_n hC dX0_leastConvincing_21 (by decide) rfl ?_
  refine y_iconst (v := nI 0) hC dX0_leastConvincing_22 (by decide) ?_
  refine y_istore_n hC dX0_leastConvincing_23 (by decide) rfl ?_
  have lp24 : ∀ (f9 j : Nat) (s : Int32) (I : yI) (hac : yScr f I9 I) (hσ : ySig I i su σ) (hφ : yPhi I i su f len m it), j + f9 = 9 → lstS (cvP σ it len B d) f9 s = lstS (cvP σ it len B d) 9 (B 11 d ||| σ 9 (tn (B 8 d))) → Y X D z 4 n sh (sR 14 I i B) L 0 0 (yEnd X D z (yFs (some (.int (lstS (cvP σ it len B d) 9 (B 11 d ||| σ 9 (tn (B 8 d)))))) n sh I9 f i (B) L) (yno) 0 0) 24 [some (.ref i), some (.int (nI d)), some (.int s), some (.int (nI j))] [] := by
    intro f9
    induction f9 with
    | zero =>
      intro j s I hac hσ hφ hm hi
      refine y_iload_n hC dX0_leastConvincing_24 rfl ?_
      refine y_bipush (v := nI 8) hC dX0_leastConvincing_25 (by decide) ?_
      refine y_icmp_gt (tgt := 60) hC dX0_leastConvincing_27 (by decide) (fun c27 => ?_) (fun c27 => absurd (nI_lt (a := 8) (by omega) (by omega)) c27)
      refine y_iconst (v := (-1)) hC dX0_leastConvincing_60 (by decide) ?_
      exact y_iret hC hr rfl (Nat.zero_le _) (Nat.zero_le _) dX0_leastConvincing_61 (yFs.mk hac (congrArg (fun q => some (Value.int q)) (by rw [← hi]; first | rfl | (rw [lstS, if_neg (Int32.not_le.mpr c34)]; done) | rw [lstS, if_pos (Int32.not_lt.mp c34), if_pos c43])))
    | succ f9 ih =>
      intro j s I hac hσ hφ hm hi
      refine y_iload_n hC dX0_leastConvincing_24 rfl ?_
      refine y_bipush (v := nI 8) hC dX0_leastConvincing_25 (by decide) ?_
      refine y_icmp_gt (tgt := 60) hC dX0_leastConvincing_27 (by decide) (fun c27 => absurd (nI_lt2 (a := 8) c27) (by omega)) (fun c27 => ?_)
      refine y_iload_n hC dX0_leastConvincing_30 rfl ?_
      refine y_sipush (v := 255) hC dX0_leastConvincing_31 (by decide) ?_
      refine y_icmp_gt (tgt := 60) hC dX0_leastConvincing_34 (by decide) (fun c34 => ?_) (fun c34 => ?_)
      · refine y_iconst (v := (-1)) hC dX0_leastConvincing_60 (by decide) ?_
        exact y_iret hC hr rfl (Nat.zero_le _) (Nat.zero_le _) dX0_leastConvincing_61 (yFs.mk hac (congrArg (fun q => some (Value.int q)) (by rw [← hi]; first | rfl | (rw [lstS, if_neg (Int32.not_le.mpr c34)]; done) | rw [lstS, if_pos (Int32.not_lt.mp c34), if_pos c43])))
      · refine y_aload_n hC dX0_leastConvincing_37 rfl ?_
        refine y_iload_n hC dX0_leastConvincing_38 rfl ?_
        refine y_iload_n hC dX0_leastConvincing_39 rfl ?_
        refine y_callV1s hC (c_X0_convinces X.2.1 D z hB hS hσ hF hφ hd h7 h8) m_X0_114 rfl (yB_o hB) (by decide) (Nat.le_of_ble_eq_true rfl) (Nat.zero_le _) (Nat.zero_le _) dX0_leastConvincing_40 (fun K40 hsc40 => ?_)
        have hac := hac.trans hsc40
        have hσ := hσ.scr hφ hsc40
        have hφ := hφ.scr hsc40
        refine y_if_eqB (tgt := 48) hC dX0_leastConvincing_43 (by decide) (fun c43 => ?_) (fun c43 => ?_)
        · refine y_iload_n hC dX0_leastConvincing_48 rfl ?_
          refine y_iload_n hC dX0_leastConvincing_49 rfl ?_
          refine y_iconst (v := 1) hC dX0_leastConvincing_50 (by decide) ?_
          refine y_iadd hC dX0_leastConvincing_51 ?_
          refine y_ior hC dX0_leastConvincing_52 ?_
          refine y_istore_n hC dX0_leastConvincing_53 (by decide) rfl ?_
          refine y_iincN hC dX0_leastConvincing_54 rfl rfl (by decide) rfl ?_
          refine y_goto (tgt := 24) hC dX0_leastConvincing_57 (by decide) ?_
          exact ih (j + 1) _ _ hac hσ hφ (by omega) (by rw [← hi, lstS, if_pos (Int32.not_lt.mp c34), if_neg c43])
        · refine y_iload_n hC dX0_leastConvincing_46 rfl ?_
          exact y_iret hC hr rfl (Nat.zero_le _) (Nat.zero_le _) dX0_leastConvincing_47 (yFs.mk hac (congrArg (fun q => some (Value.int q)) (by rw [← hi]; first | rfl | (rw [lstS, if_neg (Int32.not_le.mpr c34)]; done) | rw [lstS, if_pos (Int32.not_lt.mp c34), if_pos c43])))
  exact lp24 9 0 _ _ hac hσ hφ (Nat.zero_add _) rfl
