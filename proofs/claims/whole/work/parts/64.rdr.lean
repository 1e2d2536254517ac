/-- the reader at r with its tokens behind it -/
def yPar (sh : yS) (r b m : Nat) : Prop := ((sh r).1 = 5) ∧ ((sh r).2.2 0 = some (r + 1)) ∧ ((sh r).2.2 1 = some (r + 5)) ∧ ((sh (r + 1)).1 = 6) ∧ ((sh (r + 1)).2.2 0 = some b) ∧ ((sh (r + 1)).2.2 2 = some (r + 2)) ∧ ((sh (r + 1)).2.2 3 = some (r + 3)) ∧ ((sh (r + 1)).2.2 4 = some (r + 4)) ∧ (yArr sh (r + 2) 10 m) ∧ (yArr sh (r + 3) 10 m) ∧ (yArr sh (r + 4) 10 m) ∧ (yArr sh b 9 900)
theorem yP_o {sh : yS} {r b m : Nat} (hh : yPar sh r b m) : (sh r).1 = 5 := hh.1
theorem yP_r0 {sh : yS} {r b m : Nat} (hh : yPar sh r b m) : (sh r).2.2 0 = some (r + 1) := hh.2.1
theorem yP_r1 {sh : yS} {r b m : Nat} (hh : yPar sh r b m) : (sh r).2.2 1 = some (r + 5) := hh.2.2.1
theorem yP_t {sh : yS} {r b m : Nat} (hh : yPar sh r b m) : (sh (r + 1)).1 = 6 := hh.2.2.2.1
theorem yP_t0 {sh : yS} {r b m : Nat} (hh : yPar sh r b m) : (sh (r + 1)).2.2 0 = some b := hh.2.2.2.2.1
theorem yP_t2 {sh : yS} {r b m : Nat} (hh : yPar sh r b m) : (sh (r + 1)).2.2 2 = some (r + 2) := hh.2.2.2.2.2.1
theorem yP_t3 {sh : yS} {r b m : Nat} (hh : yPar sh r b m) : (sh (r + 1)).2.2 3 = some (r + 3) := hh.2.2.2.2.2.2.1
theorem yP_t4 {sh : yS} {r b m : Nat} (hh : yPar sh r b m) : (sh (r + 1)).2.2 4 = some (r + 4) := hh.2.2.2.2.2.2.2.1
theorem yP_a2 {sh : yS} {r b m : Nat} (hh : yPar sh r b m) : yArr sh (r + 2) 10 m := hh.2.2.2.2.2.2.2.2.1
theorem yP_a3 {sh : yS} {r b m : Nat} (hh : yPar sh r b m) : yArr sh (r + 3) 10 m := hh.2.2.2.2.2.2.2.2.2.1
theorem yP_a4 {sh : yS} {r b m : Nat} (hh : yPar sh r b m) : yArr sh (r + 4) 10 m := hh.2.2.2.2.2.2.2.2.2.2.1
theorem yP_b {sh : yS} {r b m : Nat} (hh : yPar sh r b m) : yArr sh b 9 900 := hh.2.2.2.2.2.2.2.2.2.2.2
section RowsK
variable {X : yX} {D : yD} {z nL n : Nat} {sh : yS} {I : yI} {L : yL} {k w : Nat} {Q : State → Prop} {pc : Nat} {lv : List (Option Value)} {st : List Value} {cc : ByteArray} {own : String} {dep : Nat} {w9 i r : Nat} {B : yI}
theorem y_getIK (hC : yC X D z cc own nL dep) {ci j idx : Nat} {ty : FieldType} {fin : Bool} (hw : r < w9) (ha : (sh (i + r)).1 = ci) (hfl : yFL own idx ci j ty fin) (hr : yrf ci j = false) (hd : decode cc pc = .ok (.getfield idx, 3)) (kk : Y X D z nL n sh (sR w9 I i B) L k w Q (pc + 3) lv (.int (B r j) :: st)) : Y X D z nL n sh (sR w9 I i B) L k w Q pc lv (.ref (i + r) :: st) := by
  refine y_getI hC ha hfl hr hd ?_
  rw [sR_at hw]; exact kk
theorem y_putIK (hC : yC X D z cc own nL dep) {ci j idx : Nat} {fin : Bool} {v : Int32} (hw : r < w9) (ha : (sh (i + r)).1 = ci) (hfl : yFL own idx ci j .int fin) (hr : yrf ci j = false) (hfin : fin = false ∨ ((ymeth X).name = "<init>" ∧ ∀ C T tyf, yCls ci C T tyf → C = own)) (hd : decode cc pc = .ok (.putfield idx, 3))
    (kk : Y X D z nL n sh (sR w9 I i (up2 B r j v)) L k w Q (pc + 3) lv st) : Y X D z nL n sh (sR w9 I i B) L k w Q pc lv (.int v :: .ref (i + r) :: st) := by
  refine y_putI hC ha hfl hr hfin hd ?_
  rw [sR_up hw]; exact kk
end RowsK
set_option maxRecDepth 100000 in
set_option maxHeartbeats 4000000 in
theorem c_X5_isFine (l : Launch) (D : yD) (z : Nat) {n : Nat} {sh : yS} {I : yI} {L : yL} {r b m : Nat} {Z : yI} (hP : yPar sh r b m) (hm9 : m < 2147483648) : yM l D z yX5_isFine cX5_isFine 1 (some .boolean) 0 0 0 [.ref r] n sh (sR 18 I r Z) L (yF (some (.int (b2i (Z 0 7 = 0)))) n sh (sR 18 I r Z) L) (yno) := by
  refine yM_of (by decide) (Nat.le_of_ble_eq_true rfl) rfl ?_
  intro X hC hr hnm hRc hRs htb
  have hC : yC X D z cX5_isFine RX5 1 0 := hC
  refine y_aload_n hC dX5_isFine_0 rfl ?_
  refine y_getIR (w9 := 18) hC (by decide) (yP_o hP) f_X5_143 rfl dX5_isFine_1 ?_
  refine y_if_ne (tgt := 11) hC dX5_isFine_4 (by decide) (fun c4 => ?_) (fun c4 => ?_)
  · refine y_iconst (v := 0) hC dX5_isFine_11 (by decide) ?_
    exact y_iret hC hr rfl (Nat.zero_le _) (Nat.zero_le _) dX5_isFine_12 (by first | exact yF.t c4 | exact yF.f c4)
  · refine y_iconst (v := 1) hC dX5_isFine_7 (by decide) ?_
    refine y_goto (tgt := 12) hC dX5_isFine_8 (by decide) ?_
    exact y_iret hC hr rfl (Nat.zero_le _) (Nat.zero_le _) dX5_isFine_12 (by first | exact yF.t c4 | exact yF.f c4)
set_option maxRecDepth 100000 in
set_option maxHeartbeats 4000000 in
theorem c_X5_kind (l : Launch) (D : yD) (z : Nat) {n : Nat} {sh : yS} {I : yI} {L : yL} {r b m : Nat} {Z : yI} (hP : yPar sh r b m) (hm9 : m < 2147483648) {i cnt : Nat} (hi : Z 0 2 = nI i) (him : i < cnt) (hct : Z 1 5 = nI cnt) (hcm : cnt ≤ m) : yM l D z yX5_kind cX5_kind 1 (some .int) 0 0 0 [.ref r] n sh (sR 18 I r Z) L (yF (some (.int (Z 2 i))) n sh (sR 18 I r Z) L) (yno) := by
  refine yM_of (by decide) (Nat.le_of_ble_eq_true rfl) rfl ?_
  intro X hC hr hnm hRc hRs htb
  have hC : yC X D z cX5_kind RX5 1 0 := hC
  refine y_aload_n hC dX5_kind_0 rfl ?_
  refine y_getIR (w9 := 18) hC (by decide) (yP_o hP) f_X5_146 rfl dX5_kind_1 ?_
  rw [hi]
  refine y_aload_n hC dX5_kind_4 rfl ?_
  refine y_getR hC (yP_o hP) (yP_r0 hP) f_X5_9 rfl dX5_kind_5 ?_
  refine y_getR hC (yP_t hP) (yP_t2 hP) f_X5_156 rfl dX5_kind_8 ?_
  refine y_alen hC (yP_a2 hP) (by decide) rfl dX5_kind_11 ?_
  refine y_icmp_ge (tgt := 30) hC dX5_kind_12 (by decide) (fun c12 => absurd (nI_le2 c12) (by omega)) (fun c12 => ?_)
  refine y_aload_n hC dX5_kind_15 rfl ?_
  refine y_getR hC (yP_o hP) (yP_r0 hP) f_X5_9 rfl dX5_kind_16 ?_
  refine y_getR hC (yP_t hP) (yP_t2 hP) f_X5_156 rfl dX5_kind_19 ?_
  refine y_aload_n hC dX5_kind_22 rfl ?_
  refine y_getIR (w9 := 18) hC (by decide) (yP_o hP) f_X5_146 rfl dX5_kind_23 ?_
  rw [hi]
  refine y_ialdRN (w9 := 18) hC (by decide) (yP_a2 hP) (by omega) dX5_kind_26 ?_
  refine y_goto (tgt := 31) hC dX5_kind_27 (by decide) ?_
  exact y_iret hC hr rfl (Nat.zero_le _) (Nat.zero_le _) dX5_kind_31 (yF.mk rfl)
set_option maxRecDepth 100000 in
set_option maxHeartbeats 4000000 in
theorem c_X5_value (l : Launch) (D : yD) (z : Nat) {n : Nat} {sh : yS} {I : yI} {L : yL} {r b m : Nat} {Z : yI} (hP : yPar sh r b m) (hm9 : m < 2147483648) {i cnt : Nat} (hi : Z 0 2 = nI i) (him : i < cnt) (hct : Z 1 5 = nI cnt) (hcm : cnt ≤ m) : yM l D z yX5_value cX5_value 1 (some .int) 0 0 0 [.ref r] n sh (sR 18 I r Z) L (yF (some (.int (Z 4 i))) n sh (sR 18 I r Z) L) (yno) := by
  refine yM_of (by decide) (Nat.le_of_ble_eq_true rfl) rfl ?_
  intro X hC hr hnm hRc hRs htb
  have hC : yC X D z cX5_value RX5 1 0 := hC
  refine y_aload_n hC dX5_value_0 rfl ?_
  refine y_getIR (w9 := 18) hC (by decide) (yP_o hP) f_X5_146 rfl dX5_value_1 ?_
  rw [hi]
  refine y_aload_n hC dX5_value_4 rfl ?_
  refine y_getR hC (yP_o hP) (yP_r0 hP) f_X5_9 rfl dX5_value_5 ?_
  refine y_getR hC (yP_t hP) (yP_t4 hP) f_X5_159 rfl dX5_value_8 ?_
  refine y_alen hC (yP_a4 hP) (by decide) rfl dX5_value_11 ?_
  refine y_icmp_ge (tgt := 30) hC dX5_value_12 (by decide) (fun c12 => absurd (nI_le2 c12) (by omega)) (fun c12 => ?_)
  refine y_aload_n hC dX5_value_15 rfl ?_
  refine y_getR hC (yP_o hP) (yP_r0 hP) f_X5_9 rfl dX5_value_16 ?_
  refine y_getR hC (yP_t hP) (yP_t4 hP) f_X5_159 rfl dX5_value_19 ?_
  refine y_aload_n hC dX5_value_22 rfl ?_
  refine y_getIR (w9 := 18) hC (by decide) (yP_o hP) f_X5_146 rfl dX5_value_23 ?_
  rw [hi]
  refine y_ialdRN (w9 := 18) hC (by decide) (yP_a4 hP) (by omega) dX5_value_26 ?_
  refine y_goto (tgt := 31) hC dX5_value_27 (by decide) ?_
  exact y_iret hC hr rfl (Nat.zero_le _) (Nat.zero_le _) dX5_value_31 (yF.mk rfl)
/-- to the next token -/
def stpZ (Z : yI) (cnt i : Nat) : yI := if i + 1 < cnt then up2 Z 0 2 (nI (i + 1)) else Z
set_option maxRecDepth 100000 in
set_option maxHeartbeats 4000000 in
theorem c_X5_step (l : Launch) (D : yD) (z : Nat) {n : Nat} {sh : yS} {I : yI} {L : yL} {r b m : Nat} {Z : yI} (hP : yPar sh r b m) (hm9 : m < 2147483648) {i cnt : Nat} (hi : Z 0 2 = nI i) (him : i < cnt) (hct : Z 1 5 = nI cnt) (hcm : cnt ≤ m) : yM l D z yX5_step cX5_step 1 none 0 0 0 [.ref r] n sh (sR 18 I r Z) L (yF none n sh (sR 18 I r (stpZ Z cnt i)) L) (yno) := by
  refine yM_of (by decide) (Nat.le_of_ble_eq_true rfl) rfl ?_
  intro X hC hr hnm hRc hRs htb
  have hC : yC X D z cX5_step RX5 1 0 := hC
  refine y_aload_n hC dX5_step_0 rfl ?_
  refine y_getIR (w9 := 18) hC (by decide) (yP_o hP) f_X5_146 rfl dX5_step_1 ?_
  rw [hi]
  refine y_iconst (v := nI 1) hC dX5_step_4 (by decide) ?_
  refine y_iaddN hC dX5_step_5 ?_
  refine y_aload_n hC dX5_step_6 rfl ?_
  refine y_getR hC (yP_o hP) (yP_r0 hP) f_X5_9 rfl dX5_step_7 ?_
  refine y_getIK (w9 := 18) (r := 1) hC (by decide) (yP_t hP) f_X5_27 rfl dX5_step_10 ?_
  rw [hct]
  refine y_icmp_ge (tgt := 26) hC dX5_step_13 (by decide) (fun c13 => ?_) (fun c13 => ?_)
  · exact y_vret hC hr (Nat.zero_le _) (Nat.zero_le _) dX5_step_26 (by first | (rw [stpZ, if_neg (Nat.not_lt.mpr (nI_le2 c13))]; exact yF.mk rfl) | (rw [stpZ, if_pos (nI_nle2 c13)]; exact yF.mk rfl))
  · refine y_aload_n hC dX5_step_16 rfl ?_
    refine y_dup hC dX5_step_17 rfl ?_
    refine y_getIR (w9 := 18) hC (by decide) (yP_o hP) f_X5_146 rfl dX5_step_18 ?_
    rw [hi]
    refine y_iconst (v := nI 1) hC dX5_step_21 (by decide) ?_
    refine y_iaddN hC dX5_step_22 ?_
    refine y_putIR (w9 := 18) hC (by decide) (yP_o hP) f_X5_146 rfl (Or.inl rfl) dX5_step_23 ?_
    exact y_vret hC hr (Nat.zero_le _) (Nat.zero_le _) dX5_step_26 (by first | (rw [stpZ, if_neg (Nat.not_lt.mpr (nI_le2 c13))]; exact yF.mk rfl) | (rw [stpZ, if_pos (nI_nle2 c13)]; exact yF.mk rfl))
/-- an error at the present token, unless there is one -/
def faZ (Z : yI) (i : Nat) (c : Int32) : yI := if Z 0 7 = 0 then up2 (up2 Z 0 7 c) 0 8 (Z 3 i) else Z
set_option maxRecDepth 100000 in
set_option maxHeartbeats 4000000 in
theorem c_X5_fail (l : Launch) (D : yD) (z : Nat) {n : Nat} {sh : yS} {I : yI} {L : yL} {r b m : Nat} {Z : yI} (hP : yPar sh r b m) (hm9 : m < 2147483648) {i cnt : Nat} (hi : Z 0 2 = nI i) (him : i < cnt) (hct : Z 1 5 = nI cnt) (hcm : cnt ≤ m) {c : Int32} : yM l D z yX5_fail cX5_fail 2 none 0 0 0 [.ref r, .int c] n sh (sR 18 I r Z) L (yF none n sh (sR 18 I r (faZ Z i c)) L) (yno) := by
  refine yM_of (by decide) (Nat.le_of_ble_eq_true rfl) rfl ?_
  intro X hC hr hnm hRc hRs htb
  have hC : yC X D z cX5_fail RX5 2 0 := hC
  refine y_aload_n hC dX5_fail_0 rfl ?_
  refine y_getIR (w9 := 18) hC (by decide) (yP_o hP) f_X5_143 rfl dX5_fail_1 ?_
  refine y_if_ne (tgt := 43) hC dX5_fail_4 (by decide) (fun c4 => ?_) (fun c4 => ?_)
  · exact y_vret hC hr (Nat.zero_le _) (Nat.zero_le _) dX5_fail_43 (by first | (rw [faZ, if_neg c4]; exact yF.mk rfl) | (rw [faZ, if_pos c4]; exact yF.mk rfl))
  · refine y_aload_n hC dX5_fail_7 rfl ?_
    refine y_getIR (w9 := 18) hC (by decide) (yP_o hP) f_X5_146 rfl dX5_fail_8 ?_
    rw [hi]
    refine y_aload_n hC dX5_fail_11 rfl ?_
    refine y_getR hC (yP_o hP) (yP_r0 hP) f_X5_9 rfl dX5_fail_12 ?_
    refine y_getR hC (yP_t hP) (yP_t3 hP) f_X5_149 rfl dX5_fail_15 ?_
    refine y_alen hC (yP_a3 hP) (by decide) rfl dX5_fail_18 ?_
    refine y_icmp_ge (tgt := 43) hC dX5_fail_19 (by decide) (fun c19 => absurd (nI_le2 c19) (by omega)) (fun c19 => ?_)
    refine y_aload_n hC dX5_fail_22 rfl ?_
    refine y_iload_n hC dX5_fail_23 rfl ?_
    refine y_putIR (w9 := 18) hC (by decide) (yP_o hP) f_X5_143 rfl (Or.inl rfl) dX5_fail_24 ?_
    refine y_aload_n hC dX5_fail_27 rfl ?_
    refine y_aload_n hC dX5_fail_28 rfl ?_
    refine y_getR hC (yP_o hP) (yP_r0 hP) f_X5_9 rfl dX5_fail_29 ?_
    refine y_getR hC (yP_t hP) (yP_t3 hP) f_X5_149 rfl dX5_fail_32 ?_
    refine y_aload_n hC dX5_fail_35 rfl ?_
    refine y_getIR (w9 := 18) hC (by decide) (yP_o hP) f_X5_146 rfl dX5_fail_36 ?_
    refine y_eqI (y := nI i) hi ?_
    refine y_ialdRN (w9 := 18) hC (by decide) (yP_a3 hP) (by omega) dX5_fail_39 ?_
    refine y_putIR (w9 := 18) hC (by decide) (yP_o hP) f_X5_153 rfl (Or.inl rfl) dX5_fail_40 ?_
    exact y_vret hC hr (Nat.zero_le _) (Nat.zero_le _) dX5_fail_43 (by first | (rw [faZ, if_neg c4]; exact yF.mk rfl) | (rw [faZ, if_pos c4]; exact yF.mk rfl))
def takZ (Z : yI) (cnt i : Nat) (c : Int32) : yI := if Z 0 7 = 0 ∧ Z 2 i = c then stpZ Z cnt i else faZ Z i (-2)
set_option maxRecDepth 100000 in
set_option maxHeartbeats 4000000 in
theorem c_X5_take (l : Launch) (D : yD) (z : Nat) {n : Nat} {sh : yS} {I : yI} {L : yL} {r b m : Nat} {Z : yI} (hP : yPar sh r b m) (hm9 : m < 2147483648) {i cnt : Nat} (hi : Z 0 2 = nI i) (him : i < cnt) (hct : Z 1 5 = nI cnt) (hcm : cnt ≤ m) {c : Int32} : yM l D z yX5_take cX5_take 2 none 1 0 0 [.ref r, .int c] n sh (sR 18 I r Z) L (yF none n sh (sR 18 I r (takZ Z cnt i c)) L) (yno) := by
  refine yM_of (by decide) (Nat.le_of_ble_eq_true rfl) rfl ?_
  intro X hC hr hnm hRc hRs htb
  have hC : yC X D z cX5_take RX5 2 1 := hC
  refine y_aload_n hC dX5_take_0 rfl ?_
  refine y_callV1 hC (c_X5_isFine X.2.1 D z hP hm9) m_X5_31 rfl (yP_o hP) (by decide) (Nat.le_of_ble_eq_true rfl) (Nat.zero_le _) (Nat.zero_le _) dX5_take_1 ?_
  refine y_if_eqB (tgt := 22) hC dX5_take_4 (by decide) (fun c4 => ?_) (fun c4 => ?_)
  · refine y_aload_n hC dX5_take_22 rfl ?_
    refine y_bipush (v := (-2)) hC dX5_take_23 (by decide) ?_
    refine y_callV0 hC (c_X5_fail X.2.1 D z hP hm9 hi him hct hcm) m_X5_54 rfl (yP_o hP) (by decide) (Nat.le_of_ble_eq_true rfl) (Nat.zero_le _) (Nat.zero_le _) dX5_take_25 ?_
    exact y_vret hC hr (Nat.zero_le _) (Nat.zero_le _) dX5_take_28 (by first | (rw [takZ, if_pos ⟨c4, c12⟩]; exact yF.mk rfl) | (rw [takZ, if_neg (fun q => c12 q.2)]; exact yF.mk rfl) | (rw [takZ, if_neg (fun q => c4 q.1)]; exact yF.mk rfl))
  · refine y_aload_n hC dX5_take_7 rfl ?_
    refine y_callV1 hC (c_X5_kind X.2.1 D z hP hm9 hi him hct hcm) m_X5_35 rfl (yP_o hP) (by decide) (Nat.le_of_ble_eq_true rfl) (Nat.zero_le _) (Nat.zero_le _) dX5_take_8 ?_
    refine y_iload_n hC dX5_take_11 rfl ?_
    refine y_icmp_ne (tgt := 22) hC dX5_take_12 (by decide) (fun c12 => ?_) (fun c12 => ?_)
    · refine y_aload_n hC dX5_take_22 rfl ?_
      refine y_bipush (v := (-2)) hC dX5_take_23 (by decide) ?_
      refine y_callV0 hC (c_X5_fail X.2.1 D z hP hm9 hi him hct hcm) m_X5_54 rfl (yP_o hP) (by decide) (Nat.le_of_ble_eq_true rfl) (Nat.zero_le _) (Nat.zero_le _) dX5_take_25 ?_
      exact y_vret hC hr (Nat.zero_le _) (Nat.zero_le _) dX5_take_28 (by first | (rw [takZ, if_pos ⟨c4, c12⟩]; exact yF.mk rfl) | (rw [takZ, if_neg (fun q => c12 q.2)]; exact yF.mk rfl) | (rw [takZ, if_neg (fun q => c4 q.1)]; exact yF.mk rfl))
    · refine y_aload_n hC dX5_take_15 rfl ?_
      refine y_callV0 hC (c_X5_step X.2.1 D z hP hm9 hi him hct hcm) m_X5_82 rfl (yP_o hP) (by decide) (Nat.le_of_ble_eq_true rfl) (Nat.zero_le _) (Nat.zero_le _) dX5_take_16 ?_
      refine y_goto (tgt := 28) hC dX5_take_19 (by decide) ?_
      exact y_vret hC hr (Nat.zero_le _) (Nat.zero_le _) dX5_take_28 (by first | (rw [takZ, if_pos ⟨c4, c12⟩]; exact yF.mk rfl) | (rw [takZ, if_neg (fun q => c12 q.2)]; exact yF.mk rfl) | (rw [takZ, if_neg (fun q => c4 q.1)]; exact yF.mk rfl))
/-- a number from lo to hi, and what is behind it -/
def numZ (Z : yI) (cnt i : Nat) (lo hi : Int32) : Int32 × yI := if ¬ Z 0 7 = 0 then (lo, Z) else if ¬ Z 2 i = 256 then (lo, faZ Z i (-2)) else if Z 4 i < lo ∨ ¬ Z 4 i ≤ hi then (lo, faZ Z i (-3)) else (Z 4 i, stpZ Z cnt i)
set_option maxRecDepth 100000 in
set_option maxHeartbeats 4000000 in
theorem c_X5_takeNumber (l : Launch) (D : yD) (z : Nat) {n : Nat} {sh : yS} {I : yI} {L : yL} {r b m : Nat} {Z : yI} (hP : yPar sh r b m) (hm9 : m < 2147483648) {i cnt : Nat} (hi : Z 0 2 = nI i) (him : i < cnt) (hct : Z 1 5 = nI cnt) (hcm : cnt ≤ m) {lo hi9 : Int32} : yM l D z yX5_takeNumber cX5_takeNumber 4 (some .int) 1 0 0 [.ref r, .int lo, .int hi9] n sh (sR 18 I r Z) L (yF (some (.int (numZ Z cnt i lo hi9).1)) n sh (sR 18 I r (numZ Z cnt i lo hi9).2) L) (yno) := by
  refine yM_of (by decide) (Nat.le_of_ble_eq_true rfl) rfl ?_
  intro X hC hr hnm hRc hRs htb
  have hC : yC X D z cX5_takeNumber RX5 4 1 := hC
  refine y_aload_n hC dX5_takeNumber_0 rfl ?_
  refine y_callV1 hC (c_X5_isFine X.2.1 D z hP hm9) m_X5_31 rfl (yP_o hP) (by decide) (Nat.le_of_ble_eq_true rfl) (Nat.zero_le _) (Nat.zero_le _) dX5_takeNumber_1 ?_
  refine y_if_neB (tgt := 9) hC dX5_takeNumber_4 (by decide) (fun c4 => ?_) (fun c4 => ?_)
  · refine y_aload_n hC dX5_takeNumber_9 rfl ?_
    refine y_callV1 hC (c_X5_kind X.2.1 D z hP hm9 hi him hct hcm) m_X5_35 rfl (yP_o hP) (by decide) (Nat.le_of_ble_eq_true rfl) (Nat.zero_le _) (Nat.zero_le _) dX5_takeNumber_10 ?_
    refine y_sipush (v := 256) hC dX5_takeNumber_13 (by decide) ?_
    refine y_icmp_eq (tgt := 27) hC dX5_takeNumber_16 (by decide) (fun c16 => ?_) (fun c16 => ?_)
    · refine y_aload_n hC dX5_takeNumber_27 rfl ?_
      refine y_callV1 hC (c_X5_value X.2.1 D z hP hm9 hi him hct hcm) m_X5_136 rfl (yP_o hP) (by decide) (Nat.le_of_ble_eq_true rfl) (Nat.zero_le _) (Nat.zero_le _) dX5_takeNumber_28 ?_
      refine y_istore_n hC dX5_takeNumber_31 (by decide) rfl ?_
      refine y_iload_n hC dX5_takeNumber_32 rfl ?_
      refine y_iload_n hC dX5_takeNumber_33 rfl ?_
      refine y_icmp_lt (tgt := 42) hC dX5_takeNumber_34 (by decide) (fun c34 => ?_) (fun c34 => ?_)
      · refine y_aload_n hC dX5_takeNumber_42 rfl ?_
        refine y_bipush (v := (-3)) hC dX5_takeNumber_43 (by decide) ?_
        refine y_callV0 hC (c_X5_fail X.2.1 D z hP hm9 hi him hct hcm) m_X5_54 rfl (yP_o hP) (by decide) (Nat.le_of_ble_eq_true rfl) (Nat.zero_le _) (Nat.zero_le _) dX5_takeNumber_45 ?_
        refine y_iload_n hC dX5_takeNumber_48 rfl ?_
        exact y_iret hC hr rfl (Nat.zero_le _) (Nat.zero_le _) dX5_takeNumber_49 (by first | (rw [numZ, if_pos c4]; exact yF.mk rfl) | (rw [numZ, if_neg (Decidable.not_not.mpr c4), if_pos c16]; exact yF.mk rfl) | (rw [numZ, if_neg (Decidable.not_not.mpr c4), if_neg (Decidable.not_not.mpr c16), if_pos (Or.inl c34)]; exact yF.mk rfl) | (rw [numZ, if_neg (Decidable.not_not.mpr c4), if_neg (Decidable.not_not.mpr c16), if_pos (Or.inr c39)]; exact yF.mk rfl) | (rw [numZ, if_neg (Decidable.not_not.mpr c4), if_neg (Decidable.not_not.mpr c16), if_neg (fun q => q.elim c34 (fun w => w c39))]; exact yF.mk rfl))
      · refine y_iload_n hC dX5_takeNumber_37 rfl ?_
        refine y_iload_n hC dX5_takeNumber_38 rfl ?_
        refine y_icmp_le (tgt := 50) hC dX5_takeNumber_39 (by decide) (fun c39 => ?_) (fun c39 => ?_)
        · refine y_aload_n hC dX5_takeNumber_50 rfl ?_
          refine y_callV0 hC (c_X5_step X.2.1 D z hP hm9 hi him hct hcm) m_X5_82 rfl (yP_o hP) (by decide) (Nat.le_of_ble_eq_true rfl) (Nat.zero_le _) (Nat.zero_le _) dX5_takeNumber_51 ?_
          refine y_iload_n hC dX5_takeNumber_54 rfl ?_
          exact y_iret hC hr rfl (Nat.zero_le _) (Nat.zero_le _) dX5_takeNumber_55 (by first | (rw [numZ, if_pos c4]; exact yF.mk rfl) | (rw [numZ, if_neg (Decidable.not_not.mpr c4), if_pos c16]; exact yF.mk rfl) | (rw [numZ, if_neg (Decidable.not_not.mpr c4), if_neg (Decidable.not_not.mpr c16), if_pos (Or.inl c34)]; exact yF.mk rfl) | (rw [numZ, if_neg (Decidable.not_not.mpr c4), if_neg (Decidable.not_not.mpr c16), if_pos (Or.inr c39)]; exact yF.mk rfl) | (rw [numZ, if_neg (Decidable.not_not.mpr c4), if_neg (Decidable.not_not.mpr c16), if_neg (fun q => q.elim c34 (fun w => w c39))]; exact yF.mk rfl))
        · refine y_aload_n hC dX5_takeNumber_42 rfl ?_
          refine y_bipush (v := (-3)) hC dX5_takeNumber_43 (by decide) ?_
          refine y_callV0 hC (c_X5_fail X.2.1 D z hP hm9 hi him hct hcm) m_X5_54 rfl (yP_o hP) (by decide) (Nat.le_of_ble_eq_true rfl) (Nat.zero_le _) (Nat.zero_le _) dX5_takeNumber_45 ?_
          refine y_iload_n hC dX5_takeNumber_48 rfl ?_
          exact y_iret hC hr rfl (Nat.zero_le _) (Nat.zero_le _) dX5_takeNumber_49 (by first | (rw [numZ, if_pos c4]; exact yF.mk rfl) | (rw [numZ, if_neg (Decidable.not_not.mpr c4), if_pos c16]; exact yF.mk rfl) | (rw [numZ, if_neg (Decidable.not_not.mpr c4), if_neg (Decidable.not_not.mpr c16), if_pos (Or.inl c34)]; exact yF.mk rfl) | (rw [numZ, if_neg (Decidable.not_not.mpr c4), if_neg (Decidable.not_not.mpr c16), if_pos (Or.inr c39)]; exact yF.mk rfl) | (rw [numZ, if_neg (Decidable.not_not.mpr c4), if_neg (Decidable.not_not.mpr c16), if_neg (fun q => q.elim c34 (fun w => w c39))]; exact yF.mk rfl))
    · refine y_aload_n hC dX5_takeNumber_19 rfl ?_
      refine y_bipush (v := (-2)) hC dX5_takeNumber_20 (by decide) ?_
      refine y_callV0 hC (c_X5_fail X.2.1 D z hP hm9 hi him hct hcm) m_X5_54 rfl (yP_o hP) (by decide) (Nat.le_of_ble_eq_true rfl) (Nat.zero_le _) (Nat.zero_le _) dX5_takeNumber_22 ?_
      refine y_iload_n hC dX5_takeNumber_25 rfl ?_
      exact y_iret hC hr rfl (Nat.zero_le _) (Nat.zero_le _) dX5_takeNumber_26 (by first | (rw [numZ, if_pos c4]; exact yF.mk rfl) | (rw [numZ, if_neg (Decidable.not_not.mpr c4), if_pos c16]; exact yF.mk rfl) | (rw [numZ, if_neg (Decidable.not_not.mpr c4), if_neg (Decidable.not_not.mpr c16), if_pos (Or.inl c34)]; exact yF.mk rfl) | (rw [numZ, if_neg (Decidable.not_not.mpr c4), if_neg (Decidable.not_not.mpr c16), if_pos (Or.inr c39)]; exact yF.mk rfl) | (rw [numZ, if_neg (Decidable.not_not.mpr c4), if_neg (Decidable.not_not.mpr c16), if_neg (fun q => q.elim c34 (fun w => w c39))]; exact yF.mk rfl))
  · refine y_iload_n hC dX5_takeNumber_7 rfl ?_
    exact y_iret hC hr rfl (Nat.zero_le _) (Nat.zero_le _) dX5_takeNumber_8 (by first | (rw [numZ, if_pos c4]; exact yF.mk rfl) | (rw [numZ, if_neg (Decidable.not_not.mpr c4), if_pos c16]; exact yF.mk rfl) | (rw [numZ, if_neg (Decidable.not_not.mpr c4), if_neg (Decidable.not_not.mpr c16), if_pos (Or.inl c34)]; exact yF.mk rfl) | (rw [numZ, if_neg (Decidable.not_not.mpr c4), if_neg (Decidable.not_not.mpr c16), if_pos (Or.inr c39)]; exact yF.mk rfl) | (rw [numZ, if_neg (Decidable.not_not.mpr c4), if_neg (Decidable.not_not.mpr c16), if_neg (fun q => q.elim c34 (fun w => w c39))]; exact yF.mk rfl))
set_option maxRecDepth 100000 in
set_option maxHeartbeats 4000000 in
theorem c_X5_takeOnce1 (l : Launch) (D : yD) (z : Nat) {n : Nat} {sh : yS} {I : yI} {L : yL} {r b m : Nat} {Z : yI} (hP : yPar sh r b m) (hm9 : m < 2147483648) {i cnt : Nat} (hi : Z 0 2 = nI i) (him : i < cnt) (hct : Z 1 5 = nI cnt) (hcm : cnt ≤ m) : yM l D z yX5_takeOnce cX5_takeOnce 2 none 1 0 0 [.ref r, .int 1] n sh (sR 18 I r Z) L (yF none n sh (sR 18 I r (faZ Z i (-2))) L) (yno) := by
  refine yM_of (by decide) (Nat.le_of_ble_eq_true rfl) rfl ?_
  intro X hC hr hnm hRc hRs htb
  have hC : yC X D z cX5_takeOnce RX5 2 1 := hC
  refine y_iload_n hC dX5_takeOnce_0 rfl ?_
  refine y_if_eq (tgt := 11) hC dX5_takeOnce_1 (by decide) (fun c1 => absurd c1 (by decide)) (fun c1 => ?_)
  refine y_aload_n hC dX5_takeOnce_4 rfl ?_
  refine y_bipush (v := (-2)) hC dX5_takeOnce_5 (by decide) ?_
  refine y_callV0 hC (c_X5_fail X.2.1 D z hP hm9 hi him hct hcm) m_X5_54 rfl (yP_o hP) (by decide) (Nat.le_of_ble_eq_true rfl) (Nat.zero_le _) (Nat.zero_le _) dX5_takeOnce_7 ?_
  exact y_vret hC hr (Nat.zero_le _) (Nat.zero_le _) dX5_takeOnce_10 (yF.mk rfl)
set_option maxRecDepth 100000 in
set_option maxHeartbeats 4000000 in
theorem c_X5_takeOnce0 (l : Launch) (D : yD) (z : Nat) {n : Nat} {sh : yS} {I : yI} {L : yL} {r b m : Nat} {Z : yI} (hP : yPar sh r b m) (hm9 : m < 2147483648) {i cnt : Nat} (hi : Z 0 2 = nI i) (him : i < cnt) (hct : Z 1 5 = nI cnt) (hcm : cnt ≤ m) : yM l D z yX5_takeOnce cX5_takeOnce 2 none 1 0 0 [.ref r, .int 0] n sh (sR 18 I r Z) L (yF none n sh (sR 18 I r (stpZ Z cnt i)) L) (yno) := by
  refine yM_of (by decide) (Nat.le_of_ble_eq_true rfl) rfl ?_
  intro X hC hr hnm hRc hRs htb
  have hC : yC X D z cX5_takeOnce RX5 2 1 := hC
  refine y_iload_n hC dX5_takeOnce_0 rfl ?_
  refine y_if_eq (tgt := 11) hC dX5_takeOnce_1 (by decide) (fun c1 => ?_) (fun c1 => absurd rfl c1)
  refine y_aload_n hC dX5_takeOnce_11 rfl ?_
  refine y_callV0 hC (c_X5_step X.2.1 D z hP hm9 hi him hct hcm) m_X5_82 rfl (yP_o hP) (by decide) (Nat.le_of_ble_eq_true rfl) (Nat.zero_le _) (Nat.zero_le _) dX5_takeOnce_12 ?_
  exact y_vret hC hr (Nat.zero_le _) (Nat.zero_le _) dX5_takeOnce_15 (yF.mk rfl)
