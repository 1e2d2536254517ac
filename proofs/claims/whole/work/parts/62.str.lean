theorem fl_J0_9 : Cond.fieldLink RJ0 9 "java/lang/String" "value" "[B" ∈ yT := yT_in (i := 1381) (by decide +kernel) (by decide +kernel)
theorem fl_J0_15 : Cond.fieldLink RJ0 15 "java/lang/String" "coder" "B" ∈ yT := yT_in (i := 1382) (by decide +kernel) (by decide +kernel)
theorem fl_J0_38 : Cond.fieldLink RJ0 38 "java/lang/String" "COMPACT_STRINGS" "Z" ∈ yT := yT_in (i := 514) (by decide +kernel) (by decide +kernel)
theorem fl_J0_1053 : Cond.fieldLink RJ0 1053 "jdk/internal/util/Preconditions" "SIOOBE_FORMATTER" "Ljava/util/function/BiFunction;" ∈ yT := yT_in (i := 530) (by decide +kernel) (by decide +kernel)
/-- a method of java.lang.String -/
def yCT (own : String) (idx : Nat) (y : MethodName) (bytes : ByteArray) (maxL : Nat) (ret : Option FieldType) (nA : Nat) : Prop := yCB own idx y bytes maxL ret nA ∧ Cond.instanceMethod y ∈ yT ∧ Cond.selects y.cls y y ∈ yT ∧ y.cls = "java/lang/String"
theorem t_X6_87 : yCT RX6 87 yJ0_length_8abf5 cJ0_length_8abf5 1 (some .int) 0 := ⟨⟨yT_in (i := 506) (by decide +kernel) (by decide +kernel), yT_in (i := 509) (by decide +kernel) (by decide +kernel), yT_in (i := 15) (by decide +kernel) (by decide +kernel), by decide +kernel, by decide⟩, yT_in (i := 507) (by decide +kernel) (by decide +kernel), yT_in (i := 508) (by decide +kernel) (by decide +kernel), rfl⟩
theorem t_X6_92 : yCT RX6 92 yJ0_charAt_5068e cJ0_charAt_5068e 2 (some .char) 1 := ⟨⟨yT_in (i := 516) (by decide +kernel) (by decide +kernel), yT_in (i := 519) (by decide +kernel) (by decide +kernel), yT_in (i := 15) (by decide +kernel) (by decide +kernel), by decide +kernel, by decide⟩, yT_in (i := 517) (by decide +kernel) (by decide +kernel), yT_in (i := 518) (by decide +kernel) (by decide +kernel), rfl⟩
theorem t_X8_73 : yCT RX8 73 yJ0_length_8abf5 cJ0_length_8abf5 1 (some .int) 0 := ⟨⟨yT_in (i := 1092) (by decide +kernel) (by decide +kernel), yT_in (i := 509) (by decide +kernel) (by decide +kernel), yT_in (i := 15) (by decide +kernel) (by decide +kernel), by decide +kernel, by decide⟩, yT_in (i := 507) (by decide +kernel) (by decide +kernel), yT_in (i := 508) (by decide +kernel) (by decide +kernel), rfl⟩
theorem t_X8_78 : yCT RX8 78 yJ0_charAt_5068e cJ0_charAt_5068e 2 (some .char) 1 := ⟨⟨yT_in (i := 1093) (by decide +kernel) (by decide +kernel), yT_in (i := 519) (by decide +kernel) (by decide +kernel), yT_in (i := 15) (by decide +kernel) (by decide +kernel), by decide +kernel, by decide⟩, yT_in (i := 517) (by decide +kernel) (by decide +kernel), yT_in (i := 518) (by decide +kernel) (by decide +kernel), rfl⟩
theorem t_J0_335 : yCT RJ0 335 yJ0_coder_7d493 cJ0_coder_7d493 1 (some .byte) 0 := ⟨⟨yT_in (i := 510) (by decide +kernel) (by decide +kernel), yT_in (i := 513) (by decide +kernel) (by decide +kernel), yT_in (i := 15) (by decide +kernel) (by decide +kernel), by decide +kernel, by decide⟩, yT_in (i := 511) (by decide +kernel) (by decide +kernel), yT_in (i := 512) (by decide +kernel) (by decide +kernel), rfl⟩
theorem t_J0_492 : yCT RJ0 492 yJ0_isLatin1_aae02 cJ0_isLatin1_aae02 1 (some .boolean) 0 := ⟨⟨yT_in (i := 520) (by decide +kernel) (by decide +kernel), yT_in (i := 523) (by decide +kernel) (by decide +kernel), yT_in (i := 15) (by decide +kernel) (by decide +kernel), by decide +kernel, by decide⟩, yT_in (i := 521) (by decide +kernel) (by decide +kernel), yT_in (i := 522) (by decide +kernel) (by decide +kernel), rfl⟩
section RowsStr
variable {X : yX} {D : yD} {z nL n : Nat} {sh : yS} {I : yI} {L : yL} {k w : Nat} {Q : State → Prop} {pc : Nat} {lv : List (Option Value)} {st stk : List Value} {cc : ByteArray} {own : String} {dep : Nat}
variable {y : MethodName} {bytes : ByteArray} {maxL : Nat} {ret : Option FieldType} {d2 idx i : Nat} {As : List Value} {v : Value}
theorem yOld.vaS {z : Nat} {H0 H : Heap} {locs : List Loc} (h2 : yOld z H0 H) (h3 : ∀ o ∈ locs, z ≤ o.base) : va_S (fun q => z ≤ q) H0 H locs := ⟨h2.1, fun q _ hn => h2.2 q (Nat.lt_of_not_le hn), h3⟩
theorem yC.str (hC : yC X D z cc own nL dep) : yStr D z (ys X) := hC.2.2.2.2.2.1.2.2.2.2.1
theorem y_gval (hC : yC X D z cc own nL dep) (hi : i < 10) (hl : Cond.fieldLink own idx "java/lang/String" "value" "[B" ∈ yT) (hd : decode cc pc = .ok (.getfield idx, 3)) (kk : Y X D z nL n sh I L k w Q (pc + 3) lv (.ref (D.2.2.2 i) :: st)) : Y X D z nL n sh I L k w Q pc lv (.ref (D.2.2.1 i) :: st) := fun H locs ls h1 h2 h3 h4 => vk_getf hC.1 hC.2.1 (hC.str.1 i hi).2.2.1 (h2.vaS h3) hC.2.2.2.1 (hC.2.2.2.2.1 _ hl) (fun _ h => h) hd (kk H locs ls h1 h2 h3 h4)
theorem y_gcod (hC : yC X D z cc own nL dep) (hi : i < 10) (hl : Cond.fieldLink own idx "java/lang/String" "coder" "B" ∈ yT) (hd : decode cc pc = .ok (.getfield idx, 3)) (kk : Y X D z nL n sh I L k w Q (pc + 3) lv (.int 0 :: st)) : Y X D z nL n sh I L k w Q pc lv (.ref (D.2.2.1 i) :: st) := fun H locs ls h1 h2 h3 h4 => vk_getf hC.1 hC.2.1 (hC.str.1 i hi).2.1 (h2.vaS h3) hC.2.2.2.1 (hC.2.2.2.2.1 _ hl) (fun _ h => h) hd (kk H locs ls h1 h2 h3 h4)
theorem y_gcs (hC : yC X D z cc own nL dep) (hl : Cond.fieldLink own idx "java/lang/String" "COMPACT_STRINGS" "Z" ∈ yT) (hd : decode cc pc = .ok (.getstatic idx, 3)) (kk : Y X D z nL n sh I L k w Q (pc + 3) lv (.int 1 :: st)) : Y X D z nL n sh I L k w Q pc lv st := fun H locs ls h1 h2 h3 h4 => va_gets hC.1 hC.2.1 hC.str.2.2.1 (h2.vaS h3) hC.2.2.2.1 (hC.2.2.2.2.1 _ hl) (fun _ h => h) hd (kk H locs ls h1 h2 h3 h4)
theorem y_gsio (hC : yC X D z cc own nL dep) (hl : Cond.fieldLink own idx "jdk/internal/util/Preconditions" "SIOOBE_FORMATTER" "Ljava/util/function/BiFunction;" ∈ yT) (hd : decode cc pc = .ok (.getstatic idx, 3)) (k0 : Y X D z nL n sh I L k w Q (pc + 3) lv (.null :: st)) (k1 : ∀ t : Nat, Y X D z nL n sh I L k w Q (pc + 3) lv (.ref t :: st)) : Y X D z nL n sh I L k w Q pc lv st := by
  rcases hC.str.2.2.2 with h | ⟨t, h⟩
  · exact fun H locs ls h1 h2 h3 h4 => va_gets hC.1 hC.2.1 h (h2.vaS h3) hC.2.2.2.1 (hC.2.2.2.2.1 _ hl) (fun _ h => h) hd (k0 H locs ls h1 h2 h3 h4)
  · exact fun H locs ls h1 h2 h3 h4 => va_gets hC.1 hC.2.1 h (h2.vaS h3) hC.2.2.2.1 (hC.2.2.2.2.1 _ hl) (fun _ h => h) hd (k1 t H locs ls h1 h2 h3 h4)
/-- the letters of the word i -/
def sN (i : Nat) : Nat := (yByt.getD i []).length
def sB (i j : Nat) : Int32 := (yByt.getD i []).getD j 0
theorem y_slen (hC : yC X D z cc own nL dep) (hi : i < 10) (hd : decode cc pc = .ok (.arraylength, 1)) (kk : Y X D z nL n sh I L k w Q (pc + 1) lv (.int (nI (sN i)) :: st)) : Y X D z nL n sh I L k w Q pc lv (.ref (D.2.2.2 i) :: st) := fun H locs ls h1 h2 h3 h4 => va_tlen hC.1 hC.2.1 (hC.str.1 i hi).2.2.2 (h2.vaS h3) rfl hd (kk H locs ls h1 h2 h3 h4)
theorem y_sbald (hC : yC X D z cc own nL dep) (hi : i < 10) {j : Nat} (hj : j < sN i ∧ sN i < 2147483648) (hd : decode cc pc = .ok (.baload, 1)) (kk : Y X D z nL n sh I L k w Q (pc + 1) lv (.int (sB i j) :: st)) : Y X D z nL n sh I L k w Q pc lv (.int (nI j) :: .ref (D.2.2.2 i) :: st) := fun H locs ls h1 h2 h3 h4 => va_tb hC.1 hC.2.1 (hC.str.1 i hi).2.2.2 (h2.vaS h3) (vp_in_nI hj.1 hj.2) (show _ = Value.int (sB i j) by rw [nI_clamp (by omega)]; rfl) hd (kk H locs ls h1 h2 h3 h4)
/-- invokevirtual of a method of String -/
theorem y_callT (hC : yC X D z cc own nL dep) (hi : i < 10) (hM : yM X.2.1 D z y bytes maxL ret d2 0 0 (.ref (D.2.2.1 i) :: As) n sh I L (yF (some v) n sh I L) yno) (cw : yCT own idx y bytes maxL ret As.length) (hs : stk = ypush (.ref (D.2.2.1 i) :: As) st) (hdep : d2 + 1 ≤ dep) (hst : (st.map fun v => v.category).sum ≤ 8) (hk : k ≤ (yR X).cells) (hw : w ≤ (yR X).slots) (hd : decode cc pc = .ok (.invokevirtual idx, 3)) (kk : Y X D z nL n sh I L k w Q (pc + 3) lv (v :: st)) : Y X D z nL n sh I L k w Q pc lv stk := by
  intro H locs ls h1 h2 h3 h4
  obtain ⟨cb, c1, c2, c3⟩ := cw
  obtain ⟨cell, q1, q2, q3⟩ := va_Orecv (hC.str.1 i hi).1 (h2.vaS h3)
  refine y_run (Qr := yF (some v) n sh I L) (Qx := yno) (a := (Value.ref (D.2.2.1 i) :: As).toArray) (vx_runV (own := own) (C := y.cls) (bytes := bytes) (maxL := maxL) (ret := ret) (n := As.length) (As := As) (b := D.2.2.1 i) (rest := st) ⟨hC.1, hC.2.1, hC.2.2.1, hC.2.2.2.1, hC.2.2.2.2.1⟩ (hM hC.2.2.2.2.2.2.2.2.2) ⟨y_cb hC cb hdep, hC.2.2.2.2.1 _ c1, hC.2.2.2.2.1 _ c2⟩ ⟨yPc_blind, ⟨cell, q1, q2, by rw [c3]; exact q3⟩, y_pre hC h1 h2⟩ rfl rfl h4.1 ?_ (lv_room hst) hd ⟨hk, hw⟩) h2 h3 h4 (fun _ _ _ _ _ h => by obtain ⟨rfl, rfl, rfl, rfl, rfl⟩ := h; exact kk) (fun _ _ _ _ _ h => h.elim)
  rw [hs, ypush_eq]; simp
end RowsStr
theorem sN_lt : ∀ i, i < 10 → sN i < 8 := by decide
theorem sN_sh : ∀ i, i < 10 → nI (sN i) >>> ((0 : Int32) &&& 31) = nI (sN i) := by decide +kernel
theorem sB_c : ∀ i, i < 10 → ∀ j, j < sN i → ((sB i j &&& 255).toUInt32 % 65536).toInt32 = sB i j := by decide +kernel
set_option maxRecDepth 100000 in
set_option maxHeartbeats 4000000 in
theorem c_J0_coder_7d493 (l : Launch) (D : yD) (z : Nat) {n : Nat} {sh : yS} {I : yI} {L : yL} {i : Nat} (hi : i < 10) : yM l D z yJ0_coder_7d493 cJ0_coder_7d493 1 (some .byte) 0 0 0 [.ref (D.2.2.1 i)] n sh I L (yF (some (.int 0)) n sh I L) (yno) := by
  refine yM_of (by decide) (Nat.le_of_ble_eq_true rfl) rfl ?_
  intro X hC hr hnm hRc hRs htb
  have hC : yC X D z cJ0_coder_7d493 RJ0 1 0 := hC
  refine y_gcs hC fl_J0_38 dJ0_coder_7d493_0 ?_
  refine y_if_eq (tgt := 13) hC dJ0_coder_7d493_3 (by decide) (fun c3 => absurd c3 (by decide)) (fun c3 => ?_)
  refine y_aload_n hC dJ0_coder_7d493_6 rfl ?_
  refine y_gcod hC hi fl_J0_15 dJ0_coder_7d493_7 ?_
  refine y_goto (tgt := 14) hC dJ0_coder_7d493_10 (by decide) ?_
  exact y_iret hC hr rfl (Nat.zero_le _) (Nat.zero_le _) dJ0_coder_7d493_14 (yF.mk rfl)
set_option maxRecDepth 100000 in
set_option maxHeartbeats 4000000 in
theorem c_J0_isLatin1_aae02 (l : Launch) (D : yD) (z : Nat) {n : Nat} {sh : yS} {I : yI} {L : yL} {i : Nat} (hi : i < 10) : yM l D z yJ0_isLatin1_aae02 cJ0_isLatin1_aae02 1 (some .boolean) 0 0 0 [.ref (D.2.2.1 i)] n sh I L (yF (some (.int 1)) n sh I L) (yno) := by
  refine yM_of (by decide) (Nat.le_of_ble_eq_true rfl) rfl ?_
  intro X hC hr hnm hRc hRs htb
  have hC : yC X D z cJ0_isLatin1_aae02 RJ0 1 0 := hC
  refine y_gcs hC fl_J0_38 dJ0_isLatin1_aae02_0 ?_
  refine y_if_eq (tgt := 17) hC dJ0_isLatin1_aae02_3 (by decide) (fun c3 => absurd c3 (by decide)) (fun c3 => ?_)
  refine y_aload_n hC dJ0_isLatin1_aae02_6 rfl ?_
  refine y_gcod hC hi fl_J0_15 dJ0_isLatin1_aae02_7 ?_
  refine y_if_ne (tgt := 17) hC dJ0_isLatin1_aae02_10 (by decide) (fun c10 => absurd rfl c10) (fun c10 => ?_)
  refine y_iconst (v := 1) hC dJ0_isLatin1_aae02_13 (by decide) ?_
  refine y_goto (tgt := 18) hC dJ0_isLatin1_aae02_14 (by decide) ?_
  exact y_iret hC hr rfl (Nat.zero_le _) (Nat.zero_le _) dJ0_isLatin1_aae02_18 (yF.mk rfl)
set_option maxRecDepth 100000 in
set_option maxHeartbeats 4000000 in
theorem c_J0_length_8abf5 (l : Launch) (D : yD) (z : Nat) {n : Nat} {sh : yS} {I : yI} {L : yL} {i : Nat} (hi : i < 10) : yM l D z yJ0_length_8abf5 cJ0_length_8abf5 1 (some .int) 1 0 0 [.ref (D.2.2.1 i)] n sh I L (yF (some (.int (nI (sN i)))) n sh I L) (yno) := by
  refine yM_of (by decide) (Nat.le_of_ble_eq_true rfl) rfl ?_
  intro X hC hr hnm hRc hRs htb
  have hC : yC X D z cJ0_length_8abf5 RJ0 1 1 := hC
  refine y_aload_n hC dJ0_length_8abf5_0 rfl ?_
  refine y_gval hC hi fl_J0_9 dJ0_length_8abf5_1 ?_
  refine y_slen hC hi dJ0_length_8abf5_4 ?_
  refine y_aload_n hC dJ0_length_8abf5_5 rfl ?_
  refine y_callT hC hi (c_J0_coder_7d493 X.2.1 D z hi) t_J0_335 rfl (by decide) (Nat.le_of_ble_eq_true rfl) (Nat.zero_le _) (Nat.zero_le _) dJ0_length_8abf5_6 ?_
  refine y_ishr hC dJ0_length_8abf5_9 ?_
  exact y_iret hC hr rfl (Nat.zero_le _) (Nat.zero_le _) dJ0_length_8abf5_10 (yF.mk (congrArg (fun q => some (Value.int q)) (sN_sh i hi)))
set_option maxRecDepth 100000 in
set_option maxHeartbeats 4000000 in
theorem c_chk_null (l : Launch) (D : yD) (z : Nat) {n : Nat} {sh : yS} {I : yI} {L : yL} {j m : Nat} {t : Nat} (hj : j < m) (hm : m < 2147483648) : yM l D z yJ3_checkIndex_8e157 cJ3_checkIndex_8e157 3 (some .int) 0 0 0 [.int (nI j), .int (nI m), .null] n sh I L (yF (some (.int (nI j))) n sh I L) (yno) := by
  refine yM_of (by decide) (Nat.le_of_ble_eq_true rfl) rfl ?_
  intro X hC hr hnm hRc hRs htb
  have hC : yC X D z cJ3_checkIndex_8e157 RJ3 3 0 := hC
  refine y_iload_n hC dJ3_checkIndex_8e157_0 rfl ?_
  refine y_if_lt (tgt := 9) hC dJ3_checkIndex_8e157_1 (by decide) (fun c1 => absurd c1 (nI_pos (by omega))) (fun c1 => ?_)
  refine y_iload_n hC dJ3_checkIndex_8e157_4 rfl ?_
  refine y_iload_n hC dJ3_checkIndex_8e157_5 rfl ?_
  refine y_icmp_lt (tgt := 16) hC dJ3_checkIndex_8e157_6 (by decide) (fun c6 => ?_) (fun c6 => absurd (nI_lt hj (by omega)) c6)
  refine y_iload_n hC dJ3_checkIndex_8e157_16 rfl ?_
  exact y_iret hC hr rfl (Nat.zero_le _) (Nat.zero_le _) dJ3_checkIndex_8e157_17 (yF.mk rfl)
set_option maxRecDepth 100000 in
set_option maxHeartbeats 4000000 in
theorem c_chk_ref (l : Launch) (D : yD) (z : Nat) {n : Nat} {sh : yS} {I : yI} {L : yL} {j m : Nat} {t : Nat} (hj : j < m) (hm : m < 2147483648) : yM l D z yJ3_checkIndex_8e157 cJ3_checkIndex_8e157 3 (some .int) 0 0 0 [.int (nI j), .int (nI m), (.ref t)] n sh I L (yF (some (.int (nI j))) n sh I L) (yno) := by
  refine yM_of (by decide) (Nat.le_of_ble_eq_true rfl) rfl ?_
  intro X hC hr hnm hRc hRs htb
  have hC : yC X D z cJ3_checkIndex_8e157 RJ3 3 0 := hC
  refine y_iload_n hC dJ3_checkIndex_8e157_0 rfl ?_
  refine y_if_lt (tgt := 9) hC dJ3_checkIndex_8e157_1 (by decide) (fun c1 => absurd c1 (nI_pos (by omega))) (fun c1 => ?_)
  refine y_iload_n hC dJ3_checkIndex_8e157_4 rfl ?_
  refine y_iload_n hC dJ3_checkIndex_8e157_5 rfl ?_
  refine y_icmp_lt (tgt := 16) hC dJ3_checkIndex_8e157_6 (by decide) (fun c6 => ?_) (fun c6 => absurd (nI_lt hj (by omega)) c6)
  refine y_iload_n hC dJ3_checkIndex_8e157_16 rfl ?_
  exact y_iret hC hr rfl (Nat.zero_le _) (Nat.zero_le _) dJ3_checkIndex_8e157_17 (yF.mk rfl)
set_option maxRecDepth 100000 in
set_option maxHeartbeats 4000000 in
theorem c_J0_checkIndex_df160 (l : Launch) (D : yD) (z : Nat) {n : Nat} {sh : yS} {I : yI} {L : yL} {j m : Nat} (hj : j < m) (hm : m < 2147483648) : yM l D z yJ0_checkIndex_df160 cJ0_checkIndex_df160 2 none 1 0 0 [.int (nI j), .int (nI m)] n sh I L (yF none n sh I L) (yno) := by
  refine yM_of (by decide) (Nat.le_of_ble_eq_true rfl) rfl ?_
  intro X hC hr hnm hRc hRs htb
  have hC : yC X D z cJ0_checkIndex_df160 RJ0 2 1 := hC
  refine y_iload_n hC dJ0_checkIndex_df160_0 rfl ?_
  refine y_iload_n hC dJ0_checkIndex_df160_1 rfl ?_
  refine y_gsio hC fl_J0_1053 dJ0_checkIndex_df160_2 ?_ (fun t => ?_)
  · refine y_callS1 hC (c_chk_null X.2.1 D z (t := 0) hj hm) m_J0_1059 rfl (by decide) (Nat.le_of_ble_eq_true rfl) (Nat.zero_le _) (Nat.zero_le _) dJ0_checkIndex_df160_5 ?_
    refine y_pop hC dJ0_checkIndex_df160_8 rfl ?_
    exact y_vret hC hr (Nat.zero_le _) (Nat.zero_le _) dJ0_checkIndex_df160_9 (yF.mk rfl)
  · refine y_callS1 hC (c_chk_ref X.2.1 D z hj hm) m_J0_1059 rfl (by decide) (Nat.le_of_ble_eq_true rfl) (Nat.zero_le _) (Nat.zero_le _) dJ0_checkIndex_df160_5 ?_
    refine y_pop hC dJ0_checkIndex_df160_8 rfl ?_
    exact y_vret hC hr (Nat.zero_le _) (Nat.zero_le _) dJ0_checkIndex_df160_9 (yF.mk rfl)
theorem sB_n : ∀ i, i < 10 → ∀ j, j < sN i → narrow .char (.int (sB i j)) = .int (sB i j) := by decide +kernel
set_option maxRecDepth 100000 in
set_option maxHeartbeats 4000000 in
theorem c_J1_charAt_3b067 (l : Launch) (D : yD) (z : Nat) {n : Nat} {sh : yS} {I : yI} {L : yL} {i : Nat} (hi : i < 10) {j : Nat} (hj : j < sN i) : yM l D z yJ1_charAt_3b067 cJ1_charAt_3b067 2 (some .char) 2 0 0 [.ref (D.2.2.2 i), .int (nI j)] n sh I L (yF (some (.int (sB i j))) n sh I L) (yno) := by
  refine yM_of (by decide) (Nat.le_of_ble_eq_true rfl) rfl ?_
  intro X hC hr hnm hRc hRs htb
  have hC : yC X D z cJ1_charAt_3b067 RJ1 2 2 := hC
  have e9 := sB_c i hi j hj
  refine y_iload_n hC dJ1_charAt_3b067_0 rfl ?_
  refine y_aload_n hC dJ1_charAt_3b067_1 rfl ?_
  refine y_slen hC hi dJ1_charAt_3b067_2 ?_
  refine y_callS0 hC (c_J0_checkIndex_df160 X.2.1 D z hj (by have := sN_lt i hi; omega)) m_J1_9 rfl (by decide) (Nat.le_of_ble_eq_true rfl) (Nat.zero_le _) (Nat.zero_le _) dJ1_charAt_3b067_3 ?_
  refine y_aload_n hC dJ1_charAt_3b067_6 rfl ?_
  refine y_iload_n hC dJ1_charAt_3b067_7 rfl ?_
  refine y_sbald hC hi ⟨hj, by have := sN_lt i hi; omega⟩ dJ1_charAt_3b067_8 ?_
  refine y_sipush (v := 255) hC dJ1_charAt_3b067_9 (by decide) ?_
  refine y_iand hC dJ1_charAt_3b067_12 ?_
  refine y_i2c hC dJ1_charAt_3b067_13 ?_
  rw [e9]
  exact y_iret hC hr (sB_n i hi j hj) (Nat.zero_le _) (Nat.zero_le _) dJ1_charAt_3b067_14 (yF.mk rfl)
set_option maxRecDepth 100000 in
set_option maxHeartbeats 4000000 in
theorem c_J0_charAt_5068e (l : Launch) (D : yD) (z : Nat) {n : Nat} {sh : yS} {I : yI} {L : yL} {i : Nat} (hi : i < 10) {j : Nat} (hj : j < sN i) : yM l D z yJ0_charAt_5068e cJ0_charAt_5068e 2 (some .char) 3 0 0 [.ref (D.2.2.1 i), .int (nI j)] n sh I L (yF (some (.int (sB i j))) n sh I L) (yno) := by
  refine yM_of (by decide) (Nat.le_of_ble_eq_true rfl) rfl ?_
  intro X hC hr hnm hRc hRs htb
  have hC : yC X D z cJ0_charAt_5068e RJ0 2 3 := hC
  refine y_aload_n hC dJ0_charAt_5068e_0 rfl ?_
  refine y_callT hC hi (c_J0_isLatin1_aae02 X.2.1 D z hi) t_J0_492 rfl (by decide) (Nat.le_of_ble_eq_true rfl) (Nat.zero_le _) (Nat.zero_le _) dJ0_charAt_5068e_1 ?_
  refine y_if_eq (tgt := 16) hC dJ0_charAt_5068e_4 (by decide) (fun c4 => absurd c4 (by decide)) (fun c4 => ?_)
  refine y_aload_n hC dJ0_charAt_5068e_7 rfl ?_
  refine y_gval hC hi fl_J0_9 dJ0_charAt_5068e_8 ?_
  refine y_iload_n hC dJ0_charAt_5068e_11 rfl ?_
  refine y_callS1 hC (c_J1_charAt_3b067 X.2.1 D z hi hj) m_J0_495 rfl (by decide) (Nat.le_of_ble_eq_true rfl) (Nat.zero_le _) (Nat.zero_le _) dJ0_charAt_5068e_12 ?_
  exact y_iret hC hr (sB_n i hi j hj) (Nat.zero_le _) (Nat.zero_le _) dJ0_charAt_5068e_15 (yF.mk rfl)
