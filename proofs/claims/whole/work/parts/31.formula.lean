def fop (it c nn a d : Int32) : Int32 := if it = -4 then d else if it = -3 then a else if it = -2 then nn else if it = -1 then c else it
set_option maxRecDepth 100000 in
set_option maxHeartbeats 4000000 in
theorem c_X1_operand (l : Launch) (D : yD) (z : Nat) {n : Nat} {sh : yS} {I : yI} {L : yL} {it c nn a d : Int32} : yM l D z yX1_operand cX1_operand 5 (some .int) 0 0 0 [.int it, .int c, .int nn, .int a, .int d] n sh I L (yF (some (.int (fop it c nn a d))) n sh I L) (yno) := by
  refine yM_of (by decide) (Nat.le_of_ble_eq_true rfl) rfl ?_
  intro X hC hr hnm hRc hRs htb
  have hC : yC X D z cX1_operand RX1 5 0 := hC
  refine y_iload_n hC dX1_operand_0 rfl ?_
  by_cases e1_0 : it = (-4)
  · refine y_tableIn (tgt := 38) hC dX1_operand_1 (by rw [e1_0]; decide) (by rw [e1_0]; decide) (by rw [e1_0]; rfl) (by decide) ?_
    refine y_iload hC dX1_operand_38 rfl ?_
    exact y_iret hC hr rfl (Nat.zero_le _) (Nat.zero_le _) dX1_operand_40 (yF.mk (by simp [fop, *]))
  by_cases e1_1 : it = (-3)
  · refine y_tableIn (tgt := 36) hC dX1_operand_1 (by rw [e1_1]; decide) (by rw [e1_1]; decide) (by rw [e1_1]; rfl) (by decide) ?_
    refine y_iload_n hC dX1_operand_36 rfl ?_
    exact y_iret hC hr rfl (Nat.zero_le _) (Nat.zero_le _) dX1_operand_37 (yF.mk (by simp [fop, *]))
  by_cases e1_2 : it = (-2)
  · refine y_tableIn (tgt := 34) hC dX1_operand_1 (by rw [e1_2]; decide) (by rw [e1_2]; decide) (by rw [e1_2]; rfl) (by decide) ?_
    refine y_iload_n hC dX1_operand_34 rfl ?_
    exact y_iret hC hr rfl (Nat.zero_le _) (Nat.zero_le _) dX1_operand_35 (yF.mk (by simp [fop, *]))
  by_cases e1_3 : it = (-1)
  · refine y_tableIn (tgt := 32) hC dX1_operand_1 (by rw [e1_3]; decide) (by rw [e1_3]; decide) (by rw [e1_3]; rfl) (by decide) ?_
    refine y_iload_n hC dX1_operand_32 rfl ?_
    exact y_iret hC hr rfl (Nat.zero_le _) (Nat.zero_le _) dX1_operand_33 (yF.mk (by simp [fop, *]))
  have hout1 : it.toInt < -4 ∨ -1 < it.toInt := by
    refine ts_out (fun v g1 g2 => ?_)
    rcases (show v = -4 ∨ v = -3 ∨ v = -2 ∨ v = -1 by omega) with rfl | rfl | rfl | rfl
    · exact fun q => e1_0 (Int32.toInt_inj.mp (q.trans (by decide)))
    · exact fun q => e1_1 (Int32.toInt_inj.mp (q.trans (by decide)))
    · exact fun q => e1_2 (Int32.toInt_inj.mp (q.trans (by decide)))
    · exact fun q => e1_3 (Int32.toInt_inj.mp (q.trans (by decide)))
  refine y_tableOut (tgt := 41) hC dX1_operand_1 hout1 (by decide) ?_
  refine y_iload_n hC dX1_operand_41 rfl ?_
  exact y_iret hC hr rfl (Nat.zero_le _) (Nat.zero_le _) dX1_operand_42 (yF.mk (by simp [fop, *]))
def clL (v : Int64) : Int32 := (if (if v < 1000000 then v else 1000000) < (-1000000) then (-1000000) else (if v < 1000000 then v else 1000000)).toInt32
def fres (op : Int32) (x y : Int64) : Int32 := clL (if op = -7 then x * y else if op = -6 then x - y else if op = -5 then x + y else if y = 0 then 0 else x / y)
set_option maxRecDepth 100000 in
set_option maxHeartbeats 4000000 in
theorem c_X1_result (l : Launch) (D : yD) (z : Nat) {n : Nat} {sh : yS} {I : yI} {L : yL} {op : Int32} {x y : Int64} : yM l D z yX1_result cX1_result 7 (some .int) 1 0 0 [.int op, .long x, .long y] n sh I L (yF (some (.int (fres op x y))) n sh I L) (yno) := by
  refine yM_of (by decide) (Nat.le_of_ble_eq_true rfl) rfl ?_
  intro X hC hr hnm hRc hRs htb
  have hC : yC X D z cX1_result RX1 7 1 := hC
  refine y_iload_n hC dX1_result_0 rfl ?_
  by_cases e1_0 : op = (-7)
  · refine y_tableIn (tgt := 44) hC dX1_result_1 (by rw [e1_0]; decide) (by rw [e1_0]; decide) (by rw [e1_0]; rfl) (by decide) ?_
    refine y_lload_n hC dX1_result_44 rfl ?_
    refine y_lload_n hC dX1_result_45 rfl ?_
    refine y_lmul hC dX1_result_46 ?_
    refine y_lstore hC dX1_result_47 (by decide) rfl ?_
    refine y_goto (tgt := 67) hC dX1_result_49 (by decide) ?_
    refine y_ldc2 hC k_X1_34 dX1_result_67 ?_
    refine y_ldc2 hC k_X1_36 dX1_result_70 ?_
    refine y_lload hC dX1_result_73 rfl ?_
    refine y_mminL hC m_X1_38 (by decide) (Nat.le_of_ble_eq_true rfl) (Nat.zero_le _) (Nat.zero_le _) dX1_result_75 ?_
    refine y_mmaxL hC m_X1_42 (by decide) (Nat.le_of_ble_eq_true rfl) (Nat.zero_le _) (Nat.zero_le _) dX1_result_78 ?_
    refine y_l2i hC dX1_result_81 ?_
    exact y_iret hC hr rfl (Nat.zero_le _) (Nat.zero_le _) dX1_result_82 (yF.mk (congrArg (fun q => some (Value.int (clL q))) (by first | (simp [*]; done) | simp [*, show y = 0 from (lg_cmp_eq _ _).mp c55] | simp [*, show ¬ y = 0 from fun q => c55 ((lg_cmp_eq _ _).mpr q)])))
  by_cases e1_1 : op = (-6)
  · refine y_tableIn (tgt := 36) hC dX1_result_1 (by rw [e1_1]; decide) (by rw [e1_1]; decide) (by rw [e1_1]; rfl) (by decide) ?_
    refine y_lload_n hC dX1_result_36 rfl ?_
    refine y_lload_n hC dX1_result_37 rfl ?_
    refine y_lsub hC dX1_result_38 ?_
    refine y_lstore hC dX1_result_39 (by decide) rfl ?_
    refine y_goto (tgt := 67) hC dX1_result_41 (by decide) ?_
    refine y_ldc2 hC k_X1_34 dX1_result_67 ?_
    refine y_ldc2 hC k_X1_36 dX1_result_70 ?_
    refine y_lload hC dX1_result_73 rfl ?_
    refine y_mminL hC m_X1_38 (by decide) (Nat.le_of_ble_eq_true rfl) (Nat.zero_le _) (Nat.zero_le _) dX1_result_75 ?_
    refine y_mmaxL hC m_X1_42 (by decide) (Nat.le_of_ble_eq_true rfl) (Nat.zero_le _) (Nat.zero_le _) dX1_result_78 ?_
    refine y_l2i hC dX1_result_81 ?_
    exact y_iret hC hr rfl (Nat.zero_le _) (Nat.zero_le _) dX1_result_82 (yF.mk (congrArg (fun q => some (Value.int (clL q))) (by first | (simp [*]; done) | simp [*, show y = 0 from (lg_cmp_eq _ _).mp c55] | simp [*, show ¬ y = 0 from fun q => c55 ((lg_cmp_eq _ _).mpr q)])))
  by_cases e1_2 : op = (-5)
  · refine y_tableIn (tgt := 28) hC dX1_result_1 (by rw [e1_2]; decide) (by rw [e1_2]; decide) (by rw [e1_2]; rfl) (by decide) ?_
    refine y_lload_n hC dX1_result_28 rfl ?_
    refine y_lload_n hC dX1_result_29 rfl ?_
    refine y_ladd hC dX1_result_30 ?_
    refine y_lstore hC dX1_result_31 (by decide) rfl ?_
    refine y_goto (tgt := 67) hC dX1_result_33 (by decide) ?_
    refine y_ldc2 hC k_X1_34 dX1_result_67 ?_
    refine y_ldc2 hC k_X1_36 dX1_result_70 ?_
    refine y_lload hC dX1_result_73 rfl ?_
    refine y_mminL hC m_X1_38 (by decide) (Nat.le_of_ble_eq_true rfl) (Nat.zero_le _) (Nat.zero_le _) dX1_result_75 ?_
    refine y_mmaxL hC m_X1_42 (by decide) (Nat.le_of_ble_eq_true rfl) (Nat.zero_le _) (Nat.zero_le _) dX1_result_78 ?_
    refine y_l2i hC dX1_result_81 ?_
    exact y_iret hC hr rfl (Nat.zero_le _) (Nat.zero_le _) dX1_result_82 (yF.mk (congrArg (fun q => some (Value.int (clL q))) (by first | (simp [*]; done) | simp [*, show y = 0 from (lg_cmp_eq _ _).mp c55] | simp [*, show ¬ y = 0 from fun q => c55 ((lg_cmp_eq _ _).mpr q)])))
  have hout1 : op.toInt < -7 ∨ -5 < op.toInt := by
    refine ts_out (fun v g1 g2 => ?_)
    rcases (show v = -7 ∨ v = -6 ∨ v = -5 by omega) with rfl | rfl | rfl
    · exact fun q => e1_0 (Int32.toInt_inj.mp (q.trans (by decide)))
    · exact fun q => e1_1 (Int32.toInt_inj.mp (q.trans (by decide)))
    · exact fun q => e1_2 (Int32.toInt_inj.mp (q.trans (by decide)))
  refine y_tableOut (tgt := 52) hC dX1_result_1 hout1 (by decide) ?_
  refine y_lload_n hC dX1_result_52 rfl ?_
  refine y_lconst (v := 0) hC dX1_result_53 (by decide) ?_
  refine y_lcmp hC dX1_result_54 ?_
  refine y_if_ne (tgt := 62) hC dX1_result_55 (by decide) (fun c55 => ?_) (fun c55 => ?_)
  · refine y_lload_n hC dX1_result_62 rfl ?_
    refine y_lload_n hC dX1_result_63 rfl ?_
    refine y_ldiv hC dX1_result_64 (fun q => c55 ((lg_cmp_eq _ _).mpr q)) ?_
    refine y_lstore hC dX1_result_65 (by decide) rfl ?_
    refine y_ldc2 hC k_X1_34 dX1_result_67 ?_
    refine y_ldc2 hC k_X1_36 dX1_result_70 ?_
    refine y_lload hC dX1_result_73 rfl ?_
    refine y_mminL hC m_X1_38 (by decide) (Nat.le_of_ble_eq_true rfl) (Nat.zero_le _) (Nat.zero_le _) dX1_result_75 ?_
    refine y_mmaxL hC m_X1_42 (by decide) (Nat.le_of_ble_eq_true rfl) (Nat.zero_le _) (Nat.zero_le _) dX1_result_78 ?_
    refine y_l2i hC dX1_result_81 ?_
    exact y_iret hC hr rfl (Nat.zero_le _) (Nat.zero_le _) dX1_result_82 (yF.mk (congrArg (fun q => some (Value.int (clL q))) (by first | (simp [*]; done) | simp [*, show y = 0 from (lg_cmp_eq _ _).mp c55] | simp [*, show ¬ y = 0 from fun q => c55 ((lg_cmp_eq _ _).mpr q)])))
  · refine y_lconst (v := 0) hC dX1_result_58 (by decide) ?_
    refine y_goto (tgt := 65) hC dX1_result_59 (by decide) ?_
    refine y_lstore hC dX1_result_65 (by decide) rfl ?_
    refine y_ldc2 hC k_X1_34 dX1_result_67 ?_
    refine y_ldc2 hC k_X1_36 dX1_result_70 ?_
    refine y_lload hC dX1_result_73 rfl ?_
    refine y_mminL hC m_X1_38 (by decide) (Nat.le_of_ble_eq_true rfl) (Nat.zero_le _) (Nat.zero_le _) dX1_result_75 ?_
    refine y_mmaxL hC m_X1_42 (by decide) (Nat.le_of_ble_eq_true rfl) (Nat.zero_le _) (Nat.zero_le _) dX1_result_78 ?_
    refine y_l2i hC dX1_result_81 ?_
    exact y_iret hC hr rfl (Nat.zero_le _) (Nat.zero_le _) dX1_result_82 (yF.mk (congrArg (fun q => some (Value.int (clL q))) (by first | (simp [*]; done) | simp [*, show y = 0 from (lg_cmp_eq _ _).mp c55] | simp [*, show ¬ y = 0 from fun q => c55 ((lg_cmp_eq _ _).mpr q)])))
set_option maxRecDepth 100000 in
set_option maxHeartbeats 4000000 in
theorem c_X1_add (l : Launch) (D : yD) (z : Nat) {n : Nat} {sh : yS} {I : yI} {L : yL} {f m : Nat} {F : yI} (hF : yFor sh f m) {len : Nat} {it : Int32} (hl : F 0 2 = nI len) (hm : len < m) (hm2 : m < 2147483648) : yM l D z yX1_add cX1_add 2 none 0 0 0 [.ref f, .int it] n sh (sR 3 I f F) L (yF none n sh (sR 3 I f (up2 (up2 F 1 len it) 0 2 (nI (len + 1)))) L) (yno) := by
  refine yM_of (by decide) (Nat.le_of_ble_eq_true rfl) rfl ?_
  intro X hC hr hnm hRc hRs htb
  have hC : yC X D z cX1_add RX1 2 0 := hC
  refine y_aload_n hC dX1_add_0 rfl ?_
  refine y_getIR (w9 := 3) hC (by decide) (yF_o hF) f_X1_22 rfl dX1_add_1 ?_
  rw [hl]
  refine y_aload_n hC dX1_add_4 rfl ?_
  refine y_getR hC (yF_o hF) (yF_r0 hF) f_X1_13 rfl dX1_add_5 ?_
  refine y_alen hC (yF_a0 hF) (by decide) rfl dX1_add_8 ?_
  refine y_icmp_ge (tgt := 32) hC dX1_add_9 (by decide) (fun c9 => absurd c9 (nI_ge (by omega) (by omega))) (fun c9 => ?_)
  refine y_aload_n hC dX1_add_12 rfl ?_
  refine y_getR hC (yF_o hF) (yF_r0 hF) f_X1_13 rfl dX1_add_13 ?_
  refine y_aload_n hC dX1_add_16 rfl ?_
  refine y_getIR (w9 := 3) hC (by decide) (yF_o hF) f_X1_22 rfl dX1_add_17 ?_
  rw [hl]
  refine y_iload_n hC dX1_add_20 rfl ?_
  refine y_iastRN (w9 := 3) hC (by decide) (yF_a0 hF) (by omega) dX1_add_21 ?_
  refine y_aload_n hC dX1_add_22 rfl ?_
  refine y_dup hC dX1_add_23 rfl ?_
  refine y_getIR (w9 := 3) hC (by decide) (yF_o hF) f_X1_22 rfl dX1_add_24 ?_
  refine y_iconst (v := nI 1) hC dX1_add_27 (by decide) ?_
  refine y_iadd hC dX1_add_28 ?_
  refine y_putIR (w9 := 3) hC (by decide) (yF_o hF) f_X1_22 rfl (Or.inl rfl) dX1_add_29 ?_
  exact y_vret hC hr (Nat.zero_le _) (Nat.zero_le _) dX1_add_32 ⟨rfl, rfl, rfl, by rw [show up2 F 1 len it 0 2 = F 0 2 from rfl, hl]; exact congrArg (fun q => sR 3 I f (up2 (up2 F 1 len it) 0 2 q)) (nI_1 len), rfl⟩
def fstp (c nn a d it : Int32) (t : Nat) (s : Nat → Int32) : Nat × (Nat → Int32) :=
  if it ≤ -5 then (if t < 2 then (t, s) else (t - 1, upd s (t - 2) (fres it (s (t - 2)).toInt64 (s (t - 1)).toInt64)))
  else if 11 ≤ t then (t, s) else (t + 1, upd s t (fop it c nn a d))
def frun (c nn a d : Int32) (items s0 : Nat → Int32) : Nat → Nat × (Nat → Int32)
  | 0 => (0, s0)
  | k + 1 => fstp c nn a d (items k) (frun c nn a d items s0 k).1 (frun c nn a d items s0 k).2
theorem frun_le (c nn a d : Int32) (items s0 : Nat → Int32) : ∀ k, (frun c nn a d items s0 k).1 ≤ 11
  | 0 => Nat.zero_le _
  | k + 1 => by
    have := frun_le c nn a d items s0 k
    unfold frun fstp
    split
    · split
      · exact this
      · show _ - 1 ≤ 11; omega
    · split
      · exact this
      · show _ + 1 ≤ 11; omega
def fval (c nn a d : Int32) (items s0 : Nat → Int32) (len : Nat) : Int32 := if (frun c nn a d items s0 len).1 = 0 then 0 else (frun c nn a d items s0 len).2 ((frun c nn a d items s0 len).1 - 1)
theorem fval_0 {c nn a d : Int32} {it s0 s : Nat → Int32} {t len : Nat} (hi : (t, s) = frun c nn a d it s0 len) (h : t = 0) : fval c nn a d it s0 len = 0 := by
  unfold fval
  rw [← hi]
  exact if_pos h
theorem fval_s {c nn a d : Int32} {it s0 s : Nat → Int32} {u len : Nat} (hi : (u + 1, s) = frun c nn a d it s0 len) : fval c nn a d it s0 len = s u := by
  unfold fval
  rw [← hi]
  exact if_neg (Nat.succ_ne_zero u)
theorem frun_a {c nn a d : Int32} {it s0 s : Nat → Int32} {t j : Nat} (hi : (t, s) = frun c nn a d it s0 j) (h1 : ¬ it j ≤ -5) (h2 : t < 11) : (t + 1, upd s t (fop (it j) c nn a d)) = frun c nn a d it s0 (j + 1) := by
  unfold frun
  rw [← hi]
  show _ = fstp c nn a d (it j) t s
  rw [fstp, if_neg h1, if_neg (by omega)]
theorem frun_b {c nn a d : Int32} {it s0 s : Nat → Int32} {t j : Nat} (hi : (t, s) = frun c nn a d it s0 j) (h1 : ¬ it j ≤ -5) (h2 : 11 ≤ t) : (t, s) = frun c nn a d it s0 (j + 1) := by
  unfold frun
  rw [← hi]
  show _ = fstp c nn a d (it j) t s
  rw [fstp, if_neg h1, if_pos h2]
theorem frun_c {c nn a d : Int32} {it s0 s : Nat → Int32} {t j : Nat} (hi : (t, s) = frun c nn a d it s0 j) (h1 : it j ≤ -5) (h2 : t < 2) : (t, s) = frun c nn a d it s0 (j + 1) := by
  unfold frun
  rw [← hi]
  show _ = fstp c nn a d (it j) t s
  rw [fstp, if_pos h1, if_pos h2]
theorem frun_d {c nn a d : Int32} {it s0 s : Nat → Int32} {u j : Nat} (hi : (u + 2, s) = frun c nn a d it s0 j) (h1 : it j ≤ -5) : (u + 1, upd s u (fres (it j) (s u).toInt64 (s (u + 1)).toInt64)) = frun c nn a d it s0 (j + 1) := by
  unfold frun
  rw [← hi]
  show _ = fstp c nn a d (it j) (u + 2) s
  rw [fstp, if_pos h1, if_neg (by omega)]
  rfl
theorem va_up_id {α : Type} (f : Nat → α) (k : Nat) : va_up f k (f k) = f := by
  funext q
  unfold va_up
  by_cases h : q = k
  · rw [if_pos h, h]
  · rw [if_neg h]
theorem va_up_c {α : Type} (f : Nat → α) (k j : Nat) (v : α) (h : j ≠ k) : va_up f k v j = f j := va_up_ne f v h
set_option maxRecDepth 100000 in
set_option maxHeartbeats 4000000 in
theorem c_X1_valueFor (l : Launch) (D : yD) (z : Nat) {n : Nat} {sh : yS} {I : yI} {L : yL} {f m : Nat} {F : yI} (hF : yFor sh f m) {len : Nat} {c nn a d : Int32} (hl : F 0 2 = nI len) (hm : len ≤ m) (hm2 : m < 2147483648) : yM l D z yX1_valueFor cX1_valueFor 8 (some .int) 2 0 0 [.ref f, .int c, .int nn, .int a, .int d] n sh (sR 3 I f F) L (yF (some (.int (fval c nn a d (F 1) (F 2) len))) n sh (sR 3 I f (va_up F 2 (frun c nn a d (F 1) (F 2) len).2)) L) (yno) := by
  refine yM_of (by decide) (Nat.le_of_ble_eq_true rfl) rfl ?_
  intro X hC hr hnm hRc hRs htb
  have hC : yC X D z cX1_valueFor RX1 8 2 := hC
  rw [show sR 3 I f F = sR 3 I f (va_up F 2 (F 2)) by rw [va_up_id]]
  refine y_iconst (v := nI 0) hC dX1_valueFor_0 (by decide) ?_
  refine y_istore hC dX1_valueFor_1 (by decide) rfl ?_
  refine y_iconst (v := nI 0) hC dX1_valueFor_3 (by decide) ?_
  refine y_istore hC dX1_valueFor_4 (by decide) rfl ?_
  have lp6 : ∀ (f9 j : Nat) (t : Nat) (s : Nat → Int32) (x7 : Option Value), j + f9 = len → (t, s) = frun c nn a d (F 1) (F 2) j → Y X D z 8 n sh (sR 3 I f (va_up F 2 s)) L 0 0 (yEnd X D z (yF (some (.int (fval c nn a d (F 1) (F 2) len))) n sh (sR 3 I f (va_up F 2 (frun c nn a d (F 1) (F 2) len).2)) L) (yno) 0 0) 6 [some (.ref f), some (.int c), some (.int nn), some (.int a), some (.int d), some (.int (nI t)), some (.int (nI j)), x7] [] := by
    intro f9
    induction f9 with
    | zero =>
      intro j t s x7 hm hi
      have ht : t ≤ 11 := by have h9 := frun_le c nn a d (F 1) (F 2) j; rw [← hi] at h9; exact h9
      refine y_iload hC dX1_valueFor_6 rfl ?_
      refine y_aload_n hC dX1_valueFor_8 rfl ?_
      refine y_getIR (w9 := 3) hC (by decide) (yF_o hF) f_X1_22 rfl dX1_valueFor_9 ?_
      rw [show va_up F 2 s 0 2 = F 0 2 from rfl, hl]
      refine y_icmp_ge (tgt := 108) hC dX1_valueFor_12 (by decide) (fun c12 => ?_) (fun c12 => absurd (nI_le (by omega) (by omega)) c12)
      refine y_iload hC dX1_valueFor_108 rfl ?_
      refine y_if_le (tgt := 125) hC dX1_valueFor_110 (by decide) (fun c110 => ?_) (fun c110 => ?_)
      · refine y_iconst (v := 0) hC dX1_valueFor_125 (by decide) ?_
        exact y_iret hC hr rfl (Nat.zero_le _) (Nat.zero_le _) dX1_valueFor_126 (by obtain rfl : j = len := (by omega); first | exact ⟨(congrArg (fun q => some (Value.int q)) (fval_s hi)).symm, rfl, rfl, by rw [← hi], rfl⟩ | exact ⟨(congrArg (fun q => some (Value.int q)) (fval_0 hi (Nat.le_zero.mp (nI_le2 (b := 0) c110)))).symm, rfl, rfl, by rw [← hi], rfl⟩)
      · obtain ⟨u, rfl⟩ : ∃ u, t = u + 1 := ⟨t - 1, by have : ¬ t = 0 := fun q => c110 (by subst q; decide); omega⟩
        refine y_aload_n hC dX1_valueFor_113 rfl ?_
        refine y_getR hC (yF_o hF) (yF_r1 hF) f_X1_19 rfl dX1_valueFor_114 ?_
        refine y_iload hC dX1_valueFor_117 rfl ?_
        refine y_iconst (v := 1) hC dX1_valueFor_119 (by decide) ?_
        refine y_isub hC dX1_valueFor_120 ?_
        rw [nI_pred]
        refine y_ialdRN (w9 := 3) hC (by decide) (yF_a1 hF) (by omega) dX1_valueFor_121 ?_
        refine y_goto (tgt := 126) hC dX1_valueFor_122 (by decide) ?_
        exact y_iret hC hr rfl (Nat.zero_le _) (Nat.zero_le _) dX1_valueFor_126 (by obtain rfl : j = len := (by omega); first | exact ⟨(congrArg (fun q => some (Value.int q)) (fval_s hi)).symm, rfl, rfl, by rw [← hi], rfl⟩ | exact ⟨(congrArg (fun q => some (Value.int q)) (fval_0 hi (Nat.le_zero.mp (nI_le2 (b := 0) c110)))).symm, rfl, rfl, by rw [← hi], rfl⟩)
    | succ f9 ih =>
      intro j t s x7 hm hi
      have ht : t ≤ 11 := by have h9 := frun_le c nn a d (F 1) (F 2) j; rw [← hi] at h9; exact h9
      refine y_iload hC dX1_valueFor_6 rfl ?_
      refine y_aload_n hC dX1_valueFor_8 rfl ?_
      refine y_getIR (w9 := 3) hC (by decide) (yF_o hF) f_X1_22 rfl dX1_valueFor_9 ?_
      rw [show va_up F 2 s 0 2 = F 0 2 from rfl, hl]
      refine y_icmp_ge (tgt := 108) hC dX1_valueFor_12 (by decide) (fun c12 => absurd c12 (nI_ge (by omega) (by omega))) (fun c12 => ?_)
      refine y_aload_n hC dX1_valueFor_15 rfl ?_
      refine y_getR hC (yF_o hF) (yF_r0 hF) f_X1_13 rfl dX1_valueFor_16 ?_
      refine y_iload hC dX1_valueFor_19 rfl ?_
      refine y_ialdRN (w9 := 3) hC (by decide) (yF_a0 hF) (by omega) dX1_valueFor_21 ?_
      refine y_istore hC dX1_valueFor_22 (by decide) rfl ?_
      refine y_iload hC dX1_valueFor_24 rfl ?_
      refine y_bipush (v := (-5)) hC dX1_valueFor_26 (by decide) ?_
      refine y_icmp_le (tgt := 61) hC dX1_valueFor_28 (by decide) (fun c28 => ?_) (fun c28 => ?_)
      · refine y_iload hC dX1_valueFor_61 rfl ?_
        refine y_iconst (v := nI 2) hC dX1_valueFor_63 (by decide) ?_
        refine y_icmp_lt (tgt := 102) hC dX1_valueFor_64 (by decide) (fun c64 => ?_) (fun c64 => ?_)
        · refine y_iincN hC dX1_valueFor_102 rfl rfl (by decide) rfl ?_
          refine y_goto (tgt := 6) hC dX1_valueFor_105 (by decide) ?_
          try rw [up2_up]
          first | exact ih (j + 1) _ _ _ (by omega) (frun_a hi c28 (nI_nle2 c35)) | exact ih (j + 1) _ _ _ (by omega) (frun_b hi c28 (nI_le2 c35)) | exact ih (j + 1) _ _ _ (by omega) (frun_c hi c28 (nI_lt2 c64)) | exact ih (j + 1) _ _ _ (by omega) (frun_d hi c28)
        · obtain ⟨u, rfl⟩ : ∃ u, t = u + 2 := ⟨t - 2, by have := nI_nlt2 c64; omega⟩
          refine y_iinc (v := nI (u + 1)) hC dX1_valueFor_67 rfl (pk_m1 _) (by decide) rfl ?_
          refine y_aload_n hC dX1_valueFor_70 rfl ?_
          refine y_getR hC (yF_o hF) (yF_r1 hF) f_X1_19 rfl dX1_valueFor_71 ?_
          refine y_iload hC dX1_valueFor_74 rfl ?_
          refine y_iconst (v := 1) hC dX1_valueFor_76 (by decide) ?_
          refine y_isub hC dX1_valueFor_77 ?_
          rw [nI_pred]
          refine y_iload hC dX1_valueFor_78 rfl ?_
          refine y_aload_n hC dX1_valueFor_80 rfl ?_
          refine y_getR hC (yF_o hF) (yF_r1 hF) f_X1_19 rfl dX1_valueFor_81 ?_
          refine y_iload hC dX1_valueFor_84 rfl ?_
          refine y_iconst (v := 1) hC dX1_valueFor_86 (by decide) ?_
          refine y_isub hC dX1_valueFor_87 ?_
          rw [nI_pred]
          refine y_ialdRN (w9 := 3) hC (by decide) (yF_a1 hF) (by omega) dX1_valueFor_88 ?_
          refine y_i2l hC dX1_valueFor_89 ?_
          refine y_aload_n hC dX1_valueFor_90 rfl ?_
          refine y_getR hC (yF_o hF) (yF_r1 hF) f_X1_19 rfl dX1_valueFor_91 ?_
          refine y_iload hC dX1_valueFor_94 rfl ?_
          refine y_ialdRN (w9 := 3) hC (by decide) (yF_a1 hF) (by omega) dX1_valueFor_96 ?_
          refine y_i2l hC dX1_valueFor_97 ?_
          refine y_callS1 hC (c_X1_result X.2.1 D z) m_X1_30 rfl (by decide) (Nat.le_of_ble_eq_true rfl) (Nat.zero_le _) (Nat.zero_le _) dX1_valueFor_98 ?_
          refine y_iastRN (w9 := 3) hC (by decide) (yF_a1 hF) (by omega) dX1_valueFor_101 ?_
          refine y_iincN hC dX1_valueFor_102 rfl rfl (by decide) rfl ?_
          refine y_goto (tgt := 6) hC dX1_valueFor_105 (by decide) ?_
          try rw [up2_up]
          first | exact ih (j + 1) _ _ _ (by omega) (frun_a hi c28 (nI_nle2 c35)) | exact ih (j + 1) _ _ _ (by omega) (frun_b hi c28 (nI_le2 c35)) | exact ih (j + 1) _ _ _ (by omega) (frun_c hi c28 (nI_lt2 c64)) | exact ih (j + 1) _ _ _ (by omega) (frun_d hi c28)
      · refine y_iload hC dX1_valueFor_31 rfl ?_
        refine y_bipush (v := nI 11) hC dX1_valueFor_33 (by decide) ?_
        refine y_icmp_ge (tgt := 102) hC dX1_valueFor_35 (by decide) (fun c35 => ?_) (fun c35 => ?_)
        · refine y_iincN hC dX1_valueFor_102 rfl rfl (by decide) rfl ?_
          refine y_goto (tgt := 6) hC dX1_valueFor_105 (by decide) ?_
          try rw [up2_up]
          first | exact ih (j + 1) _ _ _ (by omega) (frun_a hi c28 (nI_nle2 c35)) | exact ih (j + 1) _ _ _ (by omega) (frun_b hi c28 (nI_le2 c35)) | exact ih (j + 1) _ _ _ (by omega) (frun_c hi c28 (nI_lt2 c64)) | exact ih (j + 1) _ _ _ (by omega) (frun_d hi c28)
        · refine y_aload_n hC dX1_valueFor_38 rfl ?_
          refine y_getR hC (yF_o hF) (yF_r1 hF) f_X1_19 rfl dX1_valueFor_39 ?_
          refine y_iload hC dX1_valueFor_42 rfl ?_
          refine y_iload hC dX1_valueFor_44 rfl ?_
          refine y_iload_n hC dX1_valueFor_46 rfl ?_
          refine y_iload_n hC dX1_valueFor_47 rfl ?_
          refine y_iload_n hC dX1_valueFor_48 rfl ?_
          refine y_iload hC dX1_valueFor_49 rfl ?_
          refine y_callS1 hC (c_X1_operand X.2.1 D z) m_X1_26 rfl (by decide) (Nat.le_of_ble_eq_true rfl) (Nat.zero_le _) (Nat.zero_le _) dX1_valueFor_51 ?_
          refine y_iastRN (w9 := 3) hC (by decide) (yF_a1 hF) (by have := nI_nle2 c35; omega) dX1_valueFor_54 ?_
          refine y_iincN hC dX1_valueFor_55 rfl rfl (by decide) rfl ?_
          refine y_goto (tgt := 102) hC dX1_valueFor_58 (by decide) ?_
          refine y_iincN hC dX1_valueFor_102 rfl rfl (by decide) rfl ?_
          refine y_goto (tgt := 6) hC dX1_valueFor_105 (by decide) ?_
          try rw [up2_up]
          first | exact ih (j + 1) _ _ _ (by omega) (frun_a hi c28 (nI_nle2 c35)) | exact ih (j + 1) _ _ _ (by omega) (frun_b hi c28 (nI_le2 c35)) | exact ih (j + 1) _ _ _ (by omega) (frun_c hi c28 (nI_lt2 c64)) | exact ih (j + 1) _ _ _ (by omega) (frun_d hi c28)
  exact lp6 len 0 0 (F 2) _ (Nat.zero_add _) rfl
