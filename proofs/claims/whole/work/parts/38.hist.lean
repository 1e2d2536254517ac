theorem yBook.up0 {sh : yS} {i su s2 : Nat} (h : yBook sh i su) : yBook (upr sh i 0 (some s2)) i s2 := by
  have e : ∀ k, upr sh i 0 (some s2) (i + (k + 1)) = sh (i + (k + 1)) := fun k => va_up_ne _ _ (by omega)
  have e0 : (upr sh i 0 (some s2) i).1 = (sh i).1 := by simp [upr, va_up]
  have e1 : (upr sh i 0 (some s2) i).2.2 0 = some s2 := by simp [upr, va_up]
  have e2 : ∀ k, (upr sh i 0 (some s2) i).2.2 (k + 1) = (sh i).2.2 (k + 1) := fun k => by simp [upr, va_up]
  unfold yBook yArr at h ⊢
  rw [e0, e1, e2 1, e2 2, e2 5, e2 6, e2 7, e2 8, e2 10, e2 11, e2 12, e2 13, e2 14, e2 15, e2 16, e 0, e 1, e 2, e 3, e 4, e 5, e 6, e 7, e 8, e 9, e 10, e 11, e 12]
  exact ⟨h.1, rfl, h.2.2⟩
theorem yBook.oth {sh : yS} {o so i k : Nat} {v : Option Nat} (h : yBook sh o so) (hd : o + 14 ≤ i ∨ i + 14 ≤ o) : yBook (upr sh i k v) o so := h.of (fun q hq => va_up_ne _ _ (by omega))
/-- the book that is a copy of C; what lies beyond the lists stays -/
def cpB (C B : yI) : yI := va_up (va_up (va_up (va_up (va_up (va_up (va_up (va_up (va_up (va_up (va_up (va_up (va_up (up2 (up2 (up2 (up2 B 0 1 (C 0 1)) 0 4 (C 0 4)) 0 5 (C 0 5)) 0 10 (C 0 10)) 1 (va_cpy (C 1) (B 1) 0 0 4)) 2 (va_cpy (C 2) (B 2) 0 0 4)) 3 (va_cpy (C 3) (B 3) 0 0 24)) 4 (va_cpy (C 4) (B 4) 0 0 24)) 5 (va_cpy (C 5) (B 5) 0 0 24)) 6 (va_cpy (C 6) (B 6) 0 0 24)) 7 (va_cpy (C 7) (B 7) 0 0 20)) 8 (va_cpy (C 8) (B 8) 0 0 20)) 9 (va_cpy (C 9) (B 9) 0 0 20)) 10 (va_cpy (C 10) (B 10) 0 0 20)) 11 (va_cpy (C 11) (B 11) 0 0 20)) 12 (va_cpy (C 12) (B 12) 0 0 20)) 13 (va_cpy (C 13) (B 13) 0 0 20)
set_option maxRecDepth 100000 in
set_option maxHeartbeats 4000000 in
theorem c_X0_copyFrom (l : Launch) (D : yD) (z : Nat) {n : Nat} {sh : yS} {I : yI} {L : yL} {i su : Nat} {B : yI} (hB : yBook sh i su) {o so : Nat} (hO : yBook sh o so) (hdis : o + 14 ≤ i ∨ i + 14 ≤ o) : yM l D z yX0_copyFrom cX0_copyFrom 2 none 2 0 0 [.ref i, .ref o] n sh (sR 14 I i B) L (yF none n (upr sh i 0 (some so)) (sR 14 I i (cpB (gR I o) B)) L) (yno) := by
  refine yM_of (by decide) (Nat.le_of_ble_eq_true rfl) rfl ?_
  intro X hC hr hnm hRc hRs htb
  have hC : yC X D z cX0_copyFrom RX0 2 2 := hC
  refine y_aload_n hC dX0_copyFrom_0 rfl ?_
  refine y_aload_n hC dX0_copyFrom_1 rfl ?_
  refine y_getR hC (yB_o hO) (yB_r0 hO) f_X0_9 rfl dX0_copyFrom_2 ?_
  refine y_putR hC (yB_o hB) f_X0_9 rfl (by constructor <;> rfl) (Or.inl rfl) dX0_copyFrom_5 ?_
  have hB2 : yBook (upr sh i 0 (some so)) i so := hB.up0
  have hO2 : yBook (upr sh i 0 (some so)) o so := hO.oth hdis
  refine y_aload_n hC dX0_copyFrom_8 rfl ?_
  refine y_aload_n hC dX0_copyFrom_9 rfl ?_
  refine y_getI hC (yB_o hO2) f_X0_55 rfl dX0_copyFrom_10 ?_
  rw [sR_out (a := o) (by omega)]
  refine y_putIR (w9 := 14) hC (by decide) (yB_o hB2) f_X0_55 rfl (Or.inl rfl) dX0_copyFrom_13 ?_
  refine y_aload_n hC dX0_copyFrom_16 rfl ?_
  refine y_aload_n hC dX0_copyFrom_17 rfl ?_
  refine y_getI hC (yB_o hO2) f_X0_65 rfl dX0_copyFrom_18 ?_
  rw [sR_out (a := o) (by omega)]
  refine y_putIR (w9 := 14) hC (by decide) (yB_o hB2) f_X0_65 rfl (Or.inl rfl) dX0_copyFrom_21 ?_
  refine y_aload_n hC dX0_copyFrom_24 rfl ?_
  refine y_aload_n hC dX0_copyFrom_25 rfl ?_
  refine y_getI hC (yB_o hO2) f_X0_68 rfl dX0_copyFrom_26 ?_
  rw [sR_out (a := o) (by omega)]
  refine y_putIR (w9 := 14) hC (by decide) (yB_o hB2) f_X0_68 rfl (Or.inl rfl) dX0_copyFrom_29 ?_
  refine y_aload_n hC dX0_copyFrom_32 rfl ?_
  refine y_aload_n hC dX0_copyFrom_33 rfl ?_
  refine y_getI hC (yB_o hO2) f_X0_71 rfl dX0_copyFrom_34 ?_
  rw [sR_out (a := o) (by omega)]
  refine y_putIR (w9 := 14) hC (by decide) (yB_o hB2) f_X0_71 rfl (Or.inl rfl) dX0_copyFrom_37 ?_
  refine y_aload_n hC dX0_copyFrom_40 rfl ?_
  refine y_getR hC (yB_o hO2) (yB_r2 hO2) f_X0_15 rfl dX0_copyFrom_41 ?_
  refine y_iconst (v := nI 0) hC dX0_copyFrom_44 (by decide) ?_
  refine y_aload_n hC dX0_copyFrom_45 rfl ?_
  refine y_getR hC (yB_o hB2) (yB_r2 hB2) f_X0_15 rfl dX0_copyFrom_46 ?_
  refine y_iconst (v := nI 0) hC dX0_copyFrom_49 (by decide) ?_
  refine y_iconst (v := nI 4) hC dX0_copyFrom_50 (by decide) ?_
  refine y_copyR hC hdis (by decide) (yB_a2 hO2) (yB_a2 hB2) (by decide) (by decide) (Nat.le_of_ble_eq_true rfl) dX0_copyFrom_51 ?_
  refine y_aload_n hC dX0_copyFrom_54 rfl ?_
  refine y_getR hC (yB_o hO2) (yB_r3 hO2) f_X0_19 rfl dX0_copyFrom_55 ?_
  refine y_iconst (v := nI 0) hC dX0_copyFrom_58 (by decide) ?_
  refine y_aload_n hC dX0_copyFrom_59 rfl ?_
  refine y_getR hC (yB_o hB2) (yB_r3 hB2) f_X0_19 rfl dX0_copyFrom_60 ?_
  refine y_iconst (v := nI 0) hC dX0_copyFrom_63 (by decide) ?_
  refine y_iconst (v := nI 4) hC dX0_copyFrom_64 (by decide) ?_
  refine y_copyR hC hdis (by decide) (yB_a3 hO2) (yB_a3 hB2) (by decide) (by decide) (Nat.le_of_ble_eq_true rfl) dX0_copyFrom_65 ?_
  refine y_aload_n hC dX0_copyFrom_68 rfl ?_
  refine y_getR hC (yB_o hO2) (yB_r6 hO2) f_X0_22 rfl dX0_copyFrom_69 ?_
  refine y_iconst (v := nI 0) hC dX0_copyFrom_72 (by decide) ?_
  refine y_aload_n hC dX0_copyFrom_73 rfl ?_
  refine y_getR hC (yB_o hB2) (yB_r6 hB2) f_X0_22 rfl dX0_copyFrom_74 ?_
  refine y_iconst (v := nI 0) hC dX0_copyFrom_77 (by decide) ?_
  refine y_bipush (v := nI 24) hC dX0_copyFrom_78 (by decide) ?_
  refine y_copyR hC hdis (by decide) (yB_a6 hO2) (yB_a6 hB2) (by decide) (by decide) (Nat.le_of_ble_eq_true rfl) dX0_copyFrom_80 ?_
  refine y_aload_n hC dX0_copyFrom_83 rfl ?_
  refine y_getR hC (yB_o hO2) (yB_r7 hO2) f_X0_25 rfl dX0_copyFrom_84 ?_
  refine y_iconst (v := nI 0) hC dX0_copyFrom_87 (by decide) ?_
  refine y_aload_n hC dX0_copyFrom_88 rfl ?_
  refine y_getR hC (yB_o hB2) (yB_r7 hB2) f_X0_25 rfl dX0_copyFrom_89 ?_
  refine y_iconst (v := nI 0) hC dX0_copyFrom_92 (by decide) ?_
  refine y_bipush (v := nI 24) hC dX0_copyFrom_93 (by decide) ?_
  refine y_copyR hC hdis (by decide) (yB_a7 hO2) (yB_a7 hB2) (by decide) (by decide) (Nat.le_of_ble_eq_true rfl) dX0_copyFrom_95 ?_
  refine y_aload_n hC dX0_copyFrom_98 rfl ?_
  refine y_getR hC (yB_o hO2) (yB_r8 hO2) f_X0_28 rfl dX0_copyFrom_99 ?_
  refine y_iconst (v := nI 0) hC dX0_copyFrom_102 (by decide) ?_
  refine y_aload_n hC dX0_copyFrom_103 rfl ?_
  refine y_getR hC (yB_o hB2) (yB_r8 hB2) f_X0_28 rfl dX0_copyFrom_104 ?_
  refine y_iconst (v := nI 0) hC dX0_copyFrom_107 (by decide) ?_
  refine y_bipush (v := nI 24) hC dX0_copyFrom_108 (by decide) ?_
  refine y_copyR hC hdis (by decide) (yB_a8 hO2) (yB_a8 hB2) (by decide) (by decide) (Nat.le_of_ble_eq_true rfl) dX0_copyFrom_110 ?_
  refine y_aload_n hC dX0_copyFrom_113 rfl ?_
  refine y_getR hC (yB_o hO2) (yB_r9 hO2) f_X0_31 rfl dX0_copyFrom_114 ?_
  refine y_iconst (v := nI 0) hC dX0_copyFrom_117 (by decide) ?_
  refine y_aload_n hC dX0_copyFrom_118 rfl ?_
  refine y_getR hC (yB_o hB2) (yB_r9 hB2) f_X0_31 rfl dX0_copyFrom_119 ?_
  refine y_iconst (v := nI 0) hC dX0_copyFrom_122 (by decide) ?_
  refine y_bipush (v := nI 24) hC dX0_copyFrom_123 (by decide) ?_
  refine y_copyR hC hdis (by decide) (yB_a9 hO2) (yB_a9 hB2) (by decide) (by decide) (Nat.le_of_ble_eq_true rfl) dX0_copyFrom_125 ?_
  refine y_aload_n hC dX0_copyFrom_128 rfl ?_
  refine y_getR hC (yB_o hO2) (yB_r11 hO2) f_X0_34 rfl dX0_copyFrom_129 ?_
  refine y_iconst (v := nI 0) hC dX0_copyFrom_132 (by decide) ?_
  refine y_aload_n hC dX0_copyFrom_133 rfl ?_
  refine y_getR hC (yB_o hB2) (yB_r11 hB2) f_X0_34 rfl dX0_copyFrom_134 ?_
  refine y_iconst (v := nI 0) hC dX0_copyFrom_137 (by decide) ?_
  refine y_bipush (v := nI 20) hC dX0_copyFrom_138 (by decide) ?_
  refine y_copyR hC hdis (by decide) (yB_a11 hO2) (yB_a11 hB2) (by decide) (by decide) (Nat.le_of_ble_eq_true rfl) dX0_copyFrom_140 ?_
  refine y_aload_n hC dX0_copyFrom_143 rfl ?_
  refine y_getR hC (yB_o hO2) (yB_r12 hO2) f_X0_37 rfl dX0_copyFrom_144 ?_
  refine y_iconst (v := nI 0) hC dX0_copyFrom_147 (by decide) ?_
  refine y_aload_n hC dX0_copyFrom_148 rfl ?_
  refine y_getR hC (yB_o hB2) (yB_r12 hB2) f_X0_37 rfl dX0_copyFrom_149 ?_
  refine y_iconst (v := nI 0) hC dX0_copyFrom_152 (by decide) ?_
  refine y_bipush (v := nI 20) hC dX0_copyFrom_153 (by decide) ?_
  refine y_copyR hC hdis (by decide) (yB_a12 hO2) (yB_a12 hB2) (by decide) (by decide) (Nat.le_of_ble_eq_true rfl) dX0_copyFrom_155 ?_
  refine y_aload_n hC dX0_copyFrom_158 rfl ?_
  refine y_getR hC (yB_o hO2) (yB_r13 hO2) f_X0_40 rfl dX0_copyFrom_159 ?_
  refine y_iconst (v := nI 0) hC dX0_copyFrom_162 (by decide) ?_
  refine y_aload_n hC dX0_copyFrom_163 rfl ?_
  refine y_getR hC (yB_o hB2) (yB_r13 hB2) f_X0_40 rfl dX0_copyFrom_164 ?_
  refine y_iconst (v := nI 0) hC dX0_copyFrom_167 (by decide) ?_
  refine y_bipush (v := nI 20) hC dX0_copyFrom_168 (by decide) ?_
  refine y_copyR hC hdis (by decide) (yB_a13 hO2) (yB_a13 hB2) (by decide) (by decide) (Nat.le_of_ble_eq_true rfl) dX0_copyFrom_170 ?_
  refine y_aload_n hC dX0_copyFrom_173 rfl ?_
  refine y_getR hC (yB_o hO2) (yB_r14 hO2) f_X0_43 rfl dX0_copyFrom_174 ?_
  refine y_iconst (v := nI 0) hC dX0_copyFrom_177 (by decide) ?_
  refine y_aload_n hC dX0_copyFrom_178 rfl ?_
  refine y_getR hC (yB_o hB2) (yB_r14 hB2) f_X0_43 rfl dX0_copyFrom_179 ?_
  refine y_iconst (v := nI 0) hC dX0_copyFrom_182 (by decide) ?_
  refine y_bipush (v := nI 20) hC dX0_copyFrom_183 (by decide) ?_
  refine y_copyR hC hdis (by decide) (yB_a14 hO2) (yB_a14 hB2) (by decide) (by decide) (Nat.le_of_ble_eq_true rfl) dX0_copyFrom_185 ?_
  refine y_aload_n hC dX0_copyFrom_188 rfl ?_
  refine y_getR hC (yB_o hO2) (yB_r15 hO2) f_X0_46 rfl dX0_copyFrom_189 ?_
  refine y_iconst (v := nI 0) hC dX0_copyFrom_192 (by decide) ?_
  refine y_aload_n hC dX0_copyFrom_193 rfl ?_
  refine y_getR hC (yB_o hB2) (yB_r15 hB2) f_X0_46 rfl dX0_copyFrom_194 ?_
  refine y_iconst (v := nI 0) hC dX0_copyFrom_197 (by decide) ?_
  refine y_bipush (v := nI 20) hC dX0_copyFrom_198 (by decide) ?_
  refine y_copyR hC hdis (by decide) (yB_a15 hO2) (yB_a15 hB2) (by decide) (by decide) (Nat.le_of_ble_eq_true rfl) dX0_copyFrom_200 ?_
  refine y_aload_n hC dX0_copyFrom_203 rfl ?_
  refine y_getR hC (yB_o hO2) (yB_r16 hO2) f_X0_49 rfl dX0_copyFrom_204 ?_
  refine y_iconst (v := nI 0) hC dX0_copyFrom_207 (by decide) ?_
  refine y_aload_n hC dX0_copyFrom_208 rfl ?_
  refine y_getR hC (yB_o hB2) (yB_r16 hB2) f_X0_49 rfl dX0_copyFrom_209 ?_
  refine y_iconst (v := nI 0) hC dX0_copyFrom_212 (by decide) ?_
  refine y_bipush (v := nI 20) hC dX0_copyFrom_213 (by decide) ?_
  refine y_copyR hC hdis (by decide) (yB_a16 hO2) (yB_a16 hB2) (by decide) (by decide) (Nat.le_of_ble_eq_true rfl) dX0_copyFrom_215 ?_
  refine y_aload_n hC dX0_copyFrom_218 rfl ?_
  refine y_getR hC (yB_o hO2) (yB_r17 hO2) f_X0_52 rfl dX0_copyFrom_219 ?_
  refine y_iconst (v := nI 0) hC dX0_copyFrom_222 (by decide) ?_
  refine y_aload_n hC dX0_copyFrom_223 rfl ?_
  refine y_getR hC (yB_o hB2) (yB_r17 hB2) f_X0_52 rfl dX0_copyFrom_224 ?_
  refine y_iconst (v := nI 0) hC dX0_copyFrom_227 (by decide) ?_
  refine y_bipush (v := nI 20) hC dX0_copyFrom_228 (by decide) ?_
  refine y_copyR hC hdis (by decide) (yB_a17 hO2) (yB_a17 hB2) (by decide) (by decide) (Nat.le_of_ble_eq_true rfl) dX0_copyFrom_230 ?_
  exact y_vret hC hr (Nat.zero_le _) (Nat.zero_le _) dX0_copyFrom_233 (yF.mk rfl)
def newB (B : yI) : yI := up2 (up2 (up2 (va_up (va_up (up2 B 0 1 0) 1 (fillR (B 1) 0 4)) 2 (fillR (B 2) 0 4)) 0 4 0) 0 5 0) 0 10 0
set_option maxRecDepth 100000 in
set_option maxHeartbeats 4000000 in
theorem c_X0_startAnew (l : Launch) (D : yD) (z : Nat) {n : Nat} {sh : yS} {I : yI} {L : yL} {i su : Nat} {B : yI} (hB : yBook sh i su) {s2 : Nat} : yM l D z yX0_startAnew cX0_startAnew 2 none 1 0 0 [.ref i, .ref s2] n sh (sR 14 I i B) L (yF none n (upr sh i 0 (some s2)) (sR 14 I i (newB B)) L) (yno) := by
  refine yM_of (by decide) (Nat.le_of_ble_eq_true rfl) rfl ?_
  intro X hC hr hnm hRc hRs htb
  have hC : yC X D z cX0_startAnew RX0 2 1 := hC
  refine y_aload_n hC dX0_startAnew_0 rfl ?_
  refine y_aload_n hC dX0_startAnew_1 rfl ?_
  refine y_putR hC (yB_o hB) f_X0_9 rfl (by constructor <;> rfl) (Or.inl rfl) dX0_startAnew_2 ?_
  have hB2 : yBook (upr sh i 0 (some s2)) i s2 := hB.up0
  refine y_aload_n hC dX0_startAnew_5 rfl ?_
  refine y_iconst (v := 0) hC dX0_startAnew_6 (by decide) ?_
  refine y_putIR (w9 := 14) hC (by decide) (yB_o hB2) f_X0_55 rfl (Or.inl rfl) dX0_startAnew_7 ?_
  refine y_aload_n hC dX0_startAnew_10 rfl ?_
  refine y_getR hC (yB_o hB2) (yB_r2 hB2) f_X0_15 rfl dX0_startAnew_11 ?_
  refine y_iconst (v := 0) hC dX0_startAnew_14 (by decide) ?_
  refine y_callS0 hC (c_J7_fill_53178 X.2.1 D z (r := 1) (len := 4) (by decide) (yB_a2 hB2) (by decide)) m_X0_59 rfl (by decide) (Nat.le_of_ble_eq_true rfl) (Nat.zero_le _) (Nat.zero_le _) dX0_startAnew_15 ?_
  refine y_aload_n hC dX0_startAnew_18 rfl ?_
  refine y_getR hC (yB_o hB2) (yB_r3 hB2) f_X0_19 rfl dX0_startAnew_19 ?_
  refine y_iconst (v := 0) hC dX0_startAnew_22 (by decide) ?_
  refine y_callS0 hC (c_J7_fill_53178 X.2.1 D z (r := 2) (len := 4) (by decide) (yB_a3 hB2) (by decide)) m_X0_59 rfl (by decide) (Nat.le_of_ble_eq_true rfl) (Nat.zero_le _) (Nat.zero_le _) dX0_startAnew_23 ?_
  refine y_aload_n hC dX0_startAnew_26 rfl ?_
  refine y_iconst (v := 0) hC dX0_startAnew_27 (by decide) ?_
  refine y_putIR (w9 := 14) hC (by decide) (yB_o hB2) f_X0_65 rfl (Or.inl rfl) dX0_startAnew_28 ?_
  refine y_aload_n hC dX0_startAnew_31 rfl ?_
  refine y_iconst (v := 0) hC dX0_startAnew_32 (by decide) ?_
  refine y_putIR (w9 := 14) hC (by decide) (yB_o hB2) f_X0_68 rfl (Or.inl rfl) dX0_startAnew_33 ?_
  refine y_aload_n hC dX0_startAnew_36 rfl ?_
  refine y_iconst (v := 0) hC dX0_startAnew_37 (by decide) ?_
  refine y_putIR (w9 := 14) hC (by decide) (yB_o hB2) f_X0_71 rfl (Or.inl rfl) dX0_startAnew_38 ?_
  exact y_vret hC hr (Nat.zero_le _) (Nat.zero_le _) dX0_startAnew_41 (yF.mk rfl)
set_option maxRecDepth 100000 in
set_option maxHeartbeats 4000000 in
theorem c_X2_present (l : Launch) (D : yD) (z : Nat) {n : Nat} {sh : yS} {I : yI} {L : yL} {h r b : Nat} (hH : yHis sh h r b) {at0 : Nat} (ha : I h 1 = nI at0) (hlt : at0 < 9) : yM l D z yX2_present cX2_present 1 (some (.object "ChargebackProcessor$Book")) 0 0 0 [.ref h] n sh I L (yF (some (.ref (b + 14 * at0))) n sh I L) (yno) := by
  refine yM_of (by decide) (Nat.le_of_ble_eq_true rfl) rfl ?_
  intro X hC hr hnm hRc hRs htb
  have hC : yC X D z cX2_present RX2 1 0 := hC
  refine y_aload_n hC dX2_present_0 rfl ?_
  refine y_getR hC (yH_o hH) (yH_r0 hH) f_X2_13 rfl dX2_present_1 ?_
  refine y_aload_n hC dX2_present_4 rfl ?_
  refine y_getI hC (yH_o hH) f_X2_20 rfl dX2_present_5 ?_
  rw [ha]
  refine y_aald12 (b := b + 14 * at0) hC (yH_a0 hH) (vp_in_nI hlt (by decide)) (by rw [nI_clamp (by omega)]; exact yH_e0 hH _ hlt) dX2_present_8 ?_
  exact y_aret hC hr (Or.inl ⟨_, rfl⟩) (Nat.zero_le _) (Nat.zero_le _) dX2_present_9 (yF.mk rfl)
theorem min8 {u : Nat} (h : u < 100) : (if nI 8 < nI (u + 1) then nI 8 else nI (u + 1)) = nI (min (u + 1) 8) := by
  by_cases e : 8 < u + 1
  · rw [if_pos (nI_lt e (by omega)), Nat.min_eq_right (by omega)]
  · rw [if_neg (nI_nlt (by omega) (by omega)), Nat.min_eq_left (by omega)]
/-- the ints' heap behind beginChange -/
def bcI (I : yI) (h b at0 u : Nat) : yI := up2 (sR 14 (up2 I h 1 (nI ((at0 + 1) % 9))) (b + 14 * ((at0 + 1) % 9)) (cpB (gR I (b + 14 * at0)) (gR I (b + 14 * ((at0 + 1) % 9))))) h 2 (nI (min (u + 1) 8))
set_option maxRecDepth 100000 in
set_option maxHeartbeats 4000000 in
theorem c_X2_beginChange (l : Launch) (D : yD) (z : Nat) {n : Nat} {sh : yS} {I : yI} {L : yL} {h r b : Nat} (hH : yHis sh h r b) {at0 : Nat} (ha : I h 1 = nI at0) (hlt : at0 < 9) {u so st9 : Nat} (hu : I h 2 = nI u) (hu8 : u ≤ 8) (hhb : h < b) (hrb : r < b) (hO : yBook sh (b + 14 * at0) so) (hT : yBook sh (b + 14 * ((at0 + 1) % 9)) st9) : yM l D z yX2_beginChange cX2_beginChange 2 (some (.object "ChargebackProcessor$Book")) 3 0 0 [.ref h] n sh I L (yF (some (.ref (b + 14 * ((at0 + 1) % 9)))) n (upr sh (b + 14 * ((at0 + 1) % 9)) 0 (some so)) (bcI I h b at0 u) L) (yno) := by
  refine yM_of (by decide) (Nat.le_of_ble_eq_true rfl) rfl ?_
  intro X hC hr hnm hRc hRs htb
  have hC : yC X D z cX2_beginChange RX2 2 3 := hC
  have hm : (at0 + 1) % 9 < 9 := Nat.mod_lt _ (by decide)
  have hne : (at0 + 1) % 9 ≠ at0 := by omega
  have hds : b + 14 * at0 + 14 ≤ b + 14 * ((at0 + 1) % 9) ∨ b + 14 * ((at0 + 1) % 9) + 14 ≤ b + 14 * at0 := by omega
  have e1 : gR (up2 I h 1 (nI ((at0 + 1) % 9))) (b + 14 * at0) = gR I (b + 14 * at0) := by funext q; exact va_up_ne _ _ (by omega)
  have e2 : gR (up2 I h 1 (nI ((at0 + 1) % 9))) (b + 14 * ((at0 + 1) % 9)) = gR I (b + 14 * ((at0 + 1) % 9)) := by funext q; exact va_up_ne _ _ (by omega)
  have e3 : ∀ B, sR 14 (up2 I h 1 (nI ((at0 + 1) % 9))) (b + 14 * ((at0 + 1) % 9)) B h 2 = nI u := fun B => by rw [sR_out (by omega)]; simp [up2, va_up, upd, hu]
  have e5 : bcI I h b at0 u h 1 = nI ((at0 + 1) % 9) := by simp only [bcI, up2, va_up_self]; rw [sR_out (by omega)]; simp [upd, va_up]
  refine y_aload_n hC dX2_beginChange_0 rfl ?_
  refine y_getR hC (yH_o hH) (yH_r0 hH) f_X2_13 rfl dX2_beginChange_1 ?_
  refine y_aload_n hC dX2_beginChange_4 rfl ?_
  refine y_getI hC (yH_o hH) f_X2_20 rfl dX2_beginChange_5 ?_
  rw [ha]
  refine y_aald12 (b := b + 14 * at0) hC (yH_a0 hH) (vp_in_nI hlt (by decide)) (by rw [nI_clamp (by omega)]; exact yH_e0 hH _ hlt) dX2_beginChange_8 ?_
  refine y_astore_n hC dX2_beginChange_9 (by decide) rfl ?_
  refine y_aload_n hC dX2_beginChange_10 rfl ?_
  refine y_aload_n hC dX2_beginChange_11 rfl ?_
  refine y_getI hC (yH_o hH) f_X2_20 rfl dX2_beginChange_12 ?_
  rw [ha]
  refine y_iconst (v := nI 1) hC dX2_beginChange_15 (by decide) ?_
  refine y_iaddN hC dX2_beginChange_16 ?_
  refine y_bipush (v := nI 9) hC dX2_beginChange_17 (by decide) ?_
  refine y_irem hC dX2_beginChange_19 (by decide) ?_
  rw [pk_rem (by omega) (by decide) (by decide)]
  refine y_putI hC (yH_o hH) f_X2_20 rfl (Or.inl rfl) dX2_beginChange_20 ?_
  refine y_aload_n hC dX2_beginChange_23 rfl ?_
  refine y_getR hC (yH_o hH) (yH_r0 hH) f_X2_13 rfl dX2_beginChange_24 ?_
  refine y_aload_n hC dX2_beginChange_27 rfl ?_
  refine y_getI hC (yH_o hH) f_X2_20 rfl dX2_beginChange_28 ?_
  rw [show up2 I h 1 (nI ((at0 + 1) % 9)) h 1 = nI ((at0 + 1) % 9) by simp [up2, va_up, upd]]
  refine y_aald12 (b := b + 14 * ((at0 + 1) % 9)) hC (yH_a0 hH) (vp_in_nI hm (by decide)) (by rw [nI_clamp (by omega)]; exact yH_e0 hH _ hm) dX2_beginChange_31 ?_
  refine y_aload_n hC dX2_beginChange_32 rfl ?_
  rw [show up2 I h 1 (nI ((at0 + 1) % 9)) = sR 14 (up2 I h 1 (nI ((at0 + 1) % 9))) (b + 14 * ((at0 + 1) % 9)) (gR (up2 I h 1 (nI ((at0 + 1) % 9))) (b + 14 * ((at0 + 1) % 9))) from sR_get.symm]
  refine y_callV0 hC (c_X0_copyFrom X.2.1 D z hT hO hds) m_X2_24 rfl (yB_o hT) (by decide) (Nat.le_of_ble_eq_true rfl) (Nat.zero_le _) (Nat.zero_le _) dX2_beginChange_33 ?_
  rw [e1, e2]
  have hH : yHis (upr sh (b + 14 * ((at0 + 1) % 9)) 0 (some so)) h r b := hH.of (va_up_ne _ _ (by omega)) (va_up_ne _ _ (by omega))
  refine y_aload_n hC dX2_beginChange_36 rfl ?_
  refine y_aload_n hC dX2_beginChange_37 rfl ?_
  refine y_getI hC (yH_o hH) f_X2_28 rfl dX2_beginChange_38 ?_
  rw [e3]
  refine y_iconst (v := nI 1) hC dX2_beginChange_41 (by decide) ?_
  refine y_iaddN hC dX2_beginChange_42 ?_
  refine y_bipush (v := nI 8) hC dX2_beginChange_43 (by decide) ?_
  refine y_mmin hC m_X2_31 (by decide) (Nat.le_of_ble_eq_true rfl) (Nat.zero_le _) (Nat.zero_le _) dX2_beginChange_45 ?_
  rw [min8 (by omega)]
  refine y_putI hC (yH_o hH) f_X2_28 rfl (Or.inl rfl) dX2_beginChange_48 ?_
  show Y X D z 2 n _ (bcI I h b at0 u) L 0 0 _ _ _ _
  refine y_aload_n hC dX2_beginChange_51 rfl ?_
  refine y_getR hC (yH_o hH) (yH_r0 hH) f_X2_13 rfl dX2_beginChange_52 ?_
  refine y_aload_n hC dX2_beginChange_55 rfl ?_
  refine y_getI hC (yH_o hH) f_X2_20 rfl dX2_beginChange_56 ?_
  rw [e5]
  refine y_aald12 (b := b + 14 * ((at0 + 1) % 9)) hC (yH_a0 hH) (vp_in_nI hm (by decide)) (by rw [nI_clamp (by omega)]; exact yH_e0 hH _ hm) dX2_beginChange_59 ?_
  exact y_aret hC hr (Or.inl ⟨_, rfl⟩) (Nat.zero_le _) (Nat.zero_le _) dX2_beginChange_60 (yF.mk rfl)
set_option maxRecDepth 100000 in
set_option maxHeartbeats 4000000 in
theorem c_X2_stepBack (l : Launch) (D : yD) (z : Nat) {n : Nat} {sh : yS} {I : yI} {L : yL} {h r b : Nat} (hH : yHis sh h r b) {at0 : Nat} (ha : I h 1 = nI at0) (hlt : at0 < 9) {u : Nat} (hu : I h 2 = nI u) (hu8 : u ≤ 8) : yM l D z yX2_stepBack cX2_stepBack 1 (some .int) 0 0 0 [.ref h] n sh I L (fun v n2 sh2 I2 L2 => (u = 0 ∧ v = some (.int (-1)) ∧ n2 = n ∧ sh2 = sh ∧ I2 = I ∧ L2 = L) ∨ (u ≠ 0 ∧ v = some (.int (nI (u - 1))) ∧ n2 = n ∧ sh2 = sh ∧ I2 = up2 (up2 I h 1 (nI ((at0 + 8) % 9))) h 2 (nI (u - 1)) ∧ L2 = L)) (yno) := by
  refine yM_of (by decide) (Nat.le_of_ble_eq_true rfl) rfl ?_
  intro X hC hr hnm hRc hRs htb
  have hC : yC X D z cX2_stepBack RX2 1 0 := hC
  refine y_aload_n hC dX2_stepBack_0 rfl ?_
  refine y_getI hC (yH_o hH) f_X2_28 rfl dX2_stepBack_1 ?_
  rw [hu]
  refine y_if_ne (tgt := 9) hC dX2_stepBack_4 (by decide) (fun c4 => ?_) (fun c4 => ?_)
  · have hu1 : u ≠ 0 := fun q => c4 (by rw [q]; rfl)
    refine y_aload_n hC dX2_stepBack_9 rfl ?_
    refine y_aload_n hC dX2_stepBack_10 rfl ?_
    refine y_getI hC (yH_o hH) f_X2_20 rfl dX2_stepBack_11 ?_
    rw [ha]
    refine y_bipush (v := nI 9) hC dX2_stepBack_14 (by decide) ?_
    refine y_iaddN hC dX2_stepBack_16 ?_
    refine y_iconst (v := nI 1) hC dX2_stepBack_17 (by decide) ?_
    refine y_isub hC dX2_stepBack_18 ?_
    rw [pk_sub (by omega)]
    refine y_bipush (v := nI 9) hC dX2_stepBack_19 (by decide) ?_
    refine y_irem hC dX2_stepBack_21 (by decide) ?_
    rw [pk_rem (by omega) (by decide) (by decide)]
    refine y_putI hC (yH_o hH) f_X2_20 rfl (Or.inl rfl) dX2_stepBack_22 ?_
    refine y_aload_n hC dX2_stepBack_25 rfl ?_
    refine y_dup hC dX2_stepBack_26 rfl ?_
    refine y_getI hC (yH_o hH) f_X2_28 rfl dX2_stepBack_27 ?_
    
    rw [show up2 I h 1 (nI ((at0 + 9 - 1) % 9)) h 2 = nI u by simp [up2, va_up, upd, hu]]
    refine y_iconst (v := nI 1) hC dX2_stepBack_30 (by decide) ?_
    refine y_isub hC dX2_stepBack_31 ?_
    rw [pk_sub (by omega)]
    refine y_putI hC (yH_o hH) f_X2_28 rfl (Or.inl rfl) dX2_stepBack_32 ?_
    refine y_aload_n hC dX2_stepBack_35 rfl ?_
    refine y_getI hC (yH_o hH) f_X2_28 rfl dX2_stepBack_36 ?_
    exact y_iret hC hr rfl (Nat.zero_le _) (Nat.zero_le _) dX2_stepBack_39 (Or.inr ⟨fun q => c4 (by rw [q]; rfl), by simp [up2, va_up, upd], rfl, rfl, by rw [show at0 + 9 - 1 = at0 + 8 by omega], rfl⟩)
  · refine y_iconst (v := (-1)) hC dX2_stepBack_7 (by decide) ?_
    exact y_iret hC hr rfl (Nat.zero_le _) (Nat.zero_le _) dX2_stepBack_8 (Or.inl ⟨nI_eq2 (b := 0) c4, rfl, rfl, rfl, rfl, rfl⟩)
