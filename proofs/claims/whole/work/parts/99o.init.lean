set_option maxRecDepth 100000 in
set_option maxHeartbeats 4000000 in
theorem c_X7_ini2 (l : Launch) (D : yD) (z : Nat) {sh : yS} {I : yI} {L : yL} {i : Nat} (ho : (sh i).1 = 7) (hz : I i = fun _ => 0) : yM l D z yX7_init cX7_init 1 none 3 150 3400 [.ref i] (i + 1) sh I L (fun v n2 sh2 I2 L2 => v = none ∧ n2 = i + 141 ∧ yCha sh2 i ∧ yInp sh2 (i + 1) ∧ yHis sh2 (i + 3) (i + 14) (i + 15) ∧ (∀ q, q < 9 → yBook sh2 (i + 15 + 14 * q) (i + 4) ∧ ∀ k, k < 14 → I2 (i + 15 + 14 * q + k) = fun _ => 0) ∧ (ySet sh2 (i + 4) (i + 5) ∧ yFor sh2 (i + 5) 1) ∧ (I2 (i + 4) 0 = 1 ∧ I2 (i + 4) 1 = 1 ∧ I2 (i + 4) 2 = 0 ∧ I2 (i + 4) 3 = 0 ∧ I2 (i + 4) 4 = 100 ∧ I2 (i + 4) 6 = 0) ∧ (I2 (i + 5) 2 = 1 ∧ I2 (i + 6) 0 = -1) ∧ (I2 i 2 = -1 ∧ I2 (i + 1) 1 = 0 ∧ I2 (i + 3) 1 = 0 ∧ I2 (i + 3) 2 = 0) ∧ (I2 (i + 2) = fun _ => 0) ∧ (∀ b, b < i → sh2 b = sh b) ∧ (∀ b, b < i → I2 b = I b) ∧ (∀ b, b < i → L2 b = L b)) (yno) := by
  refine yM_of (by decide) (Nat.le_of_ble_eq_true rfl) rfl ?_
  intro X hC hr hnm hRc hRs htb
  have hC : yC X D z cX7_init RX7 1 3 := hC
  refine y_aload_n hC dX7_init_0 rfl ?_
  refine y_objInit hC oi_X7 oi_inst oi_code (by decide) (Nat.le_of_ble_eq_true rfl) dX7_init_1 ?_
  refine y_aload_n hC dX7_init_4 rfl ?_
  refine y_new hC kX3 cl_X7_7 (by rw [hRc]; decide) (by rw [hRs]; decide) dX7_init_5 ?_
  refine y_dup hC dX7_init_8 rfl ?_
  refine y_callI hC (c_X3_init X.2.1 D z (i := i + 1) (by simp [va_up]) (by simp [va_up])) m_X7_9 rfl (by decide) (Nat.le_of_ble_eq_true rfl) ⟨(by rw [hRc]; decide), (by rw [hRs]; decide)⟩ dX7_init_9 (fun _ _ _ _ _ h => h.elim) (fun v9 n9 sh9 I9 L9 hq9 => ?_)
  obtain ⟨rfl, rfl, hi9, r9, k9, j9, l9⟩ := hq9
  have m9 : ∀ b, b < i + 1 → sh9 b = sh b := fun b hb => by rw [k9 b (by omega)]; simp [va_up, show b ≠ i + 1 by omega]
  have m9i : ∀ b, b < i + 1 → I9 b = I b := fun b hb => by rw [j9 b (by omega)]; simp [va_up, show b ≠ i + 1 by omega]
  have m9l : ∀ b, b < i + 1 → L9 b = L b := fun b hb => by rw [l9 b (by omega)]; simp [va_up, show b ≠ i + 1 by omega]
  refine y_putR hC (by first | exact ho | (simp [upr, va_up, ho]; done) | (rw [m9 i (by omega)]; exact ho) | (simp [upr, va_up]; rw [m9 i (by omega)]; exact ho) | (rw [m27 i (by omega)]; simp [upr, va_up]; rw [m9 i (by omega)]; exact ho) | (simp only [upr, va_up_self]; rw [m27 i (by omega)]; simp [upr, va_up]; rw [m9 i (by omega)]; exact ho)) f_X7_10 rfl (by constructor <;> rfl) (Or.inr ⟨hnm, fun _ _ _ h => yCls_own h kX7⟩) dX7_init_12 ?_
  refine y_aload_n hC dX7_init_15 rfl ?_
  refine y_new hC kX2 cl_X7_16 (by rw [hRc]; decide) (by rw [hRs]; decide) dX7_init_16 ?_
  refine y_dup hC dX7_init_19 rfl ?_
  refine y_new hC kX4 cl_X7_18 (by rw [hRc]; decide) (by rw [hRs]; decide) dX7_init_20 ?_
  refine y_dup hC dX7_init_23 rfl ?_
  refine y_callI hC (c_X4_init X.2.1 D z (i := i + 4) (by simp [va_up, Nat.add_assoc]) (by simp [va_up, Nat.add_assoc])) m_X7_20 rfl (by decide) (Nat.le_of_ble_eq_true rfl) ⟨(by rw [hRc]; decide), (by rw [hRs]; decide)⟩ dX7_init_24 (fun _ _ _ _ _ h => h.elim) (fun v9 n24 sh24 I24 L24 hq24 => ?_)
  obtain ⟨rfl, rfl, hs24, hf24, v24, u24, k24, j24, l24⟩ := hq24
  have m24 : ∀ b, b < i + 3 → sh24 b = upr sh9 i 0 (some (i + 1)) b := fun b hb => by rw [k24 b (by omega)]; simp [va_up, show b ≠ i + 3 by omega, show b ≠ i + 4 by omega, Nat.add_assoc]
  have m24h : (sh24 (i + 3)).1 = 2 := by rw [k24 _ (by omega)]; simp [va_up, Nat.add_assoc]
  have m24i : ∀ b, b < i + 3 → I24 b = I9 b := fun b hb => by rw [j24 b (by omega)]; simp [va_up, show b ≠ i + 3 by omega, show b ≠ i + 4 by omega, Nat.add_assoc]
  have m24z : I24 (i + 3) = fun _ => 0 := by rw [j24 _ (by omega)]; simp [va_up, Nat.add_assoc]
  have m24l : ∀ b, b < i + 3 → L24 b = L9 b := fun b hb => by rw [l24 b (by omega)]; simp [va_up, show b ≠ i + 3 by omega, show b ≠ i + 4 by omega, Nat.add_assoc]
  refine y_callI hC (c_X2_init X.2.1 D z (n := i + 14) (i := i + 3) (su := i + 4) (by omega) m24h m24z) m_X7_21 rfl (by decide) (Nat.le_of_ble_eq_true rfl) ⟨(by rw [hRc]; decide), (by rw [hRs]; decide)⟩ dX7_init_27 (fun _ _ _ _ _ h => h.elim) (fun v9 n27 sh27 I27 L27 hq27 => ?_)
  obtain ⟨rfl, rfl, hh27, hb27, k27, j27, l27⟩ := hq27
  have m27 : ∀ b, b < i + 3 → sh27 b = upr sh9 i 0 (some (i + 1)) b := fun b hb => by rw [k27 b (by omega) (by omega)]; exact m24 b hb
  refine y_putR hC (by first | exact ho | (simp [upr, va_up, ho]; done) | (rw [m9 i (by omega)]; exact ho) | (simp [upr, va_up]; rw [m9 i (by omega)]; exact ho) | (rw [m27 i (by omega)]; simp [upr, va_up]; rw [m9 i (by omega)]; exact ho) | (simp only [upr, va_up_self]; rw [m27 i (by omega)]; simp [upr, va_up]; rw [m9 i (by omega)]; exact ho)) f_X7_24 rfl (by constructor <;> rfl) (Or.inr ⟨hnm, fun _ _ _ h => yCls_own h kX7⟩) dX7_init_30 ?_
  refine y_aload_n hC dX7_init_33 rfl ?_
  refine y_iconst (v := (-1)) hC dX7_init_34 (by decide) ?_
  refine y_putI hC (by first | exact ho | (simp [upr, va_up, ho]; done) | (rw [m9 i (by omega)]; exact ho) | (simp [upr, va_up]; rw [m9 i (by omega)]; exact ho) | (rw [m27 i (by omega)]; simp [upr, va_up]; rw [m9 i (by omega)]; exact ho) | (simp only [upr, va_up_self]; rw [m27 i (by omega)]; simp [upr, va_up]; rw [m9 i (by omega)]; exact ho)) f_X7_28 rfl (Or.inl rfl) dX7_init_35 ?_
  exact y_vret hC hr (by decide) (by decide) dX7_init_38 (by
      have hne : ∀ b, b ≠ i → ∀ v, upr sh27 i 1 v b = sh27 b := fun b hb v => va_up_ne _ _ hb
      have hnI : ∀ b, b ≠ i → ∀ v, up2 I27 i 2 v b = I27 b := fun b hb v => va_up_ne _ _ hb
      have hi0 : sh27 i = upr sh9 i 0 (some (i + 1)) i := m27 i (by omega)
      refine ⟨rfl, rfl, ?_, ?_, ?_, ?_, ?_, ?_, ?_, ?_, ?_, ?_, ?_, ?_⟩
      · have h9 : (sh9 i).1 = 7 := by rw [m9 i (by omega)]; exact ho
        simp [yCha, upr, va_up, hi0, h9]
      · exact hi9.of (fun k hk => by rw [hne _ (by omega), m27 _ (by omega)]; exact va_up_ne _ _ (by omega))
      · exact hh27.of (hne _ (by omega) _) (hne _ (by omega) _)
      · exact fun q hq => ⟨(hb27 q hq).1.of (fun k hk => hne _ (by omega) _), fun k hk => by rw [hnI _ (by omega)]; exact (hb27 q hq).2 k hk⟩
      · refine ⟨hs24.of (fun k h1 h2 => ?_), hf24.of (fun k h1 => ?_)⟩
        · rw [hne _ (by omega), k27 _ (by omega) (by omega)]
        · rw [hne _ (by omega), k27 _ (by omega) (by omega)]
      · rw [hnI _ (by omega), j27 _ (by omega)]; exact v24
      · rw [hnI _ (by omega), hnI _ (by omega), j27 _ (by omega), j27 _ (by omega)]; exact u24
      · refine ⟨by simp [up2, va_up, upd], ?_, ?_, ?_⟩
        · rw [hnI _ (by omega), j27 _ (by omega), m24i _ (by omega)]; exact congrFun (r9 0 (by decide)) 1
        · rw [hnI _ (by omega), j27 _ (by omega), m24z]
        · rw [hnI _ (by omega), j27 _ (by omega), m24z]
      · rw [hnI _ (by omega), j27 _ (by omega), m24i _ (by omega)]; exact r9 1 (by decide)
      · exact fun b hb => by rw [hne _ (by omega), m27 _ (by omega)]; simp [upr, va_up, show b ≠ i by omega, m9 b (by omega)]
      · exact fun b hb => by rw [hnI _ (by omega), j27 _ (by omega), m24i _ (by omega), m9i _ (by omega)]
      · exact fun b hb => by rw [l27 _ (by omega), m24l _ (by omega), m9l _ (by omega)])
def kT : List Nat := [64, 70, 72, 74, 76, 78, 80, 81, 83, 85]
def kM : List Nat := [143, 148, 138, 152, 154, 156, 108, 114, 116, 118]
def kE : List Nat := [45, 239, 242, 183, 193, 198, 244, 219, 227]
/-- what the Statement says of the start, word by word -/
abbrev nW : List Cond := flatC (Jvm.Cond.and given_1 narrow_1)
theorem nw_ex : ∀ i, i < 10 → Cond.exactly (.string RX6 (kT.getD i 0)) "java/lang/String" ∈ nW := by decide +kernel
theorem nw_co : ∀ i, i < 10 → Cond.eq (.field (.string RX6 (kT.getD i 0)) "java/lang/String" "coder" "B") (.int 0) ∈ nW := by decide +kernel
theorem nw_ar : ∀ i, i < 10 → Cond.arrayOf (.field (.string RX6 (kT.getD i 0)) "java/lang/String" "value" "[B") .byte ∈ nW := by decide +kernel
theorem nw_le : ∀ i, i < 10 → Cond.eq (.length (.field (.string RX6 (kT.getD i 0)) "java/lang/String" "value" "[B")) (.int (Int32.ofNat (yByt.getD i []).length)) ∈ nW := by decide +kernel
theorem nw_el : ∀ i, i < 10 → ∀ j, j < (yByt.getD i []).length → Cond.eq (.elem (.field (.string RX6 (kT.getD i 0)) "java/lang/String" "value" "[B") (.int (Int32.ofNat j))) (.int ((yByt.getD i []).getD j 0)) ∈ nW := by decide +kernel
theorem nw_eq : ∀ i, i < 10 → Cond.eq (.string RX6 (kT.getD i 0)) (.string RX8 (kM.getD i 0)) ∈ nW := by decide +kernel
theorem nw_xe : ∀ i, i < 9 → Cond.exactly (.string RX7 (kE.getD i 0)) "java/lang/String" ∈ nW := by decide +kernel
theorem nw_ln : ∀ i, i < 10 → (yByt.getD i []).length < 2 ^ 31 := by decide +kernel
theorem rf_in : ∀ q ∈ yRefs, Cond.stringRef q.1 q.2.1 q.2.2.1 ∈ tables_1 := by decide +kernel
theorem yT_t {w : Cond} (h : w ∈ yT) : w ∈ lw_tbl := (List.mem_filter.mp h).1
theorem tb_t {w : Cond} (h : w ∈ tables_1) : w ∈ lw_tbl := List.mem_append_right _ h
theorem in_arr {s : State} {args : Array Value} {ty : FieldType} (h : (Cond.arrayClass ty).before args s = true) : ∃ cA, ArrOfT s cA ty ∧ s.vm.findClass ("[" ++ ty.toString) = some cA := by
  obtain ⟨c, k, comp, h1, h2, h3⟩ := Cond.arrayClass_spec h
  exact ⟨c, fun n z => ⟨fun k h => (by cases h), k, h2, comp, h3⟩, h1⟩
theorem in_cls {s : State} {args : Array Value} (hY : ∀ w ∈ yT, w.before args s = true) {ci : Nat} {C : String} {T : u_T} {ty : Nat → FieldType} (h : yCls ci C T ty) : ∃ (cC : ClassId) (iS : Nat → Nat), u_Kn s C T (yN ci) cC iS := u_known hY h.2.2.1 (hY _ h.2.2.2.2.2.2.1)
abbrev aB (s : State) : Nat → Prop := fun q => s.heap.size ≤ q
theorem in_str {s : State} {args : Array Value} (hW : ∀ w ∈ nW, w.before args s = true) : ∃ ad : Nat → Nat × Nat, (∀ i, i < 10 → (Term.string RX6 (kT.getD i 0)).eval args s none [] s = some (.ref (ad i).1) ∧ va_O "java/lang/String" (ad i).1 (aB s) s s.heap ∧ va_OF "java/lang/String" "coder" "B" (.int 0) (ad i).1 (aB s) s s.heap ∧ va_OF "java/lang/String" "value" "[B" (.ref (ad i).2) (ad i).1 (aB s) s s.heap ∧ va_T .byte (ad i).2 (yByt.getD i []).length (fun j => .int ((yByt.getD i []).getD j 0)) (aB s) s s.heap) ∧ ∀ i, i < 9 → (Term.string RX7 (kE.getD i 0)).eval args s none [] s = some (.ref (ad (10 + i)).1) := by
  have hA : ∀ a : Nat, a < s.heap.size → ¬ aB s a := fun a ha => Nat.not_le.mpr ha
  have h0 : ∀ i : Nat, ∃ q : Nat × Nat, (i < 10 → (Term.string RX6 (kT.getD i 0)).eval args s none [] s = some (.ref q.1) ∧ va_O "java/lang/String" q.1 (aB s) s s.heap ∧ va_OF "java/lang/String" "coder" "B" (.int 0) q.1 (aB s) s s.heap ∧ va_OF "java/lang/String" "value" "[B" (.ref q.2) q.1 (aB s) s s.heap ∧ va_T .byte q.2 (yByt.getD i []).length (fun j => .int ((yByt.getD i []).getD j 0)) (aB s) s s.heap) ∧ (10 ≤ i → i - 10 < 9 → (Term.string RX7 (kE.getD (i - 10) 0)).eval args s none [] s = some (.ref q.1)) := by
    intro i
    by_cases hi : i < 10
    · obtain ⟨a, c, cA, kA, q1, q2, q3, q4, q5, q6, -⟩ := Cond.exactly_spec (args := args) (first := s) (o := none) (s := s) (idx := []) (t := .string RX6 (kT.getD i 0)) (cls := "java/lang/String") (hW _ (nw_ex i hi))
      obtain ⟨t, ht, hT⟩ := va_Tof (f := fun j => .int ((yByt.getD i []).getD j 0)) (A := aB s) (nw_ln i hi) (hW _ (nw_ar i hi)) (va_eqt (hW _ (nw_le i hi))) (fun j hj => va_eqt (hW _ (nw_el i hi j hj))) hA
      exact ⟨(a, t), fun _ => ⟨q1, ⟨cA, q3, q5, by rw [q6]; exact q2, hA a (Array.getElem?_eq_some_iff.mp q3).1⟩, vk_OFof q1 (va_eqt (hW _ (nw_co i hi))) hA, vk_OFof q1 ht hA, hT⟩, fun h => absurd h (by omega)⟩
    · by_cases hi2 : i - 10 < 9
      · obtain ⟨a, c, cA, kA, q1, -⟩ := Cond.exactly_spec (args := args) (first := s) (o := none) (s := s) (idx := []) (t := .string RX7 (kE.getD (i - 10) 0)) (cls := "java/lang/String") (hW _ (nw_xe (i - 10) hi2))
        exact ⟨(a, 0), fun h => absurd h hi, fun _ _ => q1⟩
      · exact ⟨(0, 0), fun h => absurd h hi, fun _ h => absurd h hi2⟩
  obtain ⟨ad, had⟩ := Classical.axiomOfChoice h0
  refine ⟨ad, fun i hi => (had i).1 hi, fun i hi => ?_⟩
  have := (had (10 + i)).2 (by omega) (by omega)
  rw [show 10 + i - 10 = i by omega] at this
  exact this
set_option maxHeartbeats 4000000 in
/-- the classes, the constants, the statics: all that every method stands on -/
theorem in_yG {s : State} {args : Array Value} (hts : ∀ w ∈ lw_tbl, w.before args s = true) (hgv : (Jvm.Cond.and given_1 narrow_1).before args s = true) : ∃ D : yD, yG D s.heap.size s ∧ yAOA s := by
  have hW : ∀ w ∈ nW, w.before args s = true := fun w hw => flat_of_before _ hgv w hw
  have hY : ∀ w ∈ yT, w.before args s = true := fun w hw => hts w (yT_t hw)
  have hA : ∀ a : Nat, a < s.heap.size → ¬ aB s a := fun a ha => Nat.not_le.mpr ha
  obtain ⟨c0, i0, n0⟩ := in_cls hY kX0
  obtain ⟨c1, i1, n1⟩ := in_cls hY kX1
  obtain ⟨c2, i2, n2⟩ := in_cls hY kX2
  obtain ⟨c3, i3, n3⟩ := in_cls hY kX3
  obtain ⟨c4, i4, n4⟩ := in_cls hY kX4
  obtain ⟨c5, i5, n5⟩ := in_cls hY kX5
  obtain ⟨c6, i6, n6⟩ := in_cls hY kX6
  obtain ⟨c7, i7, n7⟩ := in_cls hY kX7
  obtain ⟨c8, i8, n8⟩ := in_cls hY kX8
  obtain ⟨dC, dI, hKc⟩ : ∃ (dC : Nat → ClassId) (dI : Nat → Nat → Nat), ∀ (k : Nat) (q : vw_C), vwCl[k]? = some q → u_Kn s q.1 q.2.1 q.2.2 (dC k) (dI k) := by
    refine ⟨fun k => [c0, c1, c2, c3, c4, c5, c6, c7, c8].getD k c0, fun k => [i0, i1, i2, i3, i4, i5, i6, i7, i8].getD k i0, ?_⟩
    intro k q hq
    match k, hq with
    | 0, hq => cases hq; exact n0
    | 1, hq => cases hq; exact n1
    | 2, hq => cases hq; exact n2
    | 3, hq => cases hq; exact n3
    | 4, hq => cases hq; exact n4
    | 5, hq => cases hq; exact n5
    | 6, hq => cases hq; exact n6
    | 7, hq => cases hq; exact n7
    | 8, hq => cases hq; exact n8
    | k + 9, hq => simp [vwCl] at hq
  obtain ⟨aBy, hb1, hb2⟩ := in_arr (hY _ ac_byte)
  obtain ⟨aIn, hi1, hi2⟩ := in_arr (hY _ ac_int)
  obtain ⟨aLo, hl1, hl2⟩ := in_arr (hY _ ac_long)
  have hbo : (Cond.arrayOver (.object "ChargebackProcessor$Book")).before args s = true := hts _ (tb_t (List.mem_of_getElem? (i := 142) (by decide +kernel)))
  have hii : (Cond.arrayOver (.array .int)).before args s = true := hts _ (tb_t (List.mem_of_getElem? (i := 995) (by decide +kernel)))
  obtain ⟨bp, bc, bk, b1, b2, b3, b4, b5⟩ := Cond.arrayOver_spec hbo
  obtain ⟨ip, ic, ik, q1, q2, q3, q4⟩ := Cond.arrayOver_specA hii
  obtain ⟨ad, hs1, hs2⟩ := in_str hW
  refine ⟨((dC, dI), (fun t => if t = 9 then aBy else if t = 10 then aIn else if t = 11 then aLo else if t = 12 then bc else ic), (fun i => (ad i).1), fun i => (ad i).2), ⟨⟨hKc, fun k q hq => ?_⟩, ?_, ?_, Nat.le_refl _, ⟨fun i hi => (hs1 i hi).2, fun q hq => ?_, ?_, ?_⟩, ⟨fun w hw => ?_, ⟨?_, ?_, ?_⟩, ?_, ?_, ?_⟩, hbo⟩, hii⟩
  · match k, hq with
    | 0, hq => cases hq; exact ⟨hb1, hb2⟩
    | 1, hq => cases hq; exact ⟨hi1, hi2⟩
    | 2, hq => cases hq; exact ⟨hl1, hl2⟩
    | 3, hq => cases hq; exact ⟨fun n z => ⟨fun k h => (by cases h), bk, b3, bp, b4⟩, bk, bp, b3, b4, b1, b5⟩
    | 4, hq => cases hq; exact ⟨fun n z => ⟨fun k h => (by cases h), ik, q2, ip, q3⟩, q4⟩
    | k + 5, hq => simp [yTys] at hq
  · exact vx_Zqof (hts _ (tb_t (List.mem_of_getElem? (i := 354) (by decide +kernel)))) (hts _ (tb_t (List.mem_of_getElem? (i := 9) (by decide +kernel)))) (hW _ (by decide +kernel)) hA
  · exact vx_Zqof (hts _ (tb_t (List.mem_of_getElem? (i := 356) (by decide +kernel)))) (hts _ (tb_t (List.mem_of_getElem? (i := 9) (by decide +kernel)))) (hW _ (by decide +kernel)) hA
  · have h1 := hts _ (tb_t (rf_in q hq))
    have h2 : ∀ i, i < 10 → (Term.string RX8 (kM.getD i 0)).eval args s none [] s = some (.ref (ad i).1) := fun i hi => va_eqR (hW _ (nw_eq i hi)) (hs1 i hi).1
    simp only [yRefs, List.mem_cons, List.not_mem_nil, or_false] at hq
    rcases hq with rfl | rfl | rfl | rfl | rfl | rfl | rfl | rfl | rfl | rfl | rfl | rfl | rfl | rfl | rfl | rfl | rfl | rfl | rfl | rfl | rfl | rfl | rfl | rfl | rfl | rfl | rfl | rfl | rfl
    · exact vk_R.of h1 ((hs1 0 (by decide)).1)
    · exact vk_R.of h1 ((hs1 1 (by decide)).1)
    · exact vk_R.of h1 ((hs1 2 (by decide)).1)
    · exact vk_R.of h1 ((hs1 3 (by decide)).1)
    · exact vk_R.of h1 ((hs1 4 (by decide)).1)
    · exact vk_R.of h1 ((hs1 5 (by decide)).1)
    · exact vk_R.of h1 ((hs1 6 (by decide)).1)
    · exact vk_R.of h1 ((hs1 7 (by decide)).1)
    · exact vk_R.of h1 ((hs1 8 (by decide)).1)
    · exact vk_R.of h1 ((hs1 9 (by decide)).1)
    · exact vk_R.of h1 (h2 0 (by decide))
    · exact vk_R.of h1 (h2 1 (by decide))
    · exact vk_R.of h1 (h2 2 (by decide))
    · exact vk_R.of h1 (h2 3 (by decide))
    · exact vk_R.of h1 (h2 4 (by decide))
    · exact vk_R.of h1 (h2 5 (by decide))
    · exact vk_R.of h1 (h2 6 (by decide))
    · exact vk_R.of h1 (h2 7 (by decide))
    · exact vk_R.of h1 (h2 8 (by decide))
    · exact vk_R.of h1 (h2 9 (by decide))
    · exact vk_R.of h1 (hs2 0 (by decide))
    · exact vk_R.of h1 (hs2 1 (by decide))
    · exact vk_R.of h1 (hs2 2 (by decide))
    · exact vk_R.of h1 (hs2 3 (by decide))
    · exact vk_R.of h1 (hs2 4 (by decide))
    · exact vk_R.of h1 (hs2 5 (by decide))
    · exact vk_R.of h1 (hs2 6 (by decide))
    · exact vk_R.of h1 (hs2 7 (by decide))
    · exact vk_R.of h1 (hs2 8 (by decide))
  · exact va_Zof (hts _ (tb_t (List.mem_of_getElem? (i := 515) (by decide +kernel)))) (hts _ (tb_t (List.mem_of_getElem? (i := 15) (by decide +kernel)))) (va_eqi (hW _ (by decide +kernel))) hA
  · exact va_Zqof (hts _ (tb_t (List.mem_of_getElem? (i := 531) (by decide +kernel)))) (hts _ (tb_t (List.mem_of_getElem? (i := 17) (by decide +kernel)))) (hW _ (by decide +kernel)) hA
  · simp only [yDcl, List.map_cons, List.map_nil, List.mem_cons, List.not_mem_nil, or_false] at hw
    rcases hw with rfl | rfl | rfl
    · exact va_tabs rfl rfl (hts _ (tb_t (List.mem_of_getElem? (i := 331) (by decide +kernel))))
    · exact va_tabs rfl rfl (hts _ (tb_t (List.mem_of_getElem? (i := 333) (by decide +kernel))))
    · exact va_tabs rfl rfl (hts _ (tb_t (List.mem_of_getElem? (i := 335) (by decide +kernel))))
  · exact va_tabs rfl rfl (hts _ (tb_t (List.mem_of_getElem? (i := 329) (by decide +kernel))))
  · exact va_tabs rfl rfl (hts _ (tb_t (List.mem_of_getElem? (i := 683) (by decide +kernel))))
  · exact va_tabs rfl rfl (hts _ (tb_t (List.mem_of_getElem? (i := 885) (by decide +kernel))))
  · exact va_Nc.of (hW _ (by decide +kernel))
  · exact va_Nc.of (hW _ (by decide +kernel))
  · exact va_Nc.of (hW _ (by decide +kernel))
