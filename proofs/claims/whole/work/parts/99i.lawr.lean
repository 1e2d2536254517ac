/-- the contract of a method with handlers -/
def yMH (l : Launch) (D : yD) (z : Nat) (y : MethodName) (cc : ByteArray) (nL : Nat) (ret : Option FieldType) (hh : List (Nat × Nat × Nat × Nat)) (dep mc ms : Nat) (av : List Value) (n : Nat) (sh : yS) (I : yI) (L : yL) (Qr : Option Value → Nat → yS → yI → yL → Prop) : Prop :=
  l.stackTraces = false → vx_Met l y (.codeWith y cc nL ret hh :: yT) (yRm dep mc ms) (yPc D z av n sh I L) (yQ D z Qr) (yXC D z yno) mc ms (fun q => z ≤ q)
theorem yMH_of {l : Launch} {D : yD} {z : Nat} {y : MethodName} {cc : ByteArray} {nL : Nat} {ret : Option FieldType} {hh : List (Nat × Nat × Nat × Nat)} {dep mc ms : Nat} {av : List Value} {n : Nat} {sh : yS} {I : yI} {L : yL} {Qr : Option Value → Nat → yS → yI → yL → Prop} {lv : List (Option Value)} (hy : plainName y.cls = true) (hav : (lg_sl av).length ≤ nL) (hlv : ypad nL (yent av) = lv)
    (body : ∀ X : yX, yC X D z cc y.cls nL dep → (ymeth X).sig.returnType = ret → (yR X).cells = mc → (yR X).slots = ms → (yc X).exceptionTable.toList = tableOf hh → Y X D z nL n sh I L 0 0 (yEnd X D z Qr yno mc ms) 0 lv []) : yMH l D z y cc nL ret hh dep mc ms av n sh I L Qr := by
  intro hst
  refine vx_ofWH (cc := cc) (maxL := nL) (ret := ret) (hh := hh) hy rfl ?_
  intro p e s m args below meth c s₁ B hml hv
  obtain ⟨rfl, hR, hG⟩ := hv
  have hts := atoms_spec (ws := .codeWith y cc nL ret hh :: yT) B.pre
  have htab := vx_table (x := y) B (hts _ List.mem_cons_self)
  rw [lg_entry_eq]
  refine body (p, l, e, yRm dep mc ms, s, m, av.toArray, below, meth, c) ⟨B.exec, B.bytes, hml, findClass_of_methodNamed B.named, fun w hw => hts w (List.mem_cons_of_mem _ hw), hG, Nat.le_refl _, Nat.le_refl _, B.notSynchronized, hst⟩ B.returns rfl rfl htab s.heap [] _ hR ⟨Nat.le_refl _, fun _ _ => rfl⟩ (fun o h => absurd h List.not_mem_nil) ?_
  rw [← hlv]
  exact yLV.entry hav
def yCW (own : String) (idx : Nat) (y : MethodName) (bytes : ByteArray) (maxL : Nat) (ret : Option FieldType) (hh : List (Nat × Nat × Nat × Nat)) (nA : Nat) : Prop := Cond.methodLink own idx y ∈ yT ∧ Cond.codeWith y bytes maxL ret hh ∈ yT ∧ Cond.initialized y.cls ∈ yT ∧ Cond.static y ∈ yT ∧ (y.cls ≠ "java/lang/invoke/MethodHandle" ∧ y.cls ≠ "java/lang/invoke/VarHandle" ∧ (parseMethodDescriptor y.desc).map (fun d => d.parameters.length) = some nA) ∧ maxL ≤ 45
section LawRows
variable {X : yX} {D : yD} {z nL n : Nat} {sh : yS} {I : yI} {L : yL} {k w : Nat} {Q : State → Prop} {pc : Nat} {lv : List (Option Value)} {st stk : List Value} {cc : ByteArray} {own : String} {dep : Nat}
/-- a handler takes it -/
theorem y_catch (hC : yC X D z cc own nL dep) {hh : List (Nat × Nat × Nat × Nat)} (htab : (yc X).exceptionTable.toList = tableOf hh) (pre : List ExceptionTableEntry) (x : ExceptionTableEntry) (suf : List ExceptionTableEntry) (hs : tableOf hh = pre ++ x :: suf) (hx : covers x pc = true) (h0 : x.catchType ≠ 0) {E : String} (hE : E = "java/lang/IllegalArgumentException" ∨ E = "java/lang/IndexOutOfBoundsException" ∨ E = "java/lang/IllegalStateException") (hl : Cond.classLink own x.catchType E ∈ yT)
    (hp : ∀ z ∈ pre, z.catchType ≠ 0 ∧ ∃ nm, Cond.classLink own z.catchType nm ∈ yT ∧ (yNc (ys X) → va_Nc E nm (ys X))) (kk : ∀ q : Nat, Y X D z nL n sh I L k w Q x.handlerPc lv [.ref q]) : YX X D z nL n sh I L k w Q pc lv st E := by
  intro H locs ls q ce h1 h2 h3 h4 h5 h6 h7
  obtain ⟨hx1, hb, hml, hown, hts, ⟨hK, hU, hN, hz, hS, hNc, hAO⟩, -⟩ := hC
  refine vx_catch hown pre x suf (htab.trans hs) (fun z hz => ?_) hx h0 (hts _ hl) (va_Nw.use rfl (hNc.cast hE)) h5 h6 h7 (kk q H locs ls h1 h2 h3 h4)
  obtain ⟨a, nm, b, c⟩ := hp z hz
  exact Or.inr ⟨a, nm, hts _ b, c hNc⟩
theorem y_callSH {y : MethodName} {bytes : ByteArray} {maxL : Nat} {ret : Option FieldType} {hh : List (Nat × Nat × Nat × Nat)} {d2 mc ms idx : Nat} {As : List Value} {Qr : Option Value → Nat → yS → yI → yL → Prop} (hC : yC X D z cc own nL dep) (hM : yMH X.2.1 D z y bytes maxL ret hh d2 mc ms As n sh I L Qr) (cw : yCW own idx y bytes maxL ret hh As.length) (hs : stk = ypush As st) (hdep : d2 + 1 ≤ dep) (hst : (st.map fun v => v.category).sum ≤ 8) (hroom : k + mc ≤ (yR X).cells ∧ w + ms ≤ (yR X).slots) (hd : decode cc pc = .ok (.invokestatic idx, 3))
    (kk : ∀ v n sh I L, Qr v n sh I L → Y X D z nL n sh I L (k + mc) (w + ms) Q (pc + 3) lv (v.toList ++ st)) : Y X D z nL n sh I L k w Q pc lv stk := by
  intro H locs ls h1 h2 h3 h4
  obtain ⟨c1, c2, c3, c4, c5, c6⟩ := cw
  have hts := hC.2.2.2.2.1
  have hf := hC.2.2.2.2.2.2.1
  have hl := hC.2.2.2.2.2.2.2.1
  have hG : GoodIn yT (.codeWith y bytes maxL ret hh :: yT) := yT_goodIn c2
  refine y_run (a := As.toArray) (Qx := yno) (vx_runSX (hh := hh) (own := own) (bytes := bytes) (maxL := maxL) (ret := ret) (n := As.length) (As := As) (rest := st) ⟨hC.1, hC.2.1, hC.2.2.1, hC.2.2.2.1, hC.2.2.2.2.1⟩ (hM hC.2.2.2.2.2.2.2.2.2) ⟨⟨rfl, rfl, ?_, ?_, pay_in hts hG, List.mem_cons_self⟩, hts _ c2, hts _ c3, ⟨c5.1, c5.2.1⟩, fun sig h => ?_, hts _ c1, hts _ c4⟩ ⟨yPc_blind, y_pre hC h1 h2⟩ rfl rfl h4.1 ?_ (lv_room hst) hd hroom) h2 h3 h4 kk (fun E _ _ _ _ h => h.elim)
  · show d2 + 1 ≤ _; omega
  · show 8 + (maxL + 11) + 64 * d2 ≤ _; omega
  · have h9 := c5.2.2
    rw [h] at h9
    exact (Option.some.inj h9).symm
  · rw [hs, ypush_eq]
/-- the script is read -/
theorem y_sld (hC : yC X D z cc own nL dep) {b Ls : Nat} {xs : Nat → Int32} (hX : va_X b Ls xs (ys X) (ys X).heap) (hbl : b < (ys X).heap.size) (hbz : b < z) {i : Int32} (hin : vp_in i Ls) (hd : decode cc pc = .ok (.iaload, 1)) (kk : Y X D z nL n sh I L k w Q (pc + 1) lv (.int (xs i.toNatClampNeg) :: st)) : Y X D z nL n sh I L k w Q pc lv (.int i :: .ref b :: st) := fun H locs ls h1 h2 h3 h4 => va_sld hC.1 hC.2.1 hX hbl (fun q => absurd hbz (Nat.not_lt.mpr q)) ⟨h2.1, fun q _ hq => h2.2 q (Nat.not_le.mp hq), h3⟩ hin hd (kk H locs ls h1 h2 h3 h4)
theorem y_xlen (hC : yC X D z cc own nL dep) {b Ls : Nat} {xs : Nat → Int32} (hX : va_X b Ls xs (ys X) (ys X).heap) (hbl : b < (ys X).heap.size) (hbz : b < z) (hd : decode cc pc = .ok (.arraylength, 1)) (kk : Y X D z nL n sh I L k w Q (pc + 1) lv (.int (nI Ls) :: st)) : Y X D z nL n sh I L k w Q pc lv (.ref b :: st) := fun H locs ls h1 h2 h3 h4 => va_slen hC.1 hC.2.1 hX hbl (fun q => absurd hbz (Nat.not_lt.mpr q)) ⟨h2.1, fun q _ hq => h2.2 q (Nat.not_le.mp hq), h3⟩ hd (kk H locs ls h1 h2 h3 h4)
end LawRows
/-- what a wrapper of the law leaves: 0 and the answer in the row o, or the number of the exception -/
def lwQ (ec : String → Int32) (cv : Int32 → Int64) (o : Nat) (Qr : Option Value → Nat → yS → yI → yL → Prop) (Qx : String → Nat → yS → yI → yL → Prop) : Option Value → Nat → yS → yI → yL → Prop := fun v n2 sh2 I2 L2 => (∃ r L1, v = some (.int 0) ∧ L2 = up2L L1 o 0 (cv r) ∧ Qr (some (.int r)) n2 sh2 I2 L1) ∨ ∃ E, v = some (.int (ec E)) ∧ Qx E n2 sh2 I2 L2
def ecA (E : String) : Int32 := if E = "java/lang/IndexOutOfBoundsException" then 1 else if E = "java/lang/IllegalArgumentException" then 2 else 3
def ecB (E : String) : Int32 := if E = "java/lang/IndexOutOfBoundsException" then 1 else 2
def ecC (E : String) : Int32 := if E = "java/lang/IllegalArgumentException" then 1 else 2
def cvB (r : Int32) : Int64 := if r = 0 then 0 else 1
theorem w_L_load : yCW RL 95 yL_load cL_load 4 (some .int) [(0, 9, 12, 13)] 3 := ⟨yT_in (i := 319) (by decide +kernel) (by decide +kernel), yT_in (i := 321) (by decide +kernel) (by decide +kernel), yT_in (i := 0) (by decide +kernel) (by decide +kernel), yT_in (i := 320) (by decide +kernel) (by decide +kernel), ⟨by decide, by decide, by decide +kernel⟩, by decide⟩
set_option maxRecDepth 100000 in
set_option maxHeartbeats 4000000 in
theorem w_load (l : Launch) (D : yD) (z : Nat) {n : Nat} {sh : yS} {I : yI} {L : yL} {c o d9 mc ms : Nat} {x0 : Int32} {Qr : Option Value → Nat → yS → yI → yL → Prop} {Qx : String → Nat → yS → yI → yL → Prop} (hM : ∀ l, yM l D z yX7_load cX7_load 3 (some .int) d9 mc ms [.ref c, .int x0] n sh I L Qr Qx) (hc : (sh c).1 = 7) (ho : ∀ v n2 sh2 I2 L2, Qr v n2 sh2 I2 L2 → (∃ r, v = some (.int r)) ∧ yArr sh2 o 11 1) (hx : ∀ E n2 sh2 I2 L2, Qx E n2 sh2 I2 L2 → E = "java/lang/IllegalArgumentException") : yMH l D z yL_load cL_load 4 (some .int) [(0, 9, 12, 13)] (d9 + 1) mc ms [.ref c, .int x0, .ref o] n sh I L (lwQ ecC Int32.toInt64 o Qr Qx) := by
  refine yMH_of (by decide) (Nat.le_of_ble_eq_true rfl) rfl ?_
  intro X hC hr hRc hRs htab
  have hC : yC X D z cL_load RL 4 (d9 + 1) := hC
  refine y_aload_n hC dL_load_0 rfl ?_
  refine y_iconst hC dL_load_1 rfl ?_
  refine y_aload_n hC dL_load_2 rfl ?_
  refine y_iload_n hC dL_load_3 rfl ?_
  refine y_callV hC (hM X.2.1) m_L_7 rfl hc (Nat.le_refl _) (Nat.le_of_ble_eq_true rfl) ⟨by rw [hRc]; omega, by rw [hRs]; omega⟩ dL_load_4 ?_ ?_
  · intro E n2 sh2 I2 L2 q9
    obtain rfl := hx _ _ _ _ _ q9
    refine y_catch hC htab [] ⟨0, 9, 12, 13⟩ [] rfl (by decide) (by decide) (Or.inl rfl) cl_L_13 (fun z hz => absurd hz List.not_mem_nil) (fun q => ?_)
    refine y_astore_n hC dL_load_12 (by decide) rfl ?_
    refine y_iconst hC dL_load_13 rfl ?_
    exact y_iret hC hr rfl (by omega) (by omega) dL_load_14 (Or.inr ⟨_, rfl, q9⟩)
  · intro v n2 sh2 I2 L2 q9
    obtain ⟨⟨r, rfl⟩, ha⟩ := ho _ _ _ _ _ q9
    show Y _ _ _ _ _ _ _ _ _ _ _ _ _ (.int r :: _)
    refine y_i2l hC dL_load_7 ?_
    refine y_last hC ha (show vp_in (nI 0) 1 from vp_in_nI (by decide) (by decide)) dL_load_8 ?_
    refine y_goto (tgt := 15) hC dL_load_9 (by decide) ?_
    refine y_iconst hC dL_load_15 rfl ?_
    exact y_iret hC hr rfl (by omega) (by omega) dL_load_16 (Or.inl ⟨r, L2, rfl, rfl, q9⟩)
theorem w_L_issuerAccount : yCW RL 137 yL_issuerAccount cL_issuerAccount 4 (some .int) [(0, 9, 12, 18)] 3 := ⟨yT_in (i := 670) (by decide +kernel) (by decide +kernel), yT_in (i := 672) (by decide +kernel) (by decide +kernel), yT_in (i := 0) (by decide +kernel) (by decide +kernel), yT_in (i := 671) (by decide +kernel) (by decide +kernel), ⟨by decide, by decide, by decide +kernel⟩, by decide⟩
set_option maxRecDepth 100000 in
set_option maxHeartbeats 4000000 in
theorem w_issuerAccount (l : Launch) (D : yD) (z : Nat) {n : Nat} {sh : yS} {I : yI} {L : yL} {c o d9 mc ms : Nat} {x0 : Int32} {Qr : Option Value → Nat → yS → yI → yL → Prop} {Qx : String → Nat → yS → yI → yL → Prop} (hM : ∀ l, yM l D z yX7_issuerAccount cX7_issuerAccount 3 (some .int) d9 mc ms [.ref c, .int x0] n sh I L Qr Qx) (hc : (sh c).1 = 7) (ho : ∀ v n2 sh2 I2 L2, Qr v n2 sh2 I2 L2 → (∃ r, v = some (.int r)) ∧ yArr sh2 o 11 1) (hx : ∀ E n2 sh2 I2 L2, Qx E n2 sh2 I2 L2 → E = "java/lang/IndexOutOfBoundsException") : yMH l D z yL_issuerAccount cL_issuerAccount 4 (some .int) [(0, 9, 12, 18)] (d9 + 1) mc ms [.ref c, .int x0, .ref o] n sh I L (lwQ ecA Int32.toInt64 o Qr Qx) := by
  refine yMH_of (by decide) (Nat.le_of_ble_eq_true rfl) rfl ?_
  intro X hC hr hRc hRs htab
  have hC : yC X D z cL_issuerAccount RL 4 (d9 + 1) := hC
  refine y_aload_n hC dL_issuerAccount_0 rfl ?_
  refine y_iconst hC dL_issuerAccount_1 rfl ?_
  refine y_aload_n hC dL_issuerAccount_2 rfl ?_
  refine y_iload_n hC dL_issuerAccount_3 rfl ?_
  refine y_callV hC (hM X.2.1) m_L_15 rfl hc (Nat.le_refl _) (Nat.le_of_ble_eq_true rfl) ⟨by rw [hRc]; omega, by rw [hRs]; omega⟩ dL_issuerAccount_4 ?_ ?_
  · intro E n2 sh2 I2 L2 q9
    obtain rfl := hx _ _ _ _ _ q9
    refine y_catch hC htab [] ⟨0, 9, 12, 18⟩ [] rfl (by decide) (by decide) (Or.inr (Or.inl rfl)) cl_L_18 (fun z hz => absurd hz List.not_mem_nil) (fun q => ?_)
    refine y_astore_n hC dL_issuerAccount_12 (by decide) rfl ?_
    refine y_iconst hC dL_issuerAccount_13 rfl ?_
    exact y_iret hC hr rfl (by omega) (by omega) dL_issuerAccount_14 (Or.inr ⟨_, rfl, q9⟩)
  · intro v n2 sh2 I2 L2 q9
    obtain ⟨⟨r, rfl⟩, ha⟩ := ho _ _ _ _ _ q9
    show Y _ _ _ _ _ _ _ _ _ _ _ _ _ (.int r :: _)
    refine y_i2l hC dL_issuerAccount_7 ?_
    refine y_last hC ha (show vp_in (nI 0) 1 from vp_in_nI (by decide) (by decide)) dL_issuerAccount_8 ?_
    refine y_goto (tgt := 15) hC dL_issuerAccount_9 (by decide) ?_
    refine y_iconst hC dL_issuerAccount_15 rfl ?_
    exact y_iret hC hr rfl (by omega) (by omega) dL_issuerAccount_16 (Or.inl ⟨r, L2, rfl, rfl, q9⟩)
theorem w_L_merchantAccount : yCW RL 140 yL_merchantAccount cL_merchantAccount 4 (some .int) [(0, 9, 12, 18)] 3 := ⟨yT_in (i := 697) (by decide +kernel) (by decide +kernel), yT_in (i := 699) (by decide +kernel) (by decide +kernel), yT_in (i := 0) (by decide +kernel) (by decide +kernel), yT_in (i := 698) (by decide +kernel) (by decide +kernel), ⟨by decide, by decide, by decide +kernel⟩, by decide⟩
set_option maxRecDepth 100000 in
set_option maxHeartbeats 4000000 in
theorem w_merchantAccount (l : Launch) (D : yD) (z : Nat) {n : Nat} {sh : yS} {I : yI} {L : yL} {c o d9 mc ms : Nat} {x0 : Int32} {Qr : Option Value → Nat → yS → yI → yL → Prop} {Qx : String → Nat → yS → yI → yL → Prop} (hM : ∀ l, yM l D z yX7_merchantAccount cX7_merchantAccount 3 (some .int) d9 mc ms [.ref c, .int x0] n sh I L Qr Qx) (hc : (sh c).1 = 7) (ho : ∀ v n2 sh2 I2 L2, Qr v n2 sh2 I2 L2 → (∃ r, v = some (.int r)) ∧ yArr sh2 o 11 1) (hx : ∀ E n2 sh2 I2 L2, Qx E n2 sh2 I2 L2 → E = "java/lang/IndexOutOfBoundsException") : yMH l D z yL_merchantAccount cL_merchantAccount 4 (some .int) [(0, 9, 12, 18)] (d9 + 1) mc ms [.ref c, .int x0, .ref o] n sh I L (lwQ ecA Int32.toInt64 o Qr Qx) := by
  refine yMH_of (by decide) (Nat.le_of_ble_eq_true rfl) rfl ?_
  intro X hC hr hRc hRs htab
  have hC : yC X D z cL_merchantAccount RL 4 (d9 + 1) := hC
  refine y_aload_n hC dL_merchantAccount_0 rfl ?_
  refine y_iconst hC dL_merchantAccount_1 rfl ?_
  refine y_aload_n hC dL_merchantAccount_2 rfl ?_
  refine y_iload_n hC dL_merchantAccount_3 rfl ?_
  refine y_callV hC (hM X.2.1) m_L_20 rfl hc (Nat.le_refl _) (Nat.le_of_ble_eq_true rfl) ⟨by rw [hRc]; omega, by rw [hRs]; omega⟩ dL_merchantAccount_4 ?_ ?_
  · intro E n2 sh2 I2 L2 q9
    obtain rfl := hx _ _ _ _ _ q9
    refine y_catch hC htab [] ⟨0, 9, 12, 18⟩ [] rfl (by decide) (by decide) (Or.inr (Or.inl rfl)) cl_L_18 (fun z hz => absurd hz List.not_mem_nil) (fun q => ?_)
    refine y_astore_n hC dL_merchantAccount_12 (by decide) rfl ?_
    refine y_iconst hC dL_merchantAccount_13 rfl ?_
    exact y_iret hC hr rfl (by omega) (by omega) dL_merchantAccount_14 (Or.inr ⟨_, rfl, q9⟩)
  · intro v n2 sh2 I2 L2 q9
    obtain ⟨⟨r, rfl⟩, ha⟩ := ho _ _ _ _ _ q9
    show Y _ _ _ _ _ _ _ _ _ _ _ _ _ (.int r :: _)
    refine y_i2l hC dL_merchantAccount_7 ?_
    refine y_last hC ha (show vp_in (nI 0) 1 from vp_in_nI (by decide) (by decide)) dL_merchantAccount_8 ?_
    refine y_goto (tgt := 15) hC dL_merchantAccount_9 (by decide) ?_
    refine y_iconst hC dL_merchantAccount_15 rfl ?_
    exact y_iret hC hr rfl (by omega) (by omega) dL_merchantAccount_16 (Or.inl ⟨r, L2, rfl, rfl, q9⟩)
theorem w_L_disputed : yCW RL 147 yL_disputed cL_disputed 4 (some .int) [(0, 9, 12, 18)] 3 := ⟨yT_in (i := 708) (by decide +kernel) (by decide +kernel), yT_in (i := 710) (by decide +kernel) (by decide +kernel), yT_in (i := 0) (by decide +kernel) (by decide +kernel), yT_in (i := 709) (by decide +kernel) (by decide +kernel), ⟨by decide, by decide, by decide +kernel⟩, by decide⟩
set_option maxRecDepth 100000 in
set_option maxHeartbeats 4000000 in
theorem w_disputed (l : Launch) (D : yD) (z : Nat) {n : Nat} {sh : yS} {I : yI} {L : yL} {c o d9 mc ms : Nat} {x0 : Int32} {Qr : Option Value → Nat → yS → yI → yL → Prop} {Qx : String → Nat → yS → yI → yL → Prop} (hM : ∀ l, yM l D z yX7_disputed cX7_disputed 3 (some .int) d9 mc ms [.ref c, .int x0] n sh I L Qr Qx) (hc : (sh c).1 = 7) (ho : ∀ v n2 sh2 I2 L2, Qr v n2 sh2 I2 L2 → (∃ r, v = some (.int r)) ∧ yArr sh2 o 11 1) (hx : ∀ E n2 sh2 I2 L2, Qx E n2 sh2 I2 L2 → E = "java/lang/IndexOutOfBoundsException") : yMH l D z yL_disputed cL_disputed 4 (some .int) [(0, 9, 12, 18)] (d9 + 1) mc ms [.ref c, .int x0, .ref o] n sh I L (lwQ ecA Int32.toInt64 o Qr Qx) := by
  refine yMH_of (by decide) (Nat.le_of_ble_eq_true rfl) rfl ?_
  intro X hC hr hRc hRs htab
  have hC : yC X D z cL_disputed RL 4 (d9 + 1) := hC
  refine y_aload_n hC dL_disputed_0 rfl ?_
  refine y_iconst hC dL_disputed_1 rfl ?_
  refine y_aload_n hC dL_disputed_2 rfl ?_
  refine y_iload_n hC dL_disputed_3 rfl ?_
  refine y_callV hC (hM X.2.1) m_L_23 rfl hc (Nat.le_refl _) (Nat.le_of_ble_eq_true rfl) ⟨by rw [hRc]; omega, by rw [hRs]; omega⟩ dL_disputed_4 ?_ ?_
  · intro E n2 sh2 I2 L2 q9
    obtain rfl := hx _ _ _ _ _ q9
    refine y_catch hC htab [] ⟨0, 9, 12, 18⟩ [] rfl (by decide) (by decide) (Or.inr (Or.inl rfl)) cl_L_18 (fun z hz => absurd hz List.not_mem_nil) (fun q => ?_)
    refine y_astore_n hC dL_disputed_12 (by decide) rfl ?_
    refine y_iconst hC dL_disputed_13 rfl ?_
    exact y_iret hC hr rfl (by omega) (by omega) dL_disputed_14 (Or.inr ⟨_, rfl, q9⟩)
  · intro v n2 sh2 I2 L2 q9
    obtain ⟨⟨r, rfl⟩, ha⟩ := ho _ _ _ _ _ q9
    show Y _ _ _ _ _ _ _ _ _ _ _ _ _ (.int r :: _)
    refine y_i2l hC dL_disputed_7 ?_
    refine y_last hC ha (show vp_in (nI 0) 1 from vp_in_nI (by decide) (by decide)) dL_disputed_8 ?_
    refine y_goto (tgt := 15) hC dL_disputed_9 (by decide) ?_
    refine y_iconst hC dL_disputed_15 rfl ?_
    exact y_iret hC hr rfl (by omega) (by omega) dL_disputed_16 (Or.inl ⟨r, L2, rfl, rfl, q9⟩)
theorem w_L_state : yCW RL 150 yL_state cL_state 4 (some .int) [(0, 9, 12, 18)] 3 := ⟨yT_in (i := 715) (by decide +kernel) (by decide +kernel), yT_in (i := 717) (by decide +kernel) (by decide +kernel), yT_in (i := 0) (by decide +kernel) (by decide +kernel), yT_in (i := 716) (by decide +kernel) (by decide +kernel), ⟨by decide, by decide, by decide +kernel⟩, by decide⟩
set_option maxRecDepth 100000 in
set_option maxHeartbeats 4000000 in
theorem w_state (l : Launch) (D : yD) (z : Nat) {n : Nat} {sh : yS} {I : yI} {L : yL} {c o d9 mc ms : Nat} {x0 : Int32} {Qr : Option Value → Nat → yS → yI → yL → Prop} {Qx : String → Nat → yS → yI → yL → Prop} (hM : ∀ l, yM l D z yX7_state cX7_state 2 (some .int) d9 mc ms [.ref c, .int x0] n sh I L Qr Qx) (hc : (sh c).1 = 7) (ho : ∀ v n2 sh2 I2 L2, Qr v n2 sh2 I2 L2 → (∃ r, v = some (.int r)) ∧ yArr sh2 o 11 1) (hx : ∀ E n2 sh2 I2 L2, Qx E n2 sh2 I2 L2 → E = "java/lang/IndexOutOfBoundsException") : yMH l D z yL_state cL_state 4 (some .int) [(0, 9, 12, 18)] (d9 + 1) mc ms [.ref c, .int x0, .ref o] n sh I L (lwQ ecA Int32.toInt64 o Qr Qx) := by
  refine yMH_of (by decide) (Nat.le_of_ble_eq_true rfl) rfl ?_
  intro X hC hr hRc hRs htab
  have hC : yC X D z cL_state RL 4 (d9 + 1) := hC
  refine y_aload_n hC dL_state_0 rfl ?_
  refine y_iconst hC dL_state_1 rfl ?_
  refine y_aload_n hC dL_state_2 rfl ?_
  refine y_iload_n hC dL_state_3 rfl ?_
  refine y_callV hC (hM X.2.1) m_L_26 rfl hc (Nat.le_refl _) (Nat.le_of_ble_eq_true rfl) ⟨by rw [hRc]; omega, by rw [hRs]; omega⟩ dL_state_4 ?_ ?_
  · intro E n2 sh2 I2 L2 q9
    obtain rfl := hx _ _ _ _ _ q9
    refine y_catch hC htab [] ⟨0, 9, 12, 18⟩ [] rfl (by decide) (by decide) (Or.inr (Or.inl rfl)) cl_L_18 (fun z hz => absurd hz List.not_mem_nil) (fun q => ?_)
    refine y_astore_n hC dL_state_12 (by decide) rfl ?_
    refine y_iconst hC dL_state_13 rfl ?_
    exact y_iret hC hr rfl (by omega) (by omega) dL_state_14 (Or.inr ⟨_, rfl, q9⟩)
  · intro v n2 sh2 I2 L2 q9
    obtain ⟨⟨r, rfl⟩, ha⟩ := ho _ _ _ _ _ q9
    show Y _ _ _ _ _ _ _ _ _ _ _ _ _ (.int r :: _)
    refine y_i2l hC dL_state_7 ?_
    refine y_last hC ha (show vp_in (nI 0) 1 from vp_in_nI (by decide) (by decide)) dL_state_8 ?_
    refine y_goto (tgt := 15) hC dL_state_9 (by decide) ?_
    refine y_iconst hC dL_state_15 rfl ?_
    exact y_iret hC hr rfl (by omega) (by omega) dL_state_16 (Or.inl ⟨r, L2, rfl, rfl, q9⟩)
theorem w_L_deadline : yCW RL 153 yL_deadline cL_deadline 4 (some .int) [(0, 9, 12, 18)] 3 := ⟨yT_in (i := 726) (by decide +kernel) (by decide +kernel), yT_in (i := 728) (by decide +kernel) (by decide +kernel), yT_in (i := 0) (by decide +kernel) (by decide +kernel), yT_in (i := 727) (by decide +kernel) (by decide +kernel), ⟨by decide, by decide, by decide +kernel⟩, by decide⟩
set_option maxRecDepth 100000 in
set_option maxHeartbeats 4000000 in
theorem w_deadline (l : Launch) (D : yD) (z : Nat) {n : Nat} {sh : yS} {I : yI} {L : yL} {c o d9 mc ms : Nat} {x0 : Int32} {Qr : Option Value → Nat → yS → yI → yL → Prop} {Qx : String → Nat → yS → yI → yL → Prop} (hM : ∀ l, yM l D z yX7_deadline cX7_deadline 2 (some .int) d9 mc ms [.ref c, .int x0] n sh I L Qr Qx) (hc : (sh c).1 = 7) (ho : ∀ v n2 sh2 I2 L2, Qr v n2 sh2 I2 L2 → (∃ r, v = some (.int r)) ∧ yArr sh2 o 11 1) (hx : ∀ E n2 sh2 I2 L2, Qx E n2 sh2 I2 L2 → E = "java/lang/IndexOutOfBoundsException") : yMH l D z yL_deadline cL_deadline 4 (some .int) [(0, 9, 12, 18)] (d9 + 1) mc ms [.ref c, .int x0, .ref o] n sh I L (lwQ ecA Int32.toInt64 o Qr Qx) := by
  refine yMH_of (by decide) (Nat.le_of_ble_eq_true rfl) rfl ?_
  intro X hC hr hRc hRs htab
  have hC : yC X D z cL_deadline RL 4 (d9 + 1) := hC
  refine y_aload_n hC dL_deadline_0 rfl ?_
  refine y_iconst hC dL_deadline_1 rfl ?_
  refine y_aload_n hC dL_deadline_2 rfl ?_
  refine y_iload_n hC dL_deadline_3 rfl ?_
  refine y_callV hC (hM X.2.1) m_L_29 rfl hc (Nat.le_refl _) (Nat.le_of_ble_eq_true rfl) ⟨by rw [hRc]; omega, by rw [hRs]; omega⟩ dL_deadline_4 ?_ ?_
  · intro E n2 sh2 I2 L2 q9
    obtain rfl := hx _ _ _ _ _ q9
    refine y_catch hC htab [] ⟨0, 9, 12, 18⟩ [] rfl (by decide) (by decide) (Or.inr (Or.inl rfl)) cl_L_18 (fun z hz => absurd hz List.not_mem_nil) (fun q => ?_)
    refine y_astore_n hC dL_deadline_12 (by decide) rfl ?_
    refine y_iconst hC dL_deadline_13 rfl ?_
    exact y_iret hC hr rfl (by omega) (by omega) dL_deadline_14 (Or.inr ⟨_, rfl, q9⟩)
  · intro v n2 sh2 I2 L2 q9
    obtain ⟨⟨r, rfl⟩, ha⟩ := ho _ _ _ _ _ q9
    show Y _ _ _ _ _ _ _ _ _ _ _ _ _ (.int r :: _)
    refine y_i2l hC dL_deadline_7 ?_
    refine y_last hC ha (show vp_in (nI 0) 1 from vp_in_nI (by decide) (by decide)) dL_deadline_8 ?_
    refine y_goto (tgt := 15) hC dL_deadline_9 (by decide) ?_
    refine y_iconst hC dL_deadline_15 rfl ?_
    exact y_iret hC hr rfl (by omega) (by omega) dL_deadline_16 (Or.inl ⟨r, L2, rfl, rfl, q9⟩)
theorem w_L_evidence : yCW RL 156 yL_evidence cL_evidence 4 (some .int) [(0, 9, 12, 18)] 3 := ⟨yT_in (i := 733) (by decide +kernel) (by decide +kernel), yT_in (i := 735) (by decide +kernel) (by decide +kernel), yT_in (i := 0) (by decide +kernel) (by decide +kernel), yT_in (i := 734) (by decide +kernel) (by decide +kernel), ⟨by decide, by decide, by decide +kernel⟩, by decide⟩
set_option maxRecDepth 100000 in
set_option maxHeartbeats 4000000 in
theorem w_evidence (l : Launch) (D : yD) (z : Nat) {n : Nat} {sh : yS} {I : yI} {L : yL} {c o d9 mc ms : Nat} {x0 : Int32} {Qr : Option Value → Nat → yS → yI → yL → Prop} {Qx : String → Nat → yS → yI → yL → Prop} (hM : ∀ l, yM l D z yX7_evidence cX7_evidence 2 (some .int) d9 mc ms [.ref c, .int x0] n sh I L Qr Qx) (hc : (sh c).1 = 7) (ho : ∀ v n2 sh2 I2 L2, Qr v n2 sh2 I2 L2 → (∃ r, v = some (.int r)) ∧ yArr sh2 o 11 1) (hx : ∀ E n2 sh2 I2 L2, Qx E n2 sh2 I2 L2 → E = "java/lang/IndexOutOfBoundsException") : yMH l D z yL_evidence cL_evidence 4 (some .int) [(0, 9, 12, 18)] (d9 + 1) mc ms [.ref c, .int x0, .ref o] n sh I L (lwQ ecA Int32.toInt64 o Qr Qx) := by
  refine yMH_of (by decide) (Nat.le_of_ble_eq_true rfl) rfl ?_
  intro X hC hr hRc hRs htab
  have hC : yC X D z cL_evidence RL 4 (d9 + 1) := hC
  refine y_aload_n hC dL_evidence_0 rfl ?_
  refine y_iconst hC dL_evidence_1 rfl ?_
  refine y_aload_n hC dL_evidence_2 rfl ?_
  refine y_iload_n hC dL_evidence_3 rfl ?_
  refine y_callV hC (hM X.2.1) m_L_32 rfl hc (Nat.le_refl _) (Nat.le_of_ble_eq_true rfl) ⟨by rw [hRc]; omega, by rw [hRs]; omega⟩ dL_evidence_4 ?_ ?_
  · intro E n2 sh2 I2 L2 q9
    obtain rfl := hx _ _ _ _ _ q9
    refine y_catch hC htab [] ⟨0, 9, 12, 18⟩ [] rfl (by decide) (by decide) (Or.inr (Or.inl rfl)) cl_L_18 (fun z hz => absurd hz List.not_mem_nil) (fun q => ?_)
    refine y_astore_n hC dL_evidence_12 (by decide) rfl ?_
    refine y_iconst hC dL_evidence_13 rfl ?_
    exact y_iret hC hr rfl (by omega) (by omega) dL_evidence_14 (Or.inr ⟨_, rfl, q9⟩)
  · intro v n2 sh2 I2 L2 q9
    obtain ⟨⟨r, rfl⟩, ha⟩ := ho _ _ _ _ _ q9
    show Y _ _ _ _ _ _ _ _ _ _ _ _ _ (.int r :: _)
    refine y_i2l hC dL_evidence_7 ?_
    refine y_last hC ha (show vp_in (nI 0) 1 from vp_in_nI (by decide) (by decide)) dL_evidence_8 ?_
    refine y_goto (tgt := 15) hC dL_evidence_9 (by decide) ?_
    refine y_iconst hC dL_evidence_15 rfl ?_
    exact y_iret hC hr rfl (by omega) (by omega) dL_evidence_16 (Or.inl ⟨r, L2, rfl, rfl, q9⟩)
theorem w_L_isWithMerchant : yCW RL 159 yL_isWithMerchant cL_isWithMerchant 4 (some .int) [(0, 16, 19, 18)] 3 := ⟨yT_in (i := 740) (by decide +kernel) (by decide +kernel), yT_in (i := 742) (by decide +kernel) (by decide +kernel), yT_in (i := 0) (by decide +kernel) (by decide +kernel), yT_in (i := 741) (by decide +kernel) (by decide +kernel), ⟨by decide, by decide, by decide +kernel⟩, by decide⟩
set_option maxRecDepth 100000 in
set_option maxHeartbeats 4000000 in
theorem w_isWithMerchant (l : Launch) (D : yD) (z : Nat) {n : Nat} {sh : yS} {I : yI} {L : yL} {c o d9 mc ms : Nat} {x0 : Int32} {Qr : Option Value → Nat → yS → yI → yL → Prop} {Qx : String → Nat → yS → yI → yL → Prop} (hM : ∀ l, yM l D z yX7_isWithMerchant cX7_isWithMerchant 2 (some .boolean) d9 mc ms [.ref c, .int x0] n sh I L Qr Qx) (hc : (sh c).1 = 7) (ho : ∀ v n2 sh2 I2 L2, Qr v n2 sh2 I2 L2 → (∃ r, v = some (.int r)) ∧ yArr sh2 o 11 1) (hx : ∀ E n2 sh2 I2 L2, Qx E n2 sh2 I2 L2 → E = "java/lang/IndexOutOfBoundsException") : yMH l D z yL_isWithMerchant cL_isWithMerchant 4 (some .int) [(0, 16, 19, 18)] (d9 + 1) mc ms [.ref c, .int x0, .ref o] n sh I L (lwQ ecA cvB o Qr Qx) := by
  refine yMH_of (by decide) (Nat.le_of_ble_eq_true rfl) rfl ?_
  intro X hC hr hRc hRs htab
  have hC : yC X D z cL_isWithMerchant RL 4 (d9 + 1) := hC
  refine y_aload_n hC dL_isWithMerchant_0 rfl ?_
  refine y_iconst hC dL_isWithMerchant_1 rfl ?_
  refine y_aload_n hC dL_isWithMerchant_2 rfl ?_
  refine y_iload_n hC dL_isWithMerchant_3 rfl ?_
  refine y_callV hC (hM X.2.1) m_L_35 rfl hc (Nat.le_refl _) (Nat.le_of_ble_eq_true rfl) ⟨by rw [hRc]; omega, by rw [hRs]; omega⟩ dL_isWithMerchant_4 ?_ ?_
  · intro E n2 sh2 I2 L2 q9
    obtain rfl := hx _ _ _ _ _ q9
    refine y_catch hC htab [] ⟨0, 16, 19, 18⟩ [] rfl (by decide) (by decide) (Or.inr (Or.inl rfl)) cl_L_18 (fun z hz => absurd hz List.not_mem_nil) (fun q => ?_)
    refine y_astore_n hC dL_isWithMerchant_19 (by decide) rfl ?_
    refine y_iconst hC dL_isWithMerchant_20 rfl ?_
    exact y_iret hC hr rfl (by omega) (by omega) dL_isWithMerchant_21 (Or.inr ⟨_, rfl, q9⟩)
  · intro v n2 sh2 I2 L2 q9
    obtain ⟨⟨r, rfl⟩, ha⟩ := ho _ _ _ _ _ q9
    show Y _ _ _ _ _ _ _ _ _ _ _ _ _ (.int r :: _)
    refine y_if_eq (tgt := 14) hC dL_isWithMerchant_7 (by decide) (fun c1 => ?_) (fun c1 => ?_)
    · refine y_lconst hC dL_isWithMerchant_14 rfl ?_
      refine y_last hC ha (show vp_in (nI 0) 1 from vp_in_nI (by decide) (by decide)) dL_isWithMerchant_15 ?_
      refine y_goto (tgt := 22) hC dL_isWithMerchant_16 (by decide) ?_
      refine y_iconst hC dL_isWithMerchant_22 rfl ?_
      exact y_iret hC hr rfl (by omega) (by omega) dL_isWithMerchant_23 (Or.inl ⟨r, L2, rfl, by rw [cvB, if_pos c1]; rfl, q9⟩)
    · refine y_lconst hC dL_isWithMerchant_10 rfl ?_
      refine y_goto (tgt := 15) hC dL_isWithMerchant_11 (by decide) ?_
      refine y_last hC ha (show vp_in (nI 0) 1 from vp_in_nI (by decide) (by decide)) dL_isWithMerchant_15 ?_
      refine y_goto (tgt := 22) hC dL_isWithMerchant_16 (by decide) ?_
      refine y_iconst hC dL_isWithMerchant_22 rfl ?_
      exact y_iret hC hr rfl (by omega) (by omega) dL_isWithMerchant_23 (Or.inl ⟨r, L2, rfl, by rw [cvB, if_neg c1]; rfl, q9⟩)
theorem w_L_score : yCW RL 162 yL_score cL_score 4 (some .int) [(0, 9, 12, 18)] 3 := ⟨yT_in (i := 751) (by decide +kernel) (by decide +kernel), yT_in (i := 753) (by decide +kernel) (by decide +kernel), yT_in (i := 0) (by decide +kernel) (by decide +kernel), yT_in (i := 752) (by decide +kernel) (by decide +kernel), ⟨by decide, by decide, by decide +kernel⟩, by decide⟩
set_option maxRecDepth 100000 in
set_option maxHeartbeats 4000000 in
theorem w_score (l : Launch) (D : yD) (z : Nat) {n : Nat} {sh : yS} {I : yI} {L : yL} {c o d9 mc ms : Nat} {x0 : Int32} {Qr : Option Value → Nat → yS → yI → yL → Prop} {Qx : String → Nat → yS → yI → yL → Prop} (hM : ∀ l, yM l D z yX7_score cX7_score 2 (some .int) d9 mc ms [.ref c, .int x0] n sh I L Qr Qx) (hc : (sh c).1 = 7) (ho : ∀ v n2 sh2 I2 L2, Qr v n2 sh2 I2 L2 → (∃ r, v = some (.int r)) ∧ yArr sh2 o 11 1) (hx : ∀ E n2 sh2 I2 L2, Qx E n2 sh2 I2 L2 → E = "java/lang/IndexOutOfBoundsException") : yMH l D z yL_score cL_score 4 (some .int) [(0, 9, 12, 18)] (d9 + 1) mc ms [.ref c, .int x0, .ref o] n sh I L (lwQ ecA Int32.toInt64 o Qr Qx) := by
  refine yMH_of (by decide) (Nat.le_of_ble_eq_true rfl) rfl ?_
  intro X hC hr hRc hRs htab
  have hC : yC X D z cL_score RL 4 (d9 + 1) := hC
  refine y_aload_n hC dL_score_0 rfl ?_
  refine y_iconst hC dL_score_1 rfl ?_
  refine y_aload_n hC dL_score_2 rfl ?_
  refine y_iload_n hC dL_score_3 rfl ?_
  refine y_callV hC (hM X.2.1) m_L_39 rfl hc (Nat.le_refl _) (Nat.le_of_ble_eq_true rfl) ⟨by rw [hRc]; omega, by rw [hRs]; omega⟩ dL_score_4 ?_ ?_
  · intro E n2 sh2 I2 L2 q9
    obtain rfl := hx _ _ _ _ _ q9
    refine y_catch hC htab [] ⟨0, 9, 12, 18⟩ [] rfl (by decide) (by decide) (Or.inr (Or.inl rfl)) cl_L_18 (fun z hz => absurd hz List.not_mem_nil) (fun q => ?_)
    refine y_astore_n hC dL_score_12 (by decide) rfl ?_
    refine y_iconst hC dL_score_13 rfl ?_
    exact y_iret hC hr rfl (by omega) (by omega) dL_score_14 (Or.inr ⟨_, rfl, q9⟩)
  · intro v n2 sh2 I2 L2 q9
    obtain ⟨⟨r, rfl⟩, ha⟩ := ho _ _ _ _ _ q9
    show Y _ _ _ _ _ _ _ _ _ _ _ _ _ (.int r :: _)
    refine y_i2l hC dL_score_7 ?_
    refine y_last hC ha (show vp_in (nI 0) 1 from vp_in_nI (by decide) (by decide)) dL_score_8 ?_
    refine y_goto (tgt := 15) hC dL_score_9 (by decide) ?_
    refine y_iconst hC dL_score_15 rfl ?_
    exact y_iret hC hr rfl (by omega) (by omega) dL_score_16 (Or.inl ⟨r, L2, rfl, rfl, q9⟩)
theorem w_L_wouldWin : yCW RL 165 yL_wouldWin cL_wouldWin 5 (some .int) [(0, 17, 20, 18), (0, 17, 24, 13)] 4 := ⟨yT_in (i := 790) (by decide +kernel) (by decide +kernel), yT_in (i := 792) (by decide +kernel) (by decide +kernel), yT_in (i := 0) (by decide +kernel) (by decide +kernel), yT_in (i := 791) (by decide +kernel) (by decide +kernel), ⟨by decide, by decide, by decide +kernel⟩, by decide⟩
set_option maxRecDepth 100000 in
set_option maxHeartbeats 4000000 in
theorem w_wouldWin (l : Launch) (D : yD) (z : Nat) {n : Nat} {sh : yS} {I : yI} {L : yL} {c o d9 mc ms : Nat} {x0 x1 : Int32} {Qr : Option Value → Nat → yS → yI → yL → Prop} {Qx : String → Nat → yS → yI → yL → Prop} (hM : ∀ l, yM l D z yX7_wouldWin cX7_wouldWin 4 (some .boolean) d9 mc ms [.ref c, .int x0, .int x1] n sh I L Qr Qx) (hc : (sh c).1 = 7) (ho : ∀ v n2 sh2 I2 L2, Qr v n2 sh2 I2 L2 → (∃ r, v = some (.int r)) ∧ yArr sh2 o 11 1) (hx : ∀ E n2 sh2 I2 L2, Qx E n2 sh2 I2 L2 → E = "java/lang/IndexOutOfBoundsException" ∨ E = "java/lang/IllegalArgumentException") : yMH l D z yL_wouldWin cL_wouldWin 5 (some .int) [(0, 17, 20, 18), (0, 17, 24, 13)] (d9 + 1) mc ms [.ref c, .int x0, .int x1, .ref o] n sh I L (lwQ ecA cvB o Qr Qx) := by
  refine yMH_of (by decide) (Nat.le_of_ble_eq_true rfl) rfl ?_
  intro X hC hr hRc hRs htab
  have hC : yC X D z cL_wouldWin RL 5 (d9 + 1) := hC
  refine y_aload_n hC dL_wouldWin_0 rfl ?_
  refine y_iconst hC dL_wouldWin_1 rfl ?_
  refine y_aload_n hC dL_wouldWin_2 rfl ?_
  refine y_iload_n hC dL_wouldWin_3 rfl ?_
  refine y_iload_n hC dL_wouldWin_4 rfl ?_
  refine y_callV hC (hM X.2.1) m_L_42 rfl hc (Nat.le_refl _) (Nat.le_of_ble_eq_true rfl) ⟨by rw [hRc]; omega, by rw [hRs]; omega⟩ dL_wouldWin_5 ?_ ?_
  · intro E n2 sh2 I2 L2 q9
    rcases hx _ _ _ _ _ q9 with rfl | rfl
    · refine y_catch hC htab [] ⟨0, 17, 20, 18⟩ [⟨0, 17, 24, 13⟩] rfl (by decide) (by decide) (Or.inr (Or.inl rfl)) cl_L_18 (fun z hz => absurd hz List.not_mem_nil) (fun q => ?_)
      refine y_astore hC dL_wouldWin_20 (by decide) rfl ?_
      refine y_iconst hC dL_wouldWin_22 rfl ?_
      exact y_iret hC hr rfl (by omega) (by omega) dL_wouldWin_23 (Or.inr ⟨_, rfl, q9⟩)
    · refine y_catch hC htab [⟨0, 17, 20, 18⟩] ⟨0, 17, 24, 13⟩ [] rfl (by decide) (by decide) (Or.inl rfl) cl_L_13 (by
        intro z hz
        simp only [List.mem_cons, List.not_mem_nil, or_false] at hz
        subst hz
        · exact ⟨by decide, _, cl_L_18, fun h => h.2.2.1⟩) (fun q => ?_)
      refine y_astore hC dL_wouldWin_24 (by decide) rfl ?_
      refine y_iconst hC dL_wouldWin_26 rfl ?_
      exact y_iret hC hr rfl (by omega) (by omega) dL_wouldWin_27 (Or.inr ⟨_, rfl, q9⟩)
  · intro v n2 sh2 I2 L2 q9
    obtain ⟨⟨r, rfl⟩, ha⟩ := ho _ _ _ _ _ q9
    show Y _ _ _ _ _ _ _ _ _ _ _ _ _ (.int r :: _)
    refine y_if_eq (tgt := 15) hC dL_wouldWin_8 (by decide) (fun c1 => ?_) (fun c1 => ?_)
    · refine y_lconst hC dL_wouldWin_15 rfl ?_
      refine y_last hC ha (show vp_in (nI 0) 1 from vp_in_nI (by decide) (by decide)) dL_wouldWin_16 ?_
      refine y_goto (tgt := 28) hC dL_wouldWin_17 (by decide) ?_
      refine y_iconst hC dL_wouldWin_28 rfl ?_
      exact y_iret hC hr rfl (by omega) (by omega) dL_wouldWin_29 (Or.inl ⟨r, L2, rfl, by rw [cvB, if_pos c1]; rfl, q9⟩)
    · refine y_lconst hC dL_wouldWin_11 rfl ?_
      refine y_goto (tgt := 16) hC dL_wouldWin_12 (by decide) ?_
      refine y_last hC ha (show vp_in (nI 0) 1 from vp_in_nI (by decide) (by decide)) dL_wouldWin_16 ?_
      refine y_goto (tgt := 28) hC dL_wouldWin_17 (by decide) ?_
      refine y_iconst hC dL_wouldWin_28 rfl ?_
      exact y_iret hC hr rfl (by omega) (by omega) dL_wouldWin_29 (Or.inl ⟨r, L2, rfl, by rw [cvB, if_neg c1]; rfl, q9⟩)
theorem w_L_bestEvidence : yCW RL 169 yL_bestEvidence cL_bestEvidence 4 (some .int) [(0, 9, 12, 18)] 3 := ⟨yT_in (i := 805) (by decide +kernel) (by decide +kernel), yT_in (i := 807) (by decide +kernel) (by decide +kernel), yT_in (i := 0) (by decide +kernel) (by decide +kernel), yT_in (i := 806) (by decide +kernel) (by decide +kernel), ⟨by decide, by decide, by decide +kernel⟩, by decide⟩
set_option maxRecDepth 100000 in
set_option maxHeartbeats 4000000 in
theorem w_bestEvidence (l : Launch) (D : yD) (z : Nat) {n : Nat} {sh : yS} {I : yI} {L : yL} {c o d9 mc ms : Nat} {x0 : Int32} {Qr : Option Value → Nat → yS → yI → yL → Prop} {Qx : String → Nat → yS → yI → yL → Prop} (hM : ∀ l, yM l D z yX7_bestEvidence cX7_bestEvidence 2 (some .int) d9 mc ms [.ref c, .int x0] n sh I L Qr Qx) (hc : (sh c).1 = 7) (ho : ∀ v n2 sh2 I2 L2, Qr v n2 sh2 I2 L2 → (∃ r, v = some (.int r)) ∧ yArr sh2 o 11 1) (hx : ∀ E n2 sh2 I2 L2, Qx E n2 sh2 I2 L2 → E = "java/lang/IndexOutOfBoundsException") : yMH l D z yL_bestEvidence cL_bestEvidence 4 (some .int) [(0, 9, 12, 18)] (d9 + 1) mc ms [.ref c, .int x0, .ref o] n sh I L (lwQ ecA Int32.toInt64 o Qr Qx) := by
  refine yMH_of (by decide) (Nat.le_of_ble_eq_true rfl) rfl ?_
  intro X hC hr hRc hRs htab
  have hC : yC X D z cL_bestEvidence RL 4 (d9 + 1) := hC
  refine y_aload_n hC dL_bestEvidence_0 rfl ?_
  refine y_iconst hC dL_bestEvidence_1 rfl ?_
  refine y_aload_n hC dL_bestEvidence_2 rfl ?_
  refine y_iload_n hC dL_bestEvidence_3 rfl ?_
  refine y_callV hC (hM X.2.1) m_L_46 rfl hc (Nat.le_refl _) (Nat.le_of_ble_eq_true rfl) ⟨by rw [hRc]; omega, by rw [hRs]; omega⟩ dL_bestEvidence_4 ?_ ?_
  · intro E n2 sh2 I2 L2 q9
    obtain rfl := hx _ _ _ _ _ q9
    refine y_catch hC htab [] ⟨0, 9, 12, 18⟩ [] rfl (by decide) (by decide) (Or.inr (Or.inl rfl)) cl_L_18 (fun z hz => absurd hz List.not_mem_nil) (fun q => ?_)
    refine y_astore_n hC dL_bestEvidence_12 (by decide) rfl ?_
    refine y_iconst hC dL_bestEvidence_13 rfl ?_
    exact y_iret hC hr rfl (by omega) (by omega) dL_bestEvidence_14 (Or.inr ⟨_, rfl, q9⟩)
  · intro v n2 sh2 I2 L2 q9
    obtain ⟨⟨r, rfl⟩, ha⟩ := ho _ _ _ _ _ q9
    show Y _ _ _ _ _ _ _ _ _ _ _ _ _ (.int r :: _)
    refine y_i2l hC dL_bestEvidence_7 ?_
    refine y_last hC ha (show vp_in (nI 0) 1 from vp_in_nI (by decide) (by decide)) dL_bestEvidence_8 ?_
    refine y_goto (tgt := 15) hC dL_bestEvidence_9 (by decide) ?_
    refine y_iconst hC dL_bestEvidence_15 rfl ?_
    exact y_iret hC hr rfl (by omega) (by omega) dL_bestEvidence_16 (Or.inl ⟨r, L2, rfl, rfl, q9⟩)
theorem w_L_rate : yCW RL 176 yL_rate cL_rate 4 (some .int) [(0, 9, 12, 18)] 3 := ⟨yT_in (i := 817) (by decide +kernel) (by decide +kernel), yT_in (i := 819) (by decide +kernel) (by decide +kernel), yT_in (i := 0) (by decide +kernel) (by decide +kernel), yT_in (i := 818) (by decide +kernel) (by decide +kernel), ⟨by decide, by decide, by decide +kernel⟩, by decide⟩
set_option maxRecDepth 100000 in
set_option maxHeartbeats 4000000 in
theorem w_rate (l : Launch) (D : yD) (z : Nat) {n : Nat} {sh : yS} {I : yI} {L : yL} {c o d9 mc ms : Nat} {x0 : Int32} {Qr : Option Value → Nat → yS → yI → yL → Prop} {Qx : String → Nat → yS → yI → yL → Prop} (hM : ∀ l, yM l D z yX7_rate cX7_rate 2 (some .int) d9 mc ms [.ref c, .int x0] n sh I L Qr Qx) (hc : (sh c).1 = 7) (ho : ∀ v n2 sh2 I2 L2, Qr v n2 sh2 I2 L2 → (∃ r, v = some (.int r)) ∧ yArr sh2 o 11 1) (hx : ∀ E n2 sh2 I2 L2, Qx E n2 sh2 I2 L2 → E = "java/lang/IndexOutOfBoundsException") : yMH l D z yL_rate cL_rate 4 (some .int) [(0, 9, 12, 18)] (d9 + 1) mc ms [.ref c, .int x0, .ref o] n sh I L (lwQ ecA Int32.toInt64 o Qr Qx) := by
  refine yMH_of (by decide) (Nat.le_of_ble_eq_true rfl) rfl ?_
  intro X hC hr hRc hRs htab
  have hC : yC X D z cL_rate RL 4 (d9 + 1) := hC
  refine y_aload_n hC dL_rate_0 rfl ?_
  refine y_iconst hC dL_rate_1 rfl ?_
  refine y_aload_n hC dL_rate_2 rfl ?_
  refine y_iload_n hC dL_rate_3 rfl ?_
  refine y_callV hC (hM X.2.1) m_L_49 rfl hc (Nat.le_refl _) (Nat.le_of_ble_eq_true rfl) ⟨by rw [hRc]; omega, by rw [hRs]; omega⟩ dL_rate_4 ?_ ?_
  · intro E n2 sh2 I2 L2 q9
    obtain rfl := hx _ _ _ _ _ q9
    refine y_catch hC htab [] ⟨0, 9, 12, 18⟩ [] rfl (by decide) (by decide) (Or.inr (Or.inl rfl)) cl_L_18 (fun z hz => absurd hz List.not_mem_nil) (fun q => ?_)
    refine y_astore_n hC dL_rate_12 (by decide) rfl ?_
    refine y_iconst hC dL_rate_13 rfl ?_
    exact y_iret hC hr rfl (by omega) (by omega) dL_rate_14 (Or.inr ⟨_, rfl, q9⟩)
  · intro v n2 sh2 I2 L2 q9
    obtain ⟨⟨r, rfl⟩, ha⟩ := ho _ _ _ _ _ q9
    show Y _ _ _ _ _ _ _ _ _ _ _ _ _ (.int r :: _)
    refine y_i2l hC dL_rate_7 ?_
    refine y_last hC ha (show vp_in (nI 0) 1 from vp_in_nI (by decide) (by decide)) dL_rate_8 ?_
    refine y_goto (tgt := 15) hC dL_rate_9 (by decide) ?_
    refine y_iconst hC dL_rate_15 rfl ?_
    exact y_iret hC hr rfl (by omega) (by omega) dL_rate_16 (Or.inl ⟨r, L2, rfl, rfl, q9⟩)
theorem w_L_isWatched : yCW RL 179 yL_isWatched cL_isWatched 4 (some .int) [(0, 16, 19, 18)] 3 := ⟨yT_in (i := 836) (by decide +kernel) (by decide +kernel), yT_in (i := 838) (by decide +kernel) (by decide +kernel), yT_in (i := 0) (by decide +kernel) (by decide +kernel), yT_in (i := 837) (by decide +kernel) (by decide +kernel), ⟨by decide, by decide, by decide +kernel⟩, by decide⟩
set_option maxRecDepth 100000 in
set_option maxHeartbeats 4000000 in
theorem w_isWatched (l : Launch) (D : yD) (z : Nat) {n : Nat} {sh : yS} {I : yI} {L : yL} {c o d9 mc ms : Nat} {x0 : Int32} {Qr : Option Value → Nat → yS → yI → yL → Prop} {Qx : String → Nat → yS → yI → yL → Prop} (hM : ∀ l, yM l D z yX7_isWatched cX7_isWatched 3 (some .boolean) d9 mc ms [.ref c, .int x0] n sh I L Qr Qx) (hc : (sh c).1 = 7) (ho : ∀ v n2 sh2 I2 L2, Qr v n2 sh2 I2 L2 → (∃ r, v = some (.int r)) ∧ yArr sh2 o 11 1) (hx : ∀ E n2 sh2 I2 L2, Qx E n2 sh2 I2 L2 → E = "java/lang/IndexOutOfBoundsException") : yMH l D z yL_isWatched cL_isWatched 4 (some .int) [(0, 16, 19, 18)] (d9 + 1) mc ms [.ref c, .int x0, .ref o] n sh I L (lwQ ecA cvB o Qr Qx) := by
  refine yMH_of (by decide) (Nat.le_of_ble_eq_true rfl) rfl ?_
  intro X hC hr hRc hRs htab
  have hC : yC X D z cL_isWatched RL 4 (d9 + 1) := hC
  refine y_aload_n hC dL_isWatched_0 rfl ?_
  refine y_iconst hC dL_isWatched_1 rfl ?_
  refine y_aload_n hC dL_isWatched_2 rfl ?_
  refine y_iload_n hC dL_isWatched_3 rfl ?_
  refine y_callV hC (hM X.2.1) m_L_52 rfl hc (Nat.le_refl _) (Nat.le_of_ble_eq_true rfl) ⟨by rw [hRc]; omega, by rw [hRs]; omega⟩ dL_isWatched_4 ?_ ?_
  · intro E n2 sh2 I2 L2 q9
    obtain rfl := hx _ _ _ _ _ q9
    refine y_catch hC htab [] ⟨0, 16, 19, 18⟩ [] rfl (by decide) (by decide) (Or.inr (Or.inl rfl)) cl_L_18 (fun z hz => absurd hz List.not_mem_nil) (fun q => ?_)
    refine y_astore_n hC dL_isWatched_19 (by decide) rfl ?_
    refine y_iconst hC dL_isWatched_20 rfl ?_
    exact y_iret hC hr rfl (by omega) (by omega) dL_isWatched_21 (Or.inr ⟨_, rfl, q9⟩)
  · intro v n2 sh2 I2 L2 q9
    obtain ⟨⟨r, rfl⟩, ha⟩ := ho _ _ _ _ _ q9
    show Y _ _ _ _ _ _ _ _ _ _ _ _ _ (.int r :: _)
    refine y_if_eq (tgt := 14) hC dL_isWatched_7 (by decide) (fun c1 => ?_) (fun c1 => ?_)
    · refine y_lconst hC dL_isWatched_14 rfl ?_
      refine y_last hC ha (show vp_in (nI 0) 1 from vp_in_nI (by decide) (by decide)) dL_isWatched_15 ?_
      refine y_goto (tgt := 22) hC dL_isWatched_16 (by decide) ?_
      refine y_iconst hC dL_isWatched_22 rfl ?_
      exact y_iret hC hr rfl (by omega) (by omega) dL_isWatched_23 (Or.inl ⟨r, L2, rfl, by rw [cvB, if_pos c1]; rfl, q9⟩)
    · refine y_lconst hC dL_isWatched_10 rfl ?_
      refine y_goto (tgt := 15) hC dL_isWatched_11 (by decide) ?_
      refine y_last hC ha (show vp_in (nI 0) 1 from vp_in_nI (by decide) (by decide)) dL_isWatched_15 ?_
      refine y_goto (tgt := 22) hC dL_isWatched_16 (by decide) ?_
      refine y_iconst hC dL_isWatched_22 rfl ?_
      exact y_iret hC hr rfl (by omega) (by omega) dL_isWatched_23 (Or.inl ⟨r, L2, rfl, by rw [cvB, if_neg c1]; rfl, q9⟩)
theorem w_L_exposure : yCW RL 182 yL_exposure cL_exposure 4 (some .int) [(0, 9, 12, 18)] 3 := ⟨yT_in (i := 843) (by decide +kernel) (by decide +kernel), yT_in (i := 845) (by decide +kernel) (by decide +kernel), yT_in (i := 0) (by decide +kernel) (by decide +kernel), yT_in (i := 844) (by decide +kernel) (by decide +kernel), ⟨by decide, by decide, by decide +kernel⟩, by decide⟩
set_option maxRecDepth 100000 in
set_option maxHeartbeats 4000000 in
theorem w_exposure (l : Launch) (D : yD) (z : Nat) {n : Nat} {sh : yS} {I : yI} {L : yL} {c o d9 mc ms : Nat} {x0 : Int32} {Qr : Option Value → Nat → yS → yI → yL → Prop} {Qx : String → Nat → yS → yI → yL → Prop} (hM : ∀ l, yM l D z yX7_exposure cX7_exposure 2 (some .int) d9 mc ms [.ref c, .int x0] n sh I L Qr Qx) (hc : (sh c).1 = 7) (ho : ∀ v n2 sh2 I2 L2, Qr v n2 sh2 I2 L2 → (∃ r, v = some (.int r)) ∧ yArr sh2 o 11 1) (hx : ∀ E n2 sh2 I2 L2, Qx E n2 sh2 I2 L2 → E = "java/lang/IndexOutOfBoundsException") : yMH l D z yL_exposure cL_exposure 4 (some .int) [(0, 9, 12, 18)] (d9 + 1) mc ms [.ref c, .int x0, .ref o] n sh I L (lwQ ecA Int32.toInt64 o Qr Qx) := by
  refine yMH_of (by decide) (Nat.le_of_ble_eq_true rfl) rfl ?_
  intro X hC hr hRc hRs htab
  have hC : yC X D z cL_exposure RL 4 (d9 + 1) := hC
  refine y_aload_n hC dL_exposure_0 rfl ?_
  refine y_iconst hC dL_exposure_1 rfl ?_
  refine y_aload_n hC dL_exposure_2 rfl ?_
  refine y_iload_n hC dL_exposure_3 rfl ?_
  refine y_callV hC (hM X.2.1) m_L_55 rfl hc (Nat.le_refl _) (Nat.le_of_ble_eq_true rfl) ⟨by rw [hRc]; omega, by rw [hRs]; omega⟩ dL_exposure_4 ?_ ?_
  · intro E n2 sh2 I2 L2 q9
    obtain rfl := hx _ _ _ _ _ q9
    refine y_catch hC htab [] ⟨0, 9, 12, 18⟩ [] rfl (by decide) (by decide) (Or.inr (Or.inl rfl)) cl_L_18 (fun z hz => absurd hz List.not_mem_nil) (fun q => ?_)
    refine y_astore_n hC dL_exposure_12 (by decide) rfl ?_
    refine y_iconst hC dL_exposure_13 rfl ?_
    exact y_iret hC hr rfl (by omega) (by omega) dL_exposure_14 (Or.inr ⟨_, rfl, q9⟩)
  · intro v n2 sh2 I2 L2 q9
    obtain ⟨⟨r, rfl⟩, ha⟩ := ho _ _ _ _ _ q9
    show Y _ _ _ _ _ _ _ _ _ _ _ _ _ (.int r :: _)
    refine y_i2l hC dL_exposure_7 ?_
    refine y_last hC ha (show vp_in (nI 0) 1 from vp_in_nI (by decide) (by decide)) dL_exposure_8 ?_
    refine y_goto (tgt := 15) hC dL_exposure_9 (by decide) ?_
    refine y_iconst hC dL_exposure_15 rfl ?_
    exact y_iret hC hr rfl (by omega) (by omega) dL_exposure_16 (Or.inl ⟨r, L2, rfl, rfl, q9⟩)
theorem w_L_settled : yCW RL 185 yL_settled cL_settled 4 (some .int) [(0, 9, 12, 18)] 3 := ⟨yT_in (i := 854) (by decide +kernel) (by decide +kernel), yT_in (i := 856) (by decide +kernel) (by decide +kernel), yT_in (i := 0) (by decide +kernel) (by decide +kernel), yT_in (i := 855) (by decide +kernel) (by decide +kernel), ⟨by decide, by decide, by decide +kernel⟩, by decide⟩
set_option maxRecDepth 100000 in
set_option maxHeartbeats 4000000 in
theorem w_settled (l : Launch) (D : yD) (z : Nat) {n : Nat} {sh : yS} {I : yI} {L : yL} {c o d9 mc ms : Nat} {x0 : Int32} {Qr : Option Value → Nat → yS → yI → yL → Prop} {Qx : String → Nat → yS → yI → yL → Prop} (hM : ∀ l, yM l D z yX7_settled cX7_settled 2 (some .int) d9 mc ms [.ref c, .int x0] n sh I L Qr Qx) (hc : (sh c).1 = 7) (ho : ∀ v n2 sh2 I2 L2, Qr v n2 sh2 I2 L2 → (∃ r, v = some (.int r)) ∧ yArr sh2 o 11 1) (hx : ∀ E n2 sh2 I2 L2, Qx E n2 sh2 I2 L2 → E = "java/lang/IndexOutOfBoundsException") : yMH l D z yL_settled cL_settled 4 (some .int) [(0, 9, 12, 18)] (d9 + 1) mc ms [.ref c, .int x0, .ref o] n sh I L (lwQ ecA Int32.toInt64 o Qr Qx) := by
  refine yMH_of (by decide) (Nat.le_of_ble_eq_true rfl) rfl ?_
  intro X hC hr hRc hRs htab
  have hC : yC X D z cL_settled RL 4 (d9 + 1) := hC
  refine y_aload_n hC dL_settled_0 rfl ?_
  refine y_iconst hC dL_settled_1 rfl ?_
  refine y_aload_n hC dL_settled_2 rfl ?_
  refine y_iload_n hC dL_settled_3 rfl ?_
  refine y_callV hC (hM X.2.1) m_L_58 rfl hc (Nat.le_refl _) (Nat.le_of_ble_eq_true rfl) ⟨by rw [hRc]; omega, by rw [hRs]; omega⟩ dL_settled_4 ?_ ?_
  · intro E n2 sh2 I2 L2 q9
    obtain rfl := hx _ _ _ _ _ q9
    refine y_catch hC htab [] ⟨0, 9, 12, 18⟩ [] rfl (by decide) (by decide) (Or.inr (Or.inl rfl)) cl_L_18 (fun z hz => absurd hz List.not_mem_nil) (fun q => ?_)
    refine y_astore_n hC dL_settled_12 (by decide) rfl ?_
    refine y_iconst hC dL_settled_13 rfl ?_
    exact y_iret hC hr rfl (by omega) (by omega) dL_settled_14 (Or.inr ⟨_, rfl, q9⟩)
  · intro v n2 sh2 I2 L2 q9
    obtain ⟨⟨r, rfl⟩, ha⟩ := ho _ _ _ _ _ q9
    show Y _ _ _ _ _ _ _ _ _ _ _ _ _ (.int r :: _)
    refine y_i2l hC dL_settled_7 ?_
    refine y_last hC ha (show vp_in (nI 0) 1 from vp_in_nI (by decide) (by decide)) dL_settled_8 ?_
    refine y_goto (tgt := 15) hC dL_settled_9 (by decide) ?_
    refine y_iconst hC dL_settled_15 rfl ?_
    exact y_iret hC hr rfl (by omega) (by omega) dL_settled_16 (Or.inl ⟨r, L2, rfl, rfl, q9⟩)
theorem w_L_purchase : yCW RL 188 yL_purchase cL_purchase 6 (some .int) [(0, 12, 15, 18), (0, 12, 19, 13), (0, 12, 23, 65)] 5 := ⟨yT_in (i := 874) (by decide +kernel) (by decide +kernel), yT_in (i := 876) (by decide +kernel) (by decide +kernel), yT_in (i := 0) (by decide +kernel) (by decide +kernel), yT_in (i := 875) (by decide +kernel) (by decide +kernel), ⟨by decide, by decide, by decide +kernel⟩, by decide⟩
set_option maxRecDepth 100000 in
set_option maxHeartbeats 4000000 in
theorem w_purchase (l : Launch) (D : yD) (z : Nat) {n : Nat} {sh : yS} {I : yI} {L : yL} {c o d9 mc ms : Nat} {x0 x1 x2 : Int32} {Qr : Option Value → Nat → yS → yI → yL → Prop} {Qx : String → Nat → yS → yI → yL → Prop} (hM : ∀ l, yM l D z yX7_purchase cX7_purchase 5 (some .int) d9 mc ms [.ref c, .int x0, .int x1, .int x2] n sh I L Qr Qx) (hc : (sh c).1 = 7) (ho : ∀ v n2 sh2 I2 L2, Qr v n2 sh2 I2 L2 → (∃ r, v = some (.int r)) ∧ yArr sh2 o 11 1) (hx : ∀ E n2 sh2 I2 L2, Qx E n2 sh2 I2 L2 → E = "java/lang/IndexOutOfBoundsException" ∨ E = "java/lang/IllegalArgumentException" ∨ E = "java/lang/IllegalStateException") : yMH l D z yL_purchase cL_purchase 6 (some .int) [(0, 12, 15, 18), (0, 12, 19, 13), (0, 12, 23, 65)] (d9 + 1) mc ms [.ref c, .int x0, .int x1, .int x2, .ref o] n sh I L (lwQ ecA Int32.toInt64 o Qr Qx) := by
  refine yMH_of (by decide) (Nat.le_of_ble_eq_true rfl) rfl ?_
  intro X hC hr hRc hRs htab
  have hC : yC X D z cL_purchase RL 6 (d9 + 1) := hC
  refine y_aload hC dL_purchase_0 rfl ?_
  refine y_iconst hC dL_purchase_2 rfl ?_
  refine y_aload_n hC dL_purchase_3 rfl ?_
  refine y_iload_n hC dL_purchase_4 rfl ?_
  refine y_iload_n hC dL_purchase_5 rfl ?_
  refine y_iload_n hC dL_purchase_6 rfl ?_
  refine y_callV hC (hM X.2.1) m_L_61 rfl hc (Nat.le_refl _) (Nat.le_of_ble_eq_true rfl) ⟨by rw [hRc]; omega, by rw [hRs]; omega⟩ dL_purchase_7 ?_ ?_
  · intro E n2 sh2 I2 L2 q9
    rcases hx _ _ _ _ _ q9 with rfl | rfl | rfl
    · refine y_catch hC htab [] ⟨0, 12, 15, 18⟩ [⟨0, 12, 19, 13⟩, ⟨0, 12, 23, 65⟩] rfl (by decide) (by decide) (Or.inr (Or.inl rfl)) cl_L_18 (fun z hz => absurd hz List.not_mem_nil) (fun q => ?_)
      refine y_astore hC dL_purchase_15 (by decide) rfl ?_
      refine y_iconst hC dL_purchase_17 rfl ?_
      exact y_iret hC hr rfl (by omega) (by omega) dL_purchase_18 (Or.inr ⟨_, rfl, q9⟩)
    · refine y_catch hC htab [⟨0, 12, 15, 18⟩] ⟨0, 12, 19, 13⟩ [⟨0, 12, 23, 65⟩] rfl (by decide) (by decide) (Or.inl rfl) cl_L_13 (by
        intro z hz
        simp only [List.mem_cons, List.not_mem_nil, or_false] at hz
        subst hz
        · exact ⟨by decide, _, cl_L_18, fun h => h.2.2.1⟩) (fun q => ?_)
      refine y_astore hC dL_purchase_19 (by decide) rfl ?_
      refine y_iconst hC dL_purchase_21 rfl ?_
      exact y_iret hC hr rfl (by omega) (by omega) dL_purchase_22 (Or.inr ⟨_, rfl, q9⟩)
    · refine y_catch hC htab [⟨0, 12, 15, 18⟩, ⟨0, 12, 19, 13⟩] ⟨0, 12, 23, 65⟩ [] rfl (by decide) (by decide) (Or.inr (Or.inr rfl)) cl_L_65 (by
        intro z hz
        simp only [List.mem_cons, List.not_mem_nil, or_false] at hz
        rcases hz with rfl | rfl
        · exact ⟨by decide, _, cl_L_18, fun h => h.2.2.2.1⟩
        · exact ⟨by decide, _, cl_L_13, fun h => h.2.2.2.2⟩) (fun q => ?_)
      refine y_astore hC dL_purchase_23 (by decide) rfl ?_
      refine y_iconst hC dL_purchase_25 rfl ?_
      exact y_iret hC hr rfl (by omega) (by omega) dL_purchase_26 (Or.inr ⟨_, rfl, q9⟩)
  · intro v n2 sh2 I2 L2 q9
    obtain ⟨⟨r, rfl⟩, ha⟩ := ho _ _ _ _ _ q9
    show Y _ _ _ _ _ _ _ _ _ _ _ _ _ (.int r :: _)
    refine y_i2l hC dL_purchase_10 ?_
    refine y_last hC ha (show vp_in (nI 0) 1 from vp_in_nI (by decide) (by decide)) dL_purchase_11 ?_
    refine y_goto (tgt := 27) hC dL_purchase_12 (by decide) ?_
    refine y_iconst hC dL_purchase_27 rfl ?_
    exact y_iret hC hr rfl (by omega) (by omega) dL_purchase_28 (Or.inl ⟨r, L2, rfl, rfl, q9⟩)
theorem w_L_file : yCW RL 192 yL_file cL_file 6 (some .int) [(0, 12, 15, 18), (0, 12, 19, 13), (0, 12, 23, 65)] 5 := ⟨yT_in (i := 907) (by decide +kernel) (by decide +kernel), yT_in (i := 909) (by decide +kernel) (by decide +kernel), yT_in (i := 0) (by decide +kernel) (by decide +kernel), yT_in (i := 908) (by decide +kernel) (by decide +kernel), ⟨by decide, by decide, by decide +kernel⟩, by decide⟩
set_option maxRecDepth 100000 in
set_option maxHeartbeats 4000000 in
theorem w_file (l : Launch) (D : yD) (z : Nat) {n : Nat} {sh : yS} {I : yI} {L : yL} {c o d9 mc ms : Nat} {x0 x1 x2 : Int32} {Qr : Option Value → Nat → yS → yI → yL → Prop} {Qx : String → Nat → yS → yI → yL → Prop} (hM : ∀ l, yM l D z yX7_file cX7_file 5 (some .int) d9 mc ms [.ref c, .int x0, .int x1, .int x2] n sh I L Qr Qx) (hc : (sh c).1 = 7) (ho : ∀ v n2 sh2 I2 L2, Qr v n2 sh2 I2 L2 → (∃ r, v = some (.int r)) ∧ yArr sh2 o 11 1) (hx : ∀ E n2 sh2 I2 L2, Qx E n2 sh2 I2 L2 → E = "java/lang/IndexOutOfBoundsException" ∨ E = "java/lang/IllegalArgumentException" ∨ E = "java/lang/IllegalStateException") : yMH l D z yL_file cL_file 6 (some .int) [(0, 12, 15, 18), (0, 12, 19, 13), (0, 12, 23, 65)] (d9 + 1) mc ms [.ref c, .int x0, .int x1, .int x2, .ref o] n sh I L (lwQ ecA Int32.toInt64 o Qr Qx) := by
  refine yMH_of (by decide) (Nat.le_of_ble_eq_true rfl) rfl ?_
  intro X hC hr hRc hRs htab
  have hC : yC X D z cL_file RL 6 (d9 + 1) := hC
  refine y_aload hC dL_file_0 rfl ?_
  refine y_iconst hC dL_file_2 rfl ?_
  refine y_aload_n hC dL_file_3 rfl ?_
  refine y_iload_n hC dL_file_4 rfl ?_
  refine y_iload_n hC dL_file_5 rfl ?_
  refine y_iload_n hC dL_file_6 rfl ?_
  refine y_callV hC (hM X.2.1) m_L_67 rfl hc (Nat.le_refl _) (Nat.le_of_ble_eq_true rfl) ⟨by rw [hRc]; omega, by rw [hRs]; omega⟩ dL_file_7 ?_ ?_
  · intro E n2 sh2 I2 L2 q9
    rcases hx _ _ _ _ _ q9 with rfl | rfl | rfl
    · refine y_catch hC htab [] ⟨0, 12, 15, 18⟩ [⟨0, 12, 19, 13⟩, ⟨0, 12, 23, 65⟩] rfl (by decide) (by decide) (Or.inr (Or.inl rfl)) cl_L_18 (fun z hz => absurd hz List.not_mem_nil) (fun q => ?_)
      refine y_astore hC dL_file_15 (by decide) rfl ?_
      refine y_iconst hC dL_file_17 rfl ?_
      exact y_iret hC hr rfl (by omega) (by omega) dL_file_18 (Or.inr ⟨_, rfl, q9⟩)
    · refine y_catch hC htab [⟨0, 12, 15, 18⟩] ⟨0, 12, 19, 13⟩ [⟨0, 12, 23, 65⟩] rfl (by decide) (by decide) (Or.inl rfl) cl_L_13 (by
        intro z hz
        simp only [List.mem_cons, List.not_mem_nil, or_false] at hz
        subst hz
        · exact ⟨by decide, _, cl_L_18, fun h => h.2.2.1⟩) (fun q => ?_)
      refine y_astore hC dL_file_19 (by decide) rfl ?_
      refine y_iconst hC dL_file_21 rfl ?_
      exact y_iret hC hr rfl (by omega) (by omega) dL_file_22 (Or.inr ⟨_, rfl, q9⟩)
    · refine y_catch hC htab [⟨0, 12, 15, 18⟩, ⟨0, 12, 19, 13⟩] ⟨0, 12, 23, 65⟩ [] rfl (by decide) (by decide) (Or.inr (Or.inr rfl)) cl_L_65 (by
        intro z hz
        simp only [List.mem_cons, List.not_mem_nil, or_false] at hz
        rcases hz with rfl | rfl
        · exact ⟨by decide, _, cl_L_18, fun h => h.2.2.2.1⟩
        · exact ⟨by decide, _, cl_L_13, fun h => h.2.2.2.2⟩) (fun q => ?_)
      refine y_astore hC dL_file_23 (by decide) rfl ?_
      refine y_iconst hC dL_file_25 rfl ?_
      exact y_iret hC hr rfl (by omega) (by omega) dL_file_26 (Or.inr ⟨_, rfl, q9⟩)
  · intro v n2 sh2 I2 L2 q9
    obtain ⟨⟨r, rfl⟩, ha⟩ := ho _ _ _ _ _ q9
    show Y _ _ _ _ _ _ _ _ _ _ _ _ _ (.int r :: _)
    refine y_i2l hC dL_file_10 ?_
    refine y_last hC ha (show vp_in (nI 0) 1 from vp_in_nI (by decide) (by decide)) dL_file_11 ?_
    refine y_goto (tgt := 27) hC dL_file_12 (by decide) ?_
    refine y_iconst hC dL_file_27 rfl ?_
    exact y_iret hC hr rfl (by omega) (by omega) dL_file_28 (Or.inl ⟨r, L2, rfl, rfl, q9⟩)
theorem w_L_represent : yCW RL 195 yL_represent cL_represent 5 (some .int) [(0, 10, 13, 18), (0, 10, 17, 13), (0, 10, 21, 65)] 4 := ⟨yT_in (i := 924) (by decide +kernel) (by decide +kernel), yT_in (i := 926) (by decide +kernel) (by decide +kernel), yT_in (i := 0) (by decide +kernel) (by decide +kernel), yT_in (i := 925) (by decide +kernel) (by decide +kernel), ⟨by decide, by decide, by decide +kernel⟩, by decide⟩
set_option maxRecDepth 100000 in
set_option maxHeartbeats 4000000 in
theorem w_represent (l : Launch) (D : yD) (z : Nat) {n : Nat} {sh : yS} {I : yI} {L : yL} {c o d9 mc ms : Nat} {x0 x1 : Int32} {Qr : Option Value → Nat → yS → yI → yL → Prop} {Qx : String → Nat → yS → yI → yL → Prop} (hM : ∀ l, yM l D z yX7_represent cX7_represent 5 (some .int) d9 mc ms [.ref c, .int x0, .int x1] n sh I L Qr Qx) (hc : (sh c).1 = 7) (ho : ∀ v n2 sh2 I2 L2, Qr v n2 sh2 I2 L2 → (∃ r, v = some (.int r)) ∧ yArr sh2 o 11 1) (hx : ∀ E n2 sh2 I2 L2, Qx E n2 sh2 I2 L2 → E = "java/lang/IndexOutOfBoundsException" ∨ E = "java/lang/IllegalArgumentException" ∨ E = "java/lang/IllegalStateException") : yMH l D z yL_represent cL_represent 5 (some .int) [(0, 10, 13, 18), (0, 10, 17, 13), (0, 10, 21, 65)] (d9 + 1) mc ms [.ref c, .int x0, .int x1, .ref o] n sh I L (lwQ ecA Int32.toInt64 o Qr Qx) := by
  refine yMH_of (by decide) (Nat.le_of_ble_eq_true rfl) rfl ?_
  intro X hC hr hRc hRs htab
  have hC : yC X D z cL_represent RL 5 (d9 + 1) := hC
  refine y_aload_n hC dL_represent_0 rfl ?_
  refine y_iconst hC dL_represent_1 rfl ?_
  refine y_aload_n hC dL_represent_2 rfl ?_
  refine y_iload_n hC dL_represent_3 rfl ?_
  refine y_iload_n hC dL_represent_4 rfl ?_
  refine y_callV hC (hM X.2.1) m_L_70 rfl hc (Nat.le_refl _) (Nat.le_of_ble_eq_true rfl) ⟨by rw [hRc]; omega, by rw [hRs]; omega⟩ dL_represent_5 ?_ ?_
  · intro E n2 sh2 I2 L2 q9
    rcases hx _ _ _ _ _ q9 with rfl | rfl | rfl
    · refine y_catch hC htab [] ⟨0, 10, 13, 18⟩ [⟨0, 10, 17, 13⟩, ⟨0, 10, 21, 65⟩] rfl (by decide) (by decide) (Or.inr (Or.inl rfl)) cl_L_18 (fun z hz => absurd hz List.not_mem_nil) (fun q => ?_)
      refine y_astore hC dL_represent_13 (by decide) rfl ?_
      refine y_iconst hC dL_represent_15 rfl ?_
      exact y_iret hC hr rfl (by omega) (by omega) dL_represent_16 (Or.inr ⟨_, rfl, q9⟩)
    · refine y_catch hC htab [⟨0, 10, 13, 18⟩] ⟨0, 10, 17, 13⟩ [⟨0, 10, 21, 65⟩] rfl (by decide) (by decide) (Or.inl rfl) cl_L_13 (by
        intro z hz
        simp only [List.mem_cons, List.not_mem_nil, or_false] at hz
        subst hz
        · exact ⟨by decide, _, cl_L_18, fun h => h.2.2.1⟩) (fun q => ?_)
      refine y_astore hC dL_represent_17 (by decide) rfl ?_
      refine y_iconst hC dL_represent_19 rfl ?_
      exact y_iret hC hr rfl (by omega) (by omega) dL_represent_20 (Or.inr ⟨_, rfl, q9⟩)
    · refine y_catch hC htab [⟨0, 10, 13, 18⟩, ⟨0, 10, 17, 13⟩] ⟨0, 10, 21, 65⟩ [] rfl (by decide) (by decide) (Or.inr (Or.inr rfl)) cl_L_65 (by
        intro z hz
        simp only [List.mem_cons, List.not_mem_nil, or_false] at hz
        rcases hz with rfl | rfl
        · exact ⟨by decide, _, cl_L_18, fun h => h.2.2.2.1⟩
        · exact ⟨by decide, _, cl_L_13, fun h => h.2.2.2.2⟩) (fun q => ?_)
      refine y_astore hC dL_represent_21 (by decide) rfl ?_
      refine y_iconst hC dL_represent_23 rfl ?_
      exact y_iret hC hr rfl (by omega) (by omega) dL_represent_24 (Or.inr ⟨_, rfl, q9⟩)
  · intro v n2 sh2 I2 L2 q9
    obtain ⟨⟨r, rfl⟩, ha⟩ := ho _ _ _ _ _ q9
    show Y _ _ _ _ _ _ _ _ _ _ _ _ _ (.int r :: _)
    refine y_i2l hC dL_represent_8 ?_
    refine y_last hC ha (show vp_in (nI 0) 1 from vp_in_nI (by decide) (by decide)) dL_represent_9 ?_
    refine y_goto (tgt := 25) hC dL_represent_10 (by decide) ?_
    refine y_iconst hC dL_represent_25 rfl ?_
    exact y_iret hC hr rfl (by omega) (by omega) dL_represent_26 (Or.inl ⟨r, L2, rfl, rfl, q9⟩)
theorem w_L_escalate : yCW RL 198 yL_escalate cL_escalate 4 (some .int) [(0, 9, 12, 18), (0, 9, 15, 65)] 3 := ⟨yT_in (i := 939) (by decide +kernel) (by decide +kernel), yT_in (i := 941) (by decide +kernel) (by decide +kernel), yT_in (i := 0) (by decide +kernel) (by decide +kernel), yT_in (i := 940) (by decide +kernel) (by decide +kernel), ⟨by decide, by decide, by decide +kernel⟩, by decide⟩
set_option maxRecDepth 100000 in
set_option maxHeartbeats 4000000 in
theorem w_escalate (l : Launch) (D : yD) (z : Nat) {n : Nat} {sh : yS} {I : yI} {L : yL} {c o d9 mc ms : Nat} {x0 : Int32} {Qr : Option Value → Nat → yS → yI → yL → Prop} {Qx : String → Nat → yS → yI → yL → Prop} (hM : ∀ l, yM l D z yX7_escalate cX7_escalate 4 (some .int) d9 mc ms [.ref c, .int x0] n sh I L Qr Qx) (hc : (sh c).1 = 7) (ho : ∀ v n2 sh2 I2 L2, Qr v n2 sh2 I2 L2 → (∃ r, v = some (.int r)) ∧ yArr sh2 o 11 1) (hx : ∀ E n2 sh2 I2 L2, Qx E n2 sh2 I2 L2 → E = "java/lang/IndexOutOfBoundsException" ∨ E = "java/lang/IllegalStateException") : yMH l D z yL_escalate cL_escalate 4 (some .int) [(0, 9, 12, 18), (0, 9, 15, 65)] (d9 + 1) mc ms [.ref c, .int x0, .ref o] n sh I L (lwQ ecB Int32.toInt64 o Qr Qx) := by
  refine yMH_of (by decide) (Nat.le_of_ble_eq_true rfl) rfl ?_
  intro X hC hr hRc hRs htab
  have hC : yC X D z cL_escalate RL 4 (d9 + 1) := hC
  refine y_aload_n hC dL_escalate_0 rfl ?_
  refine y_iconst hC dL_escalate_1 rfl ?_
  refine y_aload_n hC dL_escalate_2 rfl ?_
  refine y_iload_n hC dL_escalate_3 rfl ?_
  refine y_callV hC (hM X.2.1) m_L_74 rfl hc (Nat.le_refl _) (Nat.le_of_ble_eq_true rfl) ⟨by rw [hRc]; omega, by rw [hRs]; omega⟩ dL_escalate_4 ?_ ?_
  · intro E n2 sh2 I2 L2 q9
    rcases hx _ _ _ _ _ q9 with rfl | rfl
    · refine y_catch hC htab [] ⟨0, 9, 12, 18⟩ [⟨0, 9, 15, 65⟩] rfl (by decide) (by decide) (Or.inr (Or.inl rfl)) cl_L_18 (fun z hz => absurd hz List.not_mem_nil) (fun q => ?_)
      refine y_astore_n hC dL_escalate_12 (by decide) rfl ?_
      refine y_iconst hC dL_escalate_13 rfl ?_
      exact y_iret hC hr rfl (by omega) (by omega) dL_escalate_14 (Or.inr ⟨_, rfl, q9⟩)
    · refine y_catch hC htab [⟨0, 9, 12, 18⟩] ⟨0, 9, 15, 65⟩ [] rfl (by decide) (by decide) (Or.inr (Or.inr rfl)) cl_L_65 (by
        intro z hz
        simp only [List.mem_cons, List.not_mem_nil, or_false] at hz
        subst hz
        · exact ⟨by decide, _, cl_L_18, fun h => h.2.2.2.1⟩) (fun q => ?_)
      refine y_astore_n hC dL_escalate_15 (by decide) rfl ?_
      refine y_iconst hC dL_escalate_16 rfl ?_
      exact y_iret hC hr rfl (by omega) (by omega) dL_escalate_17 (Or.inr ⟨_, rfl, q9⟩)
  · intro v n2 sh2 I2 L2 q9
    obtain ⟨⟨r, rfl⟩, ha⟩ := ho _ _ _ _ _ q9
    show Y _ _ _ _ _ _ _ _ _ _ _ _ _ (.int r :: _)
    refine y_i2l hC dL_escalate_7 ?_
    refine y_last hC ha (show vp_in (nI 0) 1 from vp_in_nI (by decide) (by decide)) dL_escalate_8 ?_
    refine y_goto (tgt := 18) hC dL_escalate_9 (by decide) ?_
    refine y_iconst hC dL_escalate_18 rfl ?_
    exact y_iret hC hr rfl (by omega) (by omega) dL_escalate_19 (Or.inl ⟨r, L2, rfl, rfl, q9⟩)
theorem w_L_contest : yCW RL 201 yL_contest cL_contest 5 (some .int) [(0, 10, 13, 18), (0, 10, 17, 13), (0, 10, 21, 65)] 4 := ⟨yT_in (i := 950) (by decide +kernel) (by decide +kernel), yT_in (i := 952) (by decide +kernel) (by decide +kernel), yT_in (i := 0) (by decide +kernel) (by decide +kernel), yT_in (i := 951) (by decide +kernel) (by decide +kernel), ⟨by decide, by decide, by decide +kernel⟩, by decide⟩
set_option maxRecDepth 100000 in
set_option maxHeartbeats 4000000 in
theorem w_contest (l : Launch) (D : yD) (z : Nat) {n : Nat} {sh : yS} {I : yI} {L : yL} {c o d9 mc ms : Nat} {x0 x1 : Int32} {Qr : Option Value → Nat → yS → yI → yL → Prop} {Qx : String → Nat → yS → yI → yL → Prop} (hM : ∀ l, yM l D z yX7_contest cX7_contest 5 (some .int) d9 mc ms [.ref c, .int x0, .int x1] n sh I L Qr Qx) (hc : (sh c).1 = 7) (ho : ∀ v n2 sh2 I2 L2, Qr v n2 sh2 I2 L2 → (∃ r, v = some (.int r)) ∧ yArr sh2 o 11 1) (hx : ∀ E n2 sh2 I2 L2, Qx E n2 sh2 I2 L2 → E = "java/lang/IndexOutOfBoundsException" ∨ E = "java/lang/IllegalArgumentException" ∨ E = "java/lang/IllegalStateException") : yMH l D z yL_contest cL_contest 5 (some .int) [(0, 10, 13, 18), (0, 10, 17, 13), (0, 10, 21, 65)] (d9 + 1) mc ms [.ref c, .int x0, .int x1, .ref o] n sh I L (lwQ ecA Int32.toInt64 o Qr Qx) := by
  refine yMH_of (by decide) (Nat.le_of_ble_eq_true rfl) rfl ?_
  intro X hC hr hRc hRs htab
  have hC : yC X D z cL_contest RL 5 (d9 + 1) := hC
  refine y_aload_n hC dL_contest_0 rfl ?_
  refine y_iconst hC dL_contest_1 rfl ?_
  refine y_aload_n hC dL_contest_2 rfl ?_
  refine y_iload_n hC dL_contest_3 rfl ?_
  refine y_iload_n hC dL_contest_4 rfl ?_
  refine y_callV hC (hM X.2.1) m_L_77 rfl hc (Nat.le_refl _) (Nat.le_of_ble_eq_true rfl) ⟨by rw [hRc]; omega, by rw [hRs]; omega⟩ dL_contest_5 ?_ ?_
  · intro E n2 sh2 I2 L2 q9
    rcases hx _ _ _ _ _ q9 with rfl | rfl | rfl
    · refine y_catch hC htab [] ⟨0, 10, 13, 18⟩ [⟨0, 10, 17, 13⟩, ⟨0, 10, 21, 65⟩] rfl (by decide) (by decide) (Or.inr (Or.inl rfl)) cl_L_18 (fun z hz => absurd hz List.not_mem_nil) (fun q => ?_)
      refine y_astore hC dL_contest_13 (by decide) rfl ?_
      refine y_iconst hC dL_contest_15 rfl ?_
      exact y_iret hC hr rfl (by omega) (by omega) dL_contest_16 (Or.inr ⟨_, rfl, q9⟩)
    · refine y_catch hC htab [⟨0, 10, 13, 18⟩] ⟨0, 10, 17, 13⟩ [⟨0, 10, 21, 65⟩] rfl (by decide) (by decide) (Or.inl rfl) cl_L_13 (by
        intro z hz
        simp only [List.mem_cons, List.not_mem_nil, or_false] at hz
        subst hz
        · exact ⟨by decide, _, cl_L_18, fun h => h.2.2.1⟩) (fun q => ?_)
      refine y_astore hC dL_contest_17 (by decide) rfl ?_
      refine y_iconst hC dL_contest_19 rfl ?_
      exact y_iret hC hr rfl (by omega) (by omega) dL_contest_20 (Or.inr ⟨_, rfl, q9⟩)
    · refine y_catch hC htab [⟨0, 10, 13, 18⟩, ⟨0, 10, 17, 13⟩] ⟨0, 10, 21, 65⟩ [] rfl (by decide) (by decide) (Or.inr (Or.inr rfl)) cl_L_65 (by
        intro z hz
        simp only [List.mem_cons, List.not_mem_nil, or_false] at hz
        rcases hz with rfl | rfl
        · exact ⟨by decide, _, cl_L_18, fun h => h.2.2.2.1⟩
        · exact ⟨by decide, _, cl_L_13, fun h => h.2.2.2.2⟩) (fun q => ?_)
      refine y_astore hC dL_contest_21 (by decide) rfl ?_
      refine y_iconst hC dL_contest_23 rfl ?_
      exact y_iret hC hr rfl (by omega) (by omega) dL_contest_24 (Or.inr ⟨_, rfl, q9⟩)
  · intro v n2 sh2 I2 L2 q9
    obtain ⟨⟨r, rfl⟩, ha⟩ := ho _ _ _ _ _ q9
    show Y _ _ _ _ _ _ _ _ _ _ _ _ _ (.int r :: _)
    refine y_i2l hC dL_contest_8 ?_
    refine y_last hC ha (show vp_in (nI 0) 1 from vp_in_nI (by decide) (by decide)) dL_contest_9 ?_
    refine y_goto (tgt := 25) hC dL_contest_10 (by decide) ?_
    refine y_iconst hC dL_contest_25 rfl ?_
    exact y_iret hC hr rfl (by omega) (by omega) dL_contest_26 (Or.inl ⟨r, L2, rfl, rfl, q9⟩)
theorem w_L_accept : yCW RL 204 yL_accept cL_accept 4 (some .int) [(0, 9, 12, 18), (0, 9, 15, 65)] 3 := ⟨yT_in (i := 961) (by decide +kernel) (by decide +kernel), yT_in (i := 963) (by decide +kernel) (by decide +kernel), yT_in (i := 0) (by decide +kernel) (by decide +kernel), yT_in (i := 962) (by decide +kernel) (by decide +kernel), ⟨by decide, by decide, by decide +kernel⟩, by decide⟩
set_option maxRecDepth 100000 in
set_option maxHeartbeats 4000000 in
theorem w_accept (l : Launch) (D : yD) (z : Nat) {n : Nat} {sh : yS} {I : yI} {L : yL} {c o d9 mc ms : Nat} {x0 : Int32} {Qr : Option Value → Nat → yS → yI → yL → Prop} {Qx : String → Nat → yS → yI → yL → Prop} (hM : ∀ l, yM l D z yX7_accept cX7_accept 4 (some .int) d9 mc ms [.ref c, .int x0] n sh I L Qr Qx) (hc : (sh c).1 = 7) (ho : ∀ v n2 sh2 I2 L2, Qr v n2 sh2 I2 L2 → (∃ r, v = some (.int r)) ∧ yArr sh2 o 11 1) (hx : ∀ E n2 sh2 I2 L2, Qx E n2 sh2 I2 L2 → E = "java/lang/IndexOutOfBoundsException" ∨ E = "java/lang/IllegalStateException") : yMH l D z yL_accept cL_accept 4 (some .int) [(0, 9, 12, 18), (0, 9, 15, 65)] (d9 + 1) mc ms [.ref c, .int x0, .ref o] n sh I L (lwQ ecB Int32.toInt64 o Qr Qx) := by
  refine yMH_of (by decide) (Nat.le_of_ble_eq_true rfl) rfl ?_
  intro X hC hr hRc hRs htab
  have hC : yC X D z cL_accept RL 4 (d9 + 1) := hC
  refine y_aload_n hC dL_accept_0 rfl ?_
  refine y_iconst hC dL_accept_1 rfl ?_
  refine y_aload_n hC dL_accept_2 rfl ?_
  refine y_iload_n hC dL_accept_3 rfl ?_
  refine y_callV hC (hM X.2.1) m_L_80 rfl hc (Nat.le_refl _) (Nat.le_of_ble_eq_true rfl) ⟨by rw [hRc]; omega, by rw [hRs]; omega⟩ dL_accept_4 ?_ ?_
  · intro E n2 sh2 I2 L2 q9
    rcases hx _ _ _ _ _ q9 with rfl | rfl
    · refine y_catch hC htab [] ⟨0, 9, 12, 18⟩ [⟨0, 9, 15, 65⟩] rfl (by decide) (by decide) (Or.inr (Or.inl rfl)) cl_L_18 (fun z hz => absurd hz List.not_mem_nil) (fun q => ?_)
      refine y_astore_n hC dL_accept_12 (by decide) rfl ?_
      refine y_iconst hC dL_accept_13 rfl ?_
      exact y_iret hC hr rfl (by omega) (by omega) dL_accept_14 (Or.inr ⟨_, rfl, q9⟩)
    · refine y_catch hC htab [⟨0, 9, 12, 18⟩] ⟨0, 9, 15, 65⟩ [] rfl (by decide) (by decide) (Or.inr (Or.inr rfl)) cl_L_65 (by
        intro z hz
        simp only [List.mem_cons, List.not_mem_nil, or_false] at hz
        subst hz
        · exact ⟨by decide, _, cl_L_18, fun h => h.2.2.2.1⟩) (fun q => ?_)
      refine y_astore_n hC dL_accept_15 (by decide) rfl ?_
      refine y_iconst hC dL_accept_16 rfl ?_
      exact y_iret hC hr rfl (by omega) (by omega) dL_accept_17 (Or.inr ⟨_, rfl, q9⟩)
  · intro v n2 sh2 I2 L2 q9
    obtain ⟨⟨r, rfl⟩, ha⟩ := ho _ _ _ _ _ q9
    show Y _ _ _ _ _ _ _ _ _ _ _ _ _ (.int r :: _)
    refine y_i2l hC dL_accept_7 ?_
    refine y_last hC ha (show vp_in (nI 0) 1 from vp_in_nI (by decide) (by decide)) dL_accept_8 ?_
    refine y_goto (tgt := 18) hC dL_accept_9 (by decide) ?_
    refine y_iconst hC dL_accept_18 rfl ?_
    exact y_iret hC hr rfl (by omega) (by omega) dL_accept_19 (Or.inl ⟨r, L2, rfl, rfl, q9⟩)
theorem w_L_pass : yCW RL 207 yL_pass cL_pass 4 (some .int) [(0, 9, 12, 13), (0, 9, 15, 65)] 3 := ⟨yT_in (i := 975) (by decide +kernel) (by decide +kernel), yT_in (i := 977) (by decide +kernel) (by decide +kernel), yT_in (i := 0) (by decide +kernel) (by decide +kernel), yT_in (i := 976) (by decide +kernel) (by decide +kernel), ⟨by decide, by decide, by decide +kernel⟩, by decide⟩
set_option maxRecDepth 100000 in
set_option maxHeartbeats 4000000 in
theorem w_pass (l : Launch) (D : yD) (z : Nat) {n : Nat} {sh : yS} {I : yI} {L : yL} {c o d9 mc ms : Nat} {x0 : Int32} {Qr : Option Value → Nat → yS → yI → yL → Prop} {Qx : String → Nat → yS → yI → yL → Prop} (hM : ∀ l, yM l D z yX7_pass cX7_pass 5 (some .int) d9 mc ms [.ref c, .int x0] n sh I L Qr Qx) (hc : (sh c).1 = 7) (ho : ∀ v n2 sh2 I2 L2, Qr v n2 sh2 I2 L2 → (∃ r, v = some (.int r)) ∧ yArr sh2 o 11 1) (hx : ∀ E n2 sh2 I2 L2, Qx E n2 sh2 I2 L2 → E = "java/lang/IllegalArgumentException" ∨ E = "java/lang/IllegalStateException") : yMH l D z yL_pass cL_pass 4 (some .int) [(0, 9, 12, 13), (0, 9, 15, 65)] (d9 + 1) mc ms [.ref c, .int x0, .ref o] n sh I L (lwQ ecC Int32.toInt64 o Qr Qx) := by
  refine yMH_of (by decide) (Nat.le_of_ble_eq_true rfl) rfl ?_
  intro X hC hr hRc hRs htab
  have hC : yC X D z cL_pass RL 4 (d9 + 1) := hC
  refine y_aload_n hC dL_pass_0 rfl ?_
  refine y_iconst hC dL_pass_1 rfl ?_
  refine y_aload_n hC dL_pass_2 rfl ?_
  refine y_iload_n hC dL_pass_3 rfl ?_
  refine y_callV hC (hM X.2.1) m_L_83 rfl hc (Nat.le_refl _) (Nat.le_of_ble_eq_true rfl) ⟨by rw [hRc]; omega, by rw [hRs]; omega⟩ dL_pass_4 ?_ ?_
  · intro E n2 sh2 I2 L2 q9
    rcases hx _ _ _ _ _ q9 with rfl | rfl
    · refine y_catch hC htab [] ⟨0, 9, 12, 13⟩ [⟨0, 9, 15, 65⟩] rfl (by decide) (by decide) (Or.inl rfl) cl_L_13 (fun z hz => absurd hz List.not_mem_nil) (fun q => ?_)
      refine y_astore_n hC dL_pass_12 (by decide) rfl ?_
      refine y_iconst hC dL_pass_13 rfl ?_
      exact y_iret hC hr rfl (by omega) (by omega) dL_pass_14 (Or.inr ⟨_, rfl, q9⟩)
    · refine y_catch hC htab [⟨0, 9, 12, 13⟩] ⟨0, 9, 15, 65⟩ [] rfl (by decide) (by decide) (Or.inr (Or.inr rfl)) cl_L_65 (by
        intro z hz
        simp only [List.mem_cons, List.not_mem_nil, or_false] at hz
        subst hz
        · exact ⟨by decide, _, cl_L_13, fun h => h.2.2.2.2⟩) (fun q => ?_)
      refine y_astore_n hC dL_pass_15 (by decide) rfl ?_
      refine y_iconst hC dL_pass_16 rfl ?_
      exact y_iret hC hr rfl (by omega) (by omega) dL_pass_17 (Or.inr ⟨_, rfl, q9⟩)
  · intro v n2 sh2 I2 L2 q9
    obtain ⟨⟨r, rfl⟩, ha⟩ := ho _ _ _ _ _ q9
    show Y _ _ _ _ _ _ _ _ _ _ _ _ _ (.int r :: _)
    refine y_i2l hC dL_pass_7 ?_
    refine y_last hC ha (show vp_in (nI 0) 1 from vp_in_nI (by decide) (by decide)) dL_pass_8 ?_
    refine y_goto (tgt := 18) hC dL_pass_9 (by decide) ?_
    refine y_iconst hC dL_pass_18 rfl ?_
    exact y_iret hC hr rfl (by omega) (by omega) dL_pass_19 (Or.inl ⟨r, L2, rfl, rfl, q9⟩)
