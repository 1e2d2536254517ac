theorem yAOA.spec {s : State} (h : yAOA s) : ∃ comp c k, s.vm.findClass (FieldType.array .int).toString = some comp ∧ (s.vm.classes.findIdx? fun (x : Class) => match x.kind with | .array component _ => component == comp | _ => false) = some c ∧ s.vm.classes[c]? = some k ∧ k.kind = .array comp (.array .int) ∧ s.vm.findClass ("[" ++ (FieldType.array .int).toString) = some c := by
  unfold yAOA Cond.before at h
  simp only [Cond.holds, Cond.value, beq_iff_eq] at h
  cases hc : s.vm.findClass (FieldType.array .int).toString with
  | none => simp [hc] at h
  | some comp =>
    simp only [hc, Option.bind_some, Option.bind_eq_some_iff, Option.map_eq_some_iff] at h
    obtain ⟨c, hi, k, hk, hb⟩ := h
    obtain ⟨hlt, hp, -⟩ := Array.findIdx?_eq_some_iff_getElem.mp hi
    have hkk : s.vm.classes[c] = k := (Array.getElem?_eq_some_iff.mp hk).2
    rw [hkk] at hp
    cases hkind : k.kind with
    | array component ty =>
      rw [hkind] at hb hp
      simp at hb hp
      exact ⟨comp, c, k, rfl, hi, hk, by rw [hkind, hp, hb.1], hb.2⟩
    | _ => rw [hkind] at hb; simp at hb
theorem yAOA.moved {u U : State} (hvm : u.vm.Alike U.vm) (h : yAOA u) : yAOA U := by
  obtain ⟨comp, c, k, h1, h2, h3, h4, h5⟩ := h.spec
  obtain ⟨k', hk', he⟩ := hvm.2.2 _ _ h3
  have hi : (U.vm.classes.findIdx? fun (x : Class) => match x.kind with | .array component _ => component == comp | _ => false) = some c := by
    rw [hvm.findIdx?_eqK _ (fun _ => rfl)]
    exact h2
  have hkind : k'.kind = .array comp (.array .int) := by rw [he]; exact h4
  have f1 : U.vm.findClass (FieldType.array .int).toString = some comp := by rw [hvm.findClass]; exact h1
  have f2 : U.vm.findClass ("[" ++ (FieldType.array .int).toString) = some c := by rw [hvm.findClass]; exact h5
  unfold yAOA Cond.before Cond.holds
  simp only [Cond.value]
  rw [f1, Option.bind_some]
  refine (congrArg (fun o : Option Nat => (o.bind (fun c => (U.vm.classes[c]?).map fun (k : Class) => match k.kind with | .array _ ty => decide (ty = FieldType.array .int) && decide (U.vm.findClass ("[" ++ (FieldType.array .int).toString) = some c) | _ => false) == some true)) hi).trans ?_
  simp [hk', hkind, f2]
def yPx2 (D : yD) (z : Nat) (av : List Value) (n : Nat) (sh : yS) (I : yI) (L : yL) : Array Value → State → Prop := va_Pc av (fun U => yRep D z n sh I L U.heap ∧ yG D z U ∧ yAOA U)
/-- a contract that needs an int[][] to have been made before -/
def yMx (l : Launch) (D : yD) (z : Nat) (y : MethodName) (cc : ByteArray) (nL : Nat) (ret : Option FieldType) (dep mc ms : Nat) (av : List Value) (n : Nat) (sh : yS) (I : yI) (L : yL) (Qr : Option Value → Nat → yS → yI → yL → Prop) (Qx : String → Nat → yS → yI → yL → Prop) : Prop :=
  l.stackTraces = false → vx_Met l y (.code y cc nL ret :: yT) (yRm dep mc ms) (yPx2 D z av n sh I L) (yQ D z Qr) (yXC D z Qx) mc ms (fun q => z ≤ q)
theorem yPx2_blind {D : yD} {z : Nat} {av : List Value} {n : Nat} {sh : yS} {I : yI} {L : yL} : FrameBlind (yPx2 D z av n sh I L) := by
  intro a U g mk h
  obtain ⟨h1, h2, h3, h4⟩ := h
  exact ⟨h1, h2, yG.moved (State.WarmedH.refl U) (fun _ _ => rfl) h3.2.2.2.1 h3, yAOA.moved (State.WarmedH.refl U).alike h4⟩
theorem yMx_of {l : Launch} {D : yD} {z : Nat} {y : MethodName} {cc : ByteArray} {nL : Nat} {ret : Option FieldType} {dep mc ms : Nat} {av : List Value} {n : Nat} {sh : yS} {I : yI} {L : yL} {Qr : Option Value → Nat → yS → yI → yL → Prop} {Qx : String → Nat → yS → yI → yL → Prop} {lv : List (Option Value)} (hy : plainName y.cls = true) (hav : (lg_sl av).length ≤ nL) (hlv : ypad nL (yent av) = lv)
    (body : ∀ X : yX, yC X D z cc y.cls nL dep → yAOA (ys X) → (ymeth X).sig.returnType = ret → (ymeth X).name = y.name → (yR X).cells = mc → (yR X).slots = ms → (∀ x ∈ (yc X).exceptionTable.toList, False) → Y X D z nL n sh I L 0 0 (yEnd X D z Qr Qx mc ms) 0 lv []) : yMx l D z y cc nL ret dep mc ms av n sh I L Qr Qx := by
  intro hst
  refine vx_ofW (cc := cc) (maxL := nL) (ret := ret) hy rfl ?_
  intro p e s m args below meth c s₁ B hml ht hv
  obtain ⟨rfl, hR, hG, hA⟩ := hv
  have hts := atoms_spec (ws := .code y cc nL ret :: yT) B.pre
  rw [lg_entry_eq]
  refine body (p, l, e, yRm dep mc ms, s, m, av.toArray, below, meth, c) ⟨B.exec, B.bytes, hml, findClass_of_methodNamed B.named, fun w hw => hts w (List.mem_cons_of_mem _ hw), hG, Nat.le_refl _, Nat.le_refl _, B.notSynchronized, hst⟩ hA B.returns (name_of_methodNamed B.named B.method).1 rfl rfl ht s.heap [] _ hR ⟨Nat.le_refl _, fun _ _ => rfl⟩ (fun o h => absurd h List.not_mem_nil) ?_
  rw [← hlv]
  exact yLV.entry hav
theorem y_callIx {X : yX} {D : yD} {z nL n : Nat} {sh : yS} {I : yI} {L : yL} {k w : Nat} {Q : State → Prop} {pc : Nat} {lv : List (Option Value)} {st stk : List Value} {cc : ByteArray} {own : String} {dep : Nat} {y : MethodName} {bytes : ByteArray} {maxL : Nat} {d2 mc ms idx b : Nat} {As : List Value} {Qr : Option Value → Nat → yS → yI → yL → Prop} {Qx : String → Nat → yS → yI → yL → Prop} (hC : yC X D z cc own nL dep) (hA : yAOA (ys X)) (hM : yMx X.2.1 D z y bytes maxL none d2 mc ms (.ref b :: As) n sh I L Qr Qx) (cw : yCI own idx y bytes maxL As.length) (hs : stk = ypush (.ref b :: As) st) (hdep : d2 + 1 ≤ dep) (hst : (st.map fun v => v.category).sum ≤ 8) (hroom : k + mc ≤ (yR X).cells ∧ w + ms ≤ (yR X).slots) (hd : decode cc pc = .ok (.invokespecial idx, 3))
    (kx : ∀ E n sh I L, Qx E n sh I L → YX X D z nL n sh I L (k + mc) (w + ms) Q pc lv st E)
    (kk : ∀ v n sh I L, Qr v n sh I L → Y X D z nL n sh I L (k + mc) (w + ms) Q (pc + 3) lv (v.toList ++ st)) : Y X D z nL n sh I L k w Q pc lv stk := by
  intro H locs ls h1 h2 h3 h4
  refine y_run (a := (Value.ref b :: As).toArray) (vx_runI (own := own) (bytes := bytes) (maxL := maxL) (n := As.length) (As := As) (b := b) (rest := st) ⟨hC.1, hC.2.1, hC.2.2.1, hC.2.2.2.1, hC.2.2.2.2.1⟩ (hM hC.2.2.2.2.2.2.2.2.2) ⟨y_cb hC cw.1 hdep, cw.2.1, hC.2.2.2.2.1 _ cw.2.2⟩ ⟨yPx2_blind, fun U hU hW => ⟨rfl, by rw [hU]; exact h1, yG.moved hW (fun q hq => by rw [hU]; exact h2.2 q hq) (by rw [hU, h1.2.1]; exact h1.1) hC.2.2.2.2.2.1, yAOA.moved hW.alike hA⟩⟩ rfl rfl h4.1 ?_ (lv_room hst) hd hroom) h2 h3 h4 kk kx
  rw [hs, ypush_eq]; simp
theorem y_gen {X : yX} {D : yD} {z nL n : Nat} {sh : yS} {I : yI} {L : yL} {k w : Nat} {Q : State → Prop} {pc : Nat} {lv : List (Option Value)} {st : List Value} (h : ∀ sh2 I2 L2, sh2 = sh → I2 = I → L2 = L → Y X D z nL n sh2 I2 L2 k w Q pc lv st) : Y X D z nL n sh I L k w Q pc lv st := h _ _ _ rfl rfl rfl
set_option maxRecDepth 100000 in
set_option maxHeartbeats 4000000 in
theorem c_X8_init (l : Launch) (D : yD) (z : Nat) {sh : yS} {I : yI} {L : yL} {q : Nat} (ho : (sh q).1 = 8) (hz : I q = fun _ => 0) : yMx l D z yX8_init cX8_init 1 none 1 14 22472 [.ref q] (q + 1) sh I L (fun v n2 sh2 I2 L2 => v = none ∧ n2 = q + 15 ∧ yMod sh2 q ∧ (I2 q 7 = -1 ∧ ∀ j, j ≠ 7 → I2 q j = 0) ∧ (I2 (q + 1) = fun _ => 0) ∧ I2 (q + 2) = clrD (fun _ => 0) ∧ (∀ b, b < q → sh2 b = sh b) ∧ (∀ b, b < q → I2 b = I b) ∧ (∀ b, b < q → L2 b = L b)) yno := by
  refine yMx_of (by decide) (Nat.le_of_ble_eq_true rfl) rfl ?_
  intro X hC hA hr hnm hRc hRs htb
  have hC : yC X D z cX8_init RX8 1 1 := hC
  have n5 : ¬ q + 5 < q := by omega
  have n6 : ¬ q + 5 ≤ q := by omega
  refine y_aload_n hC dX8_init_0 rfl ?_
  refine y_objInit hC oi_X8 oi_inst oi_code (by decide) (Nat.le_of_ble_eq_true rfl) dX8_init_1 ?_
  refine y_aload_n hC dX8_init_4 rfl ?_
  refine y_sipush (v := nI 900) hC dX8_init_5 (by decide) ?_
  refine y_newarr (t := 10) (ti := 1) (N := 900) hC (Or.inr (Or.inl ⟨rfl, rfl, rfl⟩)) (by decide) (by decide) (by decide) ac_int (by rw [hRc]; decide) (by rw [hRs]; decide) dX8_init_8 ?_
  refine y_putR hC (by simp [upr, va_up, mnS, ho, n5, Nat.add_assoc]) f_X8_9 rfl (by constructor <;> rfl) (Or.inr ⟨hnm, fun _ _ _ h => yCls_own h kX8⟩) dX8_init_10 ?_
  refine y_aload_n hC dX8_init_13 rfl ?_
  refine y_iconst (v := (-1)) hC dX8_init_14 (by decide) ?_
  refine y_putI hC (by simp [upr, va_up, ho]) f_X8_13 rfl (Or.inl rfl) dX8_init_15 ?_
  refine y_aload_n hC dX8_init_18 rfl ?_
  refine y_sipush (v := nI 1824) hC dX8_init_19 (by decide) ?_
  refine y_newarr (t := 10) (ti := 1) (N := 1824) hC (Or.inr (Or.inl ⟨rfl, rfl, rfl⟩)) (by decide) (by decide) (by decide) ac_int (by rw [hRc]; decide) (by rw [hRs]; decide) dX8_init_22 ?_
  refine y_putR hC (by simp [upr, va_up, mnS, ho, n5, Nat.add_assoc]) f_X8_17 rfl (by constructor <;> rfl) (Or.inr ⟨hnm, fun _ _ _ h => yCls_own h kX8⟩) dX8_init_24 ?_
  refine y_aload_n hC dX8_init_27 rfl ?_
  refine y_sipush (v := nI 1824) hC dX8_init_28 (by decide) ?_
  refine y_newarr (t := 10) (ti := 1) (N := 1824) hC (Or.inr (Or.inl ⟨rfl, rfl, rfl⟩)) (by decide) (by decide) (by decide) ac_int (by rw [hRc]; decide) (by rw [hRs]; decide) dX8_init_31 ?_
  refine y_putR hC (by simp [upr, va_up, mnS, ho, n5, Nat.add_assoc]) f_X8_20 rfl (by constructor <;> rfl) (Or.inr ⟨hnm, fun _ _ _ h => yCls_own h kX8⟩) dX8_init_33 ?_
  refine y_aload_n hC dX8_init_36 rfl ?_
  refine y_sipush (v := nI 1824) hC dX8_init_37 (by decide) ?_
  refine y_newarr (t := 10) (ti := 1) (N := 1824) hC (Or.inr (Or.inl ⟨rfl, rfl, rfl⟩)) (by decide) (by decide) (by decide) ac_int (by rw [hRc]; decide) (by rw [hRs]; decide) dX8_init_40 ?_
  refine y_putR hC (by simp [upr, va_up, mnS, ho, n5, Nat.add_assoc]) f_X8_23 rfl (by constructor <;> rfl) (Or.inr ⟨hnm, fun _ _ _ h => yCls_own h kX8⟩) dX8_init_42 ?_
  refine y_aload_n hC dX8_init_45 rfl ?_
  refine y_bipush (v := nI 8) hC dX8_init_46 (by decide) ?_
  refine y_sipush (v := nI 1824) hC dX8_init_48 (by decide) ?_
  refine y_mna (N := 8) (K := 1824) hC hA (by decide) (by decide) (by decide) (by decide) (by decide) (by decide) cl_X8_26 (by rw [hRc]; decide) (by rw [hRs]; decide) dX8_init_51 ?_
  refine y_putR hC (by simp [upr, va_up, mnS, ho, n5, Nat.add_assoc]) f_X8_28 rfl (by constructor <;> rfl) (Or.inr ⟨hnm, fun _ _ _ h => yCls_own h kX8⟩) dX8_init_55 ?_
  refine y_aload_n hC dX8_init_58 rfl ?_
  refine y_sipush (v := nI 1500) hC dX8_init_59 (by decide) ?_
  refine y_newarr (t := 11) (ti := 2) (N := 1500) hC (Or.inr (Or.inr ⟨rfl, rfl, rfl⟩)) (by decide) (by decide) (by decide) ac_long (by rw [hRc]; decide) (by rw [hRs]; decide) dX8_init_62 ?_
  refine y_putR hC (by simp [upr, va_up, mnS, ho, n5, Nat.add_assoc]) f_X8_31 rfl (by constructor <;> rfl) (Or.inr ⟨hnm, fun _ _ _ h => yCls_own h kX8⟩) dX8_init_64 ?_
  refine y_gen (fun sh9 I9 L9 e1 e2 e3 => ?_)
  have hM : yMod sh9 q := by
    rw [e1]
    refine ⟨?_, ?_, ?_, ?_, ?_, ?_, ?_, ?_, ?_, ?_, ?_, ?_, ?_, fun j hj => ?_, fun j hj => ?_⟩
    rotate_right 1
    · unfold yArr
      rw [show ∀ (s : yS) (w : Option Nat) (j9 : Nat), upr s q j9 w (q + 6 + j) = s (q + 6 + j) from fun s w j9 => va_up_ne _ _ (by omega), va_up_ne _ _ (show q + 6 + j ≠ q + 1 + 1 + 1 + 1 + 1 + 1 + 8 by omega), show ∀ (s : yS) (w : Option Nat) (j9 : Nat), upr s q j9 w (q + 6 + j) = s (q + 6 + j) from fun s w j9 => va_up_ne _ _ (by omega), mnS, if_neg (by omega), if_pos (by omega)]
      exact ⟨rfl, rfl⟩
    all_goals first
    | (simp [yArr, upr, va_up, mnS, ho, n5, Nat.add_assoc]; done)
    | (simp [yArr, upr, va_up, mnS, ho, hj, n5, Nat.add_assoc]; done)
  have hI7 : I9 q 7 = -1 ∧ ∀ j, j ≠ 7 → I9 q j = 0 := by
    rw [e2]
    constructor
    · simp [mnI, va_up, up2, upd, hz, n6, Nat.add_assoc]
    · intro j hj
      simp [mnI, va_up, up2, upd, hz, n6, hj, Nat.add_assoc]
  have hI1 : I9 (q + 1) = fun _ => 0 := by
    rw [e2]
    simp [mnI, va_up, up2, upd, hz, n6, Nat.add_assoc]
  have hI2 : I9 (q + 2) = fun _ => 0 := by
    rw [e2]
    simp [mnI, va_up, up2, upd, hz, n6, Nat.add_assoc]
  have hs : ∀ b, b < q → sh9 b = sh b := fun b hb => by
    rw [e1]
    have g : ∀ j, b ≠ q + j := fun j => by omega
    have g0 : b ≠ q := by omega
    simp [upr, va_up, mnS, g, g0, Nat.add_assoc, show ¬ q + 5 < b by omega]
  have hi : ∀ b, b < q → I9 b = I b := fun b hb => by
    rw [e2]
    have g : ∀ j, b ≠ q + j := fun j => by omega
    have g0 : b ≠ q := by omega
    simp [up2, va_up, mnI, g, g0, Nat.add_assoc, show ¬ q + 5 ≤ b by omega]
  have hl : ∀ b, b < q → L9 b = L b := fun b hb => by
    rw [e3]
    have g : ∀ j, b ≠ q + j := fun j => by omega
    simp [va_up, g, Nat.add_assoc]
  refine y_aload_n hC dX8_init_67 rfl ?_
  refine y_getR hC (yM_o hM) (yM_r8 hM) f_X8_17 rfl dX8_init_68 ?_
  have hc := c_X8_clear X.2.1 D z (n := q + 1 + 1 + 1 + 1 + 1 + 1 + 8 + 1) (I := I9) (L := L9) (a := q + 2) (d := I9 (q + 2)) (yM_a8 hM)
  rw [va_up_id, hI2] at hc
  refine y_callS0 hC hc m_X8_35 rfl (by decide) (Nat.le_of_ble_eq_true rfl) (by rw [hRc]; decide) (by rw [hRs]; decide) dX8_init_71 ?_
  exact y_vret hC hr (by decide) (by decide) dX8_init_74 ⟨rfl, rfl, hM, ⟨(congrFun (va_up_ne _ _ (by omega)) 7).trans hI7.1, fun j hj => (congrFun (va_up_ne _ _ (by omega)) j).trans (hI7.2 j hj)⟩, (va_up_ne _ _ (by omega)).trans hI1, va_up_self _ _ _, hs, fun b hb => (va_up_ne _ _ (by omega)).trans (hi b hb), hl⟩
