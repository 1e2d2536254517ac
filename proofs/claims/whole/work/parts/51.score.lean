section RowsLA
variable {X : yX} {D : yD} {z nL n : Nat} {sh : yS} {I : yI} {L : yL} {k w : Nat} {Q : State → Prop} {pc : Nat} {lv : List (Option Value)} {st : List Value} {cc : ByteArray} {own : String} {dep : Nat} {a len : Nat} {S : Nat → Int64}
theorem y_laldA (hC : yC X D z cc own nL dep) {j : Nat} (ha : yArr sh a 11 len) (hj : j < len ∧ len < 2147483648) (hd : decode cc pc = .ok (.laload, 1)) (kk : Y X D z nL n sh I (va_up L a S) k w Q (pc + 1) lv (.long (S j) :: st)) : Y X D z nL n sh I (va_up L a S) k w Q pc lv (.int (nI j) :: .ref a :: st) := y_laldN hC ha hj hd (by rw [show va_up L a S a = S by simp [va_up]]; exact kk)
theorem y_lastA (hC : yC X D z cc own nL dep) {j : Nat} {v : Int64} (ha : yArr sh a 11 len) (hj : j < len ∧ len < 2147483648) (hd : decode cc pc = .ok (.lastore, 1)) (kk : Y X D z nL n sh I (va_up L a (vp_updL S j v)) k w Q (pc + 1) lv st) : Y X D z nL n sh I (va_up L a S) k w Q pc lv (.long v :: .int (nI j) :: .ref a :: st) := y_lastN hC ha hj hd (by
  rw [show up2L (va_up L a S) a j v = va_up L a (vp_updL S j v) by
    unfold up2L
    rw [bx_uu, show va_up L a S a = S by simp [va_up]]]
  exact kk)
end RowsLA
def popc : Nat → Nat → Nat
  | 0, _ => 0
  | f + 1, a => a % 2 + popc f (a / 2)
theorem popc_0 : ∀ f, popc f 0 = 0
  | 0 => rfl
  | f + 1 => by
    show 0 % 2 + popc f (0 / 2) = 0
    rw [show 0 / 2 = 0 from rfl, popc_0 f]
theorem nI_and (a b : Nat) : nI a &&& nI b = nI (a &&& b) := by
  unfold nI
  exact (Int32.toBitVec_inj.mp (by simp [Int32.toBitVec_and, Int32.toBitVec_ofNat, BitVec.ofNat_and])).symm
set_option maxRecDepth 100000 in
set_option maxHeartbeats 4000000 in
theorem c_X8_members (l : Launch) (D : yD) (z : Nat) {n : Nat} {sh : yS} {I : yI} {L : yL} {x : Int32} {e : Nat} (hx : x = nI e) (he : e < 2147483648) : yM l D z yX8_members cX8_members 3 (some .int) 0 0 0 [.int x] n sh I L (yF (some (.int (nI (popc 31 e)))) n sh I L) (yno) := by
  subst hx
  refine yM_of (by decide) (Nat.le_of_ble_eq_true rfl) rfl ?_
  intro X hC hr hnm hRc hRs htb
  have hC : yC X D z cX8_members RX8 3 0 := hC
  refine y_iconst (v := nI 0) hC dX8_members_0 (by decide) ?_
  refine y_istore_n hC dX8_members_1 (by decide) rfl ?_
  refine y_iload_n hC dX8_members_2 rfl ?_
  refine y_istore_n hC dX8_members_3 (by decide) rfl ?_
  have lp4 : ∀ (f9 b : Nat) (s : Nat), b < 2 ^ f9 ∧ b < 2147483648 → s + popc f9 b = popc 31 e → Y X D z 3 n sh I L 0 0 (yEnd X D z (yF (some (.int (nI (popc 31 e)))) n sh I L) (yno) 0 0) 4 [some (.int (nI e)), some (.int (nI s)), some (.int (nI b))] [] := by
    intro f9
    induction f9 with
    | zero =>
      intro b s hm hi
      refine y_iload_n hC dX8_members_4 rfl ?_
      refine y_if_le (tgt := 21) hC dX8_members_5 (by decide) (fun c5 => ?_) (fun c5 => absurd (by rw [show b = 0 by omega]; decide) c5)
      refine y_iload_n hC dX8_members_21 rfl ?_
      exact y_iret hC hr rfl (Nat.zero_le _) (Nat.zero_le _) dX8_members_22 (yF.mk (congrArg (fun q => some (Value.int (nI q))) (by have h0 : b = 0 := (by first | omega | exact Nat.eq_zero_of_not_pos (fun q => nI_nle q (by omega) c5)); subst h0; rw [popc_0] at hi; omega)))
    | succ f9 ih =>
      intro b s hm hi
      refine y_iload_n hC dX8_members_4 rfl ?_
      refine y_if_le (tgt := 21) hC dX8_members_5 (by decide) (fun c5 => ?_) (fun c5 => ?_)
      · refine y_iload_n hC dX8_members_21 rfl ?_
        exact y_iret hC hr rfl (Nat.zero_le _) (Nat.zero_le _) dX8_members_22 (yF.mk (congrArg (fun q => some (Value.int (nI q))) (by have h0 : b = 0 := (by first | omega | exact Nat.eq_zero_of_not_pos (fun q => nI_nle q (by omega) c5)); subst h0; rw [popc_0] at hi; omega)))
      · refine y_iload_n hC dX8_members_8 rfl ?_
        refine y_iload_n hC dX8_members_9 rfl ?_
        refine y_iconst (v := nI 2) hC dX8_members_10 (by decide) ?_
        refine y_irem hC dX8_members_11 (by decide) ?_
        rw [pk_rem (by omega) (by decide) (by decide)]
        refine y_iaddN hC dX8_members_12 ?_
        refine y_istore_n hC dX8_members_13 (by decide) rfl ?_
        refine y_iload_n hC dX8_members_14 rfl ?_
        refine y_iconst (v := nI 2) hC dX8_members_15 (by decide) ?_
        refine y_idiv hC dX8_members_16 (by decide) ?_
        rw [pk_div (by omega) (by decide) (by decide)]
        refine y_istore_n hC dX8_members_17 (by decide) rfl ?_
        refine y_goto (tgt := 4) hC dX8_members_18 (by decide) ?_
        exact ih (b / 2) (s + b % 2) ⟨by have := hm.1; rw [Nat.pow_succ] at this; omega, by omega⟩ (by rw [← hi, popc]; omega)
  exact lp4 31 e 0 ⟨Nat.lt_of_lt_of_le he (by decide), he⟩ (Nat.zero_add _)
def lim (v : Int64) : Int64 := if v ≤ 1000000 then (if -1000000 ≤ v then v else -1000000) else 1000000
set_option maxRecDepth 100000 in
set_option maxHeartbeats 4000000 in
theorem c_X8_limited (l : Launch) (D : yD) (z : Nat) {n : Nat} {sh : yS} {I : yI} {L : yL} {v : Int64} : yM l D z yX8_limited cX8_limited 2 (some .long) 0 0 0 [.long v] n sh I L (yF (some (.long (lim v))) n sh I L) (yno) := by
  refine yM_of (by decide) (Nat.le_of_ble_eq_true rfl) rfl ?_
  intro X hC hr hnm hRc hRs htb
  have hC : yC X D z cX8_limited RX8 2 0 := hC
  refine y_lload_n hC dX8_limited_0 rfl ?_
  refine y_ldc2 hC k_X8_172 dX8_limited_1 ?_
  refine y_lcmp hC dX8_limited_4 ?_
  refine y_if_le (tgt := 14) hC dX8_limited_5 (by decide) (fun c5 => ?_) (fun c5 => ?_)
  · refine y_lload_n hC dX8_limited_14 rfl ?_
    refine y_ldc2 hC k_X8_174 dX8_limited_15 ?_
    refine y_lcmp hC dX8_limited_18 ?_
    refine y_if_ge (tgt := 28) hC dX8_limited_19 (by decide) (fun c19 => ?_) (fun c19 => ?_)
    · refine y_lload_n hC dX8_limited_28 rfl ?_
      exact y_lret hC hr (Nat.zero_le _) (Nat.zero_le _) dX8_limited_29 (yF.mk (congrArg (fun q => some (Value.long q)) (by unfold lim; first | exact (if_neg (fun q => c5 ((lg_cmp_le _ _).mpr q))).symm | exact ((if_pos ((lg_cmp_le _ _).mp c5)).trans (if_pos ((lg_cmp_ge _ _).mp c19))).symm | exact ((if_pos ((lg_cmp_le _ _).mp c5)).trans (if_neg (fun q => c19 ((lg_cmp_ge _ _).mpr q)))).symm)))
    · refine y_ldc2 hC k_X8_174 dX8_limited_22 ?_
      refine y_goto (tgt := 29) hC dX8_limited_25 (by decide) ?_
      exact y_lret hC hr (Nat.zero_le _) (Nat.zero_le _) dX8_limited_29 (yF.mk (congrArg (fun q => some (Value.long q)) (by unfold lim; first | exact (if_neg (fun q => c5 ((lg_cmp_le _ _).mpr q))).symm | exact ((if_pos ((lg_cmp_le _ _).mp c5)).trans (if_pos ((lg_cmp_ge _ _).mp c19))).symm | exact ((if_pos ((lg_cmp_le _ _).mp c5)).trans (if_neg (fun q => c19 ((lg_cmp_ge _ _).mpr q)))).symm)))
  · refine y_ldc2 hC k_X8_172 dX8_limited_8 ?_
    refine y_goto (tgt := 29) hC dX8_limited_11 (by decide) ?_
    exact y_lret hC hr (Nat.zero_le _) (Nat.zero_le _) dX8_limited_29 (yF.mk (congrArg (fun q => some (Value.long q)) (by unfold lim; first | exact (if_neg (fun q => c5 ((lg_cmp_le _ _).mpr q))).symm | exact ((if_pos ((lg_cmp_le _ _).mp c5)).trans (if_pos ((lg_cmp_ge _ _).mp c19))).symm | exact ((if_pos ((lg_cmp_le _ _).mp c5)).trans (if_neg (fun q => c19 ((lg_cmp_ge _ _).mpr q)))).symm)))
def opM (op : Int32) (x y : Int64) : Int64 := if op = 5 then (if y = 0 then 0 else x / y) else lim (if op = 2 then x + y else if op = 3 then x - y else x * y)
set_option maxRecDepth 100000 in
set_option maxHeartbeats 4000000 in
theorem c_X8_operate (l : Launch) (D : yD) (z : Nat) {n : Nat} {sh : yS} {I : yI} {L : yL} {op : Int32} {x y : Int64} : yM l D z yX8_operate cX8_operate 5 (some .long) 1 0 0 [.int op, .long x, .long y] n sh I L (yF (some (.long (opM op x y))) n sh I L) (yno) := by
  refine yM_of (by decide) (Nat.le_of_ble_eq_true rfl) rfl ?_
  intro X hC hr hnm hRc hRs htb
  have hC : yC X D z cX8_operate RX8 5 1 := hC
  refine y_iload_n hC dX8_operate_0 rfl ?_
  refine y_iconst (v := 5) hC dX8_operate_1 (by decide) ?_
  refine y_icmp_ne (tgt := 19) hC dX8_operate_2 (by decide) (fun c2 => ?_) (fun c2 => ?_)
  · refine y_iload_n hC dX8_operate_19 rfl ?_
    refine y_iconst (v := 2) hC dX8_operate_20 (by decide) ?_
    refine y_icmp_ne (tgt := 30) hC dX8_operate_21 (by decide) (fun c21 => ?_) (fun c21 => ?_)
    · refine y_iload_n hC dX8_operate_30 rfl ?_
      refine y_iconst (v := 3) hC dX8_operate_31 (by decide) ?_
      refine y_icmp_ne (tgt := 41) hC dX8_operate_32 (by decide) (fun c32 => ?_) (fun c32 => ?_)
      · refine y_lload_n hC dX8_operate_41 rfl ?_
        refine y_lload_n hC dX8_operate_42 rfl ?_
        refine y_lmul hC dX8_operate_43 ?_
        refine y_callS1 hC (c_X8_limited X.2.1 D z) m_X8_176 rfl (by decide) (Nat.le_of_ble_eq_true rfl) (Nat.zero_le _) (Nat.zero_le _) dX8_operate_44 ?_
        exact y_lret hC hr (Nat.zero_le _) (Nat.zero_le _) dX8_operate_47 (yF.mk (congrArg (fun q => some (Value.long q)) (by unfold opM; first | rw [if_pos c2, if_pos ((lg_cmp_eq _ _).mp c8)] | rw [if_pos c2, if_neg (fun q => c8 ((lg_cmp_eq _ _).mpr q))] | rw [if_neg c2, if_pos c21] | rw [if_neg c2, if_neg c21, if_pos c32] | rw [if_neg c2, if_neg c21, if_neg c32])))
      · refine y_lload_n hC dX8_operate_35 rfl ?_
        refine y_lload_n hC dX8_operate_36 rfl ?_
        refine y_lsub hC dX8_operate_37 ?_
        refine y_goto (tgt := 44) hC dX8_operate_38 (by decide) ?_
        refine y_callS1 hC (c_X8_limited X.2.1 D z) m_X8_176 rfl (by decide) (Nat.le_of_ble_eq_true rfl) (Nat.zero_le _) (Nat.zero_le _) dX8_operate_44 ?_
        exact y_lret hC hr (Nat.zero_le _) (Nat.zero_le _) dX8_operate_47 (yF.mk (congrArg (fun q => some (Value.long q)) (by unfold opM; first | rw [if_pos c2, if_pos ((lg_cmp_eq _ _).mp c8)] | rw [if_pos c2, if_neg (fun q => c8 ((lg_cmp_eq _ _).mpr q))] | rw [if_neg c2, if_pos c21] | rw [if_neg c2, if_neg c21, if_pos c32] | rw [if_neg c2, if_neg c21, if_neg c32])))
    · refine y_lload_n hC dX8_operate_24 rfl ?_
      refine y_lload_n hC dX8_operate_25 rfl ?_
      refine y_ladd hC dX8_operate_26 ?_
      refine y_goto (tgt := 44) hC dX8_operate_27 (by decide) ?_
      refine y_callS1 hC (c_X8_limited X.2.1 D z) m_X8_176 rfl (by decide) (Nat.le_of_ble_eq_true rfl) (Nat.zero_le _) (Nat.zero_le _) dX8_operate_44 ?_
      exact y_lret hC hr (Nat.zero_le _) (Nat.zero_le _) dX8_operate_47 (yF.mk (congrArg (fun q => some (Value.long q)) (by unfold opM; first | rw [if_pos c2, if_pos ((lg_cmp_eq _ _).mp c8)] | rw [if_pos c2, if_neg (fun q => c8 ((lg_cmp_eq _ _).mpr q))] | rw [if_neg c2, if_pos c21] | rw [if_neg c2, if_neg c21, if_pos c32] | rw [if_neg c2, if_neg c21, if_neg c32])))
  · refine y_lload_n hC dX8_operate_5 rfl ?_
    refine y_lconst (v := 0) hC dX8_operate_6 (by decide) ?_
    refine y_lcmp hC dX8_operate_7 ?_
    refine y_if_ne (tgt := 15) hC dX8_operate_8 (by decide) (fun c8 => ?_) (fun c8 => ?_)
    · refine y_lload_n hC dX8_operate_15 rfl ?_
      refine y_lload_n hC dX8_operate_16 rfl ?_
      refine y_ldiv hC dX8_operate_17 (fun q => c8 ((lg_cmp_eq _ _).mpr q)) ?_
      exact y_lret hC hr (Nat.zero_le _) (Nat.zero_le _) dX8_operate_18 (yF.mk (congrArg (fun q => some (Value.long q)) (by unfold opM; first | rw [if_pos c2, if_pos ((lg_cmp_eq _ _).mp c8)] | rw [if_pos c2, if_neg (fun q => c8 ((lg_cmp_eq _ _).mpr q))] | rw [if_neg c2, if_pos c21] | rw [if_neg c2, if_neg c21, if_pos c32] | rw [if_neg c2, if_neg c21, if_neg c32])))
    · refine y_lconst (v := 0) hC dX8_operate_11 (by decide) ?_
      refine y_goto (tgt := 18) hC dX8_operate_12 (by decide) ?_
      exact y_lret hC hr (Nat.zero_le _) (Nat.zero_le _) dX8_operate_18 (yF.mk (congrArg (fun q => some (Value.long q)) (by unfold opM; first | rw [if_pos c2, if_pos ((lg_cmp_eq _ _).mp c8)] | rw [if_pos c2, if_neg (fun q => c8 ((lg_cmp_eq _ _).mpr q))] | rw [if_neg c2, if_pos c21] | rw [if_neg c2, if_neg c21, if_pos c32] | rw [if_neg c2, if_neg c21, if_neg c32])))
/-- the code from place i on is that of these items -/
def cAt (d : Nat → Int32) : Nat → List Int32 → Prop
  | i, [] => d 10 = nI i ∧ i ≤ 1500
  | i, it :: r => i + 2 ≤ 1500 ∧ ((d 10 = nI (tn (d 10)) ∧ i < tn (d 10) ∧ tn (d 10) ≤ 1500) ∧ ((0 ≤ it ∧ d (324 + i) = 0 ∧ d (324 + (i + 1)) = it ∧ cAt d (i + 1 + 1) r) ∨ (it = -1 ∧ d (324 + i) = 1 ∧ d (324 + (i + 1)) = 0 ∧ cAt d (i + 1 + 1) r) ∨ (it = -2 ∧ d (324 + i) = 1 ∧ d (324 + (i + 1)) = 1 ∧ cAt d (i + 1 + 1) r) ∨ (it = -3 ∧ d (324 + i) = 1 ∧ d (324 + (i + 1)) = 2 ∧ cAt d (i + 1 + 1) r) ∨ (it = -4 ∧ d (324 + i) = 1 ∧ d (324 + (i + 1)) = 3 ∧ cAt d (i + 1 + 1) r) ∨ (it = -5 ∧ d (324 + i) = 2 ∧ cAt d (i + 1) r) ∨ (it = -6 ∧ d (324 + i) = 3 ∧ cAt d (i + 1) r) ∨ (it = -7 ∧ d (324 + i) = 4 ∧ cAt d (i + 1) r) ∨ (it = -8 ∧ d (324 + i) = 5 ∧ cAt d (i + 1) r)))
/-- the items are worked off without want of operands, with at most mx at a time -/
def okc (mx : Nat) : List Int32 → Nat → Prop
  | [], t => t = 1
  | it :: r, t => if it ≤ -5 then 2 ≤ t ∧ okc mx r (t - 1) else t < mx ∧ okc mx r (t + 1)
def mop2 (it : Int32) : List Int64 → List Int64
  | y :: x :: s => opM (-3 - it) x y :: s
  | _ => []
def mstp (val : Int32 → Int64) (it : Int32) (s : List Int64) : List Int64 := if it ≤ -5 then mop2 it s else val it :: s
def mrun (val : Int32 → Int64) : List Int32 → List Int64 → List Int64
  | [], s => s
  | it :: r, s => mrun val r (mstp val it s)
def sOk (S : Nat → Int64) : List Int64 → Prop
  | [] => True
  | v :: r => S r.length = v ∧ sOk S r
theorem sOk.up {S : Nat → Int64} {v : Int64} {j : Nat} : ∀ {s : List Int64}, sOk S s → s.length ≤ j → sOk (vp_updL S j v) s
  | [], _, _ => trivial
  | x :: r, h, hj => ⟨by
      have h1 := h.1
      have h2 : r.length ≠ j := by have : r.length + 1 ≤ j := hj; omega
      unfold vp_updL
      rw [if_neg h2]; exact h1, sOk.up h.2 (by have : r.length + 1 ≤ j := hj; omega)⟩
theorem sOk.push {S : Nat → Int64} {v : Int64} {s : List Int64} (h : sOk S s) : sOk (vp_updL S s.length v) (v :: s) := ⟨by unfold vp_updL; rw [if_pos rfl], h.up (Nat.le_refl _)⟩
def hdL : List Int64 → Int64
  | [] => 0
  | x :: _ => x
/-- the score of the set e for dispute k -/
def valM (d : Nat → Int32) (k p e ne : Nat) (it : Int32) : Int64 := (fop it (nI (popc 31 e)) (nI (popc 31 (e &&& ne))) (d (164 + 8 * k + 2)) (d (164 + 8 * k + 3) - d (68 + 4 * p + 3))).toInt64
def scM (d : Nat → Int32) (k p e ne : Nat) (cd : List Int32) : Int32 := if d 9 = 0 then nI (popc 31 e) else (hdL (mrun (valM d k p e ne) cd [])).toInt32
abbrev yFl (r : Option Value) (n : Nat) (sh : yS) (I : yI) (q : Nat) (L : yL) : Option Value → Nat → yS → yI → yL → Prop := fun v n2 sh2 I2 L2 => v = r ∧ n2 = n ∧ sh2 = sh ∧ I2 = I ∧ ∃ S, L2 = va_up L (q + 14) S
theorem va_upL_id (L : yL) (a : Nat) : va_up L a (L a) = L := by
  funext b
  unfold va_up
  split
  · rename_i h; rw [h]
  · rfl
theorem yFl.mk {r : Option Value} {n : Nat} {sh : yS} {I : yI} {q : Nat} {L : yL} {S : Nat → Int64} {v : Option Value} (h : v = r) : yFl r n sh I q L v n sh I (va_up L (q + 14) S) := ⟨h, rfl, rfl, rfl, S, rfl⟩
theorem yFl.same {r : Option Value} {n : Nat} {sh : yS} {I : yI} {q : Nat} {L : yL} {v : Option Value} (h : v = r) : yFl r n sh I q L v n sh I L := ⟨h, rfl, rfl, rfl, _, (va_upL_id L (q + 14)).symm⟩
section CallsL
variable {X : yX} {D : yD} {z nL n n2 : Nat} {sh sh2 : yS} {I I2 : yI} {L L0 : yL} {k w : Nat} {Q : State → Prop} {pc : Nat} {lv : List (Option Value)} {st stk : List Value} {cc : ByteArray} {own : String} {dep : Nat}
variable {y : MethodName} {bytes : ByteArray} {maxL : Nat} {ret : Option FieldType} {d2 mc ms idx ci b q : Nat} {As : List Value} {v : Value}
theorem y_callV1l (hC : yC X D z cc own nL dep) (hM : ∀ S, yM X.2.1 D z y bytes maxL ret d2 0 0 (.ref b :: As) n sh I (va_up L (q + 14) S) (yFl (some v) n2 sh2 I2 q (va_up L (q + 14) S)) yno) (cw : yCV own idx ci y bytes maxL ret As.length) (hs : stk = ypush (.ref b :: As) st) (hb : (sh b).1 = ci) (hdep : d2 + 1 ≤ dep) (hst : (st.map fun v => v.category).sum ≤ 8) (hk : k ≤ (yR X).cells) (hw : w ≤ (yR X).slots) (hd : decode cc pc = .ok (.invokevirtual idx, 3)) {S0 : Nat → Int64} (kk : ∀ S, Y X D z nL n2 sh2 I2 (va_up L (q + 14) S) k w Q (pc + 3) lv (v :: st)) : Y X D z nL n sh I (va_up L (q + 14) S0) k w Q pc lv stk := y_callV hC (hM S0) cw hs hb hdep hst ⟨hk, hw⟩ hd (fun _ _ _ _ _ h => h.elim) (fun _ _ _ _ _ h => by obtain ⟨rfl, rfl, rfl, rfl, S, rfl⟩ := h; rw [bx_uu]; exact kk S)
end CallsL
theorem m1_iinc (n : Nat) : nI (n + 1) + Int32.ofInt (-1) = nI n := by rw [← nI_pred n, Int32.sub_eq_add_neg]; rfl
set_option maxRecDepth 100000 in
set_option maxHeartbeats 4000000 in
theorem c_X8_scoreOf (l : Launch) (D : yD) (z : Nat) {n : Nat} {sh : yS} {I : yI} {L : yL} {q a : Nat} {d : Nat → Int32} (hQ : yMod sh q) (ha : yArr sh a 10 1824) {k p i m r : Nat} (hk : dK d k p i m r) {e ne : Nat} (he : e < 256) (hn8 : ne < 256) (hne : d (20 + 6 * r + 5) = nI ne) {cd : List Int32} (hcd : d 9 = 0 ∨ (cAt d 0 cd ∧ okc 1500 cd 0)) : yM l D z yX8_scoreOf cX8_scoreOf 9 (some .int) 2 0 0 [.ref q, .ref a, .int (nI k), .int (nI e)] n sh (va_up I a d) L (yFl (some (.int (scM d k p e ne cd))) n sh (va_up I a d) q L) (yno) := by
  refine yM_of (by decide) (Nat.le_of_ble_eq_true rfl) rfl ?_
  intro X hC hr hnm hRc hRs htb
  have hC : yC X D z cX8_scoreOf RX8 9 2 := hC
  have hkk := hk
  obtain ⟨k20, hp, p24, hi, i4, hm, m4, hr0, r8⟩ := hk
  refine y_aload_n hC dX8_scoreOf_0 rfl ?_
  refine y_bipush (v := nI 9) hC dX8_scoreOf_1 (by decide) ?_
  refine y_ialdAN hC ha (by decide) dX8_scoreOf_3 ?_
  refine y_if_ne (tgt := 12) hC dX8_scoreOf_4 (by decide) (fun c4 => ?_) (fun c4 => ?_)
  · refine y_iload_n hC dX8_scoreOf_12 rfl ?_
    refine y_callS1 hC (c_X8_dispute X.2.1 D z (j := k) rfl) m_X8_180 rfl (by decide) (Nat.le_of_ble_eq_true rfl) (Nat.zero_le _) (Nat.zero_le _) dX8_scoreOf_13 ?_
    refine y_istore hC dX8_scoreOf_16 (by decide) rfl ?_
    refine y_iconst (v := nI 0) hC dX8_scoreOf_18 (by decide) ?_
    refine y_istore hC dX8_scoreOf_19 (by decide) rfl ?_
    refine y_iconst (v := nI 0) hC dX8_scoreOf_21 (by decide) ?_
    refine y_istore hC dX8_scoreOf_22 (by decide) rfl ?_
    have lp : ∀ (rest : List Int32) (i7 : Nat) (sk : List Int64) (S : Nat → Int64) (v7 v8 : Option Value), cAt d i7 rest → okc 1500 rest sk.length → sk.length ≤ 1500 → sOk S sk → mrun (valM d k p e ne) rest sk = mrun (valM d k p e ne) cd [] → Y X D z 9 n sh (va_up I a d) (va_up L (q + 14) S) 0 0 (yEnd X D z (yFl (some (.int (scM d k p e ne cd))) n sh (va_up I a d) q L) (yno) 0 0) 24 [some (.ref q), some (.ref a), some (.int (nI k)), some (.int (nI e)), some (.int (nI (164 + 8 * k))), some (.int (nI sk.length)), some (.int (nI i7)), v7, v8] [] := by
      intro rest
      induction rest with
      | nil =>
        intro i7 sk S v7 v8 ca ok sl so hv
        obtain ⟨v, rfl⟩ : ∃ v, sk = [v] := List.length_eq_one_iff.mp ok
        refine y_iload hC dX8_scoreOf_24 rfl ?_
        refine y_aload_n hC dX8_scoreOf_26 rfl ?_
        refine y_bipush (v := nI 10) hC dX8_scoreOf_27 (by decide) ?_
        refine y_ialdAN hC ha (by decide) dX8_scoreOf_29 ?_
        rw [ca.1]
        refine y_icmp_ge (tgt := 193) hC dX8_scoreOf_30 (by decide) (fun c30 => ?_) (fun c30 => absurd (nI_le (Nat.le_refl _) (by have := ca.2; omega)) c30)
        refine y_aload_n hC dX8_scoreOf_193 rfl ?_
        refine y_getR hC (yM_o hQ) (yM_r16 hQ) f_X8_31 rfl dX8_scoreOf_194 ?_
        refine y_iconst (v := nI 0) hC dX8_scoreOf_197 (by decide) ?_
        refine y_laldA hC (yM_a16 hQ) (by decide) dX8_scoreOf_198 ?_
        refine y_l2i hC dX8_scoreOf_199 ?_
        exact y_iret hC hr rfl (Nat.zero_le _) (Nat.zero_le _) dX8_scoreOf_200 (yFl.mk (congrArg (fun q => some (Value.int q)) (by rw [scM, if_neg c4, ← hv, show S 0 = v from so.1]; rfl)))
      | cons it r ih =>
        intro i7 sk S v7 v8 ca ok sl so hv
        obtain ⟨i15, ⟨hn0, hn1, hn2⟩, ca⟩ := ca
        rcases ca with ⟨h0, e1, e2, ca⟩ | ⟨rfl, e1, e2, ca⟩ | ⟨rfl, e1, e2, ca⟩ | ⟨rfl, e1, e2, ca⟩ | ⟨rfl, e1, e2, ca⟩ | ⟨rfl, e1, ca⟩ | ⟨rfl, e1, ca⟩ | ⟨rfl, e1, ca⟩ | ⟨rfl, e1, ca⟩
        · have n5 : ¬ it ≤ -5 := fun q => absurd (Int32.le_trans h0 q) (by decide)
          have ok : sk.length < 1500 ∧ okc 1500 r (sk.length + 1) := by rw [okc, if_neg n5] at ok; exact ok
          refine y_iload hC dX8_scoreOf_24 rfl ?_
          refine y_aload_n hC dX8_scoreOf_26 rfl ?_
          refine y_bipush (v := nI 10) hC dX8_scoreOf_27 (by decide) ?_
          refine y_ialdAN hC ha (by decide) dX8_scoreOf_29 ?_
          rw [hn0]
          refine y_icmp_ge (tgt := 193) hC dX8_scoreOf_30 (by decide) (fun c30 => absurd (nI_le2 c30) (by omega)) (fun c30 => ?_)
          refine y_aload_n hC dX8_scoreOf_33 rfl ?_
          refine y_sipush (v := nI 324) hC dX8_scoreOf_34 (by decide) ?_
          refine y_iload hC dX8_scoreOf_37 rfl ?_
          refine y_iaddN hC dX8_scoreOf_39 ?_
          refine y_ialdAN hC ha (by omega) dX8_scoreOf_40 ?_
          rw [e1]
          refine y_istore hC dX8_scoreOf_41 (by decide) rfl ?_
          refine y_iload hC dX8_scoreOf_43 rfl ?_
          refine y_iconst (v := 1) hC dX8_scoreOf_45 (by decide) ?_
          refine y_icmp_gt (tgt := 154) hC dX8_scoreOf_46 (by decide) (fun c46 => absurd c46 (by decide)) (fun c46 => ?_)
          refine y_iincN hC dX8_scoreOf_49 rfl rfl (by decide) rfl ?_
          refine y_aload_n hC dX8_scoreOf_52 rfl ?_
          refine y_sipush (v := nI 324) hC dX8_scoreOf_53 (by decide) ?_
          refine y_iload hC dX8_scoreOf_56 rfl ?_
          refine y_iaddN hC dX8_scoreOf_58 ?_
          refine y_ialdAN hC ha (by omega) dX8_scoreOf_59 ?_
          rw [e2]
          refine y_istore hC dX8_scoreOf_60 (by decide) rfl ?_
          refine y_aload_n hC dX8_scoreOf_62 rfl ?_
          refine y_getR hC (yM_o hQ) (yM_r16 hQ) f_X8_31 rfl dX8_scoreOf_63 ?_
          refine y_iload hC dX8_scoreOf_66 rfl ?_
          refine y_iload hC dX8_scoreOf_68 rfl ?_
          refine y_if_ne (tgt := 79) hC dX8_scoreOf_70 (by decide) (fun c70 => absurd rfl c70) (fun c70 => ?_)
          refine y_iload hC dX8_scoreOf_73 rfl ?_
          refine y_i2l hC dX8_scoreOf_75 ?_
          refine y_goto (tgt := 147) hC dX8_scoreOf_76 (by decide) ?_
          refine y_lastA hC (yM_a16 hQ) ⟨ok.1, by decide⟩ dX8_scoreOf_147 ?_
          refine y_iincN hC dX8_scoreOf_148 rfl rfl (by decide) rfl ?_
          refine y_goto (tgt := 187) hC dX8_scoreOf_151 (by decide) ?_
          refine y_iincN hC dX8_scoreOf_187 rfl rfl (by decide) rfl ?_
          refine y_goto (tgt := 24) hC dX8_scoreOf_190 (by decide) ?_
          have hval : valM d k p e ne it = it.toInt64 := (by unfold valM fop; rw [if_neg (fun q => absurd (q ▸ h0) (by decide)), if_neg (fun q => absurd (q ▸ h0) (by decide)), if_neg (fun q => absurd (q ▸ h0) (by decide)), if_neg (fun q => absurd (q ▸ h0) (by decide))])
          exact ih (i7 + 1 + 1) (it.toInt64 :: sk) _ _ _ ca ok.2 (by show sk.length + 1 ≤ 1500; omega) so.push (by rw [← hv, mrun, mstp, if_neg n5, hval])
        · have n5 : ¬ (-1 : Int32) ≤ -5 := by decide
          have ok : sk.length < 1500 ∧ okc 1500 r (sk.length + 1) := by rw [okc, if_neg n5] at ok; exact ok
          refine y_iload hC dX8_scoreOf_24 rfl ?_
          refine y_aload_n hC dX8_scoreOf_26 rfl ?_
          refine y_bipush (v := nI 10) hC dX8_scoreOf_27 (by decide) ?_
          refine y_ialdAN hC ha (by decide) dX8_scoreOf_29 ?_
          rw [hn0]
          refine y_icmp_ge (tgt := 193) hC dX8_scoreOf_30 (by decide) (fun c30 => absurd (nI_le2 c30) (by omega)) (fun c30 => ?_)
          refine y_aload_n hC dX8_scoreOf_33 rfl ?_
          refine y_sipush (v := nI 324) hC dX8_scoreOf_34 (by decide) ?_
          refine y_iload hC dX8_scoreOf_37 rfl ?_
          refine y_iaddN hC dX8_scoreOf_39 ?_
          refine y_ialdAN hC ha (by omega) dX8_scoreOf_40 ?_
          rw [e1]
          refine y_istore hC dX8_scoreOf_41 (by decide) rfl ?_
          refine y_iload hC dX8_scoreOf_43 rfl ?_
          refine y_iconst (v := 1) hC dX8_scoreOf_45 (by decide) ?_
          refine y_icmp_gt (tgt := 154) hC dX8_scoreOf_46 (by decide) (fun c46 => absurd c46 (by decide)) (fun c46 => ?_)
          refine y_iincN hC dX8_scoreOf_49 rfl rfl (by decide) rfl ?_
          refine y_aload_n hC dX8_scoreOf_52 rfl ?_
          refine y_sipush (v := nI 324) hC dX8_scoreOf_53 (by decide) ?_
          refine y_iload hC dX8_scoreOf_56 rfl ?_
          refine y_iaddN hC dX8_scoreOf_58 ?_
          refine y_ialdAN hC ha (by omega) dX8_scoreOf_59 ?_
          rw [e2]
          refine y_istore hC dX8_scoreOf_60 (by decide) rfl ?_
          refine y_aload_n hC dX8_scoreOf_62 rfl ?_
          refine y_getR hC (yM_o hQ) (yM_r16 hQ) f_X8_31 rfl dX8_scoreOf_63 ?_
          refine y_iload hC dX8_scoreOf_66 rfl ?_
          refine y_iload hC dX8_scoreOf_68 rfl ?_
          refine y_if_ne (tgt := 79) hC dX8_scoreOf_70 (by decide) (fun c70 => ?_) (fun c70 => absurd c70 (by decide))
          refine y_iload hC dX8_scoreOf_79 rfl ?_
          refine y_if_ne (tgt := 92) hC dX8_scoreOf_81 (by decide) (fun c81 => absurd rfl c81) (fun c81 => ?_)
          refine y_iload_n hC dX8_scoreOf_84 rfl ?_
          refine y_callS1 hC (c_X8_members X.2.1 D z (e := e) rfl (by omega)) m_X8_183 rfl (by decide) (Nat.le_of_ble_eq_true rfl) (Nat.zero_le _) (Nat.zero_le _) dX8_scoreOf_85 ?_
          refine y_i2l hC dX8_scoreOf_88 ?_
          refine y_goto (tgt := 147) hC dX8_scoreOf_89 (by decide) ?_
          refine y_lastA hC (yM_a16 hQ) ⟨ok.1, by decide⟩ dX8_scoreOf_147 ?_
          refine y_iincN hC dX8_scoreOf_148 rfl rfl (by decide) rfl ?_
          refine y_goto (tgt := 187) hC dX8_scoreOf_151 (by decide) ?_
          refine y_iincN hC dX8_scoreOf_187 rfl rfl (by decide) rfl ?_
          refine y_goto (tgt := 24) hC dX8_scoreOf_190 (by decide) ?_
          have hval : valM d k p e ne (-1) = (nI (popc 31 e)).toInt64 := rfl
          exact ih (i7 + 1 + 1) ((nI (popc 31 e)).toInt64 :: sk) _ _ _ ca ok.2 (by show sk.length + 1 ≤ 1500; omega) so.push (by rw [← hv, mrun, mstp, if_neg n5, hval])
        · have n5 : ¬ (-2 : Int32) ≤ -5 := by decide
          have ok : sk.length < 1500 ∧ okc 1500 r (sk.length + 1) := by rw [okc, if_neg n5] at ok; exact ok
          refine y_iload hC dX8_scoreOf_24 rfl ?_
          refine y_aload_n hC dX8_scoreOf_26 rfl ?_
          refine y_bipush (v := nI 10) hC dX8_scoreOf_27 (by decide) ?_
          refine y_ialdAN hC ha (by decide) dX8_scoreOf_29 ?_
          rw [hn0]
          refine y_icmp_ge (tgt := 193) hC dX8_scoreOf_30 (by decide) (fun c30 => absurd (nI_le2 c30) (by omega)) (fun c30 => ?_)
          refine y_aload_n hC dX8_scoreOf_33 rfl ?_
          refine y_sipush (v := nI 324) hC dX8_scoreOf_34 (by decide) ?_
          refine y_iload hC dX8_scoreOf_37 rfl ?_
          refine y_iaddN hC dX8_scoreOf_39 ?_
          refine y_ialdAN hC ha (by omega) dX8_scoreOf_40 ?_
          rw [e1]
          refine y_istore hC dX8_scoreOf_41 (by decide) rfl ?_
          refine y_iload hC dX8_scoreOf_43 rfl ?_
          refine y_iconst (v := 1) hC dX8_scoreOf_45 (by decide) ?_
          refine y_icmp_gt (tgt := 154) hC dX8_scoreOf_46 (by decide) (fun c46 => absurd c46 (by decide)) (fun c46 => ?_)
          refine y_iincN hC dX8_scoreOf_49 rfl rfl (by decide) rfl ?_
          refine y_aload_n hC dX8_scoreOf_52 rfl ?_
          refine y_sipush (v := nI 324) hC dX8_scoreOf_53 (by decide) ?_
          refine y_iload hC dX8_scoreOf_56 rfl ?_
          refine y_iaddN hC dX8_scoreOf_58 ?_
          refine y_ialdAN hC ha (by omega) dX8_scoreOf_59 ?_
          rw [e2]
          refine y_istore hC dX8_scoreOf_60 (by decide) rfl ?_
          refine y_aload_n hC dX8_scoreOf_62 rfl ?_
          refine y_getR hC (yM_o hQ) (yM_r16 hQ) f_X8_31 rfl dX8_scoreOf_63 ?_
          refine y_iload hC dX8_scoreOf_66 rfl ?_
          refine y_iload hC dX8_scoreOf_68 rfl ?_
          refine y_if_ne (tgt := 79) hC dX8_scoreOf_70 (by decide) (fun c70 => ?_) (fun c70 => absurd c70 (by decide))
          refine y_iload hC dX8_scoreOf_79 rfl ?_
          refine y_if_ne (tgt := 92) hC dX8_scoreOf_81 (by decide) (fun c81 => ?_) (fun c81 => absurd c81 (by decide))
          refine y_iload hC dX8_scoreOf_92 rfl ?_
          refine y_iconst (v := 1) hC dX8_scoreOf_94 (by decide) ?_
          refine y_icmp_ne (tgt := 112) hC dX8_scoreOf_95 (by decide) (fun c95 => absurd rfl c95) (fun c95 => ?_)
          refine y_iload_n hC dX8_scoreOf_98 rfl ?_
          refine y_aload_n hC dX8_scoreOf_99 rfl ?_
          refine y_iload_n hC dX8_scoreOf_100 rfl ?_
          refine y_callS1 hC (c_X8_needsOf X.2.1 D z ha hkk) m_X8_186 rfl (by decide) (Nat.le_of_ble_eq_true rfl) (Nat.zero_le _) (Nat.zero_le _) dX8_scoreOf_101 ?_
          refine y_iand hC dX8_scoreOf_104 ?_
          refine y_callS1 hC (c_X8_members X.2.1 D z (e := e &&& ne) (by rw [hne, nI_and]) (Nat.lt_of_le_of_lt Nat.and_le_left (by omega))) m_X8_183 rfl (by decide) (Nat.le_of_ble_eq_true rfl) (Nat.zero_le _) (Nat.zero_le _) dX8_scoreOf_105 ?_
          refine y_i2l hC dX8_scoreOf_108 ?_
          refine y_goto (tgt := 147) hC dX8_scoreOf_109 (by decide) ?_
          refine y_lastA hC (yM_a16 hQ) ⟨ok.1, by decide⟩ dX8_scoreOf_147 ?_
          refine y_iincN hC dX8_scoreOf_148 rfl rfl (by decide) rfl ?_
          refine y_goto (tgt := 187) hC dX8_scoreOf_151 (by decide) ?_
          refine y_iincN hC dX8_scoreOf_187 rfl rfl (by decide) rfl ?_
          refine y_goto (tgt := 24) hC dX8_scoreOf_190 (by decide) ?_
          have hval : valM d k p e ne (-2) = (nI (popc 31 (e &&& ne))).toInt64 := rfl
          exact ih (i7 + 1 + 1) ((nI (popc 31 (e &&& ne))).toInt64 :: sk) _ _ _ ca ok.2 (by show sk.length + 1 ≤ 1500; omega) so.push (by rw [← hv, mrun, mstp, if_neg n5, hval])
        · have n5 : ¬ (-3 : Int32) ≤ -5 := by decide
          have ok : sk.length < 1500 ∧ okc 1500 r (sk.length + 1) := by rw [okc, if_neg n5] at ok; exact ok
          refine y_iload hC dX8_scoreOf_24 rfl ?_
          refine y_aload_n hC dX8_scoreOf_26 rfl ?_
          refine y_bipush (v := nI 10) hC dX8_scoreOf_27 (by decide) ?_
          refine y_ialdAN hC ha (by decide) dX8_scoreOf_29 ?_
          rw [hn0]
          refine y_icmp_ge (tgt := 193) hC dX8_scoreOf_30 (by decide) (fun c30 => absurd (nI_le2 c30) (by omega)) (fun c30 => ?_)
          refine y_aload_n hC dX8_scoreOf_33 rfl ?_
          refine y_sipush (v := nI 324) hC dX8_scoreOf_34 (by decide) ?_
          refine y_iload hC dX8_scoreOf_37 rfl ?_
          refine y_iaddN hC dX8_scoreOf_39 ?_
          refine y_ialdAN hC ha (by omega) dX8_scoreOf_40 ?_
          rw [e1]
          refine y_istore hC dX8_scoreOf_41 (by decide) rfl ?_
          refine y_iload hC dX8_scoreOf_43 rfl ?_
          refine y_iconst (v := 1) hC dX8_scoreOf_45 (by decide) ?_
          refine y_icmp_gt (tgt := 154) hC dX8_scoreOf_46 (by decide) (fun c46 => absurd c46 (by decide)) (fun c46 => ?_)
          refine y_iincN hC dX8_scoreOf_49 rfl rfl (by decide) rfl ?_
          refine y_aload_n hC dX8_scoreOf_52 rfl ?_
          refine y_sipush (v := nI 324) hC dX8_scoreOf_53 (by decide) ?_
          refine y_iload hC dX8_scoreOf_56 rfl ?_
          refine y_iaddN hC dX8_scoreOf_58 ?_
          refine y_ialdAN hC ha (by omega) dX8_scoreOf_59 ?_
          rw [e2]
          refine y_istore hC dX8_scoreOf_60 (by decide) rfl ?_
          refine y_aload_n hC dX8_scoreOf_62 rfl ?_
          refine y_getR hC (yM_o hQ) (yM_r16 hQ) f_X8_31 rfl dX8_scoreOf_63 ?_
          refine y_iload hC dX8_scoreOf_66 rfl ?_
          refine y_iload hC dX8_scoreOf_68 rfl ?_
          refine y_if_ne (tgt := 79) hC dX8_scoreOf_70 (by decide) (fun c70 => ?_) (fun c70 => absurd c70 (by decide))
          refine y_iload hC dX8_scoreOf_79 rfl ?_
          refine y_if_ne (tgt := 92) hC dX8_scoreOf_81 (by decide) (fun c81 => ?_) (fun c81 => absurd c81 (by decide))
          refine y_iload hC dX8_scoreOf_92 rfl ?_
          refine y_iconst (v := 1) hC dX8_scoreOf_94 (by decide) ?_
          refine y_icmp_ne (tgt := 112) hC dX8_scoreOf_95 (by decide) (fun c95 => ?_) (fun c95 => absurd c95 (by decide))
          refine y_iload hC dX8_scoreOf_112 rfl ?_
          refine y_iconst (v := 2) hC dX8_scoreOf_114 (by decide) ?_
          refine y_icmp_ne (tgt := 128) hC dX8_scoreOf_115 (by decide) (fun c115 => absurd rfl c115) (fun c115 => ?_)
          refine y_aload_n hC dX8_scoreOf_118 rfl ?_
          refine y_iload hC dX8_scoreOf_119 rfl ?_
          refine y_iconst (v := nI 2) hC dX8_scoreOf_121 (by decide) ?_
          refine y_iaddN hC dX8_scoreOf_122 ?_
          refine y_ialdAN hC ha (by omega) dX8_scoreOf_123 ?_
          refine y_i2l hC dX8_scoreOf_124 ?_
          refine y_goto (tgt := 147) hC dX8_scoreOf_125 (by decide) ?_
          refine y_lastA hC (yM_a16 hQ) ⟨ok.1, by decide⟩ dX8_scoreOf_147 ?_
          refine y_iincN hC dX8_scoreOf_148 rfl rfl (by decide) rfl ?_
          refine y_goto (tgt := 187) hC dX8_scoreOf_151 (by decide) ?_
          refine y_iincN hC dX8_scoreOf_187 rfl rfl (by decide) rfl ?_
          refine y_goto (tgt := 24) hC dX8_scoreOf_190 (by decide) ?_
          have hval : valM d k p e ne (-3) = (d (164 + 8 * k + 2)).toInt64 := rfl
          exact ih (i7 + 1 + 1) ((d (164 + 8 * k + 2)).toInt64 :: sk) _ _ _ ca ok.2 (by show sk.length + 1 ≤ 1500; omega) so.push (by rw [← hv, mrun, mstp, if_neg n5, hval])
        · have n5 : ¬ (-4 : Int32) ≤ -5 := by decide
          have ok : sk.length < 1500 ∧ okc 1500 r (sk.length + 1) := by rw [okc, if_neg n5] at ok; exact ok
          refine y_iload hC dX8_scoreOf_24 rfl ?_
          refine y_aload_n hC dX8_scoreOf_26 rfl ?_
          refine y_bipush (v := nI 10) hC dX8_scoreOf_27 (by decide) ?_
          refine y_ialdAN hC ha (by decide) dX8_scoreOf_29 ?_
          rw [hn0]
          refine y_icmp_ge (tgt := 193) hC dX8_scoreOf_30 (by decide) (fun c30 => absurd (nI_le2 c30) (by omega)) (fun c30 => ?_)
          refine y_aload_n hC dX8_scoreOf_33 rfl ?_
          refine y_sipush (v := nI 324) hC dX8_scoreOf_34 (by decide) ?_
          refine y_iload hC dX8_scoreOf_37 rfl ?_
          refine y_iaddN hC dX8_scoreOf_39 ?_
          refine y_ialdAN hC ha (by omega) dX8_scoreOf_40 ?_
          rw [e1]
          refine y_istore hC dX8_scoreOf_41 (by decide) rfl ?_
          refine y_iload hC dX8_scoreOf_43 rfl ?_
          refine y_iconst (v := 1) hC dX8_scoreOf_45 (by decide) ?_
          refine y_icmp_gt (tgt := 154) hC dX8_scoreOf_46 (by decide) (fun c46 => absurd c46 (by decide)) (fun c46 => ?_)
          refine y_iincN hC dX8_scoreOf_49 rfl rfl (by decide) rfl ?_
          refine y_aload_n hC dX8_scoreOf_52 rfl ?_
          refine y_sipush (v := nI 324) hC dX8_scoreOf_53 (by decide) ?_
          refine y_iload hC dX8_scoreOf_56 rfl ?_
          refine y_iaddN hC dX8_scoreOf_58 ?_
          refine y_ialdAN hC ha (by omega) dX8_scoreOf_59 ?_
          rw [e2]
          refine y_istore hC dX8_scoreOf_60 (by decide) rfl ?_
          refine y_aload_n hC dX8_scoreOf_62 rfl ?_
          refine y_getR hC (yM_o hQ) (yM_r16 hQ) f_X8_31 rfl dX8_scoreOf_63 ?_
          refine y_iload hC dX8_scoreOf_66 rfl ?_
          refine y_iload hC dX8_scoreOf_68 rfl ?_
          refine y_if_ne (tgt := 79) hC dX8_scoreOf_70 (by decide) (fun c70 => ?_) (fun c70 => absurd c70 (by decide))
          refine y_iload hC dX8_scoreOf_79 rfl ?_
          refine y_if_ne (tgt := 92) hC dX8_scoreOf_81 (by decide) (fun c81 => ?_) (fun c81 => absurd c81 (by decide))
          refine y_iload hC dX8_scoreOf_92 rfl ?_
          refine y_iconst (v := 1) hC dX8_scoreOf_94 (by decide) ?_
          refine y_icmp_ne (tgt := 112) hC dX8_scoreOf_95 (by decide) (fun c95 => ?_) (fun c95 => absurd c95 (by decide))
          refine y_iload hC dX8_scoreOf_112 rfl ?_
          refine y_iconst (v := 2) hC dX8_scoreOf_114 (by decide) ?_
          refine y_icmp_ne (tgt := 128) hC dX8_scoreOf_115 (by decide) (fun c115 => ?_) (fun c115 => absurd c115 (by decide))
          refine y_aload_n hC dX8_scoreOf_128 rfl ?_
          refine y_iload hC dX8_scoreOf_129 rfl ?_
          refine y_iconst (v := nI 3) hC dX8_scoreOf_131 (by decide) ?_
          refine y_iaddN hC dX8_scoreOf_132 ?_
          refine y_ialdAN hC ha (by omega) dX8_scoreOf_133 ?_
          refine y_aload_n hC dX8_scoreOf_134 rfl ?_
          refine y_aload_n hC dX8_scoreOf_135 rfl ?_
          refine y_iload hC dX8_scoreOf_136 rfl ?_
          refine y_ialdAN hC ha (by omega) dX8_scoreOf_138 ?_
          refine y_callS1 hC (c_X8_purchase X.2.1 D z hp) m_X8_190 rfl (by decide) (Nat.le_of_ble_eq_true rfl) (Nat.zero_le _) (Nat.zero_le _) dX8_scoreOf_139 ?_
          refine y_iconst (v := nI 3) hC dX8_scoreOf_142 (by decide) ?_
          refine y_iaddN hC dX8_scoreOf_143 ?_
          refine y_ialdAN hC ha (by omega) dX8_scoreOf_144 ?_
          refine y_isub hC dX8_scoreOf_145 ?_
          refine y_i2l hC dX8_scoreOf_146 ?_
          refine y_lastA hC (yM_a16 hQ) ⟨ok.1, by decide⟩ dX8_scoreOf_147 ?_
          refine y_iincN hC dX8_scoreOf_148 rfl rfl (by decide) rfl ?_
          refine y_goto (tgt := 187) hC dX8_scoreOf_151 (by decide) ?_
          refine y_iincN hC dX8_scoreOf_187 rfl rfl (by decide) rfl ?_
          refine y_goto (tgt := 24) hC dX8_scoreOf_190 (by decide) ?_
          have hval : valM d k p e ne (-4) = (d (164 + 8 * k + 3) - d (68 + 4 * p + 3)).toInt64 := rfl
          exact ih (i7 + 1 + 1) ((d (164 + 8 * k + 3) - d (68 + 4 * p + 3)).toInt64 :: sk) _ _ _ ca ok.2 (by show sk.length + 1 ≤ 1500; omega) so.push (by rw [← hv, mrun, mstp, if_neg n5, hval])
        · have n5 : (-5 : Int32) ≤ -5 := by decide
          have ok : 2 ≤ sk.length ∧ okc 1500 r (sk.length - 1) := by rw [okc, if_pos n5] at ok; exact ok
          rcases sk with _ | ⟨y9, _ | ⟨x9, s9⟩⟩
          · exact absurd ok.1 (by decide)
          · exact absurd (show 2 ≤ 1 from ok.1) (by decide)
          have l15 : s9.length + 2 ≤ 1500 := sl
          refine y_iload hC dX8_scoreOf_24 rfl ?_
          refine y_aload_n hC dX8_scoreOf_26 rfl ?_
          refine y_bipush (v := nI 10) hC dX8_scoreOf_27 (by decide) ?_
          refine y_ialdAN hC ha (by decide) dX8_scoreOf_29 ?_
          rw [hn0]
          refine y_icmp_ge (tgt := 193) hC dX8_scoreOf_30 (by decide) (fun c30 => absurd (nI_le2 c30) (by omega)) (fun c30 => ?_)
          refine y_aload_n hC dX8_scoreOf_33 rfl ?_
          refine y_sipush (v := nI 324) hC dX8_scoreOf_34 (by decide) ?_
          refine y_iload hC dX8_scoreOf_37 rfl ?_
          refine y_iaddN hC dX8_scoreOf_39 ?_
          refine y_ialdAN hC ha (by omega) dX8_scoreOf_40 ?_
          rw [e1]
          refine y_istore hC dX8_scoreOf_41 (by decide) rfl ?_
          refine y_iload hC dX8_scoreOf_43 rfl ?_
          refine y_iconst (v := 1) hC dX8_scoreOf_45 (by decide) ?_
          refine y_icmp_gt (tgt := 154) hC dX8_scoreOf_46 (by decide) (fun c46 => ?_) (fun c46 => absurd (by decide) c46)
          refine y_iinc (v := nI (s9.length + 1)) hC dX8_scoreOf_154 rfl (m1_iinc _) (by decide) rfl ?_
          refine y_aload_n hC dX8_scoreOf_157 rfl ?_
          refine y_getR hC (yM_o hQ) (yM_r16 hQ) f_X8_31 rfl dX8_scoreOf_158 ?_
          refine y_iload hC dX8_scoreOf_161 rfl ?_
          refine y_iconst (v := nI 1) hC dX8_scoreOf_163 (by decide) ?_
          refine y_isub hC dX8_scoreOf_164 ?_
          rw [pk_sub (by omega), Nat.add_sub_cancel]
          refine y_iload hC dX8_scoreOf_165 rfl ?_
          refine y_aload_n hC dX8_scoreOf_167 rfl ?_
          refine y_getR hC (yM_o hQ) (yM_r16 hQ) f_X8_31 rfl dX8_scoreOf_168 ?_
          refine y_iload hC dX8_scoreOf_171 rfl ?_
          refine y_iconst (v := nI 1) hC dX8_scoreOf_173 (by decide) ?_
          refine y_isub hC dX8_scoreOf_174 ?_
          rw [pk_sub (by omega), Nat.add_sub_cancel]
          refine y_laldA hC (yM_a16 hQ) ⟨by omega, by decide⟩ dX8_scoreOf_175 ?_
          rw [show S s9.length = x9 from so.2.1]
          refine y_aload_n hC dX8_scoreOf_176 rfl ?_
          refine y_getR hC (yM_o hQ) (yM_r16 hQ) f_X8_31 rfl dX8_scoreOf_177 ?_
          refine y_iload hC dX8_scoreOf_180 rfl ?_
          refine y_laldA hC (yM_a16 hQ) ⟨by omega, by decide⟩ dX8_scoreOf_182 ?_
          rw [show S (s9.length + 1) = y9 from so.1]
          refine y_callS1 hC (c_X8_operate X.2.1 D z) m_X8_193 rfl (by decide) (Nat.le_of_ble_eq_true rfl) (Nat.zero_le _) (Nat.zero_le _) dX8_scoreOf_183 ?_
          refine y_lastA hC (yM_a16 hQ) ⟨by omega, by decide⟩ dX8_scoreOf_186 ?_
          refine y_iincN hC dX8_scoreOf_187 rfl rfl (by decide) rfl ?_
          refine y_goto (tgt := 24) hC dX8_scoreOf_190 (by decide) ?_
          exact ih (i7 + 1) (opM 2 x9 y9 :: s9) _ _ _ ca ok.2 (by show s9.length + 1 ≤ 1500; omega) so.2.2.push (by rw [← hv, mrun, mstp, if_pos n5]; rfl)
        · have n5 : (-6 : Int32) ≤ -5 := by decide
          have ok : 2 ≤ sk.length ∧ okc 1500 r (sk.length - 1) := by rw [okc, if_pos n5] at ok; exact ok
          rcases sk with _ | ⟨y9, _ | ⟨x9, s9⟩⟩
          · exact absurd ok.1 (by decide)
          · exact absurd (show 2 ≤ 1 from ok.1) (by decide)
          have l15 : s9.length + 2 ≤ 1500 := sl
          refine y_iload hC dX8_scoreOf_24 rfl ?_
          refine y_aload_n hC dX8_scoreOf_26 rfl ?_
          refine y_bipush (v := nI 10) hC dX8_scoreOf_27 (by decide) ?_
          refine y_ialdAN hC ha (by decide) dX8_scoreOf_29 ?_
          rw [hn0]
          refine y_icmp_ge (tgt := 193) hC dX8_scoreOf_30 (by decide) (fun c30 => absurd (nI_le2 c30) (by omega)) (fun c30 => ?_)
          refine y_aload_n hC dX8_scoreOf_33 rfl ?_
          refine y_sipush (v := nI 324) hC dX8_scoreOf_34 (by decide) ?_
          refine y_iload hC dX8_scoreOf_37 rfl ?_
          refine y_iaddN hC dX8_scoreOf_39 ?_
          refine y_ialdAN hC ha (by omega) dX8_scoreOf_40 ?_
          rw [e1]
          refine y_istore hC dX8_scoreOf_41 (by decide) rfl ?_
          refine y_iload hC dX8_scoreOf_43 rfl ?_
          refine y_iconst (v := 1) hC dX8_scoreOf_45 (by decide) ?_
          refine y_icmp_gt (tgt := 154) hC dX8_scoreOf_46 (by decide) (fun c46 => ?_) (fun c46 => absurd (by decide) c46)
          refine y_iinc (v := nI (s9.length + 1)) hC dX8_scoreOf_154 rfl (m1_iinc _) (by decide) rfl ?_
          refine y_aload_n hC dX8_scoreOf_157 rfl ?_
          refine y_getR hC (yM_o hQ) (yM_r16 hQ) f_X8_31 rfl dX8_scoreOf_158 ?_
          refine y_iload hC dX8_scoreOf_161 rfl ?_
          refine y_iconst (v := nI 1) hC dX8_scoreOf_163 (by decide) ?_
          refine y_isub hC dX8_scoreOf_164 ?_
          rw [pk_sub (by omega), Nat.add_sub_cancel]
          refine y_iload hC dX8_scoreOf_165 rfl ?_
          refine y_aload_n hC dX8_scoreOf_167 rfl ?_
          refine y_getR hC (yM_o hQ) (yM_r16 hQ) f_X8_31 rfl dX8_scoreOf_168 ?_
          refine y_iload hC dX8_scoreOf_171 rfl ?_
          refine y_iconst (v := nI 1) hC dX8_scoreOf_173 (by decide) ?_
          refine y_isub hC dX8_scoreOf_174 ?_
          rw [pk_sub (by omega), Nat.add_sub_cancel]
          refine y_laldA hC (yM_a16 hQ) ⟨by omega, by decide⟩ dX8_scoreOf_175 ?_
          rw [show S s9.length = x9 from so.2.1]
          refine y_aload_n hC dX8_scoreOf_176 rfl ?_
          refine y_getR hC (yM_o hQ) (yM_r16 hQ) f_X8_31 rfl dX8_scoreOf_177 ?_
          refine y_iload hC dX8_scoreOf_180 rfl ?_
          refine y_laldA hC (yM_a16 hQ) ⟨by omega, by decide⟩ dX8_scoreOf_182 ?_
          rw [show S (s9.length + 1) = y9 from so.1]
          refine y_callS1 hC (c_X8_operate X.2.1 D z) m_X8_193 rfl (by decide) (Nat.le_of_ble_eq_true rfl) (Nat.zero_le _) (Nat.zero_le _) dX8_scoreOf_183 ?_
          refine y_lastA hC (yM_a16 hQ) ⟨by omega, by decide⟩ dX8_scoreOf_186 ?_
          refine y_iincN hC dX8_scoreOf_187 rfl rfl (by decide) rfl ?_
          refine y_goto (tgt := 24) hC dX8_scoreOf_190 (by decide) ?_
          exact ih (i7 + 1) (opM 3 x9 y9 :: s9) _ _ _ ca ok.2 (by show s9.length + 1 ≤ 1500; omega) so.2.2.push (by rw [← hv, mrun, mstp, if_pos n5]; rfl)
        · have n5 : (-7 : Int32) ≤ -5 := by decide
          have ok : 2 ≤ sk.length ∧ okc 1500 r (sk.length - 1) := by rw [okc, if_pos n5] at ok; exact ok
          rcases sk with _ | ⟨y9, _ | ⟨x9, s9⟩⟩
          · exact absurd ok.1 (by decide)
          · exact absurd (show 2 ≤ 1 from ok.1) (by decide)
          have l15 : s9.length + 2 ≤ 1500 := sl
          refine y_iload hC dX8_scoreOf_24 rfl ?_
          refine y_aload_n hC dX8_scoreOf_26 rfl ?_
          refine y_bipush (v := nI 10) hC dX8_scoreOf_27 (by decide) ?_
          refine y_ialdAN hC ha (by decide) dX8_scoreOf_29 ?_
          rw [hn0]
          refine y_icmp_ge (tgt := 193) hC dX8_scoreOf_30 (by decide) (fun c30 => absurd (nI_le2 c30) (by omega)) (fun c30 => ?_)
          refine y_aload_n hC dX8_scoreOf_33 rfl ?_
          refine y_sipush (v := nI 324) hC dX8_scoreOf_34 (by decide) ?_
          refine y_iload hC dX8_scoreOf_37 rfl ?_
          refine y_iaddN hC dX8_scoreOf_39 ?_
          refine y_ialdAN hC ha (by omega) dX8_scoreOf_40 ?_
          rw [e1]
          refine y_istore hC dX8_scoreOf_41 (by decide) rfl ?_
          refine y_iload hC dX8_scoreOf_43 rfl ?_
          refine y_iconst (v := 1) hC dX8_scoreOf_45 (by decide) ?_
          refine y_icmp_gt (tgt := 154) hC dX8_scoreOf_46 (by decide) (fun c46 => ?_) (fun c46 => absurd (by decide) c46)
          refine y_iinc (v := nI (s9.length + 1)) hC dX8_scoreOf_154 rfl (m1_iinc _) (by decide) rfl ?_
          refine y_aload_n hC dX8_scoreOf_157 rfl ?_
          refine y_getR hC (yM_o hQ) (yM_r16 hQ) f_X8_31 rfl dX8_scoreOf_158 ?_
          refine y_iload hC dX8_scoreOf_161 rfl ?_
          refine y_iconst (v := nI 1) hC dX8_scoreOf_163 (by decide) ?_
          refine y_isub hC dX8_scoreOf_164 ?_
          rw [pk_sub (by omega), Nat.add_sub_cancel]
          refine y_iload hC dX8_scoreOf_165 rfl ?_
          refine y_aload_n hC dX8_scoreOf_167 rfl ?_
          refine y_getR hC (yM_o hQ) (yM_r16 hQ) f_X8_31 rfl dX8_scoreOf_168 ?_
          refine y_iload hC dX8_scoreOf_171 rfl ?_
          refine y_iconst (v := nI 1) hC dX8_scoreOf_173 (by decide) ?_
          refine y_isub hC dX8_scoreOf_174 ?_
          rw [pk_sub (by omega), Nat.add_sub_cancel]
          refine y_laldA hC (yM_a16 hQ) ⟨by omega, by decide⟩ dX8_scoreOf_175 ?_
          rw [show S s9.length = x9 from so.2.1]
          refine y_aload_n hC dX8_scoreOf_176 rfl ?_
          refine y_getR hC (yM_o hQ) (yM_r16 hQ) f_X8_31 rfl dX8_scoreOf_177 ?_
          refine y_iload hC dX8_scoreOf_180 rfl ?_
          refine y_laldA hC (yM_a16 hQ) ⟨by omega, by decide⟩ dX8_scoreOf_182 ?_
          rw [show S (s9.length + 1) = y9 from so.1]
          refine y_callS1 hC (c_X8_operate X.2.1 D z) m_X8_193 rfl (by decide) (Nat.le_of_ble_eq_true rfl) (Nat.zero_le _) (Nat.zero_le _) dX8_scoreOf_183 ?_
          refine y_lastA hC (yM_a16 hQ) ⟨by omega, by decide⟩ dX8_scoreOf_186 ?_
          refine y_iincN hC dX8_scoreOf_187 rfl rfl (by decide) rfl ?_
          refine y_goto (tgt := 24) hC dX8_scoreOf_190 (by decide) ?_
          exact ih (i7 + 1) (opM 4 x9 y9 :: s9) _ _ _ ca ok.2 (by show s9.length + 1 ≤ 1500; omega) so.2.2.push (by rw [← hv, mrun, mstp, if_pos n5]; rfl)
        · have n5 : (-8 : Int32) ≤ -5 := by decide
          have ok : 2 ≤ sk.length ∧ okc 1500 r (sk.length - 1) := by rw [okc, if_pos n5] at ok; exact ok
          rcases sk with _ | ⟨y9, _ | ⟨x9, s9⟩⟩
          · exact absurd ok.1 (by decide)
          · exact absurd (show 2 ≤ 1 from ok.1) (by decide)
          have l15 : s9.length + 2 ≤ 1500 := sl
          refine y_iload hC dX8_scoreOf_24 rfl ?_
          refine y_aload_n hC dX8_scoreOf_26 rfl ?_
          refine y_bipush (v := nI 10) hC dX8_scoreOf_27 (by decide) ?_
          refine y_ialdAN hC ha (by decide) dX8_scoreOf_29 ?_
          rw [hn0]
          refine y_icmp_ge (tgt := 193) hC dX8_scoreOf_30 (by decide) (fun c30 => absurd (nI_le2 c30) (by omega)) (fun c30 => ?_)
          refine y_aload_n hC dX8_scoreOf_33 rfl ?_
          refine y_sipush (v := nI 324) hC dX8_scoreOf_34 (by decide) ?_
          refine y_iload hC dX8_scoreOf_37 rfl ?_
          refine y_iaddN hC dX8_scoreOf_39 ?_
          refine y_ialdAN hC ha (by omega) dX8_scoreOf_40 ?_
          rw [e1]
          refine y_istore hC dX8_scoreOf_41 (by decide) rfl ?_
          refine y_iload hC dX8_scoreOf_43 rfl ?_
          refine y_iconst (v := 1) hC dX8_scoreOf_45 (by decide) ?_
          refine y_icmp_gt (tgt := 154) hC dX8_scoreOf_46 (by decide) (fun c46 => ?_) (fun c46 => absurd (by decide) c46)
          refine y_iinc (v := nI (s9.length + 1)) hC dX8_scoreOf_154 rfl (m1_iinc _) (by decide) rfl ?_
          refine y_aload_n hC dX8_scoreOf_157 rfl ?_
          refine y_getR hC (yM_o hQ) (yM_r16 hQ) f_X8_31 rfl dX8_scoreOf_158 ?_
          refine y_iload hC dX8_scoreOf_161 rfl ?_
          refine y_iconst (v := nI 1) hC dX8_scoreOf_163 (by decide) ?_
          refine y_isub hC dX8_scoreOf_164 ?_
          rw [pk_sub (by omega), Nat.add_sub_cancel]
          refine y_iload hC dX8_scoreOf_165 rfl ?_
          refine y_aload_n hC dX8_scoreOf_167 rfl ?_
          refine y_getR hC (yM_o hQ) (yM_r16 hQ) f_X8_31 rfl dX8_scoreOf_168 ?_
          refine y_iload hC dX8_scoreOf_171 rfl ?_
          refine y_iconst (v := nI 1) hC dX8_scoreOf_173 (by decide) ?_
          refine y_isub hC dX8_scoreOf_174 ?_
          rw [pk_sub (by omega), Nat.add_sub_cancel]
          refine y_laldA hC (yM_a16 hQ) ⟨by omega, by decide⟩ dX8_scoreOf_175 ?_
          rw [show S s9.length = x9 from so.2.1]
          refine y_aload_n hC dX8_scoreOf_176 rfl ?_
          refine y_getR hC (yM_o hQ) (yM_r16 hQ) f_X8_31 rfl dX8_scoreOf_177 ?_
          refine y_iload hC dX8_scoreOf_180 rfl ?_
          refine y_laldA hC (yM_a16 hQ) ⟨by omega, by decide⟩ dX8_scoreOf_182 ?_
          rw [show S (s9.length + 1) = y9 from so.1]
          refine y_callS1 hC (c_X8_operate X.2.1 D z) m_X8_193 rfl (by decide) (Nat.le_of_ble_eq_true rfl) (Nat.zero_le _) (Nat.zero_le _) dX8_scoreOf_183 ?_
          refine y_lastA hC (yM_a16 hQ) ⟨by omega, by decide⟩ dX8_scoreOf_186 ?_
          refine y_iincN hC dX8_scoreOf_187 rfl rfl (by decide) rfl ?_
          refine y_goto (tgt := 24) hC dX8_scoreOf_190 (by decide) ?_
          exact ih (i7 + 1) (opM 5 x9 y9 :: s9) _ _ _ ca ok.2 (by show s9.length + 1 ≤ 1500; omega) so.2.2.push (by rw [← hv, mrun, mstp, if_pos n5]; rfl)
    rcases hcd with h9 | ⟨ca, ok⟩
    · exact absurd h9 c4
    have h0 := lp cd 0 [] (L (q + 14)) none none ca ok (Nat.zero_le _) trivial rfl
    rw [va_upL_id] at h0
    exact h0
  · refine y_iload_n hC dX8_scoreOf_7 rfl ?_
    refine y_callS1 hC (c_X8_members X.2.1 D z (e := e) rfl (by omega)) m_X8_183 rfl (by decide) (Nat.le_of_ble_eq_true rfl) (Nat.zero_le _) (Nat.zero_le _) dX8_scoreOf_8 ?_
    exact y_iret hC hr rfl (Nat.zero_le _) (Nat.zero_le _) dX8_scoreOf_11 (yFl.same (congrArg (fun q => some (Value.int q)) (by rw [scM, if_pos c4])))
