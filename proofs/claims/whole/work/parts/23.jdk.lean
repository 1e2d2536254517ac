theorem nI_le2 {a b : Nat} (h : nI a ≤ nI b) (ha : a < 2147483648 := by omega) (hb : b < 2147483648 := by omega) : a ≤ b := (nI_leI ha hb).mp h
theorem nI_nle2 {a b : Nat} (h : ¬ nI a ≤ nI b) (ha : a < 2147483648 := by omega) (hb : b < 2147483648 := by omega) : b < a := Nat.not_le.mp fun q => h ((nI_leI ha hb).mpr q)
theorem nI_lt2 {a b : Nat} (h : nI a < nI b) (ha : a < 2147483648 := by omega) (hb : b < 2147483648 := by omega) : a < b := (nI_ltI ha hb).mp h
theorem nI_nlt2 {a b : Nat} (h : ¬ nI a < nI b) (ha : a < 2147483648 := by omega) (hb : b < 2147483648 := by omega) : b ≤ a := Nat.not_lt.mp fun q => h ((nI_ltI ha hb).mpr q)
theorem nI_eq2 {a b : Nat} (h : nI a = nI b) (ha : a < 2147483648 := by omega) (hb : b < 2147483648 := by omega) : a = b := (nI_eq ha hb).mp h
theorem nI_ne2 {a b : Nat} (h : ¬ nI a = nI b) : a ≠ b := fun q => h (by rw [q])
theorem ts_out {x : Int32} {lo hi : Int} (h : ∀ v : Int, lo ≤ v → v ≤ hi → x.toInt ≠ v) : x.toInt < lo ∨ hi < x.toInt := by
  by_cases h1 : x.toInt < lo
  · exact Or.inl h1
  · by_cases h2 : hi < x.toInt
    · exact Or.inr h2
    · exact absurd rfl (h _ (by omega) (by omega))
theorem cc_mmax : cJ9_max_7cf53 = Lib.Math.max.code := by decide +kernel
theorem yy_mmax : yJ9_max_7cf53 = Lib.Math.max.name := by decide +kernel
theorem y_mmax {X : yX} {D : yD} {z nL n : Nat} {sh : yS} {I : yI} {L : yL} {k w : Nat} {Q : State → Prop} {pc : Nat} {lv : List (Option Value)} {st : List Value} {cc : ByteArray} {own : String} {dep idx na : Nat} {x y : Int32} (hC : yC X D z cc own nL dep) (cw : yCS own idx yJ9_max_7cf53 cJ9_max_7cf53 2 (some .int) na) (hdep : 1 ≤ dep) (hst : (st.map fun v => v.category).sum ≤ 8) (hk : k ≤ (yR X).cells) (hw : w ≤ (yR X).slots) (hd : decode cc pc = .ok (.invokestatic idx, 3)) (kk : Y X D z nL n sh I L k w Q (pc + 3) lv (.int (if x < y then y else x) :: st)) : Y X D z nL n sh I L k w Q pc lv (.int y :: .int x :: st) := by
  intro H locs ls h1 h2 h3 h4
  obtain ⟨hx, hb, hml, hown, hts, -, hf, hl, -⟩ := hC
  obtain ⟨⟨c1, c2, c3, -⟩, c4⟩ := cw
  rw [cc_mmax, yy_mmax] at c2
  rw [yy_mmax] at c1 c3 c4
  exact va_mmax hx hb (hml.trans h4.1.symm) hown (hts _ c1) (hts _ c4) (hts _ c3) (hts _ c2) (by omega) (by omega) hk hw hd (kk H locs ls h1 h2 h3 h4)
theorem cc_mmin : cJ9_min_7cf53 = Lib.Math.min.code := by decide +kernel
theorem yy_mmin : yJ9_min_7cf53 = Lib.Math.min.name := by decide +kernel
theorem y_mmin {X : yX} {D : yD} {z nL n : Nat} {sh : yS} {I : yI} {L : yL} {k w : Nat} {Q : State → Prop} {pc : Nat} {lv : List (Option Value)} {st : List Value} {cc : ByteArray} {own : String} {dep idx na : Nat} {x y : Int32} (hC : yC X D z cc own nL dep) (cw : yCS own idx yJ9_min_7cf53 cJ9_min_7cf53 2 (some .int) na) (hdep : 1 ≤ dep) (hst : (st.map fun v => v.category).sum ≤ 8) (hk : k ≤ (yR X).cells) (hw : w ≤ (yR X).slots) (hd : decode cc pc = .ok (.invokestatic idx, 3)) (kk : Y X D z nL n sh I L k w Q (pc + 3) lv (.int (if y < x then y else x) :: st)) : Y X D z nL n sh I L k w Q pc lv (.int y :: .int x :: st) := by
  intro H locs ls h1 h2 h3 h4
  obtain ⟨hx, hb, hml, hown, hts, -, hf, hl, -⟩ := hC
  obtain ⟨⟨c1, c2, c3, -⟩, c4⟩ := cw
  rw [cc_mmin, yy_mmin] at c2
  rw [yy_mmin] at c1 c3 c4
  exact va_mmin hx hb (hml.trans h4.1.symm) hown (hts _ c1) (hts _ c4) (hts _ c3) (hts _ c2) (by omega) (by omega) hk hw hd (kk H locs ls h1 h2 h3 h4)
theorem cc_mmaxL : cJ9_max_f86c9 = Lib.MathLoose.max_long.code := by decide +kernel
theorem yy_mmaxL : yJ9_max_f86c9 = Lib.MathLoose.max_long.x := by decide +kernel
theorem y_mmaxL {X : yX} {D : yD} {z nL n : Nat} {sh : yS} {I : yI} {L : yL} {k w : Nat} {Q : State → Prop} {pc : Nat} {lv : List (Option Value)} {st : List Value} {cc : ByteArray} {own : String} {dep idx na : Nat} {x y : Int64} (hC : yC X D z cc own nL dep) (cw : yCS own idx yJ9_max_f86c9 cJ9_max_f86c9 4 (some .long) na) (hdep : 1 ≤ dep) (hst : (st.map fun v => v.category).sum ≤ 8) (hk : k ≤ (yR X).cells) (hw : w ≤ (yR X).slots) (hd : decode cc pc = .ok (.invokestatic idx, 3)) (kk : Y X D z nL n sh I L k w Q (pc + 3) lv (.long (if y < x then x else y) :: st)) : Y X D z nL n sh I L k w Q pc lv (.long y :: .long x :: st) := by
  intro H locs ls h1 h2 h3 h4
  obtain ⟨hx, hb, hml, hown, hts, -, hf, hl, -⟩ := hC
  obtain ⟨⟨c1, c2, c3, -⟩, c4⟩ := cw
  rw [cc_mmaxL, yy_mmaxL] at c2
  rw [yy_mmaxL] at c1 c3 c4
  exact va_mmax_long hx hb (hml.trans h4.1.symm) hown (hts _ c1) (hts _ c4) (hts _ c3) (hts _ c2) (by omega) (by omega) hk hw hd (kk H locs ls h1 h2 h3 h4)
theorem cc_mminL : cJ9_min_f86c9 = Lib.MathLoose.min_long.code := by decide +kernel
theorem yy_mminL : yJ9_min_f86c9 = Lib.MathLoose.min_long.x := by decide +kernel
theorem y_mminL {X : yX} {D : yD} {z nL n : Nat} {sh : yS} {I : yI} {L : yL} {k w : Nat} {Q : State → Prop} {pc : Nat} {lv : List (Option Value)} {st : List Value} {cc : ByteArray} {own : String} {dep idx na : Nat} {x y : Int64} (hC : yC X D z cc own nL dep) (cw : yCS own idx yJ9_min_f86c9 cJ9_min_f86c9 4 (some .long) na) (hdep : 1 ≤ dep) (hst : (st.map fun v => v.category).sum ≤ 8) (hk : k ≤ (yR X).cells) (hw : w ≤ (yR X).slots) (hd : decode cc pc = .ok (.invokestatic idx, 3)) (kk : Y X D z nL n sh I L k w Q (pc + 3) lv (.long (if y < x then y else x) :: st)) : Y X D z nL n sh I L k w Q pc lv (.long y :: .long x :: st) := by
  intro H locs ls h1 h2 h3 h4
  obtain ⟨hx, hb, hml, hown, hts, -, hf, hl, -⟩ := hC
  obtain ⟨⟨c1, c2, c3, -⟩, c4⟩ := cw
  rw [cc_mminL, yy_mminL] at c2
  rw [yy_mminL] at c1 c3 c4
  exact va_mmin_long hx hb (hml.trans h4.1.symm) hown (hts _ c1) (hts _ c4) (hts _ c3) (hts _ c2) (by omega) (by omega) hk hw hd (kk H locs ls h1 h2 h3 h4)
def ush (x k : Int32) : Int32 := (x.toUInt32 >>> (k.toUInt32 &&& Int32.toUInt32 31)).toInt32
def bcnA (x : Int32) : Int32 := x - (ush x 1 &&& 1431655765)
def bcnB (a : Int32) : Int32 := (a &&& 858993459) + (ush a 2 &&& 858993459)
def bcnC (b : Int32) : Int32 := (b + ush b 4) &&& 252645135
def bcn (x : Int32) : Int32 := (bcnC (bcnB (bcnA x)) + ush (bcnC (bcnB (bcnA x))) 8 + ush (bcnC (bcnB (bcnA x)) + ush (bcnC (bcnB (bcnA x))) 8) 16) &&& 63
set_option maxRecDepth 100000 in
set_option maxHeartbeats 4000000 in
theorem c_J6_bitCount_0f7a4 (l : Launch) (D : yD) (z : Nat) {n : Nat} {sh : yS} {I : yI} {L : yL} {x : Int32} : yM l D z yJ6_bitCount_0f7a4 cJ6_bitCount_0f7a4 1 (some .int) 0 0 0 [.int x] n sh I L (yF (some (.int (bcn x))) n sh I L) (yno) := by
  refine yM_of (by decide) (Nat.le_of_ble_eq_true rfl) rfl ?_
  intro X hC hr hnm hRc hRs htb
  have hC : yC X D z cJ6_bitCount_0f7a4 RJ6 1 0 := hC
  refine y_iload_n hC dJ6_bitCount_0f7a4_0 rfl ?_
  refine y_iload_n hC dJ6_bitCount_0f7a4_1 rfl ?_
  refine y_iconst (v := 1) hC dJ6_bitCount_0f7a4_2 (by decide) ?_
  refine y_iushr hC dJ6_bitCount_0f7a4_3 ?_
  refine y_ldcw hC k_J6_265 dJ6_bitCount_0f7a4_4 ?_
  refine y_iand hC dJ6_bitCount_0f7a4_7 ?_
  refine y_isub hC dJ6_bitCount_0f7a4_8 ?_
  refine y_istore_n hC dJ6_bitCount_0f7a4_9 (by decide) rfl ?_
  refine y_iload_n hC dJ6_bitCount_0f7a4_10 rfl ?_
  refine y_ldcw hC k_J6_266 dJ6_bitCount_0f7a4_11 ?_
  refine y_iand hC dJ6_bitCount_0f7a4_14 ?_
  refine y_iload_n hC dJ6_bitCount_0f7a4_15 rfl ?_
  refine y_iconst (v := 2) hC dJ6_bitCount_0f7a4_16 (by decide) ?_
  refine y_iushr hC dJ6_bitCount_0f7a4_17 ?_
  refine y_ldcw hC k_J6_266 dJ6_bitCount_0f7a4_18 ?_
  refine y_iand hC dJ6_bitCount_0f7a4_21 ?_
  refine y_iadd hC dJ6_bitCount_0f7a4_22 ?_
  refine y_istore_n hC dJ6_bitCount_0f7a4_23 (by decide) rfl ?_
  refine y_iload_n hC dJ6_bitCount_0f7a4_24 rfl ?_
  refine y_iload_n hC dJ6_bitCount_0f7a4_25 rfl ?_
  refine y_iconst (v := 4) hC dJ6_bitCount_0f7a4_26 (by decide) ?_
  refine y_iushr hC dJ6_bitCount_0f7a4_27 ?_
  refine y_iadd hC dJ6_bitCount_0f7a4_28 ?_
  refine y_ldcw hC k_J6_267 dJ6_bitCount_0f7a4_29 ?_
  refine y_iand hC dJ6_bitCount_0f7a4_32 ?_
  refine y_istore_n hC dJ6_bitCount_0f7a4_33 (by decide) rfl ?_
  refine y_iload_n hC dJ6_bitCount_0f7a4_34 rfl ?_
  refine y_iload_n hC dJ6_bitCount_0f7a4_35 rfl ?_
  refine y_bipush (v := 8) hC dJ6_bitCount_0f7a4_36 (by decide) ?_
  refine y_iushr hC dJ6_bitCount_0f7a4_38 ?_
  refine y_iadd hC dJ6_bitCount_0f7a4_39 ?_
  refine y_istore_n hC dJ6_bitCount_0f7a4_40 (by decide) rfl ?_
  refine y_iload_n hC dJ6_bitCount_0f7a4_41 rfl ?_
  refine y_iload_n hC dJ6_bitCount_0f7a4_42 rfl ?_
  refine y_bipush (v := 16) hC dJ6_bitCount_0f7a4_43 (by decide) ?_
  refine y_iushr hC dJ6_bitCount_0f7a4_45 ?_
  refine y_iadd hC dJ6_bitCount_0f7a4_46 ?_
  refine y_istore_n hC dJ6_bitCount_0f7a4_47 (by decide) rfl ?_
  refine y_iload_n hC dJ6_bitCount_0f7a4_48 rfl ?_
  refine y_bipush (v := 63) hC dJ6_bitCount_0f7a4_49 (by decide) ?_
  refine y_iand hC dJ6_bitCount_0f7a4_51 ?_
  exact y_iret hC hr rfl (Nat.zero_le _) (Nat.zero_le _) dJ6_bitCount_0f7a4_52 (yF.mk rfl)
def fillR (r : Nat → Int32) (v : Int32) (j : Nat) : Nat → Int32 := fun q => if q < j then v else r q
theorem fillR_0 (r : Nat → Int32) (v : Int32) : fillR r v 0 = r := by funext q; simp [fillR]
theorem fillR_s (r : Nat → Int32) (v : Int32) (j : Nat) : upd (fillR r v j) j v = fillR r v (j + 1) := by
  funext q
  unfold upd fillR
  by_cases h : q = j
  · rw [if_pos h, if_pos (by omega)]
  · rw [if_neg h]
    by_cases h2 : q < j
    · rw [if_pos h2, if_pos (by omega)]
    · rw [if_neg h2, if_neg (by omega)]
theorem up2_up {B : yI} {k : Nat} {r : Nat → Int32} {j : Nat} {v : Int32} : up2 (va_up B k r) k j v = va_up B k (upd r j v) := by
  unfold up2
  rw [va_up_self, bx_uu]
set_option maxRecDepth 100000 in
set_option maxHeartbeats 4000000 in
theorem c_J7_fill_53178 (l : Launch) (D : yD) (z : Nat) {n : Nat} {sh : yS} {I : yI} {L : yL} {w9 i r len : Nat} {B : yI} {v : Int32} (hw : r < w9) (ha : yArr sh (i + r) 10 len) (hlen : len < 2147483648) : yM l D z yJ7_fill_53178 cJ7_fill_53178 4 none 0 0 0 [.ref (i + r), .int v] n sh (sR w9 I i B) L (yF none n sh (sR w9 I i (va_up B r (fillR (B r) v len))) L) (yno) := by
  refine yM_of (by decide) (Nat.le_of_ble_eq_true rfl) rfl ?_
  intro X hC hr hnm hRc hRs htb
  have hC : yC X D z cJ7_fill_53178 RJ7 4 0 := hC
  rw [show sR w9 I i B = sR w9 I i (va_up B r (fillR (B r) v 0)) by rw [fillR_0, show va_up B r (B r) = B from (funext fun q => by unfold va_up; split <;> simp_all)]]
  refine y_iconst (v := nI 0) hC dJ7_fill_53178_0 (by decide) ?_
  refine y_istore_n hC dJ7_fill_53178_1 (by decide) rfl ?_
  refine y_aload_n hC dJ7_fill_53178_2 rfl ?_
  refine y_alen hC ha (by decide) rfl dJ7_fill_53178_3 ?_
  refine y_istore_n hC dJ7_fill_53178_4 (by decide) rfl ?_
  have lp5 : ∀ (f9 j : Nat) , j + f9 = len → Y X D z 4 n sh (sR w9 I i (va_up B r (fillR (B r) v j))) L 0 0 (yEnd X D z (yF none n sh (sR w9 I i (va_up B r (fillR (B r) v len))) L) (yno) 0 0) 5 [some (.ref (i + r)), some (.int v), some (.int (nI j)), some (.int (Int32.ofNat len))] [] := by
    intro f9
    induction f9 with
    | zero =>
      intro j  hm 
      refine y_iload_n hC dJ7_fill_53178_5 rfl ?_
      refine y_iload_n hC dJ7_fill_53178_6 rfl ?_
      refine y_icmp_ge (tgt := 20) hC dJ7_fill_53178_7 (by decide) (fun c7 => ?_) (fun c7 => absurd (nI_le (by omega) (by omega)) c7)
      exact y_vret hC hr (Nat.zero_le _) (Nat.zero_le _) dJ7_fill_53178_20 ⟨rfl, rfl, rfl, by rw [show j = len by omega], rfl⟩
    | succ f9 ih =>
      intro j  hm 
      refine y_iload_n hC dJ7_fill_53178_5 rfl ?_
      refine y_iload_n hC dJ7_fill_53178_6 rfl ?_
      refine y_icmp_ge (tgt := 20) hC dJ7_fill_53178_7 (by decide) (fun c7 => absurd c7 (nI_ge (by omega) (by omega))) (fun c7 => ?_)
      refine y_aload_n hC dJ7_fill_53178_10 rfl ?_
      refine y_iload_n hC dJ7_fill_53178_11 rfl ?_
      refine y_iload_n hC dJ7_fill_53178_12 rfl ?_
      refine y_iastRN (w9 := w9) hC (by exact hw) ha (by omega) dJ7_fill_53178_13 ?_
      refine y_iincN hC dJ7_fill_53178_14 rfl rfl (by decide) rfl ?_
      refine y_goto (tgt := 5) hC dJ7_fill_53178_17 (by decide) ?_
      rw [up2_up, fillR_s]
      exact ih (j + 1) (by omega)
  exact lp5 len 0 (Nat.zero_add _)
