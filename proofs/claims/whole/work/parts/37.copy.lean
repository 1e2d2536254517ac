theorem ac_link : Cond.methodLink RX0 74 arraycopyName ∈ yT := yT_in (i := 659) (by decide +kernel) (by decide +kernel)
theorem ac_stat : Cond.static arraycopyName ∈ yT := yT_in (i := 660) (by decide +kernel) (by decide +kernel)
theorem ac_nat : Cond.native arraycopyName ∈ yT := yT_in (i := 661) (by decide +kernel) (by decide +kernel)
theorem ac_init : Cond.initialized "java/lang/System" ∈ yT := yT_in (i := 19) (by decide +kernel) (by decide +kernel)
theorem y_copy {X : yX} {D : yD} {z nL n : Nat} {sh : yS} {I : yI} {L : yL} {k w : Nat} {Q : State → Prop} {pc : Nat} {lv : List (Option Value)} {st : List Value} {cc : ByteArray} {dep : Nat} {a0 a len : Nat}
    (hC : yC X D z cc RX0 nL dep) (ha0 : yArr sh a0 10 len) (ha : yArr sh a 10 len) (hlen : len < 2147483648) (hdep : 2 ≤ dep) (hst : (st.map fun v => v.category).sum ≤ 8) (hd : decode cc pc = .ok (.invokestatic 74, 3)) (kk : Y X D z nL n sh (va_up I a (va_cpy (I a0) (I a) 0 0 len)) L k w Q (pc + 3) lv st) : Y X D z nL n sh I L k w Q pc lv (.int (nI len) :: .int (nI 0) :: .ref a :: .int (nI 0) :: .ref a0 :: st) := by
  intro H locs ls h1 h2 h3 h4
  have hKK := hC
  obtain ⟨hx, hb, hml, hown, hts, -, hf, hl, -⟩ := hC
  obtain ⟨hz0, hn0, hcell0⟩ := h1.2.2 a0 (by rw [ha0.1]; omega)
  have hc0 := hcell0.2.2.1 ha0.1
  rw [ha0.2] at hc0
  obtain ⟨hza, hna, hcell⟩ := h1.2.2 a (by rw [ha.1]; omega)
  have hc1 := hcell.2.2.1 ha.1
  rw [ha.2] at hc1
  have nn : ∀ z : Nat, z < 2147483648 → (nI z).toInt = (z : Int) := fun z hz => nI_toInt hz
  have hcl : (nI len).toNatClampNeg = len := nI_clamp hlen
  have hc00 : (nI 0).toNatClampNeg = 0 := rfl
  have hnf : nativeFrameWords "java/lang/System" "arraycopy" 5 ≤ 100 := by decide +kernel
  have hlo : 2 * 0 + (st.map fun v => v.category).sum + (nativeFrameWords "java/lang/System" "arraycopy" 5 + 11) ≤ (yR X).locals := by omega
  intro T hT XX
  obtain ⟨-, k0, hk0, cm0, hkk0⟩ := (yK_at hKK (t := 1) rfl).1 len (fun j => .int (I a0 j))
  obtain ⟨-, k1, hk1, cm1, hkk1⟩ := (yK_at hKK (t := 1) rfl).1 len (fun j => .int (I a j))
  obtain ⟨vm', X', step⟩ := XX.arraycopy hx hown (hts _ ac_link) (hts _ ac_nat) (hts _ ac_stat) (hts _ ac_init) (src := a0) (dst := a) (cs := vp_cell (D.2.1 10) (len, .inl (I a0))) (cd := vp_cell (D.2.1 10) (len, .inl (I a))) (srcPos := nI 0) (destPos := nI 0) (n := nI len) (by rw [hT]; exact hc0) (by rw [hT]; exact hc1)
    (fun _ h => by cases h) (fun _ h => by cases h) (fun h => by cases h) (fun h => by cases h) hk0 hk1 hkk0 hkk1 (by decide) (by decide) (by decide) (nI_pos hlen)
    (by rw [nn 0 (by decide), nn len hlen]; show ¬ _ > ((arrV _ len (fun j => .int (I a0 j))).slots.size : Int); rw [arrV_size]; omega)
    (by rw [nn 0 (by decide), nn len hlen]; show ¬ _ > ((arrV _ len (fun j => .int (I a j))).slots.size : Int); rw [arrV_size]; omega)
    (fun vm₁ _ i hi => by
      rw [hcl] at hi
      have e : (vp_cell (D.2.1 10) (len, .inl (I a0))).slots.getD ((nI 0).toNatClampNeg + i) .null = .int (I a0 ((nI 0).toNatClampNeg + i)) := by
        show (arrV _ len (fun j => .int (I a0 j))).slots.getD _ _ = _
        rw [Array.getD_eq_getD_getElem?, arrV_read _ _ (by rw [hc00]; omega)]
        rfl
      refine ⟨?_, ?_⟩
      · rw [e]
        rfl
      · rw [e]
        exact trivial)
    (g := F0 (ym X) pc ls (.int (nI len) :: .int (nI 0) :: .ref a :: .int (nI 0) :: .ref a0 :: st)) rfl (by rw [hml]; exact h4.1) (rest := st) rfl (by rw [hb]; exact hd) (by omega) hlo
  have e1 : copied (vp_cell (D.2.1 10) (len, .inl (I a0))) (vp_cell (D.2.1 10) (len, .inl (I a))) (nI 0) (nI 0) (nI len) = vp_cell (D.2.1 10) (len, .inl (va_cpy (I a0) (I a) (nI 0).toNatClampNeg (nI 0).toNatClampNeg (nI len).toNatClampNeg)) := va_copied (fun z => .int z) _ _ (I a0) (I a) (by rw [hc00, hcl]; omega)
  rw [hc00, hcl] at e1
  rw [e1] at X' step
  have hl9 : a < H.size := (Array.getElem?_eq_some_iff.mp hc1).1
  have hheap : ((T.setVm vm').setCell a (vp_cell (D.2.1 10) (len, .inl (va_cpy (I a0) (I a) 0 0 len)))).heap = H.setIfInBounds a (vp_cell (D.2.1 10) (len, .inl (va_cpy (I a0) (I a) 0 0 len))) := by rw [← hT]; rfl
  have oq : ∀ q : Nat, q ≠ a → (H.setIfInBounds a (vp_cell (D.2.1 10) (len, .inl (va_cpy (I a0) (I a) 0 0 len))))[q]? = H[q]? := fun q hq => by simp [Array.getElem?_setIfInBounds, Ne.symm hq]
  have hk := ha.1
  obtain ⟨t, a1, b1⟩ := kk _ _ ls (h1.at hza hna (by simp) oq (fun _ _ => rfl) (fun b hb => va_up_ne _ _ hb) (fun _ _ => rfl) ⟨fun q => by omega, fun q => by omega, fun _ => by
      rw [ha.2, va_up_self]
      show (H.setIfInBounds a _)[a]? = some (arrV _ _ _)
      simp [Array.getElem?_setIfInBounds, hl9]
      rfl, fun q => by omega, fun q => by omega, fun q => by omega⟩) (yold hza (by simp) oq h2) (fun o ho => by
      rcases List.mem_append.mp ho with h | h
      · exact h3 o h
      · obtain ⟨z9, -, hz9⟩ := List.mem_map.mp h
        rw [← hz9]
        exact hza) h4 _ hheap X'
  exact ⟨t, step t a1, b1⟩
theorem y_copyR {X : yX} {D : yD} {z nL n : Nat} {sh : yS} {I : yI} {L : yL} {k w : Nat} {Q : State → Prop} {pc : Nat} {lv : List (Option Value)} {st : List Value} {cc : ByteArray} {dep : Nat} {i o r len : Nat} {B : yI}
    (hC : yC X D z cc RX0 nL dep) (hdis : o + 14 ≤ i ∨ i + 14 ≤ o) (hr : r < 14) (ha0 : yArr sh (o + r) 10 len) (ha : yArr sh (i + r) 10 len) (hlen : len < 2147483648) (hdep : 2 ≤ dep) (hst : (st.map fun v => v.category).sum ≤ 8) (hd : decode cc pc = .ok (.invokestatic 74, 3)) (kk : Y X D z nL n sh (sR 14 I i (va_up B r (va_cpy (I (o + r)) (B r) 0 0 len))) L k w Q (pc + 3) lv st) : Y X D z nL n sh (sR 14 I i B) L k w Q pc lv (.int (nI len) :: .int (nI 0) :: .ref (i + r) :: .int (nI 0) :: .ref (o + r) :: st) := by
  refine y_copy hC ha0 ha hlen hdep hst hd ?_
  rw [sR_row hr, sR_at hr, sR_out (by omega)]
  exact kk
