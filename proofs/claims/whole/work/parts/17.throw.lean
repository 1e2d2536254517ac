abbrev yExN : List String := ["java/lang/RuntimeException", "java/lang/Exception"]
/-- the words of 'throw new cls(text)' in own -/
def yThr (own : String) (ik ic : Nat) (cls : String) : Prop := Bundle.fit cls = true ∧ (∀ n ∈ yExN, Bundle.fit n = true) ∧ Cond.classLink own ik cls ∈ yT ∧ Cond.initialized cls ∈ yT ∧ (∀ w ∈ (vx_atS own ic cls yExN).filter goodWord, w ∈ yT) ∧ (∀ w ∈ (vx_atS own ic cls yExN).filter (fun w => !goodWord w), w ∈ Cond.castable cls cls :: yDcl) ∧ (∀ w ∈ Cond.classLink own ik cls :: Cond.initialized cls :: vx_atS own ic cls yExN, vx_ot w = true) ∧ (cls = "java/lang/IllegalArgumentException" ∨ cls = "java/lang/IndexOutOfBoundsException" ∨ cls = "java/lang/IllegalStateException")
theorem yNc.cast {U : State} (h : yNc U) {cls : String} (hc : cls = "java/lang/IllegalArgumentException" ∨ cls = "java/lang/IndexOutOfBoundsException" ∨ cls = "java/lang/IllegalStateException") : va_Nw (.castable cls cls) U := by
  rcases hc with rfl | rfl | rfl
  · exact h.2.1.1
  · exact h.2.1.2.1
  · exact h.2.1.2.2
theorem yRep.longer {D : yD} {z n n2 : Nat} {sh : yS} {I : yI} {L : yL} {H H1 : Heap} (h : yRep D z n sh I L H) (hz : H1.size = n2) (hle : n ≤ n2) (ho : ∀ q : Nat, q < n → H1[q]? = H[q]?) : yRep D z n2 sh I L H1 := ⟨Nat.le_trans h.1 hle, hz, fun a ha => by
  obtain ⟨q1, q2, q3⟩ := h.2.2 a ha
  exact ⟨q1, Nat.lt_of_lt_of_le q2 hle, q3.kept rfl rfl rfl (ho a q2)⟩⟩
theorem y_throw {X : yX} {D : yD} {z nL n : Nat} {sh : yS} {I : yI} {L : yL} {k w : Nat} {pc : Nat} {lv : List (Option Value)} {st : List Value} {cc : ByteArray} {own : String} {dep mc ms : Nat} {Qr : Option Value → Nat → yS → yI → yL → Prop} {Qx : String → Nat → yS → yI → yL → Prop}
    (hC : yC X D z cc own nL dep) {cls text : String} {ik is ic j : Nat} (hw : yThr own ik ic cls) (hstr : (own, is, text, j) ∈ yRefs) (ht : ∀ x ∈ (yc X).exceptionTable.toList, False) (hdep : 6 ≤ dep) (hst : (st.map fun v => v.category).sum ≤ 8) (hcell : (yR X).cells = mc) (hslot : (yR X).slots = ms) (hk : k + 1 ≤ mc) (hw6 : w + 6 ≤ ms)
    (d0 : decode cc pc = .ok (.new ik, 3)) (d3 : decode cc (pc + 3) = .ok (.dup, 1)) (d4 : decode cc (pc + 4) = .ok (.ldc is, 2)) (d6 : decode cc (pc + 6) = .ok (.invokespecial ic, 3)) (d9 : decode cc (pc + 9) = .ok (.athrow, 1))
    (hq : ∀ n2, n ≤ n2 → Qx cls n2 sh I L) : Y X D z nL n sh I L k w (yEnd X D z Qr Qx mc ms) pc lv st := by
  intro H locs ls h1 h2 h3 h4
  obtain ⟨w1, w2, w3, w4, w5, w6, w7, w8⟩ := hw
  obtain ⟨hx, hb, hml, hown, hts, ⟨hK, hU, hN, hz, hS, hNc, hAO⟩, hf, hl, hlocks, htr⟩ := hC
  refine vx_throwS hx hb htr hown w1 w2 (hts _ w3) (hts _ w4) (hS.2.1 _ hstr) (vx_hat (fun w hw => hts w (w5 w hw)) w6 (vx_c (va_Nw.use rfl (hNc.cast w8)) (fun w hw => by obtain ⟨x, rfl⟩ := yDcl_on hw; exact va_Nw.use rfl (hNc.1 _ hw)))) w7 hU hN ⟨h2.1, fun q _ hq => h2.2 q (Nat.not_le.mp hq), h3⟩ (by rw [hml]; exact h4.1) d0 d3 d4 d6 d9 (fun x hx => (ht x hx).elim) ?_ ?_ (by rw [hcell]; exact hk) (by rw [hslot]; exact hw6) hlocks (fun t e1 e2 e3 => ?_) h3 hk hw6
  · show 2 + 3 < _; omega
  · show _ + (13 * (2 + 1) + 43) ≤ _; omega
  · refine ⟨t.heap.size, sh, I, L, hq _ (by rw [← h1.2.1]; exact e2), h1.longer rfl (by rw [← h1.2.1]; exact e2) (fun q hq => e3 q (by rw [h1.2.1]; exact hq)), ?_⟩
    exact h2.trans ⟨e2, fun q hq => e3 q (by rw [h1.2.1]; exact Nat.lt_of_lt_of_le hq h1.1)⟩
