theorem yOld.trans {z : Nat} {H0 H1 H2 : Heap} (h1 : yOld z H0 H1) (h2 : yOld z H1 H2) : yOld z H0 H2 := ⟨Nat.le_trans h1.1 h2.1, fun q hq => (h2.2 q hq).trans (h1.2 q hq)⟩
theorem yT_good {w : Cond} (h : w ∈ yT) : goodWord w = true := (List.mem_filter.mp h).2
theorem yT_goodIn {w0 : Cond} (h0 : w0 ∈ yT) : GoodIn yT (w0 :: yT) := fun w hw => by
  have hm : w ∈ yT := by
    rcases List.mem_cons.mp hw with h | h
    · rw [h]; exact h0
    · exact h
  exact ⟨hm, good_of_word (yT_good hm)⟩
def yCB (own : String) (idx : Nat) (y : MethodName) (bytes : ByteArray) (maxL : Nat) (ret : Option FieldType) (nA : Nat) : Prop := Cond.methodLink own idx y ∈ yT ∧ Cond.code y bytes maxL ret ∈ yT ∧ Cond.initialized y.cls ∈ yT ∧ (y.cls ≠ "java/lang/invoke/MethodHandle" ∧ y.cls ≠ "java/lang/invoke/VarHandle" ∧ (parseMethodDescriptor y.desc).map (fun d => d.parameters.length) = some nA) ∧ maxL ≤ 45
def yCV (own : String) (idx ci : Nat) (y : MethodName) (bytes : ByteArray) (maxL : Nat) (ret : Option FieldType) (nA : Nat) : Prop := yCB own idx y bytes maxL ret nA ∧ Cond.instanceMethod y ∈ yT ∧ Cond.selects y.cls y y ∈ yT ∧ ci < 9 ∧ ∃ T, vwCl[ci]? = some (y.cls, T, yN ci)
def yCS (own : String) (idx : Nat) (y : MethodName) (bytes : ByteArray) (maxL : Nat) (ret : Option FieldType) (nA : Nat) : Prop := yCB own idx y bytes maxL ret nA ∧ Cond.static y ∈ yT
def yCI (own : String) (idx : Nat) (y : MethodName) (bytes : ByteArray) (maxL : Nat) (nA : Nat) : Prop := yCB own idx y bytes maxL none nA ∧ y.name = "<init>" ∧ Cond.instanceMethod y ∈ yT
section Calls
variable {X : yX} {D : yD} {z nL n : Nat} {sh : yS} {I : yI} {L : yL} {k w : Nat} {Q : State → Prop} {pc : Nat} {lv : List (Option Value)} {st stk : List Value} {cc : ByteArray} {own : String} {dep : Nat}
variable {y : MethodName} {bytes : ByteArray} {maxL : Nat} {ret : Option FieldType} {d2 mc ms idx ci b : Nat} {As : List Value} {Qr : Option Value → Nat → yS → yI → yL → Prop} {Qx : String → Nat → yS → yI → yL → Prop}
theorem y_run {H : Heap} {locs : List Loc} {ls : Array Slot} {a : Array Value} (hr : vx_Run X.1 X.2.1 X.2.2.1 (yR X) (ys X) (ym X) (yargs X) (ybel X) (ymeth X) (yc X) H locs k w mc ms (F0 (ym X) pc ls stk) st (yQ D z Qr a) (yXC D z Qx) (fun q => z ≤ q))
    (h2 : yOld z (ys X).heap H) (h3 : ∀ o ∈ locs, z ≤ o.base) (h4 : yLV ls nL lv)
    (kk : ∀ v n sh I L, Qr v n sh I L → Y X D z nL n sh I L (k + mc) (w + ms) Q (pc + 3) lv (v.toList ++ st))
    (kx : ∀ E n sh I L, Qx E n sh I L → YX X D z nL n sh I L (k + mc) (w + ms) Q pc lv st E) : yW X H locs k w Q (F0 (ym X) pc ls stk) := by
  intro T hT Xs
  rcases hr T hT Xs with ⟨v, st₀, t, T', L9, e0, X', hL, e1, e2, ⟨v', n', sh', I', L', hv, hq, hR, ho⟩, go⟩ | ⟨q, st₀, t, T', L9, E, ce, e0, X', hL, e1, e2, ⟨n', sh', I', L', hq, hR, ho⟩, hce, hcv, hcl, go⟩
  · cases hv
    obtain ⟨t2, a1, b1⟩ := kk v n' sh' I' L' hq T'.heap (locs ++ L9) ls (by rw [e1]; exact hR) (by rw [e1]; exact yOld.trans h2 (by rw [← e0]; exact ho)) (fun o h => by
      rcases List.mem_append.mp h with h | h
      · exact h3 o h
      · exact hL o h) h4 T' rfl X'
    exact ⟨t2, go t2 a1, b1⟩
  · obtain ⟨t2, a1, b1⟩ := kx E n' sh' I' L' hq T'.heap (locs ++ L9) ls q ce (by rw [e1]; exact hR) (by rw [e1]; exact yOld.trans h2 (by rw [← e0]; exact ho)) (fun o h => by
      rcases List.mem_append.mp h with h | h
      · exact h3 o h
      · exact hL o h) h4 (by rw [e1]; exact hce) hcv hcl T' rfl X'
    exact ⟨t2, go.trans a1, b1⟩
theorem y_cb (hC : yC X D z cc own nL dep) (cw : yCB own idx y bytes maxL ret As.length) (hdep : d2 + 1 ≤ dep) : CallB (yR X) (ys X) (yargs X) own idx y bytes maxL ret (.code y bytes maxL ret :: yT) (yRm d2 mc ms) mc ms As.length := by
  obtain ⟨hx, hb, hml, hown, hts, hG, hf, hl, -⟩ := hC
  obtain ⟨c1, c2, c3, c4, c5⟩ := cw
  refine callB_of As.length hts (yT_goodIn c2) rfl rfl rfl (hts _ c3) (hts _ c1) c4 ⟨?_, ?_⟩
  · show d2 + 1 ≤ _; omega
  · show 8 + (maxL + 11) + 64 * d2 ≤ _; omega
theorem y_pre (hC : yC X D z cc own nL dep) {H : Heap} {av : List Value} (h1 : yRep D z n sh I L H) (h2 : yOld z (ys X).heap H) : ∀ U : State, U.heap = H → (ys X).WarmedH U.vm → yPc D z av n sh I L av.toArray U := fun U hU hW => ⟨rfl, by rw [hU]; exact h1, yG.moved hW (fun q hq => by rw [hU]; exact h2.2 q hq) (by rw [hU, h1.2.1]; exact h1.1) hC.2.2.2.2.2.1⟩
/-- invokevirtual of a method of ours -/
theorem y_callV (hC : yC X D z cc own nL dep) (hM : yM X.2.1 D z y bytes maxL ret d2 mc ms (.ref b :: As) n sh I L Qr Qx) (cw : yCV own idx ci y bytes maxL ret As.length) (hs : stk = ypush (.ref b :: As) st) (hb : (sh b).1 = ci) (hdep : d2 + 1 ≤ dep) (hst : (st.map fun v => v.category).sum ≤ 8) (hroom : k + mc ≤ (yR X).cells ∧ w + ms ≤ (yR X).slots) (hd : decode cc pc = .ok (.invokevirtual idx, 3))
    (kx : ∀ E n sh I L, Qx E n sh I L → YX X D z nL n sh I L (k + mc) (w + ms) Q pc lv st E)
    (kk : ∀ v n sh I L, Qr v n sh I L → Y X D z nL n sh I L (k + mc) (w + ms) Q (pc + 3) lv (v.toList ++ st)) : Y X D z nL n sh I L k w Q pc lv stk := by
  intro H locs ls h1 h2 h3 h4
  obtain ⟨cb, c1, c2, c3, T, c4⟩ := cw
  have hob := (h1.2.2 b (by rw [hb]; omega)).2.2.1 (by rw [hb]; exact c3)
  rw [hb] at hob
  obtain ⟨cell, q1, q2, q3, -⟩ := hob
  have hfc := (hC.2.2.2.2.2.1.1.1 ci _ c4).2.1
  refine y_run (a := (Value.ref b :: As).toArray) (vx_runV (own := own) (C := y.cls) (bytes := bytes) (maxL := maxL) (ret := ret) (n := As.length) (As := As) (b := b) (rest := st) ⟨hC.1, hC.2.1, hC.2.2.1, hC.2.2.2.1, hC.2.2.2.2.1⟩ (hM hC.2.2.2.2.2.2.2.2.2) ⟨y_cb hC cb hdep, hC.2.2.2.2.1 _ c1, hC.2.2.2.2.1 _ c2⟩ ⟨yPc_blind, ⟨cell, q1, by rw [q3]; rfl, by rw [q2]; exact hfc⟩, y_pre hC h1 h2⟩ rfl rfl h4.1 ?_ (lv_room hst) hd hroom) h2 h3 h4 kk kx
  rw [hs, ypush_eq]; simp
theorem y_callS (hC : yC X D z cc own nL dep) (hM : yM X.2.1 D z y bytes maxL ret d2 mc ms As n sh I L Qr Qx) (cw : yCS own idx y bytes maxL ret As.length) (hs : stk = ypush As st) (hdep : d2 + 1 ≤ dep) (hst : (st.map fun v => v.category).sum ≤ 8) (hroom : k + mc ≤ (yR X).cells ∧ w + ms ≤ (yR X).slots) (hd : decode cc pc = .ok (.invokestatic idx, 3))
    (kx : ∀ E n sh I L, Qx E n sh I L → YX X D z nL n sh I L (k + mc) (w + ms) Q pc lv st E)
    (kk : ∀ v n sh I L, Qr v n sh I L → Y X D z nL n sh I L (k + mc) (w + ms) Q (pc + 3) lv (v.toList ++ st)) : Y X D z nL n sh I L k w Q pc lv stk := by
  intro H locs ls h1 h2 h3 h4
  refine y_run (a := As.toArray) (vx_runS (own := own) (bytes := bytes) (maxL := maxL) (ret := ret) (n := As.length) (As := As) (rest := st) ⟨hC.1, hC.2.1, hC.2.2.1, hC.2.2.2.1, hC.2.2.2.2.1⟩ (hM hC.2.2.2.2.2.2.2.2.2) ⟨y_cb hC cw.1 hdep, hC.2.2.2.2.1 _ cw.2⟩ ⟨yPc_blind, y_pre hC h1 h2⟩ rfl rfl h4.1 ?_ (lv_room hst) hd hroom) h2 h3 h4 kk kx
  rw [hs, ypush_eq]
theorem y_callI (hC : yC X D z cc own nL dep) (hM : yM X.2.1 D z y bytes maxL none d2 mc ms (.ref b :: As) n sh I L Qr Qx) (cw : yCI own idx y bytes maxL As.length) (hs : stk = ypush (.ref b :: As) st) (hdep : d2 + 1 ≤ dep) (hst : (st.map fun v => v.category).sum ≤ 8) (hroom : k + mc ≤ (yR X).cells ∧ w + ms ≤ (yR X).slots) (hd : decode cc pc = .ok (.invokespecial idx, 3))
    (kx : ∀ E n sh I L, Qx E n sh I L → YX X D z nL n sh I L (k + mc) (w + ms) Q pc lv st E)
    (kk : ∀ v n sh I L, Qr v n sh I L → Y X D z nL n sh I L (k + mc) (w + ms) Q (pc + 3) lv (v.toList ++ st)) : Y X D z nL n sh I L k w Q pc lv stk := by
  intro H locs ls h1 h2 h3 h4
  refine y_run (a := (Value.ref b :: As).toArray) (vx_runI (own := own) (bytes := bytes) (maxL := maxL) (n := As.length) (As := As) (b := b) (rest := st) ⟨hC.1, hC.2.1, hC.2.2.1, hC.2.2.2.1, hC.2.2.2.2.1⟩ (hM hC.2.2.2.2.2.2.2.2.2) ⟨y_cb hC cw.1 hdep, cw.2.1, hC.2.2.2.2.1 _ cw.2.2⟩ ⟨yPc_blind, y_pre hC h1 h2⟩ rfl rfl h4.1 ?_ (lv_room hst) hd hroom) h2 h3 h4 kk kx
  rw [hs, ypush_eq]; simp
end Calls
