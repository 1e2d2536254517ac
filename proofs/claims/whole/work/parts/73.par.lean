/-- an item for the score, in the reader's rows -/
def adZ (Z : yI) (cnt len : Nat) (it : Int32) : yI := if len < cnt then up2 (up2 Z 16 len it) 15 2 (nI (len + 1)) else Z
theorem c_addZ (l : Launch) (D : yD) (z : Nat) {n : Nat} {sh : yS} {I : yI} {L : yL} {r cnt : Nat} {Z : yI} (hF : yFor sh (r + 15) cnt) {len : Nat} {it : Int32} (hl : Z 15 2 = nI len) (hm : len ≤ cnt) (hm2 : cnt < 2147483648) : yM l D z yX1_add cX1_add 2 none 0 0 0 [.ref (r + 15), .int it] n sh (sR 18 I r Z) L (yF none n sh (sR 18 I r (adZ Z cnt len it)) L) yno := by
  have h := c_X1_addg l D z (n := n) (I := sR 18 I r Z) (L := L) (F := gR (sR 18 I r Z) (r + 15)) hF (it := it) (len := len) ((congrFun (sR_at (by decide)) 2).trans hl) hm hm2
  rw [sR_get] at h
  unfold adZ
  unfold addF at h
  by_cases hc : len < cnt
  · rw [if_pos hc, ← sR_up0 (by decide), ← sR_up (by decide), sR_get, show r + 15 + 1 = r + 16 from rfl, sR_up (by decide), sR_up (by decide)] at h
    rw [if_pos hc]
    exact h
  · rw [if_neg hc, sR_get] at h
    rw [if_neg hc]
    exact h
abbrev yZ (R : yI → Prop) (n : Nat) (sh : yS) (I : yI) (r : Nat) (L : yL) : Option Value → Nat → yS → yI → yL → Prop := fun v n2 sh2 I2 L2 => v = none ∧ n2 = n ∧ sh2 = sh ∧ (∃ Z2, I2 = sR 18 I r Z2 ∧ R Z2) ∧ L2 = L
theorem yZ.mk {R : yI → Prop} {n : Nat} {sh : yS} {I : yI} {r : Nat} {L : yL} {Z : yI} (h : R Z) : yZ R n sh I r L none n sh (sR 18 I r Z) L := ⟨rfl, rfl, rfl, ⟨Z, rfl, h⟩, rfl⟩
theorem y_callZ {X : yX} {D : yD} {z nL n : Nat} {sh : yS} {I J : yI} {L : yL} {k w : Nat} {Q : State → Prop} {pc : Nat} {lv : List (Option Value)} {st stk : List Value} {cc : ByteArray} {own : String} {dep : Nat} {y : MethodName} {bytes : ByteArray} {maxL : Nat} {ret : Option FieldType} {d2 idx ci b r : Nat} {As : List Value} {R : yI → Prop} (hC : yC X D z cc own nL dep) (hM : yM X.2.1 D z y bytes maxL ret d2 0 0 (.ref b :: As) n sh J L (yZ R n sh I r L) yno) (cw : yCV own idx ci y bytes maxL ret As.length) (hs : stk = ypush (.ref b :: As) st) (hb : (sh b).1 = ci) (hdep : d2 + 1 ≤ dep) (hst : (st.map fun v => v.category).sum ≤ 8) (hk : k ≤ (yR X).cells) (hw : w ≤ (yR X).slots) (hd : decode cc pc = .ok (.invokevirtual idx, 3)) (kk : ∀ Z2, R Z2 → Y X D z nL n sh (sR 18 I r Z2) L k w Q (pc + 3) lv st) : Y X D z nL n sh J L k w Q pc lv stk := y_callV hC hM cw hs hb hdep hst ⟨hk, hw⟩ hd (fun _ _ _ _ _ h => h.elim) (fun _ _ _ _ _ h => by obtain ⟨rfl, rfl, rfl, ⟨Z2, rfl, hP⟩, rfl⟩ := h; exact kk Z2 hP)
theorem adZ_r {Z : yI} {cnt len : Nat} {it : Int32} {r : Nat} (h1 : r ≠ 15) (h2 : r ≠ 16) : adZ Z cnt len it r = Z r := by
  unfold adZ
  split
  · rw [up2_r h1, up2_r h2]
  · rfl
theorem rcS.ad {k v s : Nat → Int32} {cnt : Nat} {Z : yI} {P : yPs} (h : rcS k v s cnt 15 cnt Z P) {len : Nat} (hl : Z 15 2 = nI len) (hlc : len ≤ cnt) {it : Int32} : rcS k v s cnt 15 cnt (adZ Z cnt len it) (gAdd it P) := by
  obtain ⟨⟨t1, t2, t3, t4⟩, ⟨i1, i2⟩, e1, e2, ⟨nr, n1, n2⟩, -, f1⟩ := h
  have e0 : adZ Z cnt len it 0 = Z 0 := adZ_r (by decide) (by decide)
  have e5 : adZ Z cnt len it 5 = Z 5 := adZ_r (by decide) (by decide)
  refine ⟨⟨(adZ_r (by decide) (by decide)).trans t1, (adZ_r (by decide) (by decide)).trans t2, (adZ_r (by decide) (by decide)).trans t3, (congrFun (adZ_r (by decide) (by decide)) 5).trans t4⟩, ⟨(congrFun e0 2).trans i1, i2⟩, (congrFun e0 7).trans e1, fun q => (congrFun e0 8).trans (e2 q), ⟨nr, n1, (congrFun e5 6).trans n2.1, n2.2⟩, ?_, by rw [e0]; exact f1⟩
  unfold adZ
  split
  · rename_i hc; exact ⟨len + 1, hc, up2_at⟩
  · exact ⟨len, hlc, hl⟩
theorem rcD.ad {Z : yI} {d : Nat → Int32} {cnt len : Nat} {it : Int32} (h : rcD Z d) : rcD (adZ Z cnt len it) d := by
  have e0 : adZ Z cnt len it 0 = Z 0 := adZ_r (by decide) (by decide)
  have e5 : adZ Z cnt len it 5 = Z 5 := adZ_r (by decide) (by decide)
  refine ⟨by rw [e0]; exact h.1, by rw [e5]; exact h.2.1, fun j hj c hc => (congrFun (adZ_r (by omega) (by omega)) j).trans (h.2.2.1 j hj c hc), h.2.2.2⟩
theorem rcF.ad {Z : yI} {cd : List Int32} {cnt : Nat} {it : Int32} (h : rcF 15 Z cd) (hc : cd.length < cnt) : rcF 15 (adZ Z cnt cd.length it) (cd ++ [it]) := by
  rw [adZ, if_pos hc]
  refine ⟨by rw [up2_at, List.length_append]; rfl, fun j hj => ?_⟩
  rw [List.length_append] at hj
  have hj : j < cd.length + 1 := hj
  show up2 (up2 Z 16 cd.length it) 15 2 (nI (cd.length + 1)) 16 j = _
  rw [up2_r (by decide)]
  show upd (Z 16) cd.length it j = _
  by_cases e : j = cd.length
  · subst e; rw [upd_same]; simp [List.getD]
  · rw [upd_ne9 e]
    have : j < cd.length := by omega
    rw [show Z 16 j = cd.getD j 0 from h.2 j this]
    simp [List.getD, List.getElem?_append_left this]

