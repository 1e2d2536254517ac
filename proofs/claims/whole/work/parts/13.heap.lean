def yCls (ci : Nat) (C : String) (T : u_T) (ty : Nat → FieldType) : Prop := vwCl[ci]? = some (C, T, yN ci) ∧ ci < 9 ∧ (∀ w ∈ u_ws C T (yN ci), w ∈ yT) ∧ (∀ k, k < yN ci → parseFieldDescriptor (T k).2.2.1 = some (ty k)) ∧ (∀ a, a < yN ci → ∀ b, b < yN ci → a ≠ b → (T a).2.1 ≠ (T b).2.1) ∧ (∀ k, k < yN ci → defaultValue (ty k) = if yrf ci k = true then .null else .int 0) ∧ Cond.instantiable C (yN ci) ∈ yT ∧ Cond.initialized C ∈ yT
/-- the pool entry idx of own is field k of class ci -/
def yFL (own : String) (idx ci k : Nat) (ty : FieldType) (fin : Bool) : Prop := ∃ (C : String) (T : u_T) (tyf : Nat → FieldType), yCls ci C T tyf ∧ k < yN ci ∧ Cond.fieldLink own idx (T k).1 (T k).2.1 (T k).2.2.1 ∈ yT ∧ tyf k = ty ∧ (T k).2.2.2 = fin ∧ (T k).1 = C
def up2 (I : yI) (a j : Nat) (v : Int32) : yI := va_up I a (upd (I a) j v)
def up2L (L : yL) (a j : Nat) (v : Int64) : yL := va_up L a (vp_updL (L a) j v)
def upr (sh : yS) (a j : Nat) (v : Option Nat) : yS := va_up sh a ((sh a).1, (sh a).2.1, va_up (sh a).2.2 j v)
theorem yCell.kept {D : yD} {sh sh' : yS} {I I' : yI} {L L' : yL} {b : Nat} {H H1 : Heap} (h : yCell D sh I L b H) (e1 : sh' b = sh b) (e2 : I' b = I b) (e3 : L' b = L b) (e4 : H1[b]? = H[b]?) : yCell D sh' I' L' b H1 := by
  obtain ⟨a1, a2, a3, a4, a5, a6⟩ := h
  have ef : ∀ c, yfv sh' I' b c = yfv sh I b c := fun c => by funext k; simp only [yfv, e1, e2]
  refine ⟨?_, ?_, ?_, ?_, ?_, ?_⟩
  · rw [e1, ef]; exact fun h => (a1 h).kept e4
  · rw [e1, e2, e4]; exact a2
  · rw [e1, e2, e4]; exact a3
  · rw [e1, e3, e4]; exact a4
  · rw [e1, e4]; exact a5
  · rw [e1, e4]; exact a6
/-- one cell has changed -/
theorem yRep.at {D : yD} {z n : Nat} {sh sh' : yS} {I I' : yI} {L L' : yL} {H H1 : Heap} {a : Nat} (h : yRep D z n sh I L H) (ha : z ≤ a) (han : a < n) (hz : H1.size = H.size) (ho : ∀ q, q ≠ a → H1[q]? = H[q]?) (e1 : ∀ b, b ≠ a → sh' b = sh b) (e2 : ∀ b, b ≠ a → I' b = I b) (e3 : ∀ b, b ≠ a → L' b = L b) (hc : yCell D sh' I' L' a H1) : yRep D z n sh' I' L' H1 := by
  refine ⟨h.1, hz.trans h.2.1, fun b hb => ?_⟩
  by_cases e : b = a
  · subst e
    exact ⟨ha, han, hc⟩
  · rw [e1 b e] at hb
    obtain ⟨q1, q2, q3⟩ := h.2.2 b hb
    exact ⟨q1, q2, q3.kept (e1 b e) (e2 b e) (e3 b e) (ho b e)⟩
theorem yold {z a : Nat} {H H1 H0 : Heap} (ha : z ≤ a) (hz : H1.size = H.size) (ho : ∀ q : Nat, q ≠ a → H1[q]? = H[q]?) (h2 : yOld z H0 H) : yOld z H0 H1 := ⟨by rw [hz]; exact h2.1, fun q hq => (ho q (by omega)).trans (h2.2 q hq)⟩
theorem yoldP {z n : Nat} {H H1 H0 : Heap} (hn : H.size = n) (hzn : z ≤ n) (hz : H1.size = n + 1) (ho : ∀ q : Nat, q < n → H1[q]? = H[q]?) (h2 : yOld z H0 H) : yOld z H0 H1 := ⟨by rw [hz, ← hn]; exact Nat.le_succ_of_le h2.1, fun q hq => (ho q (by omega)).trans (h2.2 q hq)⟩
theorem yloc {z a j : Nat} {locs : List Loc} (ha : z ≤ a) (h3 : ∀ o ∈ locs, z ≤ o.base) : ∀ o ∈ locs ++ [⟨a, j⟩], z ≤ o.base := fun o ho => by
  rcases List.mem_append.mp ho with h | h
  · exact h3 o h
  · rw [List.mem_singleton.mp h]; exact ha
/-- a new cell at the end -/
theorem yRep.push {D : yD} {z n : Nat} {sh : yS} {I : yI} {L : yL} {H H1 : Heap} {c : Nat × Nat × (Nat → Option Nat)} {r : Nat → Int32} {q : Nat → Int64} (h : yRep D z n sh I L H) (hz : H1.size = n + 1) (ho : ∀ q : Nat, q < n → H1[q]? = H[q]?) (hc : yCell D (va_up sh n c) (va_up I n r) (va_up L n q) n H1) : yRep D z (n + 1) (va_up sh n c) (va_up I n r) (va_up L n q) H1 := by
  refine ⟨Nat.le_succ_of_le h.1, hz, fun b hb => ?_⟩
  by_cases e : b = n
  · subst e
    exact ⟨h.1, Nat.lt_succ_self _, hc⟩
  · rw [va_up_ne _ _ e] at hb
    obtain ⟨q1, q2, q3⟩ := h.2.2 b hb
    exact ⟨q1, Nat.lt_succ_of_lt q2, q3.kept (va_up_ne _ _ e) (va_up_ne _ _ e) (va_up_ne _ _ e) (ho b q2)⟩
section RowsH
variable {X : yX} {D : yD} {z nL n : Nat} {sh : yS} {I : yI} {L : yL} {k w : Nat} {Q : State → Prop} {pc : Nat} {lv : List (Option Value)} {st : List Value} {cc : ByteArray} {own : String} {dep : Nat}
theorem y_getf (hC : yC X D z cc own nL dep) {a ci j idx : Nat} {ty : FieldType} {fin : Bool} (ha : (sh a).1 = ci) (hfl : yFL own idx ci j ty fin) (hd : decode cc pc = .ok (.getfield idx, 3)) (kk : Y X D z nL n sh I L k w Q (pc + 3) lv (yfv sh I a ci j :: st)) : Y X D z nL n sh I L k w Q pc lv (.ref a :: st) := by
  intro H locs ls h1 h2 h3 h4
  obtain ⟨C, T, tyf, ⟨hc, hlt, hin, -, -, -⟩, hk, hlink, -, -, -⟩ := hfl
  obtain ⟨hx, hb, -, hown, hts, ⟨hK, -⟩, -⟩ := hC
  have hob := (h1.2.2 a (by rw [ha]; omega)).2.2.1 (by rw [ha]; exact hlt)
  rw [ha] at hob
  obtain ⟨cell, q1, q2, q3, q4⟩ := hob
  obtain ⟨hS, hfc, kC, hkC, hkind⟩ := hK.1 ci _ hc
  obtain ⟨cf, kf, fi, f, hi, hsl⟩ := hS j hk
  refine W.getf hx hb hown (hts _ hlink) hi (u_facts hfc hkC (u_lays hts hin hk) hi).1 q1 (by rw [q3]; exact fun h => by cases h) (v := yfv sh I a ci j) ?_ rfl rfl hd (kk H locs ls h1 h2 h3 h4)
  rw [hsl, q4 j hk]
theorem y_getI (hC : yC X D z cc own nL dep) {a ci j idx : Nat} {ty : FieldType} {fin : Bool} (ha : (sh a).1 = ci) (hfl : yFL own idx ci j ty fin) (hr : yrf ci j = false) (hd : decode cc pc = .ok (.getfield idx, 3)) (kk : Y X D z nL n sh I L k w Q (pc + 3) lv (.int (I a j) :: st)) : Y X D z nL n sh I L k w Q pc lv (.ref a :: st) := by
  refine y_getf hC ha hfl hd ?_
  rw [show yfv sh I a ci j = .int (I a j) by simp [yfv, hr]]
  exact kk
theorem y_getR (hC : yC X D z cc own nL dep) {a b ci j idx : Nat} {ty : FieldType} {fin : Bool} (ha : (sh a).1 = ci) (hv : (sh a).2.2 j = some b) (hfl : yFL own idx ci j ty fin) (hr : yrf ci j = true) (hd : decode cc pc = .ok (.getfield idx, 3)) (kk : Y X D z nL n sh I L k w Q (pc + 3) lv (.ref b :: st)) : Y X D z nL n sh I L k w Q pc lv (.ref a :: st) := by
  refine y_getf hC ha hfl hd ?_
  rw [show yfv sh I a ci j = .ref b by simp [yfv, hr, hv, va_rf]]
  exact kk
theorem y_putf (hC : yC X D z cc own nL dep) {sh' : yS} {I' : yI} {a ci j idx : Nat} {ty : FieldType} {fin : Bool} {v : Value} (ha : (sh a).1 = ci) (hfl : yFL own idx ci j ty fin) (hfin : fin = false ∨ ((ymeth X).name = "<init>" ∧ ∀ C T tyf, yCls ci C T tyf → C = own)) (hn : narrow ty v = v) (hfit : fits ty v = true) (hd : decode cc pc = .ok (.putfield idx, 3))
    (e0 : (sh' a).1 = ci) (e1 : ∀ b, b ≠ a → sh' b = sh b) (e2 : ∀ b, b ≠ a → I' b = I b) (e3 : ∀ i, i < yN ci → updV (yfv sh I a ci) j v i = yfv sh' I' a ci i)
    (kk : Y X D z nL n sh' I' L k w Q (pc + 3) lv st) : Y X D z nL n sh I L k w Q pc lv (v :: .ref a :: st) := by
  intro H locs ls h1 h2 h3 h4
  have hfl2 := hfl
  obtain ⟨C, T, tyf, hcls, hk, hlink, hty, hfi, hdecl⟩ := hfl2
  have hcls2 := hcls
  obtain ⟨hc, hlt, hin, hpt, hnm, -, -, -⟩ := hcls2
  obtain ⟨hx, hb, -, hown, hts, ⟨hK, -⟩, -⟩ := hC
  obtain ⟨hza, hna, hcell⟩ := h1.2.2 a (by rw [ha]; omega)
  have hob := hcell.1 (by rw [ha]; exact hlt)
  rw [ha] at hob
  have hap := va_apart (own := own) hts hin tyf hpt hnm hK hc
  obtain ⟨cell, q1, q2, q3, q4⟩ := hob
  obtain ⟨hS, hfc, kC, hkC, hkind⟩ := hK.1 ci _ hc
  obtain ⟨cf, kf, fi, f, hi, hsl⟩ := hS j hk
  have hlay := hts _ (hin _ (u_in_lay hk))
  have hst := (u_facts hfc hkC (u_lays hts hin hk) hi).1
  have hpd : parseFieldDescriptor (T j).2.2.1 = some ty := by rw [hpt j hk, hty]
  have key : ∀ H1 : Heap, H1[a]? = some (cell.setSlot f.slot v) → H1.size = H.size → (∀ q, q ≠ a → H1[q]? = H[q]?) → yW X H1 (locs ++ [⟨a, f.slot⟩]) k w Q (F0 (ym X) (pc + 3) ls st) := by
    intro H1 g1 g2 g3
    rw [hsl] at g1 ⊢
    refine kk H1 _ ls (h1.at hza hna g2 g3 e1 e2 (fun _ _ => rfl) ?_) (yold hza g2 g3 h2) (yloc hza h3) h4
    refine ⟨fun _ => ?_, fun q => ?_, fun q => ?_, fun q => ?_, fun q => ?_, fun q => ?_⟩
    · rw [e0]
      exact t_OB.to (V := updV (yfv sh I a ci) j v) ⟨_, g1, q2, q3, t_set q4 hap hk v⟩ e3
    all_goals (rw [e0] at q; omega)
  unfold u_lay at hlay
  rcases hfin with hfin | ⟨hin2, hown2⟩
  · rw [if_neg (by rw [hfi, hfin]; decide)] at hlay
    have h6 := u_store hfc hkC hkind hlay hi hpd hn hfit
    exact W.putK hx hb (f := f) ⟨hown, hts _ hlink, ⟨_, _, _, hi⟩, hst⟩ (by rw [q2]; exact h6) q1 q3 (by rw [hsl]; exact k2_hasslot (q4 j hk)) rfl rfl hd key
  · cases hf : (T j).2.2.2 with
    | false =>
      rw [if_neg (by rw [hf]; decide)] at hlay
      have h6 := u_store hfc hkC hkind hlay hi hpd hn hfit
      exact W.putK hx hb (f := f) ⟨hown, hts _ hlink, ⟨_, _, _, hi⟩, hst⟩ (by rw [q2]; exact h6) q1 q3 (by rw [hsl]; exact k2_hasslot (q4 j hk)) rfl rfl hd key
    | true =>
      rw [if_pos hf] at hlay
      have hcf : (ym X).cls = cf := by
        obtain ⟨_, _, c', _, _, _, -, -, hf', -, -, -, hown3, -⟩ := Cond.laysFinal_spec hlay
        have e1 : c' = cf := by have := hi.symm.trans hf'; simp at this; exact this.1.symm
        rw [hdecl, hown2 C T tyf hcls] at hown3
        rw [← e1]; exact Option.some.inj (hown.symm.trans hown3)
      have h6 := u_fits hfc hkC hkind (Or.inr hlay) hi hpd hn hfit
      exact W.putFinK hx hb hown (hts _ hlink) hi hst hcf hin2 (by rw [q2]; exact h6) q1 q3 (by rw [hsl]; exact k2_hasslot (q4 j hk)) rfl rfl hd key
end RowsH
