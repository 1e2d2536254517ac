section AnewRow
variable {X : yX} {D : yD} {z nL n : Nat} {sh : yS} {I : yI} {L : yL} {k w : Nat} {Q : State → Prop} {pc : Nat} {lv : List (Option Value)} {st : List Value} {cc : ByteArray} {own : String} {dep : Nat}
theorem y_anew12 (hC : yC X D z cc own nL dep) {idx : Nat} {m : Int32} {N : Nat} (hm : ¬ m < 0) (hN : m.toNatClampNeg = N) (hb4 : N * 4 ≤ 536870912) (hlink : Cond.classLink own idx "ChargebackProcessor$Book" ∈ yT) (hcells : k + 1 ≤ (yR X).cells) (hslots : w + N ≤ (yR X).slots) (hd : decode cc pc = .ok (.anewarray idx, 3))
    (kk : Y X D z nL (n + 1) (va_up sh n (12, N, fun _ => none)) (va_up I n (fun _ => 0)) (va_up L n (fun _ => 0)) (k + 1) (w + N) Q (pc + 3) lv (.ref n :: st)) : Y X D z nL n sh I L k w Q pc lv (.int m :: st) := by
  intro H locs ls h1 h2 h3 h4
  subst hN
  have hKK := hC
  obtain ⟨hx, hb, -, hown, hts, ⟨hK, -, -, -, -, -, hAO⟩, -⟩ := hC
  refine W.anew hx hb hown (hts _ hlink) (va_AO.use hAO) rfl hd rfl hm hb4 hcells hslots fun cA kA comp q1 q2 q3 q4 => ?_
  rw [h1.2.1]
  refine kk _ _ ls (h1.push (by simp [h1.2.1]) (fun q hq => by rw [Array.getElem?_push, if_neg (by rw [h1.2.1]; exact Nat.ne_of_lt hq)]) ?_) (yoldP h1.2.1 h1.1 (by simp [h1.2.1]) (fun q hq => by rw [Array.getElem?_push, if_neg (by rw [h1.2.1]; exact Nat.ne_of_lt hq)]) h2) h3 h4
  obtain ⟨kA2, comp2, -, -, -, r4⟩ := (yK_at hKK (t := 3) rfl).2
  have hcy : cA = D.2.1 12 := Option.some.inj (q1.symm.trans r4)
  subst hcy
  refine ⟨fun q => ?_, fun q => ?_, fun q => ?_, fun q => ?_, fun _ => ?_, fun q => ?_⟩
  rotate_left 4
  · rw [va_up_self, Array.getElem?_push, if_pos (by rw [h1.2.1]), arrV_new]; rfl
  all_goals (rw [va_up_self] at q; dsimp only at q; omega)
end AnewRow
/-- arguments onto the stack, the first one first -/
def ypush : List Value → List Value → List Value
  | [], st => st
  | a :: as, st => ypush as (a :: st)
theorem ypush_eq : ∀ (av st : List Value), ypush av st = av.reverse ++ st
  | [], st => rfl
  | a :: as, st => by rw [ypush, ypush_eq as]; simp
def yQ (D : yD) (z : Nat) (Qr : Option Value → Nat → yS → yI → yL → Prop) : Array Value → State → Outcome → State → Prop := fun _ st oc t => ∃ v n sh I L, oc = .returned v ∧ Qr v n sh I L ∧ yRep D z n sh I L t.heap ∧ yOld z st.heap t.heap
def yXC (D : yD) (z : Nat) (Qx : String → Nat → yS → yI → yL → Prop) : String → State → State → Prop := fun E st t => ∃ n sh I L, Qx E n sh I L ∧ yRep D z n sh I L t.heap ∧ yOld z st.heap t.heap
def yPc (D : yD) (z : Nat) (av : List Value) (n : Nat) (sh : yS) (I : yI) (L : yL) : Array Value → State → Prop := va_Pc av (fun U => yRep D z n sh I L U.heap ∧ yG D z U)
abbrev yRm (dep mc ms : Nat) : Room := { frames := dep, cells := mc, slots := ms, locals := 64 * dep }
/-- a method's contract: from this heap and these arguments it returns with Qr, or throws with Qx; dep frames, mc cells of ms slots -/
def yM (l : Launch) (D : yD) (z : Nat) (y : MethodName) (cc : ByteArray) (nL : Nat) (ret : Option FieldType) (dep mc ms : Nat) (av : List Value) (n : Nat) (sh : yS) (I : yI) (L : yL) (Qr : Option Value → Nat → yS → yI → yL → Prop) (Qx : String → Nat → yS → yI → yL → Prop) : Prop :=
  l.stackTraces = false → vx_Met l y (.code y cc nL ret :: yT) (yRm dep mc ms) (yPc D z av n sh I L) (yQ D z Qr) (yXC D z Qx) mc ms (fun q => z ≤ q)
abbrev yno : String → Nat → yS → yI → yL → Prop := fun _ _ _ _ _ => False
theorem yPc_blind {D : yD} {z : Nat} {av : List Value} {n : Nat} {sh : yS} {I : yI} {L : yL} : FrameBlind (yPc D z av n sh I L) := by
  intro a U g mk h
  obtain ⟨h1, h2, h3⟩ := h
  exact ⟨h1, h2, yG.moved (State.WarmedH.refl U) (fun _ _ => rfl) h3.2.2.2.1 h3⟩
def yEnd (X : yX) (D : yD) (z : Nat) (Qr : Option Value → Nat → yS → yI → yL → Prop) (Qx : String → Nat → yS → yI → yL → Prop) (mc ms : Nat) : State → Prop := vx_MQ (ybel X) (yQ D z Qr) (yXC D z Qx) (yargs X) (ys X) mc ms (fun q => z ≤ q)
def yent : List Value → List (Option Value)
  | [] => []
  | v :: vs => if v.category = 2 then some v :: none :: yent vs else some v :: yent vs
def ypad (nL : Nat) (l : List (Option Value)) : List (Option Value) := l ++ List.replicate (nL - l.length) none
theorem yget_rep : ∀ (m j : Nat) (v : Value), yget (List.replicate m none) j = some v → False
  | 0, j, v, h => by simp [yget] at h
  | m + 1, 0, v, h => by simp [List.replicate, yget] at h
  | m + 1, j + 1, v, h => yget_rep m j v (by simpa [List.replicate, yget] using h)
theorem yent_args : ∀ (vs : List Value) (m b j : Nat) (v : Value), yget (yent vs ++ List.replicate m none) j = some v → (b + j, v) ∈ lv_args b vs
  | [], m, b, j, v, h => (yget_rep m j v (by simpa [yent] using h)).elim
  | x :: vs, m, b, j, v, h => by
    unfold yent at h
    unfold lv_args
    by_cases hc : x.category = 2
    · rw [if_pos hc] at h
      rw [if_pos hc]
      match j, h with
      | 0, h => simp [yget] at h; subst h; exact List.mem_cons_self
      | 1, h => simp [yget] at h
      | j + 2, h =>
        have := yent_args vs m (b + 2) j v (by simpa [yget] using h)
        rw [show b + (j + 2) = b + 2 + j by omega]
        exact List.mem_cons_of_mem _ this
    · rw [if_neg hc] at h
      rw [if_neg hc]
      match j, h with
      | 0, h => simp [yget] at h; subst h; exact List.mem_cons_self
      | j + 1, h =>
        have := yent_args vs m (b + 1) j v (by simpa [yget] using h)
        rw [show b + (j + 1) = b + 1 + j by omega]
        exact List.mem_cons_of_mem _ this
theorem yLV.entry {av : List Value} {nL : Nat} (h : (lg_sl av).length ≤ nL) : yLV ((lg_sl av ++ List.replicate (nL - (lg_sl av).length) Slot.unset).toArray) nL (ypad nL (yent av)) := by
  have hl := lv_entry av (n := nL) h
  exact ⟨hl.1, hl.2.1, fun i v hv => hl.2.2 (i, v) (by simpa using yent_args av _ 0 i v hv)⟩
theorem yM_of {l : Launch} {D : yD} {z : Nat} {y : MethodName} {cc : ByteArray} {nL : Nat} {ret : Option FieldType} {dep mc ms : Nat} {av : List Value} {n : Nat} {sh : yS} {I : yI} {L : yL} {Qr : Option Value → Nat → yS → yI → yL → Prop} {Qx : String → Nat → yS → yI → yL → Prop} {lv : List (Option Value)} (hy : plainName y.cls = true) (hav : (lg_sl av).length ≤ nL) (hlv : ypad nL (yent av) = lv)
    (body : ∀ X : yX, yC X D z cc y.cls nL dep → (ymeth X).sig.returnType = ret → (ymeth X).name = y.name → (yR X).cells = mc → (yR X).slots = ms → (∀ x ∈ (yc X).exceptionTable.toList, False) → Y X D z nL n sh I L 0 0 (yEnd X D z Qr Qx mc ms) 0 lv []) : yM l D z y cc nL ret dep mc ms av n sh I L Qr Qx := by
  intro hst
  refine vx_ofW (cc := cc) (maxL := nL) (ret := ret) hy rfl ?_
  intro p e s m args below meth c s₁ B hml ht hv
  obtain ⟨rfl, hR, hG⟩ := hv
  have hts := atoms_spec (ws := .code y cc nL ret :: yT) B.pre
  rw [lg_entry_eq]
  refine body (p, l, e, yRm dep mc ms, s, m, av.toArray, below, meth, c) ⟨B.exec, B.bytes, hml, findClass_of_methodNamed B.named, fun w hw => hts w (List.mem_cons_of_mem _ hw), hG, Nat.le_refl _, Nat.le_refl _, B.notSynchronized, hst⟩ B.returns (name_of_methodNamed B.named B.method).1 rfl rfl ht s.heap [] _ hR ⟨Nat.le_refl _, fun _ _ => rfl⟩ (fun o h => absurd h List.not_mem_nil) ?_
  rw [← hlv]
  exact yLV.entry hav
section Ends
variable {X : yX} {D : yD} {z nL n : Nat} {sh : yS} {I : yI} {L : yL} {k w : Nat} {pc : Nat} {lv : List (Option Value)} {cc : ByteArray} {own : String} {dep mc ms : Nat} {Qr : Option Value → Nat → yS → yI → yL → Prop} {Qx : String → Nat → yS → yI → yL → Prop}
theorem y_iret (hC : yC X D z cc own nL dep) {v : Int32} {ty : FieldType} (hr : (ymeth X).sig.returnType = some ty) (hn : narrow ty (.int v) = .int v) (hk : k ≤ mc) (hw : w ≤ ms) (hd : decode cc pc = .ok (.ireturn, 1)) (hq : Qr (some (.int v)) n sh I L) : Y X D z nL n sh I L k w (yEnd X D z Qr Qx mc ms) pc lv [.int v] := by
  intro H locs ls h1 h2 h3 h4
  refine vx_ret (W.widen hk hw (W.zret hC.1 hC.2.1 hr hn (fun t ht hW => ?_) h3 hd hC.2.2.2.2.2.2.2.2.1))
  exact ⟨_, n, sh, I, L, rfl, hq, by rw [ht]; exact h1, by rw [ht]; exact h2⟩
theorem y_lret (hC : yC X D z cc own nL dep) {v : Int64} (hr : (ymeth X).sig.returnType = some .long) (hk : k ≤ mc) (hw : w ≤ ms) (hd : decode cc pc = .ok (.lreturn, 1)) (hq : Qr (some (.long v)) n sh I L) : Y X D z nL n sh I L k w (yEnd X D z Qr Qx mc ms) pc lv [.long v] := by
  intro H locs ls h1 h2 h3 h4
  refine vx_ret (W.widen hk hw (W.lret hC.1 hC.2.1 hr (fun t ht hW => ?_) h3 hd hC.2.2.2.2.2.2.2.2.1))
  exact ⟨_, n, sh, I, L, rfl, hq, by rw [ht]; exact h1, by rw [ht]; exact h2⟩
theorem y_aret (hC : yC X D z cc own nL dep) {a : Nat} {rt : FieldType} (hr : (ymeth X).sig.returnType = some rt) (hrt : (∃ n, rt = .object n) ∨ ∃ t, rt = .array t) (hk : k ≤ mc) (hw : w ≤ ms) (hd : decode cc pc = .ok (.areturn, 1)) (hq : Qr (some (.ref a)) n sh I L) : Y X D z nL n sh I L k w (yEnd X D z Qr Qx mc ms) pc lv [.ref a] := by
  intro H locs ls h1 h2 h3 h4
  refine vx_ret (W.widen hk hw (W.aret hC.1 hC.2.1 hr hrt (Or.inr ⟨a, rfl⟩) (fun t ht hW => ?_) h3 hd hC.2.2.2.2.2.2.2.2.1))
  exact ⟨_, n, sh, I, L, rfl, hq, by rw [ht]; exact h1, by rw [ht]; exact h2⟩
theorem y_vret (hC : yC X D z cc own nL dep) (hr : (ymeth X).sig.returnType = none) (hk : k ≤ mc) (hw : w ≤ ms) (hd : decode cc pc = .ok (.return_, 1)) (hq : Qr none n sh I L) : Y X D z nL n sh I L k w (yEnd X D z Qr Qx mc ms) pc lv [] := by
  intro H locs ls h1 h2 h3 h4
  refine vx_ret (W.widen hk hw (W.vret hC.1 hC.2.1 hr (fun t ht hW => ?_) h3 hd hC.2.2.2.2.2.2.2.2.1))
  exact ⟨_, n, sh, I, L, rfl, hq, by rw [ht]; exact h1, by rw [ht]; exact h2⟩
end Ends
/-- an exception of class E is on its way over this frame -/
def YX (X : yX) (D : yD) (z nL n : Nat) (sh : yS) (I : yI) (L : yL) (k w : Nat) (Q : State → Prop) (pc : Nat) (lv : List (Option Value)) (st : List Value) (E : String) : Prop :=
  ∀ (H : Heap) (locs : List Loc) (ls : Array Slot) (q : Addr) (ce : Cell), yRep D z n sh I L H → yOld z (ys X).heap H → (∀ o ∈ locs, z ≤ o.base) → yLV ls nL lv → H[q]? = some ce → ce.vm = .none → (ys X).vm.findClass E = some ce.cls → vx_W X.1 X.2.1 X.2.2.1 (yR X) (ys X) (ym X) (yargs X) (ybel X) (ymeth X) (yc X) H locs k w Q (F0 (ym X) pc ls st) q
theorem yx_out {X : yX} {D : yD} {z nL n : Nat} {sh : yS} {I : yI} {L : yL} {k w : Nat} {pc : Nat} {lv : List (Option Value)} {st : List Value} {cc : ByteArray} {own : String} {dep mc ms : Nat} {Qr : Option Value → Nat → yS → yI → yL → Prop} {Qx : String → Nat → yS → yI → yL → Prop} {E : String} (hC : yC X D z cc own nL dep) (ht : ∀ x ∈ (yc X).exceptionTable.toList, False) (hk : k ≤ mc) (hw : w ≤ ms) (hq : Qx E n sh I L) : YX X D z nL n sh I L k w (yEnd X D z Qr Qx mc ms) pc lv st E := by
  intro H locs ls q ce h1 h2 h3 h4 h5 h6 h7
  exact vx_out (fun x hx => (ht x hx).elim) hC.2.2.2.2.2.2.2.2.1 h5 h6 h7 (fun t e1 e2 => ⟨n, sh, I, L, hq, by rw [e1]; exact h1, by rw [e1]; exact h2⟩) h3 hk hw
