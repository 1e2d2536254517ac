/-- an int[][] has been made before -/
def yAOA (U : State) : Prop := (Cond.arrayOver (.array .int)).before #[] U = true
theorem youter (c : ClassId) (N h0 : Nat) : ∀ i : Nat, Jvm.Free.Multi.outerC c N h0 i = arrV c N (fun j => va_rf (if j < i then some (h0 + 1 + j) else none))
  | 0 => by
    show ({ cls := c, slots := Array.replicate N .null, vm := .none } : Cell) = _
    rw [arrV_new]
    refine congrArg (arrV c N) (funext fun j => ?_)
    simp [va_rf]
  | i + 1 => by
    show (Jvm.Free.Multi.outerC c N h0 i).setSlot i (.ref (h0 + 1 + i)) = _
    rw [youter c N h0 i, arrV_store]
    refine congrArg (arrV c N) (funext fun j => ?_)
    by_cases e : j = i
    · subst e
      simp [updV, va_rf]
    · by_cases h : j < i
      · simp [updV, e, h, Nat.lt_succ_of_lt h]
      · simp [updV, e, h, show ¬ j < i + 1 by omega]
def mnS (sh : yS) (n N K : Nat) : yS := fun a => if a = n then (13, N, fun j => if j < N then some (n + 1 + j) else none) else if n < a ∧ a < n + 1 + N then (10, K, fun _ => none) else sh a
def mnI (I : yI) (n N : Nat) : yI := fun a => if n ≤ a ∧ a < n + 1 + N then fun _ => 0 else I a
section Mna
variable {X : yX} {D : yD} {z nL n : Nat} {sh : yS} {I : yI} {L : yL} {k w : Nat} {Q : State → Prop} {pc : Nat} {lv : List (Option Value)} {st : List Value} {cc : ByteArray} {own : String} {dep : Nat}
theorem y_mna (hC : yC X D z cc own nL dep) {idx : Nat} {m1 m2 : Int32} {N K : Nat} (hAO : yAOA (ys X)) (hn : ¬ m1 < 0) (hk : ¬ m2 < 0) (hN : m1.toNatClampNeg = N) (hK : m2.toNatClampNeg = K) (hb1 : N * 4 ≤ 536870912) (hb2 : K * 4 ≤ 536870912) (hlink : Cond.classLink own idx "[[I" ∈ yT) (hcells : k + (1 + N) ≤ (yR X).cells) (hslots : w + (N + N * K) ≤ (yR X).slots) (hd : decode cc pc = .ok (.multianewarray idx 2, 4))
    (kk : Y X D z nL (n + 1 + N) (mnS sh n N K) (mnI I n N) L (k + 1 + N) (w + N + N * K) Q (pc + 4) lv (.ref n :: st)) : Y X D z nL n sh I L k w Q pc lv (.int m2 :: .int m1 :: st) := by
  intro H locs ls h1 h2 h3 h4
  subst hN
  subst hK
  have hKK := hC
  obtain ⟨hx, hb, -, hown, hts, -⟩ := hC
  intro T hT Xs
  obtain ⟨vm₁, cA, comp, -, fA, fC, hO, -, X', step⟩ := Xs.multianewarray2F hx (own := own) (index := idx) (ty := .int) hown (hts _ hlink) hAO (hts _ ac_int) (g := F0 (ym X) pc ls (.int m2 :: .int m1 :: st)) rfl (by rw [hb]; exact hd) rfl hn hk hb1 hb2 (by omega) rfl rfl hcells hslots
  have e13 : cA = D.2.1 13 := by
    have r4 := (yK_at hKK (t := 4) rfl).2
    exact Option.some.inj (fA.symm.trans r4)
  have e10 : comp = D.2.1 10 := by
    have r4 := (yK_at hKK (t := 1) rfl).2
    exact Option.some.inj (fC.symm.trans r4)
  subst e13
  subst e10
  generalize hF : Jvm.Free.Multi.fill (T.setVm vm₁) (D.2.1 13) (D.2.1 10) m1.toNatClampNeg m2.toNatClampNeg (defaultValue .int) m1.toNatClampNeg = F at X' step
  have hTh : (T.setVm vm₁).heap = H := hT
  obtain ⟨f1, f2, -, -⟩ := Jvm.Free.Multi.fill_facts (T.setVm vm₁) (D.2.1 13) (D.2.1 10) m1.toNatClampNeg m2.toNatClampNeg (defaultValue .int) m1.toNatClampNeg
  rw [hF, hTh, h1.2.1] at f1 f2
  rw [youter] at f2
  have hold : ∀ x : Nat, x < n → F.heap[x]? = H[x]? := fun x hx => by
    have := Jvm.Free.Multi.fill_old (T.setVm vm₁) (D.2.1 13) (D.2.1 10) m1.toNatClampNeg m2.toNatClampNeg (defaultValue .int) (a := x) (by rw [hTh, h1.2.1]; exact hx) m1.toNatClampNeg
    rw [hF, hTh] at this
    exact this
  have hrow : ∀ j : Nat, j < m1.toNatClampNeg → F.heap[n + 1 + j]? = some (arrV (D.2.1 10) m2.toNatClampNeg (fun _ => .int 0)) := fun j hj => by
    have := Jvm.Free.Multi.fill_inner (T.setVm vm₁) (D.2.1 13) (D.2.1 10) m1.toNatClampNeg m2.toNatClampNeg (defaultValue .int) m1.toNatClampNeg j hj
    rw [hF, hTh, h1.2.1] at this
    rw [this]
    show some ({ cls := _, slots := Array.replicate _ _, vm := .none } : Cell) = _
    rw [arrV_new]
    rfl
  have hRep : yRep D z (n + 1 + m1.toNatClampNeg) (mnS sh n m1.toNatClampNeg m2.toNatClampNeg) (mnI I n m1.toNatClampNeg) L F.heap := by
    refine ⟨Nat.le_trans h1.1 (by omega), f1, fun a ha => ?_⟩
    unfold mnS at ha
    by_cases c1 : a = n
    · subst c1
      have es : mnS sh a m1.toNatClampNeg m2.toNatClampNeg a = (13, m1.toNatClampNeg, fun j => if j < m1.toNatClampNeg then some (a + 1 + j) else none) := if_pos rfl
      refine ⟨h1.1, by omega, ?_⟩
      unfold yCell
      rw [es]
      exact ⟨fun q => absurd q (by show ¬ 13 < 9; decide), fun q => absurd q (by show ¬ 13 = 9; decide), fun q => absurd q (by show ¬ 13 = 10; decide), fun q => absurd q (by show ¬ 13 = 11; decide), fun q => absurd q (by show ¬ 13 = 12; decide), fun _ => f2⟩
    · rw [if_neg c1] at ha
      by_cases c2 : n < a ∧ a < n + 1 + m1.toNatClampNeg
      · have es : mnS sh n m1.toNatClampNeg m2.toNatClampNeg a = (10, m2.toNatClampNeg, fun _ => none) := by rw [mnS, if_neg c1, if_pos c2]
        have eI : mnI I n m1.toNatClampNeg a = fun _ => 0 := if_pos (by omega)
        refine ⟨Nat.le_trans h1.1 (by omega), by omega, ?_⟩
        unfold yCell
        rw [es, eI]
        have hr := hrow (a - (n + 1)) (by omega)
        rw [show n + 1 + (a - (n + 1)) = a by omega] at hr
        exact ⟨fun q => absurd q (by show ¬ 10 < 9; decide), fun q => absurd q (by show ¬ 10 = 9; decide), fun _ => hr, fun q => absurd q (by show ¬ 10 = 11; decide), fun q => absurd q (by show ¬ 10 = 12; decide), fun q => absurd q (by show ¬ 10 = 13; decide)⟩
      · rw [if_neg c2] at ha
        obtain ⟨q1, q2, q3⟩ := h1.2.2 a ha
        refine ⟨q1, by omega, ?_⟩
        exact q3.kept (by rw [mnS, if_neg c1, if_neg c2]) (by rw [mnI, if_neg (by omega)]) rfl (hold a q2)
  have hOld : yOld z (ys X).heap F.heap := h2.trans ⟨by rw [f1, h1.2.1]; omega, fun q hq => hold q (Nat.lt_of_lt_of_le hq h1.1)⟩
  obtain ⟨t2, a1, b1⟩ := kk F.heap locs ls hRep hOld h3 h4 F rfl X'
  refine ⟨t2, ?_, b1⟩
  have s2 := step t2
  rw [show T.heap.size = n from by rw [hT]; exact h1.2.1] at s2
  exact s2 a1
end Mna
