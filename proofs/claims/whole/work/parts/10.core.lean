/-! ===== the machine seen over a typed heap: kinds and references (sh), ints (I), longs (L), all by address; from z on ===== -/
abbrev yX : Type := Program × Launch × Env × Room × State × MethodId × Array Value × List Frame × Method × Code
abbrev yR (X : yX) : Room := X.2.2.2.1
abbrev ys (X : yX) : State := X.2.2.2.2.1
abbrev ym (X : yX) : MethodId := X.2.2.2.2.2.1
abbrev yargs (X : yX) : Array Value := X.2.2.2.2.2.2.1
abbrev ybel (X : yX) : List Frame := X.2.2.2.2.2.2.2.1
abbrev ymeth (X : yX) : Method := X.2.2.2.2.2.2.2.2.1
abbrev yc (X : yX) : Code := X.2.2.2.2.2.2.2.2.2
abbrev yW (X : yX) (H : Heap) (locs : List Loc) (k w : Nat) (Q : State → Prop) (g : JFrame) : Prop := W X.1 X.2.1 X.2.2.1 (yR X) (ys X) (ym X) (yargs X) (ybel X) (ymeth X) (yc X) H locs k w Q g
abbrev yS : Type := Nat → Nat × Nat × (Nat → Option Nat)
abbrev yI : Type := Nat → Nat → Int32
abbrev yL : Type := Nat → Nat → Int64
/-- class numbers and slots; the classes of arrays by their kinds; the String constants' addresses and their byte arrays' -/
abbrev yD : Type := va_G × (Nat → ClassId) × (Nat → Nat) × (Nat → Nat)
def yN (c : Nat) : Nat := [18, 3, 3, 2, 13, 9, 6, 3, 17].getD c 0
/-- which fields are references -/
def yrl : List (List Nat) := [[0, 2, 3, 6, 7, 8, 9, 11, 12, 13, 14, 15, 16, 17], [0, 1], [0], [0], [5, 7, 8, 9, 10, 11, 12], [0, 1], [0, 2, 3, 4], [0, 1], [1, 8, 9, 10, 11, 16]]
def yrf (c k : Nat) : Bool := (yrl.getD c []).contains k
def yfv (sh : yS) (I : yI) (a c k : Nat) : Value := if yrf c k = true then va_rf ((sh a).2.2 k) else .int (I a k)
def yCell (D : yD) (sh : yS) (I : yI) (L : yL) (a : Nat) (H : Heap) : Prop :=
  ((sh a).1 < 9 → t_OB a (D.1.1 (sh a).1) (yN (sh a).1) (D.1.2 (sh a).1) H (yfv sh I a (sh a).1)) ∧
  ((sh a).1 = 9 → H[a]? = some (arrV (D.2.1 9) (sh a).2.1 (fun j => .int (I a j)))) ∧
  ((sh a).1 = 10 → H[a]? = some (arrV (D.2.1 10) (sh a).2.1 (fun j => .int (I a j)))) ∧
  ((sh a).1 = 11 → H[a]? = some (arrV (D.2.1 11) (sh a).2.1 (fun j => .long (L a j)))) ∧
  ((sh a).1 = 12 → H[a]? = some (arrV (D.2.1 12) (sh a).2.1 (fun j => va_rf ((sh a).2.2 j)))) ∧
  ((sh a).1 = 13 → H[a]? = some (arrV (D.2.1 13) (sh a).2.1 (fun j => va_rf ((sh a).2.2 j))))
def yRep (D : yD) (z n : Nat) (sh : yS) (I : yI) (L : yL) (H : Heap) : Prop := z ≤ n ∧ H.size = n ∧ ∀ a, (sh a).1 < 14 → z ≤ a ∧ a < n ∧ yCell D sh I L a H
/-- locals -/
def yget : List (Option Value) → Nat → Option Value
  | [], _ => none
  | x :: _, 0 => x
  | _ :: l, n + 1 => yget l n
def yput : List (Option Value) → Nat → Option Value → List (Option Value)
  | [], _, _ => []
  | _ :: l, 0, v => v :: l
  | x :: l, n + 1, v => x :: yput l n v
def yLV (ls : Array Slot) (nL : Nat) (lv : List (Option Value)) : Prop := ls.size = nL ∧ lv_wf ls ∧ ∀ i v, yget lv i = some v → ls[i]? = some (.val v)
/-- no long at the place before i -/
def ynl (lv : List (Option Value)) : Nat → Bool
  | 0 => true
  | i + 1 => match yget lv i with
    | some v => v.category == 1
    | none => true
theorem yget_put_self {v : Value} : ∀ {lv : List (Option Value)} {i : Nat} {w : Value}, yget (yput lv i (some v)) i = some w → w = v
  | [], i, w, h => by simp [yput, yget] at h
  | x :: l, 0, w, h => by simp [yput, yget] at h; exact h.symm
  | x :: l, n + 1, w, h => yget_put_self (lv := l) (i := n) h
theorem yget_put_none : ∀ {lv : List (Option Value)} {i : Nat} {w : Value}, yget (yput lv i none) i = some w → False
  | [], i, w, h => by simp [yput, yget] at h
  | x :: l, 0, w, h => by simp [yput, yget] at h
  | x :: l, n + 1, w, h => yget_put_none (lv := l) (i := n) h
theorem yget_put_ne {v : Option Value} : ∀ {lv : List (Option Value)} {i j : Nat}, j ≠ i → yget (yput lv i v) j = yget lv j
  | [], i, j, h => rfl
  | x :: l, 0, 0, h => absurd rfl h
  | x :: l, 0, j + 1, h => rfl
  | x :: l, n + 1, 0, h => rfl
  | x :: l, n + 1, j + 1, h => by
    show yget (yput l n v) j = yget l j
    exact yget_put_ne (fun q => h (by rw [q]))
def yas (lv : List (Option Value)) : List (Nat × Value) := (List.range lv.length).filterMap (fun i => (yget lv i).map (fun v => (i, v)))
theorem yget_lt : ∀ {lv : List (Option Value)} {i : Nat} {v : Value}, yget lv i = some v → i < lv.length
  | [], i, v, h => by simp [yget] at h
  | x :: l, 0, v, h => by simp
  | x :: l, n + 1, v, h => by
    have := yget_lt (lv := l) (i := n) h
    simp; omega
theorem yas_mem {lv : List (Option Value)} {q : Nat × Value} : q ∈ yas lv ↔ yget lv q.1 = some q.2 := by
  unfold yas
  rw [List.mem_filterMap]
  constructor
  · rintro ⟨i, -, h⟩
    cases hg : yget lv i with
    | none => rw [hg] at h; cases h
    | some v =>
      rw [hg] at h
      cases h
      exact hg
  · intro h
    exact ⟨q.1, List.mem_range.mpr (yget_lt h), by rw [h]; rfl⟩
theorem yLV.has {ls : Array Slot} {nL : Nat} {lv : List (Option Value)} (h : yLV ls nL lv) : lv_has ls nL (yas lv) := ⟨h.1, h.2.1, fun q hq => h.2.2 q.1 q.2 (yas_mem.mp hq)⟩
/-- behind a store of one slot -/
theorem yLV.st1 {ls : Array Slot} {nL i : Nat} {lv : List (Option Value)} {v : Value} (hnl : ynl lv i = true) (h : lv_has ls nL ((i, v) :: (yas lv).filter (fun q => !(q.1 == i) && !(q.1 + 1 == i && q.2.category == 2)))) : yLV ls nL (yput lv i (some v)) := by
  refine ⟨h.1, h.2.1, fun j x hj => ?_⟩
  by_cases e : j = i
  · subst e
    rw [yget_put_self hj]
    exact h.2.2 (j, v) List.mem_cons_self
  · rw [yget_put_ne e] at hj
    refine h.2.2 (j, x) (List.mem_cons_of_mem _ (List.mem_filter.mpr ⟨yas_mem.mpr hj, ?_⟩))
    have hc : ¬ (j + 1 = i ∧ x.category = 2) := by
      rintro ⟨rfl, h2⟩
      simp only [ynl, hj] at hnl
      simp [h2] at hnl
    simp only [Bool.and_eq_true, Bool.not_eq_true', beq_eq_false_iff_ne, ne_eq, Bool.and_eq_false_iff]
    refine ⟨e, ?_⟩
    by_cases h3 : j + 1 = i
    · exact Or.inr (fun q => hc ⟨h3, q⟩)
    · exact Or.inl h3
theorem yLV.st2 {ls : Array Slot} {nL i : Nat} {lv : List (Option Value)} {v : Value} (hnl : ynl lv i = true) (h : lv_has ls nL ((i, v) :: (yas lv).filter (fun q => !(q.1 == i) && (!(q.1 == i + 1) && !(q.1 + 1 == i && q.2.category == 2))))) : yLV ls nL (yput (yput lv (i + 1) none) i (some v)) := by
  refine ⟨h.1, h.2.1, fun j x hj => ?_⟩
  by_cases e : j = i
  · subst e
    rw [yget_put_self hj]
    exact h.2.2 (j, v) List.mem_cons_self
  · rw [yget_put_ne e] at hj
    by_cases e2 : j = i + 1
    · subst e2
      exact (yget_put_none hj).elim
    · rw [yget_put_ne e2] at hj
      refine h.2.2 (j, x) (List.mem_cons_of_mem _ (List.mem_filter.mpr ⟨yas_mem.mpr hj, ?_⟩))
      have hc : ¬ (j + 1 = i ∧ x.category = 2) := by
        rintro ⟨rfl, h2⟩
        simp only [ynl, hj] at hnl
        simp [h2] at hnl
      simp only [Bool.and_eq_true, Bool.not_eq_true', beq_eq_false_iff_ne, ne_eq, Bool.and_eq_false_iff]
      refine ⟨e, e2, ?_⟩
      by_cases h3 : j + 1 = i
      · exact Or.inr (fun q => hc ⟨h3, q⟩)
      · exact Or.inl h3
/-- the words that every method stands on -/
def yT : List Cond := lw_tbl.filter goodWord
def yTys (D : yD) : List (ClassId × FieldType) := [(D.2.1 9, .byte), (D.2.1 10, .int), (D.2.1 11, .long), (D.2.1 12, .object "ChargebackProcessor$Book"), (D.2.1 13, .array .int)]
/-- the String constants: owner, pool entry, text, number -/
def yRefs : List (String × Nat × String × Nat) := [("ChargebackProcessor$Tokens", 64, "parties", 0), ("ChargebackProcessor$Tokens", 70, "reason", 1), ("ChargebackProcessor$Tokens", 72, "needs", 2), ("ChargebackProcessor$Tokens", 74, "fees", 3), ("ChargebackProcessor$Tokens", 76, "score", 4), ("ChargebackProcessor$Tokens", 78, "limit", 5), ("ChargebackProcessor$Tokens", 80, "count", 6), ("ChargebackProcessor$Tokens", 81, "needed", 7), ("ChargebackProcessor$Tokens", 83, "amount", 8), ("ChargebackProcessor$Tokens", 85, "days", 9), ("ChargebackProcessorModel", 143, "parties", 0), ("ChargebackProcessorModel", 148, "reason", 1), ("ChargebackProcessorModel", 138, "needs", 2), ("ChargebackProcessorModel", 152, "fees", 3), ("ChargebackProcessorModel", 154, "score", 4), ("ChargebackProcessorModel", 156, "limit", 5), ("ChargebackProcessorModel", 108, "count", 6), ("ChargebackProcessorModel", 114, "needed", 7), ("ChargebackProcessorModel", 116, "amount", 8), ("ChargebackProcessorModel", 118, "days", 9), ("ChargebackProcessor", 45, "the buffer has no such length", 10), ("ChargebackProcessor", 239, "there is no such index", 11), ("ChargebackProcessor", 242, "a number is out of range", 12), ("ChargebackProcessor", 183, "there are too many purchases", 13), ("ChargebackProcessor", 193, "so much of the purchase is not free to dispute", 14), ("ChargebackProcessor", 198, "it is too late, or there are too many disputes", 15), ("ChargebackProcessor", 244, "the dispute is in another state", 16), ("ChargebackProcessor", 219, "nobody can accept this dispute", 17), ("ChargebackProcessor", 227, "the days are used up", 18)]
/-- the letters of the ten words -/
def yByt : List (List Int32) := [[112, 97, 114, 116, 105, 101, 115], [114, 101, 97, 115, 111, 110], [110, 101, 101, 100, 115], [102, 101, 101, 115], [115, 99, 111, 114, 101], [108, 105, 109, 105, 116], [99, 111, 117, 110, 116], [110, 101, 101, 100, 101, 100], [97, 109, 111, 117, 110, 116], [100, 97, 121, 115]]
def yStr (D : yD) (z : Nat) (U : State) : Prop :=
  (∀ i, i < 10 → va_O "java/lang/String" (D.2.2.1 i) (fun q => z ≤ q) U U.heap ∧ va_OF "java/lang/String" "coder" "B" (.int 0) (D.2.2.1 i) (fun q => z ≤ q) U U.heap ∧ va_OF "java/lang/String" "value" "[B" (.ref (D.2.2.2 i)) (D.2.2.1 i) (fun q => z ≤ q) U U.heap ∧ va_T .byte (D.2.2.2 i) (yByt.getD i []).length (fun j => .int ((yByt.getD i []).getD j 0)) (fun q => z ≤ q) U U.heap) ∧
  (∀ q ∈ yRefs, vk_R q.1 q.2.1 q.2.2.1 (D.2.2.1 q.2.2.2) U) ∧
  va_Z "java/lang/String" "COMPACT_STRINGS" "Z" (.int 1) (fun q => z ≤ q) U U.heap ∧ va_Zq "jdk/internal/util/Preconditions" "SIOOBE_FORMATTER" "Ljava/util/function/BiFunction;" (fun q => z ≤ q) U U.heap
def yDcl : List Cond := ["java/lang/RuntimeException", "java/lang/Exception", "java/lang/Throwable"].map (fun c => .declares ⟨c, "<init>", "(Ljava/lang/String;)V"⟩)
def yNc (U : State) : Prop := (∀ w ∈ yDcl, va_Nw w U) ∧ (va_Nw (.castable "java/lang/IllegalArgumentException" "java/lang/IllegalArgumentException") U ∧ va_Nw (.castable "java/lang/IndexOutOfBoundsException" "java/lang/IndexOutOfBoundsException") U ∧ va_Nw (.castable "java/lang/IllegalStateException" "java/lang/IllegalStateException") U) ∧ va_Nc "java/lang/IllegalArgumentException" "java/lang/IndexOutOfBoundsException" U ∧ va_Nc "java/lang/IllegalStateException" "java/lang/IndexOutOfBoundsException" U ∧ va_Nc "java/lang/IllegalStateException" "java/lang/IllegalArgumentException" U
/-- what every method knows of the state in which it begins -/
def yG (D : yD) (z : Nat) (U : State) : Prop := va_K D.1 vwCl (yTys D) U ∧ vx_Zq Bundle.tN "UNASSIGNED_STACK" Bundle.steD (fun q => z ≤ q) U U.heap ∧ vx_Zq Bundle.tN "SUPPRESSED_SENTINEL" Bundle.listD (fun q => z ≤ q) U U.heap ∧ z ≤ U.heap.size ∧ yStr D z U ∧ yNc U ∧ va_AO "ChargebackProcessor$Book" U
def yC (X : yX) (D : yD) (z : Nat) (cc : ByteArray) (own : String) (nL dep : Nat) : Prop :=
  X.1.tables.exec = Jvm.exec ∧ (yc X).code = cc ∧ (yc X).maxLocals = nL ∧ (ys X).vm.findClass own = some (ym X).cls ∧ (∀ w ∈ yT, w.before (yargs X) (ys X) = true) ∧ yG D z (ys X) ∧ dep ≤ (yR X).frames ∧ 64 * dep ≤ (yR X).locals ∧ (ymeth X).locks = false ∧ X.2.1.stackTraces = false
/-- the heap has grown, and below z nothing has changed -/
def yOld (z : Nat) (H0 H : Heap) : Prop := H0.size ≤ H.size ∧ ∀ q : Nat, q < z → H[q]? = H0[q]?
def Y (X : yX) (D : yD) (z nL n : Nat) (sh : yS) (I : yI) (L : yL) (k w : Nat) (Q : State → Prop) (pc : Nat) (lv : List (Option Value)) (st : List Value) : Prop :=
  ∀ (H : Heap) (locs : List Loc) (ls : Array Slot), yRep D z n sh I L H → yOld z (ys X).heap H → (∀ o ∈ locs, z ≤ o.base) → yLV ls nL lv → yW X H locs k w Q (F0 (ym X) pc ls st)
