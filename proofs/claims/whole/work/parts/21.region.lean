/-- the heap's ints with the w rows from i on as B has them -/
def sR (w : Nat) (I : yI) (i : Nat) (B : yI) : yI := fun a => if i ≤ a ∧ a < i + w then B (a - i) else I a
def gR (I : yI) (i : Nat) : yI := fun k => I (i + k)
theorem sR_at {w : Nat} {I : yI} {i : Nat} {B : yI} {k : Nat} (h : k < w) : sR w I i B (i + k) = B k := by
  unfold sR
  rw [if_pos ⟨by omega, by omega⟩, show i + k - i = k by omega]
theorem sR_at0 {w : Nat} {I : yI} {i : Nat} {B : yI} (h : 0 < w) : sR w I i B i = B 0 := sR_at (i := i) (k := 0) h
theorem sR_out {w : Nat} {I : yI} {i : Nat} {B : yI} {a : Nat} (h : a < i ∨ i + w ≤ a) : sR w I i B a = I a := by
  unfold sR
  rw [if_neg (by omega)]
theorem sR_row {w : Nat} {I : yI} {i : Nat} {B : yI} {k : Nat} {r : Nat → Int32} (h : k < w) : va_up (sR w I i B) (i + k) r = sR w I i (va_up B k r) := by
  funext a
  by_cases e : a = i + k
  · subst e
    rw [va_up_self, sR_at h, va_up_self]
  · rw [va_up_ne _ _ e]
    unfold sR
    by_cases g : i ≤ a ∧ a < i + w
    · rw [if_pos g, if_pos g, va_up_ne _ _ (by omega)]
    · rw [if_neg g, if_neg g]
theorem sR_up {w : Nat} {I : yI} {i : Nat} {B : yI} {k j : Nat} {v : Int32} (h : k < w) : up2 (sR w I i B) (i + k) j v = sR w I i (up2 B k j v) := by
  unfold up2
  rw [sR_row h, sR_at h]
theorem sR_up0 {w : Nat} {I : yI} {i : Nat} {B : yI} {j : Nat} {v : Int32} (h : 0 < w) : up2 (sR w I i B) i j v = sR w I i (up2 B 0 j v) := sR_up (i := i) (k := 0) h
theorem sR_get {w : Nat} {I : yI} {i : Nat} : sR w I i (gR I i) = I := by
  funext a
  unfold sR gR
  by_cases g : i ≤ a ∧ a < i + w
  · rw [if_pos g, show i + (a - i) = a by omega]
  · rw [if_neg g]
theorem gR_sR {w : Nat} {I : yI} {i : Nat} {B : yI} {k : Nat} (h : k < w) : gR (sR w I i B) i k = B k := sR_at h
theorem sR_sR {w : Nat} {I : yI} {i : Nat} {B C : yI} : sR w (sR w I i B) i C = sR w I i C := by
  funext a
  unfold sR
  by_cases g : i ≤ a ∧ a < i + w
  · rw [if_pos g, if_pos g]
  · rw [if_neg g, if_neg g, if_neg g]
theorem sR_congr {w : Nat} {I J : yI} {i : Nat} {B C : yI} (h1 : ∀ k, k < w → B k = C k) (h2 : ∀ a, (a < i ∨ i + w ≤ a) → I a = J a) : sR w I i B = sR w J i C := by
  funext a
  unfold sR
  by_cases g : i ≤ a ∧ a < i + w
  · rw [if_pos g, if_pos g, h1 _ (by omega)]
  · rw [if_neg g, if_neg g, h2 a (by omega)]
/-- a row outside the region -/
theorem sR_rowO {w : Nat} {I : yI} {i : Nat} {B : yI} {a : Nat} {r : Nat → Int32} (h : a < i ∨ i + w ≤ a) : va_up (sR w I i B) a r = sR w (va_up I a r) i B := by
  funext b
  by_cases e : b = a
  · subst e
    rw [va_up_self, sR_out h, va_up_self]
  · rw [va_up_ne _ _ e]
    unfold sR
    by_cases g : i ≤ b ∧ b < i + w
    · rw [if_pos g, if_pos g]
    · rw [if_neg g, if_neg g, va_up_ne _ _ e]
/-- two regions apart -/
theorem sR_swap {w w2 : Nat} {I : yI} {i j : Nat} {B C : yI} (h : i + w ≤ j ∨ j + w2 ≤ i) : sR w2 (sR w I i B) j C = sR w (sR w2 I j C) i B := by
  funext a
  unfold sR
  by_cases g : i ≤ a ∧ a < i + w
  · rw [if_pos g, if_pos g, if_neg (by omega)]
  · rw [if_neg g, if_neg g]
section RowsR
variable {X : yX} {D : yD} {z nL n : Nat} {sh : yS} {I : yI} {L : yL} {k w : Nat} {Q : State → Prop} {pc : Nat} {lv : List (Option Value)} {st : List Value} {cc : ByteArray} {own : String} {dep : Nat} {w9 i r : Nat} {B : yI}
theorem y_iaddN (hC : yC X D z cc own nL dep) {a b : Nat} (hd : decode cc pc = .ok (.iadd, 1)) (kk : Y X D z nL n sh I L k w Q (pc + 1) lv (.int (nI (a + b)) :: st)) : Y X D z nL n sh I L k w Q pc lv (.int (nI b) :: .int (nI a) :: st) := by
  refine y_iadd hC hd ?_
  rw [nI_add]; exact kk
theorem y_imulN (hC : yC X D z cc own nL dep) {a b : Nat} (hd : decode cc pc = .ok (.imul, 1)) (kk : Y X D z nL n sh I L k w Q (pc + 1) lv (.int (nI (a * b)) :: st)) : Y X D z nL n sh I L k w Q pc lv (.int (nI b) :: .int (nI a) :: st) := by
  refine y_imul hC hd ?_
  rw [pk_mul]; exact kk
theorem y_iincN (hC : yC X D z cc own nL dep) {j : Nat} {m : Int} {a : Nat} (hd : decode cc pc = .ok (.iinc j m, 3)) (hl : yget lv j = some (.int (nI a))) (hm : m = 1) (hn : j < nL) (hnl : ynl lv j = true) (kk : Y X D z nL n sh I L k w Q (pc + 3) (yput lv j (some (.int (nI (a + 1))))) st) : Y X D z nL n sh I L k w Q pc lv st := by
  subst hm
  exact y_iinc hC hd hl (nI_1 a) hn hnl kk
theorem vpN {j len : Nat} (h : j < len ∧ len < 2147483648) : vp_in (nI j) len := vp_in_nI h.1 h.2
theorem tnN {j len : Nat} (h : j < len ∧ len < 2147483648) : (nI j).toNatClampNeg = j := nI_clamp (by omega)
theorem y_ialdN (hC : yC X D z cc own nL dep) {a len j : Nat} (ha : yArr sh a 10 len) (hj : j < len ∧ len < 2147483648) (hd : decode cc pc = .ok (.iaload, 1)) (kk : Y X D z nL n sh I L k w Q (pc + 1) lv (.int (I a j) :: st)) : Y X D z nL n sh I L k w Q pc lv (.int (nI j) :: .ref a :: st) := by
  refine y_iald hC ha (vpN hj) hd ?_
  rw [tnN hj]; exact kk
theorem y_baldN (hC : yC X D z cc own nL dep) {a len j : Nat} (ha : yArr sh a 9 len) (hj : j < len ∧ len < 2147483648) (hd : decode cc pc = .ok (.baload, 1)) (kk : Y X D z nL n sh I L k w Q (pc + 1) lv (.int (I a j) :: st)) : Y X D z nL n sh I L k w Q pc lv (.int (nI j) :: .ref a :: st) := by
  refine y_bald hC ha (vpN hj) hd ?_
  rw [tnN hj]; exact kk
theorem y_laldN (hC : yC X D z cc own nL dep) {a len j : Nat} (ha : yArr sh a 11 len) (hj : j < len ∧ len < 2147483648) (hd : decode cc pc = .ok (.laload, 1)) (kk : Y X D z nL n sh I L k w Q (pc + 1) lv (.long (L a j) :: st)) : Y X D z nL n sh I L k w Q pc lv (.int (nI j) :: .ref a :: st) := by
  refine y_lald hC ha (vpN hj) hd ?_
  rw [tnN hj]; exact kk
theorem y_iastN (hC : yC X D z cc own nL dep) {a len j : Nat} {x : Int32} (ha : yArr sh a 10 len) (hj : j < len ∧ len < 2147483648) (hd : decode cc pc = .ok (.iastore, 1)) (kk : Y X D z nL n sh (up2 I a j x) L k w Q (pc + 1) lv st) : Y X D z nL n sh I L k w Q pc lv (.int x :: .int (nI j) :: .ref a :: st) := by
  refine y_iast hC ha (vpN hj) hd ?_
  rw [tnN hj]; exact kk
theorem y_bastN (hC : yC X D z cc own nL dep) {a len j : Nat} {x : Int32} (ha : yArr sh a 9 len) (hj : j < len ∧ len < 2147483648) (hd : decode cc pc = .ok (.bastore, 1)) (kk : Y X D z nL n sh (up2 I a j x.toInt8.toInt32) L k w Q (pc + 1) lv st) : Y X D z nL n sh I L k w Q pc lv (.int x :: .int (nI j) :: .ref a :: st) := by
  refine y_bast hC ha (vpN hj) hd ?_
  rw [tnN hj]; exact kk
theorem y_lastN (hC : yC X D z cc own nL dep) {a len j : Nat} {x : Int64} (ha : yArr sh a 11 len) (hj : j < len ∧ len < 2147483648) (hd : decode cc pc = .ok (.lastore, 1)) (kk : Y X D z nL n sh I (up2L L a j x) k w Q (pc + 1) lv st) : Y X D z nL n sh I L k w Q pc lv (.long x :: .int (nI j) :: .ref a :: st) := by
  refine y_last hC ha (vpN hj) hd ?_
  rw [tnN hj]; exact kk
theorem y_getIR (hC : yC X D z cc own nL dep) {ci j idx : Nat} {ty : FieldType} {fin : Bool} (hw : 0 < w9) (ha : (sh i).1 = ci) (hfl : yFL own idx ci j ty fin) (hr : yrf ci j = false) (hd : decode cc pc = .ok (.getfield idx, 3)) (kk : Y X D z nL n sh (sR w9 I i B) L k w Q (pc + 3) lv (.int (B 0 j) :: st)) : Y X D z nL n sh (sR w9 I i B) L k w Q pc lv (.ref i :: st) := by
  refine y_getI hC ha hfl hr hd ?_
  rw [sR_at0 hw]; exact kk
theorem y_putIR (hC : yC X D z cc own nL dep) {ci j idx : Nat} {fin : Bool} {v : Int32} (hw : 0 < w9) (ha : (sh i).1 = ci) (hfl : yFL own idx ci j .int fin) (hr : yrf ci j = false) (hfin : fin = false ∨ ((ymeth X).name = "<init>" ∧ ∀ C T tyf, yCls ci C T tyf → C = own)) (hd : decode cc pc = .ok (.putfield idx, 3))
    (kk : Y X D z nL n sh (sR w9 I i (up2 B 0 j v)) L k w Q (pc + 3) lv st) : Y X D z nL n sh (sR w9 I i B) L k w Q pc lv (.int v :: .ref i :: st) := by
  refine y_putI hC ha hfl hr hfin hd ?_
  rw [sR_up0 hw]; exact kk
theorem y_putZR (hC : yC X D z cc own nL dep) {ci j idx : Nat} {v : Int32} (hw : 0 < w9) (ha : (sh i).1 = ci) (hfl : yFL own idx ci j .boolean false) (hr : yrf ci j = false) (hv : narrow .boolean (.int v) = .int v ∧ fits .boolean (.int v) = true) (hd : decode cc pc = .ok (.putfield idx, 3))
    (kk : Y X D z nL n sh (sR w9 I i (up2 B 0 j v)) L k w Q (pc + 3) lv st) : Y X D z nL n sh (sR w9 I i B) L k w Q pc lv (.int v :: .ref i :: st) := by
  refine y_putZ hC ha hfl hr hv hd ?_
  rw [sR_up0 hw]; exact kk
theorem y_ialdR (hC : yC X D z cc own nL dep) {len : Nat} {x : Int32} (hw : r < w9) (ha : yArr sh (i + r) 10 len) (hin : vp_in x len) (hd : decode cc pc = .ok (.iaload, 1)) (kk : Y X D z nL n sh (sR w9 I i B) L k w Q (pc + 1) lv (.int (B r (tn x)) :: st)) : Y X D z nL n sh (sR w9 I i B) L k w Q pc lv (.int x :: .ref (i + r) :: st) := by
  refine y_iald hC ha hin hd ?_
  rw [sR_at hw]; exact kk
theorem y_ialdRN (hC : yC X D z cc own nL dep) {len j : Nat} (hw : r < w9) (ha : yArr sh (i + r) 10 len) (hj : j < len ∧ len < 2147483648) (hd : decode cc pc = .ok (.iaload, 1)) (kk : Y X D z nL n sh (sR w9 I i B) L k w Q (pc + 1) lv (.int (B r j) :: st)) : Y X D z nL n sh (sR w9 I i B) L k w Q pc lv (.int (nI j) :: .ref (i + r) :: st) := by
  refine y_ialdN hC ha hj hd ?_
  rw [sR_at hw]; exact kk
theorem y_baldRN (hC : yC X D z cc own nL dep) {len j : Nat} (hw : r < w9) (ha : yArr sh (i + r) 9 len) (hj : j < len ∧ len < 2147483648) (hd : decode cc pc = .ok (.baload, 1)) (kk : Y X D z nL n sh (sR w9 I i B) L k w Q (pc + 1) lv (.int (B r j) :: st)) : Y X D z nL n sh (sR w9 I i B) L k w Q pc lv (.int (nI j) :: .ref (i + r) :: st) := by
  refine y_baldN hC ha hj hd ?_
  rw [sR_at hw]; exact kk
theorem y_iastR (hC : yC X D z cc own nL dep) {len : Nat} {x v : Int32} (hw : r < w9) (ha : yArr sh (i + r) 10 len) (hin : vp_in x len) (hd : decode cc pc = .ok (.iastore, 1)) (kk : Y X D z nL n sh (sR w9 I i (up2 B r (tn x) v)) L k w Q (pc + 1) lv st) : Y X D z nL n sh (sR w9 I i B) L k w Q pc lv (.int v :: .int x :: .ref (i + r) :: st) := by
  refine y_iast hC ha hin hd ?_
  rw [sR_up hw]; exact kk
theorem y_iastRN (hC : yC X D z cc own nL dep) {len j : Nat} {v : Int32} (hw : r < w9) (ha : yArr sh (i + r) 10 len) (hj : j < len ∧ len < 2147483648) (hd : decode cc pc = .ok (.iastore, 1)) (kk : Y X D z nL n sh (sR w9 I i (up2 B r j v)) L k w Q (pc + 1) lv st) : Y X D z nL n sh (sR w9 I i B) L k w Q pc lv (.int v :: .int (nI j) :: .ref (i + r) :: st) := by
  refine y_iastN hC ha hj hd ?_
  rw [sR_up hw]; exact kk
theorem y_bastRN (hC : yC X D z cc own nL dep) {len j : Nat} {v : Int32} (hw : r < w9) (ha : yArr sh (i + r) 9 len) (hj : j < len ∧ len < 2147483648) (hd : decode cc pc = .ok (.bastore, 1)) (kk : Y X D z nL n sh (sR w9 I i (up2 B r j v.toInt8.toInt32)) L k w Q (pc + 1) lv st) : Y X D z nL n sh (sR w9 I i B) L k w Q pc lv (.int v :: .int (nI j) :: .ref (i + r) :: st) := by
  refine y_bastN hC ha hj hd ?_
  rw [sR_up hw]; exact kk
end RowsR
theorem yCls_own {ci : Nat} {C C2 : String} {T T2 : u_T} {ty ty2 : Nat → FieldType} (h : yCls ci C T ty) (h2 : yCls ci C2 T2 ty2) : C = C2 := by
  have h3 := h.1.symm.trans h2.1
  simp only [Option.some.injEq, Prod.mk.injEq] at h3
  exact h3.1
