/-- a setup at su, apart from the book at i: what its numbers and lists are (not its formula) -/
def ySig (I : yI) (i su : Nat) (σ : yI) : Prop := (su + 10 ≤ i ∨ i + 14 ≤ su) ∧ ∀ k, (k = 0 ∨ 4 ≤ k) → k < 10 → I (su + k) = σ k
section RowsG
variable {X : yX} {D : yD} {z nL n : Nat} {sh : yS} {I : yI} {L : yL} {k w : Nat} {Q : State → Prop} {pc : Nat} {lv : List (Option Value)} {st : List Value} {cc : ByteArray} {own : String} {dep : Nat} {i su r : Nat} {B σ : yI}
theorem ySig.at (h : ySig I i su σ) (hr : (r = 0 ∨ 4 ≤ r) ∧ r < 10) : sR 14 I i B (su + r) = σ r := by
  rw [sR_out (by have := h.1; omega), h.2 r hr.1 hr.2]
theorem y_getIG (hC : yC X D z cc own nL dep) (hσ : ySig I i su σ) {ci j idx : Nat} {ty : FieldType} {fin : Bool} (ha : (sh su).1 = ci) (hfl : yFL own idx ci j ty fin) (hr : yrf ci j = false) (hd : decode cc pc = .ok (.getfield idx, 3)) (kk : Y X D z nL n sh (sR 14 I i B) L k w Q (pc + 3) lv (.int (σ 0 j) :: st)) : Y X D z nL n sh (sR 14 I i B) L k w Q pc lv (.ref su :: st) := by
  refine y_getI hC ha hfl hr hd ?_
  rw [show sR 14 I i B su = σ 0 from hσ.at (r := 0) (by decide)]; exact kk
theorem y_ialdG (hC : yC X D z cc own nL dep) (hσ : ySig I i su σ) {len : Nat} {x : Int32} (hr : (r = 0 ∨ 4 ≤ r) ∧ r < 10) (ha : yArr sh (su + r) 10 len) (hin : vp_in x len) (hd : decode cc pc = .ok (.iaload, 1)) (kk : Y X D z nL n sh (sR 14 I i B) L k w Q (pc + 1) lv (.int (σ r (tn x)) :: st)) : Y X D z nL n sh (sR 14 I i B) L k w Q pc lv (.int x :: .ref (su + r) :: st) := by
  refine y_iald hC ha hin hd ?_
  rw [hσ.at hr]; exact kk
theorem y_ialdGN (hC : yC X D z cc own nL dep) (hσ : ySig I i su σ) {len j : Nat} (hr : (r = 0 ∨ 4 ≤ r) ∧ r < 10) (ha : yArr sh (su + r) 10 len) (hj : j < len ∧ len < 2147483648) (hd : decode cc pc = .ok (.iaload, 1)) (kk : Y X D z nL n sh (sR 14 I i B) L k w Q (pc + 1) lv (.int (σ r j) :: st)) : Y X D z nL n sh (sR 14 I i B) L k w Q pc lv (.int (nI j) :: .ref (su + r) :: st) := by
  refine y_ialdN hC ha hj hd ?_
  rw [hσ.at hr]; exact kk
end RowsG
/-- sums from 0 on -/
def sm (f : Nat → Int32) : Nat → Int32
  | 0 => 0
  | k + 1 => sm f k + f k
theorem yF.t {p : Prop} [Decidable p] {n : Nat} {sh : yS} {I : yI} {L : yL} (h : p) : yF (some (.int (b2i p))) n sh I L (some (.int 1)) n sh I L := yF.mk (by rw [b2i_t h])
theorem yF.f {p : Prop} [Decidable p] {n : Nat} {sh : yS} {I : yI} {L : yL} (h : ¬ p) : yF (some (.int (b2i p))) n sh I L (some (.int 0)) n sh I L := yF.mk (by rw [b2i_f h])
theorem yF.tn {p : Prop} [Decidable p] {n : Nat} {sh : yS} {I : yI} {L : yL} (h : p) : yF (some (.int (b2i (¬ p)))) n sh I L (some (.int 0)) n sh I L := yF.mk (by rw [b2i_f (fun q => q h)])
