section RowsA
variable {X : yX} {D : yD} {z nL n : Nat} {sh : yS} {I : yI} {L : yL} {k w : Nat} {Q : State → Prop} {pc : Nat} {lv : List (Option Value)} {st : List Value} {cc : ByteArray} {own : String} {dep : Nat}
theorem y_putI (hC : yC X D z cc own nL dep) {a ci j idx : Nat} {fin : Bool} {v : Int32} (ha : (sh a).1 = ci) (hfl : yFL own idx ci j .int fin) (hr : yrf ci j = false) (hfin : fin = false ∨ ((ymeth X).name = "<init>" ∧ ∀ C T tyf, yCls ci C T tyf → C = own)) (hd : decode cc pc = .ok (.putfield idx, 3))
    (kk : Y X D z nL n sh (up2 I a j v) L k w Q (pc + 3) lv st) : Y X D z nL n sh I L k w Q pc lv (.int v :: .ref a :: st) := by
  refine y_putf hC ha hfl hfin rfl rfl hd ha (fun _ _ => rfl) (fun b hb => va_up_ne _ _ hb) (fun i hi => ?_) kk
  by_cases e : i = j
  · subst e; simp [updV, yfv, hr, up2, va_up, upd]
  · simp [updV, yfv, e, up2, va_up, upd]
theorem y_putZ (hC : yC X D z cc own nL dep) {a ci j idx : Nat} {v : Int32} (ha : (sh a).1 = ci) (hfl : yFL own idx ci j .boolean false) (hr : yrf ci j = false) (hv : narrow .boolean (.int v) = .int v ∧ fits .boolean (.int v) = true) (hd : decode cc pc = .ok (.putfield idx, 3))
    (kk : Y X D z nL n sh (up2 I a j v) L k w Q (pc + 3) lv st) : Y X D z nL n sh I L k w Q pc lv (.int v :: .ref a :: st) := by
  refine y_putf hC ha hfl (Or.inl rfl) hv.1 hv.2 hd ha (fun _ _ => rfl) (fun b hb => va_up_ne _ _ hb) (fun i hi => ?_) kk
  by_cases e : i = j
  · subst e; simp [updV, yfv, hr, up2, va_up, upd]
  · simp [updV, yfv, e, up2, va_up, upd]
theorem y_putR (hC : yC X D z cc own nL dep) {a b ci j idx : Nat} {ty : FieldType} {fin : Bool} (ha : (sh a).1 = ci) (hfl : yFL own idx ci j ty fin) (hr : yrf ci j = true) (hty : narrow ty (.ref b) = .ref b ∧ fits ty (.ref b) = true) (hfin : fin = false ∨ ((ymeth X).name = "<init>" ∧ ∀ C T tyf, yCls ci C T tyf → C = own)) (hd : decode cc pc = .ok (.putfield idx, 3))
    (kk : Y X D z nL n (upr sh a j (some b)) I L k w Q (pc + 3) lv st) : Y X D z nL n sh I L k w Q pc lv (.ref b :: .ref a :: st) := by
  refine y_putf hC ha hfl hfin hty.1 hty.2 hd (by simp [upr, va_up, ha]) (fun c hc => va_up_ne _ _ hc) (fun _ _ => rfl) (fun i hi => ?_) kk
  by_cases e : i = j
  · subst e; simp [updV, yfv, hr, upr, va_up, va_rf]
  · simp [updV, yfv, e, upr, va_up]
def yArr (sh : yS) (a t len : Nat) : Prop := (sh a).1 = t ∧ (sh a).2.1 = len
theorem yK_at (hC : yC X D z cc own nL dep) {t : Nat} {cA : ClassId} {ty : FieldType} (h : (yTys D)[t]? = some (cA, ty)) : ArrOfT (ys X) cA ty ∧ va_RA (ys X) cA ty := hC.2.2.2.2.2.1.1.2 t _ h
theorem y_iald (hC : yC X D z cc own nL dep) {a len : Nat} {i : Int32} (ha : yArr sh a 10 len) (hin : vp_in i len) (hd : decode cc pc = .ok (.iaload, 1)) (kk : Y X D z nL n sh I L k w Q (pc + 1) lv (.int (I a i.toNatClampNeg) :: st)) : Y X D z nL n sh I L k w Q pc lv (.int i :: .ref a :: st) := by
  intro H locs ls h1 h2 h3 h4
  have hlt : i.toNatClampNeg < len := Nat.not_le.mp fun q => hin (Or.inr q)
  have hc := (h1.2.2 a (by rw [ha.1]; omega)).2.2.2.2.1 ha.1
  rw [ha.2] at hc
  exact W.iald (v := .int (I a i.toNatClampNeg)) hC.1 hC.2.1 hc ((yK_at hC (t := 1) rfl).1 _ _) (fun q => by cases q) (by rw [arrV_size]; exact hin) (by rw [arrV_read _ _ hlt]) rfl rfl hd (kk H locs ls h1 h2 h3 h4)
theorem y_bald (hC : yC X D z cc own nL dep) {a len : Nat} {i : Int32} (ha : yArr sh a 9 len) (hin : vp_in i len) (hd : decode cc pc = .ok (.baload, 1)) (kk : Y X D z nL n sh I L k w Q (pc + 1) lv (.int (I a i.toNatClampNeg) :: st)) : Y X D z nL n sh I L k w Q pc lv (.int i :: .ref a :: st) := by
  intro H locs ls h1 h2 h3 h4
  have hlt : i.toNatClampNeg < len := Nat.not_le.mp fun q => hin (Or.inr q)
  have hc := (h1.2.2 a (by rw [ha.1]; omega)).2.2.2.1 ha.1
  rw [ha.2] at hc
  exact W.bald (v := .int (I a i.toNatClampNeg)) hC.1 hC.2.1 hc ((yK_at hC (t := 0) rfl).1 _ _) (fun q => by cases q) (by rw [arrV_size]; exact hin) (by rw [arrV_read _ _ hlt]) rfl rfl hd (kk H locs ls h1 h2 h3 h4)
theorem y_lald (hC : yC X D z cc own nL dep) {a len : Nat} {i : Int32} (ha : yArr sh a 11 len) (hin : vp_in i len) (hd : decode cc pc = .ok (.laload, 1)) (kk : Y X D z nL n sh I L k w Q (pc + 1) lv (.long (L a i.toNatClampNeg) :: st)) : Y X D z nL n sh I L k w Q pc lv (.int i :: .ref a :: st) := by
  intro H locs ls h1 h2 h3 h4
  have hlt : i.toNatClampNeg < len := Nat.not_le.mp fun q => hin (Or.inr q)
  have hc := (h1.2.2 a (by rw [ha.1]; omega)).2.2.2.2.2.1 ha.1
  rw [ha.2] at hc
  exact W.lald (v := .long (L a i.toNatClampNeg)) hC.1 hC.2.1 hc ((yK_at hC (t := 2) rfl).1 _ _) (fun q => by cases q) (by rw [arrV_size]; exact hin) (by rw [arrV_read _ _ hlt]) rfl rfl hd (kk H locs ls h1 h2 h3 h4)
theorem y_aald12 (hC : yC X D z cc own nL dep) {a b len : Nat} {i : Int32} (ha : yArr sh a 12 len) (hin : vp_in i len) (hv : (sh a).2.2 i.toNatClampNeg = some b) (hd : decode cc pc = .ok (.aaload, 1)) (kk : Y X D z nL n sh I L k w Q (pc + 1) lv (.ref b :: st)) : Y X D z nL n sh I L k w Q pc lv (.int i :: .ref a :: st) := by
  intro H locs ls h1 h2 h3 h4
  have hlt : i.toNatClampNeg < len := Nat.not_le.mp fun q => hin (Or.inr q)
  have hc := (h1.2.2 a (by rw [ha.1]; omega)).2.2.2.2.2.2.1 ha.1
  rw [ha.2] at hc
  exact W.aald (v := .ref b) (ty := .object "ChargebackProcessor$Book") hC.1 hC.2.1 hc ((yK_at hC (t := 3) rfl).1 _ _) rfl (fun q => by cases q) (by rw [arrV_size]; exact hin) (by rw [arrV_read _ _ hlt, hv]; rfl) rfl rfl hd (kk H locs ls h1 h2 h3 h4)
theorem y_aald13 (hC : yC X D z cc own nL dep) {a b len : Nat} {i : Int32} (ha : yArr sh a 13 len) (hin : vp_in i len) (hv : (sh a).2.2 i.toNatClampNeg = some b) (hd : decode cc pc = .ok (.aaload, 1)) (kk : Y X D z nL n sh I L k w Q (pc + 1) lv (.ref b :: st)) : Y X D z nL n sh I L k w Q pc lv (.int i :: .ref a :: st) := by
  intro H locs ls h1 h2 h3 h4
  have hlt : i.toNatClampNeg < len := Nat.not_le.mp fun q => hin (Or.inr q)
  have hc := (h1.2.2 a (by rw [ha.1]; omega)).2.2.2.2.2.2.2 ha.1
  rw [ha.2] at hc
  exact W.aald (v := .ref b) (ty := .array .int) hC.1 hC.2.1 hc ((yK_at hC (t := 4) rfl).1 _ _) rfl (fun q => by cases q) (by rw [arrV_size]; exact hin) (by rw [arrV_read _ _ hlt, hv]; rfl) rfl rfl hd (kk H locs ls h1 h2 h3 h4)
theorem y_alen (hC : yC X D z cc own nL dep) {a t len : Nat} {v : Int32} (ha : yArr sh a t len) (ht : t = 9 ∨ t = 10) (hv : Int32.ofNat len = v) (hd : decode cc pc = .ok (.arraylength, 1)) (kk : Y X D z nL n sh I L k w Q (pc + 1) lv (.int v :: st)) : Y X D z nL n sh I L k w Q pc lv (.ref a :: st) := by
  intro H locs ls h1 h2 h3 h4
  subst hv
  rcases ht with rfl | rfl
  · have hc := (h1.2.2 a (by rw [ha.1]; omega)).2.2.2.1 ha.1
    rw [ha.2] at hc
    exact W.alen hC.1 hC.2.1 hc ((yK_at hC (t := 0) rfl).1 _ _) (by rw [arrV_size]) rfl rfl hd (kk H locs ls h1 h2 h3 h4)
  · have hc := (h1.2.2 a (by rw [ha.1]; omega)).2.2.2.2.1 ha.1
    rw [ha.2] at hc
    exact W.alen hC.1 hC.2.1 hc ((yK_at hC (t := 1) rfl).1 _ _) (by rw [arrV_size]) rfl rfl hd (kk H locs ls h1 h2 h3 h4)
theorem y_iast (hC : yC X D z cc own nL dep) {a len : Nat} {i x : Int32} (ha : yArr sh a 10 len) (hin : vp_in i len) (hd : decode cc pc = .ok (.iastore, 1)) (kk : Y X D z nL n sh (up2 I a i.toNatClampNeg x) L k w Q (pc + 1) lv st) : Y X D z nL n sh I L k w Q pc lv (.int x :: .int i :: .ref a :: st) := by
  intro H locs ls h1 h2 h3 h4
  obtain ⟨hza, hna, hcell⟩ := h1.2.2 a (by rw [ha.1]; omega)
  have hc := hcell.2.2.1 ha.1
  rw [ha.2] at hc
  refine W.iast hC.1 hC.2.1 hc ((yK_at hC (t := 1) rfl).1 _ _) (fun q => by cases q) (by rw [arrV_size]; exact hin) rfl rfl hd fun H1 e z1 oq => ?_
  refine kk H1 _ ls (h1.at hza hna z1 oq (fun _ _ => rfl) (fun b hb => va_up_ne _ _ hb) (fun _ _ => rfl) ?_) (yold hza z1 oq h2) (yloc hza h3) h4
  have hk := ha.1
  refine ⟨fun q => by omega, fun q => by omega, fun _ => ?_, fun q => by omega, fun q => by omega, fun q => by omega⟩
  rw [e, arrV_store, ha.2]
  congr 2
  funext q
  by_cases hq : q = i.toNatClampNeg
  · subst hq; simp [updV, upd, up2, va_up]
  · simp [updV, upd, up2, va_up, hq]
theorem y_bast (hC : yC X D z cc own nL dep) {a len : Nat} {i x : Int32} (ha : yArr sh a 9 len) (hin : vp_in i len) (hd : decode cc pc = .ok (.bastore, 1)) (kk : Y X D z nL n sh (up2 I a i.toNatClampNeg x.toInt8.toInt32) L k w Q (pc + 1) lv st) : Y X D z nL n sh I L k w Q pc lv (.int x :: .int i :: .ref a :: st) := by
  intro H locs ls h1 h2 h3 h4
  obtain ⟨hza, hna, hcell⟩ := h1.2.2 a (by rw [ha.1]; omega)
  have hc := hcell.2.1 ha.1
  rw [ha.2] at hc
  refine W.bast hC.1 hC.2.1 hc ((yK_at hC (t := 0) rfl).1 _ _) (fun q => by cases q) (by rw [arrV_size]; exact hin) rfl rfl hd fun H1 e z1 oq => ?_
  refine kk H1 _ ls (h1.at hza hna z1 oq (fun _ _ => rfl) (fun b hb => va_up_ne _ _ hb) (fun _ _ => rfl) ?_) (yold hza z1 oq h2) (yloc hza h3) h4
  have hk := ha.1
  refine ⟨fun q => by omega, fun _ => ?_, fun q => by omega, fun q => by omega, fun q => by omega, fun q => by omega⟩
  rw [e, arrV_store, ha.2]
  congr 2
  funext q
  by_cases hq : q = i.toNatClampNeg
  · subst hq; simp [updV, upd, up2, va_up, narrow]
  · simp [updV, upd, up2, va_up, hq]
theorem y_last (hC : yC X D z cc own nL dep) {a len : Nat} {i : Int32} {x : Int64} (ha : yArr sh a 11 len) (hin : vp_in i len) (hd : decode cc pc = .ok (.lastore, 1)) (kk : Y X D z nL n sh I (up2L L a i.toNatClampNeg x) k w Q (pc + 1) lv st) : Y X D z nL n sh I L k w Q pc lv (.long x :: .int i :: .ref a :: st) := by
  intro H locs ls h1 h2 h3 h4
  obtain ⟨hza, hna, hcell⟩ := h1.2.2 a (by rw [ha.1]; omega)
  have hc := hcell.2.2.2.1 ha.1
  rw [ha.2] at hc
  refine W.last hC.1 hC.2.1 hc ((yK_at hC (t := 2) rfl).1 _ _) (fun q => by cases q) (by rw [arrV_size]; exact hin) rfl rfl hd fun H1 e z1 oq => ?_
  refine kk H1 _ ls (h1.at hza hna z1 oq (fun _ _ => rfl) (fun _ _ => rfl) (fun b hb => va_up_ne _ _ hb) ?_) (yold hza z1 oq h2) (yloc hza h3) h4
  have hk := ha.1
  refine ⟨fun q => by omega, fun q => by omega, fun q => by omega, fun _ => ?_, fun q => by omega, fun q => by omega⟩
  rw [e, arrV_store, ha.2]
  congr 2
  funext q
  by_cases hq : q = i.toNatClampNeg
  · subst hq; simp [updV, vp_updL, up2L, va_up]
  · simp [updV, vp_updL, up2L, va_up, hq]
theorem y_aast12 (hC : yC X D z cc own nL dep) {a v len : Nat} {i : Int32} (ha : yArr sh a 12 len) (hv : (sh v).1 = 0) (hin : vp_in i len) (hd : decode cc pc = .ok (.aastore, 1)) (kk : Y X D z nL n (upr sh a i.toNatClampNeg (some v)) I L k w Q (pc + 1) lv st) : Y X D z nL n sh I L k w Q pc lv (.ref v :: .int i :: .ref a :: st) := by
  intro H locs ls h1 h2 h3 h4
  have hlt : i.toNatClampNeg < len := Nat.not_le.mp fun q => hin (Or.inr q)
  have h0 : ¬ i < 0 := fun q => hin (Or.inl q)
  obtain ⟨hza, hna, hcell⟩ := h1.2.2 a (by rw [ha.1]; omega)
  have hc := hcell.2.2.2.2.1 ha.1
  rw [ha.2] at hc
  obtain ⟨-, -, hcv⟩ := h1.2.2 v (by rw [hv]; omega)
  have hob := hcv.1 (by rw [hv]; omega)
  rw [hv] at hob
  obtain ⟨cellV, g1, g2, g3, -⟩ := hob
  have hcls := (hC.2.2.2.2.2.1.1.1 0 _ rfl).2
  obtain ⟨kA, comp, k1, k2, k3, -⟩ := (yK_at hC (t := 3) rfl).2
  have hcomp : comp = D.1.1 0 := Option.some.inj (k3.symm.trans hcls.1)
  subst hcomp
  obtain ⟨kC, hkC, -⟩ := hcls.2
  refine W.aast hC.1 hC.2.1 hc (fun q h => by cases h) (fun h => by cases h) k1 k2 rfl hkC ⟨h0, by rw [arrV_size]; exact hlt⟩ g1 (fun q h => by rw [g3] at h; cases h) (by rw [g2]; exact hkC) (by rw [g2]; exact va_assign hcls) rfl rfl hd fun H1 e z1 oq => ?_
  refine kk H1 _ ls (h1.at hza hna z1 oq (fun b hb => va_up_ne _ _ hb) (fun _ _ => rfl) (fun _ _ => rfl) ?_) (yold hza z1 oq h2) (yloc hza h3) h4
  have hk : (upr sh a i.toNatClampNeg (some v) a).1 = 12 := by simp [upr, va_up, ha.1]
  refine ⟨fun q => by omega, fun q => by omega, fun q => by omega, fun q => by omega, fun _ => ?_, fun q => by omega⟩
  rw [e, arrV_store, show (upr sh a i.toNatClampNeg (some v) a).2.1 = len by simp [upr, va_up, ha.2]]
  congr 2
  funext q
  by_cases hq : q = i.toNatClampNeg
  · subst hq; simp [updV, upr, va_up, va_rf]
  · simp [updV, upr, va_up, hq]
/-- a new object at n -/
theorem y_new (hC : yC X D z cc own nL dep) {ci idx : Nat} {C : String} {T : u_T} {ty : Nat → FieldType} (hcls : yCls ci C T ty) (hlink : Cond.classLink own idx C ∈ yT) (hcells : k + 1 ≤ (yR X).cells) (hslots : w + yN ci ≤ (yR X).slots) (hd : decode cc pc = .ok (.new idx, 3))
    (kk : Y X D z nL (n + 1) (va_up sh n (ci, 0, fun _ => none)) (va_up I n (fun _ => 0)) (va_up L n (fun _ => 0)) (k + 1) (w + yN ci) Q (pc + 3) lv (.ref n :: st)) : Y X D z nL n sh I L k w Q pc lv st := by
  intro H locs ls h1 h2 h3 h4
  obtain ⟨hc, hlt, hin, hpt, -, hdf, hins, hini⟩ := hcls
  obtain ⟨hx, hb, -, hown, hts, ⟨hK, -⟩, -⟩ := hC
  have hKn := hK.1 ci _ hc
  refine W.newcK hx hb hown (hts _ hlink) (hts _ hins) (hts _ hini) rfl hd hcells hslots hKn.2.1 h1.2.1 fun H1 kC hkC e1 z1 o1 => ?_
  refine kk H1 _ ls (h1.push z1 o1 ?_) (yoldP h1.2.1 h1.1 z1 o1 h2) h3 h4
  refine ⟨fun _ => ?_, fun q => ?_, fun q => ?_, fun q => ?_, fun q => ?_, fun q => ?_⟩
  · rw [va_up_self]
    refine (u_born ty hts hin hKn hkC e1 hpt).to (fun j hj => ?_)
    rw [hdf j hj]
    simp [yfv, va_up, va_rf]
  all_goals (rw [va_up_self] at q; dsimp only at q; omega)
theorem y_newarr (hC : yC X D z cc own nL dep) {t ti : Nat} {at0 : ArrayType} {m : Int32} {N : Nat} (ht : (t = 9 ∧ at0 = .byte ∧ ti = 0) ∨ (t = 10 ∧ at0 = .int ∧ ti = 1) ∨ (t = 11 ∧ at0 = .long ∧ ti = 2)) (hm : ¬ m < 0) (hN : m.toNatClampNeg = N) (hb8 : N * 8 ≤ 536870912) (harr : Cond.arrayClass (newarray.typeOf at0) ∈ yT) (hcells : k + 1 ≤ (yR X).cells) (hslots : w + N ≤ (yR X).slots) (hd : decode cc pc = .ok (.newarray at0, 2))
    (kk : Y X D z nL (n + 1) (va_up sh n (t, N, fun _ => none)) (va_up I n (fun _ => 0)) (va_up L n (fun _ => 0)) (k + 1) (w + N) Q (pc + 2) lv (.ref n :: st)) : Y X D z nL n sh I L k w Q pc lv (.int m :: st) := by
  intro H locs ls h1 h2 h3 h4
  have hKK := hC
  obtain ⟨hx, hb, -, hown, hts, ⟨hK, -⟩, -⟩ := hC
  refine va_newaK hx hb (hts _ harr) rfl hd rfl hm hN (by rcases ht with ⟨-, rfl, -⟩ | ⟨-, rfl, -⟩ | ⟨-, rfl, -⟩ <;> simp only [newarray.typeOf, componentBytes] <;> omega) hcells hslots h1.2.1 fun H1 cA e1 z1 o1 hAr hNm => ?_
  refine kk H1 _ ls (h1.push z1 o1 ?_) (yoldP h1.2.1 h1.1 z1 o1 h2) h3 h4
  rcases ht with ⟨rfl, rfl, rfl⟩ | ⟨rfl, rfl, rfl⟩ | ⟨rfl, rfl, rfl⟩
  · have hcy : cA = D.2.1 9 := Option.some.inj (hNm.symm.trans (yK_at hKK (t := 0) rfl).2)
    subst hcy
    refine ⟨fun q => ?_, fun _ => ?_, fun q => ?_, fun q => ?_, fun q => ?_, fun q => ?_⟩
    rotate_left
    · rw [e1, va_up_self, va_up_self]; rfl
    all_goals (rw [va_up_self] at q; dsimp only at q; omega)
  · have hcy : cA = D.2.1 10 := Option.some.inj (hNm.symm.trans (yK_at hKK (t := 1) rfl).2)
    subst hcy
    refine ⟨fun q => ?_, fun q => ?_, fun _ => ?_, fun q => ?_, fun q => ?_, fun q => ?_⟩
    rotate_left 2
    · rw [e1, va_up_self, va_up_self]; rfl
    all_goals (rw [va_up_self] at q; dsimp only at q; omega)
  · have hcy : cA = D.2.1 11 := Option.some.inj (hNm.symm.trans (yK_at hKK (t := 2) rfl).2)
    subst hcy
    refine ⟨fun q => ?_, fun q => ?_, fun q => ?_, fun _ => ?_, fun q => ?_, fun q => ?_⟩
    rotate_left 3
    · rw [e1, va_up_self, va_up_self]; rfl
    all_goals (rw [va_up_self] at q; dsimp only at q; omega)
theorem y_objInit (hC : yC X D z cc own nL dep) {idx a : Nat} (hlink : Cond.methodLink own idx Lib.objectInit ∈ yT) (hinst : Cond.instanceMethod Lib.objectInit ∈ yT) (hcode : Cond.code Lib.objectInit ⟨#[0xb1]⟩ 1 none ∈ yT) (hdep : 1 ≤ dep) (hst : (st.map fun v => v.category).sum ≤ 8) (hd : decode cc pc = .ok (.invokespecial idx, 3)) (kk : Y X D z nL n sh I L k w Q (pc + 3) lv st) : Y X D z nL n sh I L k w Q pc lv (.ref a :: st) := by
  intro H locs ls h1 h2 h3 h4
  obtain ⟨hx, hb, hml, hown, hts, -, hf, hl, -⟩ := hC
  refine W.objInit hx hb hown (hts _ hlink) (hts _ hinst) (hts _ hcode) rfl (by rw [hml]; exact h4.1) rfl hd (by omega) ?_ (kk H locs ls h1 h2 h3 h4)
  show 2 * 0 + (st.map fun v => v.category).sum + 12 ≤ _
  omega
end RowsA
