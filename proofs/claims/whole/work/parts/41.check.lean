/-- returns r where P holds, and the heap stays -/
abbrev yCk (P : Prop) (r : Option Value) (n : Nat) (sh : yS) (I : yI) (L : yL) : Option Value → Nat → yS → yI → yL → Prop := fun v n2 sh2 I2 L2 => P ∧ v = r ∧ n2 = n ∧ sh2 = sh ∧ I2 = I ∧ L2 = L
/-- throws cls where P doesn't hold; only new cells come -/
abbrev yCx (cls : String) (P : Prop) (n : Nat) (sh : yS) (I : yI) (L : yL) : String → Nat → yS → yI → yL → Prop := fun E n2 sh2 I2 L2 => (E = cls ∧ ¬ P) ∧ n ≤ n2 ∧ sh2 = sh ∧ I2 = I ∧ L2 = L
section CallsK
variable {X : yX} {D : yD} {z nL n : Nat} {sh : yS} {I : yI} {L : yL} {k w : Nat} {Q : State → Prop} {pc : Nat} {lv : List (Option Value)} {st stk : List Value} {cc : ByteArray} {own : String} {dep : Nat}
variable {y : MethodName} {bytes : ByteArray} {maxL : Nat} {ret : Option FieldType} {d2 mc ms idx ci b : Nat} {As : List Value} {v : Value} {P : Prop} {cls : String}
theorem y_callS0k (hC : yC X D z cc own nL dep) (hM : yM X.2.1 D z y bytes maxL ret d2 mc ms As n sh I L (yCk P none n sh I L) (yCx cls P n sh I L)) (cw : yCS own idx y bytes maxL ret As.length) (hs : stk = ypush As st) (hdep : d2 + 1 ≤ dep) (hst : (st.map fun v => v.category).sum ≤ 8) (hroom : k + mc ≤ (yR X).cells ∧ w + ms ≤ (yR X).slots) (hd : decode cc pc = .ok (.invokestatic idx, 3))
    (kx : ∀ n2, n ≤ n2 → ¬ P → YX X D z nL n2 sh I L (k + mc) (w + ms) Q pc lv st cls) (kk : P → Y X D z nL n sh I L (k + mc) (w + ms) Q (pc + 3) lv st) : Y X D z nL n sh I L k w Q pc lv stk :=
  y_callS hC hM cw hs hdep hst hroom hd (fun _ _ _ _ _ h => by obtain ⟨⟨rfl, hP⟩, hn, rfl, rfl, rfl⟩ := h; exact kx _ hn hP) (fun _ _ _ _ _ h => by obtain ⟨hP, rfl, rfl, rfl, rfl, rfl⟩ := h; exact kk hP)
theorem y_callV1k (hC : yC X D z cc own nL dep) (hM : yM X.2.1 D z y bytes maxL ret d2 mc ms (.ref b :: As) n sh I L (yCk P (some v) n sh I L) (yCx cls P n sh I L)) (cw : yCV own idx ci y bytes maxL ret As.length) (hs : stk = ypush (.ref b :: As) st) (hb : (sh b).1 = ci) (hdep : d2 + 1 ≤ dep) (hst : (st.map fun v => v.category).sum ≤ 8) (hroom : k + mc ≤ (yR X).cells ∧ w + ms ≤ (yR X).slots) (hd : decode cc pc = .ok (.invokevirtual idx, 3))
    (kx : ∀ n2, n ≤ n2 → ¬ P → YX X D z nL n2 sh I L (k + mc) (w + ms) Q pc lv st cls) (kk : P → Y X D z nL n sh I L (k + mc) (w + ms) Q (pc + 3) lv (v :: st)) : Y X D z nL n sh I L k w Q pc lv stk :=
  y_callV hC hM cw hs hb hdep hst hroom hd (fun _ _ _ _ _ h => by obtain ⟨⟨rfl, hP⟩, hn, rfl, rfl, rfl⟩ := h; exact kx _ hn hP) (fun _ _ _ _ _ h => by obtain ⟨hP, rfl, rfl, rfl, rfl, rfl⟩ := h; exact kk hP)
end CallsK
/-- a number that is an index below c -/
theorem vp_of_cmp {x : Int32} {c : Nat} (hc : c < 2147483648) (h1 : ¬ x < 0) (h2 : x < nI c) : vp_in x c := by
  obtain ⟨j, hj, rfl⟩ := nI_of h1
  exact vp_in_nI (nI_lt2 h2) hc
theorem vp_not_neg {x : Int32} {c : Nat} (h : x < 0) : ¬ vp_in x c := fun q => q (Or.inl h)
theorem vp_not_ge {x : Int32} {c : Nat} (hc : c < 2147483648) (h1 : ¬ x < nI c) : ¬ vp_in x c := fun q => by
  obtain ⟨j, hj, rfl⟩ := vp_in_of q hc
  exact h1 (nI_lt hj hc)
set_option maxRecDepth 100000 in
set_option maxHeartbeats 4000000 in
theorem c_X7_checkIndex (l : Launch) (D : yD) (z : Nat) {n : Nat} {sh : yS} {I : yI} {L : yL} {x : Int32} {cnt : Nat} (hcnt : cnt < 2147483648) : yM l D z yX7_checkIndex cX7_checkIndex 2 none 6 1 6 [.int x, .int (nI cnt)] n sh I L (yCk (vp_in x cnt) none n sh I L) (yCx "java/lang/IndexOutOfBoundsException" (vp_in x cnt) n sh I L) := by
  refine yM_of (by decide) (Nat.le_of_ble_eq_true rfl) rfl ?_
  intro X hC hr hnm hRc hRs htb
  have hC : yC X D z cX7_checkIndex RX7 2 6 := hC
  refine y_iload_n hC dX7_checkIndex_0 rfl ?_
  refine y_if_lt (tgt := 9) hC dX7_checkIndex_1 (by decide) (fun c1 => ?_) (fun c1 => ?_)
  · exact y_throw hC th_io (j := 11) (text := "there is no such index") (by decide +kernel) htb (by decide) (Nat.le_of_ble_eq_true rfl) hRc hRs (by decide) (by decide) dX7_checkIndex_9 dX7_checkIndex_12 dX7_checkIndex_13 dX7_checkIndex_15 dX7_checkIndex_18 (fun n2 hn2 => ⟨⟨rfl, by first | exact vp_not_neg c1 | exact vp_not_ge hcnt c6⟩, hn2, rfl, rfl, rfl⟩)
  · refine y_iload_n hC dX7_checkIndex_4 rfl ?_
    refine y_iload_n hC dX7_checkIndex_5 rfl ?_
    refine y_icmp_lt (tgt := 19) hC dX7_checkIndex_6 (by decide) (fun c6 => ?_) (fun c6 => ?_)
    · exact y_vret hC hr (Nat.zero_le _) (Nat.zero_le _) dX7_checkIndex_19 ⟨vp_of_cmp hcnt c1 c6, rfl, rfl, rfl, rfl, rfl⟩
    · exact y_throw hC th_io (j := 11) (text := "there is no such index") (by decide +kernel) htb (by decide) (Nat.le_of_ble_eq_true rfl) hRc hRs (by decide) (by decide) dX7_checkIndex_9 dX7_checkIndex_12 dX7_checkIndex_13 dX7_checkIndex_15 dX7_checkIndex_18 (fun n2 hn2 => ⟨⟨rfl, by first | exact vp_not_neg c1 | exact vp_not_ge hcnt c6⟩, hn2, rfl, rfl, rfl⟩)
set_option maxRecDepth 100000 in
set_option maxHeartbeats 4000000 in
theorem c_X7_checkRange (l : Launch) (D : yD) (z : Nat) {n : Nat} {sh : yS} {I : yI} {L : yL} {x lo hi : Int32} : yM l D z yX7_checkRange cX7_checkRange 3 none 6 1 6 [.int x, .int lo, .int hi] n sh I L (yCk (¬ x < lo ∧ x ≤ hi) none n sh I L) (yCx "java/lang/IllegalArgumentException" (¬ x < lo ∧ x ≤ hi) n sh I L) := by
  refine yM_of (by decide) (Nat.le_of_ble_eq_true rfl) rfl ?_
  intro X hC hr hnm hRc hRs htb
  have hC : yC X D z cX7_checkRange RX7 3 6 := hC
  refine y_iload_n hC dX7_checkRange_0 rfl ?_
  refine y_iload_n hC dX7_checkRange_1 rfl ?_
  refine y_icmp_lt (tgt := 10) hC dX7_checkRange_2 (by decide) (fun c2 => ?_) (fun c2 => ?_)
  · exact y_throw hC th_ia (j := 12) (text := "a number is out of range") (by decide +kernel) htb (by decide) (Nat.le_of_ble_eq_true rfl) hRc hRs (by decide) (by decide) dX7_checkRange_10 dX7_checkRange_13 dX7_checkRange_14 dX7_checkRange_16 dX7_checkRange_19 (fun n2 hn2 => ⟨⟨rfl, by first | exact fun q => q.1 c2 | exact fun q => c7 q.2⟩, hn2, rfl, rfl, rfl⟩)
  · refine y_iload_n hC dX7_checkRange_5 rfl ?_
    refine y_iload_n hC dX7_checkRange_6 rfl ?_
    refine y_icmp_le (tgt := 20) hC dX7_checkRange_7 (by decide) (fun c7 => ?_) (fun c7 => ?_)
    · exact y_vret hC hr (Nat.zero_le _) (Nat.zero_le _) dX7_checkRange_20 ⟨⟨c2, c7⟩, rfl, rfl, rfl, rfl, rfl⟩
    · exact y_throw hC th_ia (j := 12) (text := "a number is out of range") (by decide +kernel) htb (by decide) (Nat.le_of_ble_eq_true rfl) hRc hRs (by decide) (by decide) dX7_checkRange_10 dX7_checkRange_13 dX7_checkRange_14 dX7_checkRange_16 dX7_checkRange_19 (fun n2 hn2 => ⟨⟨rfl, by first | exact fun q => q.1 c2 | exact fun q => c7 q.2⟩, hn2, rfl, rfl, rfl⟩)
set_option maxRecDepth 100000 in
set_option maxHeartbeats 4000000 in
theorem c_X7_checkState (l : Launch) (D : yD) (z : Nat) {n : Nat} {sh : yS} {I : yI} {L : yL} {i su : Nat} {B : yI} (hB : yBook sh i su) {d : Nat} (hd : d < 20) {wt : Int32} : yM l D z yX7_checkState cX7_checkState 3 none 6 1 6 [.ref i, .int (nI d), .int wt] n sh (sR 14 I i B) L (yCk (B 12 d = wt) none n sh (sR 14 I i B) L) (yCx "java/lang/IllegalStateException" (B 12 d = wt) n sh (sR 14 I i B) L) := by
  refine yM_of (by decide) (Nat.le_of_ble_eq_true rfl) rfl ?_
  intro X hC hr hnm hRc hRs htb
  have hC : yC X D z cX7_checkState RX7 3 6 := hC
  refine y_aload_n hC dX7_checkState_0 rfl ?_
  refine y_getR hC (yB_o hB) (yB_r16 hB) f_X7_137 rfl dX7_checkState_1 ?_
  refine y_iload_n hC dX7_checkState_4 rfl ?_
  refine y_ialdRN (w9 := 14) hC (by decide) (yB_a16 hB) (by omega) dX7_checkState_5 ?_
  refine y_iload_n hC dX7_checkState_6 rfl ?_
  refine y_icmp_eq (tgt := 20) hC dX7_checkState_7 (by decide) (fun c7 => ?_) (fun c7 => ?_)
  · exact y_vret hC hr (Nat.zero_le _) (Nat.zero_le _) dX7_checkState_20 ⟨c7, rfl, rfl, rfl, rfl, rfl⟩
  · exact y_throw hC th_is (j := 16) (text := "the dispute is in another state") (by decide +kernel) htb (by decide) (Nat.le_of_ble_eq_true rfl) hRc hRs (by decide) (by decide) dX7_checkState_10 dX7_checkState_13 dX7_checkState_14 dX7_checkState_16 dX7_checkState_19 (fun n2 hn2 => ⟨⟨rfl, c7⟩, hn2, rfl, rfl, rfl⟩)
