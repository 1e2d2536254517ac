theorem rmK.rpb {b : Nat → Int32} {len : Nat} {S : List (Int32 × Nat × Int32)} {M0 : yI} {e : Nat} {K : List Int32} {M : yI} {P : yPs} {P2 : yPs} (h : rmK b len S M0 e K M P2) (h0 : P2.2.1 = 0) (e0 : P.2.1 = 0) (e2 : P2.2.2.2.1 2 = P.2.2.2.1 2) {c o : Int32} (hc : ¬ c = 0) (ho : o = tkS S P.1) : rmK b len S M0 e K (rptM M c o) (gErr (tkS S) c P) := by
  obtain ⟨k1, ⟨p, p1, p2, -⟩, k3, k4, k5, ⟨nr, n1, n2, n3⟩, k7, k8⟩ := h
  have e9 : M 0 5 = 0 := k3.trans h0
  unfold rptM gErr
  rw [if_pos e9, if_pos e0]
  exact ⟨(k1.pos (Or.inr (Or.inl rfl))).pos (Or.inr (Or.inr (Or.inl rfl))), ⟨p, p1, p2, fun q => absurd q hc⟩, rfl, ho.trans (if_neg hc).symm, k5, ⟨nr, n1, n2, e2.symm.trans n3⟩, k7, fun q => absurd q hc⟩
theorem rmK.pe {b : Nat → Int32} {len : Nat} {S : List (Int32 × Nat × Int32)} {M0 : yI} {e : Nat} {K : List Int32} {M : yI} {P : yPs} (h : rmK b len S M0 e K M P) (h0 : ¬ P.2.1 = 0) {P2 : yPs} (e1 : P2.2.1 = P.2.1) (e2 : P2.2.2.1 = P.2.2.1) (e3 : P2.2.2.2.1 2 = P.2.2.2.1 2) {K2 : List Int32} : rmK b len S M0 e K2 M P2 := by
  obtain ⟨k1, ⟨p, p1, p2, -⟩, k3, k4, k5, ⟨nr, n1, n2, n3⟩, k7, k8⟩ := h
  refine ⟨k1, ⟨p, p1, p2, fun q => absurd (e1.symm.trans q) h0⟩, k3.trans e1.symm, k4.trans (by unfold eatP; rw [e1, e2]), k5, ⟨nr, n1, n2, e3.trans n3⟩, k7, fun q => absurd (e1.symm.trans q) h0⟩
theorem bit_8 : ∀ e, e < 256 → ∀ t, t < 8 → ((nI e >>> (nI t &&& 31)) &&& 1 = 0 ∨ (nI e >>> (nI t &&& 31)) &&& 1 = 1) ∧ ((nI e >>> (nI t &&& 31)) &&& 1 = 0 → nI e ||| ((1 : Int32) <<< (nI t &&& 31)) = nI (e ||| 2 ^ t) ∧ e ||| 2 ^ t < 256 ∧ popc 31 (e ||| 2 ^ t) = popc 31 e + 1) := by decide +kernel
theorem popc_8 : ∀ e, e < 256 → popc 31 e ≤ 8 := by decide +kernel
theorem shr_0 (y : Int32) : (0 : Int32) >>> y &&& 1 = 0 := by
  rw [Int32.zero_shiftRight]
  rfl
/-- one type more -/
def gT1 (k v s : Nat → Int32) (j : Nat) (P : yPs) : yPs := if v P.1 ≤ 7 ∧ ¬ (P.2.2.2.1 j >>> (v P.1 &&& 31)) &&& 1 = 0 then gErr s (-3) P else gPut j (P.2.2.2.1 j ||| ((1 : Int32) <<< ((gNum k v s 0 7 P).1 &&& 31))) (gNum k v s 0 7 P).2
theorem gTyp_er {k v s : Nat → Int32} {j : Nat} {P : yPs} (h : ¬ P.2.1 = 0) : ∀ f, gTyp k v s j f P = P
  | 0 => rfl
  | f + 1 => by rw [gTyp, if_neg (fun q => h q.1)]
theorem gTyp_nk {k v s : Nat → Int32} {j : Nat} {P : yPs} (h : ¬ k P.1 = 256) : ∀ f, gTyp k v s j f P = P
  | 0 => rfl
  | f + 1 => by rw [gTyp, if_neg (fun q => h q.2)]
theorem gT1_0 {k v s : Nat → Int32} {j : Nat} {P : yPs} (h : P.2.2.2.1 j = 0) : gT1 k v s j P = gPut j ((1 : Int32) <<< ((gNum k v s 0 7 P).1 &&& 31)) (gNum k v s 0 7 P).2 := by
  unfold gT1
  rw [h, if_neg (fun q => q.2 (shr_0 _)), Int32.zero_or]
/-- the type's number is wrong -/
theorem nee_bad {b : Nat → Int32} {len : Nat} {S : List (Int32 × Nat × Int32)} {M0 : yI} {e : Nat} {K : List Int32} {M : yI} {P : yPs} {j : Nat} (h0 : P.2.1 = 0) (hk : tkK S P.1 = 256 ∨ P.2.2.2.1 j = 0) (hj : 2 ≠ j) (h3 : ¬ (gNum (tkK S) (tkV S) (tkS S) 0 7 P).2.2.1 = 0) (g : rmK b len S M0 e K M (gNum (tkK S) (tkV S) (tkS S) 0 7 P).2) : rmK b len S M0 e K M (gT1 (tkK S) (tkV S) (tkS S) j P) ∧ ¬ (gT1 (tkK S) (tkV S) (tkS S) j P).2.1 = 0 := by
  unfold gT1
  by_cases hc : tkV S P.1 ≤ 7 ∧ ¬ (P.2.2.2.1 j >>> (tkV S P.1 &&& 31)) &&& 1 = 0
  · rw [if_pos hc]
    have hk2 : tkK S P.1 = 256 := hk.resolve_right (fun q => hc.2 (by rw [q]; exact shr_0 _))
    have e1 : (gNum (tkK S) (tkV S) (tkS S) 0 7 P).2 = gErr (tkS S) (-3) P := by
      unfold gNum at h3 ⊢
      rw [if_pos h0, if_pos hk2] at h3 ⊢
      by_cases q : tkV S P.1 < 0 ∨ ¬ tkV S P.1 ≤ 7
      · rw [if_pos q]
      · rw [if_neg q] at h3; exact absurd h0 h3
    rw [e1] at g
    exact ⟨g, gErr_e (by decide)⟩
  · rw [if_neg hc]
    exact ⟨rmK.pe (P2 := gPut j (P.2.2.2.1 j ||| ((1 : Int32) <<< ((gNum (tkK S) (tkV S) (tkS S) 0 7 P).1 &&& 31))) (gNum (tkK S) (tkV S) (tkS S) 0 7 P).2) g h3 rfl rfl (upd_ne9 (d := (gNum (tkK S) (tkV S) (tkS S) 0 7 P).2.2.2.2.1) hj), h3⟩
/-- the type is good, and new or not -/
theorem nee_ok {b : Nat → Int32} {len : Nat} {S : List (Int32 × Nat × Int32)} {M0 : yI} {e : Nat} {K : List Int32} {M : yI} {P : yPs} {j : Nat} {x : Int32} {ev f : Nat} (h0 : P.2.1 = 0) (hj : j < 324 ∧ j ≠ 10 ∧ j ≠ 2) (h3 : (gNum (tkK S) (tkV S) (tkS S) 0 7 P).2.2.1 = 0) (g : rmK b len S M0 e K M (gNum (tkK S) (tkV S) (tkS S) 0 7 P).2) (hxv : x = (gNum (tkK S) (tkV S) (tkS S) 0 7 P).1) (hs : M 0 13 = tkS S P.1) (hev : P.2.2.2.1 j = nI ev) (he8 : ev < 256) (hpc : 8 ≤ popc 31 ev + f) :
    ((M 3 j >>> (x &&& 31)) &&& 1 = 1 → rmK b len S M0 e K (rptM M (-3) (M 0 13)) (gT1 (tkK S) (tkV S) (tkS S) j P) ∧ ¬ (gT1 (tkK S) (tkV S) (tkS S) j P).2.1 = 0) ∧
    (¬ (M 3 j >>> (x &&& 31)) &&& 1 = 1 → rmK b len S M0 e K (up2 M 3 j (M 3 j ||| ((1 : Int32) <<< (x &&& 31)))) (gT1 (tkK S) (tkV S) (tkS S) j P) ∧ (gT1 (tkK S) (tkV S) (tkS S) j P).2.1 = 0 ∧ ∃ e2, (gT1 (tkK S) (tkV S) (tkS S) j P).2.2.2.1 j = nI e2 ∧ e2 < 256 ∧ 9 ≤ popc 31 e2 + f) := by
  obtain ⟨-, hk, e1, e2, e3⟩ := gNum_0 h3
  have hd : M 3 j = P.2.2.2.1 j := by
    rw [(g.2.2.2.2.2.2.2 h3).1 j hj.1 hj.2.1, gNum_d]
  have hx2 : x = tkV S P.1 := hxv.trans e2
  obtain ⟨t, ht, et⟩ : ∃ t, t < 8 ∧ tkV S P.1 = nI t := by
    obtain ⟨t, h1, h2⟩ := nI_of (x := tkV S P.1) (fun q => e3 (Or.inl q))
    have h4 : tkV S P.1 ≤ 7 := Decidable.not_not.mp (fun q => e3 (Or.inr q))
    rw [h2] at h4
    exact ⟨t, by have := (nI_leI (b := 7) h1 (by decide)).mp h4; omega, h2⟩
  obtain ⟨b1, b2⟩ := bit_8 ev he8 t ht
  have h7 : tkV S P.1 ≤ 7 := Decidable.not_not.mp (fun q => e3 (Or.inr q))
  constructor
  · intro q
    rw [hd, hx2] at q
    have hg : gT1 (tkK S) (tkV S) (tkS S) j P = gErr (tkS S) (-3) P := by
      unfold gT1
      rw [if_pos ⟨h7, by rw [q]; decide⟩]
    rw [hg]
    exact ⟨g.rpb h3 h0 (by rw [gNum_d]) (by decide) hs, gErr_e (by decide)⟩
  · intro q
    rw [hd, hx2, hev, et] at q
    have q0 := b1.resolve_right q
    obtain ⟨c1, c2, c3⟩ := b2 q0
    have hg : gT1 (tkK S) (tkV S) (tkS S) j P = gPut j (P.2.2.2.1 j ||| ((1 : Int32) <<< ((gNum (tkK S) (tkV S) (tkS S) 0 7 P).1 &&& 31))) (gNum (tkK S) (tkV S) (tkS S) 0 7 P).2 := by
      unfold gT1
      rw [if_neg (fun w => w.2 (by rw [hev, et]; exact q0))]
    rw [hg]
    refine ⟨g.put hj (fun _ => by rw [hd, hxv]), h3, ev ||| 2 ^ t, ?_, c2, by omega⟩
    show upd _ j _ j = _
    rw [upd_same, hev, e2, et]; exact c1
set_option maxRecDepth 100000 in
set_option maxHeartbeats 4000000 in
theorem c_X8_readNeeds (l : Launch) (D : yD) (z : Nat) {n : Nat} {sh : yS} {I : yI} {L : yL} {q : Nat} {b : Nat → Int32} {len : Nat} {S : List (Int32 × Nat × Int32)} {M0 : yI} (hQ : yMod sh q) (hx : mX b len M0) (hSl : S.length ≤ 901) {e : Nat} {K : List Int32} {j : Nat} (hj : 20 ≤ j ∧ j < 68) {M : yI} {P : yPs} (hZ : rmK b len S M0 e K M P) (h0 : P.2.1 = 0) (hdj : P.2.2.2.1 j = 0) : yM l D z yX8_readNeeds cX8_readNeeds 3 none 3 0 0 [.ref q, .int (nI j)] n sh (sR 15 I q M) L (yV (fun M2 => rmK b len S M0 e K M2 (gTyp (tkK S) (tkV S) (tkS S) j 8 (gT1 (tkK S) (tkV S) (tkS S) j P))) n sh I q L) (yno) := by
  refine yM_of (by decide) (Nat.le_of_ble_eq_true rfl) rfl ?_
  intro X hC hr hnm hRc hRs htb
  have hC : yC X D z cX8_readNeeds RX8 3 3 := hC
  have lp0 : ∀ (f9 j9 : Nat) (M : yI) (P2 : yPs) (l2 : Option Value), (P2.2.1 = 0 ∧ (∃ ev, P2.2.2.2.1 j = nI ev ∧ ev < 256 ∧ 8 ≤ popc 31 ev + f9) ∧ (tkK S P2.1 = 256 ∨ P2.2.2.2.1 j = 0)) → (rmK b len S M0 e K M P2 ∧ gTyp (tkK S) (tkV S) (tkS S) j f9 (gT1 (tkK S) (tkV S) (tkS S) j P2) = gTyp (tkK S) (tkV S) (tkS S) j 8 (gT1 (tkK S) (tkV S) (tkS S) j P)) → Y X D z 3 n sh (sR 15 I q M) L 0 0 (yEnd X D z (yV (fun M2 => rmK b len S M0 e K M2 (gTyp (tkK S) (tkV S) (tkS S) j 8 (gT1 (tkK S) (tkV S) (tkS S) j P))) n sh I q L) (yno) 0 0) 0 [some (.ref q), some (.int (nI j)), l2] [] := by
    intro f9
    induction f9 with
    | zero =>
      intro j9 M P2 l2 hm hi
      refine y_aload_n hC dX8_readNeeds_0 rfl ?_
      refine y_iconst (v := 0) hC dX8_readNeeds_1 (by decide) ?_
      refine y_bipush (v := 7) hC dX8_readNeeds_2 (by decide) ?_
      refine y_callYn hC (w_num X.2.1 D z hQ hx hi.1 (a := 0) (c := 7) (lo := 0) (hi := 7) (by decide) (by decide) (by decide) (by decide)) m_X8_120 rfl (yM_o hQ) (by decide) (Nat.le_of_ble_eq_true rfl) (Nat.zero_le _) (Nat.zero_le _) dX8_readNeeds_4 (fun x1 M1 g1 => ?_)
      refine y_istore_n hC dX8_readNeeds_7 (by decide) rfl ?_
      refine y_aload_n hC dX8_readNeeds_8 rfl ?_
      refine y_callV1 hC (w_isGood X.2.1 D z hQ g1.1) m_X8_65 rfl (yM_o hQ) (by decide) (Nat.le_of_ble_eq_true rfl) (Nat.zero_le _) (Nat.zero_le _) dX8_readNeeds_9 ?_
      refine y_if_eqB (tgt := 39) hC dX8_readNeeds_12 (by decide) (fun c12 => ?_) (fun c12 => ?_)
      · have t0 := nee_bad hm.1 hm.2.2 (by omega) c12 g1.1
        refine y_aload_n hC dX8_readNeeds_39 rfl ?_
        refine y_callV1 hC (w_isGood X.2.1 D z hQ t0.1) m_X8_65 rfl (yM_o hQ) (by decide) (Nat.le_of_ble_eq_true rfl) (Nat.zero_le _) (Nat.zero_le _) dX8_readNeeds_40 ?_
        refine y_if_neB (tgt := 47) hC dX8_readNeeds_43 (by decide) (fun c43 => absurd c43 t0.2) (fun c43 => ?_)
        exact y_vret hC hr (Nat.zero_le _) (Nat.zero_le _) dX8_readNeeds_46 (yV.mk (by rw [← hi.2, gTyp_er t0.2]; exact t0.1))
      · obtain ⟨ev, v1, v2, v3⟩ := hm.2.1
        obtain ⟨x9, s9⟩ := g1.2 c12
        have ok9 := nee_ok (f := 0) hm.1 (j := j) ⟨by omega, by omega, by omega⟩ c12 g1.1 x9 s9 v1 v2 v3
        refine y_aload_n hC dX8_readNeeds_15 rfl ?_
        refine y_getR hC (yM_o hQ) (yM_r9 hQ) f_X8_20 rfl dX8_readNeeds_16 ?_
        refine y_iload_n hC dX8_readNeeds_19 rfl ?_
        refine y_ialdRN (w9 := 15) hC (by decide) (yM_a9 hQ) (by omega) dX8_readNeeds_20 ?_
        refine y_iload_n hC dX8_readNeeds_21 rfl ?_
        refine y_ishr hC dX8_readNeeds_22 ?_
        refine y_iconst (v := 1) hC dX8_readNeeds_23 (by decide) ?_
        refine y_iand hC dX8_readNeeds_24 ?_
        refine y_iconst (v := 1) hC dX8_readNeeds_25 (by decide) ?_
        refine y_icmp_ne (tgt := 39) hC dX8_readNeeds_26 (by decide) (fun c26 => ?_) (fun c26 => ?_)
        · skip
          refine y_aload_n hC dX8_readNeeds_39 rfl ?_
          refine y_callV1 hC (w_isGood X.2.1 D z hQ g1.1) m_X8_65 rfl (yM_o hQ) (by decide) (Nat.le_of_ble_eq_true rfl) (Nat.zero_le _) (Nat.zero_le _) dX8_readNeeds_40 ?_
          refine y_if_neB (tgt := 47) hC dX8_readNeeds_43 (by decide) (fun c43 => ?_) (fun c43 => absurd c12 c43)
          refine y_aload_n hC dX8_readNeeds_47 rfl ?_
          refine y_getR hC (yM_o hQ) (yM_r9 hQ) f_X8_20 rfl dX8_readNeeds_48 ?_
          refine y_iload_n hC dX8_readNeeds_51 rfl ?_
          refine y_dup2 hC dX8_readNeeds_52 rfl rfl ?_
          refine y_ialdRN (w9 := 15) hC (by decide) (yM_a9 hQ) (by omega) dX8_readNeeds_53 ?_
          refine y_iconst (v := 1) hC dX8_readNeeds_54 (by decide) ?_
          refine y_iload_n hC dX8_readNeeds_55 rfl ?_
          refine y_ishl hC dX8_readNeeds_56 ?_
          refine y_ior hC dX8_readNeeds_57 ?_
          refine y_iastRN (w9 := 15) hC (by decide) (yM_a9 hQ) (by omega) dX8_readNeeds_58 ?_
          have t2 := ok9.2 c26
          refine y_aload_n hC dX8_readNeeds_59 rfl ?_
          refine y_callYn hC (w_next X.2.1 D z hQ hx t2.1 t2.2.1) m_X8_69 rfl (yM_o hQ) (by decide) (Nat.le_of_ble_eq_true rfl) (Nat.zero_le _) (Nat.zero_le _) dX8_readNeeds_60 (fun x2 M2 g2 => ?_)
          obtain ⟨a2, rfl, hA2⟩ := g2
          refine y_callS1 hC (c_X8_isDigit X.2.1 D z) m_X8_86 rfl (by decide) (Nat.le_of_ble_eq_true rfl) (Nat.zero_le _) (Nat.zero_le _) dX8_readNeeds_63 ?_
          refine y_if_neB (tgt := 0) hC dX8_readNeeds_66 (by decide) (fun c66 => by obtain ⟨e2, w1, w2, w3⟩ := t2.2.2; have := popc_8 e2 w2; omega) (fun c66 => ?_)
          exact y_vret hC hr (Nat.zero_le _) (Nat.zero_le _) dX8_readNeeds_69 (yV.mk (by rw [← hi.2, gTyp_nk (fun w => c66 ((lx_dg hA2.2.2).mpr w))]; exact hA2.1))
        · refine y_aload_n hC dX8_readNeeds_29 rfl ?_
          refine y_bipush (v := (-3)) hC dX8_readNeeds_30 (by decide) ?_
          refine y_aload_n hC dX8_readNeeds_32 rfl ?_
          refine y_getIR (w9 := 15) hC (by decide) (yM_o hQ) f_X8_90 rfl dX8_readNeeds_33 ?_
          refine y_callV0 hC (c_X8_report X.2.1 D z hQ) m_X8_82 rfl (yM_o hQ) (by decide) (Nat.le_of_ble_eq_true rfl) (Nat.zero_le _) (Nat.zero_le _) dX8_readNeeds_36 ?_
          have t1 := ok9.1 c26
          skip
          refine y_aload_n hC dX8_readNeeds_39 rfl ?_
          refine y_callV1 hC (w_isGood X.2.1 D z hQ t1.1) m_X8_65 rfl (yM_o hQ) (by decide) (Nat.le_of_ble_eq_true rfl) (Nat.zero_le _) (Nat.zero_le _) dX8_readNeeds_40 ?_
          refine y_if_neB (tgt := 47) hC dX8_readNeeds_43 (by decide) (fun c43 => absurd c43 t1.2) (fun c43 => ?_)
          exact y_vret hC hr (Nat.zero_le _) (Nat.zero_le _) dX8_readNeeds_46 (yV.mk (by rw [← hi.2, gTyp_er t1.2]; exact t1.1))
    | succ f9 ih =>
      intro j9 M P2 l2 hm hi
      refine y_aload_n hC dX8_readNeeds_0 rfl ?_
      refine y_iconst (v := 0) hC dX8_readNeeds_1 (by decide) ?_
      refine y_bipush (v := 7) hC dX8_readNeeds_2 (by decide) ?_
      refine y_callYn hC (w_num X.2.1 D z hQ hx hi.1 (a := 0) (c := 7) (lo := 0) (hi := 7) (by decide) (by decide) (by decide) (by decide)) m_X8_120 rfl (yM_o hQ) (by decide) (Nat.le_of_ble_eq_true rfl) (Nat.zero_le _) (Nat.zero_le _) dX8_readNeeds_4 (fun x3 M3 g3 => ?_)
      refine y_istore_n hC dX8_readNeeds_7 (by decide) rfl ?_
      refine y_aload_n hC dX8_readNeeds_8 rfl ?_
      refine y_callV1 hC (w_isGood X.2.1 D z hQ g3.1) m_X8_65 rfl (yM_o hQ) (by decide) (Nat.le_of_ble_eq_true rfl) (Nat.zero_le _) (Nat.zero_le _) dX8_readNeeds_9 ?_
      refine y_if_eqB (tgt := 39) hC dX8_readNeeds_12 (by decide) (fun c12 => ?_) (fun c12 => ?_)
      · have t0 := nee_bad hm.1 hm.2.2 (by omega) c12 g3.1
        refine y_aload_n hC dX8_readNeeds_39 rfl ?_
        refine y_callV1 hC (w_isGood X.2.1 D z hQ t0.1) m_X8_65 rfl (yM_o hQ) (by decide) (Nat.le_of_ble_eq_true rfl) (Nat.zero_le _) (Nat.zero_le _) dX8_readNeeds_40 ?_
        refine y_if_neB (tgt := 47) hC dX8_readNeeds_43 (by decide) (fun c43 => absurd c43 t0.2) (fun c43 => ?_)
        exact y_vret hC hr (Nat.zero_le _) (Nat.zero_le _) dX8_readNeeds_46 (yV.mk (by rw [← hi.2, gTyp_er t0.2]; exact t0.1))
      · obtain ⟨ev, v1, v2, v3⟩ := hm.2.1
        obtain ⟨x9, s9⟩ := g3.2 c12
        have ok9 := nee_ok (f := f9 + 1) hm.1 (j := j) ⟨by omega, by omega, by omega⟩ c12 g3.1 x9 s9 v1 v2 v3
        refine y_aload_n hC dX8_readNeeds_15 rfl ?_
        refine y_getR hC (yM_o hQ) (yM_r9 hQ) f_X8_20 rfl dX8_readNeeds_16 ?_
        refine y_iload_n hC dX8_readNeeds_19 rfl ?_
        refine y_ialdRN (w9 := 15) hC (by decide) (yM_a9 hQ) (by omega) dX8_readNeeds_20 ?_
        refine y_iload_n hC dX8_readNeeds_21 rfl ?_
        refine y_ishr hC dX8_readNeeds_22 ?_
        refine y_iconst (v := 1) hC dX8_readNeeds_23 (by decide) ?_
        refine y_iand hC dX8_readNeeds_24 ?_
        refine y_iconst (v := 1) hC dX8_readNeeds_25 (by decide) ?_
        refine y_icmp_ne (tgt := 39) hC dX8_readNeeds_26 (by decide) (fun c26 => ?_) (fun c26 => ?_)
        · skip
          refine y_aload_n hC dX8_readNeeds_39 rfl ?_
          refine y_callV1 hC (w_isGood X.2.1 D z hQ g3.1) m_X8_65 rfl (yM_o hQ) (by decide) (Nat.le_of_ble_eq_true rfl) (Nat.zero_le _) (Nat.zero_le _) dX8_readNeeds_40 ?_
          refine y_if_neB (tgt := 47) hC dX8_readNeeds_43 (by decide) (fun c43 => ?_) (fun c43 => absurd c12 c43)
          refine y_aload_n hC dX8_readNeeds_47 rfl ?_
          refine y_getR hC (yM_o hQ) (yM_r9 hQ) f_X8_20 rfl dX8_readNeeds_48 ?_
          refine y_iload_n hC dX8_readNeeds_51 rfl ?_
          refine y_dup2 hC dX8_readNeeds_52 rfl rfl ?_
          refine y_ialdRN (w9 := 15) hC (by decide) (yM_a9 hQ) (by omega) dX8_readNeeds_53 ?_
          refine y_iconst (v := 1) hC dX8_readNeeds_54 (by decide) ?_
          refine y_iload_n hC dX8_readNeeds_55 rfl ?_
          refine y_ishl hC dX8_readNeeds_56 ?_
          refine y_ior hC dX8_readNeeds_57 ?_
          refine y_iastRN (w9 := 15) hC (by decide) (yM_a9 hQ) (by omega) dX8_readNeeds_58 ?_
          have t2 := ok9.2 c26
          refine y_aload_n hC dX8_readNeeds_59 rfl ?_
          refine y_callYn hC (w_next X.2.1 D z hQ hx t2.1 t2.2.1) m_X8_69 rfl (yM_o hQ) (by decide) (Nat.le_of_ble_eq_true rfl) (Nat.zero_le _) (Nat.zero_le _) dX8_readNeeds_60 (fun x4 M4 g4 => ?_)
          obtain ⟨a4, rfl, hA4⟩ := g4
          refine y_callS1 hC (c_X8_isDigit X.2.1 D z) m_X8_86 rfl (by decide) (Nat.le_of_ble_eq_true rfl) (Nat.zero_le _) (Nat.zero_le _) dX8_readNeeds_63 ?_
          refine y_if_neB (tgt := 0) hC dX8_readNeeds_66 (by decide) (fun c66 => ?_) (fun c66 => ?_)
          · have k9 := (lx_dg hA4.2.2).mp c66
            obtain ⟨e2, w1, w2, w3⟩ := t2.2.2
            exact ih 0 _ (gT1 (tkK S) (tkV S) (tkS S) j P2) _ ⟨t2.2.1, ⟨e2, w1, w2, by omega⟩, Or.inl k9⟩ ⟨hA4.1, by rw [← hi.2, gTyp, if_pos ⟨t2.2.1, k9⟩]; rfl⟩
          · exact y_vret hC hr (Nat.zero_le _) (Nat.zero_le _) dX8_readNeeds_69 (yV.mk (by rw [← hi.2, gTyp_nk (fun w => c66 ((lx_dg hA4.2.2).mpr w))]; exact hA4.1))
        · refine y_aload_n hC dX8_readNeeds_29 rfl ?_
          refine y_bipush (v := (-3)) hC dX8_readNeeds_30 (by decide) ?_
          refine y_aload_n hC dX8_readNeeds_32 rfl ?_
          refine y_getIR (w9 := 15) hC (by decide) (yM_o hQ) f_X8_90 rfl dX8_readNeeds_33 ?_
          refine y_callV0 hC (c_X8_report X.2.1 D z hQ) m_X8_82 rfl (yM_o hQ) (by decide) (Nat.le_of_ble_eq_true rfl) (Nat.zero_le _) (Nat.zero_le _) dX8_readNeeds_36 ?_
          have t1 := ok9.1 c26
          skip
          refine y_aload_n hC dX8_readNeeds_39 rfl ?_
          refine y_callV1 hC (w_isGood X.2.1 D z hQ t1.1) m_X8_65 rfl (yM_o hQ) (by decide) (Nat.le_of_ble_eq_true rfl) (Nat.zero_le _) (Nat.zero_le _) dX8_readNeeds_40 ?_
          refine y_if_neB (tgt := 47) hC dX8_readNeeds_43 (by decide) (fun c43 => absurd c43 t1.2) (fun c43 => ?_)
          exact y_vret hC hr (Nat.zero_le _) (Nat.zero_le _) dX8_readNeeds_46 (yV.mk (by rw [← hi.2, gTyp_er t1.2]; exact t1.1))
  exact lp0 8 0 _ _ none ⟨h0, ⟨0, hdj, by decide, by decide⟩, Or.inr hdj⟩ ⟨hZ, rfl⟩
