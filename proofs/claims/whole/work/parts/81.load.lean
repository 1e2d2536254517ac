/-- what the reader makes of the bytes -/
def gTxt (b : Nat → Int32) (len : Nat) : yPs := gAll (tkK (tk b len len 0)) (tkV (tk b len len 0)) (tkS (tk b len len 0)) (tk b len len 0).length (tk b len len 0).length gP0
/-- a setup that was read lies at n + 5 -/
def ldR (b : Nat → Int32) (len n n2 : Nat) (sh2 : yS) (J : yI) : Prop := ∃ fr fm k9 w9 Z2, (∀ j, j < 18 → J (n + j) = Z2 j) ∧ rcP (tkK (tk b len len 0)) (tkV (tk b len len 0)) (tkS (tk b len len 0)) (tk b len len 0).length fr fm Z2 (gTxt b len) ∧ yPh n (tk b len len 0).length n2 sh2 k9 w9 fr fm (gTxt b len)
def ldQ (sh : yS) (I : yI) (L : yL) (n c at0 u len : Nat) (x : Int32) (bl : Nat) : Option Value → Nat → yS → yI → yL → Prop := fun v n2 sh2 I2 L2 => (¬ x < 0 ∧ x ≤ nI bl) ∧ (n ≤ n2 ∧ n2 ≤ n + 21) ∧ (∀ a, a < n → L2 a = L a) ∧
  ((¬ (gTxt (I (c + 2)) len).2.1 = 0 ∧ v = some (.int (gTxt (I (c + 2)) len).2.1) ∧ ∀ a, a < n → sh2 a = sh a ∧ I2 a = up2 (up2 I (c + 1) 1 0) c 2 (gTxt (I (c + 2)) len).2.2.1 a) ∨
   ((gTxt (I (c + 2)) len).2.1 = 0 ∧ v = some (.int ((gTxt (I (c + 2)) len).2.2.2.1 2)) ∧ (∀ a, a < n → sh2 a = upr sh (c + 15 + 14 * ((at0 + 1) % 9)) 0 (some (n + 5)) a) ∧ ∃ J, (∀ a, a < n → J a = I a) ∧ ldR (I (c + 2)) len n n2 sh2 J ∧ I2 = sR 14 (hsI (up2 (up2 J (c + 1) 1 0) c 2 (-1)) (c + 3) ((at0 + 1) % 9) (min (u + 1) 8)) (c + 15 + 14 * ((at0 + 1) % 9)) (newB (cpB (gR J (c + 15 + 14 * at0)) (gR J (c + 15 + 14 * ((at0 + 1) % 9)))))))
theorem yPh.cg {r cnt n2 : Nat} {sh sh2 : yS} {k9 w9 fr fm : Nat} {P : yPs} (h : yPh r cnt n2 sh k9 w9 fr fm P) (e : ∀ a, r ≤ a → sh2 a = sh a) : yPh r cnt n2 sh2 k9 w9 fr fm P := by
  have hS : ∀ f, ySet sh (r + 5) f → ySet sh2 (r + 5) f := fun f q => by
    unfold ySet yArr at q ⊢
    rw [e (r + 5) (by omega), e (r + 5 + 4) (by omega), e (r + 5 + 5) (by omega), e (r + 5 + 6) (by omega), e (r + 5 + 7) (by omega), e (r + 5 + 8) (by omega), e (r + 5 + 9) (by omega)]
    exact q
  have hF : ∀ f m, r ≤ f → yFor sh f m → yFor sh2 f m := fun f m hf q => by
    unfold yFor yArr at q ⊢
    rw [e f hf, e (f + 1) (by omega), e (f + 2) (by omega)]
    exact q
  rcases h with ⟨a1, a2, a3, a4, a5, a6, a7, a8⟩ | ⟨a1, a2, a3, a4, a5, a6, a7, a8⟩ | h
  · exact Or.inl ⟨a1, a2, a3, a4, a5, hS _ a6, hF _ _ (by omega) a7, a8⟩
  · exact Or.inr (Or.inl ⟨a1, a2, a3, a4, a5, hS _ a6, hF _ _ (by omega) a7, a8⟩)
  · exact Or.inr (Or.inr h)
theorem p_clear (l : Launch) (D : yD) (z : Nat) {n : Nat} {sh : yS} {I : yI} {L : yL} {i : Nat} (hB : yInp sh i) : yM l D z yX3_clear cX3_clear 1 none 0 0 0 [.ref i] n sh I L (yF none n sh (up2 I i 1 0) L) yno := by
  have h := c_X3_clear l D z (n := n) (I := I) (L := L) (B := gR I i) hB
  rw [sR_get, ← sR_up0 (by decide), sR_get] at h
  exact h
theorem up2_gR {J : yI} {a j i : Nat} {x : Int32} (h : a < i) : gR (up2 J a j x) i = gR J i := by
  funext k
  exact va_up_ne _ _ (by omega)
theorem yBook.cg {sh sh2 : yS} {i s : Nat} (h : yBook sh i s) (e : ∀ a, i ≤ a → a < i + 14 → sh2 a = sh a) : yBook sh2 i s := by
  unfold yBook yArr at h ⊢
  rw [e i (by omega) (by omega), e (i + 1) (by omega) (by omega), e (i + 2) (by omega) (by omega), e (i + 3) (by omega) (by omega), e (i + 4) (by omega) (by omega), e (i + 5) (by omega) (by omega), e (i + 6) (by omega) (by omega), e (i + 7) (by omega) (by omega), e (i + 8) (by omega) (by omega), e (i + 9) (by omega) (by omega), e (i + 10) (by omega) (by omega), e (i + 11) (by omega) (by omega), e (i + 12) (by omega) (by omega), e (i + 13) (by omega) (by omega)]
  exact h
theorem yBook.up {sh : yS} {i s s2 : Nat} (h : yBook sh i s) : yBook (upr sh i 0 (some s2)) i s2 := by
  have e : ∀ a, a ≠ i → upr sh i 0 (some s2) a = sh a := fun a ha => va_up_ne _ _ ha
  have e0 : upr sh i 0 (some s2) i = ((sh i).1, (sh i).2.1, va_up (sh i).2.2 0 (some s2)) := va_up_self _ _ _
  unfold yBook yArr at h ⊢
  rw [e0, e (i + 1) (by omega), e (i + 2) (by omega), e (i + 3) (by omega), e (i + 4) (by omega), e (i + 5) (by omega), e (i + 6) (by omega), e (i + 7) (by omega), e (i + 8) (by omega), e (i + 9) (by omega), e (i + 10) (by omega), e (i + 11) (by omega), e (i + 12) (by omega), e (i + 13) (by omega)]
  obtain ⟨h0, -, h1⟩ := h
  exact ⟨h0, rfl, h1⟩
set_option maxRecDepth 100000 in
set_option maxHeartbeats 4000000 in
theorem c_X7_load (l : Launch) (D : yD) (z : Nat) {n : Nat} {sh : yS} {I : yI} {L : yL} {c at0 su : Nat} (hP : yPro sh I c at0) (hI : yInp sh (c + 1)) (hB : yBook sh (c + 15 + 14 * at0) su) (hRg : ∀ j, j < 9 → ∃ s, yBook sh (c + 15 + 14 * j) s) {u : Nat} (hu : I (c + 3) 2 = nI u) (hu8 : u ≤ 8) (hn : c + 141 ≤ n) {bl len : Nat} (hbl : I (c + 1) 1 = nI bl) (hbl9 : bl ≤ 900) {x : Int32} (hx : ¬ x < 0 ∧ x ≤ nI bl → x = nI len ∧ len ≤ bl) : yM l D z yX7_load cX7_load 3 (some .int) 24 30 5000 [.ref c, .int x] n sh I L (ldQ sh I L n c at0 u len x bl) (fun E n2 sh2 I2 L2 => (E = "java/lang/IllegalArgumentException" ∧ ¬ (¬ x < 0 ∧ x ≤ nI bl)) ∧ n ≤ n2 ∧ sh2 = sh ∧ I2 = I ∧ L2 = L) := by
  refine yM_of (by decide) (Nat.le_of_ble_eq_true rfl) rfl ?_
  intro X hC hr hnm hRc hRs htb
  have hC : yC X D z cX7_load RX7 3 24 := hC
  refine y_iload_n hC dX7_load_0 rfl ?_
  refine y_if_lt (tgt := 15) hC dX7_load_1 (by decide) (fun c1 => ?_) (fun c1 => ?_)
  · exact y_throw hC th_ia (j := 10) (text := "the buffer has no such length") (by decide +kernel) htb (by decide) (Nat.le_of_ble_eq_true rfl) hRc hRs (by decide) (by decide) dX7_load_15 dX7_load_18 dX7_load_19 dX7_load_21 dX7_load_24 (fun n2 hn2 => ⟨⟨rfl, by first | exact fun q => q.1 c1 | exact fun q => c12 q.2⟩, hn2, rfl, rfl, rfl⟩)
  · refine y_iload_n hC dX7_load_4 rfl ?_
    refine y_aload_n hC dX7_load_5 rfl ?_
    refine y_getR hC hP.1.1 hP.1.2.1 f_X7_10 rfl dX7_load_6 ?_
    refine y_getI hC hI.1 f_X7_40 rfl dX7_load_9 ?_
    rw [hbl]
    refine y_icmp_le (tgt := 25) hC dX7_load_12 (by decide) (fun c12 => ?_) (fun c12 => ?_)
    · obtain ⟨rfl, hle⟩ := hx ⟨c1, c12⟩
      have ne : ∀ (f : yS) (w : Nat × Nat × (Nat → Option Nat)) (a b : Nat), a < b → va_up f b w a = f a := fun f w a b h => va_up_ne _ _ (by omega)
      refine y_new hC kX5 cl_X7_50 (by rw [hRc]; decide) (by rw [hRs]; decide) dX7_load_25 ?_
      refine y_dup hC dX7_load_28 rfl ?_
      refine y_new hC kX6 cl_X7_52 (by rw [hRc]; decide) (by rw [hRs]; decide) dX7_load_29 ?_
      refine y_dup hC dX7_load_32 rfl ?_
      refine y_aload_n hC dX7_load_33 rfl ?_
      refine y_getR (b := c + 1) hC (by rw [ne _ _ _ _ (by omega), ne _ _ _ _ (by omega)]; exact hP.1.1) (by rw [ne _ _ _ _ (by omega), ne _ _ _ _ (by omega)]; exact hP.1.2.1) f_X7_10 rfl dX7_load_34 ?_
      refine y_getR (b := c + 2) hC (by rw [ne _ _ _ _ (by omega), ne _ _ _ _ (by omega)]; exact hI.1) (by rw [ne _ _ _ _ (by omega), ne _ _ _ _ (by omega)]; exact hI.2.1) f_X7_54 rfl dX7_load_37 ?_
      refine y_iload_n hC dX7_load_40 rfl ?_
      refine y_callI hC (c_X6_init X.2.1 D z (i := n + 1) (b := c + 2) (w := len) (by rw [va_up_self]) (by rw [va_up_self]) (by unfold yArr; rw [ne _ _ _ _ (by omega), ne _ _ _ _ (by omega)]; exact hI.2.2) (by omega) (by omega)) m_X7_58 rfl (by decide) (Nat.le_of_ble_eq_true rfl) ⟨(by rw [hRc]; decide), (by rw [hRs]; decide)⟩ dX7_load_41 (fun _ _ _ _ _ h => h.elim) (fun v1 n1 sh1 I1 L1 hq1 => ?_)
      obtain ⟨rfl, hn1, hTk, ⟨t1, t5⟩, tz, k1, j1, l1⟩ := hq1
      have hn1 : n1 = n + 5 := by omega
      subst hn1
      refine y_callI hC (c_X5_init X.2.1 D z (i := n) (t := n + 1) (a := n + 5) (by rw [k1 _ (by omega), ne _ _ _ _ (by omega), va_up_self]) (by omega)) m_X7_61 rfl (by decide) (Nat.le_of_ble_eq_true rfl) ⟨(by rw [hRc]; decide), (by rw [hRs]; decide)⟩ dX7_load_44 (fun _ _ _ _ _ h => h.elim) (fun v2 n2 sh2 I2 L2 hq2 => ?_)
      obtain ⟨rfl, hn2, ⟨o1, o2, o3⟩, hS5, hF5, a5, f5, k2, j2, l2⟩ := hq2
      have hn2 : n2 = n + 15 := by omega
      subst hn2
      have ks : ∀ a, a < n → sh2 a = sh a := fun a ha => by rw [k2 a (by omega) (by omega), k1 a (by omega), ne _ _ _ _ (by omega), ne _ _ _ _ (by omega)]
      have js : ∀ a, a < n → I2 a = I a := fun a ha => by rw [j2 a (by omega), j1 a (by omega), va_up_ne _ _ (by omega), va_up_ne _ _ (by omega)]
      have lss : ∀ a, a < n → L2 a = L a := fun a ha => by rw [l2 a (by omega), l1 a (by omega), va_up_ne _ _ (by omega), va_up_ne _ _ (by omega)]
      have hTk2 : yTok sh2 (n + 1) (c + 2) (len + 1) 900 := by
        unfold yTok yArr at hTk ⊢
        rw [k2 (n + 1) (by omega) (by omega), k2 (n + 1 + 1) (by omega) (by omega), k2 (n + 1 + 2) (by omega) (by omega), k2 (n + 1 + 3) (by omega) (by omega), k2 (c + 2) (by omega) (by omega)]
        exact hTk
      obtain ⟨p1, p2, p3, p4, p5, p6, p7, p8, p9⟩ := hTk2
      have hPar : yPar sh2 n (c + 2) (len + 1) := ⟨o1, o2, o3, p1, p2, p3, p4, p5, p7, p8, p9, p6⟩
      have hz : zI (gR I2 n) len := by
        have g : ∀ j, j < 5 → gR I2 n j = I1 (n + j) := fun j hj => j2 (n + j) (by omega)
        refine ⟨?_, ⟨?_, ?_⟩, ⟨?_, ?_, ?_⟩, a5, f5⟩
        · rw [g 0 (by decide), j1 _ (by omega), va_up_ne _ _ (by omega)]; exact va_up_self _ _ _
        · rw [g 1 (by decide)]; exact t1
        · rw [g 1 (by decide)]; exact t5
        · rw [g 2 (by decide)]; exact tz 0 (by decide)
        · rw [g 3 (by decide)]; exact tz 1 (by decide)
        · rw [g 4 (by decide)]; exact tz 2 (by decide)
      have hra := c_X5_readAll X.2.1 D z (I := I2) (L := L2) (Z := gR I2 n) hPar hS5 hF5 (by omega) (by omega) hz
      rw [sR_get, js (c + 2) (by omega)] at hra
      have hcl := tk_len (b := I (c + 2)) (N := len) len 0
      refine y_astore_n hC dX7_load_47 (by decide) rfl ?_
      refine y_aload_n hC dX7_load_48 rfl ?_
      refine y_callV hC hra m_X7_64 rfl o1 (by decide) (Nat.le_of_ble_eq_true rfl) ⟨(by rw [hRc]; decide), (by rw [hRs]; show 0 + 9 + 6 + 2703 + 76 + (_ + 14 + (_ + 14)) ≤ 5000; omega)⟩ dX7_load_49 (fun _ _ _ _ _ h => h.elim) (fun v3 n3 sh3 J3 L3 hq3 => ?_)
      obtain ⟨rfl, fr3, hX3, fr, fm, k9, w9, I3, Z2, rfl, hrc, hph⟩ := hq3
      have hG : gAll (tkK (tk (I (c + 2)) len len 0)) (tkV (tk (I (c + 2)) len len 0)) (tkS (tk (I (c + 2)) len len 0)) (tk (I (c + 2)) len len 0).length (tk (I (c + 2)) len len 0).length gP0 = gTxt (I (c + 2)) len := rfl
      rw [hG] at hrc hph
      have ks3 : ∀ a, a < n → sh3 a = sh a := fun a ha => (fr3 a ha).1.trans (ks a ha)
      have js3 : ∀ a, a < n → sR 18 I3 n Z2 a = I a := fun a ha => (fr3 a ha).2.1.trans (js a ha)
      have ls3 : ∀ a, a < n → L3 a = L a := fun a ha => (fr3 a ha).2.2.trans (lss a ha)
      have hn3 : n ≤ n3 ∧ n3 ≤ n + 21 := by rcases hph with ⟨-, -, q, -⟩ | ⟨-, -, q, -⟩ | ⟨-, -, q, -⟩ <;> omega
      have hwz : 0 + 9 + 6 + 2703 + 76 + ((tk (I (c + 2)) len len 0).length + 14 + ((tk (I (c + 2)) len len 0).length + 14)) ≤ 5000 := by omega
      have hI3 : yInp sh3 (c + 1) := by
        unfold yInp yArr at hI ⊢
        rw [ks3 (c + 1) (by omega), ks3 (c + 1 + 1) (by omega)]
        exact hI
      have hP3 : (sh3 c).1 = 7 ∧ (sh3 c).2.2 0 = some (c + 1) ∧ (sh3 c).2.2 1 = some (c + 3) := by rw [ks3 c (by omega)]; exact hP.1
      refine y_aload_n hC dX7_load_52 rfl ?_
      refine y_getR hC hP3.1 hP3.2.1 f_X7_10 rfl dX7_load_53 ?_
      refine y_callV0 hC (p_clear X.2.1 D z hI3) m_X7_67 rfl hI3.1 (by decide) (Nat.le_of_ble_eq_true rfl) (by rw [hRc]; decide) (by rw [hRs]; exact hwz) dX7_load_56 ?_
      refine y_aload_n hC dX7_load_59 rfl ?_
      have z0 : ∀ J : yI, (∀ j, j < 18 → J (n + j) = Z2 j) → J n 7 = (gTxt (I (c + 2)) len).2.1 := fun J hJ => (congrFun (hJ 0 (by decide)) 7).trans hrc.1.2.2.1
      have zr : ∀ j, j < 18 → sR 18 I3 n Z2 (n + j) = Z2 j := fun j hj => sR_at hj
      have zr1 : ∀ j, j < 18 → up2 (sR 18 I3 n Z2) (c + 1) 1 0 (n + j) = Z2 j := fun j hj => (va_up_ne _ _ (by omega)).trans (zr j hj)
      refine y_getI hC (yP_o hX3.1) f_X7_70 rfl dX7_load_60 ?_
      refine y_eqI (y := (gTxt (I (c + 2)) len).2.1) (z0 _ zr1) ?_
      refine y_if_eq (tgt := 79) hC dX7_load_63 (by decide) (fun c63 => ?_) (fun c63 => ?_)
      · refine y_aload_n hC dX7_load_79 rfl ?_
        refine y_iconst (v := (-1)) hC dX7_load_80 (by decide) ?_
        refine y_putI hC hP3.1 f_X7_28 rfl (Or.inl rfl) dX7_load_81 ?_
        refine y_aload_n hC dX7_load_84 rfl ?_
        refine y_getR hC hP3.1 hP3.2.2 f_X7_24 rfl dX7_load_85 ?_
        obtain ⟨J2, hJ2⟩ : ∃ J2, J2 = up2 (up2 (sR 18 I3 n Z2) (c + 1) 1 0) c 2 (-1) := ⟨_, rfl⟩
        have eJ : ∀ a, c + 1 < a → J2 a = sR 18 I3 n Z2 a := fun a ha => by rw [hJ2]; exact (va_up_ne _ _ (by omega)).trans (va_up_ne _ _ (by omega))
        have hHis : yHis sh3 (c + 3) (c + 14) (c + 15) := by
          obtain ⟨-, ⟨h1, h2, h3, h4⟩, -, -⟩ := hP
          unfold yHis yArr at *
          rw [ks3 (c + 3) (by omega), ks3 (c + 14) (by omega)]
          exact ⟨h1, h2, h3, h4⟩
        have hPro : yPro sh3 J2 c at0 := ⟨hP3, hHis, hP.2.2.1, by rw [eJ _ (by omega), js3 _ (by omega)]; exact hP.2.2.2⟩
        have hlt := hP.2.2.1
        have hBk3 : yBook sh3 (c + 15 + 14 * at0) su := hB.cg (fun a h1 h2 => ks3 a (by omega))
        have hRg3 : ∀ j, j < 9 → ∃ s, yBook sh3 (c + 15 + 14 * j) s := fun j hj => by
          obtain ⟨s9, hs9⟩ := hRg j hj
          exact ⟨s9, hs9.cg (fun a h1 h2 => ks3 a (by omega))⟩
        have hbc := c_begin_at X.2.1 D z (n := n3) (L := L3) (B := gR J2 (c + 15 + 14 * at0)) hPro hBk3 rfl (u := u) (i1 := (c + 15 + 14 * ((at0 + 1) % 9))) rfl rfl rfl hRg3 (by rw [eJ _ (by omega), js3 _ (by omega)]; exact hu) hu8
        rw [sR_get, hJ2] at hbc
        refine y_callV1 hC hbc m_X7_74 rfl hHis.1 (by decide) (Nat.le_of_ble_eq_true rfl) (by rw [hRc]; decide) (by rw [hRs]; exact hwz) dX7_load_88 ?_
        have hi1 : (c + 15 + 14 * ((at0 + 1) % 9)) + 14 ≤ n := by have : (at0 + 1) % 9 < 9 := Nat.mod_lt _ (by decide); omega
        have up1 : ∀ a, a ≠ (c + 15 + 14 * ((at0 + 1) % 9)) → upr sh3 (c + 15 + 14 * ((at0 + 1) % 9)) 0 (some su) a = sh3 a := fun a ha => va_up_ne _ _ ha
        obtain ⟨s9, hs9⟩ := hRg3 ((at0 + 1) % 9) (Nat.mod_lt _ (by decide))
        refine y_aload_n hC dX7_load_91 rfl ?_
        refine y_getR hC (by rw [up1 _ (by omega)]; exact yP_o hX3.1) (by rw [up1 _ (by omega)]; exact yP_r1 hX3.1) f_X7_78 rfl dX7_load_92 ?_
        refine y_callV0 hC (c_X0_startAnew X.2.1 D z (s2 := n + 5) hs9.up) m_X7_82 rfl hs9.up.1 (by decide) (Nat.le_of_ble_eq_true rfl) (by rw [hRc]; decide) (by rw [hRs]; exact hwz) dX7_load_95 ?_
        have up2s : ∀ a, a ≠ (c + 15 + 14 * ((at0 + 1) % 9)) → upr (upr sh3 (c + 15 + 14 * ((at0 + 1) % 9)) 0 (some su)) (c + 15 + 14 * ((at0 + 1) % 9)) 0 (some (n + 5)) a = sh3 a := fun a ha => (va_up_ne _ _ ha).trans (va_up_ne _ _ ha)
        refine y_aload_n hC dX7_load_98 rfl ?_
        refine y_getR hC (by rw [up2s _ (by omega)]; exact yP_o hX3.1) (by rw [up2s _ (by omega)]; exact yP_r1 hX3.1) f_X7_78 rfl dX7_load_99 ?_
        refine y_getI hC (by rw [up2s _ (by omega)]; exact hX3.2.2.2.2) f_X7_87 rfl dX7_load_102 ?_
        have hv : sR 14 (hsI (up2 (up2 (sR 18 I3 n Z2) (c + 1) 1 0) c 2 (-1)) (c + 3) ((at0 + 1) % 9) (min (u + 1) 8)) (c + 15 + 14 * ((at0 + 1) % 9)) (newB (cpB (gR (up2 (up2 (sR 18 I3 n Z2) (c + 1) 1 0) c 2 (-1)) (c + 15 + 14 * at0)) (gR (up2 (up2 (sR 18 I3 n Z2) (c + 1) 1 0) c 2 (-1)) (c + 15 + 14 * ((at0 + 1) % 9))))) (n + 5) 6 = (gTxt (I (c + 2)) len).2.2.2.1 2 := by
          rw [sR_out (by omega)]
          unfold hsI
          rw [show ∀ (K : yI) (p q : Int32), up2 (up2 K (c + 3) 1 p) (c + 3) 2 q (n + 5) = K (n + 5) from fun K p q => (va_up_ne _ _ (by omega)).trans (va_up_ne _ _ (by omega)), ← hJ2, eJ _ (by omega), zr 5 (by decide)]
          obtain ⟨n9, -, m1, m2⟩ := hrc.1.2.2.2.2.1
          exact m1.trans m2.symm
        refine y_eqI hv ?_
        refine y_iret hC hr rfl (by decide) hwz dX7_load_105 ⟨⟨c1, c12⟩, hn3, ls3, Or.inr ⟨c63, rfl, fun a ha => ?_, sR 18 I3 n Z2, js3, ⟨fr, fm, k9, w9, Z2, zr, hrc, hph.cg (fun a ha => up2s a (by omega))⟩, ?_⟩⟩
        · by_cases ea : a = (c + 15 + 14 * ((at0 + 1) % 9))
          · subst ea
            show va_up _ _ _ _ = va_up _ _ _ _
            rw [va_up_self, va_up_self]
            show ((upr sh3 (c + 15 + 14 * ((at0 + 1) % 9)) 0 (some su) (c + 15 + 14 * ((at0 + 1) % 9))).1, (upr sh3 (c + 15 + 14 * ((at0 + 1) % 9)) 0 (some su) (c + 15 + 14 * ((at0 + 1) % 9))).2.1, va_up (upr sh3 (c + 15 + 14 * ((at0 + 1) % 9)) 0 (some su) (c + 15 + 14 * ((at0 + 1) % 9))).2.2 0 (some (n + 5))) = _
            rw [show upr sh3 (c + 15 + 14 * ((at0 + 1) % 9)) 0 (some su) (c + 15 + 14 * ((at0 + 1) % 9)) = ((sh3 (c + 15 + 14 * ((at0 + 1) % 9))).1, (sh3 (c + 15 + 14 * ((at0 + 1) % 9))).2.1, va_up (sh3 (c + 15 + 14 * ((at0 + 1) % 9))).2.2 0 (some su)) from va_up_self _ _ _, ks3 _ ha]
            show (_, _, va_up (va_up _ 0 _) 0 _) = (_, _, _)
            congr 2
            funext q
            by_cases eq : q = 0
            · subst eq; rw [va_up_self, va_up_self]
            · rw [va_up_ne _ _ eq, va_up_ne _ _ eq, va_up_ne _ _ eq]
          · rw [up2s a ea, ks3 a ha]; exact (va_up_ne _ _ ea).symm
        · rw [up2_gR (by omega), up2_gR (by omega), up2_gR (by omega), up2_gR (by omega)]
      · refine y_aload_n hC dX7_load_66 rfl ?_
        refine y_aload_n hC dX7_load_67 rfl ?_
        refine y_getI hC (yP_o hX3.1) f_X7_73 rfl dX7_load_68 ?_
        refine y_eqI (y := (gTxt (I (c + 2)) len).2.2.1) ((congrFun (zr1 0 (by decide)) 8).trans (hrc.1.2.2.2.1 c63)) ?_
        refine y_putI hC hP3.1 f_X7_28 rfl (Or.inl rfl) dX7_load_71 ?_
        refine y_aload_n hC dX7_load_74 rfl ?_
        refine y_getI hC (yP_o hX3.1) f_X7_70 rfl dX7_load_75 ?_
        refine y_eqI (y := (gTxt (I (c + 2)) len).2.1) (z0 _ (fun j hj => (va_up_ne _ _ (by omega)).trans (zr1 j hj))) ?_
        exact y_iret hC hr rfl (by decide) hwz dX7_load_78 ⟨⟨c1, c12⟩, hn3, ls3, Or.inl ⟨c63, rfl, fun a ha => ⟨ks3 a ha, by
          have e := js3 a ha
          by_cases e1 : a = c
          · subst e1
            unfold up2
            rw [va_up_self, va_up_self, va_up_ne _ _ (by omega), va_up_ne _ _ (by omega), e]
          · unfold up2
            rw [va_up_ne _ _ e1, va_up_ne _ _ e1]
            by_cases e2 : a = c + 1
            · subst e2; rw [va_up_self, va_up_self, e]
            · rw [va_up_ne _ _ e2, va_up_ne _ _ e2, e]⟩⟩⟩
    · exact y_throw hC th_ia (j := 10) (text := "the buffer has no such length") (by decide +kernel) htb (by decide) (Nat.le_of_ble_eq_true rfl) hRc hRs (by decide) (by decide) dX7_load_15 dX7_load_18 dX7_load_19 dX7_load_21 dX7_load_24 (fun n2 hn2 => ⟨⟨rfl, by first | exact fun q => q.1 c1 | exact fun q => c12 q.2⟩, hn2, rfl, rfl, rfl⟩)
