theorem and_63 (x : Int32) : ∃ t, t < 64 ∧ x &&& 63 = nI t := by
  refine ⟨(x &&& 63).toBitVec.toNat, ?_, ?_⟩
  · rw [Int32.toBitVec_and]
    show (x.toBitVec &&& 63#32).toNat < 64
    rw [BitVec.toNat_and]
    exact Nat.lt_of_le_of_lt Nat.and_le_right (by decide)
  · apply Int32.toBitVec_inj.mp
    apply BitVec.eq_of_toNat_eq
    show _ = (BitVec.ofNat 32 _).toNat
    rw [BitVec.toNat_ofNat, Nat.mod_eq_of_lt (BitVec.isLt _)]
theorem tb_out : ∀ t, t < 64 → 35 ≤ t → (34 : Int) < (nI t).toInt := by decide +kernel
theorem le_6 : ∀ L, L < 6 → nI L - 6 < 0 := by decide +kernel
theorem law_le {i Ls : Nat} (h : Ls ≤ 3072) (hi : i ≤ 3078) (q : ¬ nI Ls - (Int8.ofInt 6).toInt32 < nI i) : i + 6 ≤ Ls := by
  have q : ¬ nI Ls - 6 < nI i := q
  by_cases c : Ls < 6
  · exact absurd (Int32.lt_of_lt_of_le (le_6 Ls c) (show nI 0 ≤ nI i from (nI_leI (by omega) (by omega)).mpr (Nat.zero_le _))) q
  · have e : nI Ls - 6 = nI (Ls - 6) := by
      rw [show nI Ls = nI (Ls - 6) + nI 6 by rw [nI_add, show Ls - 6 + 6 = Ls by omega]]
      exact Int32.add_sub_cancel _ _
    rw [e] at q
    have := nI_nlt2 q
    omega
set_option maxRecDepth 100000 in
set_option maxHeartbeats 4000000 in
/-- the law's loop -/
theorem law_loop {X : yX} {D : yD} {z dep b Ls : Nat} {xs : Nat → Int32} {c : Nat} {Q : State → Prop} (hC : yC X D z cL_law RL 7 dep) (hdep : 40 ≤ dep) (hX : va_X b Ls xs (ys X) (ys X).heap) (hbl : b < (ys X).heap.size) (hbz : b < z) (hLs : Ls ≤ 3072) {KC WC : Nat} (hKC : KC ≤ (yR X).cells) (hWC : WC ≤ (yR X).slots) (fin : ∀ n sh I L k w lv, k ≤ KC → w ≤ WC → Y X D z 7 n sh I L k w Q 1781 lv []) : ∀ (f i n : Nat) (sh : yS) (I : yI) (L : yL) (k w : Nat), Ls < i + 6 * (f + 1) → lA c n sh I → k + 30 * f ≤ KC → w + 5000 * f ≤ WC → i ≤ 3078 → Y X D z 7 n sh I L k w Q 23 (lvH b c i) []
  | 0, i, n, sh, I, L, k, w, h1, hA, h2, h3, h4 => by
    refine y_iload hC dL_law_23 rfl ?_
    refine y_aload_n hC dL_law_25 rfl ?_
    refine y_xlen hC hX hbl hbz dL_law_26 ?_
    refine y_bipush hC dL_law_27 rfl ?_
    refine y_isub hC dL_law_29 ?_
    refine y_icmp_gt (tgt := 1781) hC dL_law_30 (by decide) (fun _ => fin _ _ _ _ _ _ _ (by omega) (by omega)) (fun q => ?_)
    have := law_le hLs h4 q
    exact absurd h1 (by omega)
  | f + 1, i, n, sh, I, L, k, w, h1, hA, h2, h3, h4 => by
    refine y_iload hC dL_law_23 rfl ?_
    refine y_aload_n hC dL_law_25 rfl ?_
    refine y_xlen hC hX hbl hbz dL_law_26 ?_
    refine y_bipush hC dL_law_27 rfl ?_
    refine y_isub hC dL_law_29 ?_
    refine y_icmp_gt (tgt := 1781) hC dL_law_30 (by decide) (fun _ => fin _ _ _ _ _ _ _ (by omega) (by omega)) (fun q => ?_)
    have hi := law_le hLs h4 q
    have hG : lawC X D z dep b Ls xs c i k w Q := ⟨hC, hdep, hX, hbl, hbz, ⟨hi, hLs⟩, ⟨by omega, by omega⟩, fun n sh I L k2 w2 hA2 e1 e2 => by
      refine y_iinc (v := nI (i + 6)) hC dL_law_1775 rfl (show nI i + nI 6 = _ from nI_add i 6) (by decide) rfl ?_
      refine y_goto (tgt := 23) hC dL_law_1778 (by decide) ?_
      exact law_loop hC hdep hX hbl hbz hLs hKC hWC fin f (i + 6) n sh I L k2 w2 (by omega) hA2 (by omega) (by omega) (by omega)⟩
    refine y_aload_n hC dL_law_33 rfl ?_
    refine y_iload hC dL_law_34 rfl ?_
    refine y_sld hC hX hbl hbz (vp_in_nI (by omega) (by omega)) dL_law_36 ?_
    refine y_bipush hC dL_law_37 rfl ?_
    refine y_iand hC dL_law_39 ?_
    obtain ⟨t, ht, e⟩ := and_63 (xs (nI i).toNatClampNeg)
    rw [show xs (nI i).toNatClampNeg &&& (Int8.ofInt 63).toInt32 = nI t from e]
    have hcs : t = 0 ∨ t = 1 ∨ t = 2 ∨ t = 3 ∨ t = 4 ∨ t = 5 ∨ t = 6 ∨ t = 7 ∨ t = 8 ∨ t = 9 ∨ t = 10 ∨ t = 11 ∨ t = 12 ∨ t = 13 ∨ t = 14 ∨ t = 15 ∨ t = 16 ∨ t = 17 ∨ t = 18 ∨ t = 19 ∨ t = 20 ∨ t = 21 ∨ t = 22 ∨ t = 23 ∨ t = 24 ∨ t = 25 ∨ t = 26 ∨ t = 27 ∨ t = 28 ∨ t = 29 ∨ t = 30 ∨ t = 31 ∨ t = 32 ∨ t = 33 ∨ t = 34 ∨ 35 ≤ t := by omega
    rcases hcs with rfl | rfl | rfl | rfl | rfl | rfl | rfl | rfl | rfl | rfl | rfl | rfl | rfl | rfl | rfl | rfl | rfl | rfl | rfl | rfl | rfl | rfl | rfl | rfl | rfl | rfl | rfl | rfl | rfl | rfl | rfl | rfl | rfl | rfl | rfl | h35
    · exact y_tableIn (tgt := 196) hC dL_law_40 (by decide) (by decide) rfl (by decide) (lc_0 hG hA)
    · exact y_tableIn (tgt := 269) hC dL_law_40 (by decide) (by decide) rfl (by decide) (lc_1 hG hA)
    · exact y_tableIn (tgt := 325) hC dL_law_40 (by decide) (by decide) rfl (by decide) (lc_2 hG hA)
    · exact y_tableIn (tgt := 338) hC dL_law_40 (by decide) (by decide) rfl (by decide) (lc_3 hG hA)
    · exact y_tableIn (tgt := 351) hC dL_law_40 (by decide) (by decide) rfl (by decide) (lc_4 hG hA)
    · exact y_tableIn (tgt := 364) hC dL_law_40 (by decide) (by decide) rfl (by decide) (lc_5 hG hA)
    · exact y_tableIn (tgt := 377) hC dL_law_40 (by decide) (by decide) rfl (by decide) (lc_6 hG hA)
    · exact y_tableIn (tgt := 390) hC dL_law_40 (by decide) (by decide) rfl (by decide) (lc_7 hG hA)
    · exact y_tableIn (tgt := 403) hC dL_law_40 (by decide) (by decide) rfl (by decide) (lc_8 hG hA)
    · exact y_tableIn (tgt := 416) hC dL_law_40 (by decide) (by decide) rfl (by decide) (lc_9 hG hA)
    · exact y_tableIn (tgt := 441) hC dL_law_40 (by decide) (by decide) rfl (by decide) (lc_10 hG hA)
    · exact y_tableIn (tgt := 497) hC dL_law_40 (by decide) (by decide) rfl (by decide) (lc_11 hG hA)
    · exact y_tableIn (tgt := 553) hC dL_law_40 (by decide) (by decide) rfl (by decide) (lc_12 hG hA)
    · exact y_tableIn (tgt := 566) hC dL_law_40 (by decide) (by decide) rfl (by decide) (lc_13 hG hA)
    · exact y_tableIn (tgt := 622) hC dL_law_40 (by decide) (by decide) rfl (by decide) (lc_14 hG hA)
    · exact y_tableIn (tgt := 678) hC dL_law_40 (by decide) (by decide) rfl (by decide) (lc_15 hG hA)
    · exact y_tableIn (tgt := 734) hC dL_law_40 (by decide) (by decide) rfl (by decide) (lc_16 hG hA)
    · exact y_tableIn (tgt := 790) hC dL_law_40 (by decide) (by decide) rfl (by decide) (lc_17 hG hA)
    · exact y_tableIn (tgt := 853) hC dL_law_40 (by decide) (by decide) rfl (by decide) (lc_18 hG hA)
    · exact y_tableIn (tgt := 909) hC dL_law_40 (by decide) (by decide) rfl (by decide) (lc_19 hG hA)
    · exact y_tableIn (tgt := 984) hC dL_law_40 (by decide) (by decide) rfl (by decide) (lc_20 hG hA)
    · exact y_tableIn (tgt := 1040) hC dL_law_40 (by decide) (by decide) rfl (by decide) (lc_21 hG hA)
    · exact y_tableIn (tgt := 1053) hC dL_law_40 (by decide) (by decide) rfl (by decide) (lc_22 hG hA)
    · exact y_tableIn (tgt := 1109) hC dL_law_40 (by decide) (by decide) rfl (by decide) (lc_23 hG hA)
    · exact y_tableIn (tgt := 1172) hC dL_law_40 (by decide) (by decide) rfl (by decide) (lc_24 hG hA)
    · exact y_tableIn (tgt := 1228) hC dL_law_40 (by decide) (by decide) rfl (by decide) (lc_25 hG hA)
    · exact y_tableIn (tgt := 1284) hC dL_law_40 (by decide) (by decide) rfl (by decide) (lc_26 hG hA)
    · exact y_tableIn (tgt := 1364) hC dL_law_40 (by decide) (by decide) rfl (by decide) (lc_27 hG hA)
    · exact y_tableIn (tgt := 1444) hC dL_law_40 (by decide) (by decide) rfl (by decide) (lc_28 hG hA)
    · exact y_tableIn (tgt := 1512) hC dL_law_40 (by decide) (by decide) rfl (by decide) (lc_29 hG hA)
    · exact y_tableIn (tgt := 1568) hC dL_law_40 (by decide) (by decide) rfl (by decide) (lc_30 hG hA)
    · exact y_tableIn (tgt := 1636) hC dL_law_40 (by decide) (by decide) rfl (by decide) (lc_31 hG hA)
    · exact y_tableIn (tgt := 1692) hC dL_law_40 (by decide) (by decide) rfl (by decide) (lc_32 hG hA)
    · exact y_tableIn (tgt := 1748) hC dL_law_40 (by decide) (by decide) rfl (by decide) (lc_33 hG hA)
    · exact y_tableIn (tgt := 1761) hC dL_law_40 (by decide) (by decide) rfl (by decide) (lc_34 hG hA)
    · exact y_tableOut (tgt := 1775) hC dL_law_40 (Or.inr (tb_out t ht h35)) (by decide) (hG.2.2.2.2.2.2.2 _ _ _ _ _ _ hA (by omega) (by omega))
theorem clr0 {j : Nat} (h : j ≠ 0 ∧ j ≠ 1 ∧ j ≠ 8) : clrD (fun _ => 0) j = 0 := by
  unfold clrD
  rw [upd_ne9 h.2.2, upd_ne9 h.2.1, upd_ne9 h.1]
  unfold cpyD
  split <;> rfl
/-- the beginning: an empty setup on both sides -/
theorem LI_0 {c : Nat} {sh : yS} {I : yI} (hS : lS c sh) (hB : yBook sh (c + 15) (c + 4)) (hz : ∀ k, k < 14 → I (c + 15 + k) = fun _ => 0) (h4 : ySet sh (c + 4) (c + 5)) (h5 : yFor sh (c + 5) 1) (hs : I (c + 4) 0 = 1 ∧ I (c + 4) 1 = 1 ∧ I (c + 4) 2 = 0 ∧ I (c + 4) 3 = 0 ∧ I (c + 4) 4 = 100 ∧ I (c + 4) 6 = 0) (hf : I (c + 5) 2 = 1 ∧ I (c + 6) 0 = -1) (hn : I c 2 = -1 ∧ I (c + 1) 1 = 0 ∧ I (c + 3) 1 = 0 ∧ I (c + 3) 2 = 0) (hby : I (c + 2) = fun _ => 0) (m7 : I (c + 141) 7 = -1) (m0 : ∀ j, j ≠ 7 → I (c + 141) j = 0) (mB : I (c + 142) = fun _ => 0) (mD : I (c + 143) = clrD (fun _ => 0)) : LI c (c + 157) sh I 0 0 0 := by
  refine ⟨Nat.le_refl _, hS, ⟨⟨by decide, hn.2.2.1⟩, ⟨hn.2.2.2, by decide, m0 12 (by decide)⟩, ⟨hn.2.1, by decide, m0 2 (by decide)⟩, by rw [hn.1, m7], fun j => ⟨0, by decide, by rw [mB]; rfl, by rw [hby]; rfl⟩⟩, fun t ht => ?_⟩
  obtain rfl : t = 0 := by omega
  rw [if_pos rfl, mD]
  have e0 : clrD (fun _ => 0) 0 = nI 1 := rfl
  have e1 : clrD (fun _ => 0) 1 = nI 1 := rfl
  have e8 : clrD (fun _ => 0) 8 = 100 := rfl
  have g : ∀ k, k < 14 → gR I (c + 15) k = fun _ => 0 := hz
  refine ⟨c + 4, c + 5, 1, 1, I (c + 6), fun k => I (c + 4 + k), 1, 1, 0, 0, 0, [], hB, ⟨h4, h5, fun k _ _ => rfl, hf.1, rfl, Nat.le_refl _, by decide, ?_⟩, ⟨⟨⟨hs.1, e0, by decide⟩, ⟨hs.2.1, e1, by decide⟩, ⟨hs.2.2.2.2.2, clr0 (by decide), by decide⟩, ⟨by rw [g 0 (by decide)]; rfl, clr0 (by decide), by decide⟩, ⟨by rw [g 0 (by decide)]; rfl, clr0 (by decide), by decide⟩⟩, ⟨by rw [g 0 (by decide), clr0 (by decide)], by rw [clr0 (by decide)]; exact hs.2.2.1, by rw [clr0 (by decide)]; exact hs.2.2.2.1, by rw [e8]; exact hs.2.2.2.2.1, by rw [g 0 (by decide), clr0 (by decide)]⟩, fun i hi => ⟨by rw [g 1 (by decide), clr0 (by omega)], by rw [g 2 (by decide), clr0 (by omega)]⟩, fun r hr => absurd hr (by omega), fun p hp => absurd hp (by omega), fun k hk => absurd hk (by omega), Or.inl ⟨clr0 (by decide), rfl, hf.2⟩⟩, ⟨0, by decide, clr0 (by decide), fun k hk => absurd hk (by omega)⟩, ⟨Or.inl ⟨rfl, rfl⟩, by omega, by omega⟩⟩
  exact fval_ind (cd := [-1]) rfl (fun j hj => by
    have h0 : j = 0 := by omega
    rw [h0]; exact hf.2) (by unfold okc; rw [if_neg (by decide)]; exact ⟨by decide, rfl⟩)
/-! THE CLAIM OUT OF ONE WALK OF THE LAW'S BODY. Your part is whole_start (and what it stands on); all else here is the same for every law, but numbers. -/
def R_law : String := "ChargebackProcessorLaw"
def lw_P (b : Addr) (xs : List Int32) (args : Array Value) (s : State) : Prop := args = #[.ref b] ∧ s.IntsAt b xs ∧ xs.length ≤ 3072 ∧ (Jvm.Cond.and given_1 narrow_1).before args s = true
def lw_Q (_ : Array Value) (s : State) (o : Outcome) (t : State) : Prop := o = .returned (some (.int 1)) ∧ Framed s o t [] 601024 7293034
def lw_Z (below : List Frame) (a : Array Value) (s : State) : State → Prop := fun t => ∃ o, t.status = .running ∧ Ended t below o ∧ lw_Q a s o t
/-- the law's own end, with 1 on the stack, nothing written that was there before, its room as the claim has it -/
theorem lw_ret {p : Program} {l : Launch} {e : Env} {s : State} {m : MethodId} {below : List Frame} {meth : Method} {c : Code} {b : Nat} (hx : p.tables.exec = Jvm.exec) (hb : c.code = code) (hr : meth.sig.returnType = ret) (hlocks : meth.locks = false) {pc : Nat} {H : Heap} {ls : Array Slot} (hdg : decode code pc = .ok (.ireturn, 1)) : W p l e room_1 s m #[Value.ref b] below meth c H [] 601024 7293034 (lw_Z below #[Value.ref b] s) (F0 m pc ls [.int 1]) := by
  intro T hT X
  obtain ⟨fs, hret, hrun, hended, hW, hframe⟩ := X.leave (v := some (.int 1)) (hlocks := hlocks) (fun h => by rw [hr] at h; cases h)
  have hmeth' : T.vm.method? m = some meth := X.method'
  refine ⟨T.setFrames fs, ?_, .returned (some (.int 1)), hrun, hended, rfl, ⟨_, rfl⟩, hW, hframe⟩
  jvm_step X.here [X.here.top, hx, hb, hdg, hmeth', hr, ret, narrow_b1]
  (try refine ⟨rfl, ?_⟩); (try refine ⟨rfl, ?_⟩)
  first | (intro acts; rw [hret _ acts rfl rfl rfl]) | rw [hret _ _ rfl rfl rfl]
  exact Steps.refl _
/-- what holds at the law's entry: the machine, the code, the tables' words (any of lw_tbl by 'hts w (by decide +kernel)'), the script of L ints xs at the cell b, what the Statement gives of the start (any of its parts by flat_of_before) -/
def lw_At (p : Program) (s : State) (m : MethodId) (meth : Method) (c : Code) (b L : Nat) (xs : Nat → Int32) : Prop :=
  p.tables.exec = Jvm.exec ∧ c.code = code ∧ meth.sig.returnType = ret ∧ c.maxLocals = 7 ∧ s.vm.findClass R_law = some m.cls ∧ (∀ w ∈ lw_tbl, w.before #[Value.ref b] s = true) ∧ va_X b L xs s s.heap ∧ b < s.heap.size ∧ meth.locks = false ∧ (Jvm.Cond.and given_1 narrow_1).before #[Value.ref b] s = true
set_option maxRecDepth 100000 in
set_option maxHeartbeats 4000000 in
theorem whole_start {p : Program} {e : Env} {s : State} {m : MethodId} {below : List Frame} {meth : Method} {c : Code} (l : Launch) (hflags : l.flags = flags0) {b L : Nat} {xs : Nat → Int32} (hL : L ≤ 3072) (C0 : lw_At p s m meth c b L xs) : W p l e room_1 s m #[Value.ref b] below meth c s.heap [] 0 0 (lw_Z below #[Value.ref b] s) (entryFrame m ([Value.ref b] : List Value).toArray 7) := by
  obtain ⟨hx, hb, hr, hml, hown, hts, hX, hbl, hlocks, hgv⟩ := id C0
  have hst : l.stackTraces = false := by
    unfold Launch.stackTraces
    rw [hflags]
    decide +kernel
  obtain ⟨D, hG, hAO⟩ := in_yG hts hgv
  obtain ⟨z, hz⟩ : ∃ q, q = s.heap.size := ⟨_, rfl⟩
  rw [← hz] at hG
  obtain ⟨X, hXX⟩ : ∃ X : yX, X = (p, l, e, room_1, s, m, #[Value.ref b], below, meth, c) := ⟨_, rfl⟩
  have hC : yC X D z cL_law RL 7 1000 := by
    rw [hXX]
    exact ⟨hx, hb, hml, hown, fun w hw => hts w (yT_t hw), hG, Nat.le_of_ble_eq_true rfl, Nat.le_of_ble_eq_true rfl, hlocks, hst⟩
  have hcells : (yR X).cells = 601024 := by rw [hXX]; rfl
  have hslots : (yR X).slots = 7293034 := by rw [hXX]; rfl
  have fin : ∀ n sh I L k w lv, k ≤ 601024 → w ≤ 7293034 → Y X D z 7 n sh I L k w (lw_Z below #[Value.ref b] s) 1781 lv [] := fun n sh I L k w lv e1 e2 => by
    refine y_iconst (v := 1) hC dL_law_1781 (by decide) ?_
    intro H locs ls h1 h2 h3 h4
    rw [hXX]
    exact va_forget (fun q hq => by rw [← hz]; exact h3 q hq) (W.widen e1 e2 (lw_ret hx hb hr hlocks dL_law_1782))
  have hXs : ys X = s := by rw [hXX]
  have main : Y X D z 7 z (fun _ => (14, 0, fun _ => none)) (fun _ _ => 0) (fun _ _ => 0) 0 0 (lw_Z below #[Value.ref b] s) 0 (ypad 7 (yent [.ref b])) [] := by
    refine y_new hC kX7 cl_L_8 (by rw [hcells]; decide) (by rw [hslots]; exact Nat.le_of_ble_eq_true rfl) dL_law_0 ?_
    refine y_dup hC dL_law_3 rfl ?_
    refine y_callI hC (c_X7_ini2 X.2.1 D z (i := z) (by simp [va_up]) (by simp [va_up])) m_L_86 rfl (by decide) (Nat.le_of_ble_eq_true rfl) ⟨by rw [hcells]; exact Nat.le_of_ble_eq_true rfl, by rw [hslots]; exact Nat.le_of_ble_eq_true rfl⟩ dL_law_4 (fun _ _ _ _ _ h => h.elim) (fun v n1 sh1 I1 L1 hq => ?_)
    obtain ⟨rfl, rfl, hCha, hInp, hHis, hBk, ⟨hSet, hFor⟩, hs, hf, hn, hby, -, -, -⟩ := hq
    refine y_astore_n hC dL_law_7 (by decide) rfl ?_
    refine y_new hC kX8 cl_L_87 (by rw [hcells]; exact Nat.le_of_ble_eq_true rfl) (by rw [hslots]; exact Nat.le_of_ble_eq_true rfl) dL_law_8 ?_
    refine y_dup hC dL_law_11 rfl ?_
    refine y_callIx hC (by rw [hXs]; exact hAO) (c_X8_init X.2.1 D z (q := z + 141) (by simp [va_up]) (by simp [va_up])) m_L_89 rfl (by decide) (Nat.le_of_ble_eq_true rfl) ⟨by rw [hcells]; exact Nat.le_of_ble_eq_true rfl, by rw [hslots]; exact Nat.le_of_ble_eq_true rfl⟩ dL_law_12 (fun _ _ _ _ _ h => h.elim) (fun v n2 sh2 I2 L2 hq => ?_)
    obtain ⟨rfl, rfl, hMod, ⟨m7, m0⟩, mB, mD, k2, j2, -⟩ := hq
    refine y_astore_n hC dL_law_15 (by decide) rfl ?_
    refine y_iconst (v := 1) hC dL_law_16 (by decide) ?_
    refine y_newarr (t := 11) (ti := 2) (N := 1) hC (Or.inr (Or.inr ⟨rfl, rfl, rfl⟩)) (by decide) (by decide) (by decide) ac_long (by rw [hcells]; exact Nat.le_of_ble_eq_true rfl) (by rw [hslots]; exact Nat.le_of_ble_eq_true rfl) dL_law_17 ?_
    refine y_astore_n hC dL_law_19 (by decide) rfl ?_
    refine y_iconst (v := 0) hC dL_law_20 (by decide) ?_
    refine y_istore hC dL_law_21 (by decide) rfl ?_
    obtain ⟨shF, hshF⟩ : ∃ q, q = va_up sh2 (z + 141 + 15) (11, 1, fun _ => none) := ⟨_, rfl⟩
    obtain ⟨IF, hIF⟩ : ∃ q, q = va_up I2 (z + 141 + 15) (fun _ => 0) := ⟨_, rfl⟩
    rw [← hshF, ← hIF]
    have f1 : ∀ a, a < z + 141 → shF a = sh1 a := fun a ha => by rw [hshF, va_up_ne _ _ (by omega), k2 a ha, va_up_ne _ _ (by omega)]
    have f2 : ∀ a, a < z + 141 → IF a = I1 a := fun a ha => by rw [hIF, va_up_ne _ _ (by omega), j2 a ha, va_up_ne _ _ (by omega)]
    have f3 : ∀ k, k < 15 → shF (z + 141 + k) = sh2 (z + 141 + k) := fun k hk => by rw [hshF, va_up_ne _ _ (by omega)]
    have f4 : ∀ k, k < 15 → IF (z + 141 + k) = I2 (z + 141 + k) := fun k hk => by rw [hIF, va_up_ne _ _ (by omega)]
    have fS : lS z shF := by
      refine ⟨?_, hHis.cg (f1 _ (by omega)) (f1 _ (by omega)), ?_, hMod.cg f3, ?_, fun j hj => ⟨z + 4, (hBk j hj).1.cg (fun a a1 a2 => f1 a (by omega))⟩⟩
      · unfold yCha at hCha ⊢; rw [f1 z (by omega)]; exact hCha
      · unfold yInp yArr at hInp ⊢; rw [f1 (z + 1) (by omega), f1 (z + 1 + 1) (by omega)]; exact hInp
      · unfold yArr; rw [hshF, show z + 156 = z + 141 + 15 from rfl, va_up_self]; exact ⟨rfl, rfl⟩
    have hLI : LI z (z + 157) shF IF 0 0 0 := by
      have e141 : IF (z + 141) = I2 (z + 141) := f4 0 (by decide)
      refine LI_0 fS ((hBk 0 (by decide)).1.cg (fun a a1 a2 => f1 a (by omega))) (fun k hk => by rw [f2 _ (by omega)]; exact (hBk 0 (by decide)).2 k hk) ?_ ?_ ?_ ?_ ?_ ?_ ?_ (fun j hj => ?_) ?_ ?_
      · unfold ySet yArr at hSet ⊢
        rw [f1 (z + 4) (by omega), f1 (z + 4 + 4) (by omega), f1 (z + 4 + 5) (by omega), f1 (z + 4 + 6) (by omega), f1 (z + 4 + 7) (by omega), f1 (z + 4 + 8) (by omega), f1 (z + 4 + 9) (by omega)]
        exact hSet
      · unfold yFor yArr at hFor ⊢
        rw [f1 (z + 5) (by omega), f1 (z + 5 + 1) (by omega), f1 (z + 5 + 2) (by omega)]
        exact hFor
      · rw [f2 (z + 4) (by omega)]; exact hs
      · rw [f2 (z + 5) (by omega), f2 (z + 6) (by omega)]; exact hf
      · rw [f2 z (by omega), f2 (z + 1) (by omega), f2 (z + 3) (by omega)]; exact hn
      · rw [f2 (z + 2) (by omega)]; exact hby
      · rw [e141]; exact m7
      · rw [e141]; exact m0 j hj
      · rw [show IF (z + 142) = I2 (z + 142) from f4 1 (by decide)]; exact mB
      · rw [show IF (z + 143) = I2 (z + 143) from f4 2 (by decide)]; exact mD
    exact law_loop (b := b) (Ls := L) (xs := xs) (c := z) hC (by decide) (by rw [hXs]; exact hX) (by rw [hXs]; exact hbl) (by rw [hz]; exact hbl) hL (KC := 601024) (WC := 7293034) (by rw [hcells]; exact Nat.le_refl _) (by rw [hslots]; exact Nat.le_refl _) fin 512 0 _ _ _ _ _ _ (by omega) ⟨0, 0, 0, hLI⟩ (Nat.le_of_ble_eq_true rfl) (Nat.le_of_ble_eq_true rfl) (by decide)
  rw [lg_entry_eq]
  rw [hXX] at main
  exact main s.heap [] _ ⟨by rw [hz]; exact Nat.le_refl _, hz.symm, fun a h => absurd (show 14 < 14 from h) (by decide)⟩ ⟨Nat.le_refl _, fun _ _ => rfl⟩ (fun o h => absurd h List.not_mem_nil) (yLV.entry (av := [.ref b]) (nL := 7) (Nat.le_of_ble_eq_true rfl))
set_option maxHeartbeats 4000000 in
theorem lw_walk (l : Launch) (hflags : l.flags = flags0) (b : Addr) (xs : List Int32) : MetFree l x (headSpec (Jvm.Cond.code x code maxLocals ret :: tables_1) room_1) (lw_P b xs) (fun _ _ _ _ _ => True) lw_Q := by
  refine MetFree.of_bodyS (code := code) (maxLocals := maxLocals) (ret := ret) (by decide) ?_ ?_
  · intro args s m h hn
    obtain ⟨meth, c, h1, h2, h3, h4, h5, h6, -, -⟩ := Cond.code_spec hn (atoms_spec (ws := Jvm.Cond.code x code maxLocals ret :: tables_1) h _ List.mem_cons_self)
    exact ⟨meth, c, h1, h2, h3, h4, h5, h6⟩
  · intro p e s m args below meth c s₁ B hml0 hP _
    obtain ⟨rfl, hx, hbd, hgv⟩ := hP
    obtain ⟨scr, harrAt, hlist, hof, hsmall⟩ := hx
    obtain ⟨hcb, hkn, -, -⟩ := State.arrayAt?_spec harrAt
    have hown : s.vm.findClass R_law = some m.cls := findClass_of_methodNamed B.named
    have hts0 : ∀ c ∈ (Jvm.Cond.code x code maxLocals ret :: tables_1), c.before #[Value.ref b] s = true := atoms_spec (ws := Jvm.Cond.code x code maxLocals ret :: tables_1) B.pre
    have hts : ∀ w ∈ lw_tbl, w.before #[Value.ref b] s = true := k2_hts_sels lw_privs (fun w hw => hts0 w (List.mem_cons_of_mem _ hw)) lw_privs_ok
    have hml : c.maxLocals = 7 := B.maxLocals_eq (hts0 _ List.mem_cons_self)
    have X₀ : Stand p l e room_1 s m #[Value.ref b] below meth c s₁ [] 0 0 := Stand.of_body B
    have hh0 : s₁.heap = s.heap := by rw [B.state]; rfl
    have hsz : scr.slots.size = xs.length := by rw [← Array.length_toList, hlist, List.length_map]
    have hval : ∀ j : Nat, j < xs.length → scr.slots[j]? = some (.int (xs.getD j 0)) := fun j hj => by
      rw [← Array.getElem?_toList, hlist]
      simp [hj]
    have hbl : b < s.heap.size := (Array.getElem?_eq_some_iff.mp hcb).1
    have hX : va_X b xs.length (fun j => xs.getD j 0) s s.heap := ⟨scr, hcb, hof, hkn, hsz, hval⟩
    have K : W p l e room_1 s m #[Value.ref b] below meth c s₁.heap [] 0 0 (lw_Z below #[Value.ref b] s) (entryFrame m ([Value.ref b] : List Value).toArray 7) := by
      rw [hh0]
      exact whole_start l hflags hbd ⟨B.exec, B.bytes, B.returns, hml, hown, hts, hX, hbl, B.notSynchronized, hgv⟩
    obtain ⟨t, a1, o, b1, b2, b3⟩ := K s₁ rfl X₀
    exact ⟨t, o, a1, b1, b2, b3⟩
theorem lw_pre_spec {args : Array Value} {s : State} (h : (Jvm.Cond.and given_1 narrow_1).before args s = true) (hr : rest_1_c.before args s = true) : ∃ (b : Addr) (xs : List Int32), lw_P b xs args s := by
  have hs := flat_of_before _ h
  have hq := flat_of_before _ hr
  have hc : (Cond.count 1).before args s = true := hs _ (by decide +kernel)
  have harr : (Cond.arrayOf (.arg 0) .int).before args s = true := hs _ (by decide +kernel)
  have hle : (Cond.le (.length (.arg 0)) (.int 3072)).before args s = true := hs _ (by decide +kernel)
  have hlen : (Cond.isInt (.length (.arg 0))).before args s = true := hq _ (by decide +kernel)
  have hall : (Cond.all (.arg 0) (.isInt (.elem (.arg 0) (.index 0)))).before args s = true := hq _ (by decide +kernel)
  obtain ⟨b, xs, hb, hx⟩ := State.ints_of_pre rfl harr hlen hall
  have hsm : xs.length < 2 ^ 31 := hx.choose_spec.2.2.2
  have hev : (Term.length (.arg 0)).eval args s none [] s = some (.int xs.length.toInt32) := hx.length_eval hb
  have hv := Cond.le_ints hev (show (Term.int 3072).eval args s none [] s = some (.int 3072) from rfl)
  have hd : xs.length.toInt32 ≤ 3072 := by
    simpa [Cond.before, Cond.holds, hv] using hle
  have hN : xs.length ≤ 3072 := (Int32.ofNat_le_ofNat hsm (by decide)).mp (show Int32.ofNat xs.length ≤ Int32.ofNat 3072 from hd)
  exact ⟨b, xs, Cond.one_arg hc (show args[0]? = some (.ref b) from hb), hx, hN, h⟩
theorem lw_comes (l : Launch) (hflags : l.flags = flags0) : Comes l x (Jvm.Cond.code x code maxLocals ret :: tables_1) room_1 (fun tb e args s => Calls_1 tb e args s ∧ rest_1 tb e args s ∧ Pre_1 tb e args s)
    (fun _ _ args s o t => lw_Q args s o t) := by
  intro p e ha hc hk s m args below hf hfit hheap happ hpre
  obtain ⟨b, xs, hP⟩ := lw_pre_spec hpre.2.2 hpre.2.1
  obtain ⟨k, o, h1, h2, h3, hQ⟩ := lw_walk l hflags b xs p e ha hc hk s m args below hf ((Spec.applies_iff_loose hf).mp happ).1 hP trivial
  exact ⟨k, o, h1, h2, h3, hQ⟩
theorem lw_frame {s t : State} {o : Outcome} {args : Array Value} (h : Framed s o t [] 601024 7293034) :
    Framed s o t (fieldLocs frame_1_writes args s ++ arrayLocs frame_1_arrays args s ++ staticLocs frame_1_statics s) 601024 7293034 := h
theorem lw_limb (L : Cond) (hL : ∀ (args : Array Value) (s t : State), L.after args s (.returned (some (.int 1))) t = true) :
    ArmFor flags0 classFile x code maxLocals ret World_1 tables_1 room_1 Calls_1 rest_1 Pre_1
      (fun tb e a s o t => postC L tb e a s o t ∧ Framed s o t (fieldLocs frame_1_writes a s ++ arrayLocs frame_1_arrays a s ++ staticLocs frame_1_statics s) 601024 7293034) := by
  intro l hflags _ _ p e ha hc hk s m args below hf hfit hheap happ hpre
  obtain ⟨k, o, h1, h2, h3, rfl, hF⟩ := lw_comes l hflags p e ha hc hk s m args below hf hfit hheap happ hpre
  exact ⟨k, _, h1, h2, h3, hL args s _, lw_frame hF⟩
theorem i_vc : Claimed_1_1 ∧ Claimed_1_2 := ⟨lw_limb limb_1_1 (fun args s t => by simp [limb_1_1, Cond.after, Cond.holds, Cond.value]), lw_limb limb_1_2 (fun args s t => Cond.after_iff.mpr (by
  first | (rw [show limb_1_2 = Cond.eq .result (.int 1) from rfl, Cond.eq_ints (x := 1) (y := 1) rfl rfl]; simp; done) | (simp [limb_1_2, Cond.value, Term.eval]; done)))⟩
