/-- the law's locals at its loop's head -/
abbrev lvH (b c i : Nat) : List (Option Value) := [some (.ref b), some (.ref c), some (.ref (c + 141)), some (.ref (c + 156)), some (.int (nI i)), none, none]
theorem lvH_ok {a b c d e f g : Option Value} : ∀ i v, yget [a, b, c, d, e, none, none] i = some v → yget [a, b, c, d, e, f, g] i = some v
  | 0, v, h => h
  | 1, v, h => h
  | 2, v, h => h
  | 3, v, h => h
  | 4, v, h => h
  | 5, v, h => by simp [yget] at h
  | 6, v, h => by simp [yget] at h
  | i + 7, v, h => by simp [yget] at h
theorem lg_cmp_self (x : Int64) : lg_cmp x x = 0 := by simp [lg_cmp]
/-- a case of the law begins: what there is, and what goes on behind it -/
def lawC (X : yX) (D : yD) (z dep b Ls : Nat) (xs : Nat → Int32) (c i k w : Nat) (Q : State → Prop) : Prop := yC X D z cL_law RL 7 dep ∧ 40 ≤ dep ∧ va_X b Ls xs (ys X) (ys X).heap ∧ b < (ys X).heap.size ∧ b < z ∧ (i + 6 ≤ Ls ∧ Ls ≤ 3072) ∧ (k + 30 ≤ (yR X).cells ∧ w + 5000 ≤ (yR X).slots) ∧ ∀ n sh I L k2 w2, lA c n sh I → k2 ≤ k + 30 → w2 ≤ w + 5000 → Y X D z 7 n sh I L k2 w2 Q 1775 (lvH b c i) []
theorem law_in {i Ls : Nat} (h : i + 6 ≤ Ls ∧ Ls ≤ 3072) {j : Int} {p : Nat} (hj : Int32.ofInt j = nI p) (hp : p < 6) : vp_in (nI i + Int32.ofInt j) Ls := by
  rw [hj, nI_add]
  exact vp_in_nI (by omega) (by omega)
set_option maxRecDepth 100000 in
set_option maxHeartbeats 4000000 in
theorem lc_0 {X : yX} {D : yD} {z dep b Ls : Nat} {xs : Nat → Int32} {c i k w : Nat} {Q : State → Prop} (hG : lawC X D z dep b Ls xs c i k w Q) {n : Nat} {sh : yS} {I : yI} {L : yL} (hA : lA c n sh I) : Y X D z 7 n sh I L k w Q 196 (lvH b c i) [] := by
  obtain ⟨hC, hdep, hX, hbl, hbz, hi, ⟨hr1, hr2⟩, kk⟩ := hG
  refine y_aload_n hC dL_law_196 rfl ?_
  refine y_aload_n hC dL_law_197 rfl ?_
  refine y_iload hC dL_law_198 rfl ?_
  refine y_iconst hC dL_law_200 rfl ?_
  refine y_iadd hC dL_law_201 ?_
  refine y_sld hC hX hbl hbz (law_in hi (p := 1) rfl (by decide)) dL_law_202 ?_
  refine y_aload_n hC dL_law_203 rfl ?_
  refine y_iload hC dL_law_204 rfl ?_
  refine y_iconst hC dL_law_206 rfl ?_
  refine y_iadd hC dL_law_207 ?_
  refine y_sld hC hX hbl hbz (law_in hi (p := 2) rfl (by decide)) dL_law_208 ?_
  refine y_aload_n hC dL_law_209 rfl ?_
  refine y_iload hC dL_law_210 rfl ?_
  refine y_iconst hC dL_law_212 rfl ?_
  refine y_iadd hC dL_law_213 ?_
  refine y_sld hC hX hbl hbz (law_in hi (p := 3) rfl (by decide)) dL_law_214 ?_
  refine y_aload_n hC dL_law_215 rfl ?_
  refine y_iload hC dL_law_216 rfl ?_
  refine y_iconst hC dL_law_218 rfl ?_
  refine y_iadd hC dL_law_219 ?_
  refine y_sld hC hX hbl hbz (law_in hi (p := 4) rfl (by decide)) dL_law_220 ?_
  refine y_aload_n hC dL_law_221 rfl ?_
  refine y_iload hC dL_law_222 rfl ?_
  refine y_iconst hC dL_law_224 rfl ?_
  refine y_iadd hC dL_law_225 ?_
  refine y_sld hC hX hbl hbz (law_in hi (p := 5) rfl (by decide)) dL_law_226 ?_
  refine y_callV hC (st_append D z hA X.2.1) m_L_90 rfl (yC_o hA.s.1) (by omega) (Nat.le_of_ble_eq_true rfl) ⟨by omega, by omega⟩ dL_law_227 (fun _ _ _ _ _ w => w.elim) ?_
  intro v n2 sh2 I2 L2 hq
  obtain ⟨r9, rfl, hr3, hr4, hS2, hM⟩ := hq
  obtain ⟨x9, rfl⟩ := hr3 rfl
  show Y _ _ _ _ _ _ _ _ _ _ _ _ _ [.int x9]
  refine y_aload_n hC dL_law_230 rfl ?_
  refine y_aload_n hC dL_law_231 rfl ?_
  refine y_iload hC dL_law_232 rfl ?_
  refine y_iconst hC dL_law_234 rfl ?_
  refine y_iadd hC dL_law_235 ?_
  refine y_sld hC hX hbl hbz (law_in hi (p := 1) rfl (by decide)) dL_law_236 ?_
  refine y_aload_n hC dL_law_237 rfl ?_
  refine y_iload hC dL_law_238 rfl ?_
  refine y_iconst hC dL_law_240 rfl ?_
  refine y_iadd hC dL_law_241 ?_
  refine y_sld hC hX hbl hbz (law_in hi (p := 2) rfl (by decide)) dL_law_242 ?_
  refine y_aload_n hC dL_law_243 rfl ?_
  refine y_iload hC dL_law_244 rfl ?_
  refine y_iconst hC dL_law_246 rfl ?_
  refine y_iadd hC dL_law_247 ?_
  refine y_sld hC hX hbl hbz (law_in hi (p := 3) rfl (by decide)) dL_law_248 ?_
  refine y_aload_n hC dL_law_249 rfl ?_
  refine y_iload hC dL_law_250 rfl ?_
  refine y_iconst hC dL_law_252 rfl ?_
  refine y_iadd hC dL_law_253 ?_
  refine y_sld hC hX hbl hbz (law_in hi (p := 4) rfl (by decide)) dL_law_254 ?_
  refine y_aload_n hC dL_law_255 rfl ?_
  refine y_iload hC dL_law_256 rfl ?_
  refine y_iconst hC dL_law_258 rfl ?_
  refine y_iadd hC dL_law_259 ?_
  refine y_sld hC hX hbl hbz (law_in hi (p := 5) rfl (by decide)) dL_law_260 ?_
  refine y_callV hC (hM X.2.1) m_L_94 rfl (yM_o hS2.2.2.2.1) (by omega) (Nat.le_of_ble_eq_true rfl) ⟨by omega, by omega⟩ dL_law_261 (fun _ _ _ _ _ w => w.elim) ?_
  intro v n3 sh3 I3 L3 hq
  obtain ⟨rfl, hA3⟩ := hq
  show Y _ _ _ _ _ _ _ _ _ _ _ _ _ [.int x9, .int x9]
  refine y_icmp_eq (tgt := 1775) hC dL_law_264 (by decide) (fun _ => ?_) (fun q => absurd rfl q)
  exact kk _ _ _ _ _ _ hA3 (by omega) (by omega)
set_option maxRecDepth 100000 in
set_option maxHeartbeats 4000000 in
theorem lc_1 {X : yX} {D : yD} {z dep b Ls : Nat} {xs : Nat → Int32} {c i k w : Nat} {Q : State → Prop} (hG : lawC X D z dep b Ls xs c i k w Q) {n : Nat} {sh : yS} {I : yI} {L : yL} (hA : lA c n sh I) : Y X D z 7 n sh I L k w Q 269 (lvH b c i) [] := by
  obtain ⟨hC, hdep, hX, hbl, hbz, hi, ⟨hr1, hr2⟩, kk⟩ := hG
  refine y_aload_n hC dL_law_269 rfl ?_
  refine y_aload_n hC dL_law_270 rfl ?_
  refine y_iload hC dL_law_271 rfl ?_
  refine y_iconst hC dL_law_273 rfl ?_
  refine y_iadd hC dL_law_274 ?_
  refine y_sld hC hX hbl hbz (law_in hi (p := 1) rfl (by decide)) dL_law_275 ?_
  refine y_aload_n hC dL_law_276 rfl ?_
  refine y_callSH hC (st_load D z hA X.2.1) w_L_load rfl (by omega) (Nat.le_of_ble_eq_true rfl) ⟨by omega, by omega⟩ dL_law_277 ?_
  intro v n2 sh2 I2 L2 hq
  obtain ⟨k9, rfl, hS2, hM⟩ := hq
  show Y _ _ _ _ _ _ _ _ _ _ _ _ _ [.int k9]
  refine y_istore hC dL_law_280 (by decide) rfl ?_
  refine y_aload_n hC dL_law_282 rfl ?_
  refine y_aload_n hC dL_law_283 rfl ?_
  refine y_iload hC dL_law_284 rfl ?_
  refine y_iconst hC dL_law_286 rfl ?_
  refine y_iadd hC dL_law_287 ?_
  refine y_sld hC hX hbl hbz (law_in hi (p := 1) rfl (by decide)) dL_law_288 ?_
  refine y_callV hC (hM X.2.1) m_L_100 rfl (yM_o hS2.2.2.2.1) (by omega) (Nat.le_of_ble_eq_true rfl) ⟨by omega, by omega⟩ dL_law_289 (fun _ _ _ _ _ w => w.elim) ?_
  intro v n3 sh3 I3 L3 hq
  obtain ⟨b9, rfl, hth, hout, hA3⟩ := hq
  show Y _ _ _ _ _ _ _ _ _ _ _ _ _ [.int b9]
  refine y_istore hC dL_law_292 (by decide) rfl ?_
  refine y_aload_n hC dL_law_294 rfl ?_
  have hT := c_X8_thrown X.2.1 D z (n := n3) (L := L3) (I := I3) (M := gR I3 (c + 141)) hA3.s.2.2.2.1
  rw [sR_get] at hT
  refine y_callV hC hT m_L_101 rfl (yM_o hA3.s.2.2.2.1) (by omega) (Nat.le_of_ble_eq_true rfl) ⟨by omega, by omega⟩ dL_law_295 (fun _ _ _ _ _ w => w.elim) ?_
  intro v n4 sh4 I4 L4 hq
  obtain ⟨rfl, rfl, rfl, rfl, rfl⟩ := hq
  show Y _ _ _ _ _ _ _ _ _ _ _ _ _ [.int (I4 (c + 141) 0)]
  rw [hth]
  refine y_iload hC dL_law_298 rfl ?_
  refine y_icmp_eq (tgt := 305) hC dL_law_300 (by decide) (fun _ => ?_) (fun q => absurd rfl q)
  refine y_iload hC dL_law_305 rfl ?_
  have fin : ∀ k2 w2, k2 ≤ k + 30 → w2 ≤ w + 5000 → Y X D z 7 n4 sh4 I4 L4 k2 w2 Q 322 [some (.ref b), some (.ref c), some (.ref (c + 141)), some (.ref (c + 156)), some (.int (nI i)), some (.int k9), some (.int b9)] [] := fun k2 w2 e1 e2 => y_goto (tgt := 1775) hC dL_law_322 (by decide) (y_lv lvH_ok (kk _ _ _ _ _ _ hA3 e1 e2))
  refine y_if_ne (tgt := 322) hC dL_law_307 (by decide) (fun _ => fin _ _ (by omega) (by omega)) (fun q0 => ?_)
  refine y_aload_n hC dL_law_310 rfl ?_
  refine y_iconst hC dL_law_311 rfl ?_
  refine y_lald hC hA3.s.2.2.2.2.1 (show vp_in (nI 0) 1 from vp_in_nI (by decide) (by decide)) dL_law_312 ?_
  rw [show L4 (c + 156) (Int32.ofInt 0).toNatClampNeg = _ from hout q0]
  refine y_iload hC dL_law_313 rfl ?_
  refine y_i2l hC dL_law_315 ?_
  refine y_lcmp hC dL_law_316 ?_
  refine y_if_eq (tgt := 322) hC dL_law_317 (by decide) (fun _ => fin _ _ (by omega) (by omega)) (fun q => absurd (lg_cmp_self _) q)
set_option maxRecDepth 100000 in
set_option maxHeartbeats 4000000 in
theorem lc_2 {X : yX} {D : yD} {z dep b Ls : Nat} {xs : Nat → Int32} {c i k w : Nat} {Q : State → Prop} (hG : lawC X D z dep b Ls xs c i k w Q) {n : Nat} {sh : yS} {I : yI} {L : yL} (hA : lA c n sh I) : Y X D z 7 n sh I L k w Q 325 (lvH b c i) [] := by
  obtain ⟨hC, hdep, hX, hbl, hbz, hi, ⟨hr1, hr2⟩, kk⟩ := hG
  refine y_aload_n hC dL_law_325 rfl ?_
  refine y_callV hC (st_errorOffset D z hA X.2.1) m_L_105 rfl (yC_o hA.s.1) (by omega) (Nat.le_of_ble_eq_true rfl) ⟨by omega, by omega⟩ dL_law_326 (fun _ _ _ _ _ w => w.elim) ?_
  intro v n2 sh2 I2 L2 hq
  obtain ⟨r9, rfl, hr3, hr4, hS2, hM⟩ := hq
  obtain ⟨x9, rfl⟩ := hr3 rfl
  show Y _ _ _ _ _ _ _ _ _ _ _ _ _ [.int x9]
  refine y_aload_n hC dL_law_329 rfl ?_
  refine y_callV hC (hM X.2.1) m_L_108 rfl (yM_o hS2.2.2.2.1) (by omega) (Nat.le_of_ble_eq_true rfl) ⟨by omega, by omega⟩ dL_law_330 (fun _ _ _ _ _ w => w.elim) ?_
  intro v n3 sh3 I3 L3 hq
  obtain ⟨rfl, hA3⟩ := hq
  show Y _ _ _ _ _ _ _ _ _ _ _ _ _ [.int x9, .int x9]
  refine y_icmp_eq (tgt := 1775) hC dL_law_333 (by decide) (fun _ => ?_) (fun q => absurd rfl q)
  exact kk _ _ _ _ _ _ hA3 (by omega) (by omega)
set_option maxRecDepth 100000 in
set_option maxHeartbeats 4000000 in
theorem lc_3 {X : yX} {D : yD} {z dep b Ls : Nat} {xs : Nat → Int32} {c i k w : Nat} {Q : State → Prop} (hG : lawC X D z dep b Ls xs c i k w Q) {n : Nat} {sh : yS} {I : yI} {L : yL} (hA : lA c n sh I) : Y X D z 7 n sh I L k w Q 338 (lvH b c i) [] := by
  obtain ⟨hC, hdep, hX, hbl, hbz, hi, ⟨hr1, hr2⟩, kk⟩ := hG
  refine y_aload_n hC dL_law_338 rfl ?_
  refine y_callV hC (st_issuerCount D z hA X.2.1) m_L_109 rfl (yC_o hA.s.1) (by omega) (Nat.le_of_ble_eq_true rfl) ⟨by omega, by omega⟩ dL_law_339 (fun _ _ _ _ _ w => w.elim) ?_
  intro v n2 sh2 I2 L2 hq
  obtain ⟨r9, rfl, hr3, hr4, hS2, hM⟩ := hq
  obtain ⟨x9, rfl⟩ := hr3 rfl
  show Y _ _ _ _ _ _ _ _ _ _ _ _ _ [.int x9]
  refine y_aload_n hC dL_law_342 rfl ?_
  refine y_callV hC (hM X.2.1) m_L_112 rfl (yM_o hS2.2.2.2.1) (by omega) (Nat.le_of_ble_eq_true rfl) ⟨by omega, by omega⟩ dL_law_343 (fun _ _ _ _ _ w => w.elim) ?_
  intro v n3 sh3 I3 L3 hq
  obtain ⟨rfl, hA3⟩ := hq
  show Y _ _ _ _ _ _ _ _ _ _ _ _ _ [.int x9, .int x9]
  refine y_icmp_eq (tgt := 1775) hC dL_law_346 (by decide) (fun _ => ?_) (fun q => absurd rfl q)
  exact kk _ _ _ _ _ _ hA3 (by omega) (by omega)
set_option maxRecDepth 100000 in
set_option maxHeartbeats 4000000 in
theorem lc_4 {X : yX} {D : yD} {z dep b Ls : Nat} {xs : Nat → Int32} {c i k w : Nat} {Q : State → Prop} (hG : lawC X D z dep b Ls xs c i k w Q) {n : Nat} {sh : yS} {I : yI} {L : yL} (hA : lA c n sh I) : Y X D z 7 n sh I L k w Q 351 (lvH b c i) [] := by
  obtain ⟨hC, hdep, hX, hbl, hbz, hi, ⟨hr1, hr2⟩, kk⟩ := hG
  refine y_aload_n hC dL_law_351 rfl ?_
  refine y_callV hC (st_merchantCount D z hA X.2.1) m_L_113 rfl (yC_o hA.s.1) (by omega) (Nat.le_of_ble_eq_true rfl) ⟨by omega, by omega⟩ dL_law_352 (fun _ _ _ _ _ w => w.elim) ?_
  intro v n2 sh2 I2 L2 hq
  obtain ⟨r9, rfl, hr3, hr4, hS2, hM⟩ := hq
  obtain ⟨x9, rfl⟩ := hr3 rfl
  show Y _ _ _ _ _ _ _ _ _ _ _ _ _ [.int x9]
  refine y_aload_n hC dL_law_355 rfl ?_
  refine y_callV hC (hM X.2.1) m_L_116 rfl (yM_o hS2.2.2.2.1) (by omega) (Nat.le_of_ble_eq_true rfl) ⟨by omega, by omega⟩ dL_law_356 (fun _ _ _ _ _ w => w.elim) ?_
  intro v n3 sh3 I3 L3 hq
  obtain ⟨rfl, hA3⟩ := hq
  show Y _ _ _ _ _ _ _ _ _ _ _ _ _ [.int x9, .int x9]
  refine y_icmp_eq (tgt := 1775) hC dL_law_359 (by decide) (fun _ => ?_) (fun q => absurd rfl q)
  exact kk _ _ _ _ _ _ hA3 (by omega) (by omega)
set_option maxRecDepth 100000 in
set_option maxHeartbeats 4000000 in
theorem lc_5 {X : yX} {D : yD} {z dep b Ls : Nat} {xs : Nat → Int32} {c i k w : Nat} {Q : State → Prop} (hG : lawC X D z dep b Ls xs c i k w Q) {n : Nat} {sh : yS} {I : yI} {L : yL} (hA : lA c n sh I) : Y X D z 7 n sh I L k w Q 364 (lvH b c i) [] := by
  obtain ⟨hC, hdep, hX, hbl, hbz, hi, ⟨hr1, hr2⟩, kk⟩ := hG
  refine y_aload_n hC dL_law_364 rfl ?_
  refine y_callV hC (st_reasonCount D z hA X.2.1) m_L_117 rfl (yC_o hA.s.1) (by omega) (Nat.le_of_ble_eq_true rfl) ⟨by omega, by omega⟩ dL_law_365 (fun _ _ _ _ _ w => w.elim) ?_
  intro v n2 sh2 I2 L2 hq
  obtain ⟨r9, rfl, hr3, hr4, hS2, hM⟩ := hq
  obtain ⟨x9, rfl⟩ := hr3 rfl
  show Y _ _ _ _ _ _ _ _ _ _ _ _ _ [.int x9]
  refine y_aload_n hC dL_law_368 rfl ?_
  refine y_callV hC (hM X.2.1) m_L_120 rfl (yM_o hS2.2.2.2.1) (by omega) (Nat.le_of_ble_eq_true rfl) ⟨by omega, by omega⟩ dL_law_369 (fun _ _ _ _ _ w => w.elim) ?_
  intro v n3 sh3 I3 L3 hq
  obtain ⟨rfl, hA3⟩ := hq
  show Y _ _ _ _ _ _ _ _ _ _ _ _ _ [.int x9, .int x9]
  refine y_icmp_eq (tgt := 1775) hC dL_law_372 (by decide) (fun _ => ?_) (fun q => absurd rfl q)
  exact kk _ _ _ _ _ _ hA3 (by omega) (by omega)
set_option maxRecDepth 100000 in
set_option maxHeartbeats 4000000 in
theorem lc_6 {X : yX} {D : yD} {z dep b Ls : Nat} {xs : Nat → Int32} {c i k w : Nat} {Q : State → Prop} (hG : lawC X D z dep b Ls xs c i k w Q) {n : Nat} {sh : yS} {I : yI} {L : yL} (hA : lA c n sh I) : Y X D z 7 n sh I L k w Q 377 (lvH b c i) [] := by
  obtain ⟨hC, hdep, hX, hbl, hbz, hi, ⟨hr1, hr2⟩, kk⟩ := hG
  refine y_aload_n hC dL_law_377 rfl ?_
  refine y_callV hC (st_purchaseCount D z hA X.2.1) m_L_121 rfl (yC_o hA.s.1) (by omega) (Nat.le_of_ble_eq_true rfl) ⟨by omega, by omega⟩ dL_law_378 (fun _ _ _ _ _ w => w.elim) ?_
  intro v n2 sh2 I2 L2 hq
  obtain ⟨r9, rfl, hr3, hr4, hS2, hM⟩ := hq
  obtain ⟨x9, rfl⟩ := hr3 rfl
  show Y _ _ _ _ _ _ _ _ _ _ _ _ _ [.int x9]
  refine y_aload_n hC dL_law_381 rfl ?_
  refine y_callV hC (hM X.2.1) m_L_124 rfl (yM_o hS2.2.2.2.1) (by omega) (Nat.le_of_ble_eq_true rfl) ⟨by omega, by omega⟩ dL_law_382 (fun _ _ _ _ _ w => w.elim) ?_
  intro v n3 sh3 I3 L3 hq
  obtain ⟨rfl, hA3⟩ := hq
  show Y _ _ _ _ _ _ _ _ _ _ _ _ _ [.int x9, .int x9]
  refine y_icmp_eq (tgt := 1775) hC dL_law_385 (by decide) (fun _ => ?_) (fun q => absurd rfl q)
  exact kk _ _ _ _ _ _ hA3 (by omega) (by omega)
set_option maxRecDepth 100000 in
set_option maxHeartbeats 4000000 in
theorem lc_7 {X : yX} {D : yD} {z dep b Ls : Nat} {xs : Nat → Int32} {c i k w : Nat} {Q : State → Prop} (hG : lawC X D z dep b Ls xs c i k w Q) {n : Nat} {sh : yS} {I : yI} {L : yL} (hA : lA c n sh I) : Y X D z 7 n sh I L k w Q 390 (lvH b c i) [] := by
  obtain ⟨hC, hdep, hX, hbl, hbz, hi, ⟨hr1, hr2⟩, kk⟩ := hG
  refine y_aload_n hC dL_law_390 rfl ?_
  refine y_callV hC (st_disputeCount D z hA X.2.1) m_L_125 rfl (yC_o hA.s.1) (by omega) (Nat.le_of_ble_eq_true rfl) ⟨by omega, by omega⟩ dL_law_391 (fun _ _ _ _ _ w => w.elim) ?_
  intro v n2 sh2 I2 L2 hq
  obtain ⟨r9, rfl, hr3, hr4, hS2, hM⟩ := hq
  obtain ⟨x9, rfl⟩ := hr3 rfl
  show Y _ _ _ _ _ _ _ _ _ _ _ _ _ [.int x9]
  refine y_aload_n hC dL_law_394 rfl ?_
  refine y_callV hC (hM X.2.1) m_L_128 rfl (yM_o hS2.2.2.2.1) (by omega) (Nat.le_of_ble_eq_true rfl) ⟨by omega, by omega⟩ dL_law_395 (fun _ _ _ _ _ w => w.elim) ?_
  intro v n3 sh3 I3 L3 hq
  obtain ⟨rfl, hA3⟩ := hq
  show Y _ _ _ _ _ _ _ _ _ _ _ _ _ [.int x9, .int x9]
  refine y_icmp_eq (tgt := 1775) hC dL_law_398 (by decide) (fun _ => ?_) (fun q => absurd rfl q)
  exact kk _ _ _ _ _ _ hA3 (by omega) (by omega)
set_option maxRecDepth 100000 in
set_option maxHeartbeats 4000000 in
theorem lc_8 {X : yX} {D : yD} {z dep b Ls : Nat} {xs : Nat → Int32} {c i k w : Nat} {Q : State → Prop} (hG : lawC X D z dep b Ls xs c i k w Q) {n : Nat} {sh : yS} {I : yI} {L : yL} (hA : lA c n sh I) : Y X D z 7 n sh I L k w Q 403 (lvH b c i) [] := by
  obtain ⟨hC, hdep, hX, hbl, hbz, hi, ⟨hr1, hr2⟩, kk⟩ := hG
  refine y_aload_n hC dL_law_403 rfl ?_
  refine y_callV hC (st_today D z hA X.2.1) m_L_129 rfl (yC_o hA.s.1) (by omega) (Nat.le_of_ble_eq_true rfl) ⟨by omega, by omega⟩ dL_law_404 (fun _ _ _ _ _ w => w.elim) ?_
  intro v n2 sh2 I2 L2 hq
  obtain ⟨r9, rfl, hr3, hr4, hS2, hM⟩ := hq
  obtain ⟨x9, rfl⟩ := hr3 rfl
  show Y _ _ _ _ _ _ _ _ _ _ _ _ _ [.int x9]
  refine y_aload_n hC dL_law_407 rfl ?_
  refine y_callV hC (hM X.2.1) m_L_132 rfl (yM_o hS2.2.2.2.1) (by omega) (Nat.le_of_ble_eq_true rfl) ⟨by omega, by omega⟩ dL_law_408 (fun _ _ _ _ _ w => w.elim) ?_
  intro v n3 sh3 I3 L3 hq
  obtain ⟨rfl, hA3⟩ := hq
  show Y _ _ _ _ _ _ _ _ _ _ _ _ _ [.int x9, .int x9]
  refine y_icmp_eq (tgt := 1775) hC dL_law_411 (by decide) (fun _ => ?_) (fun q => absurd rfl q)
  exact kk _ _ _ _ _ _ hA3 (by omega) (by omega)
set_option maxRecDepth 100000 in
set_option maxHeartbeats 4000000 in
theorem lc_9 {X : yX} {D : yD} {z dep b Ls : Nat} {xs : Nat → Int32} {c i k w : Nat} {Q : State → Prop} (hG : lawC X D z dep b Ls xs c i k w Q) {n : Nat} {sh : yS} {I : yI} {L : yL} (hA : lA c n sh I) : Y X D z 7 n sh I L k w Q 416 (lvH b c i) [] := by
  obtain ⟨hC, hdep, hX, hbl, hbz, hi, ⟨hr1, hr2⟩, kk⟩ := hG
  refine y_aload_n hC dL_law_416 rfl ?_
  refine y_aload_n hC dL_law_417 rfl ?_
  refine y_iload hC dL_law_418 rfl ?_
  refine y_iconst hC dL_law_420 rfl ?_
  refine y_iadd hC dL_law_421 ?_
  refine y_sld hC hX hbl hbz (law_in hi (p := 1) rfl (by decide)) dL_law_422 ?_
  refine y_callV hC (st_reasonOf D z hA X.2.1) m_L_133 rfl (yC_o hA.s.1) (by omega) (Nat.le_of_ble_eq_true rfl) ⟨by omega, by omega⟩ dL_law_423 (fun _ _ _ _ _ w => w.elim) ?_
  intro v n2 sh2 I2 L2 hq
  obtain ⟨r9, rfl, hr3, hr4, hS2, hM⟩ := hq
  obtain ⟨x9, rfl⟩ := hr3 rfl
  show Y _ _ _ _ _ _ _ _ _ _ _ _ _ [.int x9]
  refine y_aload_n hC dL_law_426 rfl ?_
  refine y_aload_n hC dL_law_427 rfl ?_
  refine y_iload hC dL_law_428 rfl ?_
  refine y_iconst hC dL_law_430 rfl ?_
  refine y_iadd hC dL_law_431 ?_
  refine y_sld hC hX hbl hbz (law_in hi (p := 1) rfl (by decide)) dL_law_432 ?_
  refine y_callV hC (hM X.2.1) m_L_136 rfl (yM_o hS2.2.2.2.1) (by omega) (Nat.le_of_ble_eq_true rfl) ⟨by omega, by omega⟩ dL_law_433 (fun _ _ _ _ _ w => w.elim) ?_
  intro v n3 sh3 I3 L3 hq
  obtain ⟨rfl, hA3⟩ := hq
  show Y _ _ _ _ _ _ _ _ _ _ _ _ _ [.int x9, .int x9]
  refine y_icmp_eq (tgt := 1775) hC dL_law_436 (by decide) (fun _ => ?_) (fun q => absurd rfl q)
  exact kk _ _ _ _ _ _ hA3 (by omega) (by omega)
set_option maxRecDepth 100000 in
set_option maxHeartbeats 4000000 in
theorem lc_10 {X : yX} {D : yD} {z dep b Ls : Nat} {xs : Nat → Int32} {c i k w : Nat} {Q : State → Prop} (hG : lawC X D z dep b Ls xs c i k w Q) {n : Nat} {sh : yS} {I : yI} {L : yL} (hA : lA c n sh I) : Y X D z 7 n sh I L k w Q 441 (lvH b c i) [] := by
  obtain ⟨hC, hdep, hX, hbl, hbz, hi, ⟨hr1, hr2⟩, kk⟩ := hG
  refine y_aload_n hC dL_law_441 rfl ?_
  refine y_aload_n hC dL_law_442 rfl ?_
  refine y_iload hC dL_law_443 rfl ?_
  refine y_iconst hC dL_law_445 rfl ?_
  refine y_iadd hC dL_law_446 ?_
  refine y_sld hC hX hbl hbz (law_in hi (p := 1) rfl (by decide)) dL_law_447 ?_
  refine y_aload_n hC dL_law_448 rfl ?_
  refine y_callSH hC (st_issuerAccount D z hA X.2.1) w_L_issuerAccount rfl (by omega) (Nat.le_of_ble_eq_true rfl) ⟨by omega, by omega⟩ dL_law_449 ?_
  intro v n2 sh2 I2 L2 hq
  obtain ⟨k9, rfl, hS2, hM⟩ := hq
  show Y _ _ _ _ _ _ _ _ _ _ _ _ _ [.int k9]
  refine y_istore hC dL_law_452 (by decide) rfl ?_
  refine y_aload_n hC dL_law_454 rfl ?_
  refine y_aload_n hC dL_law_455 rfl ?_
  refine y_iload hC dL_law_456 rfl ?_
  refine y_iconst hC dL_law_458 rfl ?_
  refine y_iadd hC dL_law_459 ?_
  refine y_sld hC hX hbl hbz (law_in hi (p := 1) rfl (by decide)) dL_law_460 ?_
  refine y_callV hC (hM X.2.1) m_L_139 rfl (yM_o hS2.2.2.2.1) (by omega) (Nat.le_of_ble_eq_true rfl) ⟨by omega, by omega⟩ dL_law_461 (fun _ _ _ _ _ w => w.elim) ?_
  intro v n3 sh3 I3 L3 hq
  obtain ⟨b9, rfl, hth, hout, hA3⟩ := hq
  show Y _ _ _ _ _ _ _ _ _ _ _ _ _ [.int b9]
  refine y_istore hC dL_law_464 (by decide) rfl ?_
  refine y_aload_n hC dL_law_466 rfl ?_
  have hT := c_X8_thrown X.2.1 D z (n := n3) (L := L3) (I := I3) (M := gR I3 (c + 141)) hA3.s.2.2.2.1
  rw [sR_get] at hT
  refine y_callV hC hT m_L_101 rfl (yM_o hA3.s.2.2.2.1) (by omega) (Nat.le_of_ble_eq_true rfl) ⟨by omega, by omega⟩ dL_law_467 (fun _ _ _ _ _ w => w.elim) ?_
  intro v n4 sh4 I4 L4 hq
  obtain ⟨rfl, rfl, rfl, rfl, rfl⟩ := hq
  show Y _ _ _ _ _ _ _ _ _ _ _ _ _ [.int (I4 (c + 141) 0)]
  rw [hth]
  refine y_iload hC dL_law_470 rfl ?_
  refine y_icmp_eq (tgt := 477) hC dL_law_472 (by decide) (fun _ => ?_) (fun q => absurd rfl q)
  refine y_iload hC dL_law_477 rfl ?_
  have fin : ∀ k2 w2, k2 ≤ k + 30 → w2 ≤ w + 5000 → Y X D z 7 n4 sh4 I4 L4 k2 w2 Q 494 [some (.ref b), some (.ref c), some (.ref (c + 141)), some (.ref (c + 156)), some (.int (nI i)), some (.int k9), some (.int b9)] [] := fun k2 w2 e1 e2 => y_goto (tgt := 1775) hC dL_law_494 (by decide) (y_lv lvH_ok (kk _ _ _ _ _ _ hA3 e1 e2))
  refine y_if_ne (tgt := 494) hC dL_law_479 (by decide) (fun _ => fin _ _ (by omega) (by omega)) (fun q0 => ?_)
  refine y_aload_n hC dL_law_482 rfl ?_
  refine y_iconst hC dL_law_483 rfl ?_
  refine y_lald hC hA3.s.2.2.2.2.1 (show vp_in (nI 0) 1 from vp_in_nI (by decide) (by decide)) dL_law_484 ?_
  rw [show L4 (c + 156) (Int32.ofInt 0).toNatClampNeg = _ from hout q0]
  refine y_iload hC dL_law_485 rfl ?_
  refine y_i2l hC dL_law_487 ?_
  refine y_lcmp hC dL_law_488 ?_
  refine y_if_eq (tgt := 494) hC dL_law_489 (by decide) (fun _ => fin _ _ (by omega) (by omega)) (fun q => absurd (lg_cmp_self _) q)
set_option maxRecDepth 100000 in
set_option maxHeartbeats 4000000 in
theorem lc_11 {X : yX} {D : yD} {z dep b Ls : Nat} {xs : Nat → Int32} {c i k w : Nat} {Q : State → Prop} (hG : lawC X D z dep b Ls xs c i k w Q) {n : Nat} {sh : yS} {I : yI} {L : yL} (hA : lA c n sh I) : Y X D z 7 n sh I L k w Q 497 (lvH b c i) [] := by
  obtain ⟨hC, hdep, hX, hbl, hbz, hi, ⟨hr1, hr2⟩, kk⟩ := hG
  refine y_aload_n hC dL_law_497 rfl ?_
  refine y_aload_n hC dL_law_498 rfl ?_
  refine y_iload hC dL_law_499 rfl ?_
  refine y_iconst hC dL_law_501 rfl ?_
  refine y_iadd hC dL_law_502 ?_
  refine y_sld hC hX hbl hbz (law_in hi (p := 1) rfl (by decide)) dL_law_503 ?_
  refine y_aload_n hC dL_law_504 rfl ?_
  refine y_callSH hC (st_merchantAccount D z hA X.2.1) w_L_merchantAccount rfl (by omega) (Nat.le_of_ble_eq_true rfl) ⟨by omega, by omega⟩ dL_law_505 ?_
  intro v n2 sh2 I2 L2 hq
  obtain ⟨k9, rfl, hS2, hM⟩ := hq
  show Y _ _ _ _ _ _ _ _ _ _ _ _ _ [.int k9]
  refine y_istore hC dL_law_508 (by decide) rfl ?_
  refine y_aload_n hC dL_law_510 rfl ?_
  refine y_aload_n hC dL_law_511 rfl ?_
  refine y_iload hC dL_law_512 rfl ?_
  refine y_iconst hC dL_law_514 rfl ?_
  refine y_iadd hC dL_law_515 ?_
  refine y_sld hC hX hbl hbz (law_in hi (p := 1) rfl (by decide)) dL_law_516 ?_
  refine y_callV hC (hM X.2.1) m_L_142 rfl (yM_o hS2.2.2.2.1) (by omega) (Nat.le_of_ble_eq_true rfl) ⟨by omega, by omega⟩ dL_law_517 (fun _ _ _ _ _ w => w.elim) ?_
  intro v n3 sh3 I3 L3 hq
  obtain ⟨b9, rfl, hth, hout, hA3⟩ := hq
  show Y _ _ _ _ _ _ _ _ _ _ _ _ _ [.int b9]
  refine y_istore hC dL_law_520 (by decide) rfl ?_
  refine y_aload_n hC dL_law_522 rfl ?_
  have hT := c_X8_thrown X.2.1 D z (n := n3) (L := L3) (I := I3) (M := gR I3 (c + 141)) hA3.s.2.2.2.1
  rw [sR_get] at hT
  refine y_callV hC hT m_L_101 rfl (yM_o hA3.s.2.2.2.1) (by omega) (Nat.le_of_ble_eq_true rfl) ⟨by omega, by omega⟩ dL_law_523 (fun _ _ _ _ _ w => w.elim) ?_
  intro v n4 sh4 I4 L4 hq
  obtain ⟨rfl, rfl, rfl, rfl, rfl⟩ := hq
  show Y _ _ _ _ _ _ _ _ _ _ _ _ _ [.int (I4 (c + 141) 0)]
  rw [hth]
  refine y_iload hC dL_law_526 rfl ?_
  refine y_icmp_eq (tgt := 533) hC dL_law_528 (by decide) (fun _ => ?_) (fun q => absurd rfl q)
  refine y_iload hC dL_law_533 rfl ?_
  have fin : ∀ k2 w2, k2 ≤ k + 30 → w2 ≤ w + 5000 → Y X D z 7 n4 sh4 I4 L4 k2 w2 Q 550 [some (.ref b), some (.ref c), some (.ref (c + 141)), some (.ref (c + 156)), some (.int (nI i)), some (.int k9), some (.int b9)] [] := fun k2 w2 e1 e2 => y_goto (tgt := 1775) hC dL_law_550 (by decide) (y_lv lvH_ok (kk _ _ _ _ _ _ hA3 e1 e2))
  refine y_if_ne (tgt := 550) hC dL_law_535 (by decide) (fun _ => fin _ _ (by omega) (by omega)) (fun q0 => ?_)
  refine y_aload_n hC dL_law_538 rfl ?_
  refine y_iconst hC dL_law_539 rfl ?_
  refine y_lald hC hA3.s.2.2.2.2.1 (show vp_in (nI 0) 1 from vp_in_nI (by decide) (by decide)) dL_law_540 ?_
  rw [show L4 (c + 156) (Int32.ofInt 0).toNatClampNeg = _ from hout q0]
  refine y_iload hC dL_law_541 rfl ?_
  refine y_i2l hC dL_law_543 ?_
  refine y_lcmp hC dL_law_544 ?_
  refine y_if_eq (tgt := 550) hC dL_law_545 (by decide) (fun _ => fin _ _ (by omega) (by omega)) (fun q => absurd (lg_cmp_self _) q)
set_option maxRecDepth 100000 in
set_option maxHeartbeats 4000000 in
theorem lc_12 {X : yX} {D : yD} {z dep b Ls : Nat} {xs : Nat → Int32} {c i k w : Nat} {Q : State → Prop} (hG : lawC X D z dep b Ls xs c i k w Q) {n : Nat} {sh : yS} {I : yI} {L : yL} (hA : lA c n sh I) : Y X D z 7 n sh I L k w Q 553 (lvH b c i) [] := by
  obtain ⟨hC, hdep, hX, hbl, hbz, hi, ⟨hr1, hr2⟩, kk⟩ := hG
  refine y_aload_n hC dL_law_553 rfl ?_
  refine y_callV hC (st_networkAccount D z hA X.2.1) m_L_143 rfl (yC_o hA.s.1) (by omega) (Nat.le_of_ble_eq_true rfl) ⟨by omega, by omega⟩ dL_law_554 (fun _ _ _ _ _ w => w.elim) ?_
  intro v n2 sh2 I2 L2 hq
  obtain ⟨r9, rfl, hr3, hr4, hS2, hM⟩ := hq
  obtain ⟨x9, rfl⟩ := hr3 rfl
  show Y _ _ _ _ _ _ _ _ _ _ _ _ _ [.int x9]
  refine y_aload_n hC dL_law_557 rfl ?_
  refine y_callV hC (hM X.2.1) m_L_146 rfl (yM_o hS2.2.2.2.1) (by omega) (Nat.le_of_ble_eq_true rfl) ⟨by omega, by omega⟩ dL_law_558 (fun _ _ _ _ _ w => w.elim) ?_
  intro v n3 sh3 I3 L3 hq
  obtain ⟨rfl, hA3⟩ := hq
  show Y _ _ _ _ _ _ _ _ _ _ _ _ _ [.int x9, .int x9]
  refine y_icmp_eq (tgt := 1775) hC dL_law_561 (by decide) (fun _ => ?_) (fun q => absurd rfl q)
  exact kk _ _ _ _ _ _ hA3 (by omega) (by omega)
set_option maxRecDepth 100000 in
set_option maxHeartbeats 4000000 in
theorem lc_13 {X : yX} {D : yD} {z dep b Ls : Nat} {xs : Nat → Int32} {c i k w : Nat} {Q : State → Prop} (hG : lawC X D z dep b Ls xs c i k w Q) {n : Nat} {sh : yS} {I : yI} {L : yL} (hA : lA c n sh I) : Y X D z 7 n sh I L k w Q 566 (lvH b c i) [] := by
  obtain ⟨hC, hdep, hX, hbl, hbz, hi, ⟨hr1, hr2⟩, kk⟩ := hG
  refine y_aload_n hC dL_law_566 rfl ?_
  refine y_aload_n hC dL_law_567 rfl ?_
  refine y_iload hC dL_law_568 rfl ?_
  refine y_iconst hC dL_law_570 rfl ?_
  refine y_iadd hC dL_law_571 ?_
  refine y_sld hC hX hbl hbz (law_in hi (p := 1) rfl (by decide)) dL_law_572 ?_
  refine y_aload_n hC dL_law_573 rfl ?_
  refine y_callSH hC (st_disputed D z hA X.2.1) w_L_disputed rfl (by omega) (Nat.le_of_ble_eq_true rfl) ⟨by omega, by omega⟩ dL_law_574 ?_
  intro v n2 sh2 I2 L2 hq
  obtain ⟨k9, rfl, hS2, hM⟩ := hq
  show Y _ _ _ _ _ _ _ _ _ _ _ _ _ [.int k9]
  refine y_istore hC dL_law_577 (by decide) rfl ?_
  refine y_aload_n hC dL_law_579 rfl ?_
  refine y_aload_n hC dL_law_580 rfl ?_
  refine y_iload hC dL_law_581 rfl ?_
  refine y_iconst hC dL_law_583 rfl ?_
  refine y_iadd hC dL_law_584 ?_
  refine y_sld hC hX hbl hbz (law_in hi (p := 1) rfl (by decide)) dL_law_585 ?_
  refine y_callV hC (hM X.2.1) m_L_149 rfl (yM_o hS2.2.2.2.1) (by omega) (Nat.le_of_ble_eq_true rfl) ⟨by omega, by omega⟩ dL_law_586 (fun _ _ _ _ _ w => w.elim) ?_
  intro v n3 sh3 I3 L3 hq
  obtain ⟨b9, rfl, hth, hout, hA3⟩ := hq
  show Y _ _ _ _ _ _ _ _ _ _ _ _ _ [.int b9]
  refine y_istore hC dL_law_589 (by decide) rfl ?_
  refine y_aload_n hC dL_law_591 rfl ?_
  have hT := c_X8_thrown X.2.1 D z (n := n3) (L := L3) (I := I3) (M := gR I3 (c + 141)) hA3.s.2.2.2.1
  rw [sR_get] at hT
  refine y_callV hC hT m_L_101 rfl (yM_o hA3.s.2.2.2.1) (by omega) (Nat.le_of_ble_eq_true rfl) ⟨by omega, by omega⟩ dL_law_592 (fun _ _ _ _ _ w => w.elim) ?_
  intro v n4 sh4 I4 L4 hq
  obtain ⟨rfl, rfl, rfl, rfl, rfl⟩ := hq
  show Y _ _ _ _ _ _ _ _ _ _ _ _ _ [.int (I4 (c + 141) 0)]
  rw [hth]
  refine y_iload hC dL_law_595 rfl ?_
  refine y_icmp_eq (tgt := 602) hC dL_law_597 (by decide) (fun _ => ?_) (fun q => absurd rfl q)
  refine y_iload hC dL_law_602 rfl ?_
  have fin : ∀ k2 w2, k2 ≤ k + 30 → w2 ≤ w + 5000 → Y X D z 7 n4 sh4 I4 L4 k2 w2 Q 619 [some (.ref b), some (.ref c), some (.ref (c + 141)), some (.ref (c + 156)), some (.int (nI i)), some (.int k9), some (.int b9)] [] := fun k2 w2 e1 e2 => y_goto (tgt := 1775) hC dL_law_619 (by decide) (y_lv lvH_ok (kk _ _ _ _ _ _ hA3 e1 e2))
  refine y_if_ne (tgt := 619) hC dL_law_604 (by decide) (fun _ => fin _ _ (by omega) (by omega)) (fun q0 => ?_)
  refine y_aload_n hC dL_law_607 rfl ?_
  refine y_iconst hC dL_law_608 rfl ?_
  refine y_lald hC hA3.s.2.2.2.2.1 (show vp_in (nI 0) 1 from vp_in_nI (by decide) (by decide)) dL_law_609 ?_
  rw [show L4 (c + 156) (Int32.ofInt 0).toNatClampNeg = _ from hout q0]
  refine y_iload hC dL_law_610 rfl ?_
  refine y_i2l hC dL_law_612 ?_
  refine y_lcmp hC dL_law_613 ?_
  refine y_if_eq (tgt := 619) hC dL_law_614 (by decide) (fun _ => fin _ _ (by omega) (by omega)) (fun q => absurd (lg_cmp_self _) q)
set_option maxRecDepth 100000 in
set_option maxHeartbeats 4000000 in
theorem lc_14 {X : yX} {D : yD} {z dep b Ls : Nat} {xs : Nat → Int32} {c i k w : Nat} {Q : State → Prop} (hG : lawC X D z dep b Ls xs c i k w Q) {n : Nat} {sh : yS} {I : yI} {L : yL} (hA : lA c n sh I) : Y X D z 7 n sh I L k w Q 622 (lvH b c i) [] := by
  obtain ⟨hC, hdep, hX, hbl, hbz, hi, ⟨hr1, hr2⟩, kk⟩ := hG
  refine y_aload_n hC dL_law_622 rfl ?_
  refine y_aload_n hC dL_law_623 rfl ?_
  refine y_iload hC dL_law_624 rfl ?_
  refine y_iconst hC dL_law_626 rfl ?_
  refine y_iadd hC dL_law_627 ?_
  refine y_sld hC hX hbl hbz (law_in hi (p := 1) rfl (by decide)) dL_law_628 ?_
  refine y_aload_n hC dL_law_629 rfl ?_
  refine y_callSH hC (st_state D z hA X.2.1) w_L_state rfl (by omega) (Nat.le_of_ble_eq_true rfl) ⟨by omega, by omega⟩ dL_law_630 ?_
  intro v n2 sh2 I2 L2 hq
  obtain ⟨k9, rfl, hS2, hM⟩ := hq
  show Y _ _ _ _ _ _ _ _ _ _ _ _ _ [.int k9]
  refine y_istore hC dL_law_633 (by decide) rfl ?_
  refine y_aload_n hC dL_law_635 rfl ?_
  refine y_aload_n hC dL_law_636 rfl ?_
  refine y_iload hC dL_law_637 rfl ?_
  refine y_iconst hC dL_law_639 rfl ?_
  refine y_iadd hC dL_law_640 ?_
  refine y_sld hC hX hbl hbz (law_in hi (p := 1) rfl (by decide)) dL_law_641 ?_
  refine y_callV hC (hM X.2.1) m_L_152 rfl (yM_o hS2.2.2.2.1) (by omega) (Nat.le_of_ble_eq_true rfl) ⟨by omega, by omega⟩ dL_law_642 (fun _ _ _ _ _ w => w.elim) ?_
  intro v n3 sh3 I3 L3 hq
  obtain ⟨b9, rfl, hth, hout, hA3⟩ := hq
  show Y _ _ _ _ _ _ _ _ _ _ _ _ _ [.int b9]
  refine y_istore hC dL_law_645 (by decide) rfl ?_
  refine y_aload_n hC dL_law_647 rfl ?_
  have hT := c_X8_thrown X.2.1 D z (n := n3) (L := L3) (I := I3) (M := gR I3 (c + 141)) hA3.s.2.2.2.1
  rw [sR_get] at hT
  refine y_callV hC hT m_L_101 rfl (yM_o hA3.s.2.2.2.1) (by omega) (Nat.le_of_ble_eq_true rfl) ⟨by omega, by omega⟩ dL_law_648 (fun _ _ _ _ _ w => w.elim) ?_
  intro v n4 sh4 I4 L4 hq
  obtain ⟨rfl, rfl, rfl, rfl, rfl⟩ := hq
  show Y _ _ _ _ _ _ _ _ _ _ _ _ _ [.int (I4 (c + 141) 0)]
  rw [hth]
  refine y_iload hC dL_law_651 rfl ?_
  refine y_icmp_eq (tgt := 658) hC dL_law_653 (by decide) (fun _ => ?_) (fun q => absurd rfl q)
  refine y_iload hC dL_law_658 rfl ?_
  have fin : ∀ k2 w2, k2 ≤ k + 30 → w2 ≤ w + 5000 → Y X D z 7 n4 sh4 I4 L4 k2 w2 Q 675 [some (.ref b), some (.ref c), some (.ref (c + 141)), some (.ref (c + 156)), some (.int (nI i)), some (.int k9), some (.int b9)] [] := fun k2 w2 e1 e2 => y_goto (tgt := 1775) hC dL_law_675 (by decide) (y_lv lvH_ok (kk _ _ _ _ _ _ hA3 e1 e2))
  refine y_if_ne (tgt := 675) hC dL_law_660 (by decide) (fun _ => fin _ _ (by omega) (by omega)) (fun q0 => ?_)
  refine y_aload_n hC dL_law_663 rfl ?_
  refine y_iconst hC dL_law_664 rfl ?_
  refine y_lald hC hA3.s.2.2.2.2.1 (show vp_in (nI 0) 1 from vp_in_nI (by decide) (by decide)) dL_law_665 ?_
  rw [show L4 (c + 156) (Int32.ofInt 0).toNatClampNeg = _ from hout q0]
  refine y_iload hC dL_law_666 rfl ?_
  refine y_i2l hC dL_law_668 ?_
  refine y_lcmp hC dL_law_669 ?_
  refine y_if_eq (tgt := 675) hC dL_law_670 (by decide) (fun _ => fin _ _ (by omega) (by omega)) (fun q => absurd (lg_cmp_self _) q)
set_option maxRecDepth 100000 in
set_option maxHeartbeats 4000000 in
theorem lc_15 {X : yX} {D : yD} {z dep b Ls : Nat} {xs : Nat → Int32} {c i k w : Nat} {Q : State → Prop} (hG : lawC X D z dep b Ls xs c i k w Q) {n : Nat} {sh : yS} {I : yI} {L : yL} (hA : lA c n sh I) : Y X D z 7 n sh I L k w Q 678 (lvH b c i) [] := by
  obtain ⟨hC, hdep, hX, hbl, hbz, hi, ⟨hr1, hr2⟩, kk⟩ := hG
  refine y_aload_n hC dL_law_678 rfl ?_
  refine y_aload_n hC dL_law_679 rfl ?_
  refine y_iload hC dL_law_680 rfl ?_
  refine y_iconst hC dL_law_682 rfl ?_
  refine y_iadd hC dL_law_683 ?_
  refine y_sld hC hX hbl hbz (law_in hi (p := 1) rfl (by decide)) dL_law_684 ?_
  refine y_aload_n hC dL_law_685 rfl ?_
  refine y_callSH hC (st_deadline D z hA X.2.1) w_L_deadline rfl (by omega) (Nat.le_of_ble_eq_true rfl) ⟨by omega, by omega⟩ dL_law_686 ?_
  intro v n2 sh2 I2 L2 hq
  obtain ⟨k9, rfl, hS2, hM⟩ := hq
  show Y _ _ _ _ _ _ _ _ _ _ _ _ _ [.int k9]
  refine y_istore hC dL_law_689 (by decide) rfl ?_
  refine y_aload_n hC dL_law_691 rfl ?_
  refine y_aload_n hC dL_law_692 rfl ?_
  refine y_iload hC dL_law_693 rfl ?_
  refine y_iconst hC dL_law_695 rfl ?_
  refine y_iadd hC dL_law_696 ?_
  refine y_sld hC hX hbl hbz (law_in hi (p := 1) rfl (by decide)) dL_law_697 ?_
  refine y_callV hC (hM X.2.1) m_L_155 rfl (yM_o hS2.2.2.2.1) (by omega) (Nat.le_of_ble_eq_true rfl) ⟨by omega, by omega⟩ dL_law_698 (fun _ _ _ _ _ w => w.elim) ?_
  intro v n3 sh3 I3 L3 hq
  obtain ⟨b9, rfl, hth, hout, hA3⟩ := hq
  show Y _ _ _ _ _ _ _ _ _ _ _ _ _ [.int b9]
  refine y_istore hC dL_law_701 (by decide) rfl ?_
  refine y_aload_n hC dL_law_703 rfl ?_
  have hT := c_X8_thrown X.2.1 D z (n := n3) (L := L3) (I := I3) (M := gR I3 (c + 141)) hA3.s.2.2.2.1
  rw [sR_get] at hT
  refine y_callV hC hT m_L_101 rfl (yM_o hA3.s.2.2.2.1) (by omega) (Nat.le_of_ble_eq_true rfl) ⟨by omega, by omega⟩ dL_law_704 (fun _ _ _ _ _ w => w.elim) ?_
  intro v n4 sh4 I4 L4 hq
  obtain ⟨rfl, rfl, rfl, rfl, rfl⟩ := hq
  show Y _ _ _ _ _ _ _ _ _ _ _ _ _ [.int (I4 (c + 141) 0)]
  rw [hth]
  refine y_iload hC dL_law_707 rfl ?_
  refine y_icmp_eq (tgt := 714) hC dL_law_709 (by decide) (fun _ => ?_) (fun q => absurd rfl q)
  refine y_iload hC dL_law_714 rfl ?_
  have fin : ∀ k2 w2, k2 ≤ k + 30 → w2 ≤ w + 5000 → Y X D z 7 n4 sh4 I4 L4 k2 w2 Q 731 [some (.ref b), some (.ref c), some (.ref (c + 141)), some (.ref (c + 156)), some (.int (nI i)), some (.int k9), some (.int b9)] [] := fun k2 w2 e1 e2 => y_goto (tgt := 1775) hC dL_law_731 (by decide) (y_lv lvH_ok (kk _ _ _ _ _ _ hA3 e1 e2))
  refine y_if_ne (tgt := 731) hC dL_law_716 (by decide) (fun _ => fin _ _ (by omega) (by omega)) (fun q0 => ?_)
  refine y_aload_n hC dL_law_719 rfl ?_
  refine y_iconst hC dL_law_720 rfl ?_
  refine y_lald hC hA3.s.2.2.2.2.1 (show vp_in (nI 0) 1 from vp_in_nI (by decide) (by decide)) dL_law_721 ?_
  rw [show L4 (c + 156) (Int32.ofInt 0).toNatClampNeg = _ from hout q0]
  refine y_iload hC dL_law_722 rfl ?_
  refine y_i2l hC dL_law_724 ?_
  refine y_lcmp hC dL_law_725 ?_
  refine y_if_eq (tgt := 731) hC dL_law_726 (by decide) (fun _ => fin _ _ (by omega) (by omega)) (fun q => absurd (lg_cmp_self _) q)
set_option maxRecDepth 100000 in
set_option maxHeartbeats 4000000 in
theorem lc_16 {X : yX} {D : yD} {z dep b Ls : Nat} {xs : Nat → Int32} {c i k w : Nat} {Q : State → Prop} (hG : lawC X D z dep b Ls xs c i k w Q) {n : Nat} {sh : yS} {I : yI} {L : yL} (hA : lA c n sh I) : Y X D z 7 n sh I L k w Q 734 (lvH b c i) [] := by
  obtain ⟨hC, hdep, hX, hbl, hbz, hi, ⟨hr1, hr2⟩, kk⟩ := hG
  refine y_aload_n hC dL_law_734 rfl ?_
  refine y_aload_n hC dL_law_735 rfl ?_
  refine y_iload hC dL_law_736 rfl ?_
  refine y_iconst hC dL_law_738 rfl ?_
  refine y_iadd hC dL_law_739 ?_
  refine y_sld hC hX hbl hbz (law_in hi (p := 1) rfl (by decide)) dL_law_740 ?_
  refine y_aload_n hC dL_law_741 rfl ?_
  refine y_callSH hC (st_evidence D z hA X.2.1) w_L_evidence rfl (by omega) (Nat.le_of_ble_eq_true rfl) ⟨by omega, by omega⟩ dL_law_742 ?_
  intro v n2 sh2 I2 L2 hq
  obtain ⟨k9, rfl, hS2, hM⟩ := hq
  show Y _ _ _ _ _ _ _ _ _ _ _ _ _ [.int k9]
  refine y_istore hC dL_law_745 (by decide) rfl ?_
  refine y_aload_n hC dL_law_747 rfl ?_
  refine y_aload_n hC dL_law_748 rfl ?_
  refine y_iload hC dL_law_749 rfl ?_
  refine y_iconst hC dL_law_751 rfl ?_
  refine y_iadd hC dL_law_752 ?_
  refine y_sld hC hX hbl hbz (law_in hi (p := 1) rfl (by decide)) dL_law_753 ?_
  refine y_callV hC (hM X.2.1) m_L_158 rfl (yM_o hS2.2.2.2.1) (by omega) (Nat.le_of_ble_eq_true rfl) ⟨by omega, by omega⟩ dL_law_754 (fun _ _ _ _ _ w => w.elim) ?_
  intro v n3 sh3 I3 L3 hq
  obtain ⟨b9, rfl, hth, hout, hA3⟩ := hq
  show Y _ _ _ _ _ _ _ _ _ _ _ _ _ [.int b9]
  refine y_istore hC dL_law_757 (by decide) rfl ?_
  refine y_aload_n hC dL_law_759 rfl ?_
  have hT := c_X8_thrown X.2.1 D z (n := n3) (L := L3) (I := I3) (M := gR I3 (c + 141)) hA3.s.2.2.2.1
  rw [sR_get] at hT
  refine y_callV hC hT m_L_101 rfl (yM_o hA3.s.2.2.2.1) (by omega) (Nat.le_of_ble_eq_true rfl) ⟨by omega, by omega⟩ dL_law_760 (fun _ _ _ _ _ w => w.elim) ?_
  intro v n4 sh4 I4 L4 hq
  obtain ⟨rfl, rfl, rfl, rfl, rfl⟩ := hq
  show Y _ _ _ _ _ _ _ _ _ _ _ _ _ [.int (I4 (c + 141) 0)]
  rw [hth]
  refine y_iload hC dL_law_763 rfl ?_
  refine y_icmp_eq (tgt := 770) hC dL_law_765 (by decide) (fun _ => ?_) (fun q => absurd rfl q)
  refine y_iload hC dL_law_770 rfl ?_
  have fin : ∀ k2 w2, k2 ≤ k + 30 → w2 ≤ w + 5000 → Y X D z 7 n4 sh4 I4 L4 k2 w2 Q 787 [some (.ref b), some (.ref c), some (.ref (c + 141)), some (.ref (c + 156)), some (.int (nI i)), some (.int k9), some (.int b9)] [] := fun k2 w2 e1 e2 => y_goto (tgt := 1775) hC dL_law_787 (by decide) (y_lv lvH_ok (kk _ _ _ _ _ _ hA3 e1 e2))
  refine y_if_ne (tgt := 787) hC dL_law_772 (by decide) (fun _ => fin _ _ (by omega) (by omega)) (fun q0 => ?_)
  refine y_aload_n hC dL_law_775 rfl ?_
  refine y_iconst hC dL_law_776 rfl ?_
  refine y_lald hC hA3.s.2.2.2.2.1 (show vp_in (nI 0) 1 from vp_in_nI (by decide) (by decide)) dL_law_777 ?_
  rw [show L4 (c + 156) (Int32.ofInt 0).toNatClampNeg = _ from hout q0]
  refine y_iload hC dL_law_778 rfl ?_
  refine y_i2l hC dL_law_780 ?_
  refine y_lcmp hC dL_law_781 ?_
  refine y_if_eq (tgt := 787) hC dL_law_782 (by decide) (fun _ => fin _ _ (by omega) (by omega)) (fun q => absurd (lg_cmp_self _) q)
set_option maxRecDepth 100000 in
set_option maxHeartbeats 4000000 in
theorem lc_17 {X : yX} {D : yD} {z dep b Ls : Nat} {xs : Nat → Int32} {c i k w : Nat} {Q : State → Prop} (hG : lawC X D z dep b Ls xs c i k w Q) {n : Nat} {sh : yS} {I : yI} {L : yL} (hA : lA c n sh I) : Y X D z 7 n sh I L k w Q 790 (lvH b c i) [] := by
  obtain ⟨hC, hdep, hX, hbl, hbz, hi, ⟨hr1, hr2⟩, kk⟩ := hG
  refine y_aload_n hC dL_law_790 rfl ?_
  refine y_aload_n hC dL_law_791 rfl ?_
  refine y_iload hC dL_law_792 rfl ?_
  refine y_iconst hC dL_law_794 rfl ?_
  refine y_iadd hC dL_law_795 ?_
  refine y_sld hC hX hbl hbz (law_in hi (p := 1) rfl (by decide)) dL_law_796 ?_
  refine y_aload_n hC dL_law_797 rfl ?_
  refine y_callSH hC (st_isWithMerchant D z hA X.2.1) w_L_isWithMerchant rfl (by omega) (Nat.le_of_ble_eq_true rfl) ⟨by omega, by omega⟩ dL_law_798 ?_
  intro v n2 sh2 I2 L2 hq
  obtain ⟨k9, rfl, hS2, hM⟩ := hq
  show Y _ _ _ _ _ _ _ _ _ _ _ _ _ [.int k9]
  refine y_istore hC dL_law_801 (by decide) rfl ?_
  refine y_aload_n hC dL_law_803 rfl ?_
  refine y_aload_n hC dL_law_804 rfl ?_
  refine y_iload hC dL_law_805 rfl ?_
  refine y_iconst hC dL_law_807 rfl ?_
  refine y_iadd hC dL_law_808 ?_
  refine y_sld hC hX hbl hbz (law_in hi (p := 1) rfl (by decide)) dL_law_809 ?_
  refine y_callV hC (hM X.2.1) m_L_161 rfl (yM_o hS2.2.2.2.1) (by omega) (Nat.le_of_ble_eq_true rfl) ⟨by omega, by omega⟩ dL_law_810 (fun _ _ _ _ _ w => w.elim) ?_
  intro v n3 sh3 I3 L3 hq
  obtain ⟨b9, rfl, hth, hout, hA3⟩ := hq
  show Y _ _ _ _ _ _ _ _ _ _ _ _ _ [.int b9]
  refine y_istore hC dL_law_813 (by decide) rfl ?_
  refine y_aload_n hC dL_law_815 rfl ?_
  have hT := c_X8_thrown X.2.1 D z (n := n3) (L := L3) (I := I3) (M := gR I3 (c + 141)) hA3.s.2.2.2.1
  rw [sR_get] at hT
  refine y_callV hC hT m_L_101 rfl (yM_o hA3.s.2.2.2.1) (by omega) (Nat.le_of_ble_eq_true rfl) ⟨by omega, by omega⟩ dL_law_816 (fun _ _ _ _ _ w => w.elim) ?_
  intro v n4 sh4 I4 L4 hq
  obtain ⟨rfl, rfl, rfl, rfl, rfl⟩ := hq
  show Y _ _ _ _ _ _ _ _ _ _ _ _ _ [.int (I4 (c + 141) 0)]
  rw [hth]
  refine y_iload hC dL_law_819 rfl ?_
  refine y_icmp_eq (tgt := 826) hC dL_law_821 (by decide) (fun _ => ?_) (fun q => absurd rfl q)
  refine y_iload hC dL_law_826 rfl ?_
  have fin : ∀ k2 w2, k2 ≤ k + 30 → w2 ≤ w + 5000 → Y X D z 7 n4 sh4 I4 L4 k2 w2 Q 850 [some (.ref b), some (.ref c), some (.ref (c + 141)), some (.ref (c + 156)), some (.int (nI i)), some (.int k9), some (.int b9)] [] := fun k2 w2 e1 e2 => y_goto (tgt := 1775) hC dL_law_850 (by decide) (y_lv lvH_ok (kk _ _ _ _ _ _ hA3 e1 e2))
  refine y_if_ne (tgt := 850) hC dL_law_828 (by decide) (fun _ => fin _ _ (by omega) (by omega)) (fun q0 => ?_)
  refine y_aload_n hC dL_law_831 rfl ?_
  refine y_iconst hC dL_law_832 rfl ?_
  refine y_lald hC hA3.s.2.2.2.2.1 (show vp_in (nI 0) 1 from vp_in_nI (by decide) (by decide)) dL_law_833 ?_
  rw [show L4 (c + 156) (Int32.ofInt 0).toNatClampNeg = _ from hout q0]
  refine y_iload hC dL_law_834 rfl ?_
  refine y_if_eq (tgt := 843) hC dL_law_836 (by decide) (fun q1 => ?_) (fun q1 => ?_)
  · refine y_lconst hC dL_law_843 rfl ?_
    refine y_lcmp hC dL_law_844 ?_
    refine y_if_eq (tgt := 850) hC dL_law_845 (by decide) (fun _ => fin _ _ (by omega) (by omega)) (fun q => absurd (by rw [cvB, if_pos q1]; exact lg_cmp_self _) q)
  · refine y_lconst hC dL_law_839 rfl ?_
    refine y_goto (tgt := 844) hC dL_law_840 (by decide) ?_
    refine y_lcmp hC dL_law_844 ?_
    refine y_if_eq (tgt := 850) hC dL_law_845 (by decide) (fun _ => fin _ _ (by omega) (by omega)) (fun q => absurd (by rw [cvB, if_neg q1]; exact lg_cmp_self _) q)
set_option maxRecDepth 100000 in
set_option maxHeartbeats 4000000 in
theorem lc_18 {X : yX} {D : yD} {z dep b Ls : Nat} {xs : Nat → Int32} {c i k w : Nat} {Q : State → Prop} (hG : lawC X D z dep b Ls xs c i k w Q) {n : Nat} {sh : yS} {I : yI} {L : yL} (hA : lA c n sh I) : Y X D z 7 n sh I L k w Q 853 (lvH b c i) [] := by
  obtain ⟨hC, hdep, hX, hbl, hbz, hi, ⟨hr1, hr2⟩, kk⟩ := hG
  refine y_aload_n hC dL_law_853 rfl ?_
  refine y_aload_n hC dL_law_854 rfl ?_
  refine y_iload hC dL_law_855 rfl ?_
  refine y_iconst hC dL_law_857 rfl ?_
  refine y_iadd hC dL_law_858 ?_
  refine y_sld hC hX hbl hbz (law_in hi (p := 1) rfl (by decide)) dL_law_859 ?_
  refine y_aload_n hC dL_law_860 rfl ?_
  refine y_callSH hC (st_score D z hA X.2.1) w_L_score rfl (by omega) (Nat.le_of_ble_eq_true rfl) ⟨by omega, by omega⟩ dL_law_861 ?_
  intro v n2 sh2 I2 L2 hq
  obtain ⟨k9, rfl, hS2, hM⟩ := hq
  show Y _ _ _ _ _ _ _ _ _ _ _ _ _ [.int k9]
  refine y_istore hC dL_law_864 (by decide) rfl ?_
  refine y_aload_n hC dL_law_866 rfl ?_
  refine y_aload_n hC dL_law_867 rfl ?_
  refine y_iload hC dL_law_868 rfl ?_
  refine y_iconst hC dL_law_870 rfl ?_
  refine y_iadd hC dL_law_871 ?_
  refine y_sld hC hX hbl hbz (law_in hi (p := 1) rfl (by decide)) dL_law_872 ?_
  refine y_callV hC (hM X.2.1) m_L_164 rfl (yM_o hS2.2.2.2.1) (by omega) (Nat.le_of_ble_eq_true rfl) ⟨by omega, by omega⟩ dL_law_873 (fun _ _ _ _ _ w => w.elim) ?_
  intro v n3 sh3 I3 L3 hq
  obtain ⟨b9, rfl, hth, hout, hA3⟩ := hq
  show Y _ _ _ _ _ _ _ _ _ _ _ _ _ [.int b9]
  refine y_istore hC dL_law_876 (by decide) rfl ?_
  refine y_aload_n hC dL_law_878 rfl ?_
  have hT := c_X8_thrown X.2.1 D z (n := n3) (L := L3) (I := I3) (M := gR I3 (c + 141)) hA3.s.2.2.2.1
  rw [sR_get] at hT
  refine y_callV hC hT m_L_101 rfl (yM_o hA3.s.2.2.2.1) (by omega) (Nat.le_of_ble_eq_true rfl) ⟨by omega, by omega⟩ dL_law_879 (fun _ _ _ _ _ w => w.elim) ?_
  intro v n4 sh4 I4 L4 hq
  obtain ⟨rfl, rfl, rfl, rfl, rfl⟩ := hq
  show Y _ _ _ _ _ _ _ _ _ _ _ _ _ [.int (I4 (c + 141) 0)]
  rw [hth]
  refine y_iload hC dL_law_882 rfl ?_
  refine y_icmp_eq (tgt := 889) hC dL_law_884 (by decide) (fun _ => ?_) (fun q => absurd rfl q)
  refine y_iload hC dL_law_889 rfl ?_
  have fin : ∀ k2 w2, k2 ≤ k + 30 → w2 ≤ w + 5000 → Y X D z 7 n4 sh4 I4 L4 k2 w2 Q 906 [some (.ref b), some (.ref c), some (.ref (c + 141)), some (.ref (c + 156)), some (.int (nI i)), some (.int k9), some (.int b9)] [] := fun k2 w2 e1 e2 => y_goto (tgt := 1775) hC dL_law_906 (by decide) (y_lv lvH_ok (kk _ _ _ _ _ _ hA3 e1 e2))
  refine y_if_ne (tgt := 906) hC dL_law_891 (by decide) (fun _ => fin _ _ (by omega) (by omega)) (fun q0 => ?_)
  refine y_aload_n hC dL_law_894 rfl ?_
  refine y_iconst hC dL_law_895 rfl ?_
  refine y_lald hC hA3.s.2.2.2.2.1 (show vp_in (nI 0) 1 from vp_in_nI (by decide) (by decide)) dL_law_896 ?_
  rw [show L4 (c + 156) (Int32.ofInt 0).toNatClampNeg = _ from hout q0]
  refine y_iload hC dL_law_897 rfl ?_
  refine y_i2l hC dL_law_899 ?_
  refine y_lcmp hC dL_law_900 ?_
  refine y_if_eq (tgt := 906) hC dL_law_901 (by decide) (fun _ => fin _ _ (by omega) (by omega)) (fun q => absurd (lg_cmp_self _) q)
set_option maxRecDepth 100000 in
set_option maxHeartbeats 4000000 in
theorem lc_19 {X : yX} {D : yD} {z dep b Ls : Nat} {xs : Nat → Int32} {c i k w : Nat} {Q : State → Prop} (hG : lawC X D z dep b Ls xs c i k w Q) {n : Nat} {sh : yS} {I : yI} {L : yL} (hA : lA c n sh I) : Y X D z 7 n sh I L k w Q 909 (lvH b c i) [] := by
  obtain ⟨hC, hdep, hX, hbl, hbz, hi, ⟨hr1, hr2⟩, kk⟩ := hG
  refine y_aload_n hC dL_law_909 rfl ?_
  refine y_aload_n hC dL_law_910 rfl ?_
  refine y_iload hC dL_law_911 rfl ?_
  refine y_iconst hC dL_law_913 rfl ?_
  refine y_iadd hC dL_law_914 ?_
  refine y_sld hC hX hbl hbz (law_in hi (p := 1) rfl (by decide)) dL_law_915 ?_
  refine y_aload_n hC dL_law_916 rfl ?_
  refine y_iload hC dL_law_917 rfl ?_
  refine y_iconst hC dL_law_919 rfl ?_
  refine y_iadd hC dL_law_920 ?_
  refine y_sld hC hX hbl hbz (law_in hi (p := 2) rfl (by decide)) dL_law_921 ?_
  refine y_aload_n hC dL_law_922 rfl ?_
  refine y_callSH hC (st_wouldWin D z hA X.2.1) w_L_wouldWin rfl (by omega) (Nat.le_of_ble_eq_true rfl) ⟨by omega, by omega⟩ dL_law_923 ?_
  intro v n2 sh2 I2 L2 hq
  obtain ⟨k9, rfl, hS2, hM⟩ := hq
  show Y _ _ _ _ _ _ _ _ _ _ _ _ _ [.int k9]
  refine y_istore hC dL_law_926 (by decide) rfl ?_
  refine y_aload_n hC dL_law_928 rfl ?_
  refine y_aload_n hC dL_law_929 rfl ?_
  refine y_iload hC dL_law_930 rfl ?_
  refine y_iconst hC dL_law_932 rfl ?_
  refine y_iadd hC dL_law_933 ?_
  refine y_sld hC hX hbl hbz (law_in hi (p := 1) rfl (by decide)) dL_law_934 ?_
  refine y_aload_n hC dL_law_935 rfl ?_
  refine y_iload hC dL_law_936 rfl ?_
  refine y_iconst hC dL_law_938 rfl ?_
  refine y_iadd hC dL_law_939 ?_
  refine y_sld hC hX hbl hbz (law_in hi (p := 2) rfl (by decide)) dL_law_940 ?_
  refine y_callV hC (hM X.2.1) m_L_168 rfl (yM_o hS2.2.2.2.1) (by omega) (Nat.le_of_ble_eq_true rfl) ⟨by omega, by omega⟩ dL_law_941 (fun _ _ _ _ _ w => w.elim) ?_
  intro v n3 sh3 I3 L3 hq
  obtain ⟨b9, rfl, hth, hout, hA3⟩ := hq
  show Y _ _ _ _ _ _ _ _ _ _ _ _ _ [.int b9]
  refine y_istore hC dL_law_944 (by decide) rfl ?_
  refine y_aload_n hC dL_law_946 rfl ?_
  have hT := c_X8_thrown X.2.1 D z (n := n3) (L := L3) (I := I3) (M := gR I3 (c + 141)) hA3.s.2.2.2.1
  rw [sR_get] at hT
  refine y_callV hC hT m_L_101 rfl (yM_o hA3.s.2.2.2.1) (by omega) (Nat.le_of_ble_eq_true rfl) ⟨by omega, by omega⟩ dL_law_947 (fun _ _ _ _ _ w => w.elim) ?_
  intro v n4 sh4 I4 L4 hq
  obtain ⟨rfl, rfl, rfl, rfl, rfl⟩ := hq
  show Y _ _ _ _ _ _ _ _ _ _ _ _ _ [.int (I4 (c + 141) 0)]
  rw [hth]
  refine y_iload hC dL_law_950 rfl ?_
  refine y_icmp_eq (tgt := 957) hC dL_law_952 (by decide) (fun _ => ?_) (fun q => absurd rfl q)
  refine y_iload hC dL_law_957 rfl ?_
  have fin : ∀ k2 w2, k2 ≤ k + 30 → w2 ≤ w + 5000 → Y X D z 7 n4 sh4 I4 L4 k2 w2 Q 981 [some (.ref b), some (.ref c), some (.ref (c + 141)), some (.ref (c + 156)), some (.int (nI i)), some (.int k9), some (.int b9)] [] := fun k2 w2 e1 e2 => y_goto (tgt := 1775) hC dL_law_981 (by decide) (y_lv lvH_ok (kk _ _ _ _ _ _ hA3 e1 e2))
  refine y_if_ne (tgt := 981) hC dL_law_959 (by decide) (fun _ => fin _ _ (by omega) (by omega)) (fun q0 => ?_)
  refine y_aload_n hC dL_law_962 rfl ?_
  refine y_iconst hC dL_law_963 rfl ?_
  refine y_lald hC hA3.s.2.2.2.2.1 (show vp_in (nI 0) 1 from vp_in_nI (by decide) (by decide)) dL_law_964 ?_
  rw [show L4 (c + 156) (Int32.ofInt 0).toNatClampNeg = _ from hout q0]
  refine y_iload hC dL_law_965 rfl ?_
  refine y_if_eq (tgt := 974) hC dL_law_967 (by decide) (fun q1 => ?_) (fun q1 => ?_)
  · refine y_lconst hC dL_law_974 rfl ?_
    refine y_lcmp hC dL_law_975 ?_
    refine y_if_eq (tgt := 981) hC dL_law_976 (by decide) (fun _ => fin _ _ (by omega) (by omega)) (fun q => absurd (by rw [cvB, if_pos q1]; exact lg_cmp_self _) q)
  · refine y_lconst hC dL_law_970 rfl ?_
    refine y_goto (tgt := 975) hC dL_law_971 (by decide) ?_
    refine y_lcmp hC dL_law_975 ?_
    refine y_if_eq (tgt := 981) hC dL_law_976 (by decide) (fun _ => fin _ _ (by omega) (by omega)) (fun q => absurd (by rw [cvB, if_neg q1]; exact lg_cmp_self _) q)
set_option maxRecDepth 100000 in
set_option maxHeartbeats 4000000 in
theorem lc_20 {X : yX} {D : yD} {z dep b Ls : Nat} {xs : Nat → Int32} {c i k w : Nat} {Q : State → Prop} (hG : lawC X D z dep b Ls xs c i k w Q) {n : Nat} {sh : yS} {I : yI} {L : yL} (hA : lA c n sh I) : Y X D z 7 n sh I L k w Q 984 (lvH b c i) [] := by
  obtain ⟨hC, hdep, hX, hbl, hbz, hi, ⟨hr1, hr2⟩, kk⟩ := hG
  refine y_aload_n hC dL_law_984 rfl ?_
  refine y_aload_n hC dL_law_985 rfl ?_
  refine y_iload hC dL_law_986 rfl ?_
  refine y_iconst hC dL_law_988 rfl ?_
  refine y_iadd hC dL_law_989 ?_
  refine y_sld hC hX hbl hbz (law_in hi (p := 1) rfl (by decide)) dL_law_990 ?_
  refine y_aload_n hC dL_law_991 rfl ?_
  refine y_callSH hC (st_bestEvidence D z hA X.2.1) w_L_bestEvidence rfl (by omega) (Nat.le_of_ble_eq_true rfl) ⟨by omega, by omega⟩ dL_law_992 ?_
  intro v n2 sh2 I2 L2 hq
  obtain ⟨k9, rfl, hS2, hM⟩ := hq
  show Y _ _ _ _ _ _ _ _ _ _ _ _ _ [.int k9]
  refine y_istore hC dL_law_995 (by decide) rfl ?_
  refine y_aload_n hC dL_law_997 rfl ?_
  refine y_aload_n hC dL_law_998 rfl ?_
  refine y_iload hC dL_law_999 rfl ?_
  refine y_iconst hC dL_law_1001 rfl ?_
  refine y_iadd hC dL_law_1002 ?_
  refine y_sld hC hX hbl hbz (law_in hi (p := 1) rfl (by decide)) dL_law_1003 ?_
  refine y_callV hC (hM X.2.1) m_L_171 rfl (yM_o hS2.2.2.2.1) (by omega) (Nat.le_of_ble_eq_true rfl) ⟨by omega, by omega⟩ dL_law_1004 (fun _ _ _ _ _ w => w.elim) ?_
  intro v n3 sh3 I3 L3 hq
  obtain ⟨b9, rfl, hth, hout, hA3⟩ := hq
  show Y _ _ _ _ _ _ _ _ _ _ _ _ _ [.int b9]
  refine y_istore hC dL_law_1007 (by decide) rfl ?_
  refine y_aload_n hC dL_law_1009 rfl ?_
  have hT := c_X8_thrown X.2.1 D z (n := n3) (L := L3) (I := I3) (M := gR I3 (c + 141)) hA3.s.2.2.2.1
  rw [sR_get] at hT
  refine y_callV hC hT m_L_101 rfl (yM_o hA3.s.2.2.2.1) (by omega) (Nat.le_of_ble_eq_true rfl) ⟨by omega, by omega⟩ dL_law_1010 (fun _ _ _ _ _ w => w.elim) ?_
  intro v n4 sh4 I4 L4 hq
  obtain ⟨rfl, rfl, rfl, rfl, rfl⟩ := hq
  show Y _ _ _ _ _ _ _ _ _ _ _ _ _ [.int (I4 (c + 141) 0)]
  rw [hth]
  refine y_iload hC dL_law_1013 rfl ?_
  refine y_icmp_eq (tgt := 1020) hC dL_law_1015 (by decide) (fun _ => ?_) (fun q => absurd rfl q)
  refine y_iload hC dL_law_1020 rfl ?_
  have fin : ∀ k2 w2, k2 ≤ k + 30 → w2 ≤ w + 5000 → Y X D z 7 n4 sh4 I4 L4 k2 w2 Q 1037 [some (.ref b), some (.ref c), some (.ref (c + 141)), some (.ref (c + 156)), some (.int (nI i)), some (.int k9), some (.int b9)] [] := fun k2 w2 e1 e2 => y_goto (tgt := 1775) hC dL_law_1037 (by decide) (y_lv lvH_ok (kk _ _ _ _ _ _ hA3 e1 e2))
  refine y_if_ne (tgt := 1037) hC dL_law_1022 (by decide) (fun _ => fin _ _ (by omega) (by omega)) (fun q0 => ?_)
  refine y_aload_n hC dL_law_1025 rfl ?_
  refine y_iconst hC dL_law_1026 rfl ?_
  refine y_lald hC hA3.s.2.2.2.2.1 (show vp_in (nI 0) 1 from vp_in_nI (by decide) (by decide)) dL_law_1027 ?_
  rw [show L4 (c + 156) (Int32.ofInt 0).toNatClampNeg = _ from hout q0]
  refine y_iload hC dL_law_1028 rfl ?_
  refine y_i2l hC dL_law_1030 ?_
  refine y_lcmp hC dL_law_1031 ?_
  refine y_if_eq (tgt := 1037) hC dL_law_1032 (by decide) (fun _ => fin _ _ (by omega) (by omega)) (fun q => absurd (lg_cmp_self _) q)
set_option maxRecDepth 100000 in
set_option maxHeartbeats 4000000 in
theorem lc_21 {X : yX} {D : yD} {z dep b Ls : Nat} {xs : Nat → Int32} {c i k w : Nat} {Q : State → Prop} (hG : lawC X D z dep b Ls xs c i k w Q) {n : Nat} {sh : yS} {I : yI} {L : yL} (hA : lA c n sh I) : Y X D z 7 n sh I L k w Q 1040 (lvH b c i) [] := by
  obtain ⟨hC, hdep, hX, hbl, hbz, hi, ⟨hr1, hr2⟩, kk⟩ := hG
  refine y_aload_n hC dL_law_1040 rfl ?_
  refine y_callV hC (st_nextDeadline D z hA X.2.1) m_L_172 rfl (yC_o hA.s.1) (by omega) (Nat.le_of_ble_eq_true rfl) ⟨by omega, by omega⟩ dL_law_1041 (fun _ _ _ _ _ w => w.elim) ?_
  intro v n2 sh2 I2 L2 hq
  obtain ⟨r9, rfl, hr3, hr4, hS2, hM⟩ := hq
  obtain ⟨x9, rfl⟩ := hr3 rfl
  show Y _ _ _ _ _ _ _ _ _ _ _ _ _ [.int x9]
  refine y_aload_n hC dL_law_1044 rfl ?_
  refine y_callV hC (hM X.2.1) m_L_175 rfl (yM_o hS2.2.2.2.1) (by omega) (Nat.le_of_ble_eq_true rfl) ⟨by omega, by omega⟩ dL_law_1045 (fun _ _ _ _ _ w => w.elim) ?_
  intro v n3 sh3 I3 L3 hq
  obtain ⟨rfl, hA3⟩ := hq
  show Y _ _ _ _ _ _ _ _ _ _ _ _ _ [.int x9, .int x9]
  refine y_icmp_eq (tgt := 1775) hC dL_law_1048 (by decide) (fun _ => ?_) (fun q => absurd rfl q)
  exact kk _ _ _ _ _ _ hA3 (by omega) (by omega)
set_option maxRecDepth 100000 in
set_option maxHeartbeats 4000000 in
theorem lc_22 {X : yX} {D : yD} {z dep b Ls : Nat} {xs : Nat → Int32} {c i k w : Nat} {Q : State → Prop} (hG : lawC X D z dep b Ls xs c i k w Q) {n : Nat} {sh : yS} {I : yI} {L : yL} (hA : lA c n sh I) : Y X D z 7 n sh I L k w Q 1053 (lvH b c i) [] := by
  obtain ⟨hC, hdep, hX, hbl, hbz, hi, ⟨hr1, hr2⟩, kk⟩ := hG
  refine y_aload_n hC dL_law_1053 rfl ?_
  refine y_aload_n hC dL_law_1054 rfl ?_
  refine y_iload hC dL_law_1055 rfl ?_
  refine y_iconst hC dL_law_1057 rfl ?_
  refine y_iadd hC dL_law_1058 ?_
  refine y_sld hC hX hbl hbz (law_in hi (p := 1) rfl (by decide)) dL_law_1059 ?_
  refine y_aload_n hC dL_law_1060 rfl ?_
  refine y_callSH hC (st_rate D z hA X.2.1) w_L_rate rfl (by omega) (Nat.le_of_ble_eq_true rfl) ⟨by omega, by omega⟩ dL_law_1061 ?_
  intro v n2 sh2 I2 L2 hq
  obtain ⟨k9, rfl, hS2, hM⟩ := hq
  show Y _ _ _ _ _ _ _ _ _ _ _ _ _ [.int k9]
  refine y_istore hC dL_law_1064 (by decide) rfl ?_
  refine y_aload_n hC dL_law_1066 rfl ?_
  refine y_aload_n hC dL_law_1067 rfl ?_
  refine y_iload hC dL_law_1068 rfl ?_
  refine y_iconst hC dL_law_1070 rfl ?_
  refine y_iadd hC dL_law_1071 ?_
  refine y_sld hC hX hbl hbz (law_in hi (p := 1) rfl (by decide)) dL_law_1072 ?_
  refine y_callV hC (hM X.2.1) m_L_178 rfl (yM_o hS2.2.2.2.1) (by omega) (Nat.le_of_ble_eq_true rfl) ⟨by omega, by omega⟩ dL_law_1073 (fun _ _ _ _ _ w => w.elim) ?_
  intro v n3 sh3 I3 L3 hq
  obtain ⟨b9, rfl, hth, hout, hA3⟩ := hq
  show Y _ _ _ _ _ _ _ _ _ _ _ _ _ [.int b9]
  refine y_istore hC dL_law_1076 (by decide) rfl ?_
  refine y_aload_n hC dL_law_1078 rfl ?_
  have hT := c_X8_thrown X.2.1 D z (n := n3) (L := L3) (I := I3) (M := gR I3 (c + 141)) hA3.s.2.2.2.1
  rw [sR_get] at hT
  refine y_callV hC hT m_L_101 rfl (yM_o hA3.s.2.2.2.1) (by omega) (Nat.le_of_ble_eq_true rfl) ⟨by omega, by omega⟩ dL_law_1079 (fun _ _ _ _ _ w => w.elim) ?_
  intro v n4 sh4 I4 L4 hq
  obtain ⟨rfl, rfl, rfl, rfl, rfl⟩ := hq
  show Y _ _ _ _ _ _ _ _ _ _ _ _ _ [.int (I4 (c + 141) 0)]
  rw [hth]
  refine y_iload hC dL_law_1082 rfl ?_
  refine y_icmp_eq (tgt := 1089) hC dL_law_1084 (by decide) (fun _ => ?_) (fun q => absurd rfl q)
  refine y_iload hC dL_law_1089 rfl ?_
  have fin : ∀ k2 w2, k2 ≤ k + 30 → w2 ≤ w + 5000 → Y X D z 7 n4 sh4 I4 L4 k2 w2 Q 1106 [some (.ref b), some (.ref c), some (.ref (c + 141)), some (.ref (c + 156)), some (.int (nI i)), some (.int k9), some (.int b9)] [] := fun k2 w2 e1 e2 => y_goto (tgt := 1775) hC dL_law_1106 (by decide) (y_lv lvH_ok (kk _ _ _ _ _ _ hA3 e1 e2))
  refine y_if_ne (tgt := 1106) hC dL_law_1091 (by decide) (fun _ => fin _ _ (by omega) (by omega)) (fun q0 => ?_)
  refine y_aload_n hC dL_law_1094 rfl ?_
  refine y_iconst hC dL_law_1095 rfl ?_
  refine y_lald hC hA3.s.2.2.2.2.1 (show vp_in (nI 0) 1 from vp_in_nI (by decide) (by decide)) dL_law_1096 ?_
  rw [show L4 (c + 156) (Int32.ofInt 0).toNatClampNeg = _ from hout q0]
  refine y_iload hC dL_law_1097 rfl ?_
  refine y_i2l hC dL_law_1099 ?_
  refine y_lcmp hC dL_law_1100 ?_
  refine y_if_eq (tgt := 1106) hC dL_law_1101 (by decide) (fun _ => fin _ _ (by omega) (by omega)) (fun q => absurd (lg_cmp_self _) q)
set_option maxRecDepth 100000 in
set_option maxHeartbeats 4000000 in
theorem lc_23 {X : yX} {D : yD} {z dep b Ls : Nat} {xs : Nat → Int32} {c i k w : Nat} {Q : State → Prop} (hG : lawC X D z dep b Ls xs c i k w Q) {n : Nat} {sh : yS} {I : yI} {L : yL} (hA : lA c n sh I) : Y X D z 7 n sh I L k w Q 1109 (lvH b c i) [] := by
  obtain ⟨hC, hdep, hX, hbl, hbz, hi, ⟨hr1, hr2⟩, kk⟩ := hG
  refine y_aload_n hC dL_law_1109 rfl ?_
  refine y_aload_n hC dL_law_1110 rfl ?_
  refine y_iload hC dL_law_1111 rfl ?_
  refine y_iconst hC dL_law_1113 rfl ?_
  refine y_iadd hC dL_law_1114 ?_
  refine y_sld hC hX hbl hbz (law_in hi (p := 1) rfl (by decide)) dL_law_1115 ?_
  refine y_aload_n hC dL_law_1116 rfl ?_
  refine y_callSH hC (st_isWatched D z hA X.2.1) w_L_isWatched rfl (by omega) (Nat.le_of_ble_eq_true rfl) ⟨by omega, by omega⟩ dL_law_1117 ?_
  intro v n2 sh2 I2 L2 hq
  obtain ⟨k9, rfl, hS2, hM⟩ := hq
  show Y _ _ _ _ _ _ _ _ _ _ _ _ _ [.int k9]
  refine y_istore hC dL_law_1120 (by decide) rfl ?_
  refine y_aload_n hC dL_law_1122 rfl ?_
  refine y_aload_n hC dL_law_1123 rfl ?_
  refine y_iload hC dL_law_1124 rfl ?_
  refine y_iconst hC dL_law_1126 rfl ?_
  refine y_iadd hC dL_law_1127 ?_
  refine y_sld hC hX hbl hbz (law_in hi (p := 1) rfl (by decide)) dL_law_1128 ?_
  refine y_callV hC (hM X.2.1) m_L_181 rfl (yM_o hS2.2.2.2.1) (by omega) (Nat.le_of_ble_eq_true rfl) ⟨by omega, by omega⟩ dL_law_1129 (fun _ _ _ _ _ w => w.elim) ?_
  intro v n3 sh3 I3 L3 hq
  obtain ⟨b9, rfl, hth, hout, hA3⟩ := hq
  show Y _ _ _ _ _ _ _ _ _ _ _ _ _ [.int b9]
  refine y_istore hC dL_law_1132 (by decide) rfl ?_
  refine y_aload_n hC dL_law_1134 rfl ?_
  have hT := c_X8_thrown X.2.1 D z (n := n3) (L := L3) (I := I3) (M := gR I3 (c + 141)) hA3.s.2.2.2.1
  rw [sR_get] at hT
  refine y_callV hC hT m_L_101 rfl (yM_o hA3.s.2.2.2.1) (by omega) (Nat.le_of_ble_eq_true rfl) ⟨by omega, by omega⟩ dL_law_1135 (fun _ _ _ _ _ w => w.elim) ?_
  intro v n4 sh4 I4 L4 hq
  obtain ⟨rfl, rfl, rfl, rfl, rfl⟩ := hq
  show Y _ _ _ _ _ _ _ _ _ _ _ _ _ [.int (I4 (c + 141) 0)]
  rw [hth]
  refine y_iload hC dL_law_1138 rfl ?_
  refine y_icmp_eq (tgt := 1145) hC dL_law_1140 (by decide) (fun _ => ?_) (fun q => absurd rfl q)
  refine y_iload hC dL_law_1145 rfl ?_
  have fin : ∀ k2 w2, k2 ≤ k + 30 → w2 ≤ w + 5000 → Y X D z 7 n4 sh4 I4 L4 k2 w2 Q 1169 [some (.ref b), some (.ref c), some (.ref (c + 141)), some (.ref (c + 156)), some (.int (nI i)), some (.int k9), some (.int b9)] [] := fun k2 w2 e1 e2 => y_goto (tgt := 1775) hC dL_law_1169 (by decide) (y_lv lvH_ok (kk _ _ _ _ _ _ hA3 e1 e2))
  refine y_if_ne (tgt := 1169) hC dL_law_1147 (by decide) (fun _ => fin _ _ (by omega) (by omega)) (fun q0 => ?_)
  refine y_aload_n hC dL_law_1150 rfl ?_
  refine y_iconst hC dL_law_1151 rfl ?_
  refine y_lald hC hA3.s.2.2.2.2.1 (show vp_in (nI 0) 1 from vp_in_nI (by decide) (by decide)) dL_law_1152 ?_
  rw [show L4 (c + 156) (Int32.ofInt 0).toNatClampNeg = _ from hout q0]
  refine y_iload hC dL_law_1153 rfl ?_
  refine y_if_eq (tgt := 1162) hC dL_law_1155 (by decide) (fun q1 => ?_) (fun q1 => ?_)
  · refine y_lconst hC dL_law_1162 rfl ?_
    refine y_lcmp hC dL_law_1163 ?_
    refine y_if_eq (tgt := 1169) hC dL_law_1164 (by decide) (fun _ => fin _ _ (by omega) (by omega)) (fun q => absurd (by rw [cvB, if_pos q1]; exact lg_cmp_self _) q)
  · refine y_lconst hC dL_law_1158 rfl ?_
    refine y_goto (tgt := 1163) hC dL_law_1159 (by decide) ?_
    refine y_lcmp hC dL_law_1163 ?_
    refine y_if_eq (tgt := 1169) hC dL_law_1164 (by decide) (fun _ => fin _ _ (by omega) (by omega)) (fun q => absurd (by rw [cvB, if_neg q1]; exact lg_cmp_self _) q)
set_option maxRecDepth 100000 in
set_option maxHeartbeats 4000000 in
theorem lc_24 {X : yX} {D : yD} {z dep b Ls : Nat} {xs : Nat → Int32} {c i k w : Nat} {Q : State → Prop} (hG : lawC X D z dep b Ls xs c i k w Q) {n : Nat} {sh : yS} {I : yI} {L : yL} (hA : lA c n sh I) : Y X D z 7 n sh I L k w Q 1172 (lvH b c i) [] := by
  obtain ⟨hC, hdep, hX, hbl, hbz, hi, ⟨hr1, hr2⟩, kk⟩ := hG
  refine y_aload_n hC dL_law_1172 rfl ?_
  refine y_aload_n hC dL_law_1173 rfl ?_
  refine y_iload hC dL_law_1174 rfl ?_
  refine y_iconst hC dL_law_1176 rfl ?_
  refine y_iadd hC dL_law_1177 ?_
  refine y_sld hC hX hbl hbz (law_in hi (p := 1) rfl (by decide)) dL_law_1178 ?_
  refine y_aload_n hC dL_law_1179 rfl ?_
  refine y_callSH hC (st_exposure D z hA X.2.1) w_L_exposure rfl (by omega) (Nat.le_of_ble_eq_true rfl) ⟨by omega, by omega⟩ dL_law_1180 ?_
  intro v n2 sh2 I2 L2 hq
  obtain ⟨k9, rfl, hS2, hM⟩ := hq
  show Y _ _ _ _ _ _ _ _ _ _ _ _ _ [.int k9]
  refine y_istore hC dL_law_1183 (by decide) rfl ?_
  refine y_aload_n hC dL_law_1185 rfl ?_
  refine y_aload_n hC dL_law_1186 rfl ?_
  refine y_iload hC dL_law_1187 rfl ?_
  refine y_iconst hC dL_law_1189 rfl ?_
  refine y_iadd hC dL_law_1190 ?_
  refine y_sld hC hX hbl hbz (law_in hi (p := 1) rfl (by decide)) dL_law_1191 ?_
  refine y_callV hC (hM X.2.1) m_L_184 rfl (yM_o hS2.2.2.2.1) (by omega) (Nat.le_of_ble_eq_true rfl) ⟨by omega, by omega⟩ dL_law_1192 (fun _ _ _ _ _ w => w.elim) ?_
  intro v n3 sh3 I3 L3 hq
  obtain ⟨b9, rfl, hth, hout, hA3⟩ := hq
  show Y _ _ _ _ _ _ _ _ _ _ _ _ _ [.int b9]
  refine y_istore hC dL_law_1195 (by decide) rfl ?_
  refine y_aload_n hC dL_law_1197 rfl ?_
  have hT := c_X8_thrown X.2.1 D z (n := n3) (L := L3) (I := I3) (M := gR I3 (c + 141)) hA3.s.2.2.2.1
  rw [sR_get] at hT
  refine y_callV hC hT m_L_101 rfl (yM_o hA3.s.2.2.2.1) (by omega) (Nat.le_of_ble_eq_true rfl) ⟨by omega, by omega⟩ dL_law_1198 (fun _ _ _ _ _ w => w.elim) ?_
  intro v n4 sh4 I4 L4 hq
  obtain ⟨rfl, rfl, rfl, rfl, rfl⟩ := hq
  show Y _ _ _ _ _ _ _ _ _ _ _ _ _ [.int (I4 (c + 141) 0)]
  rw [hth]
  refine y_iload hC dL_law_1201 rfl ?_
  refine y_icmp_eq (tgt := 1208) hC dL_law_1203 (by decide) (fun _ => ?_) (fun q => absurd rfl q)
  refine y_iload hC dL_law_1208 rfl ?_
  have fin : ∀ k2 w2, k2 ≤ k + 30 → w2 ≤ w + 5000 → Y X D z 7 n4 sh4 I4 L4 k2 w2 Q 1225 [some (.ref b), some (.ref c), some (.ref (c + 141)), some (.ref (c + 156)), some (.int (nI i)), some (.int k9), some (.int b9)] [] := fun k2 w2 e1 e2 => y_goto (tgt := 1775) hC dL_law_1225 (by decide) (y_lv lvH_ok (kk _ _ _ _ _ _ hA3 e1 e2))
  refine y_if_ne (tgt := 1225) hC dL_law_1210 (by decide) (fun _ => fin _ _ (by omega) (by omega)) (fun q0 => ?_)
  refine y_aload_n hC dL_law_1213 rfl ?_
  refine y_iconst hC dL_law_1214 rfl ?_
  refine y_lald hC hA3.s.2.2.2.2.1 (show vp_in (nI 0) 1 from vp_in_nI (by decide) (by decide)) dL_law_1215 ?_
  rw [show L4 (c + 156) (Int32.ofInt 0).toNatClampNeg = _ from hout q0]
  refine y_iload hC dL_law_1216 rfl ?_
  refine y_i2l hC dL_law_1218 ?_
  refine y_lcmp hC dL_law_1219 ?_
  refine y_if_eq (tgt := 1225) hC dL_law_1220 (by decide) (fun _ => fin _ _ (by omega) (by omega)) (fun q => absurd (lg_cmp_self _) q)
set_option maxRecDepth 100000 in
set_option maxHeartbeats 4000000 in
theorem lc_25 {X : yX} {D : yD} {z dep b Ls : Nat} {xs : Nat → Int32} {c i k w : Nat} {Q : State → Prop} (hG : lawC X D z dep b Ls xs c i k w Q) {n : Nat} {sh : yS} {I : yI} {L : yL} (hA : lA c n sh I) : Y X D z 7 n sh I L k w Q 1228 (lvH b c i) [] := by
  obtain ⟨hC, hdep, hX, hbl, hbz, hi, ⟨hr1, hr2⟩, kk⟩ := hG
  refine y_aload_n hC dL_law_1228 rfl ?_
  refine y_aload_n hC dL_law_1229 rfl ?_
  refine y_iload hC dL_law_1230 rfl ?_
  refine y_iconst hC dL_law_1232 rfl ?_
  refine y_iadd hC dL_law_1233 ?_
  refine y_sld hC hX hbl hbz (law_in hi (p := 1) rfl (by decide)) dL_law_1234 ?_
  refine y_aload_n hC dL_law_1235 rfl ?_
  refine y_callSH hC (st_settled D z hA X.2.1) w_L_settled rfl (by omega) (Nat.le_of_ble_eq_true rfl) ⟨by omega, by omega⟩ dL_law_1236 ?_
  intro v n2 sh2 I2 L2 hq
  obtain ⟨k9, rfl, hS2, hM⟩ := hq
  show Y _ _ _ _ _ _ _ _ _ _ _ _ _ [.int k9]
  refine y_istore hC dL_law_1239 (by decide) rfl ?_
  refine y_aload_n hC dL_law_1241 rfl ?_
  refine y_aload_n hC dL_law_1242 rfl ?_
  refine y_iload hC dL_law_1243 rfl ?_
  refine y_iconst hC dL_law_1245 rfl ?_
  refine y_iadd hC dL_law_1246 ?_
  refine y_sld hC hX hbl hbz (law_in hi (p := 1) rfl (by decide)) dL_law_1247 ?_
  refine y_callV hC (hM X.2.1) m_L_187 rfl (yM_o hS2.2.2.2.1) (by omega) (Nat.le_of_ble_eq_true rfl) ⟨by omega, by omega⟩ dL_law_1248 (fun _ _ _ _ _ w => w.elim) ?_
  intro v n3 sh3 I3 L3 hq
  obtain ⟨b9, rfl, hth, hout, hA3⟩ := hq
  show Y _ _ _ _ _ _ _ _ _ _ _ _ _ [.int b9]
  refine y_istore hC dL_law_1251 (by decide) rfl ?_
  refine y_aload_n hC dL_law_1253 rfl ?_
  have hT := c_X8_thrown X.2.1 D z (n := n3) (L := L3) (I := I3) (M := gR I3 (c + 141)) hA3.s.2.2.2.1
  rw [sR_get] at hT
  refine y_callV hC hT m_L_101 rfl (yM_o hA3.s.2.2.2.1) (by omega) (Nat.le_of_ble_eq_true rfl) ⟨by omega, by omega⟩ dL_law_1254 (fun _ _ _ _ _ w => w.elim) ?_
  intro v n4 sh4 I4 L4 hq
  obtain ⟨rfl, rfl, rfl, rfl, rfl⟩ := hq
  show Y _ _ _ _ _ _ _ _ _ _ _ _ _ [.int (I4 (c + 141) 0)]
  rw [hth]
  refine y_iload hC dL_law_1257 rfl ?_
  refine y_icmp_eq (tgt := 1264) hC dL_law_1259 (by decide) (fun _ => ?_) (fun q => absurd rfl q)
  refine y_iload hC dL_law_1264 rfl ?_
  have fin : ∀ k2 w2, k2 ≤ k + 30 → w2 ≤ w + 5000 → Y X D z 7 n4 sh4 I4 L4 k2 w2 Q 1281 [some (.ref b), some (.ref c), some (.ref (c + 141)), some (.ref (c + 156)), some (.int (nI i)), some (.int k9), some (.int b9)] [] := fun k2 w2 e1 e2 => y_goto (tgt := 1775) hC dL_law_1281 (by decide) (y_lv lvH_ok (kk _ _ _ _ _ _ hA3 e1 e2))
  refine y_if_ne (tgt := 1281) hC dL_law_1266 (by decide) (fun _ => fin _ _ (by omega) (by omega)) (fun q0 => ?_)
  refine y_aload_n hC dL_law_1269 rfl ?_
  refine y_iconst hC dL_law_1270 rfl ?_
  refine y_lald hC hA3.s.2.2.2.2.1 (show vp_in (nI 0) 1 from vp_in_nI (by decide) (by decide)) dL_law_1271 ?_
  rw [show L4 (c + 156) (Int32.ofInt 0).toNatClampNeg = _ from hout q0]
  refine y_iload hC dL_law_1272 rfl ?_
  refine y_i2l hC dL_law_1274 ?_
  refine y_lcmp hC dL_law_1275 ?_
  refine y_if_eq (tgt := 1281) hC dL_law_1276 (by decide) (fun _ => fin _ _ (by omega) (by omega)) (fun q => absurd (lg_cmp_self _) q)
set_option maxRecDepth 100000 in
set_option maxHeartbeats 4000000 in
theorem lc_26 {X : yX} {D : yD} {z dep b Ls : Nat} {xs : Nat → Int32} {c i k w : Nat} {Q : State → Prop} (hG : lawC X D z dep b Ls xs c i k w Q) {n : Nat} {sh : yS} {I : yI} {L : yL} (hA : lA c n sh I) : Y X D z 7 n sh I L k w Q 1284 (lvH b c i) [] := by
  obtain ⟨hC, hdep, hX, hbl, hbz, hi, ⟨hr1, hr2⟩, kk⟩ := hG
  refine y_aload_n hC dL_law_1284 rfl ?_
  refine y_aload_n hC dL_law_1285 rfl ?_
  refine y_iload hC dL_law_1286 rfl ?_
  refine y_iconst hC dL_law_1288 rfl ?_
  refine y_iadd hC dL_law_1289 ?_
  refine y_sld hC hX hbl hbz (law_in hi (p := 1) rfl (by decide)) dL_law_1290 ?_
  refine y_aload_n hC dL_law_1291 rfl ?_
  refine y_iload hC dL_law_1292 rfl ?_
  refine y_iconst hC dL_law_1294 rfl ?_
  refine y_iadd hC dL_law_1295 ?_
  refine y_sld hC hX hbl hbz (law_in hi (p := 2) rfl (by decide)) dL_law_1296 ?_
  refine y_aload_n hC dL_law_1297 rfl ?_
  refine y_iload hC dL_law_1298 rfl ?_
  refine y_iconst hC dL_law_1300 rfl ?_
  refine y_iadd hC dL_law_1301 ?_
  refine y_sld hC hX hbl hbz (law_in hi (p := 3) rfl (by decide)) dL_law_1302 ?_
  refine y_aload_n hC dL_law_1303 rfl ?_
  refine y_callSH hC (st_purchase D z hA X.2.1) w_L_purchase rfl (by omega) (Nat.le_of_ble_eq_true rfl) ⟨by omega, by omega⟩ dL_law_1304 ?_
  intro v n2 sh2 I2 L2 hq
  obtain ⟨k9, rfl, hS2, hM⟩ := hq
  show Y _ _ _ _ _ _ _ _ _ _ _ _ _ [.int k9]
  refine y_istore hC dL_law_1307 (by decide) rfl ?_
  refine y_aload_n hC dL_law_1309 rfl ?_
  refine y_aload_n hC dL_law_1310 rfl ?_
  refine y_iload hC dL_law_1311 rfl ?_
  refine y_iconst hC dL_law_1313 rfl ?_
  refine y_iadd hC dL_law_1314 ?_
  refine y_sld hC hX hbl hbz (law_in hi (p := 1) rfl (by decide)) dL_law_1315 ?_
  refine y_aload_n hC dL_law_1316 rfl ?_
  refine y_iload hC dL_law_1317 rfl ?_
  refine y_iconst hC dL_law_1319 rfl ?_
  refine y_iadd hC dL_law_1320 ?_
  refine y_sld hC hX hbl hbz (law_in hi (p := 2) rfl (by decide)) dL_law_1321 ?_
  refine y_aload_n hC dL_law_1322 rfl ?_
  refine y_iload hC dL_law_1323 rfl ?_
  refine y_iconst hC dL_law_1325 rfl ?_
  refine y_iadd hC dL_law_1326 ?_
  refine y_sld hC hX hbl hbz (law_in hi (p := 3) rfl (by decide)) dL_law_1327 ?_
  refine y_callV hC (hM X.2.1) m_L_191 rfl (yM_o hS2.2.2.2.1) (by omega) (Nat.le_of_ble_eq_true rfl) ⟨by omega, by omega⟩ dL_law_1328 (fun _ _ _ _ _ w => w.elim) ?_
  intro v n3 sh3 I3 L3 hq
  obtain ⟨b9, rfl, hth, hout, hA3⟩ := hq
  show Y _ _ _ _ _ _ _ _ _ _ _ _ _ [.int b9]
  refine y_istore hC dL_law_1331 (by decide) rfl ?_
  refine y_aload_n hC dL_law_1333 rfl ?_
  have hT := c_X8_thrown X.2.1 D z (n := n3) (L := L3) (I := I3) (M := gR I3 (c + 141)) hA3.s.2.2.2.1
  rw [sR_get] at hT
  refine y_callV hC hT m_L_101 rfl (yM_o hA3.s.2.2.2.1) (by omega) (Nat.le_of_ble_eq_true rfl) ⟨by omega, by omega⟩ dL_law_1334 (fun _ _ _ _ _ w => w.elim) ?_
  intro v n4 sh4 I4 L4 hq
  obtain ⟨rfl, rfl, rfl, rfl, rfl⟩ := hq
  show Y _ _ _ _ _ _ _ _ _ _ _ _ _ [.int (I4 (c + 141) 0)]
  rw [hth]
  refine y_iload hC dL_law_1337 rfl ?_
  refine y_icmp_eq (tgt := 1344) hC dL_law_1339 (by decide) (fun _ => ?_) (fun q => absurd rfl q)
  refine y_iload hC dL_law_1344 rfl ?_
  have fin : ∀ k2 w2, k2 ≤ k + 30 → w2 ≤ w + 5000 → Y X D z 7 n4 sh4 I4 L4 k2 w2 Q 1361 [some (.ref b), some (.ref c), some (.ref (c + 141)), some (.ref (c + 156)), some (.int (nI i)), some (.int k9), some (.int b9)] [] := fun k2 w2 e1 e2 => y_goto (tgt := 1775) hC dL_law_1361 (by decide) (y_lv lvH_ok (kk _ _ _ _ _ _ hA3 e1 e2))
  refine y_if_ne (tgt := 1361) hC dL_law_1346 (by decide) (fun _ => fin _ _ (by omega) (by omega)) (fun q0 => ?_)
  refine y_aload_n hC dL_law_1349 rfl ?_
  refine y_iconst hC dL_law_1350 rfl ?_
  refine y_lald hC hA3.s.2.2.2.2.1 (show vp_in (nI 0) 1 from vp_in_nI (by decide) (by decide)) dL_law_1351 ?_
  rw [show L4 (c + 156) (Int32.ofInt 0).toNatClampNeg = _ from hout q0]
  refine y_iload hC dL_law_1352 rfl ?_
  refine y_i2l hC dL_law_1354 ?_
  refine y_lcmp hC dL_law_1355 ?_
  refine y_if_eq (tgt := 1361) hC dL_law_1356 (by decide) (fun _ => fin _ _ (by omega) (by omega)) (fun q => absurd (lg_cmp_self _) q)
set_option maxRecDepth 100000 in
set_option maxHeartbeats 4000000 in
theorem lc_27 {X : yX} {D : yD} {z dep b Ls : Nat} {xs : Nat → Int32} {c i k w : Nat} {Q : State → Prop} (hG : lawC X D z dep b Ls xs c i k w Q) {n : Nat} {sh : yS} {I : yI} {L : yL} (hA : lA c n sh I) : Y X D z 7 n sh I L k w Q 1364 (lvH b c i) [] := by
  obtain ⟨hC, hdep, hX, hbl, hbz, hi, ⟨hr1, hr2⟩, kk⟩ := hG
  refine y_aload_n hC dL_law_1364 rfl ?_
  refine y_aload_n hC dL_law_1365 rfl ?_
  refine y_iload hC dL_law_1366 rfl ?_
  refine y_iconst hC dL_law_1368 rfl ?_
  refine y_iadd hC dL_law_1369 ?_
  refine y_sld hC hX hbl hbz (law_in hi (p := 1) rfl (by decide)) dL_law_1370 ?_
  refine y_aload_n hC dL_law_1371 rfl ?_
  refine y_iload hC dL_law_1372 rfl ?_
  refine y_iconst hC dL_law_1374 rfl ?_
  refine y_iadd hC dL_law_1375 ?_
  refine y_sld hC hX hbl hbz (law_in hi (p := 2) rfl (by decide)) dL_law_1376 ?_
  refine y_aload_n hC dL_law_1377 rfl ?_
  refine y_iload hC dL_law_1378 rfl ?_
  refine y_iconst hC dL_law_1380 rfl ?_
  refine y_iadd hC dL_law_1381 ?_
  refine y_sld hC hX hbl hbz (law_in hi (p := 3) rfl (by decide)) dL_law_1382 ?_
  refine y_aload_n hC dL_law_1383 rfl ?_
  refine y_callSH hC (st_file D z hA X.2.1) w_L_file rfl (by omega) (Nat.le_of_ble_eq_true rfl) ⟨by omega, by omega⟩ dL_law_1384 ?_
  intro v n2 sh2 I2 L2 hq
  obtain ⟨k9, rfl, hS2, hM⟩ := hq
  show Y _ _ _ _ _ _ _ _ _ _ _ _ _ [.int k9]
  refine y_istore hC dL_law_1387 (by decide) rfl ?_
  refine y_aload_n hC dL_law_1389 rfl ?_
  refine y_aload_n hC dL_law_1390 rfl ?_
  refine y_iload hC dL_law_1391 rfl ?_
  refine y_iconst hC dL_law_1393 rfl ?_
  refine y_iadd hC dL_law_1394 ?_
  refine y_sld hC hX hbl hbz (law_in hi (p := 1) rfl (by decide)) dL_law_1395 ?_
  refine y_aload_n hC dL_law_1396 rfl ?_
  refine y_iload hC dL_law_1397 rfl ?_
  refine y_iconst hC dL_law_1399 rfl ?_
  refine y_iadd hC dL_law_1400 ?_
  refine y_sld hC hX hbl hbz (law_in hi (p := 2) rfl (by decide)) dL_law_1401 ?_
  refine y_aload_n hC dL_law_1402 rfl ?_
  refine y_iload hC dL_law_1403 rfl ?_
  refine y_iconst hC dL_law_1405 rfl ?_
  refine y_iadd hC dL_law_1406 ?_
  refine y_sld hC hX hbl hbz (law_in hi (p := 3) rfl (by decide)) dL_law_1407 ?_
  refine y_callV hC (hM X.2.1) m_L_194 rfl (yM_o hS2.2.2.2.1) (by omega) (Nat.le_of_ble_eq_true rfl) ⟨by omega, by omega⟩ dL_law_1408 (fun _ _ _ _ _ w => w.elim) ?_
  intro v n3 sh3 I3 L3 hq
  obtain ⟨b9, rfl, hth, hout, hA3⟩ := hq
  show Y _ _ _ _ _ _ _ _ _ _ _ _ _ [.int b9]
  refine y_istore hC dL_law_1411 (by decide) rfl ?_
  refine y_aload_n hC dL_law_1413 rfl ?_
  have hT := c_X8_thrown X.2.1 D z (n := n3) (L := L3) (I := I3) (M := gR I3 (c + 141)) hA3.s.2.2.2.1
  rw [sR_get] at hT
  refine y_callV hC hT m_L_101 rfl (yM_o hA3.s.2.2.2.1) (by omega) (Nat.le_of_ble_eq_true rfl) ⟨by omega, by omega⟩ dL_law_1414 (fun _ _ _ _ _ w => w.elim) ?_
  intro v n4 sh4 I4 L4 hq
  obtain ⟨rfl, rfl, rfl, rfl, rfl⟩ := hq
  show Y _ _ _ _ _ _ _ _ _ _ _ _ _ [.int (I4 (c + 141) 0)]
  rw [hth]
  refine y_iload hC dL_law_1417 rfl ?_
  refine y_icmp_eq (tgt := 1424) hC dL_law_1419 (by decide) (fun _ => ?_) (fun q => absurd rfl q)
  refine y_iload hC dL_law_1424 rfl ?_
  have fin : ∀ k2 w2, k2 ≤ k + 30 → w2 ≤ w + 5000 → Y X D z 7 n4 sh4 I4 L4 k2 w2 Q 1441 [some (.ref b), some (.ref c), some (.ref (c + 141)), some (.ref (c + 156)), some (.int (nI i)), some (.int k9), some (.int b9)] [] := fun k2 w2 e1 e2 => y_goto (tgt := 1775) hC dL_law_1441 (by decide) (y_lv lvH_ok (kk _ _ _ _ _ _ hA3 e1 e2))
  refine y_if_ne (tgt := 1441) hC dL_law_1426 (by decide) (fun _ => fin _ _ (by omega) (by omega)) (fun q0 => ?_)
  refine y_aload_n hC dL_law_1429 rfl ?_
  refine y_iconst hC dL_law_1430 rfl ?_
  refine y_lald hC hA3.s.2.2.2.2.1 (show vp_in (nI 0) 1 from vp_in_nI (by decide) (by decide)) dL_law_1431 ?_
  rw [show L4 (c + 156) (Int32.ofInt 0).toNatClampNeg = _ from hout q0]
  refine y_iload hC dL_law_1432 rfl ?_
  refine y_i2l hC dL_law_1434 ?_
  refine y_lcmp hC dL_law_1435 ?_
  refine y_if_eq (tgt := 1441) hC dL_law_1436 (by decide) (fun _ => fin _ _ (by omega) (by omega)) (fun q => absurd (lg_cmp_self _) q)
set_option maxRecDepth 100000 in
set_option maxHeartbeats 4000000 in
theorem lc_28 {X : yX} {D : yD} {z dep b Ls : Nat} {xs : Nat → Int32} {c i k w : Nat} {Q : State → Prop} (hG : lawC X D z dep b Ls xs c i k w Q) {n : Nat} {sh : yS} {I : yI} {L : yL} (hA : lA c n sh I) : Y X D z 7 n sh I L k w Q 1444 (lvH b c i) [] := by
  obtain ⟨hC, hdep, hX, hbl, hbz, hi, ⟨hr1, hr2⟩, kk⟩ := hG
  refine y_aload_n hC dL_law_1444 rfl ?_
  refine y_aload_n hC dL_law_1445 rfl ?_
  refine y_iload hC dL_law_1446 rfl ?_
  refine y_iconst hC dL_law_1448 rfl ?_
  refine y_iadd hC dL_law_1449 ?_
  refine y_sld hC hX hbl hbz (law_in hi (p := 1) rfl (by decide)) dL_law_1450 ?_
  refine y_aload_n hC dL_law_1451 rfl ?_
  refine y_iload hC dL_law_1452 rfl ?_
  refine y_iconst hC dL_law_1454 rfl ?_
  refine y_iadd hC dL_law_1455 ?_
  refine y_sld hC hX hbl hbz (law_in hi (p := 2) rfl (by decide)) dL_law_1456 ?_
  refine y_aload_n hC dL_law_1457 rfl ?_
  refine y_callSH hC (st_represent D z hA X.2.1) w_L_represent rfl (by omega) (Nat.le_of_ble_eq_true rfl) ⟨by omega, by omega⟩ dL_law_1458 ?_
  intro v n2 sh2 I2 L2 hq
  obtain ⟨k9, rfl, hS2, hM⟩ := hq
  show Y _ _ _ _ _ _ _ _ _ _ _ _ _ [.int k9]
  refine y_istore hC dL_law_1461 (by decide) rfl ?_
  refine y_aload_n hC dL_law_1463 rfl ?_
  refine y_aload_n hC dL_law_1464 rfl ?_
  refine y_iload hC dL_law_1465 rfl ?_
  refine y_iconst hC dL_law_1467 rfl ?_
  refine y_iadd hC dL_law_1468 ?_
  refine y_sld hC hX hbl hbz (law_in hi (p := 1) rfl (by decide)) dL_law_1469 ?_
  refine y_aload_n hC dL_law_1470 rfl ?_
  refine y_iload hC dL_law_1471 rfl ?_
  refine y_iconst hC dL_law_1473 rfl ?_
  refine y_iadd hC dL_law_1474 ?_
  refine y_sld hC hX hbl hbz (law_in hi (p := 2) rfl (by decide)) dL_law_1475 ?_
  refine y_callV hC (hM X.2.1) m_L_197 rfl (yM_o hS2.2.2.2.1) (by omega) (Nat.le_of_ble_eq_true rfl) ⟨by omega, by omega⟩ dL_law_1476 (fun _ _ _ _ _ w => w.elim) ?_
  intro v n3 sh3 I3 L3 hq
  obtain ⟨b9, rfl, hth, hout, hA3⟩ := hq
  show Y _ _ _ _ _ _ _ _ _ _ _ _ _ [.int b9]
  refine y_istore hC dL_law_1479 (by decide) rfl ?_
  refine y_aload_n hC dL_law_1481 rfl ?_
  have hT := c_X8_thrown X.2.1 D z (n := n3) (L := L3) (I := I3) (M := gR I3 (c + 141)) hA3.s.2.2.2.1
  rw [sR_get] at hT
  refine y_callV hC hT m_L_101 rfl (yM_o hA3.s.2.2.2.1) (by omega) (Nat.le_of_ble_eq_true rfl) ⟨by omega, by omega⟩ dL_law_1482 (fun _ _ _ _ _ w => w.elim) ?_
  intro v n4 sh4 I4 L4 hq
  obtain ⟨rfl, rfl, rfl, rfl, rfl⟩ := hq
  show Y _ _ _ _ _ _ _ _ _ _ _ _ _ [.int (I4 (c + 141) 0)]
  rw [hth]
  refine y_iload hC dL_law_1485 rfl ?_
  refine y_icmp_eq (tgt := 1492) hC dL_law_1487 (by decide) (fun _ => ?_) (fun q => absurd rfl q)
  refine y_iload hC dL_law_1492 rfl ?_
  have fin : ∀ k2 w2, k2 ≤ k + 30 → w2 ≤ w + 5000 → Y X D z 7 n4 sh4 I4 L4 k2 w2 Q 1509 [some (.ref b), some (.ref c), some (.ref (c + 141)), some (.ref (c + 156)), some (.int (nI i)), some (.int k9), some (.int b9)] [] := fun k2 w2 e1 e2 => y_goto (tgt := 1775) hC dL_law_1509 (by decide) (y_lv lvH_ok (kk _ _ _ _ _ _ hA3 e1 e2))
  refine y_if_ne (tgt := 1509) hC dL_law_1494 (by decide) (fun _ => fin _ _ (by omega) (by omega)) (fun q0 => ?_)
  refine y_aload_n hC dL_law_1497 rfl ?_
  refine y_iconst hC dL_law_1498 rfl ?_
  refine y_lald hC hA3.s.2.2.2.2.1 (show vp_in (nI 0) 1 from vp_in_nI (by decide) (by decide)) dL_law_1499 ?_
  rw [show L4 (c + 156) (Int32.ofInt 0).toNatClampNeg = _ from hout q0]
  refine y_iload hC dL_law_1500 rfl ?_
  refine y_i2l hC dL_law_1502 ?_
  refine y_lcmp hC dL_law_1503 ?_
  refine y_if_eq (tgt := 1509) hC dL_law_1504 (by decide) (fun _ => fin _ _ (by omega) (by omega)) (fun q => absurd (lg_cmp_self _) q)
set_option maxRecDepth 100000 in
set_option maxHeartbeats 4000000 in
theorem lc_29 {X : yX} {D : yD} {z dep b Ls : Nat} {xs : Nat → Int32} {c i k w : Nat} {Q : State → Prop} (hG : lawC X D z dep b Ls xs c i k w Q) {n : Nat} {sh : yS} {I : yI} {L : yL} (hA : lA c n sh I) : Y X D z 7 n sh I L k w Q 1512 (lvH b c i) [] := by
  obtain ⟨hC, hdep, hX, hbl, hbz, hi, ⟨hr1, hr2⟩, kk⟩ := hG
  refine y_aload_n hC dL_law_1512 rfl ?_
  refine y_aload_n hC dL_law_1513 rfl ?_
  refine y_iload hC dL_law_1514 rfl ?_
  refine y_iconst hC dL_law_1516 rfl ?_
  refine y_iadd hC dL_law_1517 ?_
  refine y_sld hC hX hbl hbz (law_in hi (p := 1) rfl (by decide)) dL_law_1518 ?_
  refine y_aload_n hC dL_law_1519 rfl ?_
  refine y_callSH hC (st_escalate D z hA X.2.1) w_L_escalate rfl (by omega) (Nat.le_of_ble_eq_true rfl) ⟨by omega, by omega⟩ dL_law_1520 ?_
  intro v n2 sh2 I2 L2 hq
  obtain ⟨k9, rfl, hS2, hM⟩ := hq
  show Y _ _ _ _ _ _ _ _ _ _ _ _ _ [.int k9]
  refine y_istore hC dL_law_1523 (by decide) rfl ?_
  refine y_aload_n hC dL_law_1525 rfl ?_
  refine y_aload_n hC dL_law_1526 rfl ?_
  refine y_iload hC dL_law_1527 rfl ?_
  refine y_iconst hC dL_law_1529 rfl ?_
  refine y_iadd hC dL_law_1530 ?_
  refine y_sld hC hX hbl hbz (law_in hi (p := 1) rfl (by decide)) dL_law_1531 ?_
  refine y_callV hC (hM X.2.1) m_L_200 rfl (yM_o hS2.2.2.2.1) (by omega) (Nat.le_of_ble_eq_true rfl) ⟨by omega, by omega⟩ dL_law_1532 (fun _ _ _ _ _ w => w.elim) ?_
  intro v n3 sh3 I3 L3 hq
  obtain ⟨b9, rfl, hth, hout, hA3⟩ := hq
  show Y _ _ _ _ _ _ _ _ _ _ _ _ _ [.int b9]
  refine y_istore hC dL_law_1535 (by decide) rfl ?_
  refine y_aload_n hC dL_law_1537 rfl ?_
  have hT := c_X8_thrown X.2.1 D z (n := n3) (L := L3) (I := I3) (M := gR I3 (c + 141)) hA3.s.2.2.2.1
  rw [sR_get] at hT
  refine y_callV hC hT m_L_101 rfl (yM_o hA3.s.2.2.2.1) (by omega) (Nat.le_of_ble_eq_true rfl) ⟨by omega, by omega⟩ dL_law_1538 (fun _ _ _ _ _ w => w.elim) ?_
  intro v n4 sh4 I4 L4 hq
  obtain ⟨rfl, rfl, rfl, rfl, rfl⟩ := hq
  show Y _ _ _ _ _ _ _ _ _ _ _ _ _ [.int (I4 (c + 141) 0)]
  rw [hth]
  refine y_iload hC dL_law_1541 rfl ?_
  refine y_icmp_eq (tgt := 1548) hC dL_law_1543 (by decide) (fun _ => ?_) (fun q => absurd rfl q)
  refine y_iload hC dL_law_1548 rfl ?_
  have fin : ∀ k2 w2, k2 ≤ k + 30 → w2 ≤ w + 5000 → Y X D z 7 n4 sh4 I4 L4 k2 w2 Q 1565 [some (.ref b), some (.ref c), some (.ref (c + 141)), some (.ref (c + 156)), some (.int (nI i)), some (.int k9), some (.int b9)] [] := fun k2 w2 e1 e2 => y_goto (tgt := 1775) hC dL_law_1565 (by decide) (y_lv lvH_ok (kk _ _ _ _ _ _ hA3 e1 e2))
  refine y_if_ne (tgt := 1565) hC dL_law_1550 (by decide) (fun _ => fin _ _ (by omega) (by omega)) (fun q0 => ?_)
  refine y_aload_n hC dL_law_1553 rfl ?_
  refine y_iconst hC dL_law_1554 rfl ?_
  refine y_lald hC hA3.s.2.2.2.2.1 (show vp_in (nI 0) 1 from vp_in_nI (by decide) (by decide)) dL_law_1555 ?_
  rw [show L4 (c + 156) (Int32.ofInt 0).toNatClampNeg = _ from hout q0]
  refine y_iload hC dL_law_1556 rfl ?_
  refine y_i2l hC dL_law_1558 ?_
  refine y_lcmp hC dL_law_1559 ?_
  refine y_if_eq (tgt := 1565) hC dL_law_1560 (by decide) (fun _ => fin _ _ (by omega) (by omega)) (fun q => absurd (lg_cmp_self _) q)
set_option maxRecDepth 100000 in
set_option maxHeartbeats 4000000 in
theorem lc_30 {X : yX} {D : yD} {z dep b Ls : Nat} {xs : Nat → Int32} {c i k w : Nat} {Q : State → Prop} (hG : lawC X D z dep b Ls xs c i k w Q) {n : Nat} {sh : yS} {I : yI} {L : yL} (hA : lA c n sh I) : Y X D z 7 n sh I L k w Q 1568 (lvH b c i) [] := by
  obtain ⟨hC, hdep, hX, hbl, hbz, hi, ⟨hr1, hr2⟩, kk⟩ := hG
  refine y_aload_n hC dL_law_1568 rfl ?_
  refine y_aload_n hC dL_law_1569 rfl ?_
  refine y_iload hC dL_law_1570 rfl ?_
  refine y_iconst hC dL_law_1572 rfl ?_
  refine y_iadd hC dL_law_1573 ?_
  refine y_sld hC hX hbl hbz (law_in hi (p := 1) rfl (by decide)) dL_law_1574 ?_
  refine y_aload_n hC dL_law_1575 rfl ?_
  refine y_iload hC dL_law_1576 rfl ?_
  refine y_iconst hC dL_law_1578 rfl ?_
  refine y_iadd hC dL_law_1579 ?_
  refine y_sld hC hX hbl hbz (law_in hi (p := 2) rfl (by decide)) dL_law_1580 ?_
  refine y_aload_n hC dL_law_1581 rfl ?_
  refine y_callSH hC (st_contest D z hA X.2.1) w_L_contest rfl (by omega) (Nat.le_of_ble_eq_true rfl) ⟨by omega, by omega⟩ dL_law_1582 ?_
  intro v n2 sh2 I2 L2 hq
  obtain ⟨k9, rfl, hS2, hM⟩ := hq
  show Y _ _ _ _ _ _ _ _ _ _ _ _ _ [.int k9]
  refine y_istore hC dL_law_1585 (by decide) rfl ?_
  refine y_aload_n hC dL_law_1587 rfl ?_
  refine y_aload_n hC dL_law_1588 rfl ?_
  refine y_iload hC dL_law_1589 rfl ?_
  refine y_iconst hC dL_law_1591 rfl ?_
  refine y_iadd hC dL_law_1592 ?_
  refine y_sld hC hX hbl hbz (law_in hi (p := 1) rfl (by decide)) dL_law_1593 ?_
  refine y_aload_n hC dL_law_1594 rfl ?_
  refine y_iload hC dL_law_1595 rfl ?_
  refine y_iconst hC dL_law_1597 rfl ?_
  refine y_iadd hC dL_law_1598 ?_
  refine y_sld hC hX hbl hbz (law_in hi (p := 2) rfl (by decide)) dL_law_1599 ?_
  refine y_callV hC (hM X.2.1) m_L_203 rfl (yM_o hS2.2.2.2.1) (by omega) (Nat.le_of_ble_eq_true rfl) ⟨by omega, by omega⟩ dL_law_1600 (fun _ _ _ _ _ w => w.elim) ?_
  intro v n3 sh3 I3 L3 hq
  obtain ⟨b9, rfl, hth, hout, hA3⟩ := hq
  show Y _ _ _ _ _ _ _ _ _ _ _ _ _ [.int b9]
  refine y_istore hC dL_law_1603 (by decide) rfl ?_
  refine y_aload_n hC dL_law_1605 rfl ?_
  have hT := c_X8_thrown X.2.1 D z (n := n3) (L := L3) (I := I3) (M := gR I3 (c + 141)) hA3.s.2.2.2.1
  rw [sR_get] at hT
  refine y_callV hC hT m_L_101 rfl (yM_o hA3.s.2.2.2.1) (by omega) (Nat.le_of_ble_eq_true rfl) ⟨by omega, by omega⟩ dL_law_1606 (fun _ _ _ _ _ w => w.elim) ?_
  intro v n4 sh4 I4 L4 hq
  obtain ⟨rfl, rfl, rfl, rfl, rfl⟩ := hq
  show Y _ _ _ _ _ _ _ _ _ _ _ _ _ [.int (I4 (c + 141) 0)]
  rw [hth]
  refine y_iload hC dL_law_1609 rfl ?_
  refine y_icmp_eq (tgt := 1616) hC dL_law_1611 (by decide) (fun _ => ?_) (fun q => absurd rfl q)
  refine y_iload hC dL_law_1616 rfl ?_
  have fin : ∀ k2 w2, k2 ≤ k + 30 → w2 ≤ w + 5000 → Y X D z 7 n4 sh4 I4 L4 k2 w2 Q 1633 [some (.ref b), some (.ref c), some (.ref (c + 141)), some (.ref (c + 156)), some (.int (nI i)), some (.int k9), some (.int b9)] [] := fun k2 w2 e1 e2 => y_goto (tgt := 1775) hC dL_law_1633 (by decide) (y_lv lvH_ok (kk _ _ _ _ _ _ hA3 e1 e2))
  refine y_if_ne (tgt := 1633) hC dL_law_1618 (by decide) (fun _ => fin _ _ (by omega) (by omega)) (fun q0 => ?_)
  refine y_aload_n hC dL_law_1621 rfl ?_
  refine y_iconst hC dL_law_1622 rfl ?_
  refine y_lald hC hA3.s.2.2.2.2.1 (show vp_in (nI 0) 1 from vp_in_nI (by decide) (by decide)) dL_law_1623 ?_
  rw [show L4 (c + 156) (Int32.ofInt 0).toNatClampNeg = _ from hout q0]
  refine y_iload hC dL_law_1624 rfl ?_
  refine y_i2l hC dL_law_1626 ?_
  refine y_lcmp hC dL_law_1627 ?_
  refine y_if_eq (tgt := 1633) hC dL_law_1628 (by decide) (fun _ => fin _ _ (by omega) (by omega)) (fun q => absurd (lg_cmp_self _) q)
set_option maxRecDepth 100000 in
set_option maxHeartbeats 4000000 in
theorem lc_31 {X : yX} {D : yD} {z dep b Ls : Nat} {xs : Nat → Int32} {c i k w : Nat} {Q : State → Prop} (hG : lawC X D z dep b Ls xs c i k w Q) {n : Nat} {sh : yS} {I : yI} {L : yL} (hA : lA c n sh I) : Y X D z 7 n sh I L k w Q 1636 (lvH b c i) [] := by
  obtain ⟨hC, hdep, hX, hbl, hbz, hi, ⟨hr1, hr2⟩, kk⟩ := hG
  refine y_aload_n hC dL_law_1636 rfl ?_
  refine y_aload_n hC dL_law_1637 rfl ?_
  refine y_iload hC dL_law_1638 rfl ?_
  refine y_iconst hC dL_law_1640 rfl ?_
  refine y_iadd hC dL_law_1641 ?_
  refine y_sld hC hX hbl hbz (law_in hi (p := 1) rfl (by decide)) dL_law_1642 ?_
  refine y_aload_n hC dL_law_1643 rfl ?_
  refine y_callSH hC (st_accept D z hA X.2.1) w_L_accept rfl (by omega) (Nat.le_of_ble_eq_true rfl) ⟨by omega, by omega⟩ dL_law_1644 ?_
  intro v n2 sh2 I2 L2 hq
  obtain ⟨k9, rfl, hS2, hM⟩ := hq
  show Y _ _ _ _ _ _ _ _ _ _ _ _ _ [.int k9]
  refine y_istore hC dL_law_1647 (by decide) rfl ?_
  refine y_aload_n hC dL_law_1649 rfl ?_
  refine y_aload_n hC dL_law_1650 rfl ?_
  refine y_iload hC dL_law_1651 rfl ?_
  refine y_iconst hC dL_law_1653 rfl ?_
  refine y_iadd hC dL_law_1654 ?_
  refine y_sld hC hX hbl hbz (law_in hi (p := 1) rfl (by decide)) dL_law_1655 ?_
  refine y_callV hC (hM X.2.1) m_L_206 rfl (yM_o hS2.2.2.2.1) (by omega) (Nat.le_of_ble_eq_true rfl) ⟨by omega, by omega⟩ dL_law_1656 (fun _ _ _ _ _ w => w.elim) ?_
  intro v n3 sh3 I3 L3 hq
  obtain ⟨b9, rfl, hth, hout, hA3⟩ := hq
  show Y _ _ _ _ _ _ _ _ _ _ _ _ _ [.int b9]
  refine y_istore hC dL_law_1659 (by decide) rfl ?_
  refine y_aload_n hC dL_law_1661 rfl ?_
  have hT := c_X8_thrown X.2.1 D z (n := n3) (L := L3) (I := I3) (M := gR I3 (c + 141)) hA3.s.2.2.2.1
  rw [sR_get] at hT
  refine y_callV hC hT m_L_101 rfl (yM_o hA3.s.2.2.2.1) (by omega) (Nat.le_of_ble_eq_true rfl) ⟨by omega, by omega⟩ dL_law_1662 (fun _ _ _ _ _ w => w.elim) ?_
  intro v n4 sh4 I4 L4 hq
  obtain ⟨rfl, rfl, rfl, rfl, rfl⟩ := hq
  show Y _ _ _ _ _ _ _ _ _ _ _ _ _ [.int (I4 (c + 141) 0)]
  rw [hth]
  refine y_iload hC dL_law_1665 rfl ?_
  refine y_icmp_eq (tgt := 1672) hC dL_law_1667 (by decide) (fun _ => ?_) (fun q => absurd rfl q)
  refine y_iload hC dL_law_1672 rfl ?_
  have fin : ∀ k2 w2, k2 ≤ k + 30 → w2 ≤ w + 5000 → Y X D z 7 n4 sh4 I4 L4 k2 w2 Q 1689 [some (.ref b), some (.ref c), some (.ref (c + 141)), some (.ref (c + 156)), some (.int (nI i)), some (.int k9), some (.int b9)] [] := fun k2 w2 e1 e2 => y_goto (tgt := 1775) hC dL_law_1689 (by decide) (y_lv lvH_ok (kk _ _ _ _ _ _ hA3 e1 e2))
  refine y_if_ne (tgt := 1689) hC dL_law_1674 (by decide) (fun _ => fin _ _ (by omega) (by omega)) (fun q0 => ?_)
  refine y_aload_n hC dL_law_1677 rfl ?_
  refine y_iconst hC dL_law_1678 rfl ?_
  refine y_lald hC hA3.s.2.2.2.2.1 (show vp_in (nI 0) 1 from vp_in_nI (by decide) (by decide)) dL_law_1679 ?_
  rw [show L4 (c + 156) (Int32.ofInt 0).toNatClampNeg = _ from hout q0]
  refine y_iload hC dL_law_1680 rfl ?_
  refine y_i2l hC dL_law_1682 ?_
  refine y_lcmp hC dL_law_1683 ?_
  refine y_if_eq (tgt := 1689) hC dL_law_1684 (by decide) (fun _ => fin _ _ (by omega) (by omega)) (fun q => absurd (lg_cmp_self _) q)
set_option maxRecDepth 100000 in
set_option maxHeartbeats 4000000 in
theorem lc_32 {X : yX} {D : yD} {z dep b Ls : Nat} {xs : Nat → Int32} {c i k w : Nat} {Q : State → Prop} (hG : lawC X D z dep b Ls xs c i k w Q) {n : Nat} {sh : yS} {I : yI} {L : yL} (hA : lA c n sh I) : Y X D z 7 n sh I L k w Q 1692 (lvH b c i) [] := by
  obtain ⟨hC, hdep, hX, hbl, hbz, hi, ⟨hr1, hr2⟩, kk⟩ := hG
  refine y_aload_n hC dL_law_1692 rfl ?_
  refine y_aload_n hC dL_law_1693 rfl ?_
  refine y_iload hC dL_law_1694 rfl ?_
  refine y_iconst hC dL_law_1696 rfl ?_
  refine y_iadd hC dL_law_1697 ?_
  refine y_sld hC hX hbl hbz (law_in hi (p := 1) rfl (by decide)) dL_law_1698 ?_
  refine y_aload_n hC dL_law_1699 rfl ?_
  refine y_callSH hC (st_pass D z hA X.2.1) w_L_pass rfl (by omega) (Nat.le_of_ble_eq_true rfl) ⟨by omega, by omega⟩ dL_law_1700 ?_
  intro v n2 sh2 I2 L2 hq
  obtain ⟨k9, rfl, hS2, hM⟩ := hq
  show Y _ _ _ _ _ _ _ _ _ _ _ _ _ [.int k9]
  refine y_istore hC dL_law_1703 (by decide) rfl ?_
  refine y_aload_n hC dL_law_1705 rfl ?_
  refine y_aload_n hC dL_law_1706 rfl ?_
  refine y_iload hC dL_law_1707 rfl ?_
  refine y_iconst hC dL_law_1709 rfl ?_
  refine y_iadd hC dL_law_1710 ?_
  refine y_sld hC hX hbl hbz (law_in hi (p := 1) rfl (by decide)) dL_law_1711 ?_
  refine y_callV hC (hM X.2.1) m_L_209 rfl (yM_o hS2.2.2.2.1) (by omega) (Nat.le_of_ble_eq_true rfl) ⟨by omega, by omega⟩ dL_law_1712 (fun _ _ _ _ _ w => w.elim) ?_
  intro v n3 sh3 I3 L3 hq
  obtain ⟨b9, rfl, hth, hout, hA3⟩ := hq
  show Y _ _ _ _ _ _ _ _ _ _ _ _ _ [.int b9]
  refine y_istore hC dL_law_1715 (by decide) rfl ?_
  refine y_aload_n hC dL_law_1717 rfl ?_
  have hT := c_X8_thrown X.2.1 D z (n := n3) (L := L3) (I := I3) (M := gR I3 (c + 141)) hA3.s.2.2.2.1
  rw [sR_get] at hT
  refine y_callV hC hT m_L_101 rfl (yM_o hA3.s.2.2.2.1) (by omega) (Nat.le_of_ble_eq_true rfl) ⟨by omega, by omega⟩ dL_law_1718 (fun _ _ _ _ _ w => w.elim) ?_
  intro v n4 sh4 I4 L4 hq
  obtain ⟨rfl, rfl, rfl, rfl, rfl⟩ := hq
  show Y _ _ _ _ _ _ _ _ _ _ _ _ _ [.int (I4 (c + 141) 0)]
  rw [hth]
  refine y_iload hC dL_law_1721 rfl ?_
  refine y_icmp_eq (tgt := 1728) hC dL_law_1723 (by decide) (fun _ => ?_) (fun q => absurd rfl q)
  refine y_iload hC dL_law_1728 rfl ?_
  have fin : ∀ k2 w2, k2 ≤ k + 30 → w2 ≤ w + 5000 → Y X D z 7 n4 sh4 I4 L4 k2 w2 Q 1745 [some (.ref b), some (.ref c), some (.ref (c + 141)), some (.ref (c + 156)), some (.int (nI i)), some (.int k9), some (.int b9)] [] := fun k2 w2 e1 e2 => y_goto (tgt := 1775) hC dL_law_1745 (by decide) (y_lv lvH_ok (kk _ _ _ _ _ _ hA3 e1 e2))
  refine y_if_ne (tgt := 1745) hC dL_law_1730 (by decide) (fun _ => fin _ _ (by omega) (by omega)) (fun q0 => ?_)
  refine y_aload_n hC dL_law_1733 rfl ?_
  refine y_iconst hC dL_law_1734 rfl ?_
  refine y_lald hC hA3.s.2.2.2.2.1 (show vp_in (nI 0) 1 from vp_in_nI (by decide) (by decide)) dL_law_1735 ?_
  rw [show L4 (c + 156) (Int32.ofInt 0).toNatClampNeg = _ from hout q0]
  refine y_iload hC dL_law_1736 rfl ?_
  refine y_i2l hC dL_law_1738 ?_
  refine y_lcmp hC dL_law_1739 ?_
  refine y_if_eq (tgt := 1745) hC dL_law_1740 (by decide) (fun _ => fin _ _ (by omega) (by omega)) (fun q => absurd (lg_cmp_self _) q)
set_option maxRecDepth 100000 in
set_option maxHeartbeats 4000000 in
theorem lc_33 {X : yX} {D : yD} {z dep b Ls : Nat} {xs : Nat → Int32} {c i k w : Nat} {Q : State → Prop} (hG : lawC X D z dep b Ls xs c i k w Q) {n : Nat} {sh : yS} {I : yI} {L : yL} (hA : lA c n sh I) : Y X D z 7 n sh I L k w Q 1748 (lvH b c i) [] := by
  obtain ⟨hC, hdep, hX, hbl, hbz, hi, ⟨hr1, hr2⟩, kk⟩ := hG
  refine y_aload_n hC dL_law_1748 rfl ?_
  refine y_callV hC (st_undo D z hA X.2.1) m_L_210 rfl (yC_o hA.s.1) (by omega) (Nat.le_of_ble_eq_true rfl) ⟨by omega, by omega⟩ dL_law_1749 (fun _ _ _ _ _ w => w.elim) ?_
  intro v n2 sh2 I2 L2 hq
  obtain ⟨r9, rfl, hr3, hr4, hS2, hM⟩ := hq
  obtain ⟨x9, rfl⟩ := hr3 rfl
  show Y _ _ _ _ _ _ _ _ _ _ _ _ _ [.int x9]
  refine y_aload_n hC dL_law_1752 rfl ?_
  refine y_callV hC (hM X.2.1) m_L_213 rfl (yM_o hS2.2.2.2.1) (by omega) (Nat.le_of_ble_eq_true rfl) ⟨by omega, by omega⟩ dL_law_1753 (fun _ _ _ _ _ w => w.elim) ?_
  intro v n3 sh3 I3 L3 hq
  obtain ⟨rfl, hA3⟩ := hq
  show Y _ _ _ _ _ _ _ _ _ _ _ _ _ [.int x9, .int x9]
  refine y_icmp_eq (tgt := 1775) hC dL_law_1756 (by decide) (fun _ => ?_) (fun q => absurd rfl q)
  exact kk _ _ _ _ _ _ hA3 (by omega) (by omega)
set_option maxRecDepth 100000 in
set_option maxHeartbeats 4000000 in
theorem lc_34 {X : yX} {D : yD} {z dep b Ls : Nat} {xs : Nat → Int32} {c i k w : Nat} {Q : State → Prop} (hG : lawC X D z dep b Ls xs c i k w Q) {n : Nat} {sh : yS} {I : yI} {L : yL} (hA : lA c n sh I) : Y X D z 7 n sh I L k w Q 1761 (lvH b c i) [] := by
  obtain ⟨hC, hdep, hX, hbl, hbz, hi, ⟨hr1, hr2⟩, kk⟩ := hG
  refine y_aload_n hC dL_law_1761 rfl ?_
  refine y_callV hC (st_checksum D z hA X.2.1) m_L_214 rfl (yC_o hA.s.1) (by omega) (Nat.le_of_ble_eq_true rfl) ⟨by omega, by omega⟩ dL_law_1762 (fun _ _ _ _ _ w => w.elim) ?_
  intro v n2 sh2 I2 L2 hq
  obtain ⟨r9, rfl, hr3, hr4, hS2, hM⟩ := hq
  obtain ⟨x9, rfl⟩ := hr4 rfl
  show Y _ _ _ _ _ _ _ _ _ _ _ _ _ [.long x9]
  refine y_aload_n hC dL_law_1765 rfl ?_
  refine y_callV hC (hM X.2.1) m_L_218 rfl (yM_o hS2.2.2.2.1) (by omega) (Nat.le_of_ble_eq_true rfl) ⟨by omega, by omega⟩ dL_law_1766 (fun _ _ _ _ _ w => w.elim) ?_
  intro v n3 sh3 I3 L3 hq
  obtain ⟨rfl, hA3⟩ := hq
  show Y _ _ _ _ _ _ _ _ _ _ _ _ _ [.long x9, .long x9]
  refine y_lcmp hC dL_law_1769 ?_
  refine y_if_eq (tgt := 1775) hC dL_law_1770 (by decide) (fun _ => ?_) (fun q => absurd (lg_cmp_self _) q)
  exact kk _ _ _ _ _ _ hA3 (by omega) (by omega)
