/-! WHAT HOLDS BETWEEN THE CALLS -/
/-- no motion is listed twice; the bar that holds is one of those read -/
def DIS (s : List Int32) : Prop := (∀ a b, a < b → b < nN s 24 → ¬ nN s (72 + a) = nN s (72 + b)) ∧ (gd s 29 = -1 ∨ nN s 29 < nN s 23)
def CE (b : Nat) (s : List Int32) (h : Nat → List Int32) : Prop := CS (b + 1) s (sl s 72 5) (nN s 24) h ∧ h b = [gd s 28, gd s 23] ∧ h (b + 15) = sl s 124 100 ∧ h (b + 16) = [gd s 25] ∧ h (b + 17) = sl s 77 5 ∧ h (b + 18) = sl s 82 5 ∧ h (b + 19) = sl s 87 5
  ∧ h (b + 20) = [gd s 26] ∧ h (b + 21) = sl s 92 8 ∧ h (b + 22) = sl s 100 8 ∧ h (b + 24) = [gd s 27] ∧ h (b + 25) = sl s 108 8 ∧ h (b + 26) = sl s 116 8 ∧ DIS s
theorem ce_cg {b : Nat} {s : List Int32} {h h1 : Nat → List Int32} (hc : CE b s h) (hf : (h1 (b + 14)).length = 6) (e : ∀ k, b ≤ k → k < b + 28 → ¬ k = b + 14 → h1 k = h k) : CE b s h1 := by
  obtain ⟨⟨c0, c5, c6, c7, c8, c9, c10, c11, c12, c13, cb⟩, d0, d15, d16, d17, d18, d19, d20, d21, d22, d24, d25, d26, dis⟩ := hc
  refine ⟨⟨?_, ?_, ?_, ?_, ?_, ?_, ?_, ?_, ?_, hf, cb_cg cb fun k h1 h2 => e k (by omega) (by omega) (by omega)⟩, ?_, ?_, ?_, ?_, ?_, ?_, ?_, ?_, ?_, ?_, ?_, ?_, dis⟩ <;> (rw [e _ (by omega) (by omega) (by omega)]; assumption)
theorem gd_ne {s : List Int32} {j k : Nat} {x : Int32} (h : ¬ k = j) : gd (s.set j x) k = gd s k := by
  by_cases hj : j < s.length
  · rw [gd_set k hj, if_neg h]
  · rw [List.set_eq_of_length_le (by omega)]
theorem gd_eq {s : List Int32} {j : Nat} {x : Int32} (h : j < s.length) : gd (s.set j x) j = x := by rw [gd_set j h, if_pos rfl]
theorem nN_ne {s : List Int32} {j k : Nat} {x : Int32} (h : ¬ k = j) : nN (s.set j x) k = nN s k := by unfold nN; rw [gd_ne h]
theorem nN_eq {s : List Int32} {j a : Nat} (h : j < s.length) (ha : a < 2 ^ 31) : nN (s.set j (nI a)) j = a := by unfold nN; rw [gd_eq h, ni_nat ha]
theorem dis_ne {s : List Int32} {j : Nat} {x : Int32} (h : DIS s) (hj : j < 23 ∨ (24 < j ∧ j < 29) ∨ (29 < j ∧ j < 72) ∨ 77 ≤ j) (h5 : nN s 24 ≤ 5) : DIS (s.set j x) := by
  refine ⟨fun a b h1 h2 => ?_, ?_⟩
  · rw [nN_ne (by omega)] at h2
    rw [nN_ne (by omega), nN_ne (by omega)]
    exact h.1 a b h1 h2
  · rw [gd_ne (by omega), nN_ne (k := 29) (by omega), nN_ne (k := 23) (by omega)]
    exact h.2
theorem lo_ne {s : List Int32} {j : Nat} {x : Int32} (h : j < 6 ∨ 12 ≤ j) : loN (s.set j x) = loN s := lo_cg fun p hp => gd_ne (by omega)
theorem ca_ne {s : List Int32} {j : Nat} {x : Int32} (h : j = 0 ∨ 6 ≤ j) : cN (s.set j x) = cN s := msk_cg 5 fun m hm => nN_ne (by omega)
theorem st_ne {s : List Int32} {j : Nat} {x : Int32} (h : j < 29 ∨ (29 < j ∧ j < 229)) : stepsOf (s.set j x) = stepsOf s := by
  have e := nN_ne (s := s) (j := j) (k := 229 + nN s 29) (x := x) (by omega)
  unfold stepsOf
  rw [gd_ne (by omega), nN_ne (k := 29) (by omega), e, sl_cut (s := s) (t := s.set j x) (fun i hi => gd_ne (by omega)) (by simp)]
theorem cb_ne {c j : Nat} {s : List Int32} {x : Int32} {h : Nat → List Int32} (hb : CB c s h) (hj : j < 29 ∨ (29 < j ∧ j < 224)) : CB c (s.set j x) h := by
  obtain ⟨b0, b1, b2, b3, b4, b5, b6, b7⟩ := hb
  refine ⟨b0, b1, b2, b3, ?_, b5, b6, fun f hf => ?_⟩
  · rw [b4]; unfold quo; rw [gd_ne (k := 29) (by omega), nN_ne (k := 29) (by omega), gd_ne (k := 224 + nN s 29) (by omega)]
  · rw [b7 f hf]; unfold rsum; rw [st_ne (by omega)]
theorem len_set (s : List Int32) (j : Nat) (x : Int32) : (s.set j x).length = s.length := List.length_set
def aboveT : List Int32 := [-1, 0, 0, 0, 1, 2, 3]
def bodiesT : List Int32 := [1, 11, 0, 0, 0, 51, 0, 2, 0, 21, 0, 0, 0, 61, 3, 0, 0, 31, 41, 0, 0]
def factsT : List Int32 := [1, 1, 2, 6, 24, 120, 720]
def INV (scr : List Int32) (h : Nat → List Int32) : Prop := LN h ∧ (h 0 = scr ∧ h 1 = aboveT ∧ h 2 = bodiesT ∧ h 3 = factsT) ∧ WF 9999 (h 86) ∧ CE 5 (h 86) h
  ∧ ((gd (h 4) 0 = 0 ∧ gd (h 85) 1 = 0) ∨ (gd (h 4) 0 = 1 ∧ gd (h 85) 1 = 1 ∧ WF 9999 (h 87) ∧ CE 33 (h 87) h))
  ∧ (gd (h 81) 0 = gd (h 85) 8 ∧ (∃ r, r < 100 ∧ gd (h 85) 8 = nI r) ∧ h 82 = h 93)
/-- what a question may leave otherwise -/
theorem inv_q {scr : List Int32} {h h1 : Nat → List Int32} (hi : INV scr h) (hL : LN h1) (e : ∀ k, (k < 19 ∨ (19 < k ∧ k < 47) ∨ (47 < k ∧ k < 61) ∨ k = 81 ∨ k = 82 ∨ k = 86 ∨ k = 87 ∨ k = 93) → h1 k = h k) (e1 : gd (h1 85) 1 = gd (h 85) 1) (e8 : gd (h1 85) 8 = gd (h 85) 8) : INV scr h1 := by
  obtain ⟨_, ⟨a0, a1, a2, a3⟩, hw, hc, hk, ⟨k1, k2, k3⟩⟩ := hi
  refine ⟨hL, ⟨?_, ?_, ?_, ?_⟩, ?_, ?_, ?_, ?_, ?_, ?_⟩
  · rw [e 0 (by omega), a0]
  · rw [e 1 (by omega), a1]
  · rw [e 2 (by omega), a2]
  · rw [e 3 (by omega), a3]
  · rw [e 86 (by omega)]; exact hw
  · rw [e 86 (by omega)]; exact ce_cg hc (hL 19 (by omega) (by omega)) fun k k1 k2 k3 => e k (by omega)
  · rw [e 4 (by omega), e1, e 87 (by omega)]
    rcases hk with q | ⟨q1, q2, q3, q4⟩
    · exact Or.inl q
    · exact Or.inr ⟨q1, q2, q3, ce_cg q4 (hL 47 (by omega) (by omega)) fun k k1 k2 k3 => e k (by omega)⟩
  · rw [e 81 (by omega), e8, k1]
  · rw [e8]; exact k2
  · rw [e 82 (by omega), e 93 (by omega), k3]
/-- a change of the state: the row and the cells of now -/
theorem inv_s {scr : List Int32} {h h1 : Nat → List Int32} (hi : INV scr h) (hL : LN h1) (hw : WF 9999 (h1 86)) (hc : CE 5 (h1 86) h1) (e : ∀ k, (k < 5 ∨ (32 < k ∧ k < 61) ∨ k = 81 ∨ k = 82 ∨ k = 85 ∨ k = 87 ∨ k = 93) → h1 k = h k) : INV scr h1 := by
  obtain ⟨_, ⟨a0, a1, a2, a3⟩, _, _, hk, ⟨k1, k2, k3⟩⟩ := hi
  refine ⟨hL, ⟨?_, ?_, ?_, ?_⟩, hw, hc, ?_, ?_, ?_, ?_⟩
  · rw [e 0 (by omega), a0]
  · rw [e 1 (by omega), a1]
  · rw [e 2 (by omega), a2]
  · rw [e 3 (by omega), a3]
  · rw [e 4 (by omega), e 85 (by omega), e 87 (by omega)]
    rcases hk with q | ⟨q1, q2, q3, q4⟩
    · exact Or.inl q
    · exact Or.inr ⟨q1, q2, q3, ce_cg q4 (hL 47 (by omega) (by omega)) fun k k1 k2 k3 => e k (by omega)⟩
  · rw [e 81 (by omega), e 85 (by omega), k1]
  · rw [e 85 (by omega)]; exact k2
  · rw [e 82 (by omega), e 93 (by omega), k3]
def PO (scr : List Int32) (r r' : Option Value) (σ' : pm_S) : Prop := r = r' ∧ (∃ v, r = some v) ∧ ∃ h2, σ' = mk h2 ∧ INV scr h2
theorem po_i {scr : List Int32} {v : Value} {h : Nat → List Int32} (hi : INV scr h) : PO scr (some v) (some v) (mk h) := ⟨rfl, ⟨v, rfl⟩, h, rfl, hi⟩
/-- a call to both, with the same answer -/
def BOTH (scr : List Int32) (d x m : Nat) (as : List Value) (h : Nat → List Int32) : Prop := pm_WC fqP d x (.ref 4 :: as) (mk h) (fun r σ => pm_WC fqP d m (.ref 85 :: as) σ (fun r' σ' => PO scr r r' σ'))
theorem c_Things_has {d : Nat} {i : Int32} {h : Nat → List Int32} {K : Option Value → pm_S → Prop} : pm_WC fqP (d + 1) 40 [.ref 11, .int i] (mk h) K = K (some (.int (pm_bo (0 ≤ i ∧ i < gd (h 11) 1)))) (mk h) := by
  by_cases a : i < 0
  · have a1 := eq_true a
    simp (maxDischargeDepth := 20) (maxSteps := 2000000) only [↓reduceIte, pm_WL_nil, bi_900, bi_901, bi_904, bi_905, pm_lget_0, pm_lget_s, pm_oI_s, pm_oA_s, pm_oJ_s, pm_oK_s, pm_oR_s, pm_oO_s, pm_oN_s, pm_oF_s, pm_oM_s, pm_oP_s, pm_pu_n, pm_pu_s, pm_bo_ne, pm_bo_eq, Nat.reduceAdd, Nat.reduceSub, Nat.reduceLT, Nat.reduceLeDiff, Nat.reduceEqDiff, Nat.zero_add, Nat.lt_add_one, Nat.zero_ne_one, Nat.succ_ne_self, List.length_cons, List.length_nil, true_and, and_true, true_or, or_true, false_or, or_false, false_implies, true_implies, implies_true, not_true_eq_false, not_false_eq_true, ne_eq, eq_self, e_Things_has, pm_okW_0, pm_okW_i, pm_okW_r, pm_okW_l, pm_ent_0, pm_ent_i, pm_ent_r, pm_ent_l, List.reduceReplicate, b_Things_has_0, b_Things_has_4, b_Things_has_12, b_Things_has_16, b_Things_has_17, f_iloadn1, w_if_lt, pm_tgt_is, Int.cast_ofNat_Int, Int.reduceNeg, Int.reduceAdd, Int.reduceToNat, Int.zero_add, Int.zero_le_ofNat, Int.reduceLE, nz_1, nz_m1, if_true, if_false, f_aloadn0, gf_40_27_11, gf_40_27_39, gf_40_27_66, w_icmp_ge, w_iconst, ki_1, w_goto, ki_0, w_iret, lg_40, pm_fit_b, pm_fit_0, pm_fit_1, Bool.false_eq_true, hs_11, a1]
    simp [pm_bo, Int32.not_le.mpr a]
  · have a1 := eq_false a
    by_cases b : gd (h 11) 1 ≤ i
    · have bq := eq_true b
      simp (maxDischargeDepth := 20) (maxSteps := 2000000) only [↓reduceIte, pm_WL_nil, bi_900, bi_901, bi_904, bi_905, pm_lget_0, pm_lget_s, pm_oI_s, pm_oA_s, pm_oJ_s, pm_oK_s, pm_oR_s, pm_oO_s, pm_oN_s, pm_oF_s, pm_oM_s, pm_oP_s, pm_pu_n, pm_pu_s, pm_bo_ne, pm_bo_eq, Nat.reduceAdd, Nat.reduceSub, Nat.reduceLT, Nat.reduceLeDiff, Nat.reduceEqDiff, Nat.zero_add, Nat.lt_add_one, Nat.zero_ne_one, Nat.succ_ne_self, List.length_cons, List.length_nil, true_and, and_true, true_or, or_true, false_or, or_false, false_implies, true_implies, implies_true, not_true_eq_false, not_false_eq_true, ne_eq, eq_self, e_Things_has, pm_okW_0, pm_okW_i, pm_okW_r, pm_okW_l, pm_ent_0, pm_ent_i, pm_ent_r, pm_ent_l, List.reduceReplicate, b_Things_has_0, b_Things_has_4, b_Things_has_12, b_Things_has_16, b_Things_has_17, f_iloadn1, w_if_lt, pm_tgt_is, Int.cast_ofNat_Int, Int.reduceNeg, Int.reduceAdd, Int.reduceToNat, Int.zero_add, Int.zero_le_ofNat, Int.reduceLE, nz_1, nz_m1, if_true, if_false, f_aloadn0, gf_40_27_11, gf_40_27_39, gf_40_27_66, w_icmp_ge, w_iconst, ki_1, w_goto, ki_0, w_iret, lg_40, pm_fit_b, pm_fit_0, pm_fit_1, Bool.false_eq_true, hs_11, a1, bq]
      simp [pm_bo, Int32.not_lt.mpr b]
    · have bq := eq_false b
      simp (maxDischargeDepth := 20) (maxSteps := 2000000) only [↓reduceIte, pm_WL_nil, bi_900, bi_901, bi_904, bi_905, pm_lget_0, pm_lget_s, pm_oI_s, pm_oA_s, pm_oJ_s, pm_oK_s, pm_oR_s, pm_oO_s, pm_oN_s, pm_oF_s, pm_oM_s, pm_oP_s, pm_pu_n, pm_pu_s, pm_bo_ne, pm_bo_eq, Nat.reduceAdd, Nat.reduceSub, Nat.reduceLT, Nat.reduceLeDiff, Nat.reduceEqDiff, Nat.zero_add, Nat.lt_add_one, Nat.zero_ne_one, Nat.succ_ne_self, List.length_cons, List.length_nil, true_and, and_true, true_or, or_true, false_or, or_false, false_implies, true_implies, implies_true, not_true_eq_false, not_false_eq_true, ne_eq, eq_self, e_Things_has, pm_okW_0, pm_okW_i, pm_okW_r, pm_okW_l, pm_ent_0, pm_ent_i, pm_ent_r, pm_ent_l, List.reduceReplicate, b_Things_has_0, b_Things_has_4, b_Things_has_12, b_Things_has_16, b_Things_has_17, f_iloadn1, w_if_lt, pm_tgt_is, Int.cast_ofNat_Int, Int.reduceNeg, Int.reduceAdd, Int.reduceToNat, Int.zero_add, Int.zero_le_ofNat, Int.reduceLE, nz_1, nz_m1, if_true, if_false, f_aloadn0, gf_40_27_11, gf_40_27_39, gf_40_27_66, w_icmp_ge, w_iconst, ki_1, w_goto, ki_0, w_iret, lg_40, pm_fit_b, pm_fit_0, pm_fit_1, Bool.false_eq_true, hs_11, a1, bq]
      rw [pm_bo, if_pos ⟨Int32.not_lt.mp a, Int32.not_le.mp b⟩]
theorem i_pred {n : Nat} {p : Int32} (hn : n ≤ 1000) : (0 ≤ p ∧ p ≤ nI n - 1) = (0 ≤ p ∧ p < nI n) := by
  cases n with
  | zero =>
    refine propext ⟨fun q => ?_, fun q => ?_⟩
    · exfalso
      have h1 := Int32.le_iff_toInt_le.mp q.1
      have h2 := Int32.le_iff_toInt_le.mp q.2
      have e0 : (0 : Int32).toInt = 0 := by decide
      have e1 : (nI 0 - 1).toInt = -1 := by decide
      rw [e0] at h1; rw [e1] at h2; omega
    · exfalso
      have h1 := Int32.le_iff_toInt_le.mp q.1
      have h2 := Int32.lt_iff_toInt_lt.mp q.2
      have e0 : (0 : Int32).toInt = 0 := by decide
      have e1 : (nI 0).toInt = 0 := by decide
      rw [e0] at h1; rw [e1] at h2; omega
  | succ n =>
    rw [ni_dec, Int32.le_iff_toInt_le (x := p), Int32.lt_iff_toInt_lt, ni_int (by omega), ni_int (by omega)]
    refine propext ⟨fun q => ⟨q.1, by omega⟩, fun q => ⟨q.1, by omega⟩⟩
theorem c_M_isThing {d n : Nat} {p : Int32} {h : Nat → List Int32} {K : Option Value → pm_S → Prop} (hl : (h 86).length = 934) (hn : gd (h 86) 22 = nI n) (hn6 : n ≤ 6) : pm_WC fqP (d + 2) 104 [.ref 85, .int p] (mk h) K = K (some (.int (pm_bo (0 ≤ p ∧ p < nI n)))) (mk h) := by
  simp (maxDischargeDepth := 20) (maxSteps := 2000000) only [↓reduceIte, pm_WL_nil, bi_900, bi_901, bi_904, bi_905, pm_lget_0, pm_lget_s, pm_oI_s, pm_oA_s, pm_oJ_s, pm_oK_s, pm_oR_s, pm_oO_s, pm_oN_s, pm_oF_s, pm_oM_s, pm_oP_s, pm_pu_n, pm_pu_s, pm_bo_ne, pm_bo_eq, Nat.reduceAdd, Nat.reduceSub, Nat.reduceLT, Nat.reduceLeDiff, Nat.reduceEqDiff, Nat.zero_add, Nat.lt_add_one, Nat.zero_ne_one, Nat.succ_ne_self, List.length_cons, List.length_nil, true_and, and_true, true_or, or_true, false_or, or_false, false_implies, true_implies, implies_true, not_true_eq_false, not_false_eq_true, ne_eq, eq_self, e_M_isThing, pm_okW_0, pm_okW_i, pm_okW_r, pm_okW_l, pm_ent_0, pm_ent_i, pm_ent_r, pm_ent_l, List.reduceReplicate, b_M_isThing_0, f_iloadn1, w_iconst, ki_0, f_aloadn0, gf_104_9_85, w_bipush, kb_22, ki_1, w_isub, iv_104_41, kk_n, kk_s, w_iret, lg_104, pm_fit_b, pm_fit_0, pm_fit_1, Bool.false_eq_true, hs_85, f_iald_86, f_alen_86, ia_86, ar_86, f_iast_86, iw_86, hs_86, lia_0, lrd_0, lin_0, lwr_0, lia_1, lrd_1, lin_1, lwr_1, lia_2, lrd_2, lin_2, lwr_2, lia_3, lrd_3, lin_3, lwr_3, lia_4, lrd_4, lin_4, lwr_4, lia_5, lrd_5, lin_5, lwr_5, lia_6, lrd_6, lin_6, lwr_6, lia_12, lrd_12, lin_12, lwr_12, lia_18, lrd_18, lin_18, lwr_18, lia_22, lrd_22, lin_22, lwr_22, lia_23, lrd_23, lin_23, lwr_23, lia_24, lrd_24, lin_24, lwr_24, lia_25, lrd_25, lin_25, lwr_25, lia_26, lrd_26, lin_26, lwr_26, lia_27, lrd_27, lin_27, lwr_27, lia_28, lrd_28, lin_28, lwr_28, lia_29, lrd_29, lin_29, lwr_29, lia_30, lrd_30, lin_30, lwr_30, lia_36, lrd_36, lin_36, lwr_36, lia_42, lrd_42, lin_42, lwr_42, lia_48, lrd_48, lin_48, lwr_48, lia_72, lrd_72, lin_72, lwr_72, lia_77, lrd_77, lin_77, lwr_77, lia_82, lrd_82, lin_82, lwr_82, lia_87, lrd_87, lin_87, lwr_87, lia_92, lrd_92, lin_92, lwr_92, lia_100, lrd_100, lin_100, lwr_100, lia_108, lrd_108, lin_108, lwr_108, lia_116, lrd_116, lin_116, lwr_116, lia_124, lrd_124, lin_124, lwr_124, lia_224, lrd_224, lin_224, lwr_224, lia_229, lrd_229, lin_229, lwr_229, lia_234, lrd_234, lin_234, lwr_234, hl, hn, c_M_in]
  simp only [i_pred (show n ≤ 1000 by omega)]
