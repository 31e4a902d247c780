/-! ORDER of the reference, and the call -/
def OS (h0 h : Nat → List Int32) (M : bM) : Prop := (∀ k, ¬ k = 85 → ¬ k = 86 → ¬ k = 88 → ¬ k = 89 → ¬ k = 90 → ¬ k = 91 → ¬ k = 92 → h k = h0 k) ∧ (h 85).length = 12 ∧ (h 88).length = 22 ∧ (h 91).length = 5 ∧ (h 92).length = 5 ∧ gd (h 85) 1 = gd (h0 85) 1 ∧ gd (h 85) 8 = gd (h0 85) 8 ∧ gd (h 85) 7 = vM M ∧ OB M (h 92)
def cpyL (b l : List Int32) : Nat → List Int32
  | 0 => b
  | k + 1 => (cpyL b l k).set k (gd l k)
theorem cpyL_gd {b l : List Int32} (hb : b.length = 5) : ∀ k, k ≤ 5 → (cpyL b l k).length = 5 ∧ ∀ i, i < k → gd (cpyL b l k) i = gd l i
  | 0, _ => ⟨hb, fun i hi => absurd hi (by omega)⟩
  | k + 1, hk => by
    obtain ⟨g1, g2⟩ := cpyL_gd (l := l) hb k (by omega)
    rw [cpyL]
    refine ⟨by rw [len_set, g1], fun i hi => ?_⟩
    by_cases e : i = k
    · rw [e, gd_eq (by omega)]
    · rw [gd_ne e]; exact g2 i (by omega)
theorem cpyL_5 {b l : List Int32} (hb : b.length = 5) (hl : l.length = 5) : cpyL b l 5 = l := by
  obtain ⟨g1, g2⟩ := cpyL_gd (l := l) hb 5 (by omega)
  exact gd_ext (by omega) fun k hk => g2 k (by omega)
theorem rs_85 (h : Nat → List Int32) (s f xs : List Int32) : rs h s f xs 85 = h 85 := rs_ne (by decide) (by decide) (by decide)
theorem rs_91 (h : Nat → List Int32) (s f xs : List Int32) : rs h s f xs 91 = h 91 := rs_ne (by decide) (by decide) (by decide)
theorem rs_92 (h : Nat → List Int32) (s f xs : List Int32) : rs h s f xs 92 = h 92 := rs_ne (by decide) (by decide) (by decide)
theorem rs_u85 (h : Nat → List Int32) (s f xs l : List Int32) : up (rs h s f xs) 85 l = rs (up h 85 l) s f xs := rs_up (by decide) (by decide) (by decide)
theorem rs_u91 (h : Nat → List Int32) (s f xs l : List Int32) : up (rs h s f xs) 91 l = rs (up h 91 l) s f xs := rs_up (by decide) (by decide) (by decide)
theorem rs_u92 (h : Nat → List Int32) (s f xs l : List Int32) : up (rs h s f xs) 92 l = rs (up h 92 l) s f xs := rs_up (by decide) (by decide) (by decide)
theorem c_M_tries {d T set : Nat} {h0 h : Nat → List Int32} {s f xs : List Int32} {M : bM} {Q : Option Value → pm_S → Prop} (hw : WF T s) (hT : T < 2 ^ 30) (hset : set < 32) (hos : OS h0 h M) (ha : AG (h 91) 5) (hf : f.length = 6) (hx : xs.length = 64) (hQ : ∀ (h1 : Nat → List Int32) (f1 xs1 : List Int32), OS h0 h1 (stO (scF s set (h 91)) (h 91) M) → h1 91 = h 91 → f1.length = 6 → xs1.length = 64 → Q none (mk (rs h1 s f1 xs1))) : pm_WC fqP (d + 7) 148 [.ref 85, .int (nI set)] (mk (rs h s f xs)) Q := by
  have hl := wf_len hw
  obtain ⟨o1, o2, o3, o4, o5, o6, o7, o8, o9⟩ := hos
  have kq := fun K => @c_M_keeps (d + 5) h s f xs K hl o3
  have l91 : up h 88 (sl s 0 22) 91 = h 91 := up_ne (by decide)
  obtain ⟨gw, gm, gt⟩ := goBy_ok hw ha hT
  have gl := wf_len gw
  have c32 := cN_lt gw
  simp (maxDischargeDepth := 20) (maxSteps := 2000000) only [↓reduceIte, pm_WL_nil, bi_900, bi_901, bi_904, bi_905, pm_lget_0, pm_lget_s, pm_oI_s, pm_oA_s, pm_oJ_s, pm_oK_s, pm_oR_s, pm_oO_s, pm_oN_s, pm_oF_s, pm_oM_s, pm_oP_s, pm_pu_n, pm_pu_s, pm_bo_ne, pm_bo_eq, Nat.reduceAdd, Nat.reduceSub, Nat.reduceLT, Nat.reduceLeDiff, Nat.reduceEqDiff, Nat.zero_add, Nat.lt_add_one, Nat.zero_ne_one, Nat.succ_ne_self, List.length_cons, List.length_nil, true_and, and_true, true_or, or_true, false_or, or_false, false_implies, true_implies, implies_true, not_true_eq_false, not_false_eq_true, ne_eq, eq_self, e_M_triesLine, pm_okW_0, pm_okW_i, pm_okW_r, pm_okW_l, pm_ent_0, pm_ent_i, pm_ent_r, pm_ent_l, List.reduceReplicate, b_M_triesLine_0, b_M_triesLine_17, b_M_triesLine_34, b_M_triesLine_38, b_M_triesLine_39, b_M_triesLine_47, b_M_triesLine_59, b_M_triesLine_71, b_M_triesLine_89, f_aloadn0, iv_148_171_85, kk_n, kk_s, iv_148_183_85, w_iconst, ki_0, w_istore2, pm_lset_0, pm_lset_1, pm_lset_n, pm_no2_n, pm_no2_i, pm_no2_r, pm_no2_l, w_istore3, f_iloadn3, ki_5, w_icmp_ge, pm_tgt_is, Int.cast_ofNat_Int, Int.reduceNeg, Int.reduceAdd, Int.reduceToNat, Int.zero_add, Int.zero_le_ofNat, Int.reduceLE, if_true, if_false, f_iloadn2, gf_148_9_85, ki_1, w_iadd, f_iloadn1, w_ishr, w_iand, w_icmp_ne, w_goto, f_iinc3, iv_148_177_85, gf_148_186_85, w_icmp_le, pf_148_186_85, pm_fit_b, pm_fit_0, pm_fit_1, gf_148_31_85, gf_148_28_85, w_ret, kq]
  refine c_M_goesByLine (d := d + 1) hw hT (by rw [l91]; exact ha) hf hx ?_
  rw [l91]
  intro f2 xs2 hf2 hx2
  have hso : scF s set (h 91) ≤ 5 := eqc_le _ _ _
  -- behind the counting
  have fin : ∀ (x3 : Int32), pm_W fqP (d + 6) 148 47 [some (.ref 85), some (.int (nI set)), some (.int (nI (scF s set (h 91)))), some (.int x3)] [] (mk (rs (up h 88 (sl s 0 22)) (goBy s (h 91) 5) f2 xs2)) Q := by
    intro x3
    have bq := fun K => @c_M_goesBack (d + 5) (up h 88 (sl s 0 22)) (goBy s (h 91) 5) f2 xs2 K gl (by rw [up_at]; exact sl_len (by omega))
    have gb : giv (goBy s (h 91) 5) (up h 88 (sl s 0 22) 88) 22 = s := by rw [up_at]; exact giv_bk hl (sm_up gm (by omega))
    have u85 : up h 88 (sl s 0 22) 85 = h 85 := up_ne (by decide)
    by_cases q : nI (scF s set (h 91)) ≤ vM M
    · have q1 := eq_true q
      rw [b_M_triesLine_47]
      simp (maxDischargeDepth := 20) (maxSteps := 2000000) only [↓reduceIte, pm_WL_nil, bi_900, bi_901, bi_904, bi_905, pm_lget_0, pm_lget_s, pm_oI_s, pm_oA_s, pm_oJ_s, pm_oK_s, pm_oR_s, pm_oO_s, pm_oN_s, pm_oF_s, pm_oM_s, pm_oP_s, pm_pu_n, pm_pu_s, pm_bo_ne, pm_bo_eq, Nat.reduceAdd, Nat.reduceSub, Nat.reduceLT, Nat.reduceLeDiff, Nat.reduceEqDiff, Nat.zero_add, Nat.lt_add_one, Nat.zero_ne_one, Nat.succ_ne_self, List.length_cons, List.length_nil, true_and, and_true, true_or, or_true, false_or, or_false, false_implies, true_implies, implies_true, not_true_eq_false, not_false_eq_true, ne_eq, eq_self, e_M_triesLine, pm_okW_0, pm_okW_i, pm_okW_r, pm_okW_l, pm_ent_0, pm_ent_i, pm_ent_r, pm_ent_l, List.reduceReplicate, b_M_triesLine_0, b_M_triesLine_17, b_M_triesLine_34, b_M_triesLine_38, b_M_triesLine_39, b_M_triesLine_47, b_M_triesLine_59, b_M_triesLine_71, b_M_triesLine_89, f_aloadn0, iv_148_171_85, kk_n, kk_s, iv_148_183_85, w_iconst, ki_0, w_istore2, pm_lset_0, pm_lset_1, pm_lset_n, pm_no2_n, pm_no2_i, pm_no2_r, pm_no2_l, w_istore3, f_iloadn3, ki_5, w_icmp_ge, pm_tgt_is, Int.cast_ofNat_Int, Int.reduceNeg, Int.reduceAdd, Int.reduceToNat, Int.zero_add, Int.zero_le_ofNat, Int.reduceLE, if_true, if_false, f_iloadn2, gf_148_9_85, ki_1, w_iadd, f_iloadn1, w_ishr, w_iand, w_icmp_ne, w_goto, f_iinc3, iv_148_177_85, gf_148_186_85, w_icmp_le, pf_148_186_85, pm_fit_b, pm_fit_0, pm_fit_1, gf_148_31_85, gf_148_28_85, w_ret, hs_85, bq, gb, rs_85, u85, o8, q1]
      rw [st_le o9.1 hso q] at hQ
      exact hQ _ f2 xs2 ⟨fun k k1 k2 k3 k4 k5 k6 k7 => by rw [up_ne k3]; exact o1 k k1 k2 k3 k4 k5 k6 k7, by rw [u85]; exact o2, by rw [up_at]; exact sl_len (by omega), by rw [l91]; exact o4, by rw [up_ne (by decide)]; exact o5, by rw [u85]; exact o6, by rw [u85]; exact o7, by rw [u85]; exact o8, by rw [up_ne (by decide)]; exact o9⟩ l91 hf2 hx2
    · have q1 := eq_false q
      have g := [gd (h 85) 0, gd (h 85) 1, gd (h 85) 2, gd (h 85) 3, gd (h 85) 4, gd (h 85) 5, gd (h 85) 6, nI (scF s set (h 91)), gd (h 85) 8, gd (h 85) 9, gd (h 85) 10, gd (h 85) 11]
      have cp : ∀ j k : Nat, j + k = 5 → pm_W fqP (d + 6) 148 66 [some (.ref 85), some (.int (nI set)), some (.int (nI (scF s set (h 91)))), some (.int (nI k))] [] (mk (rs (up (up (up h 88 (sl s 0 22)) 85 [gd (h 85) 0, gd (h 85) 1, gd (h 85) 2, gd (h 85) 3, gd (h 85) 4, gd (h 85) 5, gd (h 85) 6, nI (scF s set (h 91)), gd (h 85) 8, gd (h 85) 9, gd (h 85) 10, gd (h 85) 11]) 92 (cpyL (h 92) (h 91) k)) s f2 xs2)) Q := by
        intro j
        induction j with
        | zero =>
          intro k hk
          have e1 : ((5 : Int32) ≤ nI k) = True := by rw [li_le 5 k (by omega) (by omega)]; exact eq_true (by omega)
          rw [b_M_triesLine_66]
          simp (maxDischargeDepth := 20) (maxSteps := 2000000) only [↓reduceIte, pm_WL_nil, bi_900, bi_901, bi_904, bi_905, pm_lget_0, pm_lget_s, pm_oI_s, pm_oA_s, pm_oJ_s, pm_oK_s, pm_oR_s, pm_oO_s, pm_oN_s, pm_oF_s, pm_oM_s, pm_oP_s, pm_pu_n, pm_pu_s, pm_bo_ne, pm_bo_eq, Nat.reduceAdd, Nat.reduceSub, Nat.reduceLT, Nat.reduceLeDiff, Nat.reduceEqDiff, Nat.zero_add, Nat.lt_add_one, Nat.zero_ne_one, Nat.succ_ne_self, List.length_cons, List.length_nil, true_and, and_true, true_or, or_true, false_or, or_false, false_implies, true_implies, implies_true, not_true_eq_false, not_false_eq_true, ne_eq, eq_self, e_M_triesLine, pm_okW_0, pm_okW_i, pm_okW_r, pm_okW_l, pm_ent_0, pm_ent_i, pm_ent_r, pm_ent_l, List.reduceReplicate, b_M_triesLine_0, b_M_triesLine_17, b_M_triesLine_34, b_M_triesLine_38, b_M_triesLine_39, b_M_triesLine_47, b_M_triesLine_59, b_M_triesLine_71, b_M_triesLine_89, f_aloadn0, iv_148_171_85, kk_n, kk_s, iv_148_183_85, w_iconst, ki_0, w_istore2, pm_lset_0, pm_lset_1, pm_lset_n, pm_no2_n, pm_no2_i, pm_no2_r, pm_no2_l, w_istore3, f_iloadn3, ki_5, w_icmp_ge, pm_tgt_is, Int.cast_ofNat_Int, Int.reduceNeg, Int.reduceAdd, Int.reduceToNat, Int.zero_add, Int.zero_le_ofNat, Int.reduceLE, if_true, if_false, f_iloadn2, gf_148_9_85, ki_1, w_iadd, f_iloadn1, w_ishr, w_iand, w_icmp_ne, w_goto, f_iinc3, iv_148_177_85, gf_148_186_85, w_icmp_le, pf_148_186_85, pm_fit_b, pm_fit_0, pm_fit_1, gf_148_31_85, gf_148_28_85, w_ret, e1]
          rw [show k = 5 by omega, cpyL_5 o5 o4]
          rw [st_gt o9.1 hso q] at hQ
          refine hQ _ f2 xs2 ⟨fun k k1 k2 k3 k4 k5 k6 k7 => by rw [up_ne k7, up_ne k1, up_ne k3]; exact o1 k k1 k2 k3 k4 k5 k6 k7, ?_, ?_, ?_, ?_, ?_, ?_, ?_, ?_⟩ ?_ hf2 hx2
          · rw [up_ne (by decide), up_at]; rfl
          · rw [up_ne (by decide), up_ne (by decide), up_at]; exact sl_len (by omega)
          · rw [up_ne (by decide), up_ne (by decide), up_ne (by decide)]; exact o4
          · rw [up_at]; exact o4
          · rw [up_ne (by decide), up_at]; exact o6
          · rw [up_ne (by decide), up_at]; exact o7
          · rw [up_ne (by decide), up_at]; rfl
          · rw [up_at]; exact ⟨hso, fun m c z => by cases z; rfl⟩
          · rw [up_ne (by decide), up_ne (by decide), up_ne (by decide)]
        | succ j ih =>
          intro k hk
          obtain ⟨g1, g2⟩ := cpyL_gd (l := h 91) o5 k (by omega)
          have e1 : ((5 : Int32) ≤ nI k) = False := by rw [li_le 5 k (by omega) (by omega)]; exact eq_false (by omega)
          have e2 : pm_inR (nI k) 5 = True := by rw [ni_inR (by omega)]; exact eq_true (by omega)
          have e3 : pm_rd (h 91) (nI k) = gd (h 91) k := ni_rd _ (by omega)
          have e4 : ∀ x, pm_wr (cpyL (h 92) (h 91) k) (nI k) x = (cpyL (h 92) (h 91) k).set k x := fun x => ni_wr _ x (by omega)
          have := ih (k + 1) (by omega)
          rw [cpyL] at this
          rw [b_M_triesLine_66]
          simp (maxDischargeDepth := 20) (maxSteps := 2000000) only [↓reduceIte, pm_WL_nil, bi_900, bi_901, bi_904, bi_905, pm_lget_0, pm_lget_s, pm_oI_s, pm_oA_s, pm_oJ_s, pm_oK_s, pm_oR_s, pm_oO_s, pm_oN_s, pm_oF_s, pm_oM_s, pm_oP_s, pm_pu_n, pm_pu_s, pm_bo_ne, pm_bo_eq, Nat.reduceAdd, Nat.reduceSub, Nat.reduceLT, Nat.reduceLeDiff, Nat.reduceEqDiff, Nat.zero_add, Nat.lt_add_one, Nat.zero_ne_one, Nat.succ_ne_self, List.length_cons, List.length_nil, true_and, and_true, true_or, or_true, false_or, or_false, false_implies, true_implies, implies_true, not_true_eq_false, not_false_eq_true, ne_eq, eq_self, e_M_triesLine, pm_okW_0, pm_okW_i, pm_okW_r, pm_okW_l, pm_ent_0, pm_ent_i, pm_ent_r, pm_ent_l, List.reduceReplicate, b_M_triesLine_0, b_M_triesLine_17, b_M_triesLine_34, b_M_triesLine_38, b_M_triesLine_39, b_M_triesLine_47, b_M_triesLine_59, b_M_triesLine_71, b_M_triesLine_89, f_aloadn0, iv_148_171_85, kk_n, kk_s, iv_148_183_85, w_iconst, ki_0, w_istore2, pm_lset_0, pm_lset_1, pm_lset_n, pm_no2_n, pm_no2_i, pm_no2_r, pm_no2_l, w_istore3, f_iloadn3, ki_5, w_icmp_ge, pm_tgt_is, Int.cast_ofNat_Int, Int.reduceNeg, Int.reduceAdd, Int.reduceToNat, Int.zero_add, Int.zero_le_ofNat, Int.reduceLE, if_true, if_false, f_iloadn2, gf_148_9_85, ki_1, w_iadd, f_iloadn1, w_ishr, w_iand, w_icmp_ne, w_goto, f_iinc3, iv_148_177_85, gf_148_186_85, w_icmp_le, pf_148_186_85, pm_fit_b, pm_fit_0, pm_fit_1, gf_148_31_85, gf_148_28_85, w_ret, hs_85, f_iald_91, f_alen_91, ia_91, ar_91, f_iast_91, iw_91, hs_91, f_iald_92, f_alen_92, ia_92, ar_92, f_iast_92, iw_92, hs_92, up_at, up_ne, up_up, gd_0, gd_s, rs_91, rs_92, rs_u92, g1, o4, e1, e2, e3, e4, ni_1]
          exact this
      have cp0 := cp 5 0 rfl
      have e9 : up (up (up h 88 (sl s 0 22)) 85 [gd (h 85) 0, gd (h 85) 1, gd (h 85) 2, gd (h 85) 3, gd (h 85) 4, gd (h 85) 5, gd (h 85) 6, nI (scF s set (h 91)), gd (h 85) 8, gd (h 85) 9, gd (h 85) 10, gd (h 85) 11]) 92 (cpyL (h 92) (h 91) 0) = up (up h 88 (sl s 0 22)) 85 [gd (h 85) 0, gd (h 85) 1, gd (h 85) 2, gd (h 85) 3, gd (h 85) 4, gd (h 85) 5, gd (h 85) 6, nI (scF s set (h 91)), gd (h 85) 8, gd (h 85) 9, gd (h 85) 10, gd (h 85) 11] := by
        have := up_id (up (up h 88 (sl s 0 22)) 85 [gd (h 85) 0, gd (h 85) 1, gd (h 85) 2, gd (h 85) 3, gd (h 85) 4, gd (h 85) 5, gd (h 85) 6, nI (scF s set (h 91)), gd (h 85) 8, gd (h 85) 9, gd (h 85) 10, gd (h 85) 11]) 92
        rw [up_ne (by decide), up_ne (by decide)] at this
        exact this
      rw [e9] at cp0
      rw [b_M_triesLine_47]
      simp (maxDischargeDepth := 20) (maxSteps := 2000000) only [↓reduceIte, pm_WL_nil, bi_900, bi_901, bi_904, bi_905, pm_lget_0, pm_lget_s, pm_oI_s, pm_oA_s, pm_oJ_s, pm_oK_s, pm_oR_s, pm_oO_s, pm_oN_s, pm_oF_s, pm_oM_s, pm_oP_s, pm_pu_n, pm_pu_s, pm_bo_ne, pm_bo_eq, Nat.reduceAdd, Nat.reduceSub, Nat.reduceLT, Nat.reduceLeDiff, Nat.reduceEqDiff, Nat.zero_add, Nat.lt_add_one, Nat.zero_ne_one, Nat.succ_ne_self, List.length_cons, List.length_nil, true_and, and_true, true_or, or_true, false_or, or_false, false_implies, true_implies, implies_true, not_true_eq_false, not_false_eq_true, ne_eq, eq_self, e_M_triesLine, pm_okW_0, pm_okW_i, pm_okW_r, pm_okW_l, pm_ent_0, pm_ent_i, pm_ent_r, pm_ent_l, List.reduceReplicate, b_M_triesLine_0, b_M_triesLine_17, b_M_triesLine_34, b_M_triesLine_38, b_M_triesLine_39, b_M_triesLine_47, b_M_triesLine_59, b_M_triesLine_71, b_M_triesLine_89, f_aloadn0, iv_148_171_85, kk_n, kk_s, iv_148_183_85, w_iconst, ki_0, w_istore2, pm_lset_0, pm_lset_1, pm_lset_n, pm_no2_n, pm_no2_i, pm_no2_r, pm_no2_l, w_istore3, f_iloadn3, ki_5, w_icmp_ge, pm_tgt_is, Int.cast_ofNat_Int, Int.reduceNeg, Int.reduceAdd, Int.reduceToNat, Int.zero_add, Int.zero_le_ofNat, Int.reduceLE, if_true, if_false, f_iloadn2, gf_148_9_85, ki_1, w_iadd, f_iloadn1, w_ishr, w_iand, w_icmp_ne, w_goto, f_iinc3, iv_148_177_85, gf_148_186_85, w_icmp_le, pf_148_186_85, pm_fit_b, pm_fit_0, pm_fit_1, gf_148_31_85, gf_148_28_85, w_ret, hs_85, bq, gb, rs_85, rs_u85, u85, o8, q1]
      exact cp0
  have key : ∀ j k : Nat, j + k = 5 → pm_W fqP (d + 6) 148 12 [some (.ref 85), some (.int (nI set)), some (.int (nI (eqc (cN (goBy s (h 91) 5)) set k))), some (.int (nI k))] [] (mk (rs (up h 88 (sl s 0 22)) (goBy s (h 91) 5) f2 xs2)) Q := by
    intro j
    induction j with
    | zero =>
      intro k hk
      have e1 : ((5 : Int32) ≤ nI k) = True := by rw [li_le 5 k (by omega) (by omega)]; exact eq_true (by omega)
      have e : k = 5 := by omega
      subst e
      rw [b_M_triesLine_12]
      simp (maxDischargeDepth := 20) (maxSteps := 2000000) only [↓reduceIte, pm_WL_nil, bi_900, bi_901, bi_904, bi_905, pm_lget_0, pm_lget_s, pm_oI_s, pm_oA_s, pm_oJ_s, pm_oK_s, pm_oR_s, pm_oO_s, pm_oN_s, pm_oF_s, pm_oM_s, pm_oP_s, pm_pu_n, pm_pu_s, pm_bo_ne, pm_bo_eq, Nat.reduceAdd, Nat.reduceSub, Nat.reduceLT, Nat.reduceLeDiff, Nat.reduceEqDiff, Nat.zero_add, Nat.lt_add_one, Nat.zero_ne_one, Nat.succ_ne_self, List.length_cons, List.length_nil, true_and, and_true, true_or, or_true, false_or, or_false, false_implies, true_implies, implies_true, not_true_eq_false, not_false_eq_true, ne_eq, eq_self, e_M_triesLine, pm_okW_0, pm_okW_i, pm_okW_r, pm_okW_l, pm_ent_0, pm_ent_i, pm_ent_r, pm_ent_l, List.reduceReplicate, b_M_triesLine_0, b_M_triesLine_17, b_M_triesLine_34, b_M_triesLine_38, b_M_triesLine_39, b_M_triesLine_59, b_M_triesLine_71, b_M_triesLine_89, f_aloadn0, iv_148_171_85, kk_n, kk_s, iv_148_183_85, w_iconst, ki_0, w_istore2, pm_lset_0, pm_lset_1, pm_lset_n, pm_no2_n, pm_no2_i, pm_no2_r, pm_no2_l, w_istore3, f_iloadn3, ki_5, w_icmp_ge, pm_tgt_is, Int.cast_ofNat_Int, Int.reduceNeg, Int.reduceAdd, Int.reduceToNat, Int.zero_add, Int.zero_le_ofNat, Int.reduceLE, if_true, if_false, f_iloadn2, gf_148_9_85, ki_1, w_iadd, f_iloadn1, w_ishr, w_iand, w_icmp_ne, w_goto, f_iinc3, iv_148_177_85, gf_148_186_85, w_icmp_le, pf_148_186_85, pm_fit_b, pm_fit_0, pm_fit_1, gf_148_31_85, gf_148_28_85, w_ret, e1]
      exact fin _
    | succ j ih =>
      intro k hk
      have e1 : ((5 : Int32) ≤ nI k) = False := by rw [li_le 5 k (by omega) (by omega)]; exact eq_false (by omega)
      obtain ⟨ra, rb, rc⟩ := ix (j := 1 + k) (by omega)
      obtain ⟨w1, w2⟩ := wf_c gw (m := k) (by omega)
      have e2 : nI set >>> (nI k &&& 31) &&& 1 = nI (tb set k) := bt_n _ (by omega) _ (by omega)
      have tlt := tb_lt set k
      have e3 : (nI (nN (goBy s (h 91) 5) (1 + k)) = nI (tb set k)) = (nN (goBy s (h 91) 5) (1 + k) = tb set k) := ni_eq (by omega) (by omega)
      have := ih (k + 1) (by omega)
      rw [eqc, tb_c gw (by omega)] at this
      rw [b_M_triesLine_12]
      by_cases q : nN (goBy s (h 91) 5) (1 + k) = tb set k
      · have q1 := eq_true q
        rw [if_pos q] at this
        simp (maxDischargeDepth := 20) (maxSteps := 2000000) only [↓reduceIte, pm_WL_nil, bi_900, bi_901, bi_904, bi_905, pm_lget_0, pm_lget_s, pm_oI_s, pm_oA_s, pm_oJ_s, pm_oK_s, pm_oR_s, pm_oO_s, pm_oN_s, pm_oF_s, pm_oM_s, pm_oP_s, pm_pu_n, pm_pu_s, pm_bo_ne, pm_bo_eq, Nat.reduceAdd, Nat.reduceSub, Nat.reduceLT, Nat.reduceLeDiff, Nat.reduceEqDiff, Nat.zero_add, Nat.lt_add_one, Nat.zero_ne_one, Nat.succ_ne_self, List.length_cons, List.length_nil, true_and, and_true, true_or, or_true, false_or, or_false, false_implies, true_implies, implies_true, not_true_eq_false, not_false_eq_true, ne_eq, eq_self, e_M_triesLine, pm_okW_0, pm_okW_i, pm_okW_r, pm_okW_l, pm_ent_0, pm_ent_i, pm_ent_r, pm_ent_l, List.reduceReplicate, b_M_triesLine_0, b_M_triesLine_17, b_M_triesLine_34, b_M_triesLine_38, b_M_triesLine_39, b_M_triesLine_59, b_M_triesLine_71, b_M_triesLine_89, f_aloadn0, iv_148_171_85, kk_n, kk_s, iv_148_183_85, w_iconst, ki_0, w_istore2, pm_lset_0, pm_lset_1, pm_lset_n, pm_no2_n, pm_no2_i, pm_no2_r, pm_no2_l, w_istore3, f_iloadn3, ki_5, w_icmp_ge, pm_tgt_is, Int.cast_ofNat_Int, Int.reduceNeg, Int.reduceAdd, Int.reduceToNat, Int.zero_add, Int.zero_le_ofNat, Int.reduceLE, if_true, if_false, f_iloadn2, gf_148_9_85, ki_1, w_iadd, f_iloadn1, w_ishr, w_iand, w_icmp_ne, w_goto, f_iinc3, iv_148_177_85, gf_148_186_85, w_icmp_le, pf_148_186_85, pm_fit_b, pm_fit_0, pm_fit_1, gf_148_31_85, gf_148_28_85, w_ret, hs_85, f_iald_86, f_alen_86, ia_86, ar_86, f_iast_86, iw_86, hs_86, lia_0, lrd_0, lin_0, lwr_0, lia_1, lrd_1, lin_1, lwr_1, lia_2, lrd_2, lin_2, lwr_2, lia_3, lrd_3, lin_3, lwr_3, lia_4, lrd_4, lin_4, lwr_4, lia_5, lrd_5, lin_5, lwr_5, lia_6, lrd_6, lin_6, lwr_6, lia_12, lrd_12, lin_12, lwr_12, lia_18, lrd_18, lin_18, lwr_18, lia_22, lrd_22, lin_22, lwr_22, lia_23, lrd_23, lin_23, lwr_23, lia_24, lrd_24, lin_24, lwr_24, lia_25, lrd_25, lin_25, lwr_25, lia_26, lrd_26, lin_26, lwr_26, lia_27, lrd_27, lin_27, lwr_27, lia_28, lrd_28, lin_28, lwr_28, lia_29, lrd_29, lin_29, lwr_29, lia_30, lrd_30, lin_30, lwr_30, lia_36, lrd_36, lin_36, lwr_36, lia_42, lrd_42, lin_42, lwr_42, lia_48, lrd_48, lin_48, lwr_48, lia_72, lrd_72, lin_72, lwr_72, lia_77, lrd_77, lin_77, lwr_77, lia_82, lrd_82, lin_82, lwr_82, lia_87, lrd_87, lin_87, lwr_87, lia_92, lrd_92, lin_92, lwr_92, lia_100, lrd_100, lin_100, lwr_100, lia_108, lrd_108, lin_108, lwr_108, lia_116, lrd_116, lin_116, lwr_116, lia_124, lrd_124, lin_124, lwr_124, lia_224, lrd_224, lin_224, lwr_224, lia_229, lrd_229, lin_229, lwr_229, lia_234, lrd_234, lin_234, lwr_234, rs_86, gl, e1, ra, rc, w1, e2, e3, q1, ni_1]
        exact this
      · have q1 := eq_false q
        rw [if_neg q] at this
        simp (maxDischargeDepth := 20) (maxSteps := 2000000) only [↓reduceIte, pm_WL_nil, bi_900, bi_901, bi_904, bi_905, pm_lget_0, pm_lget_s, pm_oI_s, pm_oA_s, pm_oJ_s, pm_oK_s, pm_oR_s, pm_oO_s, pm_oN_s, pm_oF_s, pm_oM_s, pm_oP_s, pm_pu_n, pm_pu_s, pm_bo_ne, pm_bo_eq, Nat.reduceAdd, Nat.reduceSub, Nat.reduceLT, Nat.reduceLeDiff, Nat.reduceEqDiff, Nat.zero_add, Nat.lt_add_one, Nat.zero_ne_one, Nat.succ_ne_self, List.length_cons, List.length_nil, true_and, and_true, true_or, or_true, false_or, or_false, false_implies, true_implies, implies_true, not_true_eq_false, not_false_eq_true, ne_eq, eq_self, e_M_triesLine, pm_okW_0, pm_okW_i, pm_okW_r, pm_okW_l, pm_ent_0, pm_ent_i, pm_ent_r, pm_ent_l, List.reduceReplicate, b_M_triesLine_0, b_M_triesLine_17, b_M_triesLine_34, b_M_triesLine_38, b_M_triesLine_39, b_M_triesLine_59, b_M_triesLine_71, b_M_triesLine_89, f_aloadn0, iv_148_171_85, kk_n, kk_s, iv_148_183_85, w_iconst, ki_0, w_istore2, pm_lset_0, pm_lset_1, pm_lset_n, pm_no2_n, pm_no2_i, pm_no2_r, pm_no2_l, w_istore3, f_iloadn3, ki_5, w_icmp_ge, pm_tgt_is, Int.cast_ofNat_Int, Int.reduceNeg, Int.reduceAdd, Int.reduceToNat, Int.zero_add, Int.zero_le_ofNat, Int.reduceLE, if_true, if_false, f_iloadn2, gf_148_9_85, ki_1, w_iadd, f_iloadn1, w_ishr, w_iand, w_icmp_ne, w_goto, f_iinc3, iv_148_177_85, gf_148_186_85, w_icmp_le, pf_148_186_85, pm_fit_b, pm_fit_0, pm_fit_1, gf_148_31_85, gf_148_28_85, w_ret, hs_85, f_iald_86, f_alen_86, ia_86, ar_86, f_iast_86, iw_86, hs_86, lia_0, lrd_0, lin_0, lwr_0, lia_1, lrd_1, lin_1, lwr_1, lia_2, lrd_2, lin_2, lwr_2, lia_3, lrd_3, lin_3, lwr_3, lia_4, lrd_4, lin_4, lwr_4, lia_5, lrd_5, lin_5, lwr_5, lia_6, lrd_6, lin_6, lwr_6, lia_12, lrd_12, lin_12, lwr_12, lia_18, lrd_18, lin_18, lwr_18, lia_22, lrd_22, lin_22, lwr_22, lia_23, lrd_23, lin_23, lwr_23, lia_24, lrd_24, lin_24, lwr_24, lia_25, lrd_25, lin_25, lwr_25, lia_26, lrd_26, lin_26, lwr_26, lia_27, lrd_27, lin_27, lwr_27, lia_28, lrd_28, lin_28, lwr_28, lia_29, lrd_29, lin_29, lwr_29, lia_30, lrd_30, lin_30, lwr_30, lia_36, lrd_36, lin_36, lwr_36, lia_42, lrd_42, lin_42, lwr_42, lia_48, lrd_48, lin_48, lwr_48, lia_72, lrd_72, lin_72, lwr_72, lia_77, lrd_77, lin_77, lwr_77, lia_82, lrd_82, lin_82, lwr_82, lia_87, lrd_87, lin_87, lwr_87, lia_92, lrd_92, lin_92, lwr_92, lia_100, lrd_100, lin_100, lwr_100, lia_108, lrd_108, lin_108, lwr_108, lia_116, lrd_116, lin_116, lwr_116, lia_124, lrd_124, lin_124, lwr_124, lia_224, lrd_224, lin_224, lwr_224, lia_229, lrd_229, lin_229, lwr_229, lia_234, lrd_234, lin_234, lwr_234, rs_86, gl, e1, ra, rc, w1, e2, e3, q1, ni_1, Int32.add_zero]
        exact this
  simp (maxDischargeDepth := 20) (maxSteps := 2000000) only [↓reduceIte, pm_WL_nil, bi_900, bi_901, bi_904, bi_905, pm_lget_0, pm_lget_s, pm_oI_s, pm_oA_s, pm_oJ_s, pm_oK_s, pm_oR_s, pm_oO_s, pm_oN_s, pm_oF_s, pm_oM_s, pm_oP_s, pm_pu_n, pm_pu_s, pm_bo_ne, pm_bo_eq, Nat.reduceAdd, Nat.reduceSub, Nat.reduceLT, Nat.reduceLeDiff, Nat.reduceEqDiff, Nat.zero_add, Nat.lt_add_one, Nat.zero_ne_one, Nat.succ_ne_self, List.length_cons, List.length_nil, true_and, and_true, true_or, or_true, false_or, or_false, false_implies, true_implies, implies_true, not_true_eq_false, not_false_eq_true, ne_eq, eq_self, e_M_triesLine, pm_okW_0, pm_okW_i, pm_okW_r, pm_okW_l, pm_ent_0, pm_ent_i, pm_ent_r, pm_ent_l, List.reduceReplicate, b_M_triesLine_0, b_M_triesLine_17, b_M_triesLine_34, b_M_triesLine_38, b_M_triesLine_39, b_M_triesLine_47, b_M_triesLine_59, b_M_triesLine_71, b_M_triesLine_89, f_aloadn0, iv_148_171_85, kk_n, kk_s, iv_148_183_85, w_iconst, ki_0, w_istore2, pm_lset_0, pm_lset_1, pm_lset_n, pm_no2_n, pm_no2_i, pm_no2_r, pm_no2_l, w_istore3, f_iloadn3, ki_5, w_icmp_ge, pm_tgt_is, Int.cast_ofNat_Int, Int.reduceNeg, Int.reduceAdd, Int.reduceToNat, Int.zero_add, Int.zero_le_ofNat, Int.reduceLE, if_true, if_false, f_iloadn2, gf_148_9_85, ki_1, w_iadd, f_iloadn1, w_ishr, w_iand, w_icmp_ne, w_goto, f_iinc3, iv_148_177_85, gf_148_186_85, w_icmp_le, pf_148_186_85, pm_fit_b, pm_fit_0, pm_fit_1, gf_148_31_85, gf_148_28_85, w_ret]
  exact key 5 0 rfl
theorem foO_app (s : List Int32) (set : Nat) (M : bM) (A B : List (List Int32)) : foO s set M (A ++ B) = foO s set (foO s set M A) B := by unfold foO; rw [List.foldl_append]
theorem rest_b : ∀ rest, rest < 32 → ∀ m, m < 5 → (tb rest m = 1 → rest - 2 ^ m < 32 ∧ pc (rest - 2 ^ m) 5 + 1 = pc rest 5 ∧ nI rest &&& (((1 : Int32) <<< (nI m &&& 31)) ^^^ -1) = nI (rest - 2 ^ m)) := by decide +kernel
theorem rest_0 : ∀ rest, rest < 32 → (pc rest 5 = 0 → rest = 0) := by decide +kernel
theorem c_M_lines {T set : Nat} {h0 : Nat → List Int32} {s : List Int32} (hw : WF T s) (hT : T < 2 ^ 30) (hset : set < 32) : ∀ (f : Nat) (d k rest : Nat) (pre : List Int32) (h : Nat → List Int32) (M : bM) (g xs : List Int32) (Q : Option Value → pm_S → Prop), f + k = 5 → rest < 32 → pc rest 5 = f → pre.length = k → (∀ i, i < k → gd (h 91) i = gd pre i ∧ ∃ a, a < 5 ∧ gd pre i = nI a) → OS h0 h M → g.length = 6 → xs.length = 64 →
    (∀ (h1 : Nat → List Int32) (g1 xs1 : List Int32), OS h0 h1 (foO s set M (lns f rest pre)) → (∀ i, i < k → gd (h1 91) i = gd pre i) → g1.length = 6 → xs1.length = 64 → Q none (mk (rs h1 s g1 xs1))) → pm_WC fqP (d + f + 8) 149 [.ref 85, .int (nI k), .int (nI rest), .int (nI set)] (mk (rs h s g xs)) Q := by
  intro f
  induction f with
  | zero =>
    intro d k rest pre h M g xs Q hk hr hpc hpre hpx hos hg hx hQ
    have r0 := rest_0 rest hr hpc
    subst r0
    have k5 : k = 5 := by omega
    subst k5
    have l91 := hos.2.2.2.1
    have hag : AG (h 91) 5 := by
      refine ⟨l91, by omega, fun i hi => ?_⟩
      obtain ⟨e, a, ha, ea⟩ := hpx i hi
      have : gd (h 91) i = nI a := e.trans ea
      have n : nN (h 91) i = a := by unfold nN; rw [this, ni_nat (by omega)]
      rw [n, this]; exact ⟨rfl, ha⟩
    have ep : h 91 = pre := gd_ext (by omega) fun i hi => (hpx i (by omega)).1
    -- no motion is left
    have tail : ∀ (j m : Nat) (h1 : Nat → List Int32) (g1 xs1 : List Int32), j + m = 5 → Q none (mk (rs h1 s g1 xs1)) → pm_W fqP (d + 7) 149 12 [some (.ref 85), some (.int (nI 5)), some (.int (nI 0)), some (.int (nI set)), some (.int (nI m))] [] (mk (rs h1 s g1 xs1)) Q := by
      intro j
      induction j with
      | zero =>
        intro m h1 g1 xs1 hm q
        have e1 : ((5 : Int32) ≤ nI m) = True := by rw [li_le 5 m (by omega) (by omega)]; exact eq_true (by omega)
        rw [b_M_linesFrom_12]
        simp (maxDischargeDepth := 20) (maxSteps := 2000000) only [↓reduceIte, pm_WL_nil, bi_900, bi_901, bi_904, bi_905, pm_lget_0, pm_lget_s, pm_oI_s, pm_oA_s, pm_oJ_s, pm_oK_s, pm_oR_s, pm_oO_s, pm_oN_s, pm_oF_s, pm_oM_s, pm_oP_s, pm_pu_n, pm_pu_s, pm_bo_ne, pm_bo_eq, Nat.reduceAdd, Nat.reduceSub, Nat.reduceLT, Nat.reduceLeDiff, Nat.reduceEqDiff, Nat.zero_add, Nat.lt_add_one, Nat.zero_ne_one, Nat.succ_ne_self, List.length_cons, List.length_nil, true_and, and_true, true_or, or_true, false_or, or_false, false_implies, true_implies, implies_true, not_true_eq_false, not_false_eq_true, ne_eq, eq_self, e_M_linesFrom, pm_okW_0, pm_okW_i, pm_okW_r, pm_okW_l, pm_ent_0, pm_ent_i, pm_ent_r, pm_ent_l, List.reduceReplicate, b_M_linesFrom_0, b_M_linesFrom_4, b_M_linesFrom_9, b_M_linesFrom_18, b_M_linesFrom_28, b_M_linesFrom_52, b_M_linesFrom_58, f_iloadn2, w_if_ne, pm_tgt_is, Int.cast_ofNat_Int, Int.reduceNeg, Int.reduceAdd, Int.reduceToNat, Int.zero_add, Int.zero_le_ofNat, Int.reduceLE, nz_1, nz_m1, if_true, if_false, f_aloadn0, f_iloadn3, iv_149_189_85, kk_n, kk_s, w_iconst, ki_0, w_istore, pm_lset_0, pm_lset_1, pm_lset_n, pm_no2_n, pm_no2_i, pm_no2_r, pm_no2_l, f_iload4, ki_5, w_icmp_ge, w_ishr, ki_1, w_iand, w_icmp_ne, gf_149_28_85, f_iloadn1, w_iadd, w_ishl, ki_m1, w_ixor, iv_149_192_85, f_iinc4, w_goto, w_ret, e1]
        exact q
      | succ j ih =>
        intro m h1 g1 xs1 hm q
        have e1 : ((5 : Int32) ≤ nI m) = False := by rw [li_le 5 m (by omega) (by omega)]; exact eq_false (by omega)
        have e2 : nI 0 >>> (nI m &&& 31) &&& 1 = nI (tb 0 m) := bt_n 0 (by omega) _ (by omega)
        have e3 : tb 0 m = 0 := by unfold tb; rw [Nat.zero_div]
        have e4 : (nI 0 = 1) = False := eq_false (by decide)
        rw [e3] at e2
        rw [b_M_linesFrom_12]
        simp (maxDischargeDepth := 20) (maxSteps := 2000000) only [↓reduceIte, pm_WL_nil, bi_900, bi_901, bi_904, bi_905, pm_lget_0, pm_lget_s, pm_oI_s, pm_oA_s, pm_oJ_s, pm_oK_s, pm_oR_s, pm_oO_s, pm_oN_s, pm_oF_s, pm_oM_s, pm_oP_s, pm_pu_n, pm_pu_s, pm_bo_ne, pm_bo_eq, Nat.reduceAdd, Nat.reduceSub, Nat.reduceLT, Nat.reduceLeDiff, Nat.reduceEqDiff, Nat.zero_add, Nat.lt_add_one, Nat.zero_ne_one, Nat.succ_ne_self, List.length_cons, List.length_nil, true_and, and_true, true_or, or_true, false_or, or_false, false_implies, true_implies, implies_true, not_true_eq_false, not_false_eq_true, ne_eq, eq_self, e_M_linesFrom, pm_okW_0, pm_okW_i, pm_okW_r, pm_okW_l, pm_ent_0, pm_ent_i, pm_ent_r, pm_ent_l, List.reduceReplicate, b_M_linesFrom_0, b_M_linesFrom_4, b_M_linesFrom_9, b_M_linesFrom_18, b_M_linesFrom_28, b_M_linesFrom_52, b_M_linesFrom_58, f_iloadn2, w_if_ne, pm_tgt_is, Int.cast_ofNat_Int, Int.reduceNeg, Int.reduceAdd, Int.reduceToNat, Int.zero_add, Int.zero_le_ofNat, Int.reduceLE, nz_1, nz_m1, if_true, if_false, f_aloadn0, f_iloadn3, iv_149_189_85, kk_n, kk_s, w_iconst, ki_0, w_istore, pm_lset_0, pm_lset_1, pm_lset_n, pm_no2_n, pm_no2_i, pm_no2_r, pm_no2_l, f_iload4, ki_5, w_icmp_ge, w_ishr, ki_1, w_iand, w_icmp_ne, gf_149_28_85, f_iloadn1, w_iadd, w_ishl, ki_m1, w_ixor, iv_149_192_85, f_iinc4, w_goto, w_ret, e1, e2, e4, ni_1]
        exact ih (m + 1) h1 g1 xs1 (by omega) q
    have z0 : (nI 0 = 0) = True := eq_true rfl
    rw [show d + 0 + 8 = d + 8 from rfl]
    simp (maxDischargeDepth := 20) (maxSteps := 2000000) only [↓reduceIte, pm_WL_nil, bi_900, bi_901, bi_904, bi_905, pm_lget_0, pm_lget_s, pm_oI_s, pm_oA_s, pm_oJ_s, pm_oK_s, pm_oR_s, pm_oO_s, pm_oN_s, pm_oF_s, pm_oM_s, pm_oP_s, pm_pu_n, pm_pu_s, pm_bo_ne, pm_bo_eq, Nat.reduceAdd, Nat.reduceSub, Nat.reduceLT, Nat.reduceLeDiff, Nat.reduceEqDiff, Nat.zero_add, Nat.lt_add_one, Nat.zero_ne_one, Nat.succ_ne_self, List.length_cons, List.length_nil, true_and, and_true, true_or, or_true, false_or, or_false, false_implies, true_implies, implies_true, not_true_eq_false, not_false_eq_true, ne_eq, eq_self, e_M_linesFrom, pm_okW_0, pm_okW_i, pm_okW_r, pm_okW_l, pm_ent_0, pm_ent_i, pm_ent_r, pm_ent_l, List.reduceReplicate, b_M_linesFrom_0, b_M_linesFrom_4, b_M_linesFrom_9, b_M_linesFrom_18, b_M_linesFrom_28, b_M_linesFrom_52, b_M_linesFrom_58, f_iloadn2, w_if_ne, pm_tgt_is, Int.cast_ofNat_Int, Int.reduceNeg, Int.reduceAdd, Int.reduceToNat, Int.zero_add, Int.zero_le_ofNat, Int.reduceLE, nz_1, nz_m1, if_true, if_false, f_aloadn0, f_iloadn3, iv_149_189_85, kk_n, kk_s, w_iconst, ki_0, w_istore, pm_lset_0, pm_lset_1, pm_lset_n, pm_no2_n, pm_no2_i, pm_no2_r, pm_no2_l, f_iload4, ki_5, w_icmp_ge, w_ishr, ki_1, w_iand, w_icmp_ne, gf_149_28_85, f_iloadn1, w_iadd, w_ishl, ki_m1, w_ixor, iv_149_192_85, f_iinc4, w_goto, w_ret, z0]
    refine c_M_tries (d := d) hw hT hset hos hag hg hx ?_
    intro h1 f1 xs1 ho1 e91 hf1 hx1
    simp (maxDischargeDepth := 20) (maxSteps := 2000000) only [↓reduceIte, pm_WL_nil, bi_900, bi_901, bi_904, bi_905, pm_lget_0, pm_lget_s, pm_oI_s, pm_oA_s, pm_oJ_s, pm_oK_s, pm_oR_s, pm_oO_s, pm_oN_s, pm_oF_s, pm_oM_s, pm_oP_s, pm_pu_n, pm_pu_s, pm_bo_ne, pm_bo_eq, Nat.reduceAdd, Nat.reduceSub, Nat.reduceLT, Nat.reduceLeDiff, Nat.reduceEqDiff, Nat.zero_add, Nat.lt_add_one, Nat.zero_ne_one, Nat.succ_ne_self, List.length_cons, List.length_nil, true_and, and_true, true_or, or_true, false_or, or_false, false_implies, true_implies, implies_true, not_true_eq_false, not_false_eq_true, ne_eq, eq_self, e_M_linesFrom, pm_okW_0, pm_okW_i, pm_okW_r, pm_okW_l, pm_ent_0, pm_ent_i, pm_ent_r, pm_ent_l, List.reduceReplicate, b_M_linesFrom_0, b_M_linesFrom_4, b_M_linesFrom_9, b_M_linesFrom_18, b_M_linesFrom_28, b_M_linesFrom_52, b_M_linesFrom_58, f_iloadn2, w_if_ne, pm_tgt_is, Int.cast_ofNat_Int, Int.reduceNeg, Int.reduceAdd, Int.reduceToNat, Int.zero_add, Int.zero_le_ofNat, Int.reduceLE, nz_1, nz_m1, if_true, if_false, f_aloadn0, f_iloadn3, iv_149_189_85, kk_n, kk_s, w_iconst, ki_0, w_istore, pm_lset_0, pm_lset_1, pm_lset_n, pm_no2_n, pm_no2_i, pm_no2_r, pm_no2_l, f_iload4, ki_5, w_icmp_ge, w_ishr, ki_1, w_iand, w_icmp_ne, gf_149_28_85, f_iloadn1, w_iadd, w_ishl, ki_m1, w_ixor, iv_149_192_85, f_iinc4, w_goto, w_ret]
    refine tail 5 0 h1 f1 xs1 rfl (hQ h1 f1 xs1 ?_ (fun i hi => by rw [e91]; exact (hpx i hi).1) hf1 hx1)
    rw [← ep]; exact ho1
  | succ f ih =>
    intro d k rest pre h M g xs Q hk hr hpc hpre hpx hos hg hx hQ
    have rn : ¬ rest = 0 := fun e => by subst e; exact absurd hpc (by unfold pc; simp [pc, tb])
    have z0 : (nI rest = 0) = False := by rw [il_eq 0 rest (by omega) (by omega)]; exact eq_false rn
    have key : ∀ (j m : Nat) (h1 : Nat → List Int32) (M1 : bM) (g1 xs1 : List Int32), j + m = 5 → OS h0 h1 M1 → (∀ i, i < k → gd (h1 91) i = gd pre i) → g1.length = 6 → xs1.length = 64 → foO s set M1 (lnT rest (fun m => lns f (rest - 2 ^ m) (pre ++ [nI m])) j) = foO s set M (lns (f + 1) rest pre) → pm_W fqP (d + f + 8) 149 12 [some (.ref 85), some (.int (nI k)), some (.int (nI rest)), some (.int (nI set)), some (.int (nI m))] [] (mk (rs h1 s g1 xs1)) Q := by
      intro j
      induction j with
      | zero =>
        intro m h1 M1 g1 xs1 hm ho1 hp1 hg1 hx1 he
        have e1 : ((5 : Int32) ≤ nI m) = True := by rw [li_le 5 m (by omega) (by omega)]; exact eq_true (by omega)
        rw [b_M_linesFrom_12]
        simp (maxDischargeDepth := 20) (maxSteps := 2000000) only [↓reduceIte, pm_WL_nil, bi_900, bi_901, bi_904, bi_905, pm_lget_0, pm_lget_s, pm_oI_s, pm_oA_s, pm_oJ_s, pm_oK_s, pm_oR_s, pm_oO_s, pm_oN_s, pm_oF_s, pm_oM_s, pm_oP_s, pm_pu_n, pm_pu_s, pm_bo_ne, pm_bo_eq, Nat.reduceAdd, Nat.reduceSub, Nat.reduceLT, Nat.reduceLeDiff, Nat.reduceEqDiff, Nat.zero_add, Nat.lt_add_one, Nat.zero_ne_one, Nat.succ_ne_self, List.length_cons, List.length_nil, true_and, and_true, true_or, or_true, false_or, or_false, false_implies, true_implies, implies_true, not_true_eq_false, not_false_eq_true, ne_eq, eq_self, e_M_linesFrom, pm_okW_0, pm_okW_i, pm_okW_r, pm_okW_l, pm_ent_0, pm_ent_i, pm_ent_r, pm_ent_l, List.reduceReplicate, b_M_linesFrom_0, b_M_linesFrom_4, b_M_linesFrom_9, b_M_linesFrom_18, b_M_linesFrom_28, b_M_linesFrom_52, b_M_linesFrom_58, f_iloadn2, w_if_ne, pm_tgt_is, Int.cast_ofNat_Int, Int.reduceNeg, Int.reduceAdd, Int.reduceToNat, Int.zero_add, Int.zero_le_ofNat, Int.reduceLE, nz_1, nz_m1, if_true, if_false, f_aloadn0, f_iloadn3, iv_149_189_85, kk_n, kk_s, w_iconst, ki_0, w_istore, pm_lset_0, pm_lset_1, pm_lset_n, pm_no2_n, pm_no2_i, pm_no2_r, pm_no2_l, f_iload4, ki_5, w_icmp_ge, w_ishr, ki_1, w_iand, w_icmp_ne, gf_149_28_85, f_iloadn1, w_iadd, w_ishl, ki_m1, w_ixor, iv_149_192_85, f_iinc4, w_goto, w_ret, e1]
        exact hQ h1 g1 xs1 (by rw [← he]; exact ho1) hp1 hg1 hx1
      | succ j ihj =>
        intro m h1 M1 g1 xs1 hm ho1 hp1 hg1 hx1 he
        have e1 : ((5 : Int32) ≤ nI m) = False := by rw [li_le 5 m (by omega) (by omega)]; exact eq_false (by omega)
        have e2 : nI rest >>> (nI m &&& 31) &&& 1 = nI (tb rest m) := bt_n _ (by omega) _ (by omega)
        have em : 4 - j = m := by omega
        rw [lnT, em, foO_app] at he
        have tlt := tb_lt rest m
        rw [b_M_linesFrom_12]
        by_cases q : tb rest m = 1
        · have q1 : (nI (tb rest m) = 1) = True := by rw [q]; exact eq_true rfl
          obtain ⟨n1, n2, n3⟩ := rest_b rest hr m (by omega) q
          rw [if_pos q] at he
          have l91 := ho1.2.2.2.1
          have e4 : pm_inR (nI k) 5 = True := by rw [ni_inR (by omega)]; exact eq_true (by omega)
          have e5 : ∀ x, pm_wr (h1 91) (nI k) x = (h1 91).set k x := fun x => ni_wr _ x (by omega)
          simp (maxDischargeDepth := 20) (maxSteps := 2000000) only [↓reduceIte, pm_WL_nil, bi_900, bi_901, bi_904, bi_905, pm_lget_0, pm_lget_s, pm_oI_s, pm_oA_s, pm_oJ_s, pm_oK_s, pm_oR_s, pm_oO_s, pm_oN_s, pm_oF_s, pm_oM_s, pm_oP_s, pm_pu_n, pm_pu_s, pm_bo_ne, pm_bo_eq, Nat.reduceAdd, Nat.reduceSub, Nat.reduceLT, Nat.reduceLeDiff, Nat.reduceEqDiff, Nat.zero_add, Nat.lt_add_one, Nat.zero_ne_one, Nat.succ_ne_self, List.length_cons, List.length_nil, true_and, and_true, true_or, or_true, false_or, or_false, false_implies, true_implies, implies_true, not_true_eq_false, not_false_eq_true, ne_eq, eq_self, pm_okW_0, pm_okW_i, pm_okW_r, pm_okW_l, pm_ent_0, pm_ent_i, pm_ent_r, pm_ent_l, List.reduceReplicate, b_M_linesFrom_0, b_M_linesFrom_4, b_M_linesFrom_9, b_M_linesFrom_18, b_M_linesFrom_28, b_M_linesFrom_52, b_M_linesFrom_58, f_iloadn2, w_if_ne, pm_tgt_is, Int.cast_ofNat_Int, Int.reduceNeg, Int.reduceAdd, Int.reduceToNat, Int.zero_add, Int.zero_le_ofNat, Int.reduceLE, nz_1, nz_m1, if_true, if_false, f_aloadn0, f_iloadn3, iv_149_189_85, kk_n, kk_s, w_iconst, ki_0, w_istore, pm_lset_0, pm_lset_1, pm_lset_n, pm_no2_n, pm_no2_i, pm_no2_r, pm_no2_l, f_iload4, ki_5, w_icmp_ge, w_ishr, ki_1, w_iand, w_icmp_ne, gf_149_28_85, f_iloadn1, w_iadd, w_ishl, ki_m1, w_ixor, iv_149_192_85, f_iinc4, w_goto, w_ret, hs_85, f_iald_91, f_alen_91, ia_91, ar_91, f_iast_91, iw_91, hs_91, rs_91, rs_u91, l91, e1, e2, q1, n3, e4, e5, ni_1]
          have ho2 : OS h0 (up h1 91 ((h1 91).set k (nI m))) M1 := by
            obtain ⟨o1, o2, o3, o4, o5, o6, o7, o8, o9⟩ := ho1
            exact ⟨fun i i1 i2 i3 i4 i5 i6 i7 => by rw [up_ne i6]; exact o1 i i1 i2 i3 i4 i5 i6 i7, by rw [up_ne (by decide)]; exact o2, by rw [up_ne (by decide)]; exact o3, by rw [up_at, len_set]; exact o4, by rw [up_ne (by decide)]; exact o5, by rw [up_ne (by decide)]; exact o6, by rw [up_ne (by decide)]; exact o7, by rw [up_ne (by decide)]; exact o8, by rw [up_ne (by decide)]; exact o9⟩
          have gp : ∀ i, i < k + 1 → gd (pre ++ [nI m]) i = if i = k then nI m else gd pre i := fun i hi => by
            unfold gd
            rw [List.getD_eq_getElem?_getD, List.getD_eq_getElem?_getD]
            by_cases z : i = k
            · rw [if_pos z, z, List.getElem?_append_right (by omega), hpre, Nat.sub_self]; rfl
            · rw [if_neg z, List.getElem?_append_left (by omega)]
          refine ih d (k + 1) (rest - 2 ^ m) (pre ++ [nI m]) _ M1 g1 xs1 _ (by omega) n1 (by omega) (by rw [List.length_append, hpre]; rfl) (fun i hi => ?_) ho2 hg1 hx1 ?_
          · rw [up_at, gp i hi]
            by_cases z : i = k
            · rw [if_pos z, z, gd_eq (by omega)]; exact ⟨rfl, m, by omega, rfl⟩
            · rw [if_neg z, gd_ne z]; exact ⟨hp1 i (by omega), (hpx i (by omega)).2⟩
          · intro h2 g2 xs2 ho3 hp3 hg2 hx2
            simp only [kk_n]
            simp (maxDischargeDepth := 20) (maxSteps := 2000000) only [↓reduceIte, pm_WL_nil, bi_900, bi_901, bi_904, bi_905, pm_lget_0, pm_lget_s, pm_oI_s, pm_oA_s, pm_oJ_s, pm_oK_s, pm_oR_s, pm_oO_s, pm_oN_s, pm_oF_s, pm_oM_s, pm_oP_s, pm_pu_n, pm_pu_s, pm_bo_ne, pm_bo_eq, Nat.reduceAdd, Nat.reduceSub, Nat.reduceLT, Nat.reduceLeDiff, Nat.reduceEqDiff, Nat.zero_add, Nat.lt_add_one, Nat.zero_ne_one, Nat.succ_ne_self, List.length_cons, List.length_nil, true_and, and_true, true_or, or_true, false_or, or_false, false_implies, true_implies, implies_true, not_true_eq_false, not_false_eq_true, ne_eq, eq_self, e_M_linesFrom, pm_okW_0, pm_okW_i, pm_okW_r, pm_okW_l, pm_ent_0, pm_ent_i, pm_ent_r, pm_ent_l, List.reduceReplicate, b_M_linesFrom_0, b_M_linesFrom_4, b_M_linesFrom_9, b_M_linesFrom_18, b_M_linesFrom_28, b_M_linesFrom_52, b_M_linesFrom_58, f_iloadn2, w_if_ne, pm_tgt_is, Int.cast_ofNat_Int, Int.reduceNeg, Int.reduceAdd, Int.reduceToNat, Int.zero_add, Int.zero_le_ofNat, Int.reduceLE, nz_1, nz_m1, if_true, if_false, f_aloadn0, f_iloadn3, iv_149_189_85, kk_n, kk_s, w_iconst, ki_0, w_istore, pm_lset_0, pm_lset_1, pm_lset_n, pm_no2_n, pm_no2_i, pm_no2_r, pm_no2_l, f_iload4, ki_5, w_icmp_ge, w_ishr, ki_1, w_iand, w_icmp_ne, gf_149_28_85, f_iloadn1, w_iadd, w_ishl, ki_m1, w_ixor, iv_149_192_85, f_iinc4, w_goto, w_ret, ni_1]
            refine ihj (m + 1) h2 _ g2 xs2 (by omega) ho3 (fun i hi => ?_) hg2 hx2 he
            rw [hp3 i (by omega), gp i (by omega), if_neg (by omega)]
        · have q1 : (nI (tb rest m) = 1) = False := by rw [show tb rest m = 0 by omega]; exact eq_false (by decide)
          rw [if_neg q] at he
          simp (maxDischargeDepth := 20) (maxSteps := 2000000) only [↓reduceIte, pm_WL_nil, bi_900, bi_901, bi_904, bi_905, pm_lget_0, pm_lget_s, pm_oI_s, pm_oA_s, pm_oJ_s, pm_oK_s, pm_oR_s, pm_oO_s, pm_oN_s, pm_oF_s, pm_oM_s, pm_oP_s, pm_pu_n, pm_pu_s, pm_bo_ne, pm_bo_eq, Nat.reduceAdd, Nat.reduceSub, Nat.reduceLT, Nat.reduceLeDiff, Nat.reduceEqDiff, Nat.zero_add, Nat.lt_add_one, Nat.zero_ne_one, Nat.succ_ne_self, List.length_cons, List.length_nil, true_and, and_true, true_or, or_true, false_or, or_false, false_implies, true_implies, implies_true, not_true_eq_false, not_false_eq_true, ne_eq, eq_self, e_M_linesFrom, pm_okW_0, pm_okW_i, pm_okW_r, pm_okW_l, pm_ent_0, pm_ent_i, pm_ent_r, pm_ent_l, List.reduceReplicate, b_M_linesFrom_0, b_M_linesFrom_4, b_M_linesFrom_9, b_M_linesFrom_18, b_M_linesFrom_28, b_M_linesFrom_52, b_M_linesFrom_58, f_iloadn2, w_if_ne, pm_tgt_is, Int.cast_ofNat_Int, Int.reduceNeg, Int.reduceAdd, Int.reduceToNat, Int.zero_add, Int.zero_le_ofNat, Int.reduceLE, nz_1, nz_m1, if_true, if_false, f_aloadn0, f_iloadn3, iv_149_189_85, kk_n, kk_s, w_iconst, ki_0, w_istore, pm_lset_0, pm_lset_1, pm_lset_n, pm_no2_n, pm_no2_i, pm_no2_r, pm_no2_l, f_iload4, ki_5, w_icmp_ge, w_ishr, ki_1, w_iand, w_icmp_ne, gf_149_28_85, f_iloadn1, w_iadd, w_ishl, ki_m1, w_ixor, iv_149_192_85, f_iinc4, w_goto, w_ret, e1, e2, q1, ni_1]
          exact ihj (m + 1) h1 M1 g1 xs1 (by omega) ho1 hp1 hg1 hx1 he
    rw [show d + (f + 1) + 8 = (d + f + 8) + 1 by omega]
    simp (maxDischargeDepth := 20) (maxSteps := 2000000) only [↓reduceIte, pm_WL_nil, bi_900, bi_901, bi_904, bi_905, pm_lget_0, pm_lget_s, pm_oI_s, pm_oA_s, pm_oJ_s, pm_oK_s, pm_oR_s, pm_oO_s, pm_oN_s, pm_oF_s, pm_oM_s, pm_oP_s, pm_pu_n, pm_pu_s, pm_bo_ne, pm_bo_eq, Nat.reduceAdd, Nat.reduceSub, Nat.reduceLT, Nat.reduceLeDiff, Nat.reduceEqDiff, Nat.zero_add, Nat.lt_add_one, Nat.zero_ne_one, Nat.succ_ne_self, List.length_cons, List.length_nil, true_and, and_true, true_or, or_true, false_or, or_false, false_implies, true_implies, implies_true, not_true_eq_false, not_false_eq_true, ne_eq, eq_self, e_M_linesFrom, pm_okW_0, pm_okW_i, pm_okW_r, pm_okW_l, pm_ent_0, pm_ent_i, pm_ent_r, pm_ent_l, List.reduceReplicate, b_M_linesFrom_0, b_M_linesFrom_4, b_M_linesFrom_9, b_M_linesFrom_18, b_M_linesFrom_28, b_M_linesFrom_52, b_M_linesFrom_58, f_iloadn2, w_if_ne, pm_tgt_is, Int.cast_ofNat_Int, Int.reduceNeg, Int.reduceAdd, Int.reduceToNat, Int.zero_add, Int.zero_le_ofNat, Int.reduceLE, nz_1, nz_m1, if_true, if_false, f_aloadn0, f_iloadn3, iv_149_189_85, kk_n, kk_s, w_iconst, ki_0, w_istore, pm_lset_0, pm_lset_1, pm_lset_n, pm_no2_n, pm_no2_i, pm_no2_r, pm_no2_l, f_iload4, ki_5, w_icmp_ge, w_ishr, ki_1, w_iand, w_icmp_ne, gf_149_28_85, f_iloadn1, w_iadd, w_ishl, ki_m1, w_ixor, iv_149_192_85, f_iinc4, w_goto, w_ret, z0]
    exact key 5 0 h M g xs rfl hos (fun i hi => (hpx i hi).1) hg hx rfl
theorem foO_some (s : List Int32) (set : Nat) : ∃ m c, foO s set none prs = some (m, c) := by
  have e : foO s set none prs = foO s set none (prs.take (119 + 1)) := by rw [List.take_of_length_le (by rw [prs_len]; omega)]
  rw [e, foO_1 s set 119 (by omega)]
  cases foO s set none (prs.take 119) with
  | none => exact ⟨_, _, rfl⟩
  | some mb =>
    obtain ⟨m, b⟩ := mb
    rw [stO]
    by_cases q : m < scF s set (prm 119)
    · rw [if_pos q]; exact ⟨_, _, rfl⟩
    · rw [if_neg q]; exact ⟨_, _, rfl⟩
theorem q_order {scr : List Int32} {d : Nat} {h : Nat → List Int32} (hi : INV scr h) (g w : Int32) : BOTH scr (d + 40) 59 150 [.int g, .int w] h := by
  have hi0 := hi
  obtain ⟨hL, ⟨ro0, ro1, ro2, ro3⟩, hw, hc, hk, ha⟩ := hi
  have hc0 := hc
  obtain ⟨⟨c0, c5, c6, c7, c8, c9, c10, c11, c12, c13, cb⟩, d0, d15, d16, d17, d18, d19, d20, d21, d22, d24, d25, d26, dis⟩ := hc
  simp only [Nat.reduceAdd] at c0 c5 c6 c7 c8 c9 c10 c11 c12 c13 cb d0 d15 d16 d17 d18 d19 d20 d21 d22 d24 d25 d26
  have hl := wf_len hw
  obtain ⟨hn, hn6⟩ := wf_n hw
  have ha5 := (wf_a hw).2
  unfold BOTH
  by_cases w0 : w < -1
  · have y1 := eq_true w0
    have y2 : (-1 ≤ w ∧ w ≤ 4) = False := eq_false fun q => absurd q.1 (Int32.not_le.mpr w0)
    simp (maxDischargeDepth := 20) (maxSteps := 2000000) only [↓reduceIte, pm_WL_nil, bi_900, bi_901, bi_904, bi_905, pm_lget_0, pm_lget_s, pm_oI_s, pm_oA_s, pm_oJ_s, pm_oK_s, pm_oR_s, pm_oO_s, pm_oN_s, pm_oF_s, pm_oM_s, pm_oP_s, pm_pu_n, pm_pu_s, pm_bo_ne, pm_bo_eq, Nat.reduceAdd, Nat.reduceSub, Nat.reduceLT, Nat.reduceLeDiff, Nat.reduceEqDiff, Nat.zero_add, Nat.lt_add_one, Nat.zero_ne_one, Nat.succ_ne_self, List.length_cons, List.length_nil, true_and, and_true, true_or, or_true, false_or, or_false, false_implies, true_implies, implies_true, not_true_eq_false, not_false_eq_true, ne_eq, eq_self, e_X_order, pm_okW_0, pm_okW_i, pm_okW_r, pm_okW_l, pm_ent_0, pm_ent_i, pm_ent_r, pm_ent_l, List.reduceReplicate, b_X_order_0, b_X_order_5, b_X_order_10, b_X_order_12, b_X_order_16, b_X_order_22, b_X_order_25, b_X_order_35, b_X_order_39, b_X_order_47, f_iloadn2, w_iconst, ki_m1, w_icmp_lt, pm_tgt_is, Int.cast_ofNat_Int, Int.reduceNeg, Int.reduceAdd, Int.reduceToNat, Int.zero_add, Int.zero_le_ofNat, Int.reduceLE, if_true, if_false, ki_5, w_iret, lg_59, pm_fit_b, pm_fit_0, pm_fit_1, Bool.false_eq_true, f_iloadn1, w_if_lt, nz_1, nz_m1, w_bipush, kb_31, w_icmp_le, kb_m2, f_aloadn0, iv_59_188_4, kk_n, kk_s, w_istore3, pm_lset_0, pm_lset_1, pm_lset_n, pm_no2_n, pm_no2_i, pm_no2_r, pm_no2_l, w_if_ge, f_iloadn3, w_goto, gf_59_46_4, iv_59_113, y1]
    simp (maxDischargeDepth := 20) (maxSteps := 2000000) only [↓reduceIte, pm_WL_nil, bi_900, bi_901, bi_904, bi_905, pm_lget_0, pm_lget_s, pm_oI_s, pm_oA_s, pm_oJ_s, pm_oK_s, pm_oR_s, pm_oO_s, pm_oN_s, pm_oF_s, pm_oM_s, pm_oP_s, pm_pu_n, pm_pu_s, pm_bo_ne, pm_bo_eq, Nat.reduceAdd, Nat.reduceSub, Nat.reduceLT, Nat.reduceLeDiff, Nat.reduceEqDiff, Nat.zero_add, Nat.lt_add_one, Nat.zero_ne_one, Nat.succ_ne_self, List.length_cons, List.length_nil, true_and, and_true, true_or, or_true, false_or, or_false, false_implies, true_implies, implies_true, not_true_eq_false, not_false_eq_true, ne_eq, eq_self, e_M_order, pm_okW_0, pm_okW_i, pm_okW_r, pm_okW_l, pm_ent_0, pm_ent_i, pm_ent_r, pm_ent_l, List.reduceReplicate, b_M_order_0, b_M_order_9, b_M_order_11, b_M_order_21, b_M_order_24, b_M_order_42, b_M_order_49, b_M_order_55, f_iloadn2, w_iconst, ki_m1, ki_4, iv_150_41, kk_n, kk_s, w_if_ne, pm_tgt_is, Int.cast_ofNat_Int, Int.reduceNeg, Int.reduceAdd, Int.reduceToNat, Int.zero_add, Int.zero_le_ofNat, Int.reduceLE, nz_1, nz_m1, if_true, if_false, w_iret, lg_150, pm_fit_b, pm_fit_0, pm_fit_1, Bool.false_eq_true, f_iloadn1, ki_0, w_bipush, kb_31, kb_m2, f_aloadn0, pf_150_186_85, iv_150_192_85, w_icmp_ne, gf_150_186_85, w_goto, gf_150_31_85, c_M_in, y2]
    exact po_i hi0
  have y1 := eq_false w0
  by_cases w1 : w < 5
  case neg =>
    have z1 := eq_false w1
    have y2 : (-1 ≤ w ∧ w ≤ 4) = False := eq_false fun q => w1 (by rw [← i_le4]; exact q.2)
    simp (maxDischargeDepth := 20) (maxSteps := 2000000) only [↓reduceIte, pm_WL_nil, bi_900, bi_901, bi_904, bi_905, pm_lget_0, pm_lget_s, pm_oI_s, pm_oA_s, pm_oJ_s, pm_oK_s, pm_oR_s, pm_oO_s, pm_oN_s, pm_oF_s, pm_oM_s, pm_oP_s, pm_pu_n, pm_pu_s, pm_bo_ne, pm_bo_eq, Nat.reduceAdd, Nat.reduceSub, Nat.reduceLT, Nat.reduceLeDiff, Nat.reduceEqDiff, Nat.zero_add, Nat.lt_add_one, Nat.zero_ne_one, Nat.succ_ne_self, List.length_cons, List.length_nil, true_and, and_true, true_or, or_true, false_or, or_false, false_implies, true_implies, implies_true, not_true_eq_false, not_false_eq_true, ne_eq, eq_self, e_X_order, pm_okW_0, pm_okW_i, pm_okW_r, pm_okW_l, pm_ent_0, pm_ent_i, pm_ent_r, pm_ent_l, List.reduceReplicate, b_X_order_0, b_X_order_5, b_X_order_10, b_X_order_12, b_X_order_16, b_X_order_22, b_X_order_25, b_X_order_35, b_X_order_39, b_X_order_47, f_iloadn2, w_iconst, ki_m1, w_icmp_lt, pm_tgt_is, Int.cast_ofNat_Int, Int.reduceNeg, Int.reduceAdd, Int.reduceToNat, Int.zero_add, Int.zero_le_ofNat, Int.reduceLE, if_true, if_false, ki_5, w_iret, lg_59, pm_fit_b, pm_fit_0, pm_fit_1, Bool.false_eq_true, f_iloadn1, w_if_lt, nz_1, nz_m1, w_bipush, kb_31, w_icmp_le, kb_m2, f_aloadn0, iv_59_188_4, kk_n, kk_s, w_istore3, pm_lset_0, pm_lset_1, pm_lset_n, pm_no2_n, pm_no2_i, pm_no2_r, pm_no2_l, w_if_ge, f_iloadn3, w_goto, gf_59_46_4, iv_59_113, y1, z1]
    simp (maxDischargeDepth := 20) (maxSteps := 2000000) only [↓reduceIte, pm_WL_nil, bi_900, bi_901, bi_904, bi_905, pm_lget_0, pm_lget_s, pm_oI_s, pm_oA_s, pm_oJ_s, pm_oK_s, pm_oR_s, pm_oO_s, pm_oN_s, pm_oF_s, pm_oM_s, pm_oP_s, pm_pu_n, pm_pu_s, pm_bo_ne, pm_bo_eq, Nat.reduceAdd, Nat.reduceSub, Nat.reduceLT, Nat.reduceLeDiff, Nat.reduceEqDiff, Nat.zero_add, Nat.lt_add_one, Nat.zero_ne_one, Nat.succ_ne_self, List.length_cons, List.length_nil, true_and, and_true, true_or, or_true, false_or, or_false, false_implies, true_implies, implies_true, not_true_eq_false, not_false_eq_true, ne_eq, eq_self, e_M_order, pm_okW_0, pm_okW_i, pm_okW_r, pm_okW_l, pm_ent_0, pm_ent_i, pm_ent_r, pm_ent_l, List.reduceReplicate, b_M_order_0, b_M_order_9, b_M_order_11, b_M_order_21, b_M_order_24, b_M_order_42, b_M_order_49, b_M_order_55, f_iloadn2, w_iconst, ki_m1, ki_4, iv_150_41, kk_n, kk_s, w_if_ne, pm_tgt_is, Int.cast_ofNat_Int, Int.reduceNeg, Int.reduceAdd, Int.reduceToNat, Int.zero_add, Int.zero_le_ofNat, Int.reduceLE, nz_1, nz_m1, if_true, if_false, w_iret, lg_150, pm_fit_b, pm_fit_0, pm_fit_1, Bool.false_eq_true, f_iloadn1, ki_0, w_bipush, kb_31, kb_m2, f_aloadn0, pf_150_186_85, iv_150_192_85, w_icmp_ne, gf_150_186_85, w_goto, gf_150_31_85, c_M_in, y2]
    exact po_i hi0
  have z1 := eq_true w1
  have y2 : (-1 ≤ w ∧ w ≤ 4) = True := eq_true ⟨Int32.not_lt.mp w0, by rw [i_le4]; exact w1⟩
  by_cases g0 : g < 0
  · have a1 := eq_true g0
    have a2 : (0 ≤ g ∧ g ≤ 31) = False := eq_false fun q => absurd q.1 (Int32.not_le.mpr g0)
    simp (maxDischargeDepth := 20) (maxSteps := 2000000) only [↓reduceIte, pm_WL_nil, bi_900, bi_901, bi_904, bi_905, pm_lget_0, pm_lget_s, pm_oI_s, pm_oA_s, pm_oJ_s, pm_oK_s, pm_oR_s, pm_oO_s, pm_oN_s, pm_oF_s, pm_oM_s, pm_oP_s, pm_pu_n, pm_pu_s, pm_bo_ne, pm_bo_eq, Nat.reduceAdd, Nat.reduceSub, Nat.reduceLT, Nat.reduceLeDiff, Nat.reduceEqDiff, Nat.zero_add, Nat.lt_add_one, Nat.zero_ne_one, Nat.succ_ne_self, List.length_cons, List.length_nil, true_and, and_true, true_or, or_true, false_or, or_false, false_implies, true_implies, implies_true, not_true_eq_false, not_false_eq_true, ne_eq, eq_self, e_X_order, pm_okW_0, pm_okW_i, pm_okW_r, pm_okW_l, pm_ent_0, pm_ent_i, pm_ent_r, pm_ent_l, List.reduceReplicate, b_X_order_0, b_X_order_5, b_X_order_10, b_X_order_12, b_X_order_16, b_X_order_22, b_X_order_25, b_X_order_35, b_X_order_39, b_X_order_47, f_iloadn2, w_iconst, ki_m1, w_icmp_lt, pm_tgt_is, Int.cast_ofNat_Int, Int.reduceNeg, Int.reduceAdd, Int.reduceToNat, Int.zero_add, Int.zero_le_ofNat, Int.reduceLE, if_true, if_false, ki_5, w_iret, lg_59, pm_fit_b, pm_fit_0, pm_fit_1, Bool.false_eq_true, f_iloadn1, w_if_lt, nz_1, nz_m1, w_bipush, kb_31, w_icmp_le, kb_m2, f_aloadn0, iv_59_188_4, kk_n, kk_s, w_istore3, pm_lset_0, pm_lset_1, pm_lset_n, pm_no2_n, pm_no2_i, pm_no2_r, pm_no2_l, w_if_ge, f_iloadn3, w_goto, gf_59_46_4, iv_59_113, y1, z1, a1]
    simp (maxDischargeDepth := 20) (maxSteps := 2000000) only [↓reduceIte, pm_WL_nil, bi_900, bi_901, bi_904, bi_905, pm_lget_0, pm_lget_s, pm_oI_s, pm_oA_s, pm_oJ_s, pm_oK_s, pm_oR_s, pm_oO_s, pm_oN_s, pm_oF_s, pm_oM_s, pm_oP_s, pm_pu_n, pm_pu_s, pm_bo_ne, pm_bo_eq, Nat.reduceAdd, Nat.reduceSub, Nat.reduceLT, Nat.reduceLeDiff, Nat.reduceEqDiff, Nat.zero_add, Nat.lt_add_one, Nat.zero_ne_one, Nat.succ_ne_self, List.length_cons, List.length_nil, true_and, and_true, true_or, or_true, false_or, or_false, false_implies, true_implies, implies_true, not_true_eq_false, not_false_eq_true, ne_eq, eq_self, e_M_order, pm_okW_0, pm_okW_i, pm_okW_r, pm_okW_l, pm_ent_0, pm_ent_i, pm_ent_r, pm_ent_l, List.reduceReplicate, b_M_order_0, b_M_order_9, b_M_order_11, b_M_order_21, b_M_order_24, b_M_order_42, b_M_order_49, b_M_order_55, f_iloadn2, w_iconst, ki_m1, ki_4, iv_150_41, kk_n, kk_s, w_if_ne, pm_tgt_is, Int.cast_ofNat_Int, Int.reduceNeg, Int.reduceAdd, Int.reduceToNat, Int.zero_add, Int.zero_le_ofNat, Int.reduceLE, nz_1, nz_m1, if_true, if_false, w_iret, lg_150, pm_fit_b, pm_fit_0, pm_fit_1, Bool.false_eq_true, f_iloadn1, ki_0, w_bipush, kb_31, kb_m2, f_aloadn0, pf_150_186_85, iv_150_192_85, w_icmp_ne, gf_150_186_85, w_goto, gf_150_31_85, c_M_in, y2, a2]
    exact po_i hi0
  have a1 := eq_false g0
  by_cases g1 : g ≤ 31
  case neg =>
    have a3 := eq_false g1
    have a2 : (0 ≤ g ∧ g ≤ 31) = False := eq_false fun q => g1 q.2
    simp (maxDischargeDepth := 20) (maxSteps := 2000000) only [↓reduceIte, pm_WL_nil, bi_900, bi_901, bi_904, bi_905, pm_lget_0, pm_lget_s, pm_oI_s, pm_oA_s, pm_oJ_s, pm_oK_s, pm_oR_s, pm_oO_s, pm_oN_s, pm_oF_s, pm_oM_s, pm_oP_s, pm_pu_n, pm_pu_s, pm_bo_ne, pm_bo_eq, Nat.reduceAdd, Nat.reduceSub, Nat.reduceLT, Nat.reduceLeDiff, Nat.reduceEqDiff, Nat.zero_add, Nat.lt_add_one, Nat.zero_ne_one, Nat.succ_ne_self, List.length_cons, List.length_nil, true_and, and_true, true_or, or_true, false_or, or_false, false_implies, true_implies, implies_true, not_true_eq_false, not_false_eq_true, ne_eq, eq_self, e_X_order, pm_okW_0, pm_okW_i, pm_okW_r, pm_okW_l, pm_ent_0, pm_ent_i, pm_ent_r, pm_ent_l, List.reduceReplicate, b_X_order_0, b_X_order_5, b_X_order_10, b_X_order_12, b_X_order_16, b_X_order_22, b_X_order_25, b_X_order_35, b_X_order_39, b_X_order_47, f_iloadn2, w_iconst, ki_m1, w_icmp_lt, pm_tgt_is, Int.cast_ofNat_Int, Int.reduceNeg, Int.reduceAdd, Int.reduceToNat, Int.zero_add, Int.zero_le_ofNat, Int.reduceLE, if_true, if_false, ki_5, w_iret, lg_59, pm_fit_b, pm_fit_0, pm_fit_1, Bool.false_eq_true, f_iloadn1, w_if_lt, nz_1, nz_m1, w_bipush, kb_31, w_icmp_le, kb_m2, f_aloadn0, iv_59_188_4, kk_n, kk_s, w_istore3, pm_lset_0, pm_lset_1, pm_lset_n, pm_no2_n, pm_no2_i, pm_no2_r, pm_no2_l, w_if_ge, f_iloadn3, w_goto, gf_59_46_4, iv_59_113, y1, z1, a1, a3]
    simp (maxDischargeDepth := 20) (maxSteps := 2000000) only [↓reduceIte, pm_WL_nil, bi_900, bi_901, bi_904, bi_905, pm_lget_0, pm_lget_s, pm_oI_s, pm_oA_s, pm_oJ_s, pm_oK_s, pm_oR_s, pm_oO_s, pm_oN_s, pm_oF_s, pm_oM_s, pm_oP_s, pm_pu_n, pm_pu_s, pm_bo_ne, pm_bo_eq, Nat.reduceAdd, Nat.reduceSub, Nat.reduceLT, Nat.reduceLeDiff, Nat.reduceEqDiff, Nat.zero_add, Nat.lt_add_one, Nat.zero_ne_one, Nat.succ_ne_self, List.length_cons, List.length_nil, true_and, and_true, true_or, or_true, false_or, or_false, false_implies, true_implies, implies_true, not_true_eq_false, not_false_eq_true, ne_eq, eq_self, e_M_order, pm_okW_0, pm_okW_i, pm_okW_r, pm_okW_l, pm_ent_0, pm_ent_i, pm_ent_r, pm_ent_l, List.reduceReplicate, b_M_order_0, b_M_order_9, b_M_order_11, b_M_order_21, b_M_order_24, b_M_order_42, b_M_order_49, b_M_order_55, f_iloadn2, w_iconst, ki_m1, ki_4, iv_150_41, kk_n, kk_s, w_if_ne, pm_tgt_is, Int.cast_ofNat_Int, Int.reduceNeg, Int.reduceAdd, Int.reduceToNat, Int.zero_add, Int.zero_le_ofNat, Int.reduceLE, nz_1, nz_m1, if_true, if_false, w_iret, lg_150, pm_fit_b, pm_fit_0, pm_fit_1, Bool.false_eq_true, f_iloadn1, ki_0, w_bipush, kb_31, kb_m2, f_aloadn0, pf_150_186_85, iv_150_192_85, w_icmp_ne, gf_150_186_85, w_goto, gf_150_31_85, c_M_in, y2, a2]
    exact po_i hi0
  have a3 := eq_true g1
  have a2 : (0 ≤ g ∧ g ≤ 31) = True := eq_true ⟨Int32.not_lt.mp g0, g1⟩
  obtain ⟨set, hset, rfl⟩ : ∃ i, i ≤ 31 ∧ g = nI i := rng_le (by omega) g0 (Int32.not_lt.mpr g1)
  simp (maxDischargeDepth := 20) (maxSteps := 2000000) only [↓reduceIte, pm_WL_nil, bi_900, bi_901, bi_904, bi_905, pm_lget_0, pm_lget_s, pm_oI_s, pm_oA_s, pm_oJ_s, pm_oK_s, pm_oR_s, pm_oO_s, pm_oN_s, pm_oF_s, pm_oM_s, pm_oP_s, pm_pu_n, pm_pu_s, pm_bo_ne, pm_bo_eq, Nat.reduceAdd, Nat.reduceSub, Nat.reduceLT, Nat.reduceLeDiff, Nat.reduceEqDiff, Nat.zero_add, Nat.lt_add_one, Nat.zero_ne_one, Nat.succ_ne_self, List.length_cons, List.length_nil, true_and, and_true, true_or, or_true, false_or, or_false, false_implies, true_implies, implies_true, not_true_eq_false, not_false_eq_true, ne_eq, eq_self, e_X_order, pm_okW_0, pm_okW_i, pm_okW_r, pm_okW_l, pm_ent_0, pm_ent_i, pm_ent_r, pm_ent_l, List.reduceReplicate, b_X_order_0, b_X_order_5, b_X_order_10, b_X_order_12, b_X_order_16, b_X_order_22, b_X_order_25, b_X_order_35, b_X_order_39, b_X_order_47, f_iloadn2, w_iconst, ki_m1, w_icmp_lt, pm_tgt_is, Int.cast_ofNat_Int, Int.reduceNeg, Int.reduceAdd, Int.reduceToNat, Int.zero_add, Int.zero_le_ofNat, Int.reduceLE, if_true, if_false, ki_5, w_iret, lg_59, pm_fit_b, pm_fit_0, pm_fit_1, Bool.false_eq_true, f_iloadn1, w_if_lt, nz_1, nz_m1, w_bipush, kb_31, w_icmp_le, kb_m2, f_aloadn0, iv_59_188_4, kk_n, kk_s, w_istore3, pm_lset_0, pm_lset_1, pm_lset_n, pm_no2_n, pm_no2_i, pm_no2_r, pm_no2_l, w_if_ge, f_iloadn3, w_goto, gf_59_46_4, iv_59_113, y1, z1, a1, a3]
  refine pm_WC_mono (c_findBest (d := d) (set := set) hi0 (by omega)) ?_
  rintro r σ ⟨rfl, h1, rfl, hfo, hob⟩
  obtain ⟨hL1, fr⟩ := hfo
  rw [show prs.take 120 = prs from List.take_of_length_le (by rw [prs_len]; omega)] at hob ⊢
  obtain ⟨m, c, hM⟩ := foO_some (h 86) set
  have h86 : h1 86 = h 86 := fr 86 (by omega) (by omega) (by omega)
  have hc84 : c = h1 84 := hob.2 m c hM
  have l84 : (h1 84).length = 5 := hL1 84 (by omega) (by omega)
  -- the reference, whatever is asked of it
  have mo : ∀ (Q : Option Value → pm_S → Prop), (∀ (h2 : Nat → List Int32) (f2 xs2 : List Int32), OS h1 h2 (some (m, c)) → f2.length = 6 → xs2.length = 64 → pm_WL fqP (d + 39) 150 37 [(.iload_n 2, 1), (.iconst (-1), 1), (.if_icmp .ne 10, 3)] [some (.ref 85), some (.int (nI set)), some (.int w)] [] (mk (rs h2 (h 86) f2 xs2)) Q) → pm_WC fqP (d + 40) 150 [.ref 85, .int (nI set), .int w] (mk h1) Q := by
    intro Q hQ
    have l85 : (h1 85).length = 12 := hL1 85 (by omega) (by omega)
    have os : OS h1 (up h1 85 [gd (h1 85) 0, gd (h1 85) 1, gd (h1 85) 2, gd (h1 85) 3, gd (h1 85) 4, gd (h1 85) 5, gd (h1 85) 6, -1, gd (h1 85) 8, gd (h1 85) 9, gd (h1 85) 10, gd (h1 85) 11]) none := by
      refine ⟨fun k k1 _ _ _ _ _ _ => up_ne k1, by rw [up_at]; rfl, by rw [up_ne (by decide)]; exact hL1 88 (by omega) (by omega), by rw [up_ne (by decide)]; exact hL1 91 (by omega) (by omega), by rw [up_ne (by decide)]; exact hL1 92 (by omega) (by omega), by rw [up_at]; rfl, by rw [up_at]; rfl, by rw [up_at]; rfl, Nat.zero_le _, fun m c z => by cases z⟩
    have mk1 : ∀ l : List Int32, mk (up h1 85 l) = mk (rs (up h1 85 l) (h 86) (h1 89) (h1 90)) := fun l => by
      have := rs_id (up h1 85 l)
      rw [up_ne (by decide), up_ne (by decide), up_ne (by decide), h86] at this
      rw [this]
    simp (maxDischargeDepth := 20) (maxSteps := 2000000) only [↓reduceIte, pm_WL_nil, bi_900, bi_901, bi_904, bi_905, pm_lget_0, pm_lget_s, pm_oI_s, pm_oA_s, pm_oJ_s, pm_oK_s, pm_oR_s, pm_oO_s, pm_oN_s, pm_oF_s, pm_oM_s, pm_oP_s, pm_pu_n, pm_pu_s, pm_bo_ne, pm_bo_eq, Nat.reduceAdd, Nat.reduceSub, Nat.reduceLT, Nat.reduceLeDiff, Nat.reduceEqDiff, Nat.zero_add, Nat.lt_add_one, Nat.zero_ne_one, Nat.succ_ne_self, List.length_cons, List.length_nil, true_and, and_true, true_or, or_true, false_or, or_false, false_implies, true_implies, implies_true, not_true_eq_false, not_false_eq_true, ne_eq, eq_self, e_M_order, pm_okW_0, pm_okW_i, pm_okW_r, pm_okW_l, pm_ent_0, pm_ent_i, pm_ent_r, pm_ent_l, List.reduceReplicate, b_M_order_0, b_M_order_9, b_M_order_11, b_M_order_21, b_M_order_24, b_M_order_42, b_M_order_49, b_M_order_55, f_iloadn2, w_iconst, ki_m1, ki_4, iv_150_41, kk_n, kk_s, w_if_ne, pm_tgt_is, Int.cast_ofNat_Int, Int.reduceNeg, Int.reduceAdd, Int.reduceToNat, Int.zero_add, Int.zero_le_ofNat, Int.reduceLE, nz_1, nz_m1, if_true, if_false, w_iret, lg_150, pm_fit_b, pm_fit_0, pm_fit_1, Bool.false_eq_true, f_iloadn1, ki_0, w_bipush, kb_31, kb_m2, f_aloadn0, pf_150_186_85, iv_150_192_85, w_icmp_ne, gf_150_186_85, w_goto, gf_150_31_85, hs_85, c_M_in, y2, a2]
    rw [mk1]
    refine c_M_lines hw (by omega) (by omega) 5 (d + 26) 0 31 [] _ none (h1 89) (h1 90) _ rfl (by omega) (by decide) rfl (fun i hi => absurd hi (by omega)) os (hL1 89 (by omega) (by omega)) (hL1 90 (by omega) (by omega)) ?_
    intro h2 f2 xs2 ho2 _ hf2 hx2
    rw [show lns 5 31 [] = prs from rfl, hM] at ho2
    have := hQ h2 f2 xs2 ho2 hf2 hx2
    simp only [kk_n]
    exact this
  have fin : ∀ (h2 : Nat → List Int32) (f2 xs2 : List Int32), OS h1 h2 (some (m, c)) → f2.length = 6 → xs2.length = 64 → INV scr (rs h2 (h 86) f2 xs2) := by
    intro h2 f2 xs2 ho hf hx
    obtain ⟨o1, o2, o3, o4, o5, o6, o7, o8, o9⟩ := ho
    refine inv_q hi0 ?_ ?_ ?_ ?_
    · intro k k1 k2
      by_cases q86 : k = 86
      · subst q86; rw [rs_86]; exact hl
      by_cases q89 : k = 89
      · subst q89; rw [rs_89]; exact hf
      by_cases q90 : k = 90
      · subst q90; rw [rs_90]; exact hx
      rw [rs_ne q86 q89 q90]
      by_cases q85 : k = 85
      · subst q85; exact o2
      by_cases q88 : k = 88
      · subst q88; exact o3
      by_cases q91 : k = 91
      · subst q91; exact o4
      by_cases q92 : k = 92
      · subst q92; exact o5
      rw [o1 k q85 q86 q88 q89 q90 q91 q92]
      exact hL1 k k1 k2
    · intro k hk
      by_cases q86 : k = 86
      · subst q86; exact rs_86 _ _ _ _
      rw [rs_ne q86 (by omega) (by omega), o1 k (by omega) q86 (by omega) (by omega) (by omega) (by omega) (by omega)]
      exact fr k (by omega) (by omega) (by omega)
    · rw [rs_85, o6, fr 85 (by omega) (by omega) (by omega)]
    · rw [rs_85, o7, fr 85 (by omega) (by omega) (by omega)]
  rw [hM]
  by_cases wm : w = -1
  · subst wm
    have b5 : ((0 : Int32) ≤ -1) = False := eq_false (by decide)
    simp (maxDischargeDepth := 20) (maxSteps := 2000000) only [↓reduceIte, pm_WL_nil, bi_900, bi_901, bi_904, bi_905, pm_lget_0, pm_lget_s, pm_oI_s, pm_oA_s, pm_oJ_s, pm_oK_s, pm_oR_s, pm_oO_s, pm_oN_s, pm_oF_s, pm_oM_s, pm_oP_s, pm_pu_n, pm_pu_s, pm_bo_ne, pm_bo_eq, Nat.reduceAdd, Nat.reduceSub, Nat.reduceLT, Nat.reduceLeDiff, Nat.reduceEqDiff, Nat.zero_add, Nat.lt_add_one, Nat.zero_ne_one, Nat.succ_ne_self, List.length_cons, List.length_nil, true_and, and_true, true_or, or_true, false_or, or_false, false_implies, true_implies, implies_true, not_true_eq_false, not_false_eq_true, ne_eq, eq_self, e_X_order, pm_okW_0, pm_okW_i, pm_okW_r, pm_okW_l, pm_ent_0, pm_ent_i, pm_ent_r, pm_ent_l, List.reduceReplicate, b_X_order_0, b_X_order_5, b_X_order_10, b_X_order_12, b_X_order_16, b_X_order_22, b_X_order_25, b_X_order_35, b_X_order_39, b_X_order_47, f_iloadn2, w_iconst, ki_m1, w_icmp_lt, pm_tgt_is, Int.cast_ofNat_Int, Int.reduceNeg, Int.reduceAdd, Int.reduceToNat, Int.zero_add, Int.zero_le_ofNat, Int.reduceLE, if_true, if_false, ki_5, w_iret, lg_59, pm_fit_b, pm_fit_0, pm_fit_1, Bool.false_eq_true, f_iloadn1, w_if_lt, nz_1, nz_m1, w_bipush, kb_31, w_icmp_le, kb_m2, f_aloadn0, iv_59_188_4, kk_n, kk_s, w_istore3, pm_lset_0, pm_lset_1, pm_lset_n, pm_no2_n, pm_no2_i, pm_no2_r, pm_no2_l, w_if_ge, f_iloadn3, w_goto, gf_59_46_4, iv_59_113]
    refine mo _ ?_
    intro h2 f2 xs2 ho hf hx
    have o8 := ho.2.2.2.2.2.2.2.1
    simp (maxDischargeDepth := 20) (maxSteps := 2000000) only [↓reduceIte, pm_WL_nil, bi_900, bi_901, bi_904, bi_905, pm_lget_0, pm_lget_s, pm_oI_s, pm_oA_s, pm_oJ_s, pm_oK_s, pm_oR_s, pm_oO_s, pm_oN_s, pm_oF_s, pm_oM_s, pm_oP_s, pm_pu_n, pm_pu_s, pm_bo_ne, pm_bo_eq, Nat.reduceAdd, Nat.reduceSub, Nat.reduceLT, Nat.reduceLeDiff, Nat.reduceEqDiff, Nat.zero_add, Nat.lt_add_one, Nat.zero_ne_one, Nat.succ_ne_self, List.length_cons, List.length_nil, true_and, and_true, true_or, or_true, false_or, or_false, false_implies, true_implies, implies_true, not_true_eq_false, not_false_eq_true, ne_eq, eq_self, e_M_order, pm_okW_0, pm_okW_i, pm_okW_r, pm_okW_l, pm_ent_0, pm_ent_i, pm_ent_r, pm_ent_l, List.reduceReplicate, b_M_order_0, b_M_order_9, b_M_order_11, b_M_order_21, b_M_order_24, b_M_order_42, b_M_order_49, b_M_order_55, f_iloadn2, w_iconst, ki_m1, ki_4, iv_150_41, kk_n, kk_s, w_if_ne, pm_tgt_is, Int.cast_ofNat_Int, Int.reduceNeg, Int.reduceAdd, Int.reduceToNat, Int.zero_add, Int.zero_le_ofNat, Int.reduceLE, nz_1, nz_m1, if_true, if_false, w_iret, lg_150, pm_fit_b, pm_fit_0, pm_fit_1, Bool.false_eq_true, f_iloadn1, ki_0, w_bipush, kb_31, kb_m2, f_aloadn0, pf_150_186_85, iv_150_192_85, w_icmp_ne, gf_150_186_85, w_goto, gf_150_31_85, hs_85, f_iald_92, f_alen_92, ia_92, ar_92, f_iast_92, iw_92, hs_92, rs_85, o8]
    exact po_i (fin h2 f2 xs2 ho hf hx)
  · have wm1 := eq_false wm
    have w00 : ¬ w < 0 := fun q => wm (by
      have e1 := Int32.lt_iff_toInt_lt.mp q
      have e2 := Int32.le_iff_toInt_le.mp (Int32.not_lt.mp w0)
      rw [show (0 : Int32).toInt = 0 by decide] at e1
      rw [show (-1 : Int32).toInt = -1 by decide] at e2
      exact Int32.toInt_inj.mp (by rw [show (-1 : Int32).toInt = -1 by decide]; omega))
    obtain ⟨i, hi5, rfl⟩ := i_rng (n := 5) (by omega) ⟨Int32.not_lt.mp w00, w1⟩
    have u5 : ((0 : Int32) ≤ nI i) = True := by rw [li_le 0 i (by omega) (by omega)]; exact eq_true (by omega)
    have f1 : cl (h1 84) (nI i) = gd (h1 84) i := cl_n (by omega) (by omega)
    simp (maxDischargeDepth := 20) (maxSteps := 2000000) only [↓reduceIte, pm_WL_nil, bi_900, bi_901, bi_904, bi_905, pm_lget_0, pm_lget_s, pm_oI_s, pm_oA_s, pm_oJ_s, pm_oK_s, pm_oR_s, pm_oO_s, pm_oN_s, pm_oF_s, pm_oM_s, pm_oP_s, pm_pu_n, pm_pu_s, pm_bo_ne, pm_bo_eq, Nat.reduceAdd, Nat.reduceSub, Nat.reduceLT, Nat.reduceLeDiff, Nat.reduceEqDiff, Nat.zero_add, Nat.lt_add_one, Nat.zero_ne_one, Nat.succ_ne_self, List.length_cons, List.length_nil, true_and, and_true, true_or, or_true, false_or, or_false, false_implies, true_implies, implies_true, not_true_eq_false, not_false_eq_true, ne_eq, eq_self, e_X_order, pm_okW_0, pm_okW_i, pm_okW_r, pm_okW_l, pm_ent_0, pm_ent_i, pm_ent_r, pm_ent_l, List.reduceReplicate, b_X_order_0, b_X_order_5, b_X_order_10, b_X_order_12, b_X_order_16, b_X_order_22, b_X_order_25, b_X_order_35, b_X_order_39, b_X_order_47, f_iloadn2, w_iconst, ki_m1, w_icmp_lt, pm_tgt_is, Int.cast_ofNat_Int, Int.reduceNeg, Int.reduceAdd, Int.reduceToNat, Int.zero_add, Int.zero_le_ofNat, Int.reduceLE, if_true, if_false, ki_5, w_iret, lg_59, pm_fit_b, pm_fit_0, pm_fit_1, Bool.false_eq_true, f_iloadn1, w_if_lt, nz_1, nz_m1, w_bipush, kb_31, w_icmp_le, kb_m2, f_aloadn0, iv_59_188_4, kk_n, kk_s, w_istore3, pm_lset_0, pm_lset_1, pm_lset_n, pm_no2_n, pm_no2_i, pm_no2_r, pm_no2_l, w_if_ge, f_iloadn3, w_goto, gf_59_46_4, iv_59_113, hs_4, f_iald_84, f_alen_84, ia_84, ar_84, f_iast_84, iw_84, hs_84, c_X_cell, u5, f1]
    refine mo _ ?_
    intro h2 f2 xs2 ho hf hx
    obtain ⟨o1, o2, o3, o4, o5, o6, o7, o8, o9⟩ := id ho
    have c92 : h2 92 = h1 84 := by rw [← hc84]; exact (o9.2 m c rfl).symm
    have u6 : pm_inR (nI i) 5 = True := by rw [ni_inR (by omega)]; exact eq_true (by omega)
    have u7 : pm_rd (h2 92) (nI i) = gd (h1 84) i := by rw [ni_rd _ (by omega), c92]
    simp (maxDischargeDepth := 20) (maxSteps := 2000000) only [↓reduceIte, pm_WL_nil, bi_900, bi_901, bi_904, bi_905, pm_lget_0, pm_lget_s, pm_oI_s, pm_oA_s, pm_oJ_s, pm_oK_s, pm_oR_s, pm_oO_s, pm_oN_s, pm_oF_s, pm_oM_s, pm_oP_s, pm_pu_n, pm_pu_s, pm_bo_ne, pm_bo_eq, Nat.reduceAdd, Nat.reduceSub, Nat.reduceLT, Nat.reduceLeDiff, Nat.reduceEqDiff, Nat.zero_add, Nat.lt_add_one, Nat.zero_ne_one, Nat.succ_ne_self, List.length_cons, List.length_nil, true_and, and_true, true_or, or_true, false_or, or_false, false_implies, true_implies, implies_true, not_true_eq_false, not_false_eq_true, ne_eq, eq_self, e_M_order, pm_okW_0, pm_okW_i, pm_okW_r, pm_okW_l, pm_ent_0, pm_ent_i, pm_ent_r, pm_ent_l, List.reduceReplicate, b_M_order_0, b_M_order_9, b_M_order_11, b_M_order_21, b_M_order_24, b_M_order_42, b_M_order_49, b_M_order_55, f_iloadn2, w_iconst, ki_m1, ki_4, iv_150_41, kk_n, kk_s, w_if_ne, pm_tgt_is, Int.cast_ofNat_Int, Int.reduceNeg, Int.reduceAdd, Int.reduceToNat, Int.zero_add, Int.zero_le_ofNat, Int.reduceLE, nz_1, nz_m1, if_true, if_false, w_iret, lg_150, pm_fit_b, pm_fit_0, pm_fit_1, Bool.false_eq_true, f_iloadn1, ki_0, w_bipush, kb_31, kb_m2, f_aloadn0, pf_150_186_85, iv_150_192_85, w_icmp_ne, gf_150_186_85, w_goto, gf_150_31_85, hs_85, f_iald_92, f_alen_92, ia_92, ar_92, f_iast_92, iw_92, hs_92, rs_92, wm1, o5, u6, u7]
    exact po_i (fin h2 f2 xs2 ho hf hx)
