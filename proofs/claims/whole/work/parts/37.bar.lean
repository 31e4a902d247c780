/-! THE BAR'S SUM -/
theorem li_le (k a : Nat) (hk : k < 2 ^ 31) (ha : a < 2 ^ 31) : ((OfNat.ofNat k : Int32) ≤ nI a) = (k ≤ a) := ni_le hk ha
theorem li_lt (k a : Nat) (hk : k < 2 ^ 31) (ha : a < 2 ^ 31) : ((OfNat.ofNat k : Int32) < nI a) = (k < a) := ni_lt hk ha
theorem li_eq (k a : Nat) (hk : k < 2 ^ 31) (ha : a < 2 ^ 31) : ((OfNat.ofNat k : Int32) = nI a) = (k = a) := ni_eq hk ha
theorem il_le (k a : Nat) (hk : k < 2 ^ 31) (ha : a < 2 ^ 31) : (nI a ≤ (OfNat.ofNat k : Int32)) = (a ≤ k) := ni_le ha hk
theorem il_lt (k a : Nat) (hk : k < 2 ^ 31) (ha : a < 2 ^ 31) : (nI a < (OfNat.ofNat k : Int32)) = (a < k) := ni_lt ha hk
theorem il_eq (k a : Nat) (hk : k < 2 ^ 31) (ha : a < 2 ^ 31) : (nI a = (OfNat.ofNat k : Int32)) = (a = k) := ni_eq ha hk
theorem ni_1 (a : Nat) : nI a + 1 = nI (a + 1) := ni_add a 1
def bI (b : Bool) : Int32 := if b = true then 1 else 0
theorem and15 (x : Int32) : ∃ w, w < 16 ∧ x &&& 15 = nI w := by
  refine ⟨(x.toBitVec &&& 15#32).toNat, ?_, ?_⟩
  · rw [BitVec.toNat_and]
    exact Nat.lt_of_le_of_lt Nat.and_le_right (by decide)
  · apply Int32.toBitVec_inj.mp
    rw [Int32.toBitVec_and]
    show x.toBitVec &&& 15#32 = BitVec.ofNat 32 _
    simp
theorem sh8 (e : Int32) : (e >>> 8).toInt = e.toInt / 256 := by
  show (e.toBitVec.sshiftRight' (BitVec.smod 8#32 32#32)).toInt = _
  rw [show BitVec.smod 8#32 32#32 = 8#32 by decide, BitVec.toInt_sshiftRight', show (8#32).toNat = 8 by decide, Int.shiftRight_eq_div_pow]
  rfl
theorem sh8_n {e : Int32} {a : Nat} (ha : a < 2 ^ 31) (h : nI a < e >>> 8) : nI (e >>> 8).toNatClampNeg = e >>> 8 ∧ (e >>> 8).toNatClampNeg < 2 ^ 30 ∧ a < (e >>> 8).toNatClampNeg := by
  rw [Int32.lt_iff_toInt_lt, ni_int ha] at h
  have e1 := sh8 e
  have e2 : e.toInt < 2 ^ 31 := e.toInt_lt
  have e3 : (e >>> 8).toNatClampNeg = (e >>> 8).toInt.toNat := rfl
  have e4 : (e >>> 8).toNatClampNeg < 2 ^ 30 := by rw [e3]; omega
  refine ⟨?_, e4, by rw [e3]; omega⟩
  apply Int32.toInt_inj.mp
  rw [ni_int (by omega), e3]
  omega
theorem c_Bar_holds_7 {d fr to : Nat} {h : Nat → List Int32} {K : Option Value → pm_S → Prop} (hf : (h 19).length = 6) (hc : (h 10).length = 100) (ht : to < 2 ^ 30) (hfr : fr < 2 ^ 30) : pm_WC fqP (d + 1) 9 [.ref 7, .int (nI fr), .int (nI to), .ref 19] (mk h) K = K (some (.int (bI (chd (h 10) (h 19) to 101 fr false)))) (mk h) := by
  have e5 : (4 &&& 31 : Int32) = 4 := by decide
  have e6 : (8 &&& 31 : Int32) = 8 := by decide
  have key : ∀ (k a : Nat) (is : Bool) (x6 x7 x8 x9 : Option Value), a < 2 ^ 30 → 101 ≤ k + a → pm_W fqP d 9 6 [some (.ref 7), some (.int (nI fr)), some (.int (nI to)), some (.ref 19), some (.int (bI is)), some (.int (nI a)), x6, x7, x8, x9] [] (mk h) K = K (some (.int (bI (chd (h 10) (h 19) to k a is)))) (mk h) := by
    intro k
    induction k with
    | zero =>
      intro a is x6 x7 x8 x9 ha hk
      rw [b_Bar_holds_6]
      simp (maxDischargeDepth := 20) (maxSteps := 2000000) only [↓reduceIte, pm_WL_nil, bi_900, bi_901, bi_904, bi_905, pm_lget_0, pm_lget_s, pm_oI_s, pm_oA_s, pm_oJ_s, pm_oK_s, pm_oR_s, pm_oO_s, pm_oN_s, pm_oF_s, pm_oM_s, pm_oP_s, pm_pu_n, pm_pu_s, pm_bo_ne, pm_bo_eq, Nat.reduceAdd, Nat.reduceSub, Nat.reduceLT, Nat.reduceLeDiff, Nat.reduceEqDiff, Nat.zero_add, Nat.lt_add_one, Nat.zero_ne_one, Nat.succ_ne_self, List.length_cons, List.length_nil, true_and, and_true, true_or, or_true, false_or, or_false, false_implies, true_implies, implies_true, not_true_eq_false, not_false_eq_true, ne_eq, eq_self, e_Bar_holds, pm_okW_0, pm_okW_i, pm_okW_r, pm_okW_l, pm_ent_0, pm_ent_i, pm_ent_r, pm_ent_l, List.reduceReplicate, b_Bar_holds_0, b_Bar_holds_11, b_Bar_holds_17, b_Bar_holds_27, b_Bar_holds_72, b_Bar_holds_79, b_Bar_holds_90, b_Bar_holds_97, b_Bar_holds_101, b_Bar_holds_105, b_Bar_holds_111, b_Bar_holds_118, b_Bar_holds_122, b_Bar_holds_126, b_Bar_holds_133, b_Bar_holds_137, b_Bar_holds_138, b_Bar_holds_143, b_Bar_holds_150, b_Bar_holds_155, b_Bar_holds_159, b_Bar_holds_160, b_Bar_holds_165, b_Bar_holds_174, b_Bar_holds_178, b_Bar_holds_179, b_Bar_holds_182, b_Bar_holds_189, b_Bar_holds_195, b_Bar_holds_201, w_iconst, ki_0, w_istore, pm_lset_0, pm_lset_1, pm_lset_n, pm_no2_n, pm_no2_i, pm_no2_r, pm_no2_l, w_iload1, w_iload, w_if_lt, pm_tgt_is, Int.cast_ofNat_Int, Int.reduceNeg, Int.reduceAdd, Int.reduceToNat, Int.zero_add, Int.zero_le_ofNat, Int.reduceLE, nz_1, nz_m1, if_true, if_false, w_iload2, w_icmp_ge, w_aload0, w_getf, lg_9, lf_1_18, List.getElem?_cons_succ, List.getElem?_cons_zero, w_alen, w_iaload, w_bipush, kb_15, w_iand, ki_4, w_ishr, kb_8, kb_6, w_aload3, w_if_ne, ki_1, w_goto, w_icmp_ne, w_icmp_le, kb_7, w_isub, w_iinc, w_iret, pm_fit_b, pm_fit_0, pm_fit_1, Bool.false_eq_true, hg_7, hs_7, hg_10, hs_10, ia_10, iw_10, ar_10, hg_19, hs_19, ia_19, iw_19, ar_19, up_at, up_ne, up_up, gd_0, gd_s, hf, hc]
      have e1 : (nI a < (0:Int32)) = False := by rw [show (0:Int32) = nI 0 from rfl, ni_lt (by omega) (by omega)]; simp
      have e3 : (nI 100 ≤ nI a) = (100 ≤ a) := ni_le (by omega) (by omega)
      have hfit : pm_fit 1 (.int (bI is)) = true := by cases is <;> rfl
      simp only [e1, e3, hfit, if_false, true_and, show 100 ≤ a by omega, if_true, ite_self, chd]
    | succ k ih =>
      intro a is x6 x7 x8 x9 ha hk
      rw [b_Bar_holds_6]
      simp (maxDischargeDepth := 20) (maxSteps := 2000000) only [↓reduceIte, pm_WL_nil, bi_900, bi_901, bi_904, bi_905, pm_lget_0, pm_lget_s, pm_oI_s, pm_oA_s, pm_oJ_s, pm_oK_s, pm_oR_s, pm_oO_s, pm_oN_s, pm_oF_s, pm_oM_s, pm_oP_s, pm_pu_n, pm_pu_s, pm_bo_ne, pm_bo_eq, Nat.reduceAdd, Nat.reduceSub, Nat.reduceLT, Nat.reduceLeDiff, Nat.reduceEqDiff, Nat.zero_add, Nat.lt_add_one, Nat.zero_ne_one, Nat.succ_ne_self, List.length_cons, List.length_nil, true_and, and_true, true_or, or_true, false_or, or_false, false_implies, true_implies, implies_true, not_true_eq_false, not_false_eq_true, ne_eq, eq_self, e_Bar_holds, pm_okW_0, pm_okW_i, pm_okW_r, pm_okW_l, pm_ent_0, pm_ent_i, pm_ent_r, pm_ent_l, List.reduceReplicate, b_Bar_holds_0, b_Bar_holds_11, b_Bar_holds_17, b_Bar_holds_27, b_Bar_holds_72, b_Bar_holds_79, b_Bar_holds_90, b_Bar_holds_97, b_Bar_holds_101, b_Bar_holds_105, b_Bar_holds_111, b_Bar_holds_118, b_Bar_holds_122, b_Bar_holds_126, b_Bar_holds_133, b_Bar_holds_137, b_Bar_holds_138, b_Bar_holds_143, b_Bar_holds_150, b_Bar_holds_155, b_Bar_holds_159, b_Bar_holds_160, b_Bar_holds_165, b_Bar_holds_174, b_Bar_holds_178, b_Bar_holds_179, b_Bar_holds_182, b_Bar_holds_189, b_Bar_holds_195, b_Bar_holds_201, w_iconst, ki_0, w_istore, pm_lset_0, pm_lset_1, pm_lset_n, pm_no2_n, pm_no2_i, pm_no2_r, pm_no2_l, w_iload1, w_iload, w_if_lt, pm_tgt_is, Int.cast_ofNat_Int, Int.reduceNeg, Int.reduceAdd, Int.reduceToNat, Int.zero_add, Int.zero_le_ofNat, Int.reduceLE, nz_1, nz_m1, if_true, if_false, w_iload2, w_icmp_ge, w_aload0, w_getf, lg_9, lf_1_18, List.getElem?_cons_succ, List.getElem?_cons_zero, w_alen, w_iaload, w_bipush, kb_15, w_iand, ki_4, w_ishr, kb_8, kb_6, w_aload3, w_if_ne, ki_1, w_goto, w_icmp_ne, w_icmp_le, kb_7, w_isub, w_iinc, w_iret, pm_fit_b, pm_fit_0, pm_fit_1, Bool.false_eq_true, hg_7, hs_7, hg_10, hs_10, ia_10, iw_10, ar_10, hg_19, hs_19, ia_19, iw_19, ar_19, up_at, up_ne, up_up, gd_0, gd_s, hf, hc]
      have e1 : (nI a < (0:Int32)) = False := by rw [show (0:Int32) = nI 0 from rfl, ni_lt (by omega) (by omega)]; simp
      have e2 : (nI to ≤ nI a) = (to ≤ a) := ni_le (by omega) (by omega)
      have e3 : (nI 100 ≤ nI a) = (100 ≤ a) := ni_le (by omega) (by omega)
      have e4 : pm_inR (nI a) 100 = (a < 100) := ni_inR (by omega)
      have e7 : pm_rd (h 10) (nI a) = gd (h 10) a := ni_rd _ (by omega)
      have hfit : pm_fit 1 (.int (bI is)) = true := by cases is <;> rfl
      simp only [e1, e2, e3, e4, e5, e6, e7, hfit, if_false, true_and, ni_1]
      rw [chd]
      by_cases c1 : to ≤ a
      · rw [if_pos c1, if_neg (by omega)]
      rw [if_neg c1]
      by_cases c2 : 100 ≤ a
      · rw [if_pos c2, if_neg (by omega)]
      rw [if_neg c2, if_pos (show a < to ∧ a < 100 from ⟨by omega, by omega⟩)]
      simp only [show a < 100 by omega, true_and]
      generalize gd (h 10) a = e
      obtain ⟨w, hw, ew⟩ := and15 e
      simp only [ew]
      have f1 : ((6 : Int32) ≤ nI w) = (6 ≤ w) := li_le 6 w (by omega) (by omega)
      have f2 : (nI 6 ≤ nI w) = (6 ≤ w) := ni_le (by omega) (by omega)
      have f3 : (nI w = 6) = (w = 6) := il_eq 6 w (by omega) (by omega)
      have f4 : (nI w = 7) = (w = 7) := il_eq 7 w (by omega) (by omega)
      have f5 : (nI w < 6) = (w < 6) := il_lt 6 w (by omega) (by omega)
      have f6 : pm_inR (nI w) 6 = (w < 6) := ni_inR (by omega)
      simp only [f1, f2, f3, f4, f5, f6]
      have hit := fun x6 x7 x8 x9 => ih (a + 1) true x6 x7 x8 x9 (by omega) (by omega)
      have hif := fun x6 x7 x8 x9 => ih (a + 1) false x6 x7 x8 x9 (by omega) (by omega)
      by_cases c3 : w < 6
      · simp only [show ¬ 6 ≤ w by omega, c3, if_true, if_false, true_and, cmpI]
        by_cases s0 : (e >>> 4) &&& 15 = 0
        · simp only [s0, not_true_eq_false, if_true, if_false]
          by_cases q : e >>> 8 ≤ pm_rd (h 19) (nI w)
          · rw [if_pos q, decide_eq_false (Int32.not_lt.mpr q)]; exact hif _ _ _ _
          · rw [if_neg q, decide_eq_true (Int32.not_le.mp q)]; exact hit _ _ _ _
        · by_cases s1 : (e >>> 4) &&& 15 = 1
          · simp only [s1, show ¬ (1 : Int32) = 0 by decide, not_false_eq_true, not_true_eq_false, if_true, if_false]
            by_cases q : pm_rd (h 19) (nI w) = e >>> 8
            · rw [if_neg (fun z => z q), decide_eq_true q]; exact hit _ _ _ _
            · rw [if_pos q, decide_eq_false q]; exact hif _ _ _ _
          · simp only [s0, s1, not_false_eq_true, if_true, if_false]
            by_cases q : pm_rd (h 19) (nI w) ≤ e >>> 8
            · rw [if_pos q, decide_eq_false (Int32.not_lt.mpr q)]; exact hif _ _ _ _
            · rw [if_neg q, decide_eq_true (Int32.not_le.mp q)]; exact hit _ _ _ _
      · simp only [show 6 ≤ w by omega, c3, if_true, if_false]
        by_cases c6 : w = 6
        · simp only [c6, not_true_eq_false, if_true, if_false]
          cases is
          · exact hit _ _ _ _
          · exact hif _ _ _ _
        · simp only [c6, not_false_eq_true, if_true, if_false]
          have jmp : ∀ (is : Bool) (x6 x7 x8 x9 : Option Value), (if e >>> 8 ≤ nI a then pm_W fqP d 9 6 [some (.ref 7), some (.int (nI fr)), some (.int (nI to)), some (.ref 19), some (.int (bI is)), some (.int (nI (a + 1))), x6, x7, x8, x9] [] (mk h) K else pm_W fqP d 9 6 [some (.ref 7), some (.int (nI fr)), some (.int (nI to)), some (.ref 19), some (.int (bI is)), some (.int (e >>> 8 - 1 + 1)), x6, x7, x8, x9] [] (mk h) K) = K (some (.int (bI (if nI a < e >>> 8 then chd (h 10) (h 19) to k (e >>> 8).toNatClampNeg is else chd (h 10) (h 19) to k (a + 1) is)))) (mk h) := by
            intro is x6 x7 x8 x9
            by_cases q : e >>> 8 ≤ nI a
            · rw [if_pos q, if_neg (Int32.not_lt.mpr q)]; exact ih _ _ _ _ _ _ (by omega) (by omega)
            · rw [if_neg q, if_pos (Int32.not_le.mp q), Int32.sub_add_cancel]
              obtain ⟨g1, g2, g3⟩ := sh8_n (by omega) (Int32.not_le.mp q)
              have := ih (e >>> 8).toNatClampNeg is x6 x7 x8 x9 g2 (by omega)
              rw [g1] at this
              exact this
          by_cases c7 : w = 7
          · cases is
            · simp only [c7, not_true_eq_false, not_false_eq_true, if_false, decide_true, Bool.false_eq_true, false_and]; exact hif _ _ _ _
            · simp only [c7, not_true_eq_false, not_false_eq_true, if_false, decide_true, true_and]; exact jmp true _ _ _ _
          · cases is
            · simp only [c7, not_true_eq_false, not_false_eq_true, if_true, decide_false, true_and]; exact jmp false _ _ _ _
            · simp only [c7, not_true_eq_false, not_false_eq_true, if_true, decide_false, Bool.true_eq_false, false_and, if_false]; exact hit _ _ _ _
  simp (maxDischargeDepth := 20) (maxSteps := 2000000) only [↓reduceIte, pm_WL_nil, bi_900, bi_901, bi_904, bi_905, pm_lget_0, pm_lget_s, pm_oI_s, pm_oA_s, pm_oJ_s, pm_oK_s, pm_oR_s, pm_oO_s, pm_oN_s, pm_oF_s, pm_oM_s, pm_oP_s, pm_pu_n, pm_pu_s, pm_bo_ne, pm_bo_eq, Nat.reduceAdd, Nat.reduceSub, Nat.reduceLT, Nat.reduceLeDiff, Nat.reduceEqDiff, Nat.zero_add, Nat.lt_add_one, Nat.zero_ne_one, Nat.succ_ne_self, List.length_cons, List.length_nil, true_and, and_true, true_or, or_true, false_or, or_false, false_implies, true_implies, implies_true, not_true_eq_false, not_false_eq_true, ne_eq, eq_self, e_Bar_holds, pm_okW_0, pm_okW_i, pm_okW_r, pm_okW_l, pm_ent_0, pm_ent_i, pm_ent_r, pm_ent_l, List.reduceReplicate, b_Bar_holds_0, b_Bar_holds_11, b_Bar_holds_17, b_Bar_holds_27, b_Bar_holds_72, b_Bar_holds_79, b_Bar_holds_90, b_Bar_holds_97, b_Bar_holds_101, b_Bar_holds_105, b_Bar_holds_111, b_Bar_holds_118, b_Bar_holds_122, b_Bar_holds_126, b_Bar_holds_133, b_Bar_holds_137, b_Bar_holds_138, b_Bar_holds_143, b_Bar_holds_150, b_Bar_holds_155, b_Bar_holds_159, b_Bar_holds_160, b_Bar_holds_165, b_Bar_holds_174, b_Bar_holds_178, b_Bar_holds_179, b_Bar_holds_182, b_Bar_holds_189, b_Bar_holds_195, b_Bar_holds_201, w_iconst, ki_0, w_istore, pm_lset_0, pm_lset_1, pm_lset_n, pm_no2_n, pm_no2_i, pm_no2_r, pm_no2_l, w_iload1, w_iload, w_if_lt, pm_tgt_is, Int.cast_ofNat_Int, Int.reduceNeg, Int.reduceAdd, Int.reduceToNat, Int.zero_add, Int.zero_le_ofNat, Int.reduceLE, nz_1, nz_m1, if_true, if_false, w_iload2, w_icmp_ge, w_aload0, w_getf, lg_9, lf_1_18, List.getElem?_cons_succ, List.getElem?_cons_zero, w_alen, w_iaload, w_bipush, kb_15, w_iand, ki_4, w_ishr, kb_8, kb_6, w_aload3, w_if_ne, ki_1, w_goto, w_icmp_ne, w_icmp_le, kb_7, w_isub, w_iinc, w_iret, pm_fit_b, pm_fit_0, pm_fit_1, Bool.false_eq_true, hg_7, hs_7, hg_19, hs_19, ia_19, iw_19, ar_19, up_at, up_ne, up_up, gd_0, gd_s]
  exact key 101 fr false none none none none hfr (by omega)
theorem c_Bar_sum_7 {d n : Nat} {h : Nat → List Int32} {K : Option Value → pm_S → Prop} (hf : (h 19).length = 6) (hc : (h 10).length = 100) (hc1 : (h 8).length = 10) (hc2 : (h 9).length = 10) (hn : gd (h 7) 0 = nI n) (hn2 : n ≤ 10) (he : ∀ i, i < n → gd (h 9) i = nI (nN (h 9) i) ∧ nN (h 9) i ≤ 100) : pm_WC fqP (d + 2) 8 [.ref 7, .ref 19] (mk h) K = K (some (.int (csum (h 8) (h 9) (h 10) (h 19) n))) (mk h) := by
  have key : ∀ (j k : Nat) (x5 : Option Value), j + k = n → pm_W fqP (d + 1) 8 7 [some (.ref 7), some (.ref 19), some (.int (csum (h 8) (h 9) (h 10) (h 19) k)), some (.int (nI (if k = 0 then 0 else nN (h 9) (k - 1)))), some (.int (nI k)), x5] [] (mk h) K = K (some (.int (csum (h 8) (h 9) (h 10) (h 19) n))) (mk h) := by
    intro j
    induction j with
    | zero =>
      intro k x5 hk
      rw [b_Bar_sum_7]
      simp (maxDischargeDepth := 20) (maxSteps := 2000000) only [↓reduceIte, pm_WL_nil, bi_900, bi_901, bi_904, bi_905, pm_lget_0, pm_lget_s, pm_oI_s, pm_oA_s, pm_oJ_s, pm_oK_s, pm_oR_s, pm_oO_s, pm_oN_s, pm_oF_s, pm_oM_s, pm_oP_s, pm_pu_n, pm_pu_s, pm_bo_ne, pm_bo_eq, Nat.reduceAdd, Nat.reduceSub, Nat.reduceLT, Nat.reduceLeDiff, Nat.reduceEqDiff, Nat.zero_add, Nat.lt_add_one, Nat.zero_ne_one, Nat.succ_ne_self, List.length_cons, List.length_nil, true_and, and_true, true_or, or_true, false_or, or_false, false_implies, true_implies, implies_true, not_true_eq_false, not_false_eq_true, ne_eq, eq_self, e_Bar_sum, pm_okW_0, pm_okW_i, pm_okW_r, pm_okW_l, pm_ent_0, pm_ent_i, pm_ent_r, pm_ent_l, List.reduceReplicate, b_Bar_sum_0, b_Bar_sum_16, b_Bar_sum_23, b_Bar_sum_45, b_Bar_sum_57, b_Bar_sum_66, w_iconst, ki_0, w_istore2, pm_lset_0, pm_lset_1, pm_lset_n, pm_no2_n, pm_no2_i, pm_no2_r, pm_no2_l, w_istore3, w_istore, w_iload, w_aload0, w_getf, lg_8, lf_1_25, List.getElem?_cons_succ, List.getElem?_cons_zero, w_icmp_ge, pm_tgt_is, Int.cast_ofNat_Int, Int.reduceNeg, Int.reduceAdd, Int.reduceToNat, Int.zero_add, Int.zero_le_ofNat, Int.reduceLE, if_true, if_false, w_bipush, kb_10, lf_1_15, w_invs, lm_1_35, pm_pop_0, pm_pop_s, pm_rcv_is, pm_ref1_is, w_iload3, w_aload1, w_invv, lm_1_39, w_if_eq, nz_1, nz_m1, w_iload2, lf_1_9, w_iadd, w_iinc, ki_1, w_goto, w_iret, pm_fit_b, pm_fit_0, pm_fit_1, Bool.false_eq_true, hg_7, hs_7, hg_8, hs_8, ia_8, iw_8, ar_8, hg_9, hs_9, ia_9, iw_9, ar_9, hg_10, hs_10, ia_10, iw_10, ar_10, hg_19, hs_19, ia_19, iw_19, ar_19, up_at, up_ne, up_up, gd_0, gd_s, hn, Int32.le_refl]
      rw [if_pos (show nI n ≤ nI k by rw [ni_le (by omega) (by omega)]; omega), show k = n by omega]
    | succ j ih =>
      intro k x5 hk
      have e1 : (nI n ≤ nI k) = (n ≤ k) := ni_le (by omega) (by omega)
      have e2 : ((10 : Int32) ≤ nI k) = (10 ≤ k) := li_le 10 k (by omega) (by omega)
      obtain ⟨g1, g2⟩ := he k (by omega)
      have e3 : cl (h 9) (nI k) = nI (nN (h 9) k) := by rw [cl_n (by omega) (by omega), g1]
      have e4 : cl (h 8) (nI k) = gd (h 8) k := cl_n (by omega) (by omega)
      have g3 : (if k = 0 then 0 else nN (h 9) (k - 1)) < 2 ^ 30 := by
        split
        · omega
        · have := (he (k - 1) (by omega)).2; omega
      have e5 := fun K => @c_Bar_holds_7 d (if k = 0 then 0 else nN (h 9) (k - 1)) (nN (h 9) k) h K hf hc (by omega) g3
      rw [b_Bar_sum_7]
      simp (maxDischargeDepth := 20) (maxSteps := 2000000) only [↓reduceIte, pm_WL_nil, bi_900, bi_901, bi_904, bi_905, pm_lget_0, pm_lget_s, pm_oI_s, pm_oA_s, pm_oJ_s, pm_oK_s, pm_oR_s, pm_oO_s, pm_oN_s, pm_oF_s, pm_oM_s, pm_oP_s, pm_pu_n, pm_pu_s, pm_bo_ne, pm_bo_eq, Nat.reduceAdd, Nat.reduceSub, Nat.reduceLT, Nat.reduceLeDiff, Nat.reduceEqDiff, Nat.zero_add, Nat.lt_add_one, Nat.zero_ne_one, Nat.succ_ne_self, List.length_cons, List.length_nil, true_and, and_true, true_or, or_true, false_or, or_false, false_implies, true_implies, implies_true, not_true_eq_false, not_false_eq_true, ne_eq, eq_self, e_Bar_sum, pm_okW_0, pm_okW_i, pm_okW_r, pm_okW_l, pm_ent_0, pm_ent_i, pm_ent_r, pm_ent_l, List.reduceReplicate, b_Bar_sum_0, b_Bar_sum_16, b_Bar_sum_23, b_Bar_sum_45, b_Bar_sum_57, b_Bar_sum_66, w_iconst, ki_0, w_istore2, pm_lset_0, pm_lset_1, pm_lset_n, pm_no2_n, pm_no2_i, pm_no2_r, pm_no2_l, w_istore3, w_istore, w_iload, w_aload0, w_getf, lg_8, lf_1_25, List.getElem?_cons_succ, List.getElem?_cons_zero, w_icmp_ge, pm_tgt_is, Int.cast_ofNat_Int, Int.reduceNeg, Int.reduceAdd, Int.reduceToNat, Int.zero_add, Int.zero_le_ofNat, Int.reduceLE, if_true, if_false, w_bipush, kb_10, lf_1_15, w_invs, lm_1_35, pm_pop_0, pm_pop_s, pm_rcv_is, pm_ref1_is, w_iload3, w_aload1, w_invv, lm_1_39, w_if_eq, nz_1, nz_m1, w_iload2, lf_1_9, w_iadd, w_iinc, ki_1, w_goto, w_iret, pm_fit_b, pm_fit_0, pm_fit_1, Bool.false_eq_true, hg_7, hs_7, hg_8, hs_8, ia_8, iw_8, ar_8, hg_9, hs_9, ia_9, iw_9, ar_9, hg_10, hs_10, ia_10, iw_10, ar_10, hg_19, hs_19, ia_19, iw_19, ar_19, up_at, up_ne, up_up, gd_0, gd_s, hn, c_X_cell, e1, e2, e3, e4, e5]
      rw [if_neg (by omega), if_neg (by omega)]
      have := ih (k + 1) (some (.int (nI (nN (h 9) k)))) (by omega)
      simp only [csum, show ¬ (k + 1 = 0) by omega, if_false, Nat.add_sub_cancel] at this
      by_cases q : chd (h 10) (h 19) (nN (h 9) k) 101 (if k = 0 then 0 else nN (h 9) (k - 1)) false = true
      · rw [if_pos q] at this
        simp only [q, bI, if_true, show ¬ (1 : Int32) = 0 by decide, if_false, ni_1]
        exact this
      · rw [if_neg q, Int32.add_zero] at this
        simp only [q, bI, if_true, if_false, ni_1]
        exact this
  simp (maxDischargeDepth := 20) (maxSteps := 2000000) only [↓reduceIte, pm_WL_nil, bi_900, bi_901, bi_904, bi_905, pm_lget_0, pm_lget_s, pm_oI_s, pm_oA_s, pm_oJ_s, pm_oK_s, pm_oR_s, pm_oO_s, pm_oN_s, pm_oF_s, pm_oM_s, pm_oP_s, pm_pu_n, pm_pu_s, pm_bo_ne, pm_bo_eq, Nat.reduceAdd, Nat.reduceSub, Nat.reduceLT, Nat.reduceLeDiff, Nat.reduceEqDiff, Nat.zero_add, Nat.lt_add_one, Nat.zero_ne_one, Nat.succ_ne_self, List.length_cons, List.length_nil, true_and, and_true, true_or, or_true, false_or, or_false, false_implies, true_implies, implies_true, not_true_eq_false, not_false_eq_true, ne_eq, eq_self, e_Bar_sum, pm_okW_0, pm_okW_i, pm_okW_r, pm_okW_l, pm_ent_0, pm_ent_i, pm_ent_r, pm_ent_l, List.reduceReplicate, b_Bar_sum_0, b_Bar_sum_16, b_Bar_sum_23, b_Bar_sum_45, b_Bar_sum_57, b_Bar_sum_66, w_iconst, ki_0, w_istore2, pm_lset_0, pm_lset_1, pm_lset_n, pm_no2_n, pm_no2_i, pm_no2_r, pm_no2_l, w_istore3, w_istore, w_iload, w_aload0, w_getf, lg_8, lf_1_25, List.getElem?_cons_succ, List.getElem?_cons_zero, w_icmp_ge, pm_tgt_is, Int.cast_ofNat_Int, Int.reduceNeg, Int.reduceAdd, Int.reduceToNat, Int.zero_add, Int.zero_le_ofNat, Int.reduceLE, if_true, if_false, w_bipush, kb_10, lf_1_15, w_invs, lm_1_35, pm_pop_0, pm_pop_s, pm_rcv_is, pm_ref1_is, w_iload3, w_aload1, w_invv, lm_1_39, w_if_eq, nz_1, nz_m1, w_iload2, lf_1_9, w_iadd, w_iinc, ki_1, w_goto, w_iret, pm_fit_b, pm_fit_0, pm_fit_1, Bool.false_eq_true, hg_7, hs_7, hg_19, hs_19, ia_19, iw_19, ar_19, up_at, up_ne, up_up, gd_0, gd_s]
  exact key n 0 none (by omega)
theorem c_Bar_holds_62 {d fr to : Nat} {h : Nat → List Int32} {K : Option Value → pm_S → Prop} (hf : (h 74).length = 6) (hc : (h 65).length = 100) (ht : to < 2 ^ 30) (hfr : fr < 2 ^ 30) : pm_WC fqP (d + 1) 9 [.ref 62, .int (nI fr), .int (nI to), .ref 74] (mk h) K = K (some (.int (bI (chd (h 65) (h 74) to 101 fr false)))) (mk h) := by
  have e5 : (4 &&& 31 : Int32) = 4 := by decide
  have e6 : (8 &&& 31 : Int32) = 8 := by decide
  have key : ∀ (k a : Nat) (is : Bool) (x6 x7 x8 x9 : Option Value), a < 2 ^ 30 → 101 ≤ k + a → pm_W fqP d 9 6 [some (.ref 62), some (.int (nI fr)), some (.int (nI to)), some (.ref 74), some (.int (bI is)), some (.int (nI a)), x6, x7, x8, x9] [] (mk h) K = K (some (.int (bI (chd (h 65) (h 74) to k a is)))) (mk h) := by
    intro k
    induction k with
    | zero =>
      intro a is x6 x7 x8 x9 ha hk
      rw [b_Bar_holds_6]
      simp (maxDischargeDepth := 20) (maxSteps := 2000000) only [↓reduceIte, pm_WL_nil, bi_900, bi_901, bi_904, bi_905, pm_lget_0, pm_lget_s, pm_oI_s, pm_oA_s, pm_oJ_s, pm_oK_s, pm_oR_s, pm_oO_s, pm_oN_s, pm_oF_s, pm_oM_s, pm_oP_s, pm_pu_n, pm_pu_s, pm_bo_ne, pm_bo_eq, Nat.reduceAdd, Nat.reduceSub, Nat.reduceLT, Nat.reduceLeDiff, Nat.reduceEqDiff, Nat.zero_add, Nat.lt_add_one, Nat.zero_ne_one, Nat.succ_ne_self, List.length_cons, List.length_nil, true_and, and_true, true_or, or_true, false_or, or_false, false_implies, true_implies, implies_true, not_true_eq_false, not_false_eq_true, ne_eq, eq_self, e_Bar_holds, pm_okW_0, pm_okW_i, pm_okW_r, pm_okW_l, pm_ent_0, pm_ent_i, pm_ent_r, pm_ent_l, List.reduceReplicate, b_Bar_holds_0, b_Bar_holds_11, b_Bar_holds_17, b_Bar_holds_27, b_Bar_holds_72, b_Bar_holds_79, b_Bar_holds_90, b_Bar_holds_97, b_Bar_holds_101, b_Bar_holds_105, b_Bar_holds_111, b_Bar_holds_118, b_Bar_holds_122, b_Bar_holds_126, b_Bar_holds_133, b_Bar_holds_137, b_Bar_holds_138, b_Bar_holds_143, b_Bar_holds_150, b_Bar_holds_155, b_Bar_holds_159, b_Bar_holds_160, b_Bar_holds_165, b_Bar_holds_174, b_Bar_holds_178, b_Bar_holds_179, b_Bar_holds_182, b_Bar_holds_189, b_Bar_holds_195, b_Bar_holds_201, w_iconst, ki_0, w_istore, pm_lset_0, pm_lset_1, pm_lset_n, pm_no2_n, pm_no2_i, pm_no2_r, pm_no2_l, w_iload1, w_iload, w_if_lt, pm_tgt_is, Int.cast_ofNat_Int, Int.reduceNeg, Int.reduceAdd, Int.reduceToNat, Int.zero_add, Int.zero_le_ofNat, Int.reduceLE, nz_1, nz_m1, if_true, if_false, w_iload2, w_icmp_ge, w_aload0, w_getf, lg_9, lf_1_18, List.getElem?_cons_succ, List.getElem?_cons_zero, w_alen, w_iaload, w_bipush, kb_15, w_iand, ki_4, w_ishr, kb_8, kb_6, w_aload3, w_if_ne, ki_1, w_goto, w_icmp_ne, w_icmp_le, kb_7, w_isub, w_iinc, w_iret, pm_fit_b, pm_fit_0, pm_fit_1, Bool.false_eq_true, hg_62, hs_62, hg_65, hs_65, ia_65, iw_65, ar_65, hg_74, hs_74, ia_74, iw_74, ar_74, up_at, up_ne, up_up, gd_0, gd_s, hf, hc]
      have e1 : (nI a < (0:Int32)) = False := by rw [show (0:Int32) = nI 0 from rfl, ni_lt (by omega) (by omega)]; simp
      have e3 : (nI 100 ≤ nI a) = (100 ≤ a) := ni_le (by omega) (by omega)
      have hfit : pm_fit 1 (.int (bI is)) = true := by cases is <;> rfl
      simp only [e1, e3, hfit, if_false, true_and, show 100 ≤ a by omega, if_true, ite_self, chd]
    | succ k ih =>
      intro a is x6 x7 x8 x9 ha hk
      rw [b_Bar_holds_6]
      simp (maxDischargeDepth := 20) (maxSteps := 2000000) only [↓reduceIte, pm_WL_nil, bi_900, bi_901, bi_904, bi_905, pm_lget_0, pm_lget_s, pm_oI_s, pm_oA_s, pm_oJ_s, pm_oK_s, pm_oR_s, pm_oO_s, pm_oN_s, pm_oF_s, pm_oM_s, pm_oP_s, pm_pu_n, pm_pu_s, pm_bo_ne, pm_bo_eq, Nat.reduceAdd, Nat.reduceSub, Nat.reduceLT, Nat.reduceLeDiff, Nat.reduceEqDiff, Nat.zero_add, Nat.lt_add_one, Nat.zero_ne_one, Nat.succ_ne_self, List.length_cons, List.length_nil, true_and, and_true, true_or, or_true, false_or, or_false, false_implies, true_implies, implies_true, not_true_eq_false, not_false_eq_true, ne_eq, eq_self, e_Bar_holds, pm_okW_0, pm_okW_i, pm_okW_r, pm_okW_l, pm_ent_0, pm_ent_i, pm_ent_r, pm_ent_l, List.reduceReplicate, b_Bar_holds_0, b_Bar_holds_11, b_Bar_holds_17, b_Bar_holds_27, b_Bar_holds_72, b_Bar_holds_79, b_Bar_holds_90, b_Bar_holds_97, b_Bar_holds_101, b_Bar_holds_105, b_Bar_holds_111, b_Bar_holds_118, b_Bar_holds_122, b_Bar_holds_126, b_Bar_holds_133, b_Bar_holds_137, b_Bar_holds_138, b_Bar_holds_143, b_Bar_holds_150, b_Bar_holds_155, b_Bar_holds_159, b_Bar_holds_160, b_Bar_holds_165, b_Bar_holds_174, b_Bar_holds_178, b_Bar_holds_179, b_Bar_holds_182, b_Bar_holds_189, b_Bar_holds_195, b_Bar_holds_201, w_iconst, ki_0, w_istore, pm_lset_0, pm_lset_1, pm_lset_n, pm_no2_n, pm_no2_i, pm_no2_r, pm_no2_l, w_iload1, w_iload, w_if_lt, pm_tgt_is, Int.cast_ofNat_Int, Int.reduceNeg, Int.reduceAdd, Int.reduceToNat, Int.zero_add, Int.zero_le_ofNat, Int.reduceLE, nz_1, nz_m1, if_true, if_false, w_iload2, w_icmp_ge, w_aload0, w_getf, lg_9, lf_1_18, List.getElem?_cons_succ, List.getElem?_cons_zero, w_alen, w_iaload, w_bipush, kb_15, w_iand, ki_4, w_ishr, kb_8, kb_6, w_aload3, w_if_ne, ki_1, w_goto, w_icmp_ne, w_icmp_le, kb_7, w_isub, w_iinc, w_iret, pm_fit_b, pm_fit_0, pm_fit_1, Bool.false_eq_true, hg_62, hs_62, hg_65, hs_65, ia_65, iw_65, ar_65, hg_74, hs_74, ia_74, iw_74, ar_74, up_at, up_ne, up_up, gd_0, gd_s, hf, hc]
      have e1 : (nI a < (0:Int32)) = False := by rw [show (0:Int32) = nI 0 from rfl, ni_lt (by omega) (by omega)]; simp
      have e2 : (nI to ≤ nI a) = (to ≤ a) := ni_le (by omega) (by omega)
      have e3 : (nI 100 ≤ nI a) = (100 ≤ a) := ni_le (by omega) (by omega)
      have e4 : pm_inR (nI a) 100 = (a < 100) := ni_inR (by omega)
      have e7 : pm_rd (h 65) (nI a) = gd (h 65) a := ni_rd _ (by omega)
      have hfit : pm_fit 1 (.int (bI is)) = true := by cases is <;> rfl
      simp only [e1, e2, e3, e4, e5, e6, e7, hfit, if_false, true_and, ni_1]
      rw [chd]
      by_cases c1 : to ≤ a
      · rw [if_pos c1, if_neg (by omega)]
      rw [if_neg c1]
      by_cases c2 : 100 ≤ a
      · rw [if_pos c2, if_neg (by omega)]
      rw [if_neg c2, if_pos (show a < to ∧ a < 100 from ⟨by omega, by omega⟩)]
      simp only [show a < 100 by omega, true_and]
      generalize gd (h 65) a = e
      obtain ⟨w, hw, ew⟩ := and15 e
      simp only [ew]
      have f1 : ((6 : Int32) ≤ nI w) = (6 ≤ w) := li_le 6 w (by omega) (by omega)
      have f2 : (nI 6 ≤ nI w) = (6 ≤ w) := ni_le (by omega) (by omega)
      have f3 : (nI w = 6) = (w = 6) := il_eq 6 w (by omega) (by omega)
      have f4 : (nI w = 7) = (w = 7) := il_eq 7 w (by omega) (by omega)
      have f5 : (nI w < 6) = (w < 6) := il_lt 6 w (by omega) (by omega)
      have f6 : pm_inR (nI w) 6 = (w < 6) := ni_inR (by omega)
      simp only [f1, f2, f3, f4, f5, f6]
      have hit := fun x6 x7 x8 x9 => ih (a + 1) true x6 x7 x8 x9 (by omega) (by omega)
      have hif := fun x6 x7 x8 x9 => ih (a + 1) false x6 x7 x8 x9 (by omega) (by omega)
      by_cases c3 : w < 6
      · simp only [show ¬ 6 ≤ w by omega, c3, if_true, if_false, true_and, cmpI]
        by_cases s0 : (e >>> 4) &&& 15 = 0
        · simp only [s0, not_true_eq_false, if_true, if_false]
          by_cases q : e >>> 8 ≤ pm_rd (h 74) (nI w)
          · rw [if_pos q, decide_eq_false (Int32.not_lt.mpr q)]; exact hif _ _ _ _
          · rw [if_neg q, decide_eq_true (Int32.not_le.mp q)]; exact hit _ _ _ _
        · by_cases s1 : (e >>> 4) &&& 15 = 1
          · simp only [s1, show ¬ (1 : Int32) = 0 by decide, not_false_eq_true, not_true_eq_false, if_true, if_false]
            by_cases q : pm_rd (h 74) (nI w) = e >>> 8
            · rw [if_neg (fun z => z q), decide_eq_true q]; exact hit _ _ _ _
            · rw [if_pos q, decide_eq_false q]; exact hif _ _ _ _
          · simp only [s0, s1, not_false_eq_true, if_true, if_false]
            by_cases q : pm_rd (h 74) (nI w) ≤ e >>> 8
            · rw [if_pos q, decide_eq_false (Int32.not_lt.mpr q)]; exact hif _ _ _ _
            · rw [if_neg q, decide_eq_true (Int32.not_le.mp q)]; exact hit _ _ _ _
      · simp only [show 6 ≤ w by omega, c3, if_true, if_false]
        by_cases c6 : w = 6
        · simp only [c6, not_true_eq_false, if_true, if_false]
          cases is
          · exact hit _ _ _ _
          · exact hif _ _ _ _
        · simp only [c6, not_false_eq_true, if_true, if_false]
          have jmp : ∀ (is : Bool) (x6 x7 x8 x9 : Option Value), (if e >>> 8 ≤ nI a then pm_W fqP d 9 6 [some (.ref 62), some (.int (nI fr)), some (.int (nI to)), some (.ref 74), some (.int (bI is)), some (.int (nI (a + 1))), x6, x7, x8, x9] [] (mk h) K else pm_W fqP d 9 6 [some (.ref 62), some (.int (nI fr)), some (.int (nI to)), some (.ref 74), some (.int (bI is)), some (.int (e >>> 8 - 1 + 1)), x6, x7, x8, x9] [] (mk h) K) = K (some (.int (bI (if nI a < e >>> 8 then chd (h 65) (h 74) to k (e >>> 8).toNatClampNeg is else chd (h 65) (h 74) to k (a + 1) is)))) (mk h) := by
            intro is x6 x7 x8 x9
            by_cases q : e >>> 8 ≤ nI a
            · rw [if_pos q, if_neg (Int32.not_lt.mpr q)]; exact ih _ _ _ _ _ _ (by omega) (by omega)
            · rw [if_neg q, if_pos (Int32.not_le.mp q), Int32.sub_add_cancel]
              obtain ⟨g1, g2, g3⟩ := sh8_n (by omega) (Int32.not_le.mp q)
              have := ih (e >>> 8).toNatClampNeg is x6 x7 x8 x9 g2 (by omega)
              rw [g1] at this
              exact this
          by_cases c7 : w = 7
          · cases is
            · simp only [c7, not_true_eq_false, not_false_eq_true, if_false, decide_true, Bool.false_eq_true, false_and]; exact hif _ _ _ _
            · simp only [c7, not_true_eq_false, not_false_eq_true, if_false, decide_true, true_and]; exact jmp true _ _ _ _
          · cases is
            · simp only [c7, not_true_eq_false, not_false_eq_true, if_true, decide_false, true_and]; exact jmp false _ _ _ _
            · simp only [c7, not_true_eq_false, not_false_eq_true, if_true, decide_false, Bool.true_eq_false, false_and, if_false]; exact hit _ _ _ _
  simp (maxDischargeDepth := 20) (maxSteps := 2000000) only [↓reduceIte, pm_WL_nil, bi_900, bi_901, bi_904, bi_905, pm_lget_0, pm_lget_s, pm_oI_s, pm_oA_s, pm_oJ_s, pm_oK_s, pm_oR_s, pm_oO_s, pm_oN_s, pm_oF_s, pm_oM_s, pm_oP_s, pm_pu_n, pm_pu_s, pm_bo_ne, pm_bo_eq, Nat.reduceAdd, Nat.reduceSub, Nat.reduceLT, Nat.reduceLeDiff, Nat.reduceEqDiff, Nat.zero_add, Nat.lt_add_one, Nat.zero_ne_one, Nat.succ_ne_self, List.length_cons, List.length_nil, true_and, and_true, true_or, or_true, false_or, or_false, false_implies, true_implies, implies_true, not_true_eq_false, not_false_eq_true, ne_eq, eq_self, e_Bar_holds, pm_okW_0, pm_okW_i, pm_okW_r, pm_okW_l, pm_ent_0, pm_ent_i, pm_ent_r, pm_ent_l, List.reduceReplicate, b_Bar_holds_0, b_Bar_holds_11, b_Bar_holds_17, b_Bar_holds_27, b_Bar_holds_72, b_Bar_holds_79, b_Bar_holds_90, b_Bar_holds_97, b_Bar_holds_101, b_Bar_holds_105, b_Bar_holds_111, b_Bar_holds_118, b_Bar_holds_122, b_Bar_holds_126, b_Bar_holds_133, b_Bar_holds_137, b_Bar_holds_138, b_Bar_holds_143, b_Bar_holds_150, b_Bar_holds_155, b_Bar_holds_159, b_Bar_holds_160, b_Bar_holds_165, b_Bar_holds_174, b_Bar_holds_178, b_Bar_holds_179, b_Bar_holds_182, b_Bar_holds_189, b_Bar_holds_195, b_Bar_holds_201, w_iconst, ki_0, w_istore, pm_lset_0, pm_lset_1, pm_lset_n, pm_no2_n, pm_no2_i, pm_no2_r, pm_no2_l, w_iload1, w_iload, w_if_lt, pm_tgt_is, Int.cast_ofNat_Int, Int.reduceNeg, Int.reduceAdd, Int.reduceToNat, Int.zero_add, Int.zero_le_ofNat, Int.reduceLE, nz_1, nz_m1, if_true, if_false, w_iload2, w_icmp_ge, w_aload0, w_getf, lg_9, lf_1_18, List.getElem?_cons_succ, List.getElem?_cons_zero, w_alen, w_iaload, w_bipush, kb_15, w_iand, ki_4, w_ishr, kb_8, kb_6, w_aload3, w_if_ne, ki_1, w_goto, w_icmp_ne, w_icmp_le, kb_7, w_isub, w_iinc, w_iret, pm_fit_b, pm_fit_0, pm_fit_1, Bool.false_eq_true, hg_62, hs_62, hg_74, hs_74, ia_74, iw_74, ar_74, up_at, up_ne, up_up, gd_0, gd_s]
  exact key 101 fr false none none none none hfr (by omega)
theorem c_Bar_sum_62 {d n : Nat} {h : Nat → List Int32} {K : Option Value → pm_S → Prop} (hf : (h 74).length = 6) (hc : (h 65).length = 100) (hc1 : (h 63).length = 10) (hc2 : (h 64).length = 10) (hn : gd (h 62) 0 = nI n) (hn2 : n ≤ 10) (he : ∀ i, i < n → gd (h 64) i = nI (nN (h 64) i) ∧ nN (h 64) i ≤ 100) : pm_WC fqP (d + 2) 8 [.ref 62, .ref 74] (mk h) K = K (some (.int (csum (h 63) (h 64) (h 65) (h 74) n))) (mk h) := by
  have key : ∀ (j k : Nat) (x5 : Option Value), j + k = n → pm_W fqP (d + 1) 8 7 [some (.ref 62), some (.ref 74), some (.int (csum (h 63) (h 64) (h 65) (h 74) k)), some (.int (nI (if k = 0 then 0 else nN (h 64) (k - 1)))), some (.int (nI k)), x5] [] (mk h) K = K (some (.int (csum (h 63) (h 64) (h 65) (h 74) n))) (mk h) := by
    intro j
    induction j with
    | zero =>
      intro k x5 hk
      rw [b_Bar_sum_7]
      simp (maxDischargeDepth := 20) (maxSteps := 2000000) only [↓reduceIte, pm_WL_nil, bi_900, bi_901, bi_904, bi_905, pm_lget_0, pm_lget_s, pm_oI_s, pm_oA_s, pm_oJ_s, pm_oK_s, pm_oR_s, pm_oO_s, pm_oN_s, pm_oF_s, pm_oM_s, pm_oP_s, pm_pu_n, pm_pu_s, pm_bo_ne, pm_bo_eq, Nat.reduceAdd, Nat.reduceSub, Nat.reduceLT, Nat.reduceLeDiff, Nat.reduceEqDiff, Nat.zero_add, Nat.lt_add_one, Nat.zero_ne_one, Nat.succ_ne_self, List.length_cons, List.length_nil, true_and, and_true, true_or, or_true, false_or, or_false, false_implies, true_implies, implies_true, not_true_eq_false, not_false_eq_true, ne_eq, eq_self, e_Bar_sum, pm_okW_0, pm_okW_i, pm_okW_r, pm_okW_l, pm_ent_0, pm_ent_i, pm_ent_r, pm_ent_l, List.reduceReplicate, b_Bar_sum_0, b_Bar_sum_16, b_Bar_sum_23, b_Bar_sum_45, b_Bar_sum_57, b_Bar_sum_66, w_iconst, ki_0, w_istore2, pm_lset_0, pm_lset_1, pm_lset_n, pm_no2_n, pm_no2_i, pm_no2_r, pm_no2_l, w_istore3, w_istore, w_iload, w_aload0, w_getf, lg_8, lf_1_25, List.getElem?_cons_succ, List.getElem?_cons_zero, w_icmp_ge, pm_tgt_is, Int.cast_ofNat_Int, Int.reduceNeg, Int.reduceAdd, Int.reduceToNat, Int.zero_add, Int.zero_le_ofNat, Int.reduceLE, if_true, if_false, w_bipush, kb_10, lf_1_15, w_invs, lm_1_35, pm_pop_0, pm_pop_s, pm_rcv_is, pm_ref1_is, w_iload3, w_aload1, w_invv, lm_1_39, w_if_eq, nz_1, nz_m1, w_iload2, lf_1_9, w_iadd, w_iinc, ki_1, w_goto, w_iret, pm_fit_b, pm_fit_0, pm_fit_1, Bool.false_eq_true, hg_62, hs_62, hg_63, hs_63, ia_63, iw_63, ar_63, hg_64, hs_64, ia_64, iw_64, ar_64, hg_65, hs_65, ia_65, iw_65, ar_65, hg_74, hs_74, ia_74, iw_74, ar_74, up_at, up_ne, up_up, gd_0, gd_s, hn, Int32.le_refl]
      rw [if_pos (show nI n ≤ nI k by rw [ni_le (by omega) (by omega)]; omega), show k = n by omega]
    | succ j ih =>
      intro k x5 hk
      have e1 : (nI n ≤ nI k) = (n ≤ k) := ni_le (by omega) (by omega)
      have e2 : ((10 : Int32) ≤ nI k) = (10 ≤ k) := li_le 10 k (by omega) (by omega)
      obtain ⟨g1, g2⟩ := he k (by omega)
      have e3 : cl (h 64) (nI k) = nI (nN (h 64) k) := by rw [cl_n (by omega) (by omega), g1]
      have e4 : cl (h 63) (nI k) = gd (h 63) k := cl_n (by omega) (by omega)
      have g3 : (if k = 0 then 0 else nN (h 64) (k - 1)) < 2 ^ 30 := by
        split
        · omega
        · have := (he (k - 1) (by omega)).2; omega
      have e5 := fun K => @c_Bar_holds_62 d (if k = 0 then 0 else nN (h 64) (k - 1)) (nN (h 64) k) h K hf hc (by omega) g3
      rw [b_Bar_sum_7]
      simp (maxDischargeDepth := 20) (maxSteps := 2000000) only [↓reduceIte, pm_WL_nil, bi_900, bi_901, bi_904, bi_905, pm_lget_0, pm_lget_s, pm_oI_s, pm_oA_s, pm_oJ_s, pm_oK_s, pm_oR_s, pm_oO_s, pm_oN_s, pm_oF_s, pm_oM_s, pm_oP_s, pm_pu_n, pm_pu_s, pm_bo_ne, pm_bo_eq, Nat.reduceAdd, Nat.reduceSub, Nat.reduceLT, Nat.reduceLeDiff, Nat.reduceEqDiff, Nat.zero_add, Nat.lt_add_one, Nat.zero_ne_one, Nat.succ_ne_self, List.length_cons, List.length_nil, true_and, and_true, true_or, or_true, false_or, or_false, false_implies, true_implies, implies_true, not_true_eq_false, not_false_eq_true, ne_eq, eq_self, e_Bar_sum, pm_okW_0, pm_okW_i, pm_okW_r, pm_okW_l, pm_ent_0, pm_ent_i, pm_ent_r, pm_ent_l, List.reduceReplicate, b_Bar_sum_0, b_Bar_sum_16, b_Bar_sum_23, b_Bar_sum_45, b_Bar_sum_57, b_Bar_sum_66, w_iconst, ki_0, w_istore2, pm_lset_0, pm_lset_1, pm_lset_n, pm_no2_n, pm_no2_i, pm_no2_r, pm_no2_l, w_istore3, w_istore, w_iload, w_aload0, w_getf, lg_8, lf_1_25, List.getElem?_cons_succ, List.getElem?_cons_zero, w_icmp_ge, pm_tgt_is, Int.cast_ofNat_Int, Int.reduceNeg, Int.reduceAdd, Int.reduceToNat, Int.zero_add, Int.zero_le_ofNat, Int.reduceLE, if_true, if_false, w_bipush, kb_10, lf_1_15, w_invs, lm_1_35, pm_pop_0, pm_pop_s, pm_rcv_is, pm_ref1_is, w_iload3, w_aload1, w_invv, lm_1_39, w_if_eq, nz_1, nz_m1, w_iload2, lf_1_9, w_iadd, w_iinc, ki_1, w_goto, w_iret, pm_fit_b, pm_fit_0, pm_fit_1, Bool.false_eq_true, hg_62, hs_62, hg_63, hs_63, ia_63, iw_63, ar_63, hg_64, hs_64, ia_64, iw_64, ar_64, hg_65, hs_65, ia_65, iw_65, ar_65, hg_74, hs_74, ia_74, iw_74, ar_74, up_at, up_ne, up_up, gd_0, gd_s, hn, c_X_cell, e1, e2, e3, e4, e5]
      rw [if_neg (by omega), if_neg (by omega)]
      have := ih (k + 1) (some (.int (nI (nN (h 64) k)))) (by omega)
      simp only [csum, show ¬ (k + 1 = 0) by omega, if_false, Nat.add_sub_cancel] at this
      by_cases q : chd (h 65) (h 74) (nN (h 64) k) 101 (if k = 0 then 0 else nN (h 64) (k - 1)) false = true
      · rw [if_pos q] at this
        simp only [q, bI, if_true, show ¬ (1 : Int32) = 0 by decide, if_false, ni_1]
        exact this
      · rw [if_neg q, Int32.add_zero] at this
        simp only [q, bI, if_true, if_false, ni_1]
        exact this
  simp (maxDischargeDepth := 20) (maxSteps := 2000000) only [↓reduceIte, pm_WL_nil, bi_900, bi_901, bi_904, bi_905, pm_lget_0, pm_lget_s, pm_oI_s, pm_oA_s, pm_oJ_s, pm_oK_s, pm_oR_s, pm_oO_s, pm_oN_s, pm_oF_s, pm_oM_s, pm_oP_s, pm_pu_n, pm_pu_s, pm_bo_ne, pm_bo_eq, Nat.reduceAdd, Nat.reduceSub, Nat.reduceLT, Nat.reduceLeDiff, Nat.reduceEqDiff, Nat.zero_add, Nat.lt_add_one, Nat.zero_ne_one, Nat.succ_ne_self, List.length_cons, List.length_nil, true_and, and_true, true_or, or_true, false_or, or_false, false_implies, true_implies, implies_true, not_true_eq_false, not_false_eq_true, ne_eq, eq_self, e_Bar_sum, pm_okW_0, pm_okW_i, pm_okW_r, pm_okW_l, pm_ent_0, pm_ent_i, pm_ent_r, pm_ent_l, List.reduceReplicate, b_Bar_sum_0, b_Bar_sum_16, b_Bar_sum_23, b_Bar_sum_45, b_Bar_sum_57, b_Bar_sum_66, w_iconst, ki_0, w_istore2, pm_lset_0, pm_lset_1, pm_lset_n, pm_no2_n, pm_no2_i, pm_no2_r, pm_no2_l, w_istore3, w_istore, w_iload, w_aload0, w_getf, lg_8, lf_1_25, List.getElem?_cons_succ, List.getElem?_cons_zero, w_icmp_ge, pm_tgt_is, Int.cast_ofNat_Int, Int.reduceNeg, Int.reduceAdd, Int.reduceToNat, Int.zero_add, Int.zero_le_ofNat, Int.reduceLE, if_true, if_false, w_bipush, kb_10, lf_1_15, w_invs, lm_1_35, pm_pop_0, pm_pop_s, pm_rcv_is, pm_ref1_is, w_iload3, w_aload1, w_invv, lm_1_39, w_if_eq, nz_1, nz_m1, w_iload2, lf_1_9, w_iadd, w_iinc, ki_1, w_goto, w_iret, pm_fit_b, pm_fit_0, pm_fit_1, Bool.false_eq_true, hg_62, hs_62, hg_74, hs_74, ia_74, iw_74, ar_74, up_at, up_ne, up_up, gd_0, gd_s]
  exact key n 0 none (by omega)
