/-! WHAT IS TRIED: winds -/
def EX (A : Nat → Prop) (s t : List Int32) : Prop := t.length = s.length ∧ ∀ i, 6 ≤ i → ¬ A i → gd t i = gd s i
theorem sl_cg {s t : List Int32} {a n : Nat} (hs : a + n ≤ s.length) (ht : a + n ≤ t.length) (e : ∀ i, i < n → gd t (a + i) = gd s (a + i)) : sl t a n = sl s a n := by
  apply gd_ext (by rw [sl_len ht, sl_len hs])
  intro k hk
  rw [sl_len ht] at hk
  rw [gd_sl hk, gd_sl hk, e k hk]
theorem cb_H {c : Nat} {s t : List Int32} {h : Nat → List Int32} (hb : CB c s h) (hl : t.length = s.length) (H : ∀ i, 22 ≤ i → ¬ (36 ≤ i ∧ i < 42) → gd t i = gd s i) : CB c t h := by
  obtain ⟨b0, b1, b2, b3, b4, b5, b6, b7⟩ := hb
  have hn : ∀ i, 22 ≤ i → ¬ (36 ≤ i ∧ i < 42) → nN t i = nN s i := fun i a b => congrArg Int32.toNatClampNeg (H i a b)
  have hst : stepsOf t = stepsOf s := by
    unfold stepsOf
    rw [H 29 (by omega) (by omega), hn 29 (by omega) (by omega), hn (229 + nN s 29) (by omega) (by omega), sl_cut (fun i hi => H i (by omega) (by omega)) hl]
  refine ⟨b0, b1, b2, b3, ?_, b5, b6, fun f hf => ?_⟩
  · rw [b4]; unfold quo; rw [H 29 (by omega) (by omega), hn 29 (by omega) (by omega), H (224 + nN s 29) (by omega) (by omega)]
  · rw [b7 f hf]; unfold rsum; rw [hst]
/-- the trial told otherwise -/
theorem cs_mod {n n2 : Nat} {t t2 ag ag2 : List Int32} {h1 h2 : Nat → List Int32} (hc : CS 61 t ag n h1) (hl : t.length = 934) (hl2 : t2.length = 934) (H : ∀ i, 22 ≤ i → ¬ (36 ≤ i ∧ i < 42) → gd t2 i = gd t i) (h0 : h2 61 = [nI n2, nI (cN t2), gd t2 0]) (h5 : h2 66 = [nI (loN t2), gd t2 22]) (h7 : h2 68 = sl t2 36 6) (h9 : h2 70 = sl t2 12 6) (h11 : h2 72 = sl t2 18 4) (h12 : h2 73 = ag2) (h13 : (h2 74).length = 6) (e : ∀ k, k = 67 ∨ k = 69 ∨ k = 71 ∨ (62 ≤ k ∧ k < 66) → h2 k = h1 k) : CS 61 t2 ag2 n2 h2 := by
  obtain ⟨c0, c5, c6, c7, c8, c9, c10, c11, c12, c13, cb⟩ := hc
  simp only [Nat.reduceAdd] at c6 c8 c10 cb
  refine ⟨h0, h5, ?_, h7, ?_, h9, ?_, h11, h12, h13, ?_⟩
  · show h2 67 = _; rw [e 67 (by omega), c6, sl_cg (s := t) (t := t2) (by omega) (by omega) fun i hi => H _ (by omega) (by omega)]
  · show h2 69 = _; rw [e 69 (by omega), c8, sl_cg (s := t) (t := t2) (by omega) (by omega) fun i hi => H _ (by omega) (by omega)]
  · show h2 71 = _; rw [e 71 (by omega), c10, sl_cg (s := t) (t := t2) (by omega) (by omega) fun i hi => H _ (by omega) (by omega)]
  · exact cb_cg (cb_H cb (by omega) H) fun k k1 k2 => e k (by omega)
theorem lo_ex {A : Nat → Prop} {s t : List Int32} (h : EX A s t) (ha : ∀ i, 6 ≤ i → i < 12 → ¬ A i) : loN t = loN s := lo_cg fun p hp => h.2 _ (by omega) (ha _ (by omega) (by omega))
theorem ex_go {A : Nat → Prop} {T : Nat} {s t : List Int32} (h : EX A s t) (hw : WF T t) (hT : T < 2 ^ 30) : EX A s (goes t) := by
  obtain ⟨_, m, _⟩ := goes_ok hw hT
  exact ⟨m.1.trans h.1, fun i h1 h2 => (m.2 i h1).trans (h.2 i h1 h2)⟩
theorem ex_set {j : Nat} {s : List Int32} {x : Int32} : EX (fun i => i = j) s (s.set j x) := ⟨List.length_set, fun i _ h2 => gd_ne h2⟩
theorem ex_rf {A : Nat → Prop} {s : List Int32} : EX A s s := ⟨rfl, fun _ _ _ => rfl⟩
theorem set_sl {s t : List Int32} {a n q : Nat} {x : Int32} (hq : q < n) (hs : a + n ≤ s.length) (ht : a + n ≤ t.length) (e : ∀ i, i < n → ¬ i = q → gd t (a + i) = gd s (a + i)) : (sl t a n).set q x = sl (s.set (a + q) x) a n := by
  rw [← sl_set hq hs]
  apply gd_ext (by rw [List.length_set, List.length_set, sl_len hs, sl_len ht])
  intro k hk
  rw [List.length_set, sl_len ht] at hk
  rw [gd_set _ (by rw [sl_len ht]; exact hq), gd_set _ (by rw [sl_len hs]; exact hq)]
  by_cases z : k = q
  · rw [if_pos z, if_pos z]
  · rw [if_neg z, if_neg z, gd_sl hk, gd_sl hk, e k hk z]
theorem c_M_isCarriedThen {d T m : Nat} {h : Nat → List Int32} {s f xs : List Int32} {Q : Option Value → pm_S → Prop} (hw : WF T s) (hT : T < 2 ^ 29) (hm : m < 5) (hf : f.length = 6) (hx : xs.length = 64) (h88 : (h 88).length = 22) (hQ : ∀ f xs : List Int32, f.length = 6 → xs.length = 64 → Q (some (.int (nI (nN (goes s) (1 + m))))) (mk (rs h (giv (goes s) (h 88) 22) f xs))) : pm_WC fqP (d + 7) 151 [.ref 85, .int (nI m)] (mk (rs h s f xs)) Q := by
  obtain ⟨gw, gm, gt⟩ := goes_ok hw (by omega)
  have gl := wf_len gw
  obtain ⟨ra, rb, rc⟩ := ix (j := 1 + m) (by omega)
  obtain ⟨c1, c2⟩ := wf_c gw hm
  simp (maxDischargeDepth := 20) (maxSteps := 2000000) only [↓reduceIte, pm_WL_nil, bi_900, bi_901, bi_904, bi_905, pm_lget_0, pm_lget_s, pm_oI_s, pm_oA_s, pm_oJ_s, pm_oK_s, pm_oR_s, pm_oO_s, pm_oN_s, pm_oF_s, pm_oM_s, pm_oP_s, pm_pu_n, pm_pu_s, pm_bo_ne, pm_bo_eq, Nat.reduceAdd, Nat.reduceSub, Nat.reduceLT, Nat.reduceLeDiff, Nat.reduceEqDiff, Nat.zero_add, Nat.lt_add_one, Nat.zero_ne_one, Nat.succ_ne_self, List.length_cons, List.length_nil, true_and, and_true, true_or, or_true, false_or, or_false, false_implies, true_implies, implies_true, not_true_eq_false, not_false_eq_true, ne_eq, eq_self, e_M_isCarriedThen, pm_okW_0, pm_okW_i, pm_okW_r, pm_okW_l, pm_ent_0, pm_ent_i, pm_ent_r, pm_ent_l, List.reduceReplicate, b_M_isCarriedThen_0, b_M_isCarriedThen_16, b_M_isCarriedThen_20, b_M_isCarriedThen_21, f_aloadn0, iv_151_165_85, kk_n, kk_s, gf_151_9_85, w_iconst, ki_1, f_iloadn1, w_iadd, w_icmp_ne, pm_tgt_is, Int.cast_ofNat_Int, Int.reduceNeg, Int.reduceAdd, Int.reduceToNat, Int.zero_add, Int.zero_le_ofNat, Int.reduceLE, if_true, if_false, w_goto, ki_0, w_istore2, pm_lset_0, pm_lset_1, pm_lset_n, pm_no2_n, pm_no2_i, pm_no2_r, pm_no2_l, iv_151_177_85, f_iloadn2, w_iret, lg_151, pm_fit_b, pm_fit_0, pm_fit_1, Bool.false_eq_true]
  refine c_M_goes (d := d + 1) hw (by omega) hf hx ?_
  intro f2 xs2 hf2 hx2
  have bq := fun K => @c_M_goesBack (d + 5) h (goes s) f2 xs2 K gl h88
  have hQ := hQ f2 xs2 hf2 hx2
  rcases (by omega : nN (goes s) (1 + m) = 0 ∨ nN (goes s) (1 + m) = 1) with z | z
  · rw [z] at hQ c1
    have e1 : (nI 0 = 1) = False := eq_false (by decide)
    simp (maxDischargeDepth := 20) (maxSteps := 2000000) only [↓reduceIte, pm_WL_nil, bi_900, bi_901, bi_904, bi_905, pm_lget_0, pm_lget_s, pm_oI_s, pm_oA_s, pm_oJ_s, pm_oK_s, pm_oR_s, pm_oO_s, pm_oN_s, pm_oF_s, pm_oM_s, pm_oP_s, pm_pu_n, pm_pu_s, pm_bo_ne, pm_bo_eq, Nat.reduceAdd, Nat.reduceSub, Nat.reduceLT, Nat.reduceLeDiff, Nat.reduceEqDiff, Nat.zero_add, Nat.lt_add_one, Nat.zero_ne_one, Nat.succ_ne_self, List.length_cons, List.length_nil, true_and, and_true, true_or, or_true, false_or, or_false, false_implies, true_implies, implies_true, not_true_eq_false, not_false_eq_true, ne_eq, eq_self, e_M_isCarriedThen, pm_okW_0, pm_okW_i, pm_okW_r, pm_okW_l, pm_ent_0, pm_ent_i, pm_ent_r, pm_ent_l, List.reduceReplicate, b_M_isCarriedThen_0, b_M_isCarriedThen_16, b_M_isCarriedThen_20, b_M_isCarriedThen_21, f_aloadn0, iv_151_165_85, kk_n, kk_s, gf_151_9_85, w_iconst, ki_1, f_iloadn1, w_iadd, w_icmp_ne, pm_tgt_is, Int.cast_ofNat_Int, Int.reduceNeg, Int.reduceAdd, Int.reduceToNat, Int.zero_add, Int.zero_le_ofNat, Int.reduceLE, if_true, if_false, w_goto, ki_0, w_istore2, pm_lset_0, pm_lset_1, pm_lset_n, pm_no2_n, pm_no2_i, pm_no2_r, pm_no2_l, iv_151_177_85, f_iloadn2, w_iret, lg_151, pm_fit_b, pm_fit_0, pm_fit_1, Bool.false_eq_true, hs_85, f_iald_86, f_alen_86, ia_86, ar_86, f_iast_86, iw_86, hs_86, lia_0, lrd_0, lin_0, lwr_0, lia_1, lrd_1, lin_1, lwr_1, lia_2, lrd_2, lin_2, lwr_2, lia_3, lrd_3, lin_3, lwr_3, lia_4, lrd_4, lin_4, lwr_4, lia_5, lrd_5, lin_5, lwr_5, lia_6, lrd_6, lin_6, lwr_6, lia_12, lrd_12, lin_12, lwr_12, lia_18, lrd_18, lin_18, lwr_18, lia_22, lrd_22, lin_22, lwr_22, lia_23, lrd_23, lin_23, lwr_23, lia_24, lrd_24, lin_24, lwr_24, lia_25, lrd_25, lin_25, lwr_25, lia_26, lrd_26, lin_26, lwr_26, lia_27, lrd_27, lin_27, lwr_27, lia_28, lrd_28, lin_28, lwr_28, lia_29, lrd_29, lin_29, lwr_29, lia_30, lrd_30, lin_30, lwr_30, lia_36, lrd_36, lin_36, lwr_36, lia_42, lrd_42, lin_42, lwr_42, lia_48, lrd_48, lin_48, lwr_48, lia_72, lrd_72, lin_72, lwr_72, lia_77, lrd_77, lin_77, lwr_77, lia_82, lrd_82, lin_82, lwr_82, lia_87, lrd_87, lin_87, lwr_87, lia_92, lrd_92, lin_92, lwr_92, lia_100, lrd_100, lin_100, lwr_100, lia_108, lrd_108, lin_108, lwr_108, lia_116, lrd_116, lin_116, lwr_116, lia_124, lrd_124, lin_124, lwr_124, lia_224, lrd_224, lin_224, lwr_224, lia_229, lrd_229, lin_229, lwr_229, lia_234, lrd_234, lin_234, lwr_234, rs_86, gl, ra, rc, c1, e1, bq]
    exact hQ
  · rw [z] at hQ c1
    have e1 : (nI 1 = 1) = True := eq_true (by decide)
    simp (maxDischargeDepth := 20) (maxSteps := 2000000) only [↓reduceIte, pm_WL_nil, bi_900, bi_901, bi_904, bi_905, pm_lget_0, pm_lget_s, pm_oI_s, pm_oA_s, pm_oJ_s, pm_oK_s, pm_oR_s, pm_oO_s, pm_oN_s, pm_oF_s, pm_oM_s, pm_oP_s, pm_pu_n, pm_pu_s, pm_bo_ne, pm_bo_eq, Nat.reduceAdd, Nat.reduceSub, Nat.reduceLT, Nat.reduceLeDiff, Nat.reduceEqDiff, Nat.zero_add, Nat.lt_add_one, Nat.zero_ne_one, Nat.succ_ne_self, List.length_cons, List.length_nil, true_and, and_true, true_or, or_true, false_or, or_false, false_implies, true_implies, implies_true, not_true_eq_false, not_false_eq_true, ne_eq, eq_self, e_M_isCarriedThen, pm_okW_0, pm_okW_i, pm_okW_r, pm_okW_l, pm_ent_0, pm_ent_i, pm_ent_r, pm_ent_l, List.reduceReplicate, b_M_isCarriedThen_0, b_M_isCarriedThen_16, b_M_isCarriedThen_20, b_M_isCarriedThen_21, f_aloadn0, iv_151_165_85, kk_n, kk_s, gf_151_9_85, w_iconst, ki_1, f_iloadn1, w_iadd, w_icmp_ne, pm_tgt_is, Int.cast_ofNat_Int, Int.reduceNeg, Int.reduceAdd, Int.reduceToNat, Int.zero_add, Int.zero_le_ofNat, Int.reduceLE, if_true, if_false, w_goto, ki_0, w_istore2, pm_lset_0, pm_lset_1, pm_lset_n, pm_no2_n, pm_no2_i, pm_no2_r, pm_no2_l, iv_151_177_85, f_iloadn2, w_iret, lg_151, pm_fit_b, pm_fit_0, pm_fit_1, Bool.false_eq_true, hs_85, f_iald_86, f_alen_86, ia_86, ar_86, f_iast_86, iw_86, hs_86, lia_0, lrd_0, lin_0, lwr_0, lia_1, lrd_1, lin_1, lwr_1, lia_2, lrd_2, lin_2, lwr_2, lia_3, lrd_3, lin_3, lwr_3, lia_4, lrd_4, lin_4, lwr_4, lia_5, lrd_5, lin_5, lwr_5, lia_6, lrd_6, lin_6, lwr_6, lia_12, lrd_12, lin_12, lwr_12, lia_18, lrd_18, lin_18, lwr_18, lia_22, lrd_22, lin_22, lwr_22, lia_23, lrd_23, lin_23, lwr_23, lia_24, lrd_24, lin_24, lwr_24, lia_25, lrd_25, lin_25, lwr_25, lia_26, lrd_26, lin_26, lwr_26, lia_27, lrd_27, lin_27, lwr_27, lia_28, lrd_28, lin_28, lwr_28, lia_29, lrd_29, lin_29, lwr_29, lia_30, lrd_30, lin_30, lwr_30, lia_36, lrd_36, lin_36, lwr_36, lia_42, lrd_42, lin_42, lwr_42, lia_48, lrd_48, lin_48, lwr_48, lia_72, lrd_72, lin_72, lwr_72, lia_77, lrd_77, lin_77, lwr_77, lia_82, lrd_82, lin_82, lwr_82, lia_87, lrd_87, lin_87, lwr_87, lia_92, lrd_92, lin_92, lwr_92, lia_100, lrd_100, lin_100, lwr_100, lia_108, lrd_108, lin_108, lwr_108, lia_116, lrd_116, lin_116, lwr_116, lia_124, lrd_124, lin_124, lwr_124, lia_224, lrd_224, lin_224, lwr_224, lia_229, lrd_229, lin_229, lwr_229, lia_234, lrd_234, lin_234, lwr_234, rs_86, gl, ra, rc, c1, e1, bq]
    exact hQ
def wnd (s : List Int32) (n : Nat) : List Int32 := s.set (18 + nN s 0 % 4) (nI n)
def blowF (s : List Int32) (m : Nat) (k : Nat) : Nat := msk (fun n => nN (goes (wnd s n)) (1 + m)) k
theorem wnd_wf {T n : Nat} {s : List Int32} (hw : WF T s) (hn : n < 10) : WF T (wnd s n) := wf_set hw (by omega) (by omega) (Nat.le_trans (show _ ≤ 9 by omega) (Nat.le_of_eq (by unfold bnd; rw [if_neg (by omega), if_neg (by omega), if_pos (by omega)]))) (by omega)
theorem blow_b {T m : Nat} {s : List Int32} (hw : WF T s) (hT : T < 2 ^ 29) (hm : m < 5) (n : Nat) (hn : n < 10) : nN (goes (wnd s n)) (1 + m) < 2 := (wf_c (goes_ok (wnd_wf hw hn) (by omega)).1 hm).2
theorem c_X_winds {scr : List Int32} {d m : Nat} {h : Nat → List Int32} (hi : INV scr h) (hm : m < 5) : pm_WC fqP (d + 39) 80 [.ref 4, .int (nI m)] (mk h) (fun r σ => r = some (.int (nI (blowF (h 86) m 10))) ∧ ∃ h2, σ = mk h2 ∧ FR h h2) := by
  have hL := hi.1
  have hw := hi.2.2.1
  have hl := wf_len hw
  have hc0 := hi.2.2.2.1
  have c0 := hc0.1.1
  simp only [Nat.reduceAdd] at c0
  have hag := ag_of hw
  obtain ⟨t1, t2⟩ := wf_t hw
  have ct := fun K => @c_copyT (d + 29) h K hL
  have em : nI (nN (h 86) 0) - nI (nN (h 86) 0) / 4 * 4 = nI (nN (h 86) 0 % 4) := ni_mod (b := 4) (by omega) (by omega)
  have key : ∀ (j n : Nat) (t : List Int32) (h1 : Nat → List Int32), j + n = 10 → CS 61 t (sl (h 86) 72 5) (nN (h 86) 24) h1 → EX (fun i => i = 18 + nN (h 86) 0 % 4) (h 86) t → FR h h1 → pm_W fqP (d + 38) 80 18 [some (.ref 4), some (.int (nI m)), some (.int (nI (blowF (h 86) m n))), some (.int (nI n))] [] (mk h1) (fun r σ => r = some (.int (nI (blowF (h 86) m 10))) ∧ ∃ h2, σ = mk h2 ∧ FR h h2) := by
    intro j
    induction j with
    | zero =>
      intro n t h1 hn hc1 hx hf
      have e1 : ((9 : Int32) < nI n) = True := by rw [li_lt 9 n (by omega) (by omega)]; exact eq_true (by omega)
      rw [b_X_windsThatCarry_18]
      simp (maxDischargeDepth := 20) (maxSteps := 2000000) only [↓reduceIte, pm_WL_nil, bi_900, bi_901, bi_904, bi_905, pm_lget_0, pm_lget_s, pm_oI_s, pm_oA_s, pm_oJ_s, pm_oK_s, pm_oR_s, pm_oO_s, pm_oN_s, pm_oF_s, pm_oM_s, pm_oP_s, pm_pu_n, pm_pu_s, pm_bo_ne, pm_bo_eq, Nat.reduceAdd, Nat.reduceSub, Nat.reduceLT, Nat.reduceLeDiff, Nat.reduceEqDiff, Nat.zero_add, Nat.lt_add_one, Nat.zero_ne_one, Nat.succ_ne_self, List.length_cons, List.length_nil, true_and, and_true, true_or, or_true, false_or, or_false, false_implies, true_implies, implies_true, not_true_eq_false, not_false_eq_true, ne_eq, eq_self, e_X_windsThatCarry, pm_okW_0, pm_okW_i, pm_okW_r, pm_okW_l, pm_ent_0, pm_ent_i, pm_ent_r, pm_ent_l, List.reduceReplicate, b_X_windsThatCarry_0, b_X_windsThatCarry_24, b_X_windsThatCarry_90, f_aloadn0, gf_80_24_4, gf_80_12_4, gf_80_70_5, gf_80_70_33, iv_80_182_6, iv_80_182_34, iv_80_182_61, kk_n, kk_s, w_iconst, ki_0, w_istore2, pm_lset_0, pm_lset_1, pm_lset_n, pm_no2_n, pm_no2_i, pm_no2_r, pm_no2_l, w_istore3, f_iloadn3, w_bipush, kb_9, w_icmp_gt, pm_tgt_is, Int.cast_ofNat_Int, Int.reduceNeg, Int.reduceAdd, Int.reduceToNat, Int.zero_add, Int.zero_le_ofNat, Int.reduceLE, if_true, if_false, gf_80_151_6, gf_80_151_34, gf_80_151_61, gf_80_169_6, gf_80_169_34, gf_80_169_61, ki_4, w_irem, nz_2, nz_4, nz_8, nz_10, nz_32, iv_80_56, iv_80_286_6, iv_80_286_34, iv_80_286_61, iv_80_185_6, iv_80_185_34, iv_80_185_61, f_iloadn2, gf_80_166_6, gf_80_166_34, gf_80_166_61, f_iloadn1, iv_80_129, w_ishl, w_ior, f_iinc3, ki_1, w_goto, w_iret, lg_80, pm_fit_b, pm_fit_0, pm_fit_1, Bool.false_eq_true, e1]
      rw [show n = 10 by omega]
      exact ⟨rfl, h1, rfl, hf⟩
    | succ j ih =>
      intro n t h1 hn hc1 hx hf
      have tl : t.length = 934 := by rw [hx.1]; exact hl
      have e1 : ((9 : Int32) < nI n) = False := by rw [li_lt 9 n (by omega) (by omega)]; exact eq_false (by omega)
      have ww := wnd_wf (n := n) hw (by omega)
      have wl := wf_len ww
      obtain ⟨gw, gm, gt⟩ := goes_ok ww (by omega)
      have d72 : h1 72 = sl t 18 4 := hc1.2.2.2.2.2.2.2.1
      have d6 : h1 6 = h 6 := hf.2 6 (by omega)
      have d0 := hc1.1
      have f1 : pt (h1 72) (nI (nN (h 86) 0 % 4)) (nI n) = sl (wnd (h 86) n) 18 4 := by
        rw [d72, pt_n (by rw [sl_len (by omega)]; omega) (by rw [sl_len (by omega)]; omega)]
        exact set_sl (by omega) (by omega) (by omega) fun i h1 h2 => hx.2 _ (by omega) (by omega)
      have hc2 : CS 61 (wnd (h 86) n) (sl (h 86) 72 5) (nN (h 86) 24) (up (up h1 72 (sl (wnd (h 86) n) 18 4)) 61 [nI (nN (h 86) 24), nI (cN (h 86)), gd (h 86) 0]) := by
        refine cs_mod hc1 tl wl ?_ ?_ ?_ ?_ ?_ ?_ ?_ ?_ ?_
        · intro i i1 i2; rw [wnd, gd_ne (by omega), hx.2 i (by omega) (by omega)]
        · rw [up_at, wnd, ca_ne (by omega), gd_ne (by omega)]
        · rw [up_ne (by decide), up_ne (by decide), hc1.2.1, wnd, lo_ne (by omega), lo_ex hx (fun i a b => by omega), gd_ne (by omega), hx.2 22 (by omega) (by omega)]
        · rw [up_ne (by decide), up_ne (by decide), hc1.2.2.2.1, wnd]
          exact sl_cg (by simp only [List.length_set]; omega) (by omega) fun i hi => by rw [gd_ne (by omega), hx.2 _ (by omega) (by omega)]
        · rw [up_ne (by decide), up_ne (by decide), hc1.2.2.2.2.2.1, wnd]
          exact sl_cg (by simp only [List.length_set]; omega) (by omega) fun i hi => by rw [gd_ne (by omega), hx.2 _ (by omega) (by omega)]
        · rw [up_ne (by decide), up_at]
        · rw [up_ne (by decide), up_ne (by decide)]; exact hc1.2.2.2.2.2.2.2.2.1
        · rw [up_ne (by decide), up_ne (by decide)]; exact hc1.2.2.2.2.2.2.2.2.2.1
        · intro k hk; rw [up_ne (by omega), up_ne (by omega)]
      have f2 : ∀ l, gd ((up h1 72 l) 61) 0 = nI (nN (h 86) 24) := fun l => by rw [up_ne (by decide), d0]; rfl
      rw [b_X_windsThatCarry_18]
      simp (maxDischargeDepth := 20) (maxSteps := 2000000) only [↓reduceIte, pm_WL_nil, bi_900, bi_901, bi_904, bi_905, pm_lget_0, pm_lget_s, pm_oI_s, pm_oA_s, pm_oJ_s, pm_oK_s, pm_oR_s, pm_oO_s, pm_oN_s, pm_oF_s, pm_oM_s, pm_oP_s, pm_pu_n, pm_pu_s, pm_bo_ne, pm_bo_eq, Nat.reduceAdd, Nat.reduceSub, Nat.reduceLT, Nat.reduceLeDiff, Nat.reduceEqDiff, Nat.zero_add, Nat.lt_add_one, Nat.zero_ne_one, Nat.succ_ne_self, List.length_cons, List.length_nil, true_and, and_true, true_or, or_true, false_or, or_false, false_implies, true_implies, implies_true, not_true_eq_false, not_false_eq_true, ne_eq, eq_self, e_X_windsThatCarry, pm_okW_0, pm_okW_i, pm_okW_r, pm_okW_l, pm_ent_0, pm_ent_i, pm_ent_r, pm_ent_l, List.reduceReplicate, b_X_windsThatCarry_0, b_X_windsThatCarry_24, b_X_windsThatCarry_90, f_aloadn0, gf_80_24_4, gf_80_12_4, gf_80_70_5, gf_80_70_33, iv_80_182_6, iv_80_182_34, iv_80_182_61, kk_n, kk_s, w_iconst, ki_0, w_istore2, pm_lset_0, pm_lset_1, pm_lset_n, pm_no2_n, pm_no2_i, pm_no2_r, pm_no2_l, w_istore3, f_iloadn3, w_bipush, kb_9, w_icmp_gt, pm_tgt_is, Int.cast_ofNat_Int, Int.reduceNeg, Int.reduceAdd, Int.reduceToNat, Int.zero_add, Int.zero_le_ofNat, Int.reduceLE, if_true, if_false, gf_80_151_6, gf_80_151_34, gf_80_151_61, gf_80_169_6, gf_80_169_34, gf_80_169_61, ki_4, w_irem, nz_2, nz_4, nz_8, nz_10, nz_32, iv_80_56, iv_80_286_6, iv_80_286_34, iv_80_286_61, iv_80_185_6, iv_80_185_34, iv_80_185_61, f_iloadn2, gf_80_166_6, gf_80_166_34, gf_80_166_61, f_iloadn1, iv_80_129, w_ishl, w_ior, f_iinc3, ki_1, w_goto, w_iret, lg_80, pm_fit_b, pm_fit_0, pm_fit_1, Bool.false_eq_true, hs_4, hs_5, hs_6, hs_61, f_iald_72, f_alen_72, ia_72, ar_72, f_iast_72, iw_72, hs_72, up_at, up_ne, up_up, gd_0, gd_s, c_X_put, c_Shore_goBack, d6, d0, c0, t1, em, e1, f1]
      rw [t1] at hc2
      refine pm_WC_mono (c_Shore_goTide_61 (d := d + 32) hc2 hag ww (by omega)) ?_
      rintro r σ ⟨rfl, h2, rfl, hc3, hf3⟩
      have gis : goBy (wnd (h 86) n) (sl (h 86) 72 5) (nN (h 86) 24) = goes (wnd (h 86) n) := by
        unfold goes; rw [wnd, sl_ne (by omega) (by omega), nN_ne (by omega)]
      rw [gis] at hc3
      have hfr : FR h h2 := by
        refine fr_step (h1 := up (up h1 72 (sl (wnd (h 86) n) 18 4)) 61 [nI (nN (h 86) 24), nI (cN (h 86)), nI (nN (h 86) 0)]) ⟨?_, ?_⟩ hc3 (wf_len gw) hag.1 hf3
        · exact ln_up (ln_up hf.1 (sl_len (by omega))) rfl
        · intro k hk; rw [up_ne (by omega), up_ne (by omega)]; exact hf.2 k hk
      have t0 := hc3.1
      have bb := blow_b hw (by omega) hm n (by omega)
      have f3 : bt (nI (cN (goes (wnd (h 86) n)))) (nI m) = nI (nN (goes (wnd (h 86) n)) (1 + m)) := bt_c gw hm
      have f4 := or_a n (by omega) (blowF (h 86) m n) (msk_lt n fun i hi => blow_b hw (by omega) hm i (by omega)) _ bb
      simp (maxDischargeDepth := 20) (maxSteps := 2000000) only [↓reduceIte, pm_WL_nil, bi_900, bi_901, bi_904, bi_905, pm_lget_0, pm_lget_s, pm_oI_s, pm_oA_s, pm_oJ_s, pm_oK_s, pm_oR_s, pm_oO_s, pm_oN_s, pm_oF_s, pm_oM_s, pm_oP_s, pm_pu_n, pm_pu_s, pm_bo_ne, pm_bo_eq, Nat.reduceAdd, Nat.reduceSub, Nat.reduceLT, Nat.reduceLeDiff, Nat.reduceEqDiff, Nat.zero_add, Nat.lt_add_one, Nat.zero_ne_one, Nat.succ_ne_self, List.length_cons, List.length_nil, true_and, and_true, true_or, or_true, false_or, or_false, false_implies, true_implies, implies_true, not_true_eq_false, not_false_eq_true, ne_eq, eq_self, e_X_windsThatCarry, pm_okW_0, pm_okW_i, pm_okW_r, pm_okW_l, pm_ent_0, pm_ent_i, pm_ent_r, pm_ent_l, List.reduceReplicate, b_X_windsThatCarry_0, b_X_windsThatCarry_24, b_X_windsThatCarry_90, f_aloadn0, gf_80_24_4, gf_80_12_4, gf_80_70_5, gf_80_70_33, iv_80_182_6, iv_80_182_34, iv_80_182_61, kk_n, kk_s, w_iconst, ki_0, w_istore2, pm_lset_0, pm_lset_1, pm_lset_n, pm_no2_n, pm_no2_i, pm_no2_r, pm_no2_l, w_istore3, f_iloadn3, w_bipush, kb_9, w_icmp_gt, pm_tgt_is, Int.cast_ofNat_Int, Int.reduceNeg, Int.reduceAdd, Int.reduceToNat, Int.zero_add, Int.zero_le_ofNat, Int.reduceLE, if_true, if_false, gf_80_151_6, gf_80_151_34, gf_80_151_61, gf_80_169_6, gf_80_169_34, gf_80_169_61, ki_4, w_irem, nz_2, nz_4, nz_8, nz_10, nz_32, iv_80_56, iv_80_286_6, iv_80_286_34, iv_80_286_61, iv_80_185_6, iv_80_185_34, iv_80_185_61, f_iloadn2, gf_80_166_6, gf_80_166_34, gf_80_166_61, f_iloadn1, iv_80_129, w_ishl, w_ior, f_iinc3, ki_1, w_goto, w_iret, lg_80, pm_fit_b, pm_fit_0, pm_fit_1, Bool.false_eq_true, hs_4, hs_61, up_at, up_ne, up_up, gd_0, gd_s, c_X_bit, t0, f3, f4, ni_1]
      have := ih (n + 1) (goes (wnd (h 86) n)) h2 (by omega) hc3 (ex_go ex_set ww (by omega)) hfr
      rw [blowF, msk] at this
      exact this
  simp (maxDischargeDepth := 20) (maxSteps := 2000000) only [↓reduceIte, pm_WL_nil, bi_900, bi_901, bi_904, bi_905, pm_lget_0, pm_lget_s, pm_oI_s, pm_oA_s, pm_oJ_s, pm_oK_s, pm_oR_s, pm_oO_s, pm_oN_s, pm_oF_s, pm_oM_s, pm_oP_s, pm_pu_n, pm_pu_s, pm_bo_ne, pm_bo_eq, Nat.reduceAdd, Nat.reduceSub, Nat.reduceLT, Nat.reduceLeDiff, Nat.reduceEqDiff, Nat.zero_add, Nat.lt_add_one, Nat.zero_ne_one, Nat.succ_ne_self, List.length_cons, List.length_nil, true_and, and_true, true_or, or_true, false_or, or_false, false_implies, true_implies, implies_true, not_true_eq_false, not_false_eq_true, ne_eq, eq_self, e_X_windsThatCarry, pm_okW_0, pm_okW_i, pm_okW_r, pm_okW_l, pm_ent_0, pm_ent_i, pm_ent_r, pm_ent_l, List.reduceReplicate, b_X_windsThatCarry_0, b_X_windsThatCarry_24, b_X_windsThatCarry_90, f_aloadn0, gf_80_24_4, gf_80_12_4, gf_80_70_5, gf_80_70_33, iv_80_182_6, iv_80_182_34, iv_80_182_61, kk_n, kk_s, w_iconst, ki_0, w_istore2, pm_lset_0, pm_lset_1, pm_lset_n, pm_no2_n, pm_no2_i, pm_no2_r, pm_no2_l, w_istore3, f_iloadn3, w_bipush, kb_9, w_icmp_gt, pm_tgt_is, Int.cast_ofNat_Int, Int.reduceNeg, Int.reduceAdd, Int.reduceToNat, Int.zero_add, Int.zero_le_ofNat, Int.reduceLE, if_true, if_false, gf_80_151_6, gf_80_151_34, gf_80_151_61, gf_80_169_6, gf_80_169_34, gf_80_169_61, ki_4, w_irem, nz_2, nz_4, nz_8, nz_10, nz_32, iv_80_56, iv_80_286_6, iv_80_286_34, iv_80_286_61, iv_80_185_6, iv_80_185_34, iv_80_185_61, f_iloadn2, gf_80_166_6, gf_80_166_34, gf_80_166_61, f_iloadn1, iv_80_129, w_ishl, w_ior, f_iinc3, ki_1, w_goto, w_iret, lg_80, pm_fit_b, pm_fit_0, pm_fit_1, Bool.false_eq_true, hs_4, hs_5, hs_6, hs_61, ct]
  exact key 10 0 (h 86) (tcp h) rfl (cs_tcp hc0.1 hL) ex_rf (fr_tcp hL)
theorem c_M_blowing {scr : List Int32} {d m : Nat} {h h1 : Nat → List Int32} {Q : Option Value → pm_S → Prop} (hi : INV scr h) (hf1 : FR h h1) (hm : m < 5) (hQ : ∀ h2, INV scr h2 → Q (some (.int (nI (blowF (h 86) m 10)))) (mk h2)) : pm_WC fqP (d + 39) 152 [.ref 85, .int (nI m)] (mk h1) Q := by
  have hi0 := hi
  have hw := hi.2.2.1
  have hl := wf_len hw
  obtain ⟨hL1, fr⟩ := hf1
  obtain ⟨t1, t2⟩ := wf_t hw
  have h86 : h1 86 = h 86 := fr 86 (by omega)
  have mk1 : mk h1 = mk (rs (up h1 88 (h1 88)) (h 86) (h1 89) (h1 90)) := by rw [← h86, up_id, rs_id]
  have em : nI (nN (h 86) 0) - nI (nN (h 86) 0) / 4 * 4 = nI (nN (h 86) 0 % 4) := ni_mod (b := 4) (by omega) (by omega)
  have key : ∀ (j n : Nat) (l f xs : List Int32), j + n = 10 → l.length = 22 → f.length = 6 → xs.length = 64 → pm_W fqP (d + 38) 152 4 [some (.ref 85), some (.int (nI m)), some (.int (nI (blowF (h 86) m n))), some (.int (nI n))] [] (mk (rs (up h1 88 l) (h 86) f xs)) Q := by
    intro j
    induction j with
    | zero =>
      intro n l f xs hn hll hf hx
      have e1 : ((10 : Int32) ≤ nI n) = True := by rw [li_le 10 n (by omega) (by omega)]; exact eq_true (by omega)
      rw [b_M_blowing_4]
      simp (maxDischargeDepth := 20) (maxSteps := 2000000) only [↓reduceIte, pm_WL_nil, bi_900, bi_901, bi_904, bi_905, pm_lget_0, pm_lget_s, pm_oI_s, pm_oA_s, pm_oJ_s, pm_oK_s, pm_oR_s, pm_oO_s, pm_oN_s, pm_oF_s, pm_oM_s, pm_oP_s, pm_pu_n, pm_pu_s, pm_bo_ne, pm_bo_eq, Nat.reduceAdd, Nat.reduceSub, Nat.reduceLT, Nat.reduceLeDiff, Nat.reduceEqDiff, Nat.zero_add, Nat.lt_add_one, Nat.zero_ne_one, Nat.succ_ne_self, List.length_cons, List.length_nil, true_and, and_true, true_or, or_true, false_or, or_false, false_implies, true_implies, implies_true, not_true_eq_false, not_false_eq_true, ne_eq, eq_self, e_M_blowing, pm_okW_0, pm_okW_i, pm_okW_r, pm_okW_l, pm_ent_0, pm_ent_i, pm_ent_r, pm_ent_l, List.reduceReplicate, b_M_blowing_0, b_M_blowing_10, b_M_blowing_40, b_M_blowing_46, b_M_blowing_47, b_M_blowing_55, w_iconst, ki_0, w_istore2, pm_lset_0, pm_lset_1, pm_lset_n, pm_no2_n, pm_no2_i, pm_no2_r, pm_no2_l, w_istore3, f_iloadn3, w_bipush, kb_10, w_icmp_ge, pm_tgt_is, Int.cast_ofNat_Int, Int.reduceNeg, Int.reduceAdd, Int.reduceToNat, Int.zero_add, Int.zero_le_ofNat, Int.reduceLE, if_true, if_false, f_aloadn0, iv_152_171_85, kk_n, kk_s, gf_152_9_85, kb_18, ki_4, w_irem, nz_2, nz_4, nz_8, nz_10, nz_32, w_iadd, f_iloadn2, f_iloadn1, iv_152_196_85, w_if_eq, nz_1, nz_m1, ki_1, w_ishl, w_goto, w_ior, f_iinc3, w_iret, lg_152, pm_fit_b, pm_fit_0, pm_fit_1, Bool.false_eq_true, e1]
      rw [show n = 10 by omega]
      exact hQ _ (inv_fin hi0 hL1 (fun k _ q _ _ _ _ => fr k (by omega)) hll hf hx)
    | succ j ih =>
      intro n l f xs hn hll hf hx
      have e1 : ((10 : Int32) ≤ nI n) = False := by rw [li_le 10 n (by omega) (by omega)]; exact eq_false (by omega)
      have ww := wnd_wf (n := n) hw (by omega)
      obtain ⟨gw, gm, gt⟩ := goes_ok ww (by omega)
      have bb := blow_b hw (by omega) hm n (by omega)
      obtain ⟨ra, rb, rc⟩ := ix (j := 18 + nN (h 86) 0 % 4) (by omega)
      have kq : ∀ K, pm_WC fqP (d + 38) 105 [.ref 85] (mk (rs (up h1 88 l) (h 86) f xs)) K = K none (mk (rs (up h1 88 (sl (h 86) 0 22)) (h 86) f xs)) := fun K => by
        rw [c_M_keeps hl (by rw [up_at]; exact hll), up_up]
      have fw : (h 86).set (18 + nN (h 86) 0 % 4) (nI n) = wnd (h 86) n := rfl
      have f4 := fun b hb => or_a n (by omega) (blowF (h 86) m n) (msk_lt n fun i hi => blow_b hw (by omega) hm i (by omega)) b hb
      rw [b_M_blowing_4]
      simp (maxDischargeDepth := 20) (maxSteps := 2000000) only [↓reduceIte, pm_WL_nil, bi_900, bi_901, bi_904, bi_905, pm_lget_0, pm_lget_s, pm_oI_s, pm_oA_s, pm_oJ_s, pm_oK_s, pm_oR_s, pm_oO_s, pm_oN_s, pm_oF_s, pm_oM_s, pm_oP_s, pm_pu_n, pm_pu_s, pm_bo_ne, pm_bo_eq, Nat.reduceAdd, Nat.reduceSub, Nat.reduceLT, Nat.reduceLeDiff, Nat.reduceEqDiff, Nat.zero_add, Nat.lt_add_one, Nat.zero_ne_one, Nat.succ_ne_self, List.length_cons, List.length_nil, true_and, and_true, true_or, or_true, false_or, or_false, false_implies, true_implies, implies_true, not_true_eq_false, not_false_eq_true, ne_eq, eq_self, e_M_blowing, pm_okW_0, pm_okW_i, pm_okW_r, pm_okW_l, pm_ent_0, pm_ent_i, pm_ent_r, pm_ent_l, List.reduceReplicate, b_M_blowing_0, b_M_blowing_10, b_M_blowing_40, b_M_blowing_46, b_M_blowing_47, b_M_blowing_55, w_iconst, ki_0, w_istore2, pm_lset_0, pm_lset_1, pm_lset_n, pm_no2_n, pm_no2_i, pm_no2_r, pm_no2_l, w_istore3, f_iloadn3, w_bipush, kb_10, w_icmp_ge, pm_tgt_is, Int.cast_ofNat_Int, Int.reduceNeg, Int.reduceAdd, Int.reduceToNat, Int.zero_add, Int.zero_le_ofNat, Int.reduceLE, if_true, if_false, f_aloadn0, iv_152_171_85, kk_n, kk_s, gf_152_9_85, kb_18, ki_4, w_irem, nz_2, nz_4, nz_8, nz_10, nz_32, w_iadd, f_iloadn2, f_iloadn1, iv_152_196_85, w_if_eq, nz_1, nz_m1, ki_1, w_ishl, w_goto, w_ior, f_iinc3, w_iret, lg_152, pm_fit_b, pm_fit_0, pm_fit_1, Bool.false_eq_true, hs_85, f_iald_86, f_alen_86, ia_86, ar_86, f_iast_86, iw_86, hs_86, lia_0, lrd_0, lin_0, lwr_0, lia_1, lrd_1, lin_1, lwr_1, lia_2, lrd_2, lin_2, lwr_2, lia_3, lrd_3, lin_3, lwr_3, lia_4, lrd_4, lin_4, lwr_4, lia_5, lrd_5, lin_5, lwr_5, lia_6, lrd_6, lin_6, lwr_6, lia_12, lrd_12, lin_12, lwr_12, lia_18, lrd_18, lin_18, lwr_18, lia_22, lrd_22, lin_22, lwr_22, lia_23, lrd_23, lin_23, lwr_23, lia_24, lrd_24, lin_24, lwr_24, lia_25, lrd_25, lin_25, lwr_25, lia_26, lrd_26, lin_26, lwr_26, lia_27, lrd_27, lin_27, lwr_27, lia_28, lrd_28, lin_28, lwr_28, lia_29, lrd_29, lin_29, lwr_29, lia_30, lrd_30, lin_30, lwr_30, lia_36, lrd_36, lin_36, lwr_36, lia_42, lrd_42, lin_42, lwr_42, lia_48, lrd_48, lin_48, lwr_48, lia_72, lrd_72, lin_72, lwr_72, lia_77, lrd_77, lin_77, lwr_77, lia_82, lrd_82, lin_82, lwr_82, lia_87, lrd_87, lin_87, lwr_87, lia_92, lrd_92, lin_92, lwr_92, lia_100, lrd_100, lin_100, lwr_100, lia_108, lrd_108, lin_108, lwr_108, lia_116, lrd_116, lin_116, lwr_116, lia_124, lrd_124, lin_124, lwr_124, lia_224, lrd_224, lin_224, lwr_224, lia_229, lrd_229, lin_229, lwr_229, lia_234, lrd_234, lin_234, lwr_234, rs_86, rs_u86, hl, t1, em, e1, kq, ra, rb, fw]
      refine c_M_isCarriedThen (d := d + 31) ww (by omega) hm hf hx (by rw [up_at]; exact sl_len (by omega)) ?_
      intro f2 xs2 hf2 hx2
      have gb : giv (goes (wnd (h 86) n)) ((up h1 88 (sl (h 86) 0 22)) 88) 22 = h 86 := by
        rw [up_at]
        refine giv_bk hl ⟨?_, fun i hi => ?_⟩
        · rw [gm.1, wnd, List.length_set]
        · rw [gm.2 i (by omega), wnd, gd_ne (by omega)]
      rw [gb]
      have := ih (n + 1) (sl (h 86) 0 22) f2 xs2 (by omega) (sl_len (by omega)) hf2 hx2
      rw [blowF, msk] at this
      rcases (by omega : nN (goes (wnd (h 86) n)) (1 + m) = 0 ∨ nN (goes (wnd (h 86) n)) (1 + m) = 1) with z | z
      · have e0 : (nI 0 = 0) = True := eq_true rfl
        rw [z] at this ⊢
        simp only [Nat.zero_mul, Nat.add_zero] at this
        simp (maxDischargeDepth := 20) (maxSteps := 2000000) only [↓reduceIte, pm_WL_nil, bi_900, bi_901, bi_904, bi_905, pm_lget_0, pm_lget_s, pm_oI_s, pm_oA_s, pm_oJ_s, pm_oK_s, pm_oR_s, pm_oO_s, pm_oN_s, pm_oF_s, pm_oM_s, pm_oP_s, pm_pu_n, pm_pu_s, pm_bo_ne, pm_bo_eq, Nat.reduceAdd, Nat.reduceSub, Nat.reduceLT, Nat.reduceLeDiff, Nat.reduceEqDiff, Nat.zero_add, Nat.lt_add_one, Nat.zero_ne_one, Nat.succ_ne_self, List.length_cons, List.length_nil, true_and, and_true, true_or, or_true, false_or, or_false, false_implies, true_implies, implies_true, not_true_eq_false, not_false_eq_true, ne_eq, eq_self, e_M_blowing, pm_okW_0, pm_okW_i, pm_okW_r, pm_okW_l, pm_ent_0, pm_ent_i, pm_ent_r, pm_ent_l, List.reduceReplicate, b_M_blowing_0, b_M_blowing_10, b_M_blowing_40, b_M_blowing_46, b_M_blowing_47, b_M_blowing_55, w_iconst, ki_0, w_istore2, pm_lset_0, pm_lset_1, pm_lset_n, pm_no2_n, pm_no2_i, pm_no2_r, pm_no2_l, w_istore3, f_iloadn3, w_bipush, kb_10, w_icmp_ge, pm_tgt_is, Int.cast_ofNat_Int, Int.reduceNeg, Int.reduceAdd, Int.reduceToNat, Int.zero_add, Int.zero_le_ofNat, Int.reduceLE, if_true, if_false, f_aloadn0, iv_152_171_85, kk_n, kk_s, gf_152_9_85, kb_18, ki_4, w_irem, nz_2, nz_4, nz_8, nz_10, nz_32, w_iadd, f_iloadn2, f_iloadn1, iv_152_196_85, w_if_eq, nz_1, nz_m1, ki_1, w_ishl, w_goto, w_ior, f_iinc3, w_iret, lg_152, pm_fit_b, pm_fit_0, pm_fit_1, Bool.false_eq_true, e0, ni_1, Int32.or_zero]
        exact this
      · have e0 : (nI 1 = 0) = False := eq_false (by decide)
        rw [z] at this ⊢
        have f5 : nI (blowF (h 86) m n) ||| (1 <<< (nI n &&& 31)) = nI (blowF (h 86) m n + 1 * 2 ^ n) := f4 1 (by omega)
        simp (maxDischargeDepth := 20) (maxSteps := 2000000) only [↓reduceIte, pm_WL_nil, bi_900, bi_901, bi_904, bi_905, pm_lget_0, pm_lget_s, pm_oI_s, pm_oA_s, pm_oJ_s, pm_oK_s, pm_oR_s, pm_oO_s, pm_oN_s, pm_oF_s, pm_oM_s, pm_oP_s, pm_pu_n, pm_pu_s, pm_bo_ne, pm_bo_eq, Nat.reduceAdd, Nat.reduceSub, Nat.reduceLT, Nat.reduceLeDiff, Nat.reduceEqDiff, Nat.zero_add, Nat.lt_add_one, Nat.zero_ne_one, Nat.succ_ne_self, List.length_cons, List.length_nil, true_and, and_true, true_or, or_true, false_or, or_false, false_implies, true_implies, implies_true, not_true_eq_false, not_false_eq_true, ne_eq, eq_self, e_M_blowing, pm_okW_0, pm_okW_i, pm_okW_r, pm_okW_l, pm_ent_0, pm_ent_i, pm_ent_r, pm_ent_l, List.reduceReplicate, b_M_blowing_0, b_M_blowing_10, b_M_blowing_40, b_M_blowing_46, b_M_blowing_47, b_M_blowing_55, w_iconst, ki_0, w_istore2, pm_lset_0, pm_lset_1, pm_lset_n, pm_no2_n, pm_no2_i, pm_no2_r, pm_no2_l, w_istore3, f_iloadn3, w_bipush, kb_10, w_icmp_ge, pm_tgt_is, Int.cast_ofNat_Int, Int.reduceNeg, Int.reduceAdd, Int.reduceToNat, Int.zero_add, Int.zero_le_ofNat, Int.reduceLE, if_true, if_false, f_aloadn0, iv_152_171_85, kk_n, kk_s, gf_152_9_85, kb_18, ki_4, w_irem, nz_2, nz_4, nz_8, nz_10, nz_32, w_iadd, f_iloadn2, f_iloadn1, iv_152_196_85, w_if_eq, nz_1, nz_m1, ki_1, w_ishl, w_goto, w_ior, f_iinc3, w_iret, lg_152, pm_fit_b, pm_fit_0, pm_fit_1, Bool.false_eq_true, e0, ni_1, f5]
        exact this
  rw [mk1]
  simp (maxDischargeDepth := 20) (maxSteps := 2000000) only [↓reduceIte, pm_WL_nil, bi_900, bi_901, bi_904, bi_905, pm_lget_0, pm_lget_s, pm_oI_s, pm_oA_s, pm_oJ_s, pm_oK_s, pm_oR_s, pm_oO_s, pm_oN_s, pm_oF_s, pm_oM_s, pm_oP_s, pm_pu_n, pm_pu_s, pm_bo_ne, pm_bo_eq, Nat.reduceAdd, Nat.reduceSub, Nat.reduceLT, Nat.reduceLeDiff, Nat.reduceEqDiff, Nat.zero_add, Nat.lt_add_one, Nat.zero_ne_one, Nat.succ_ne_self, List.length_cons, List.length_nil, true_and, and_true, true_or, or_true, false_or, or_false, false_implies, true_implies, implies_true, not_true_eq_false, not_false_eq_true, ne_eq, eq_self, e_M_blowing, pm_okW_0, pm_okW_i, pm_okW_r, pm_okW_l, pm_ent_0, pm_ent_i, pm_ent_r, pm_ent_l, List.reduceReplicate, b_M_blowing_0, b_M_blowing_10, b_M_blowing_40, b_M_blowing_46, b_M_blowing_47, b_M_blowing_55, w_iconst, ki_0, w_istore2, pm_lset_0, pm_lset_1, pm_lset_n, pm_no2_n, pm_no2_i, pm_no2_r, pm_no2_l, w_istore3, f_iloadn3, w_bipush, kb_10, w_icmp_ge, pm_tgt_is, Int.cast_ofNat_Int, Int.reduceNeg, Int.reduceAdd, Int.reduceToNat, Int.zero_add, Int.zero_le_ofNat, Int.reduceLE, if_true, if_false, f_aloadn0, iv_152_171_85, kk_n, kk_s, gf_152_9_85, kb_18, ki_4, w_irem, nz_2, nz_4, nz_8, nz_10, nz_32, w_iadd, f_iloadn2, f_iloadn1, iv_152_196_85, w_if_eq, nz_1, nz_m1, ki_1, w_ishl, w_goto, w_ior, f_iinc3, w_iret, lg_152, pm_fit_b, pm_fit_0, pm_fit_1, Bool.false_eq_true]
  exact key 10 0 (h1 88) _ _ rfl (hL1 88 (by omega) (by omega)) (hL1 89 (by omega) (by omega)) (hL1 90 (by omega) (by omega))
theorem q_blows {scr : List Int32} {d : Nat} {h : Nat → List Int32} (hi : INV scr h) (w : Int32) : BOTH scr (d + 40) 60 153 [.int w] h := by
  have hi0 := hi
  obtain ⟨hL, ⟨ro0, ro1, ro2, ro3⟩, hw, hc, hk, ha⟩ := hi
  have hc0 := hc
  obtain ⟨⟨c0, c5, c6, c7, c8, c9, c10, c11, c12, c13, cb⟩, d0, d15, d16, d17, d18, d19, d20, d21, d22, d24, d25, d26, dis⟩ := hc
  simp only [Nat.reduceAdd] at c0 c5 c6 c7 c8 c9 c10 c11 c12 c13 cb d0 d15 d16 d17 d18 d19 d20 d21 d22 d24 d25 d26
  have hl := wf_len hw
  obtain ⟨hn, hn6⟩ := wf_n hw
  have ha5 := (wf_a hw).2
  unfold BOTH
  by_cases v : 0 ≤ w ∧ w < 5
  case neg =>
    have v1 := eq_false v
    simp (maxDischargeDepth := 20) (maxSteps := 2000000) only [↓reduceIte, pm_WL_nil, bi_900, bi_901, bi_904, bi_905, pm_lget_0, pm_lget_s, pm_oI_s, pm_oA_s, pm_oJ_s, pm_oK_s, pm_oR_s, pm_oO_s, pm_oN_s, pm_oF_s, pm_oM_s, pm_oP_s, pm_pu_n, pm_pu_s, pm_bo_ne, pm_bo_eq, Nat.reduceAdd, Nat.reduceSub, Nat.reduceLT, Nat.reduceLeDiff, Nat.reduceEqDiff, Nat.zero_add, Nat.lt_add_one, Nat.zero_ne_one, Nat.succ_ne_self, List.length_cons, List.length_nil, true_and, and_true, true_or, or_true, false_or, or_false, false_implies, true_implies, implies_true, not_true_eq_false, not_false_eq_true, ne_eq, eq_self, e_X_blows, pm_okW_0, pm_okW_i, pm_okW_r, pm_okW_l, pm_ent_0, pm_ent_i, pm_ent_r, pm_ent_l, List.reduceReplicate, b_X_blows_0, b_X_blows_7, b_X_blows_9, f_iloadn1, iv_60_157, kk_n, kk_s, w_if_ne, pm_tgt_is, Int.cast_ofNat_Int, Int.reduceNeg, Int.reduceAdd, Int.reduceToNat, Int.zero_add, Int.zero_le_ofNat, Int.reduceLE, nz_1, nz_m1, if_true, if_false, w_iconst, ki_m1, w_iret, lg_60, pm_fit_b, pm_fit_0, pm_fit_1, Bool.false_eq_true, f_aloadn0, iv_60_192_4, c_X_isMotion, v1]
    simp (maxDischargeDepth := 20) (maxSteps := 2000000) only [↓reduceIte, pm_WL_nil, bi_900, bi_901, bi_904, bi_905, pm_lget_0, pm_lget_s, pm_oI_s, pm_oA_s, pm_oJ_s, pm_oK_s, pm_oR_s, pm_oO_s, pm_oN_s, pm_oF_s, pm_oM_s, pm_oP_s, pm_pu_n, pm_pu_s, pm_bo_ne, pm_bo_eq, Nat.reduceAdd, Nat.reduceSub, Nat.reduceLT, Nat.reduceLeDiff, Nat.reduceEqDiff, Nat.zero_add, Nat.lt_add_one, Nat.zero_ne_one, Nat.succ_ne_self, List.length_cons, List.length_nil, true_and, and_true, true_or, or_true, false_or, or_false, false_implies, true_implies, implies_true, not_true_eq_false, not_false_eq_true, ne_eq, eq_self, e_M_blows, pm_okW_0, pm_okW_i, pm_okW_r, pm_okW_l, pm_ent_0, pm_ent_i, pm_ent_r, pm_ent_l, List.reduceReplicate, b_M_blows_0, b_M_blows_7, b_M_blows_15, b_M_blows_16, f_iloadn1, iv_153_142, kk_n, kk_s, w_if_eq, pm_tgt_is, Int.cast_ofNat_Int, Int.reduceNeg, Int.reduceAdd, Int.reduceToNat, Int.zero_add, Int.zero_le_ofNat, Int.reduceLE, nz_1, nz_m1, if_true, if_false, f_aloadn0, iv_153_199_85, w_goto, w_iconst, ki_m1, w_iret, lg_153, pm_fit_b, pm_fit_0, pm_fit_1, Bool.false_eq_true, c_M_isMotion, v1]
    exact po_i hi0
  have v1 := eq_true v
  obtain ⟨m, hm5, rfl⟩ := i_rng (n := 5) (by omega) v
  simp (maxDischargeDepth := 20) (maxSteps := 2000000) only [↓reduceIte, pm_WL_nil, bi_900, bi_901, bi_904, bi_905, pm_lget_0, pm_lget_s, pm_oI_s, pm_oA_s, pm_oJ_s, pm_oK_s, pm_oR_s, pm_oO_s, pm_oN_s, pm_oF_s, pm_oM_s, pm_oP_s, pm_pu_n, pm_pu_s, pm_bo_ne, pm_bo_eq, Nat.reduceAdd, Nat.reduceSub, Nat.reduceLT, Nat.reduceLeDiff, Nat.reduceEqDiff, Nat.zero_add, Nat.lt_add_one, Nat.zero_ne_one, Nat.succ_ne_self, List.length_cons, List.length_nil, true_and, and_true, true_or, or_true, false_or, or_false, false_implies, true_implies, implies_true, not_true_eq_false, not_false_eq_true, ne_eq, eq_self, e_X_blows, pm_okW_0, pm_okW_i, pm_okW_r, pm_okW_l, pm_ent_0, pm_ent_i, pm_ent_r, pm_ent_l, List.reduceReplicate, b_X_blows_0, b_X_blows_7, b_X_blows_9, f_iloadn1, iv_60_157, kk_n, kk_s, w_if_ne, pm_tgt_is, Int.cast_ofNat_Int, Int.reduceNeg, Int.reduceAdd, Int.reduceToNat, Int.zero_add, Int.zero_le_ofNat, Int.reduceLE, nz_1, nz_m1, if_true, if_false, w_iconst, ki_m1, w_iret, lg_60, pm_fit_b, pm_fit_0, pm_fit_1, Bool.false_eq_true, f_aloadn0, iv_60_192_4, c_X_isMotion, v1]
  refine pm_WC_mono (c_X_winds (d := d) hi0 hm5) ?_
  rintro r σ ⟨rfl, h1, rfl, hf1⟩
  simp (maxDischargeDepth := 20) (maxSteps := 2000000) only [↓reduceIte, pm_WL_nil, bi_900, bi_901, bi_904, bi_905, pm_lget_0, pm_lget_s, pm_oI_s, pm_oA_s, pm_oJ_s, pm_oK_s, pm_oR_s, pm_oO_s, pm_oN_s, pm_oF_s, pm_oM_s, pm_oP_s, pm_pu_n, pm_pu_s, pm_bo_ne, pm_bo_eq, Nat.reduceAdd, Nat.reduceSub, Nat.reduceLT, Nat.reduceLeDiff, Nat.reduceEqDiff, Nat.zero_add, Nat.lt_add_one, Nat.zero_ne_one, Nat.succ_ne_self, List.length_cons, List.length_nil, true_and, and_true, true_or, or_true, false_or, or_false, false_implies, true_implies, implies_true, not_true_eq_false, not_false_eq_true, ne_eq, eq_self, e_X_blows, pm_okW_0, pm_okW_i, pm_okW_r, pm_okW_l, pm_ent_0, pm_ent_i, pm_ent_r, pm_ent_l, List.reduceReplicate, b_X_blows_0, b_X_blows_7, b_X_blows_9, f_iloadn1, iv_60_157, kk_n, kk_s, w_if_ne, pm_tgt_is, Int.cast_ofNat_Int, Int.reduceNeg, Int.reduceAdd, Int.reduceToNat, Int.zero_add, Int.zero_le_ofNat, Int.reduceLE, nz_1, nz_m1, if_true, if_false, w_iconst, ki_m1, w_iret, lg_60, pm_fit_b, pm_fit_0, pm_fit_1, Bool.false_eq_true, f_aloadn0, iv_60_192_4]
  simp (maxDischargeDepth := 20) (maxSteps := 2000000) only [↓reduceIte, pm_WL_nil, bi_900, bi_901, bi_904, bi_905, pm_lget_0, pm_lget_s, pm_oI_s, pm_oA_s, pm_oJ_s, pm_oK_s, pm_oR_s, pm_oO_s, pm_oN_s, pm_oF_s, pm_oM_s, pm_oP_s, pm_pu_n, pm_pu_s, pm_bo_ne, pm_bo_eq, Nat.reduceAdd, Nat.reduceSub, Nat.reduceLT, Nat.reduceLeDiff, Nat.reduceEqDiff, Nat.zero_add, Nat.lt_add_one, Nat.zero_ne_one, Nat.succ_ne_self, List.length_cons, List.length_nil, true_and, and_true, true_or, or_true, false_or, or_false, false_implies, true_implies, implies_true, not_true_eq_false, not_false_eq_true, ne_eq, eq_self, e_M_blows, pm_okW_0, pm_okW_i, pm_okW_r, pm_okW_l, pm_ent_0, pm_ent_i, pm_ent_r, pm_ent_l, List.reduceReplicate, b_M_blows_0, b_M_blows_7, b_M_blows_15, b_M_blows_16, f_iloadn1, iv_153_142, kk_n, kk_s, w_if_eq, pm_tgt_is, Int.cast_ofNat_Int, Int.reduceNeg, Int.reduceAdd, Int.reduceToNat, Int.zero_add, Int.zero_le_ofNat, Int.reduceLE, nz_1, nz_m1, if_true, if_false, f_aloadn0, iv_153_199_85, w_goto, w_iconst, ki_m1, w_iret, lg_153, pm_fit_b, pm_fit_0, pm_fit_1, Bool.false_eq_true, c_M_isMotion, v1]
  refine c_M_blowing (d := d) hi0 hf1 hm5 ?_
  intro h2 hi2
  simp (maxDischargeDepth := 20) (maxSteps := 2000000) only [↓reduceIte, pm_WL_nil, bi_900, bi_901, bi_904, bi_905, pm_lget_0, pm_lget_s, pm_oI_s, pm_oA_s, pm_oJ_s, pm_oK_s, pm_oR_s, pm_oO_s, pm_oN_s, pm_oF_s, pm_oM_s, pm_oP_s, pm_pu_n, pm_pu_s, pm_bo_ne, pm_bo_eq, Nat.reduceAdd, Nat.reduceSub, Nat.reduceLT, Nat.reduceLeDiff, Nat.reduceEqDiff, Nat.zero_add, Nat.lt_add_one, Nat.zero_ne_one, Nat.succ_ne_self, List.length_cons, List.length_nil, true_and, and_true, true_or, or_true, false_or, or_false, false_implies, true_implies, implies_true, not_true_eq_false, not_false_eq_true, ne_eq, eq_self, e_M_blows, pm_okW_0, pm_okW_i, pm_okW_r, pm_okW_l, pm_ent_0, pm_ent_i, pm_ent_r, pm_ent_l, List.reduceReplicate, b_M_blows_0, b_M_blows_7, b_M_blows_15, b_M_blows_16, f_iloadn1, iv_153_142, kk_n, kk_s, w_if_eq, pm_tgt_is, Int.cast_ofNat_Int, Int.reduceNeg, Int.reduceAdd, Int.reduceToNat, Int.zero_add, Int.zero_le_ofNat, Int.reduceLE, nz_1, nz_m1, if_true, if_false, f_aloadn0, iv_153_199_85, w_goto, w_iconst, ki_m1, w_iret, lg_153, pm_fit_b, pm_fit_0, pm_fit_1, Bool.false_eq_true]
  exact po_i hi2
