/-! A THING MORE; of -/
theorem cb_hi {c : Nat} {s t : List Int32} {h : Nat → List Int32} (hb : CB c s h) (hl : t.length = s.length) (H : ∀ i, i = 29 ∨ 224 ≤ i → gd t i = gd s i) : CB c t h := by
  obtain ⟨b0, b1, b2, b3, b4, b5, b6, b7⟩ := hb
  have hn : ∀ i, i = 29 ∨ 224 ≤ i → nN t i = nN s i := fun i a => congrArg Int32.toNatClampNeg (H i a)
  have hst : stepsOf t = stepsOf s := by
    unfold stepsOf
    rw [H 29 (by omega), hn 29 (by omega), hn (229 + nN s 29) (by omega), sl_cut (fun i hi => H i (by omega)) hl]
  refine ⟨b0, b1, b2, b3, ?_, b5, b6, fun f hf => ?_⟩
  · rw [b4]; unfold quo; rw [H 29 (by omega), hn 29 (by omega), H (224 + nN s 29) (by omega)]
  · rw [b7 f hf]; unfold rsum; rw [hst]
theorem sl_pt {s t : List Int32} {a n q : Nat} {x : Int32} (hq : q < n) (hs : a + n ≤ s.length) (ht : a + n ≤ t.length) (hx : gd t (a + q) = x) (e : ∀ i, i < n → ¬ i = q → gd t (a + i) = gd s (a + i)) : (sl s a n).set q x = sl t a n := by
  apply gd_ext (by rw [List.length_set, sl_len hs, sl_len ht])
  intro k hk
  rw [List.length_set, sl_len hs] at hk
  rw [gd_set _ (by rw [sl_len hs]; exact hq), gd_sl hk]
  by_cases z : k = q
  · rw [if_pos z, z, gd_sl hq, hx]
  · rw [if_neg z, gd_sl hk, e k hk z]
def rws (s : List Int32) (a : Nat) : Nat → List Int32
  | 0 => s
  | k + 1 => (rws s a k).set (a + k) 0
theorem rws_gd {s : List Int32} {a : Nat} : ∀ k, a + k ≤ s.length → (rws s a k).length = s.length ∧ ∀ i, gd (rws s a k) i = if a ≤ i ∧ i < a + k then 0 else gd s i
  | 0, _ => ⟨rfl, fun i => by rw [if_neg (by omega)]; rfl⟩
  | k + 1, hk => by
    obtain ⟨i1, i2⟩ := rws_gd (s := s) (a := a) k (by omega)
    refine ⟨by rw [rws, List.length_set, i1], fun i => ?_⟩
    rw [rws, gd_set _ (by omega), i2]
    by_cases e : i = a + k
    · rw [if_pos e, if_pos (by omega)]
    · rw [if_neg e]
      by_cases e2 : a ≤ i ∧ i < a + k
      · rw [if_pos e2, if_pos (by omega)]
      · rw [if_neg e2, if_neg (by omega)]
theorem rws_wf {T p : Nat} {s : List Int32} (h : WF T s) (hp : p < 6) : ∀ k, k ≤ 4 → WF T (rws s (48 + 4 * p) k)
  | 0, _ => h
  | k + 1, hk => wf_set (a := 0) (rws_wf h hp k (by omega)) (by omega) (by omega) (Nat.zero_le _) (by omega)
def thg (s : List Int32) (p kd v dr : Nat) : List Int32 := ((((s.set (30 + p) (nI kd)).set (36 + p) (nI v)).set (42 + p) (nI 1)).set (12 + p) (nI dr)).set (6 + p) (nI 0)
def thS (s : List Int32) (p kd v dr : Nat) : List Int32 := (rws (thg s p kd v dr) (48 + 4 * p) 4).set 22 (nI (p + 1))
theorem thg_ok {T p kd v dr : Nat} {s : List Int32} (h : WF T s) (hp : p < 6) (hk : kd < 7) (hv : v < 10) (hd : dr < 10) : WF T (thg s p kd v dr) :=
  wf_set (wf_set (wf_set (wf_set (wf_set h (by omega) (by omega) (Nat.le_trans (show _ ≤ 6 by omega) (Nat.le_of_eq (by unfold bnd; rw [if_neg (by omega), if_neg (by omega), if_neg (by omega), if_neg (by omega), if_neg (by omega), if_neg (by omega), if_neg (by omega), if_pos (by omega)]))) (by omega)) (by omega) (by omega) (Nat.le_trans (show _ ≤ 9 by omega) (Nat.le_of_eq (by unfold bnd; rw [if_neg (by omega), if_neg (by omega), if_neg (by omega), if_neg (by omega), if_neg (by omega), if_neg (by omega), if_neg (by omega), if_neg (by omega), if_pos (by omega)]))) (by omega)) (by omega) (by omega) (Nat.le_trans (show _ ≤ 9 by omega) (Nat.le_of_eq (by unfold bnd; rw [if_neg (by omega), if_neg (by omega), if_neg (by omega), if_neg (by omega), if_neg (by omega), if_neg (by omega), if_neg (by omega), if_neg (by omega), if_pos (by omega)]))) (by omega)) (by omega) (by omega) (Nat.le_trans (show _ ≤ 9 by omega) (Nat.le_of_eq (by unfold bnd; rw [if_neg (by omega), if_neg (by omega), if_pos (by omega)]))) (by omega)) (by omega) (by omega) (Nat.zero_le _) (by omega)
theorem thg_len (s : List Int32) (p kd v dr : Nat) : (thg s p kd v dr).length = s.length := by unfold thg; simp only [List.length_set]
theorem thS_ok {T p kd v dr : Nat} {s : List Int32} (h : WF T s) (hp : p < 6) (hk : kd < 7) (hv : v < 10) (hd : dr < 10) : WF T (thS s p kd v dr) :=
  wf_set (rws_wf (thg_ok h hp hk hv hd) hp 4 (by omega)) (by omega) (by omega) (Nat.le_trans (show _ ≤ 6 by omega) (Nat.le_of_eq (by unfold bnd; rw [if_neg (by omega), if_neg (by omega), if_neg (by omega), if_pos (by omega)]))) (by omega)
theorem thS_gd {p kd v dr : Nat} {s : List Int32} (hl : s.length = 934) (hp : p < 6) (i : Nat) : gd (thS s p kd v dr) i = if i = 22 then nI (p + 1) else if 48 + 4 * p ≤ i ∧ i < 48 + 4 * p + 4 then 0 else if i = 6 + p then nI 0 else if i = 12 + p then nI dr else if i = 42 + p then nI 1 else if i = 36 + p then nI v else if i = 30 + p then nI kd else gd s i := by
  have hg := thg_len s p kd v dr
  obtain ⟨r1, r2⟩ := rws_gd (s := thg s p kd v dr) (a := 48 + 4 * p) 4 (by omega)
  rw [thS, gd_set _ (by omega), r2, thg, gd_set _ (by simp only [List.length_set]; omega), gd_set _ (by simp only [List.length_set]; omega), gd_set _ (by simp only [List.length_set]; omega), gd_set _ (by simp only [List.length_set]; omega), gd_set _ (by omega)]
theorem c_Things_add {d p kd v dr : Nat} {lo : Int32} {h : Nat → List Int32} {K : Option Value → pm_S → Prop} (hL : LN h) (hp : p < 6) (h11 : h 11 = [lo, nI p]) : pm_WC fqP (d + 3) 41 [.ref 11, .int (nI kd), .int (nI v), .int (nI dr)] (mk h) K = K (some (.int (nI p))) (mk (up (up (up (up (up (up h 12 ((h 12).set p (nI kd))) 13 ((h 13).set p (nI v))) 14 ((h 14).set p 1)) 15 ((h 15).set p (nI dr))) 16 (rws (h 16) (4 * p) 4)) 11 [wb lo (nI p) (¬ (0 : Int32) = 0), nI (p + 1)])) := by
  have l12 : (h 12).length = 6 := hL 12 (by omega) (by omega)
  have l13 : (h 13).length = 6 := hL 13 (by omega) (by omega)
  have l14 : (h 14).length = 6 := hL 14 (by omega) (by omega)
  have l15 : (h 15).length = 6 := hL 15 (by omega) (by omega)
  have l16 : (h 16).length = 24 := hL 16 (by omega) (by omega)
  have f12 : ∀ x, pt (h 12) (nI p) x = (h 12).set p x := fun x => pt_n (by omega) (by omega)
  have f13 : ∀ x, pt (h 13) (nI p) x = (h 13).set p x := fun x => pt_n (by omega) (by omega)
  have f14 : ∀ x, pt (h 14) (nI p) x = (h 14).set p x := fun x => pt_n (by omega) (by omega)
  have f15 : ∀ x, pt (h 15) (nI p) x = (h 15).set p x := fun x => pt_n (by omega) (by omega)
  have h11a : gd (h 11) 1 = nI p := by rw [h11]; rfl
  have h11b : gd (h 11) 0 = lo := by rw [h11]; rfl
  have sb1 : nI (p + 1) - 1 = nI p := ni_dec p
  have key : ∀ (j k : Nat) (H : Nat → List Int32), j + k = 4 → H 11 = [lo, nI p] → H 16 = rws (h 16) (4 * p) k → pm_W fqP (d + 2) 41 51 [some (.ref 11), some (.int (nI kd)), some (.int (nI v)), some (.int (nI dr)), some (.int (nI k))] [] (mk H) K = K (some (.int (nI p))) (mk (up (up H 16 (rws (h 16) (4 * p) 4)) 11 [wb lo (nI p) (¬ (0 : Int32) = 0), nI (p + 1)])) := by
    intro j
    induction j with
    | zero =>
      intro k H hk a1 a2
      have hk4 : k = 4 := by omega
      subst hk4
      have e1 : ((4 : Int32) ≤ nI 4) = True := eq_true (Int32.le_refl _)
      have b11 : gd (H 11) 1 = nI p := by rw [a1]; rfl
      have b11b : gd (H 11) 0 = lo := by rw [a1]; rfl
      rw [b_Things_add_51]
      have cw : ∀ (σ : pm_S) (K : Option Value → pm_S → Prop), pm_WC fqP (d + 2) 96 [.int lo, .int (nI p), .int 0] σ K = K (some (.int (wb lo (nI p) (¬ (0 : Int32) = 0)))) σ := fun σ K => c_X_withBit
      simp (maxDischargeDepth := 20) (maxSteps := 2000000) only [↓reduceIte, pm_WL_nil, bi_900, bi_901, bi_904, bi_905, pm_lget_0, pm_lget_s, pm_oI_s, pm_oA_s, pm_oJ_s, pm_oK_s, pm_oR_s, pm_oO_s, pm_oN_s, pm_oF_s, pm_oM_s, pm_oP_s, pm_pu_n, pm_pu_s, pm_bo_ne, pm_bo_eq, Nat.reduceAdd, Nat.reduceSub, Nat.reduceLT, Nat.reduceLeDiff, Nat.reduceEqDiff, Nat.zero_add, Nat.lt_add_one, Nat.zero_ne_one, Nat.succ_ne_self, List.length_cons, List.length_nil, true_and, and_true, true_or, or_true, false_or, or_false, false_implies, true_implies, implies_true, not_true_eq_false, not_false_eq_true, ne_eq, eq_self, e_Things_add, pm_okW_0, pm_okW_i, pm_okW_r, pm_okW_l, pm_ent_0, pm_ent_i, pm_ent_r, pm_ent_l, List.reduceReplicate, b_Things_add_0, b_Things_add_57, b_Things_add_80, f_aloadn0, gf_41_9_11, gf_41_9_39, gf_41_9_66, gf_41_27_11, gf_41_27_39, gf_41_27_66, f_iloadn1, iv_41_31, kk_n, kk_s, gf_41_15_11, gf_41_15_39, gf_41_15_66, f_iloadn2, gf_41_18_11, gf_41_18_39, gf_41_18_66, w_iconst, ki_1, gf_41_21_11, gf_41_21_39, gf_41_21_66, f_iloadn3, ki_0, w_istore, pm_lset_0, pm_lset_1, pm_lset_n, pm_no2_n, pm_no2_i, pm_no2_r, pm_no2_l, f_iload4, ki_4, w_icmp_ge, pm_tgt_is, Int.cast_ofNat_Int, Int.reduceNeg, Int.reduceAdd, Int.reduceToNat, Int.zero_add, Int.zero_le_ofNat, Int.reduceLE, if_true, if_false, gf_41_24_11, gf_41_24_39, gf_41_24_66, w_imul, w_iadd, f_iinc4, w_goto, gf_41_35_11, gf_41_35_39, gf_41_35_66, iv_41_38, pf_41_35_11, pf_41_35_39, pf_41_35_66, pm_fit_b, pm_fit_0, pm_fit_1, w_dupi, w_dupa, pf_41_27_11, pf_41_27_39, pf_41_27_66, w_isub, w_iret, lg_41, Bool.false_eq_true, hs_11, up_at, up_ne, up_up, gd_0, gd_s, a1, e1, cw, ni_1, sb1]
      rw [← a2, up_id]
    | succ j ih =>
      intro k H hk a1 a2
      have e1 : ((4 : Int32) ≤ nI k) = False := by rw [li_le 4 k (by omega) (by omega)]; exact eq_false (by omega)
      obtain ⟨r1, r2⟩ := rws_gd (s := h 16) (a := 4 * p) k (by omega)
      have f0 : nI p * 4 + nI k = nI (4 * p + k) := by rw [show (4 : Int32) = nI 4 from rfl, ni_mul, ni_add, Nat.mul_comm]
      have f1 : pt (H 16) (nI (4 * p + k)) 0 = rws (h 16) (4 * p) (k + 1) := by rw [a2, pt_n (by omega) (by omega)]; rfl
      have := ih (k + 1) (up H 16 (rws (h 16) (4 * p) (k + 1))) (by omega) (by rw [up_ne (by decide)]; exact a1) (by rw [up_at])
      rw [up_up] at this
      rw [b_Things_add_51]
      simp (maxDischargeDepth := 20) (maxSteps := 2000000) only [↓reduceIte, pm_WL_nil, bi_900, bi_901, bi_904, bi_905, pm_lget_0, pm_lget_s, pm_oI_s, pm_oA_s, pm_oJ_s, pm_oK_s, pm_oR_s, pm_oO_s, pm_oN_s, pm_oF_s, pm_oM_s, pm_oP_s, pm_pu_n, pm_pu_s, pm_bo_ne, pm_bo_eq, Nat.reduceAdd, Nat.reduceSub, Nat.reduceLT, Nat.reduceLeDiff, Nat.reduceEqDiff, Nat.zero_add, Nat.lt_add_one, Nat.zero_ne_one, Nat.succ_ne_self, List.length_cons, List.length_nil, true_and, and_true, true_or, or_true, false_or, or_false, false_implies, true_implies, implies_true, not_true_eq_false, not_false_eq_true, ne_eq, eq_self, e_Things_add, pm_okW_0, pm_okW_i, pm_okW_r, pm_okW_l, pm_ent_0, pm_ent_i, pm_ent_r, pm_ent_l, List.reduceReplicate, b_Things_add_0, b_Things_add_57, b_Things_add_80, f_aloadn0, gf_41_9_11, gf_41_9_39, gf_41_9_66, gf_41_27_11, gf_41_27_39, gf_41_27_66, f_iloadn1, iv_41_31, kk_n, kk_s, gf_41_15_11, gf_41_15_39, gf_41_15_66, f_iloadn2, gf_41_18_11, gf_41_18_39, gf_41_18_66, w_iconst, ki_1, gf_41_21_11, gf_41_21_39, gf_41_21_66, f_iloadn3, ki_0, w_istore, pm_lset_0, pm_lset_1, pm_lset_n, pm_no2_n, pm_no2_i, pm_no2_r, pm_no2_l, f_iload4, ki_4, w_icmp_ge, pm_tgt_is, Int.cast_ofNat_Int, Int.reduceNeg, Int.reduceAdd, Int.reduceToNat, Int.zero_add, Int.zero_le_ofNat, Int.reduceLE, if_true, if_false, gf_41_24_11, gf_41_24_39, gf_41_24_66, w_imul, w_iadd, f_iinc4, w_goto, gf_41_35_11, gf_41_35_39, gf_41_35_66, iv_41_38, pf_41_35_11, pf_41_35_39, pf_41_35_66, pm_fit_b, pm_fit_0, pm_fit_1, w_dupi, w_dupa, pf_41_27_11, pf_41_27_39, pf_41_27_66, w_isub, w_iret, lg_41, Bool.false_eq_true, hs_11, f_iald_16, f_alen_16, ia_16, ar_16, f_iast_16, iw_16, hs_16, up_at, up_ne, up_up, gd_0, gd_s, c_X_put, a1, e1, f0, f1, ni_1]
      exact this
  simp (maxDischargeDepth := 20) (maxSteps := 2000000) only [↓reduceIte, pm_WL_nil, bi_900, bi_901, bi_904, bi_905, pm_lget_0, pm_lget_s, pm_oI_s, pm_oA_s, pm_oJ_s, pm_oK_s, pm_oR_s, pm_oO_s, pm_oN_s, pm_oF_s, pm_oM_s, pm_oP_s, pm_pu_n, pm_pu_s, pm_bo_ne, pm_bo_eq, Nat.reduceAdd, Nat.reduceSub, Nat.reduceLT, Nat.reduceLeDiff, Nat.reduceEqDiff, Nat.zero_add, Nat.lt_add_one, Nat.zero_ne_one, Nat.succ_ne_self, List.length_cons, List.length_nil, true_and, and_true, true_or, or_true, false_or, or_false, false_implies, true_implies, implies_true, not_true_eq_false, not_false_eq_true, ne_eq, eq_self, e_Things_add, pm_okW_0, pm_okW_i, pm_okW_r, pm_okW_l, pm_ent_0, pm_ent_i, pm_ent_r, pm_ent_l, List.reduceReplicate, b_Things_add_0, b_Things_add_57, b_Things_add_80, f_aloadn0, gf_41_9_11, gf_41_9_39, gf_41_9_66, gf_41_27_11, gf_41_27_39, gf_41_27_66, f_iloadn1, iv_41_31, kk_n, kk_s, gf_41_15_11, gf_41_15_39, gf_41_15_66, f_iloadn2, gf_41_18_11, gf_41_18_39, gf_41_18_66, w_iconst, ki_1, gf_41_21_11, gf_41_21_39, gf_41_21_66, f_iloadn3, ki_0, w_istore, pm_lset_0, pm_lset_1, pm_lset_n, pm_no2_n, pm_no2_i, pm_no2_r, pm_no2_l, f_iload4, ki_4, w_icmp_ge, pm_tgt_is, Int.cast_ofNat_Int, Int.reduceNeg, Int.reduceAdd, Int.reduceToNat, Int.zero_add, Int.zero_le_ofNat, Int.reduceLE, if_true, if_false, gf_41_24_11, gf_41_24_39, gf_41_24_66, w_imul, w_iadd, f_iinc4, w_goto, gf_41_35_11, gf_41_35_39, gf_41_35_66, iv_41_38, pf_41_35_11, pf_41_35_39, pf_41_35_66, pm_fit_b, pm_fit_0, pm_fit_1, w_dupi, w_dupa, pf_41_27_11, pf_41_27_39, pf_41_27_66, w_isub, w_iret, lg_41, Bool.false_eq_true, hs_11, f_iald_12, f_alen_12, ia_12, ar_12, f_iast_12, iw_12, hs_12, f_iald_13, f_alen_13, ia_13, ar_13, f_iast_13, iw_13, hs_13, f_iald_14, f_alen_14, ia_14, ar_14, f_iast_14, iw_14, hs_14, f_iald_15, f_alen_15, ia_15, ar_15, f_iast_15, iw_15, hs_15, up_at, up_ne, up_up, gd_0, gd_s, c_X_put, h11, f12, f13, f14, f15]
  exact key 4 0 _ rfl (by simp only [up_ne, Nat.reduceEqDiff, not_false_eq_true]; exact h11) (by simp only [up_ne, Nat.reduceEqDiff, not_false_eq_true]; rfl)
theorem q_thing {scr : List Int32} {d : Nat} {h : Nat → List Int32} (hi : INV scr h) (x y z : Int32) : BOTH scr (d + 40) 47 130 [.int x, .int y, .int z] h := by
  have hi0 := hi
  obtain ⟨hL, ⟨ro0, ro1, ro2, ro3⟩, hw, hc, hk, ha⟩ := hi
  have hc0 := hc
  obtain ⟨⟨c0, c5, c6, c7, c8, c9, c10, c11, c12, c13, cb⟩, d0, d15, d16, d17, d18, d19, d20, d21, d22, d24, d25, d26, dis⟩ := hc
  simp only [Nat.reduceAdd] at c0 c5 c6 c7 c8 c9 c10 c11 c12 c13 cb d0 d15 d16 d17 d18 d19 d20 d21 d22 d24 d25 d26
  have hl := wf_len hw
  obtain ⟨hn, hn6⟩ := wf_n hw
  have ha5 := (wf_a hw).2
  unfold BOTH
  by_cases u : 0 ≤ x ∧ x < 7
  case neg =>
    have u1 := eq_false u
    have u2 : (0 ≤ x ∧ x ≤ 6) = False := eq_false (fun q => u ⟨q.1, by
      have := Int32.le_iff_toInt_le.mp q.2
      rw [Int32.lt_iff_toInt_lt]; exact Int.lt_of_le_of_lt this (by decide)⟩)
    simp (maxDischargeDepth := 20) (maxSteps := 2000000) only [↓reduceIte, pm_WL_nil, bi_900, bi_901, bi_904, bi_905, pm_lget_0, pm_lget_s, pm_oI_s, pm_oA_s, pm_oJ_s, pm_oK_s, pm_oR_s, pm_oO_s, pm_oN_s, pm_oF_s, pm_oM_s, pm_oP_s, pm_pu_n, pm_pu_s, pm_bo_ne, pm_bo_eq, Nat.reduceAdd, Nat.reduceSub, Nat.reduceLT, Nat.reduceLeDiff, Nat.reduceEqDiff, Nat.zero_add, Nat.lt_add_one, Nat.zero_ne_one, Nat.succ_ne_self, List.length_cons, List.length_nil, true_and, and_true, true_or, or_true, false_or, or_false, false_implies, true_implies, implies_true, not_true_eq_false, not_false_eq_true, ne_eq, eq_self, e_X_thing, pm_okW_0, pm_okW_i, pm_okW_r, pm_okW_l, pm_ent_0, pm_ent_i, pm_ent_r, pm_ent_l, List.reduceReplicate, b_X_thing_0, b_X_thing_7, b_X_thing_9, b_X_thing_16, b_X_thing_23, b_X_thing_26, b_X_thing_44, b_X_thing_47, f_iloadn1, iv_47_86, kk_n, kk_s, w_if_ne, pm_tgt_is, Int.cast_ofNat_Int, Int.reduceNeg, Int.reduceAdd, Int.reduceToNat, Int.zero_add, Int.zero_le_ofNat, Int.reduceLE, nz_1, nz_m1, if_true, if_false, w_iconst, ki_m1, w_iret, lg_47, pm_fit_b, pm_fit_0, pm_fit_1, Bool.false_eq_true, f_iloadn2, iv_47_90, w_if_eq, f_iloadn3, w_bipush, kb_m2, f_aloadn0, gf_47_12_4, gf_47_70_5, gf_47_70_33, gf_47_93_6, gf_47_93_34, gf_47_93_61, gf_47_97_11, gf_47_97_39, gf_47_97_66, kb_6, w_icmp_lt, kb_m4, iv_47_102_11, iv_47_102_39, iv_47_102_66, c_X_isKind, u1]
    simp (maxDischargeDepth := 20) (maxSteps := 2000000) only [↓reduceIte, pm_WL_nil, bi_900, bi_901, bi_904, bi_905, pm_lget_0, pm_lget_s, pm_oI_s, pm_oA_s, pm_oJ_s, pm_oK_s, pm_oR_s, pm_oO_s, pm_oN_s, pm_oF_s, pm_oM_s, pm_oP_s, pm_pu_n, pm_pu_s, pm_bo_ne, pm_bo_eq, Nat.reduceAdd, Nat.reduceSub, Nat.reduceLT, Nat.reduceLeDiff, Nat.reduceEqDiff, Nat.zero_add, Nat.lt_add_one, Nat.zero_ne_one, Nat.succ_ne_self, List.length_cons, List.length_nil, true_and, and_true, true_or, or_true, false_or, or_false, false_implies, true_implies, implies_true, not_true_eq_false, not_false_eq_true, ne_eq, eq_self, e_M_thing, pm_okW_0, pm_okW_i, pm_okW_r, pm_okW_l, pm_ent_0, pm_ent_i, pm_ent_r, pm_ent_l, List.reduceReplicate, b_M_thing_0, b_M_thing_10, b_M_thing_12, b_M_thing_19, b_M_thing_26, b_M_thing_29, b_M_thing_41, b_M_thing_44, b_M_thing_117, b_M_thing_139, f_iloadn1, w_iconst, ki_0, w_bipush, kb_6, iv_130_41, kk_n, kk_s, w_if_ne, pm_tgt_is, Int.cast_ofNat_Int, Int.reduceNeg, Int.reduceAdd, Int.reduceToNat, Int.zero_add, Int.zero_le_ofNat, Int.reduceLE, nz_1, nz_m1, if_true, if_false, ki_m1, w_iret, lg_130, pm_fit_b, pm_fit_0, pm_fit_1, Bool.false_eq_true, f_iloadn2, iv_130_135, w_if_eq, f_iloadn3, kb_m2, f_aloadn0, gf_130_9_85, kb_22, w_icmp_ne, kb_m4, w_istore, pm_lset_0, pm_lset_1, pm_lset_n, pm_no2_n, pm_no2_i, pm_no2_r, pm_no2_l, kb_30, f_iload4, w_iadd, kb_36, kb_42, ki_1, kb_12, f_iload5, ki_4, w_icmp_ge, kb_48, w_imul, f_iinc5, w_goto, w_dup2i, w_dup2a, c_M_in, u2]
    exact po_i hi0
  have u1 := eq_true u
  obtain ⟨kd, hk7, rfl⟩ := i_rng (n := 7) (by omega) u
  have u2 : (0 ≤ nI kd ∧ nI kd ≤ 6) = True := eq_true ⟨u.1, by rw [il_le 6 kd (by omega) (by omega)]; omega⟩
  by_cases vy : 0 ≤ y ∧ y < 10
  case neg =>
    have y1 := eq_false vy
    simp (maxDischargeDepth := 20) (maxSteps := 2000000) only [↓reduceIte, pm_WL_nil, bi_900, bi_901, bi_904, bi_905, pm_lget_0, pm_lget_s, pm_oI_s, pm_oA_s, pm_oJ_s, pm_oK_s, pm_oR_s, pm_oO_s, pm_oN_s, pm_oF_s, pm_oM_s, pm_oP_s, pm_pu_n, pm_pu_s, pm_bo_ne, pm_bo_eq, Nat.reduceAdd, Nat.reduceSub, Nat.reduceLT, Nat.reduceLeDiff, Nat.reduceEqDiff, Nat.zero_add, Nat.lt_add_one, Nat.zero_ne_one, Nat.succ_ne_self, List.length_cons, List.length_nil, true_and, and_true, true_or, or_true, false_or, or_false, false_implies, true_implies, implies_true, not_true_eq_false, not_false_eq_true, ne_eq, eq_self, e_X_thing, pm_okW_0, pm_okW_i, pm_okW_r, pm_okW_l, pm_ent_0, pm_ent_i, pm_ent_r, pm_ent_l, List.reduceReplicate, b_X_thing_0, b_X_thing_7, b_X_thing_9, b_X_thing_16, b_X_thing_23, b_X_thing_26, b_X_thing_44, b_X_thing_47, f_iloadn1, iv_47_86, kk_n, kk_s, w_if_ne, pm_tgt_is, Int.cast_ofNat_Int, Int.reduceNeg, Int.reduceAdd, Int.reduceToNat, Int.zero_add, Int.zero_le_ofNat, Int.reduceLE, nz_1, nz_m1, if_true, if_false, w_iconst, ki_m1, w_iret, lg_47, pm_fit_b, pm_fit_0, pm_fit_1, Bool.false_eq_true, f_iloadn2, iv_47_90, w_if_eq, f_iloadn3, w_bipush, kb_m2, f_aloadn0, gf_47_12_4, gf_47_70_5, gf_47_70_33, gf_47_93_6, gf_47_93_34, gf_47_93_61, gf_47_97_11, gf_47_97_39, gf_47_97_66, kb_6, w_icmp_lt, kb_m4, iv_47_102_11, iv_47_102_39, iv_47_102_66, c_X_isKind, u1, c_X_isNumber, y1]
    simp (maxDischargeDepth := 20) (maxSteps := 2000000) only [↓reduceIte, pm_WL_nil, bi_900, bi_901, bi_904, bi_905, pm_lget_0, pm_lget_s, pm_oI_s, pm_oA_s, pm_oJ_s, pm_oK_s, pm_oR_s, pm_oO_s, pm_oN_s, pm_oF_s, pm_oM_s, pm_oP_s, pm_pu_n, pm_pu_s, pm_bo_ne, pm_bo_eq, Nat.reduceAdd, Nat.reduceSub, Nat.reduceLT, Nat.reduceLeDiff, Nat.reduceEqDiff, Nat.zero_add, Nat.lt_add_one, Nat.zero_ne_one, Nat.succ_ne_self, List.length_cons, List.length_nil, true_and, and_true, true_or, or_true, false_or, or_false, false_implies, true_implies, implies_true, not_true_eq_false, not_false_eq_true, ne_eq, eq_self, e_M_thing, pm_okW_0, pm_okW_i, pm_okW_r, pm_okW_l, pm_ent_0, pm_ent_i, pm_ent_r, pm_ent_l, List.reduceReplicate, b_M_thing_0, b_M_thing_10, b_M_thing_12, b_M_thing_19, b_M_thing_26, b_M_thing_29, b_M_thing_41, b_M_thing_44, b_M_thing_117, b_M_thing_139, f_iloadn1, w_iconst, ki_0, w_bipush, kb_6, iv_130_41, kk_n, kk_s, w_if_ne, pm_tgt_is, Int.cast_ofNat_Int, Int.reduceNeg, Int.reduceAdd, Int.reduceToNat, Int.zero_add, Int.zero_le_ofNat, Int.reduceLE, nz_1, nz_m1, if_true, if_false, ki_m1, w_iret, lg_130, pm_fit_b, pm_fit_0, pm_fit_1, Bool.false_eq_true, f_iloadn2, iv_130_135, w_if_eq, f_iloadn3, kb_m2, f_aloadn0, gf_130_9_85, kb_22, w_icmp_ne, kb_m4, w_istore, pm_lset_0, pm_lset_1, pm_lset_n, pm_no2_n, pm_no2_i, pm_no2_r, pm_no2_l, kb_30, f_iload4, w_iadd, kb_36, kb_42, ki_1, kb_12, f_iload5, ki_4, w_icmp_ge, kb_48, w_imul, f_iinc5, w_goto, w_dup2i, w_dup2a, c_M_in, u2, c_M_isDigit, y1]
    exact po_i hi0
  have y1 := eq_true vy
  obtain ⟨v, hv10, rfl⟩ := isn_ex vy
  by_cases vz : 0 ≤ z ∧ z < 10
  case neg =>
    have z1 := eq_false vz
    simp (maxDischargeDepth := 20) (maxSteps := 2000000) only [↓reduceIte, pm_WL_nil, bi_900, bi_901, bi_904, bi_905, pm_lget_0, pm_lget_s, pm_oI_s, pm_oA_s, pm_oJ_s, pm_oK_s, pm_oR_s, pm_oO_s, pm_oN_s, pm_oF_s, pm_oM_s, pm_oP_s, pm_pu_n, pm_pu_s, pm_bo_ne, pm_bo_eq, Nat.reduceAdd, Nat.reduceSub, Nat.reduceLT, Nat.reduceLeDiff, Nat.reduceEqDiff, Nat.zero_add, Nat.lt_add_one, Nat.zero_ne_one, Nat.succ_ne_self, List.length_cons, List.length_nil, true_and, and_true, true_or, or_true, false_or, or_false, false_implies, true_implies, implies_true, not_true_eq_false, not_false_eq_true, ne_eq, eq_self, e_X_thing, pm_okW_0, pm_okW_i, pm_okW_r, pm_okW_l, pm_ent_0, pm_ent_i, pm_ent_r, pm_ent_l, List.reduceReplicate, b_X_thing_0, b_X_thing_7, b_X_thing_9, b_X_thing_16, b_X_thing_23, b_X_thing_26, b_X_thing_44, b_X_thing_47, f_iloadn1, iv_47_86, kk_n, kk_s, w_if_ne, pm_tgt_is, Int.cast_ofNat_Int, Int.reduceNeg, Int.reduceAdd, Int.reduceToNat, Int.zero_add, Int.zero_le_ofNat, Int.reduceLE, nz_1, nz_m1, if_true, if_false, w_iconst, ki_m1, w_iret, lg_47, pm_fit_b, pm_fit_0, pm_fit_1, Bool.false_eq_true, f_iloadn2, iv_47_90, w_if_eq, f_iloadn3, w_bipush, kb_m2, f_aloadn0, gf_47_12_4, gf_47_70_5, gf_47_70_33, gf_47_93_6, gf_47_93_34, gf_47_93_61, gf_47_97_11, gf_47_97_39, gf_47_97_66, kb_6, w_icmp_lt, kb_m4, iv_47_102_11, iv_47_102_39, iv_47_102_66, c_X_isKind, u1, c_X_isNumber, y1, z1]
    simp (maxDischargeDepth := 20) (maxSteps := 2000000) only [↓reduceIte, pm_WL_nil, bi_900, bi_901, bi_904, bi_905, pm_lget_0, pm_lget_s, pm_oI_s, pm_oA_s, pm_oJ_s, pm_oK_s, pm_oR_s, pm_oO_s, pm_oN_s, pm_oF_s, pm_oM_s, pm_oP_s, pm_pu_n, pm_pu_s, pm_bo_ne, pm_bo_eq, Nat.reduceAdd, Nat.reduceSub, Nat.reduceLT, Nat.reduceLeDiff, Nat.reduceEqDiff, Nat.zero_add, Nat.lt_add_one, Nat.zero_ne_one, Nat.succ_ne_self, List.length_cons, List.length_nil, true_and, and_true, true_or, or_true, false_or, or_false, false_implies, true_implies, implies_true, not_true_eq_false, not_false_eq_true, ne_eq, eq_self, e_M_thing, pm_okW_0, pm_okW_i, pm_okW_r, pm_okW_l, pm_ent_0, pm_ent_i, pm_ent_r, pm_ent_l, List.reduceReplicate, b_M_thing_0, b_M_thing_10, b_M_thing_12, b_M_thing_19, b_M_thing_26, b_M_thing_29, b_M_thing_41, b_M_thing_44, b_M_thing_117, b_M_thing_139, f_iloadn1, w_iconst, ki_0, w_bipush, kb_6, iv_130_41, kk_n, kk_s, w_if_ne, pm_tgt_is, Int.cast_ofNat_Int, Int.reduceNeg, Int.reduceAdd, Int.reduceToNat, Int.zero_add, Int.zero_le_ofNat, Int.reduceLE, nz_1, nz_m1, if_true, if_false, ki_m1, w_iret, lg_130, pm_fit_b, pm_fit_0, pm_fit_1, Bool.false_eq_true, f_iloadn2, iv_130_135, w_if_eq, f_iloadn3, kb_m2, f_aloadn0, gf_130_9_85, kb_22, w_icmp_ne, kb_m4, w_istore, pm_lset_0, pm_lset_1, pm_lset_n, pm_no2_n, pm_no2_i, pm_no2_r, pm_no2_l, kb_30, f_iload4, w_iadd, kb_36, kb_42, ki_1, kb_12, f_iload5, ki_4, w_icmp_ge, kb_48, w_imul, f_iinc5, w_goto, w_dup2i, w_dup2a, c_M_in, u2, c_M_isDigit, y1, z1]
    exact po_i hi0
  have z1 := eq_true vz
  obtain ⟨dr, hd10, rfl⟩ := isn_ex vz
  by_cases q : nN (h 86) 22 = 6
  · have u3 : (nI (nN (h 86) 22) < 6) = False := by rw [il_lt 6 _ (by omega) (by omega)]; exact eq_false (by omega)
    have u4 : (nI (nN (h 86) 22) = 6) = True := by rw [il_eq 6 _ (by omega) (by omega)]; exact eq_true q
    simp (maxDischargeDepth := 20) (maxSteps := 2000000) only [↓reduceIte, pm_WL_nil, bi_900, bi_901, bi_904, bi_905, pm_lget_0, pm_lget_s, pm_oI_s, pm_oA_s, pm_oJ_s, pm_oK_s, pm_oR_s, pm_oO_s, pm_oN_s, pm_oF_s, pm_oM_s, pm_oP_s, pm_pu_n, pm_pu_s, pm_bo_ne, pm_bo_eq, Nat.reduceAdd, Nat.reduceSub, Nat.reduceLT, Nat.reduceLeDiff, Nat.reduceEqDiff, Nat.zero_add, Nat.lt_add_one, Nat.zero_ne_one, Nat.succ_ne_self, List.length_cons, List.length_nil, true_and, and_true, true_or, or_true, false_or, or_false, false_implies, true_implies, implies_true, not_true_eq_false, not_false_eq_true, ne_eq, eq_self, e_X_thing, pm_okW_0, pm_okW_i, pm_okW_r, pm_okW_l, pm_ent_0, pm_ent_i, pm_ent_r, pm_ent_l, List.reduceReplicate, b_X_thing_0, b_X_thing_7, b_X_thing_9, b_X_thing_16, b_X_thing_23, b_X_thing_26, b_X_thing_44, b_X_thing_47, f_iloadn1, iv_47_86, kk_n, kk_s, w_if_ne, pm_tgt_is, Int.cast_ofNat_Int, Int.reduceNeg, Int.reduceAdd, Int.reduceToNat, Int.zero_add, Int.zero_le_ofNat, Int.reduceLE, nz_1, nz_m1, if_true, if_false, w_iconst, ki_m1, w_iret, lg_47, pm_fit_b, pm_fit_0, pm_fit_1, Bool.false_eq_true, f_iloadn2, iv_47_90, w_if_eq, f_iloadn3, w_bipush, kb_m2, f_aloadn0, gf_47_12_4, gf_47_70_5, gf_47_70_33, gf_47_93_6, gf_47_93_34, gf_47_93_61, gf_47_97_11, gf_47_97_39, gf_47_97_66, kb_6, w_icmp_lt, kb_m4, iv_47_102_11, iv_47_102_39, iv_47_102_66, hs_4, hs_5, hs_6, hs_11, up_at, up_ne, up_up, gd_0, gd_s, c_X_isKind, u1, c_X_isNumber, y1, z1, c5, hn, u3]
    simp (maxDischargeDepth := 20) (maxSteps := 2000000) only [↓reduceIte, pm_WL_nil, bi_900, bi_901, bi_904, bi_905, pm_lget_0, pm_lget_s, pm_oI_s, pm_oA_s, pm_oJ_s, pm_oK_s, pm_oR_s, pm_oO_s, pm_oN_s, pm_oF_s, pm_oM_s, pm_oP_s, pm_pu_n, pm_pu_s, pm_bo_ne, pm_bo_eq, Nat.reduceAdd, Nat.reduceSub, Nat.reduceLT, Nat.reduceLeDiff, Nat.reduceEqDiff, Nat.zero_add, Nat.lt_add_one, Nat.zero_ne_one, Nat.succ_ne_self, List.length_cons, List.length_nil, true_and, and_true, true_or, or_true, false_or, or_false, false_implies, true_implies, implies_true, not_true_eq_false, not_false_eq_true, ne_eq, eq_self, e_M_thing, pm_okW_0, pm_okW_i, pm_okW_r, pm_okW_l, pm_ent_0, pm_ent_i, pm_ent_r, pm_ent_l, List.reduceReplicate, b_M_thing_0, b_M_thing_10, b_M_thing_12, b_M_thing_19, b_M_thing_26, b_M_thing_29, b_M_thing_41, b_M_thing_44, b_M_thing_117, b_M_thing_139, f_iloadn1, w_iconst, ki_0, w_bipush, kb_6, iv_130_41, kk_n, kk_s, w_if_ne, pm_tgt_is, Int.cast_ofNat_Int, Int.reduceNeg, Int.reduceAdd, Int.reduceToNat, Int.zero_add, Int.zero_le_ofNat, Int.reduceLE, nz_1, nz_m1, if_true, if_false, ki_m1, w_iret, lg_130, pm_fit_b, pm_fit_0, pm_fit_1, Bool.false_eq_true, f_iloadn2, iv_130_135, w_if_eq, f_iloadn3, kb_m2, f_aloadn0, gf_130_9_85, kb_22, w_icmp_ne, kb_m4, w_istore, pm_lset_0, pm_lset_1, pm_lset_n, pm_no2_n, pm_no2_i, pm_no2_r, pm_no2_l, kb_30, f_iload4, w_iadd, kb_36, kb_42, ki_1, kb_12, f_iload5, ki_4, w_icmp_ge, kb_48, w_imul, f_iinc5, w_goto, w_dup2i, w_dup2a, hs_85, f_iald_86, f_alen_86, ia_86, ar_86, f_iast_86, iw_86, hs_86, lia_0, lrd_0, lin_0, lwr_0, lia_1, lrd_1, lin_1, lwr_1, lia_2, lrd_2, lin_2, lwr_2, lia_3, lrd_3, lin_3, lwr_3, lia_4, lrd_4, lin_4, lwr_4, lia_5, lrd_5, lin_5, lwr_5, lia_6, lrd_6, lin_6, lwr_6, lia_12, lrd_12, lin_12, lwr_12, lia_18, lrd_18, lin_18, lwr_18, lia_22, lrd_22, lin_22, lwr_22, lia_23, lrd_23, lin_23, lwr_23, lia_24, lrd_24, lin_24, lwr_24, lia_25, lrd_25, lin_25, lwr_25, lia_26, lrd_26, lin_26, lwr_26, lia_27, lrd_27, lin_27, lwr_27, lia_28, lrd_28, lin_28, lwr_28, lia_29, lrd_29, lin_29, lwr_29, lia_30, lrd_30, lin_30, lwr_30, lia_36, lrd_36, lin_36, lwr_36, lia_42, lrd_42, lin_42, lwr_42, lia_48, lrd_48, lin_48, lwr_48, lia_72, lrd_72, lin_72, lwr_72, lia_77, lrd_77, lin_77, lwr_77, lia_82, lrd_82, lin_82, lwr_82, lia_87, lrd_87, lin_87, lwr_87, lia_92, lrd_92, lin_92, lwr_92, lia_100, lrd_100, lin_100, lwr_100, lia_108, lrd_108, lin_108, lwr_108, lia_116, lrd_116, lin_116, lwr_116, lia_124, lrd_124, lin_124, lwr_124, lia_224, lrd_224, lin_224, lwr_224, lia_229, lrd_229, lin_229, lwr_229, lia_234, lrd_234, lin_234, lwr_234, hl, hn, c_M_in, u2, c_M_isDigit, y1, z1, u4]
    exact po_i hi0
  have hp : nN (h 86) 22 < 6 := by omega
  have u3 : (nI (nN (h 86) 22) < 6) = True := by rw [il_lt 6 _ (by omega) (by omega)]; exact eq_true hp
  have u4 : (nI (nN (h 86) 22) = 6) = False := by rw [il_eq 6 _ (by omega) (by omega)]; exact eq_false q
  have ca := fun K => @c_Things_add (d + 36) (nN (h 86) 22) kd v dr (nI (loN (h 86))) h K hL hp (by rw [c5, hn])
  simp (maxDischargeDepth := 20) (maxSteps := 2000000) only [↓reduceIte, pm_WL_nil, bi_900, bi_901, bi_904, bi_905, pm_lget_0, pm_lget_s, pm_oI_s, pm_oA_s, pm_oJ_s, pm_oK_s, pm_oR_s, pm_oO_s, pm_oN_s, pm_oF_s, pm_oM_s, pm_oP_s, pm_pu_n, pm_pu_s, pm_bo_ne, pm_bo_eq, Nat.reduceAdd, Nat.reduceSub, Nat.reduceLT, Nat.reduceLeDiff, Nat.reduceEqDiff, Nat.zero_add, Nat.lt_add_one, Nat.zero_ne_one, Nat.succ_ne_self, List.length_cons, List.length_nil, true_and, and_true, true_or, or_true, false_or, or_false, false_implies, true_implies, implies_true, not_true_eq_false, not_false_eq_true, ne_eq, eq_self, e_X_thing, pm_okW_0, pm_okW_i, pm_okW_r, pm_okW_l, pm_ent_0, pm_ent_i, pm_ent_r, pm_ent_l, List.reduceReplicate, b_X_thing_0, b_X_thing_7, b_X_thing_9, b_X_thing_16, b_X_thing_23, b_X_thing_26, b_X_thing_44, b_X_thing_47, f_iloadn1, iv_47_86, kk_n, kk_s, w_if_ne, pm_tgt_is, Int.cast_ofNat_Int, Int.reduceNeg, Int.reduceAdd, Int.reduceToNat, Int.zero_add, Int.zero_le_ofNat, Int.reduceLE, nz_1, nz_m1, if_true, if_false, w_iconst, ki_m1, w_iret, lg_47, pm_fit_b, pm_fit_0, pm_fit_1, Bool.false_eq_true, f_iloadn2, iv_47_90, w_if_eq, f_iloadn3, w_bipush, kb_m2, f_aloadn0, gf_47_12_4, gf_47_70_5, gf_47_70_33, gf_47_93_6, gf_47_93_34, gf_47_93_61, gf_47_97_11, gf_47_97_39, gf_47_97_66, kb_6, w_icmp_lt, kb_m4, iv_47_102_11, iv_47_102_39, iv_47_102_66, hs_4, hs_5, hs_6, hs_11, up_at, up_ne, up_up, gd_0, gd_s, c_X_isKind, u1, c_X_isNumber, y1, z1, c5, hn, u3, ca]
  generalize hpp : nN (h 86) 22 = p at *
  have ws := thS_ok hw hp hk7 hv10 hd10
  have G := thS_gd (s := h 86) (p := p) (kd := kd) (v := v) (dr := dr) hl hp
  have wl := wf_len ws
  have wg := thg_ok hw hp hk7 hv10 hd10
  have wgl := wf_len wg
  obtain ⟨a1, a2, a3⟩ := ix (j := 30 + p) (by omega)
  obtain ⟨e1, e2, e3⟩ := ix (j := 36 + p) (by omega)
  obtain ⟨f1, f2, f3⟩ := ix (j := 42 + p) (by omega)
  obtain ⟨g1, g2, g3⟩ := ix (j := 12 + p) (by omega)
  obtain ⟨j1, j2, j3⟩ := ix (j := 6 + p) (by omega)
  have fin : ∀ H : Nat → List Int32, (∀ k, ¬ (11 ≤ k ∧ k < 17) → H k = h k) → LN H → H 11 = [nI (loN (thS (h 86) p kd v dr)), nI (p + 1)] → H 12 = (h 12).set p (nI kd) → H 13 = (h 13).set p (nI v) → H 14 = (h 14).set p 1 → H 15 = (h 15).set p (nI dr) → H 16 = rws (h 16) (4 * p) 4 → INV scr (up H 86 (thS (h 86) p kd v dr)) := by
    intro H hH hLH x11 x12 x13 x14 x15 x16
    have hne : ∀ k, ¬ k = 86 → (up H 86 (thS (h 86) p kd v dr)) k = H k := fun k a => up_ne a
    have un : ∀ a n, (a + n ≤ 6 ∨ (18 ≤ a ∧ a + n ≤ 22) ∨ 72 ≤ a) → a + n ≤ 934 → sl (thS (h 86) p kd v dr) a n = sl (h 86) a n := fun a n c1 c2 => sl_cg (by omega) (by omega) fun i hi => by
      rw [G, if_neg (by omega), if_neg (by omega), if_neg (by omega), if_neg (by omega), if_neg (by omega), if_neg (by omega), if_neg (by omega)]
    have ug : ∀ i, (i < 6 ∨ (18 ≤ i ∧ i < 22) ∨ (22 < i ∧ i < 30) ∨ 72 ≤ i) → gd (thS (h 86) p kd v dr) i = gd (h 86) i := fun i c1 => by
      rw [G, if_neg (by omega), if_neg (by omega), if_neg (by omega), if_neg (by omega), if_neg (by omega), if_neg (by omega), if_neg (by omega)]
    have nug : ∀ i, (i < 6 ∨ (18 ≤ i ∧ i < 22) ∨ (22 < i ∧ i < 30) ∨ 72 ≤ i) → nN (thS (h 86) p kd v dr) i = nN (h 86) i := fun i c1 => congrArg Int32.toNatClampNeg (ug i c1)
    refine inv_s hi0 (ln_up hLH wl) (by rw [up_at]; exact ws) ?_ ?_
    · rw [up_at]
      refine ⟨⟨?_, ?_, ?_, ?_, ?_, ?_, ?_, ?_, ?_, ?_, ?_⟩, ?_, ?_, ?_, ?_, ?_, ?_, ?_, ?_, ?_, ?_, ?_, ?_, ?_⟩
      · show (up H 86 _) 6 = _
        have cc : cN (thS (h 86) p kd v dr) = cN (h 86) := msk_cg 5 fun m hm => nug _ (by omega)
        rw [hne 6 (by omega), hH 6 (by omega), c0, nug 24 (by omega), cc, ug 0 (by omega)]
      · show (up H 86 _) 11 = _
        rw [hne 11 (by omega), x11, G 22, if_pos rfl]
      · show (up H 86 _) 12 = _
        rw [hne 12 (by omega), x12, c6]
        exact sl_pt (by omega) (by omega) (by omega) (by rw [G, if_neg (by omega), if_neg (by omega), if_neg (by omega), if_neg (by omega), if_neg (by omega), if_neg (by omega), if_pos rfl]) fun i h1 h2 => by
          rw [G, if_neg (by omega), if_neg (by omega), if_neg (by omega), if_neg (by omega), if_neg (by omega), if_neg (by omega), if_neg (by omega)]
      · show (up H 86 _) 13 = _
        rw [hne 13 (by omega), x13, c7]
        exact sl_pt (by omega) (by omega) (by omega) (by rw [G, if_neg (by omega), if_neg (by omega), if_neg (by omega), if_neg (by omega), if_neg (by omega), if_pos rfl]) fun i h1 h2 => by
          rw [G, if_neg (by omega), if_neg (by omega), if_neg (by omega), if_neg (by omega), if_neg (by omega), if_neg (by omega), if_neg (by omega)]
      · show (up H 86 _) 14 = _
        rw [hne 14 (by omega), x14, c8]
        exact sl_pt (by omega) (by omega) (by omega) (by rw [G, if_neg (by omega), if_neg (by omega), if_neg (by omega), if_neg (by omega), if_pos rfl]; rfl) fun i h1 h2 => by
          rw [G, if_neg (by omega), if_neg (by omega), if_neg (by omega), if_neg (by omega), if_neg (by omega), if_neg (by omega), if_neg (by omega)]
      · show (up H 86 _) 15 = _
        rw [hne 15 (by omega), x15, c9]
        exact sl_pt (by omega) (by omega) (by omega) (by rw [G, if_neg (by omega), if_neg (by omega), if_neg (by omega), if_pos rfl]) fun i h1 h2 => by
          rw [G, if_neg (by omega), if_neg (by omega), if_neg (by omega), if_neg (by omega), if_neg (by omega), if_neg (by omega), if_neg (by omega)]
      · show (up H 86 _) 16 = _
        rw [hne 16 (by omega), x16, c10]
        have s24 : (sl (h 86) 48 24).length = 24 := sl_len (by omega)
        obtain ⟨y1, y2⟩ := rws_gd (s := sl (h 86) 48 24) (a := 4 * p) 4 (by omega)
        apply gd_ext (by rw [y1, s24, sl_len (by omega)])
        intro i hi
        rw [y1, s24] at hi
        by_cases e : 4 * p ≤ i ∧ i < 4 * p + 4
        · rw [y2, if_pos e, gd_sl hi, G, if_neg (by omega), if_pos (by omega)]
        · rw [y2, if_neg e, gd_sl hi, gd_sl hi, G, if_neg (by omega), if_neg (by omega), if_neg (by omega), if_neg (by omega), if_neg (by omega), if_neg (by omega), if_neg (by omega)]
      · show (up H 86 _) 17 = _
        rw [hne 17 (by omega), hH 17 (by omega), c11, un 18 4 (by omega) (by omega)]
      · show (up H 86 _) 18 = _
        rw [hne 18 (by omega), hH 18 (by omega), c12, un 72 5 (by omega) (by omega)]
      · show ((up H 86 _) 19).length = _
        rw [hne 19 (by omega), hH 19 (by omega)]; exact c13
      · exact cb_cg (cb_hi cb (by omega) fun i hi => ug i (by omega)) fun k k1 k2 => by rw [hne k (by omega), hH k (by omega)]
      · show (up H 86 _) 5 = _
        rw [hne 5 (by omega), hH 5 (by omega), d0, ug 28 (by omega), ug 23 (by omega)]
      · show (up H 86 _) 20 = _
        rw [hne 20 (by omega), hH 20 (by omega), d15, un 124 100 (by omega) (by omega)]
      · show (up H 86 _) 21 = _
        rw [hne 21 (by omega), hH 21 (by omega), d16, ug 25 (by omega)]
      · show (up H 86 _) 22 = _
        rw [hne 22 (by omega), hH 22 (by omega), d17, un 77 5 (by omega) (by omega)]
      · show (up H 86 _) 23 = _
        rw [hne 23 (by omega), hH 23 (by omega), d18, un 82 5 (by omega) (by omega)]
      · show (up H 86 _) 24 = _
        rw [hne 24 (by omega), hH 24 (by omega), d19, un 87 5 (by omega) (by omega)]
      · show (up H 86 _) 25 = _
        rw [hne 25 (by omega), hH 25 (by omega), d20, ug 26 (by omega)]
      · show (up H 86 _) 26 = _
        rw [hne 26 (by omega), hH 26 (by omega), d21, un 92 8 (by omega) (by omega)]
      · show (up H 86 _) 27 = _
        rw [hne 27 (by omega), hH 27 (by omega), d22, un 100 8 (by omega) (by omega)]
      · show (up H 86 _) 29 = _
        rw [hne 29 (by omega), hH 29 (by omega), d24, ug 27 (by omega)]
      · show (up H 86 _) 30 = _
        rw [hne 30 (by omega), hH 30 (by omega), d25, un 108 8 (by omega) (by omega)]
      · show (up H 86 _) 31 = _
        rw [hne 31 (by omega), hH 31 (by omega), d26, un 116 8 (by omega) (by omega)]
      · refine ⟨fun a b h1 h2 => ?_, by rw [ug 29 (by omega), nug 29 (by omega), nug 23 (by omega)]; exact dis.2⟩
        rw [nug 24 (by omega)] at h2
        rw [nug _ (by omega), nug _ (by omega)]
        exact dis.1 a b h1 h2
    · intro k hk; rw [hne k (by omega)]; exact hH k (by omega)
  have lo2 : wb (nI (loN (h 86))) (nI p) (¬ (0 : Int32) = 0) = nI (loN (thS (h 86) p kd v dr)) := by
    rw [wb_n (loN_lt hw) hp, if_neg (by decide), ← lo_set hw hp (by omega)]
    refine congrArg nI (lo_cg fun q hq => ?_).symm
    rw [G, if_neg (by omega), if_neg (by omega), gd_set _ (by omega)]
    by_cases e : q = p
    · rw [if_pos (by omega), if_pos (by omega)]
    · rw [if_neg (by omega), if_neg (by omega), if_neg (by omega), if_neg (by omega), if_neg (by omega), if_neg (by omega)]
  have lo3 : ∀ inst : Decidable False, @wb (nI (loN (h 86))) (nI p) False inst = nI (loN (thS (h 86) p kd v dr)) := fun inst => by
    rw [← lo2]; unfold wb; rw [if_neg (fun q => q), if_neg (by decide)]
  rw [lo3]
  have l16 : (h 16).length = 24 := hL 16 (by omega) (by omega)
  have fq := fin (up (up (up (up (up (up h 12 ((h 12).set p (nI kd))) 13 ((h 13).set p (nI v))) 14 ((h 14).set p 1)) 15 ((h 15).set p (nI dr))) 16 (rws (h 16) (4 * p) 4)) 11 [nI (loN (thS (h 86) p kd v dr)), nI (p + 1)]) (fun k hk => by rw [up_ne (by omega), up_ne (by omega), up_ne (by omega), up_ne (by omega), up_ne (by omega), up_ne (by omega)])
    (by
      refine ln_up (ln_up (ln_up (ln_up (ln_up (ln_up hL ?_) ?_) ?_) ?_) ?_) rfl
      · rw [List.length_set]; exact hL 12 (by omega) (by omega)
      · rw [List.length_set]; exact hL 13 (by omega) (by omega)
      · rw [List.length_set]; exact hL 14 (by omega) (by omega)
      · rw [List.length_set]; exact hL 15 (by omega) (by omega)
      · rw [(rws_gd (s := h 16) (a := 4 * p) 4 (by rw [l16]; omega)).1]; exact hL 16 (by omega) (by omega))
    (by rw [up_at]) (by simp only [up_at, up_ne, Nat.reduceEqDiff, not_false_eq_true]) (by simp only [up_at, up_ne, Nat.reduceEqDiff, not_false_eq_true]) (by simp only [up_at, up_ne, Nat.reduceEqDiff, not_false_eq_true]) (by simp only [up_at, up_ne, Nat.reduceEqDiff, not_false_eq_true]) (by simp only [up_at, up_ne, Nat.reduceEqDiff, not_false_eq_true])
  have s86 : (up (up (up (up (up (up h 12 ((h 12).set p (nI kd))) 13 ((h 13).set p (nI v))) 14 ((h 14).set p 1)) 15 ((h 15).set p (nI dr))) 16 (rws (h 16) (4 * p) 4)) 11 [nI (loN (thS (h 86) p kd v dr)), nI (p + 1)]) 86 = h 86 := by simp only [up_at, up_ne, Nat.reduceEqDiff, not_false_eq_true]
  generalize (up (up (up (up (up (up h 12 ((h 12).set p (nI kd))) 13 ((h 13).set p (nI v))) 14 ((h 14).set p 1)) 15 ((h 15).set p (nI dr))) 16 (rws (h 16) (4 * p) 4)) 11 [nI (loN (thS (h 86) p kd v dr)), nI (p + 1)]) = H at fq s86 ⊢
  have key : ∀ (j k : Nat), j + k = 4 → pm_W fqP (d + 39) 130 111 [some (.ref 85), some (.int (nI kd)), some (.int (nI v)), some (.int (nI dr)), some (.int (nI p)), some (.int (nI k))] [] (mk (up H 86 (rws (thg (h 86) p kd v dr) (48 + 4 * p) k))) (fun r' σ' => PO scr (some (.int (nI p))) r' σ') := by
    intro j
    induction j with
    | zero =>
      intro k hk
      have hk4 : k = 4 := by omega
      subst hk4
      have e1 : ((4 : Int32) ≤ nI 4) = True := eq_true (Int32.le_refl _)
      obtain ⟨r1, r2⟩ := rws_gd (s := thg (h 86) p kd v dr) (a := 48 + 4 * p) 4 (by omega)
      rw [wgl] at r1
      have g22 : gd (rws (thg (h 86) p kd v dr) (48 + 4 * p) 4) 22 = nI p := by
        rw [r2, if_neg (by omega), thg, gd_ne (by omega), gd_ne (by omega), gd_ne (by omega), gd_ne (by omega), gd_ne (by omega)]; exact hn
      rw [b_M_thing_111]
      simp (maxDischargeDepth := 20) (maxSteps := 2000000) only [↓reduceIte, pm_WL_nil, bi_900, bi_901, bi_904, bi_905, pm_lget_0, pm_lget_s, pm_oI_s, pm_oA_s, pm_oJ_s, pm_oK_s, pm_oR_s, pm_oO_s, pm_oN_s, pm_oF_s, pm_oM_s, pm_oP_s, pm_pu_n, pm_pu_s, pm_bo_ne, pm_bo_eq, Nat.reduceAdd, Nat.reduceSub, Nat.reduceLT, Nat.reduceLeDiff, Nat.reduceEqDiff, Nat.zero_add, Nat.lt_add_one, Nat.zero_ne_one, Nat.succ_ne_self, List.length_cons, List.length_nil, true_and, and_true, true_or, or_true, false_or, or_false, false_implies, true_implies, implies_true, not_true_eq_false, not_false_eq_true, ne_eq, eq_self, e_M_thing, pm_okW_0, pm_okW_i, pm_okW_r, pm_okW_l, pm_ent_0, pm_ent_i, pm_ent_r, pm_ent_l, List.reduceReplicate, b_M_thing_0, b_M_thing_10, b_M_thing_12, b_M_thing_19, b_M_thing_26, b_M_thing_29, b_M_thing_41, b_M_thing_44, b_M_thing_117, b_M_thing_139, f_iloadn1, w_iconst, ki_0, w_bipush, kb_6, iv_130_41, kk_n, kk_s, w_if_ne, pm_tgt_is, Int.cast_ofNat_Int, Int.reduceNeg, Int.reduceAdd, Int.reduceToNat, Int.zero_add, Int.zero_le_ofNat, Int.reduceLE, nz_1, nz_m1, if_true, if_false, ki_m1, w_iret, lg_130, pm_fit_b, pm_fit_0, pm_fit_1, Bool.false_eq_true, f_iloadn2, iv_130_135, w_if_eq, f_iloadn3, kb_m2, f_aloadn0, gf_130_9_85, kb_22, w_icmp_ne, kb_m4, w_istore, pm_lset_0, pm_lset_1, pm_lset_n, pm_no2_n, pm_no2_i, pm_no2_r, pm_no2_l, kb_30, f_iload4, w_iadd, kb_36, kb_42, ki_1, kb_12, f_iload5, ki_4, w_icmp_ge, kb_48, w_imul, f_iinc5, w_goto, w_dup2i, w_dup2a, hs_85, f_iald_86, f_alen_86, ia_86, ar_86, f_iast_86, iw_86, hs_86, up_at, up_ne, up_up, gd_0, gd_s, lia_0, lrd_0, lin_0, lwr_0, lia_1, lrd_1, lin_1, lwr_1, lia_2, lrd_2, lin_2, lwr_2, lia_3, lrd_3, lin_3, lwr_3, lia_4, lrd_4, lin_4, lwr_4, lia_5, lrd_5, lin_5, lwr_5, lia_6, lrd_6, lin_6, lwr_6, lia_12, lrd_12, lin_12, lwr_12, lia_18, lrd_18, lin_18, lwr_18, lia_22, lrd_22, lin_22, lwr_22, lia_23, lrd_23, lin_23, lwr_23, lia_24, lrd_24, lin_24, lwr_24, lia_25, lrd_25, lin_25, lwr_25, lia_26, lrd_26, lin_26, lwr_26, lia_27, lrd_27, lin_27, lwr_27, lia_28, lrd_28, lin_28, lwr_28, lia_29, lrd_29, lin_29, lwr_29, lia_30, lrd_30, lin_30, lwr_30, lia_36, lrd_36, lin_36, lwr_36, lia_42, lrd_42, lin_42, lwr_42, lia_48, lrd_48, lin_48, lwr_48, lia_72, lrd_72, lin_72, lwr_72, lia_77, lrd_77, lin_77, lwr_77, lia_82, lrd_82, lin_82, lwr_82, lia_87, lrd_87, lin_87, lwr_87, lia_92, lrd_92, lin_92, lwr_92, lia_100, lrd_100, lin_100, lwr_100, lia_108, lrd_108, lin_108, lwr_108, lia_116, lrd_116, lin_116, lwr_116, lia_124, lrd_124, lin_124, lwr_124, lia_224, lrd_224, lin_224, lwr_224, lia_229, lrd_229, lin_229, lwr_229, lia_234, lrd_234, lin_234, lwr_234, r1, g22, e1, ni_1]
      exact po_i fq
    | succ j ih =>
      intro k hk
      have e1 : ((4 : Int32) ≤ nI k) = False := by rw [li_le 4 k (by omega) (by omega)]; exact eq_false (by omega)
      obtain ⟨r1, r2⟩ := rws_gd (s := thg (h 86) p kd v dr) (a := 48 + 4 * p) k (by omega)
      rw [wgl] at r1
      have f0 : (48 : Int32) + 4 * nI p + nI k = nI (48 + 4 * p + k) := by rw [show (48 : Int32) = nI 48 from rfl, show (4 : Int32) = nI 4 from rfl, ni_mul, ni_add, ni_add]
      obtain ⟨q1, q2, q3⟩ := ix (j := 48 + 4 * p + k) (by omega)
      rw [b_M_thing_111]
      simp (maxDischargeDepth := 20) (maxSteps := 2000000) only [↓reduceIte, pm_WL_nil, bi_900, bi_901, bi_904, bi_905, pm_lget_0, pm_lget_s, pm_oI_s, pm_oA_s, pm_oJ_s, pm_oK_s, pm_oR_s, pm_oO_s, pm_oN_s, pm_oF_s, pm_oM_s, pm_oP_s, pm_pu_n, pm_pu_s, pm_bo_ne, pm_bo_eq, Nat.reduceAdd, Nat.reduceSub, Nat.reduceLT, Nat.reduceLeDiff, Nat.reduceEqDiff, Nat.zero_add, Nat.lt_add_one, Nat.zero_ne_one, Nat.succ_ne_self, List.length_cons, List.length_nil, true_and, and_true, true_or, or_true, false_or, or_false, false_implies, true_implies, implies_true, not_true_eq_false, not_false_eq_true, ne_eq, eq_self, e_M_thing, pm_okW_0, pm_okW_i, pm_okW_r, pm_okW_l, pm_ent_0, pm_ent_i, pm_ent_r, pm_ent_l, List.reduceReplicate, b_M_thing_0, b_M_thing_10, b_M_thing_12, b_M_thing_19, b_M_thing_26, b_M_thing_29, b_M_thing_41, b_M_thing_44, b_M_thing_117, b_M_thing_139, f_iloadn1, w_iconst, ki_0, w_bipush, kb_6, iv_130_41, kk_n, kk_s, w_if_ne, pm_tgt_is, Int.cast_ofNat_Int, Int.reduceNeg, Int.reduceAdd, Int.reduceToNat, Int.zero_add, Int.zero_le_ofNat, Int.reduceLE, nz_1, nz_m1, if_true, if_false, ki_m1, w_iret, lg_130, pm_fit_b, pm_fit_0, pm_fit_1, Bool.false_eq_true, f_iloadn2, iv_130_135, w_if_eq, f_iloadn3, kb_m2, f_aloadn0, gf_130_9_85, kb_22, w_icmp_ne, kb_m4, w_istore, pm_lset_0, pm_lset_1, pm_lset_n, pm_no2_n, pm_no2_i, pm_no2_r, pm_no2_l, kb_30, f_iload4, w_iadd, kb_36, kb_42, ki_1, kb_12, f_iload5, ki_4, w_icmp_ge, kb_48, w_imul, f_iinc5, w_goto, w_dup2i, w_dup2a, hs_85, f_iald_86, f_alen_86, ia_86, ar_86, f_iast_86, iw_86, hs_86, up_at, up_ne, up_up, gd_0, gd_s, r1, f0, q1, q2, e1, ni_1]
      exact ih (k + 1) (by omega)
  simp (maxDischargeDepth := 20) (maxSteps := 2000000) only [↓reduceIte, pm_WL_nil, bi_900, bi_901, bi_904, bi_905, pm_lget_0, pm_lget_s, pm_oI_s, pm_oA_s, pm_oJ_s, pm_oK_s, pm_oR_s, pm_oO_s, pm_oN_s, pm_oF_s, pm_oM_s, pm_oP_s, pm_pu_n, pm_pu_s, pm_bo_ne, pm_bo_eq, Nat.reduceAdd, Nat.reduceSub, Nat.reduceLT, Nat.reduceLeDiff, Nat.reduceEqDiff, Nat.zero_add, Nat.lt_add_one, Nat.zero_ne_one, Nat.succ_ne_self, List.length_cons, List.length_nil, true_and, and_true, true_or, or_true, false_or, or_false, false_implies, true_implies, implies_true, not_true_eq_false, not_false_eq_true, ne_eq, eq_self, e_M_thing, pm_okW_0, pm_okW_i, pm_okW_r, pm_okW_l, pm_ent_0, pm_ent_i, pm_ent_r, pm_ent_l, List.reduceReplicate, b_M_thing_0, b_M_thing_10, b_M_thing_12, b_M_thing_19, b_M_thing_26, b_M_thing_29, b_M_thing_41, b_M_thing_44, b_M_thing_117, b_M_thing_139, f_iloadn1, w_iconst, ki_0, w_bipush, kb_6, iv_130_41, kk_n, kk_s, w_if_ne, pm_tgt_is, Int.cast_ofNat_Int, Int.reduceNeg, Int.reduceAdd, Int.reduceToNat, Int.zero_add, Int.zero_le_ofNat, Int.reduceLE, nz_1, nz_m1, if_true, if_false, ki_m1, w_iret, lg_130, pm_fit_b, pm_fit_0, pm_fit_1, Bool.false_eq_true, f_iloadn2, iv_130_135, w_if_eq, f_iloadn3, kb_m2, f_aloadn0, gf_130_9_85, kb_22, w_icmp_ne, kb_m4, w_istore, pm_lset_0, pm_lset_1, pm_lset_n, pm_no2_n, pm_no2_i, pm_no2_r, pm_no2_l, kb_30, f_iload4, w_iadd, kb_36, kb_42, ki_1, kb_12, f_iload5, ki_4, w_icmp_ge, kb_48, w_imul, f_iinc5, w_goto, w_dup2i, w_dup2a, hs_85, f_iald_86, f_alen_86, ia_86, ar_86, f_iast_86, iw_86, hs_86, up_at, up_ne, up_up, gd_0, gd_s, lia_0, lrd_0, lin_0, lwr_0, lia_1, lrd_1, lin_1, lwr_1, lia_2, lrd_2, lin_2, lwr_2, lia_3, lrd_3, lin_3, lwr_3, lia_4, lrd_4, lin_4, lwr_4, lia_5, lrd_5, lin_5, lwr_5, lia_6, lrd_6, lin_6, lwr_6, lia_12, lrd_12, lin_12, lwr_12, lia_18, lrd_18, lin_18, lwr_18, lia_22, lrd_22, lin_22, lwr_22, lia_23, lrd_23, lin_23, lwr_23, lia_24, lrd_24, lin_24, lwr_24, lia_25, lrd_25, lin_25, lwr_25, lia_26, lrd_26, lin_26, lwr_26, lia_27, lrd_27, lin_27, lwr_27, lia_28, lrd_28, lin_28, lwr_28, lia_29, lrd_29, lin_29, lwr_29, lia_30, lrd_30, lin_30, lwr_30, lia_36, lrd_36, lin_36, lwr_36, lia_42, lrd_42, lin_42, lwr_42, lia_48, lrd_48, lin_48, lwr_48, lia_72, lrd_72, lin_72, lwr_72, lia_77, lrd_77, lin_77, lwr_77, lia_82, lrd_82, lin_82, lwr_82, lia_87, lrd_87, lin_87, lwr_87, lia_92, lrd_92, lin_92, lwr_92, lia_100, lrd_100, lin_100, lwr_100, lia_108, lrd_108, lin_108, lwr_108, lia_116, lrd_116, lin_116, lwr_116, lia_124, lrd_124, lin_124, lwr_124, lia_224, lrd_224, lin_224, lwr_224, lia_229, lrd_229, lin_229, lwr_229, lia_234, lrd_234, lin_234, lwr_234, s86, hl, len_set, hn, c_M_in, u2, c_M_isDigit, y1, z1, u4, a1, a2, e1, e2, f1, f2, g1, g2, j1, j2]
  exact key 4 0 rfl
