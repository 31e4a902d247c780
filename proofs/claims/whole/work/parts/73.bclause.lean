/-! CLAUSES, told once for both -/
def wwq : List Int32 := [113, 117, 111, 114, 117, 109, 32]
def wwf : List Int32 := [102, 97, 118, 111, 117, 114, 32]
def wwr : List Int32 := [114, 101, 115, 101, 110, 116, 32]
theorem ww_ok (W : List Int32) (h : W = wwq ∨ W = wwf ∨ W = wwr) : ∀ i, i < W.length → ∃ c, c < 200 ∧ gd W i = nI c := by
  have key : ∀ i, i < 7 → (gd wwq i = nI (gd wwq i).toNatClampNeg ∧ (gd wwq i).toNatClampNeg < 200) ∧ (gd wwf i = nI (gd wwf i).toNatClampNeg ∧ (gd wwf i).toNatClampNeg < 200) ∧ (gd wwr i = nI (gd wwr i).toNatClampNeg ∧ (gd wwr i).toNatClampNeg < 200) := by decide +kernel
  intro i hi
  rcases h with rfl | rfl | rfl
  · exact ⟨_, (key i hi).1.2, (key i hi).1.1⟩
  · exact ⟨_, (key i hi).2.1.2, (key i hi).2.1.1⟩
  · exact ⟨_, (key i hi).2.2.2, (key i hi).2.2.1⟩
theorem wrd_b {T : Nat → Int32} {en : Nat} (h : TPE T en) : ∀ (W : List Int32) (p : Nat), (∀ c, c ∈ W → ∃ a, a < 200 ∧ c = nI a) → p ≤ en → p ≤ (wrdS T W p).2 ∧ (wrdS T W p).2 ≤ en
  | [], p, _, hp => ⟨Nat.le_refl _, hp⟩
  | c :: W, p, hc, hp => by
    rw [wrdS]
    by_cases q : T p = c
    · rw [if_pos q]
      obtain ⟨a, ha, ea⟩ := hc c List.mem_cons_self
      have lt := tp_lt h (by omega) (q.trans ea)
      have := wrd_b h W (p + 1) (fun x hx => hc x (List.mem_cons_of_mem _ hx)) lt
      exact ⟨by omega, this.2⟩
    · rw [if_neg q]; exact ⟨Nat.le_refl _, hp⟩
theorem ww_mem (W : List Int32) (h : W = wwq ∨ W = wwf ∨ W = wwr) : ∀ c, c ∈ W → ∃ a, a < 200 ∧ c = nI a := by
  intro c hc
  obtain ⟨i, hi, e⟩ := List.getElem_of_mem hc
  obtain ⟨a, ha, ea⟩ := ww_ok W h i hi
  refine ⟨a, ha, ?_⟩
  rw [← ea, ← e]
  unfold gd
  rw [List.getD_eq_getElem?_getD, List.getElem?_eq_getElem hi]; rfl
def hdS (T : Nat → Int32) (W : List Int32) (p : Nat) : Bool × Nat × Nat := if (wrdS T W p).1 = true then numS T (wrdS T W p).2 else (false, (wrdS T W p).2, 0)
theorem hd_b {T : Nat → Int32} {en p : Nat} {W : List Int32} (h : TPE T en) (hW : W = wwq ∨ W = wwf ∨ W = wwr) (hp : p ≤ en) : p ≤ (hdS T W p).2.1 ∧ (hdS T W p).2.1 ≤ en ∧ (hdS T W p).2.2 < 100 ∧ ((hdS T W p).1 = true → p < (hdS T W p).2.1) := by
  obtain ⟨w1, w2⟩ := wrd_b h W p (ww_mem W hW) hp
  unfold hdS
  by_cases q : (wrdS T W p).1 = true
  · rw [if_pos q]
    obtain ⟨n1, n2, n3, n4⟩ := num_b (p := (wrdS T W p).2) h w2
    exact ⟨by omega, n2, n3, fun z => by have := n4 z; omega⟩
  · rw [if_neg q]; exact ⟨w1, w2, by show 0 < 100; omega, fun z => Bool.noConfusion z⟩
/-- whether it goes, where, its steps, the quorum that it tells -/
abbrev bC : Type := Bool × Nat × List Int32 × Option Nat
def vtS (T : Nat → Int32) (W : List Int32) (b : Int32) (p : Nat) : bC := if (hdS T W p).1 = true then (if T (hdS T W p).2.1 = 32 then (if (ez T 5 ((hdS T W p).2.1 + 1)).1 = true then (true, (ez T 5 ((hdS T W p).2.1 + 1)).2.1, (ez T 5 ((hdS T W p).2.1 + 1)).2.2 ++ [b - nI (hdS T W p).2.2], none) else (false, (ez T 5 ((hdS T W p).2.1 + 1)).2.1, (ez T 5 ((hdS T W p).2.1 + 1)).2.2, none)) else (false, (hdS T W p).2.1, [], none)) else (false, (hdS T W p).2.1, [], none)
def quS (T : Nat → Int32) (p : Nat) : bC := if (hdS T wwq p).1 = true then (true, (hdS T wwq p).2.1, [], some (hdS T wwq p).2.2) else (false, (hdS T wwq p).2.1, [], none)
def clS (T : Nat → Int32) (p : Nat) : bC := if T p = 113 then quS T p else if T p = 102 then vtS T wwf (-10) p else if T p = 114 then vtS T wwr (-200) p else (false, p, [], none)
def qo (q : Nat) (r : bC) : Nat := r.2.2.2.getD q
def CLB (en p : Nat) (r : bC) : Prop := p ≤ r.2.1 ∧ r.2.1 ≤ en ∧ r.2.2.1.length + p ≤ r.2.1 ∧ (r.1 = true → p < r.2.1) ∧ (∀ v, r.2.2.2 = some v → v < 100 ∧ r.2.2.1 = [])
theorem vt_b {T : Nat → Int32} {en p : Nat} {W : List Int32} {b : Int32} (h : TPE T en) (hW : W = wwq ∨ W = wwf ∨ W = wwr) (hp : p ≤ en) : CLB en p (vtS T W b p) := by
  obtain ⟨n1, n2, n3, n4⟩ := hd_b h hW hp
  unfold vtS CLB
  by_cases q : (hdS T W p).1 = true
  · rw [if_pos q]
    have n5 := n4 q
    by_cases z : T (hdS T W p).2.1 = 32
    · have lt := tp_lt (c := 32) h (by omega) z
      obtain ⟨f1, f2, f3, f4⟩ := gr_ez h 5 ((hdS T W p).2.1 + 1) (by omega)
      rw [if_pos z]
      by_cases y : (ez T 5 ((hdS T W p).2.1 + 1)).1 = true
      · rw [if_pos y]
        refine ⟨?_, f2, ?_, fun _ => ?_, fun v hv => by cases hv⟩
        · show p ≤ (ez T 5 ((hdS T W p).2.1 + 1)).2.1; omega
        · show ((ez T 5 ((hdS T W p).2.1 + 1)).2.2 ++ [b - nI (hdS T W p).2.2]).length + p ≤ (ez T 5 ((hdS T W p).2.1 + 1)).2.1
          rw [List.length_append, List.length_singleton]; omega
        · show p < (ez T 5 ((hdS T W p).2.1 + 1)).2.1; omega
      · rw [if_neg y]
        exact ⟨by show p ≤ (ez T 5 ((hdS T W p).2.1 + 1)).2.1; omega, f2, by show (ez T 5 ((hdS T W p).2.1 + 1)).2.2.length + p ≤ (ez T 5 ((hdS T W p).2.1 + 1)).2.1; omega, fun z => Bool.noConfusion z, fun v hv => by cases hv⟩
    · rw [if_neg z]
      exact ⟨n1, n2, by show 0 + p ≤ (hdS T W p).2.1; omega, fun z => Bool.noConfusion z, fun v hv => by cases hv⟩
  · rw [if_neg q]
    exact ⟨n1, n2, by show 0 + p ≤ (hdS T W p).2.1; omega, fun z => Bool.noConfusion z, fun v hv => by cases hv⟩
theorem cl_b {T : Nat → Int32} {en p : Nat} (h : TPE T en) (hp : p ≤ en) : CLB en p (clS T p) := by
  unfold clS
  by_cases q1 : T p = 113
  · rw [if_pos q1]
    obtain ⟨n1, n2, n3, n4⟩ := hd_b (W := wwq) h (Or.inl rfl) hp
    unfold quS CLB
    by_cases q : (hdS T wwq p).1 = true
    · rw [if_pos q]
      exact ⟨n1, n2, by show 0 + p ≤ (hdS T wwq p).2.1; omega, fun _ => n4 q, fun v hv => by cases hv; exact ⟨n3, rfl⟩⟩
    · rw [if_neg q]
      exact ⟨n1, n2, by show 0 + p ≤ (hdS T wwq p).2.1; omega, fun z => Bool.noConfusion z, fun v hv => by cases hv⟩
  · rw [if_neg q1]
    by_cases q2 : T p = 102
    · rw [if_pos q2]; exact vt_b h (Or.inr (Or.inl rfl)) hp
    · rw [if_neg q2]
      by_cases q3 : T p = 114
      · rw [if_pos q3]; exact vt_b h (Or.inr (Or.inr rfl)) hp
      · rw [if_neg q3]
        exact ⟨Nat.le_refl _, hp, Nat.le_of_eq (Nat.zero_add p), fun z => Bool.noConfusion z, fun v hv => by cases hv⟩
theorem lst_f : ∀ v, v < 100 → (¬ (0 : Int32) ≤ -10 - nI v ∧ ¬ -10 - nI v = -1 ∧ ¬ -10 < -10 - nI v ∧ -200 < -10 - nI v ∧ ¬ -10 - nI v ≤ -200 ∧ -10 - (-10 - nI v) = nI v) := by decide +kernel
theorem lst_r : ∀ v, v < 100 → (¬ (0 : Int32) ≤ -200 - nI v ∧ ¬ -200 - nI v = -1 ∧ ¬ -10 < -200 - nI v ∧ ¬ -200 < -200 - nI v ∧ -200 - nI v ≤ -200 ∧ -200 - (-200 - nI v) = nI v) := by decide +kernel
/-- what a clause's steps add -/
def RAD (L : List Int32) (e : List Int32 → Int32) : Prop := (∀ f r S, rrun f (L ++ r) [] S = rrun f r [] (S + e f)) ∧ ∀ r, rok r 0 → rok (L ++ r) 0
theorem rad_nil : RAD [] (fun _ => 0) := ⟨fun f r S => by rw [List.nil_append, Int32.add_zero], fun r h => h⟩
theorem rad_f {T : Nat → Int32} {en p v : Nat} (h : TPE T en) (hv : v < 100) (o : (ez T 5 p).1 = true) : RAD ((ez T 5 p).2.2 ++ [-10 - nI v]) (fun f => if evL f (ez T 5 p).2.2 = true then nI v else 0) := by
  obtain ⟨a1, a2, a3, a4, a5, a6⟩ := lst_f v hv
  obtain ⟨s1, s2⟩ := smf_ez h 5 p o
  refine ⟨fun f r S => ?_, fun r hr => ?_⟩
  · rw [List.append_assoc, rrun_app f _ _ _ _ s1, s2, List.cons_append, List.nil_append, rrun, if_neg a1, if_neg a2, if_neg a3, a6]
    show _ = rrun f r [] (S + (if evL f (ez T 5 p).2.2 = true then nI v else 0))
    cases evL f (ez T 5 p).2.2
    · rw [if_neg (fun q => absurd q.1 (by decide)), if_neg (fun q => absurd q.1 (by decide)), if_neg Bool.false_ne_true, Int32.sub_zero]
    · rw [if_pos ⟨rfl, a4⟩, if_neg (fun q => a5 q.2), if_pos rfl, Int32.sub_zero]
  · rw [List.append_assoc]
    refine rk_ez h 5 p o 0 _ (by omega) ?_
    rw [List.cons_append, List.nil_append, rok, if_neg a1, if_neg a2, if_neg a3]
    exact ⟨rfl, hr⟩
theorem rad_r {T : Nat → Int32} {en p v : Nat} (h : TPE T en) (hv : v < 100) (o : (ez T 5 p).1 = true) : RAD ((ez T 5 p).2.2 ++ [-200 - nI v]) (fun f => if evL f (ez T 5 p).2.2 = true then -nI v else 0) := by
  obtain ⟨a1, a2, a3, a4, a5, a6⟩ := lst_r v hv
  obtain ⟨s1, s2⟩ := smf_ez h 5 p o
  refine ⟨fun f r S => ?_, fun r hr => ?_⟩
  · rw [List.append_assoc, rrun_app f _ _ _ _ s1, s2, List.cons_append, List.nil_append, rrun, if_neg a1, if_neg a2, if_neg a3, a6]
    show _ = rrun f r [] (S + (if evL f (ez T 5 p).2.2 = true then -nI v else 0))
    cases evL f (ez T 5 p).2.2
    · rw [if_neg (fun q => absurd q.1 (by decide)), if_neg (fun q => absurd q.1 (by decide)), if_neg Bool.false_ne_true, Int32.sub_zero]
    · rw [if_neg (fun q => a4 q.2), if_pos ⟨rfl, a5⟩, if_pos rfl, Int32.add_zero, Int32.sub_eq_add_neg]
  · rw [List.append_assoc]
    refine rk_ez h 5 p o 0 _ (by omega) ?_
    rw [List.cons_append, List.nil_append, rok, if_neg a1, if_neg a2, if_neg a3]
    exact ⟨rfl, hr⟩
/-- clause by clause: k at most -/
abbrev bB : Type := Bool × Nat × List Int32 × Nat
def brM (T : Nat → Int32) : Nat → Nat → Nat → bB
  | 0, p, q => (false, p, [], q)
  | k + 1, p, q => if (clS T p).1 = true ∧ T (clS T p).2.1 = 59 ∧ 0 < k then ((brM T k ((clS T p).2.1 + 1) (qo q (clS T p))).1, (brM T k ((clS T p).2.1 + 1) (qo q (clS T p))).2.1, (clS T p).2.2.1 ++ (brM T k ((clS T p).2.1 + 1) (qo q (clS T p))).2.2.1, (brM T k ((clS T p).2.1 + 1) (qo q (clS T p))).2.2.2) else ((clS T p).1, (clS T p).2.1, (clS T p).2.2.1, qo q (clS T p))
/-! THE REFERENCE'S CLAUSES -/
def sCl (ac : Nat) (s : List Int32) (mn : Nat) (r : bC) : List Int32 := match r.2.2.2 with
  | none => emL ac s mn r.2.2.1
  | some v => s.set (224 + ac) (nI v)
theorem c_M_much {d sp mn ac en tx : Nat} {T : Nat → Int32} {h : Nat → List Int32} {s A W : List Int32} {b : Int32} {K : Option Value → pm_S → Prop} (H : RH T en ac A s mn) (hsp : sp ≤ en) (hm : mn ≤ sp) (hW : W = wwq ∨ W = wwf ∨ W = wwr) (ht : TXT tx W) : pm_WC fqP (d + 30) 117 [.ref 85, .int b, .ref tx] (mk (W2 h s (F5 A (nI sp) 0 0))) K = K none (mk (W2 h (emL ac s mn (vtS T W b sp).2.2.1) (F5 A (nI (vtS T W b sp).2.1) (bI (!(vtS T W b sp).1)) 0))) := by
  have hT := H.1
  have h10 := hT.1
  have e1 := fun K => @c_spells (d + 23) sp mn ac en T h s A K tx W 0 H hsp ht (ww_ok W hW)
  obtain ⟨w1, w2⟩ := wrd_b hT W sp (ww_mem W hW) hsp
  unfold vtS hdS
  by_cases q : (wrdS T W sp).1 = true
  · have q1 : bI (!(wrdS T W sp).1) = 0 := by rw [q]; rfl
    have e2 := fun K => @c_figures (d + 27) (wrdS T W sp).2 mn ac en T h s A K 0 H (by omega)
    obtain ⟨n1, n2, n3, n4⟩ := num_b (p := (wrdS T W sp).2) hT w2
    rw [if_pos q]
    by_cases c : (numS T (wrdS T W sp).2).1 = true
    · have c1 : bI (!(numS T (wrdS T W sp).2).1) = 0 := by rw [c]; rfl
      have n5 := n4 c
      rw [if_pos c]
      by_cases z : T (numS T (wrdS T W sp).2).2.1 = 32
      · have lt := tp_lt (c := 32) hT (by omega) z
        have e3 := fun K => @c_must_y (d + 27) (numS T (wrdS T W sp).2).2.1 mn ac en T h s A K 32 0 H (by omega) z
        obtain ⟨f1, f2, f3, f4⟩ := gr_ez hT 5 ((numS T (wrdS T W sp).2).2.1 + 1) (by omega)
        have e4 : ∀ K, pm_WC fqP (d + 29) 116 [.ref 85] (mk (W2 h s (F5 A (nI ((numS T (wrdS T W sp).2).2.1 + 1)) 0 0))) K = K none (mk (W2 h (emL ac s mn (ez T 5 ((numS T (wrdS T W sp).2).2.1 + 1)).2.2) (F5 A (nI (ez T 5 ((numS T (wrdS T W sp).2).2.1 + 1)).2.1) (bI (!(ez T 5 ((numS T (wrdS T W sp).2).2.1 + 1)).1)) 0))) := fun K => by
          rw [show d + 29 = (d + 5) + 3 * 5 + 9 by omega]
          exact c_some_0 (d + 5) _ mn 0 s K H (by omega) (by omega) (by omega)
        have H2 := rh_emL (ez T 5 ((numS T (wrdS T W sp).2).2.1 + 1)).2.2 s mn H (by omega)
        rw [if_pos z]
        by_cases y : (ez T 5 ((numS T (wrdS T W sp).2).2.1 + 1)).1 = true
        · have y1 : bI (!(ez T 5 ((numS T (wrdS T W sp).2).2.1 + 1)).1) = 0 := by rw [y]; rfl
          have f5 := f4 y
          have e5 := fun x v K => @c_emits (d + 28) sp (mn + (ez T 5 ((numS T (wrdS T W sp).2).2.1 + 1)).2.2.length) ac en T h _ A K v x 0 H2 (by omega)
          rw [if_pos y]
          simp (maxDischargeDepth := 20) (maxSteps := 2000000) only [↓reduceIte, pm_WL_nil, bi_900, bi_901, bi_904, bi_905, pm_lget_0, pm_lget_s, pm_oI_s, pm_oA_s, pm_oJ_s, pm_oK_s, pm_oR_s, pm_oO_s, pm_oN_s, pm_oF_s, pm_oM_s, pm_oP_s, pm_pu_n, pm_pu_s, pm_bo_ne, pm_bo_eq, Nat.reduceAdd, Nat.reduceSub, Nat.reduceLT, Nat.reduceLeDiff, Nat.reduceEqDiff, Nat.zero_add, Nat.lt_add_one, Nat.zero_ne_one, Nat.succ_ne_self, List.length_cons, List.length_nil, true_and, and_true, true_or, or_true, false_or, or_false, false_implies, true_implies, implies_true, not_true_eq_false, not_false_eq_true, ne_eq, eq_self, e_M_much, pm_okW_0, pm_okW_i, pm_okW_r, pm_okW_l, pm_ent_0, pm_ent_i, pm_ent_r, pm_ent_l, List.reduceReplicate, b_M_much_0, f_aloadn0, f_aloadn2, iv_117_101_85, kk_n, kk_s, iv_117_95_85, w_istore3, pm_lset_0, pm_lset_1, pm_lset_n, pm_no2_n, pm_no2_i, pm_no2_r, pm_no2_l, w_bipush, kb_32, iv_117_68_85, iv_117_84_85, f_iloadn1, f_iloadn3, w_isub, iv_117_81_85, w_ret, hs_85, w2_86, w2_85, w2_u86, w2_u85, g5_0, g5_1, g5_2, g5_3, g5_4, g5_5, g5_6, g5_7, g5_8, g5_9, g5_10, g5_11, f5_f, w5_109_0, w5_109_1, w5_111_0, w5_111_1, w5_114_0, w5_114_1, w5_119_0, w5_119_1, e1, q1, e2, c1, e3, e4, y1, e5]
          rw [emL_app]
          rfl
        · have y1 : bI (!(ez T 5 ((numS T (wrdS T W sp).2).2.1 + 1)).1) = 1 := by rw [show (ez T 5 ((numS T (wrdS T W sp).2).2.1 + 1)).1 = false by simpa using y]; rfl
          rw [if_neg y]
          simp (maxDischargeDepth := 20) (maxSteps := 2000000) only [↓reduceIte, pm_WL_nil, bi_900, bi_901, bi_904, bi_905, pm_lget_0, pm_lget_s, pm_oI_s, pm_oA_s, pm_oJ_s, pm_oK_s, pm_oR_s, pm_oO_s, pm_oN_s, pm_oF_s, pm_oM_s, pm_oP_s, pm_pu_n, pm_pu_s, pm_bo_ne, pm_bo_eq, Nat.reduceAdd, Nat.reduceSub, Nat.reduceLT, Nat.reduceLeDiff, Nat.reduceEqDiff, Nat.zero_add, Nat.lt_add_one, Nat.zero_ne_one, Nat.succ_ne_self, List.length_cons, List.length_nil, true_and, and_true, true_or, or_true, false_or, or_false, false_implies, true_implies, implies_true, not_true_eq_false, not_false_eq_true, ne_eq, eq_self, e_M_much, pm_okW_0, pm_okW_i, pm_okW_r, pm_okW_l, pm_ent_0, pm_ent_i, pm_ent_r, pm_ent_l, List.reduceReplicate, b_M_much_0, f_aloadn0, f_aloadn2, iv_117_101_85, kk_n, kk_s, iv_117_95_85, w_istore3, pm_lset_0, pm_lset_1, pm_lset_n, pm_no2_n, pm_no2_i, pm_no2_r, pm_no2_l, w_bipush, kb_32, iv_117_68_85, iv_117_84_85, f_iloadn1, f_iloadn3, w_isub, iv_117_81_85, w_ret, hs_85, w2_86, w2_85, w2_u86, w2_u85, g5_0, g5_1, g5_2, g5_3, g5_4, g5_5, g5_6, g5_7, g5_8, g5_9, g5_10, g5_11, f5_f, w5_109_0, w5_109_1, w5_111_0, w5_111_1, w5_114_0, w5_114_1, w5_119_0, w5_119_1, e1, q1, e2, c1, e3, e4, y1, c_emits_w]
          rfl
      · have e3 := fun K => @c_must_n (d + 27) (numS T (wrdS T W sp).2).2.1 mn ac en T h s A K 32 0 H (by omega) z
        rw [if_neg z]
        simp (maxDischargeDepth := 20) (maxSteps := 2000000) only [↓reduceIte, pm_WL_nil, bi_900, bi_901, bi_904, bi_905, pm_lget_0, pm_lget_s, pm_oI_s, pm_oA_s, pm_oJ_s, pm_oK_s, pm_oR_s, pm_oO_s, pm_oN_s, pm_oF_s, pm_oM_s, pm_oP_s, pm_pu_n, pm_pu_s, pm_bo_ne, pm_bo_eq, Nat.reduceAdd, Nat.reduceSub, Nat.reduceLT, Nat.reduceLeDiff, Nat.reduceEqDiff, Nat.zero_add, Nat.lt_add_one, Nat.zero_ne_one, Nat.succ_ne_self, List.length_cons, List.length_nil, true_and, and_true, true_or, or_true, false_or, or_false, false_implies, true_implies, implies_true, not_true_eq_false, not_false_eq_true, ne_eq, eq_self, e_M_much, pm_okW_0, pm_okW_i, pm_okW_r, pm_okW_l, pm_ent_0, pm_ent_i, pm_ent_r, pm_ent_l, List.reduceReplicate, b_M_much_0, f_aloadn0, f_aloadn2, iv_117_101_85, kk_n, kk_s, iv_117_95_85, w_istore3, pm_lset_0, pm_lset_1, pm_lset_n, pm_no2_n, pm_no2_i, pm_no2_r, pm_no2_l, w_bipush, kb_32, iv_117_68_85, iv_117_84_85, f_iloadn1, f_iloadn3, w_isub, iv_117_81_85, w_ret, hs_85, w2_86, w2_85, w2_u86, w2_u85, g5_0, g5_1, g5_2, g5_3, g5_4, g5_5, g5_6, g5_7, g5_8, g5_9, g5_10, g5_11, f5_f, w5_109_0, w5_109_1, w5_111_0, w5_111_1, w5_114_0, w5_114_1, w5_119_0, w5_119_1, e1, q1, e2, c1, e3, c_some_w, c_emits_w]
        rfl
    · have c1 : bI (!(numS T (wrdS T W sp).2).1) = 1 := by rw [show (numS T (wrdS T W sp).2).1 = false by simpa using c]; rfl
      rw [if_neg c]
      simp (maxDischargeDepth := 20) (maxSteps := 2000000) only [↓reduceIte, pm_WL_nil, bi_900, bi_901, bi_904, bi_905, pm_lget_0, pm_lget_s, pm_oI_s, pm_oA_s, pm_oJ_s, pm_oK_s, pm_oR_s, pm_oO_s, pm_oN_s, pm_oF_s, pm_oM_s, pm_oP_s, pm_pu_n, pm_pu_s, pm_bo_ne, pm_bo_eq, Nat.reduceAdd, Nat.reduceSub, Nat.reduceLT, Nat.reduceLeDiff, Nat.reduceEqDiff, Nat.zero_add, Nat.lt_add_one, Nat.zero_ne_one, Nat.succ_ne_self, List.length_cons, List.length_nil, true_and, and_true, true_or, or_true, false_or, or_false, false_implies, true_implies, implies_true, not_true_eq_false, not_false_eq_true, ne_eq, eq_self, e_M_much, pm_okW_0, pm_okW_i, pm_okW_r, pm_okW_l, pm_ent_0, pm_ent_i, pm_ent_r, pm_ent_l, List.reduceReplicate, b_M_much_0, f_aloadn0, f_aloadn2, iv_117_101_85, kk_n, kk_s, iv_117_95_85, w_istore3, pm_lset_0, pm_lset_1, pm_lset_n, pm_no2_n, pm_no2_i, pm_no2_r, pm_no2_l, w_bipush, kb_32, iv_117_68_85, iv_117_84_85, f_iloadn1, f_iloadn3, w_isub, iv_117_81_85, w_ret, hs_85, w2_86, w2_85, w2_u86, w2_u85, g5_0, g5_1, g5_2, g5_3, g5_4, g5_5, g5_6, g5_7, g5_8, g5_9, g5_10, g5_11, f5_f, w5_109_0, w5_109_1, w5_111_0, w5_111_1, w5_114_0, w5_114_1, w5_119_0, w5_119_1, e1, q1, e2, c1, c_must_w, c_some_w, c_emits_w]
      rfl
  · have q1 : bI (!(wrdS T W sp).1) = 1 := by rw [show (wrdS T W sp).1 = false by simpa using q]; rfl
    rw [if_neg q, if_neg (fun z => Bool.noConfusion z)]
    simp (maxDischargeDepth := 20) (maxSteps := 2000000) only [↓reduceIte, pm_WL_nil, bi_900, bi_901, bi_904, bi_905, pm_lget_0, pm_lget_s, pm_oI_s, pm_oA_s, pm_oJ_s, pm_oK_s, pm_oR_s, pm_oO_s, pm_oN_s, pm_oF_s, pm_oM_s, pm_oP_s, pm_pu_n, pm_pu_s, pm_bo_ne, pm_bo_eq, Nat.reduceAdd, Nat.reduceSub, Nat.reduceLT, Nat.reduceLeDiff, Nat.reduceEqDiff, Nat.zero_add, Nat.lt_add_one, Nat.zero_ne_one, Nat.succ_ne_self, List.length_cons, List.length_nil, true_and, and_true, true_or, or_true, false_or, or_false, false_implies, true_implies, implies_true, not_true_eq_false, not_false_eq_true, ne_eq, eq_self, e_M_much, pm_okW_0, pm_okW_i, pm_okW_r, pm_okW_l, pm_ent_0, pm_ent_i, pm_ent_r, pm_ent_l, List.reduceReplicate, b_M_much_0, f_aloadn0, f_aloadn2, iv_117_101_85, kk_n, kk_s, iv_117_95_85, w_istore3, pm_lset_0, pm_lset_1, pm_lset_n, pm_no2_n, pm_no2_i, pm_no2_r, pm_no2_l, w_bipush, kb_32, iv_117_68_85, iv_117_84_85, f_iloadn1, f_iloadn3, w_isub, iv_117_81_85, w_ret, hs_85, w2_86, w2_85, w2_u86, w2_u85, g5_0, g5_1, g5_2, g5_3, g5_4, g5_5, g5_6, g5_7, g5_8, g5_9, g5_10, g5_11, f5_f, w5_109_0, w5_109_1, w5_111_0, w5_111_1, w5_114_0, w5_114_1, w5_119_0, w5_119_1, e1, q1, c_figures_w, c_must_w, c_some_w, c_emits_w]
    rfl
theorem c_M_tells {d sp mn ac en : Nat} {T : Nat → Int32} {h : Nat → List Int32} {s A : List Int32} {K : Option Value → pm_S → Prop} (H : RH T en ac A s mn) (hsp : sp ≤ en) : pm_WC fqP (d + 30) 118 [.ref 85, .int 224, .ref 1000] (mk (W2 h s (F5 A (nI sp) 0 0))) K = K none (mk (W2 h (sCl ac s mn (quS T sp)) (F5 A (nI (quS T sp).2.1) (bI (!(quS T sp).1)) 0))) := by
  have hT := H.1
  have h10 := hT.1
  have e1 := fun K => @c_spells (d + 23) sp mn ac en T h s A K 1000 wwq 0 H hsp tx_1000 (ww_ok wwq (Or.inl rfl))
  obtain ⟨w1, w2⟩ := wrd_b hT wwq sp (ww_mem wwq (Or.inl rfl)) hsp
  obtain ⟨_, h2, h3, h4, h5, h6, h7⟩ := id H
  obtain ⟨r1, r2, r3⟩ := ix (j := 224 + ac) (by omega)
  unfold quS hdS
  by_cases q : (wrdS T wwq sp).1 = true
  · have q1 : bI (!(wrdS T wwq sp).1) = 0 := by rw [q]; rfl
    have e2 := fun K => @c_figures (d + 27) (wrdS T wwq sp).2 mn ac en T h s A K 0 H (by omega)
    rw [if_pos q]
    by_cases c : (numS T (wrdS T wwq sp).2).1 = true
    · have c1 : bI (!(numS T (wrdS T wwq sp).2).1) = 0 := by rw [c]; rfl
      rw [if_pos c]
      simp (maxDischargeDepth := 20) (maxSteps := 2000000) only [↓reduceIte, pm_WL_nil, bi_900, bi_901, bi_904, bi_905, pm_lget_0, pm_lget_s, pm_oI_s, pm_oA_s, pm_oJ_s, pm_oK_s, pm_oR_s, pm_oO_s, pm_oN_s, pm_oF_s, pm_oM_s, pm_oP_s, pm_pu_n, pm_pu_s, pm_bo_ne, pm_bo_eq, Nat.reduceAdd, Nat.reduceSub, Nat.reduceLT, Nat.reduceLeDiff, Nat.reduceEqDiff, Nat.zero_add, Nat.lt_add_one, Nat.zero_ne_one, Nat.succ_ne_self, List.length_cons, List.length_nil, true_and, and_true, true_or, or_true, false_or, or_false, false_implies, true_implies, implies_true, not_true_eq_false, not_false_eq_true, ne_eq, eq_self, e_M_tellsHere, pm_okW_0, pm_okW_i, pm_okW_r, pm_okW_l, pm_ent_0, pm_ent_i, pm_ent_r, pm_ent_l, List.reduceReplicate, b_M_tellsHere_0, b_M_tellsHere_17, b_M_tellsHere_29, f_aloadn0, f_aloadn2, iv_118_101_85, kk_n, kk_s, iv_118_95_85, w_istore3, pm_lset_0, pm_lset_1, pm_lset_n, pm_no2_n, pm_no2_i, pm_no2_r, pm_no2_l, gf_118_51_85, w_if_ne, pm_tgt_is, Int.cast_ofNat_Int, Int.reduceNeg, Int.reduceAdd, Int.reduceToNat, Int.zero_add, Int.zero_le_ofNat, Int.reduceLE, nz_1, nz_m1, if_true, if_false, gf_118_9_85, f_iloadn1, gf_118_72_85, w_iadd, f_iloadn3, w_ret, hs_85, f_iald_86, f_alen_86, ia_86, ar_86, f_iast_86, iw_86, hs_86, lia_0, lrd_0, lin_0, lwr_0, lia_1, lrd_1, lin_1, lwr_1, lia_2, lrd_2, lin_2, lwr_2, lia_3, lrd_3, lin_3, lwr_3, lia_4, lrd_4, lin_4, lwr_4, lia_5, lrd_5, lin_5, lwr_5, lia_6, lrd_6, lin_6, lwr_6, lia_12, lrd_12, lin_12, lwr_12, lia_18, lrd_18, lin_18, lwr_18, lia_22, lrd_22, lin_22, lwr_22, lia_23, lrd_23, lin_23, lwr_23, lia_24, lrd_24, lin_24, lwr_24, lia_25, lrd_25, lin_25, lwr_25, lia_26, lrd_26, lin_26, lwr_26, lia_27, lrd_27, lin_27, lwr_27, lia_28, lrd_28, lin_28, lwr_28, lia_29, lrd_29, lin_29, lwr_29, lia_30, lrd_30, lin_30, lwr_30, lia_36, lrd_36, lin_36, lwr_36, lia_42, lrd_42, lin_42, lwr_42, lia_48, lrd_48, lin_48, lwr_48, lia_72, lrd_72, lin_72, lwr_72, lia_77, lrd_77, lin_77, lwr_77, lia_82, lrd_82, lin_82, lwr_82, lia_87, lrd_87, lin_87, lwr_87, lia_92, lrd_92, lin_92, lwr_92, lia_100, lrd_100, lin_100, lwr_100, lia_108, lrd_108, lin_108, lwr_108, lia_116, lrd_116, lin_116, lwr_116, lia_124, lrd_124, lin_124, lwr_124, lia_224, lrd_224, lin_224, lwr_224, lia_229, lrd_229, lin_229, lwr_229, lia_234, lrd_234, lin_234, lwr_234, w2_86, w2_85, w2_u86, w2_u85, g5_0, g5_1, g5_2, g5_3, g5_4, g5_5, g5_6, g5_7, g5_8, g5_9, g5_10, g5_11, f5_f, w5_109_0, w5_109_1, w5_111_0, w5_111_1, w5_114_0, w5_114_1, w5_119_0, w5_119_1, e1, q1, e2, c1, h2, h5, r1, r2]
      rfl
    · have c1 : bI (!(numS T (wrdS T wwq sp).2).1) = 1 := by rw [show (numS T (wrdS T wwq sp).2).1 = false by simpa using c]; rfl
      rw [if_neg c]
      simp (maxDischargeDepth := 20) (maxSteps := 2000000) only [↓reduceIte, pm_WL_nil, bi_900, bi_901, bi_904, bi_905, pm_lget_0, pm_lget_s, pm_oI_s, pm_oA_s, pm_oJ_s, pm_oK_s, pm_oR_s, pm_oO_s, pm_oN_s, pm_oF_s, pm_oM_s, pm_oP_s, pm_pu_n, pm_pu_s, pm_bo_ne, pm_bo_eq, Nat.reduceAdd, Nat.reduceSub, Nat.reduceLT, Nat.reduceLeDiff, Nat.reduceEqDiff, Nat.zero_add, Nat.lt_add_one, Nat.zero_ne_one, Nat.succ_ne_self, List.length_cons, List.length_nil, true_and, and_true, true_or, or_true, false_or, or_false, false_implies, true_implies, implies_true, not_true_eq_false, not_false_eq_true, ne_eq, eq_self, e_M_tellsHere, pm_okW_0, pm_okW_i, pm_okW_r, pm_okW_l, pm_ent_0, pm_ent_i, pm_ent_r, pm_ent_l, List.reduceReplicate, b_M_tellsHere_0, b_M_tellsHere_17, b_M_tellsHere_29, f_aloadn0, f_aloadn2, iv_118_101_85, kk_n, kk_s, iv_118_95_85, w_istore3, pm_lset_0, pm_lset_1, pm_lset_n, pm_no2_n, pm_no2_i, pm_no2_r, pm_no2_l, gf_118_51_85, w_if_ne, pm_tgt_is, Int.cast_ofNat_Int, Int.reduceNeg, Int.reduceAdd, Int.reduceToNat, Int.zero_add, Int.zero_le_ofNat, Int.reduceLE, nz_1, nz_m1, if_true, if_false, gf_118_9_85, f_iloadn1, gf_118_72_85, w_iadd, f_iloadn3, w_ret, hs_85, w2_86, w2_85, w2_u86, w2_u85, g5_0, g5_1, g5_2, g5_3, g5_4, g5_5, g5_6, g5_7, g5_8, g5_9, g5_10, g5_11, f5_f, w5_109_0, w5_109_1, w5_111_0, w5_111_1, w5_114_0, w5_114_1, w5_119_0, w5_119_1, e1, q1, e2, c1]
      rfl
  · have q1 : bI (!(wrdS T wwq sp).1) = 1 := by rw [show (wrdS T wwq sp).1 = false by simpa using q]; rfl
    rw [if_neg q, if_neg (fun z => Bool.noConfusion z)]
    simp (maxDischargeDepth := 20) (maxSteps := 2000000) only [↓reduceIte, pm_WL_nil, bi_900, bi_901, bi_904, bi_905, pm_lget_0, pm_lget_s, pm_oI_s, pm_oA_s, pm_oJ_s, pm_oK_s, pm_oR_s, pm_oO_s, pm_oN_s, pm_oF_s, pm_oM_s, pm_oP_s, pm_pu_n, pm_pu_s, pm_bo_ne, pm_bo_eq, Nat.reduceAdd, Nat.reduceSub, Nat.reduceLT, Nat.reduceLeDiff, Nat.reduceEqDiff, Nat.zero_add, Nat.lt_add_one, Nat.zero_ne_one, Nat.succ_ne_self, List.length_cons, List.length_nil, true_and, and_true, true_or, or_true, false_or, or_false, false_implies, true_implies, implies_true, not_true_eq_false, not_false_eq_true, ne_eq, eq_self, e_M_tellsHere, pm_okW_0, pm_okW_i, pm_okW_r, pm_okW_l, pm_ent_0, pm_ent_i, pm_ent_r, pm_ent_l, List.reduceReplicate, b_M_tellsHere_0, b_M_tellsHere_17, b_M_tellsHere_29, f_aloadn0, f_aloadn2, iv_118_101_85, kk_n, kk_s, iv_118_95_85, w_istore3, pm_lset_0, pm_lset_1, pm_lset_n, pm_no2_n, pm_no2_i, pm_no2_r, pm_no2_l, gf_118_51_85, w_if_ne, pm_tgt_is, Int.cast_ofNat_Int, Int.reduceNeg, Int.reduceAdd, Int.reduceToNat, Int.zero_add, Int.zero_le_ofNat, Int.reduceLE, nz_1, nz_m1, if_true, if_false, gf_118_9_85, f_iloadn1, gf_118_72_85, w_iadd, f_iloadn3, w_ret, hs_85, w2_86, w2_85, w2_u86, w2_u85, g5_0, g5_1, g5_2, g5_3, g5_4, g5_5, g5_6, g5_7, g5_8, g5_9, g5_10, g5_11, f5_f, w5_109_0, w5_109_1, w5_111_0, w5_111_1, w5_114_0, w5_114_1, w5_119_0, w5_119_1, e1, q1, c_figures_w]
    rfl
theorem lcl_all : (([(102, 48), (113, 36), (114, 59)] : List (Int × Int)).zip (List.drop 1 ([(102, 48), (113, 36), (114, 59)] : List (Int × Int)))).all (fun x => decide (x.1.1 < x.2.1)) = true := by decide
theorem lcl_102 : Op.lookupswitch.offset ([(102, 48), (113, 36), (114, 59)] : List (Int × Int)) 71 (102 : Int32).toInt = 48 := by decide
theorem lcl_113 : Op.lookupswitch.offset ([(102, 48), (113, 36), (114, 59)] : List (Int × Int)) 71 (113 : Int32).toInt = 36 := by decide
theorem lcl_114 : Op.lookupswitch.offset ([(102, 48), (113, 36), (114, 59)] : List (Int × Int)) 71 (114 : Int32).toInt = 59 := by decide
theorem lcl_no {x : Int32} (a : ¬ x = 102) (b : ¬ x = 113) (c : ¬ x = 114) : Op.lookupswitch.offset ([(102, 48), (113, 36), (114, 59)] : List (Int × Int)) 71 x.toInt = 71 := by
  have f : ∀ (k : Int) (y : Int32), y.toInt = k → ¬ x = y → ¬ k = x.toInt := fun k y hk h e => h (Int32.toInt_inj.mp (by rw [hk]; exact e.symm))
  rw [Op.lookupswitch.offset_cons, if_neg (f 102 102 (by decide) a), Op.lookupswitch.offset_cons, if_neg (f 113 113 (by decide) b), Op.lookupswitch.offset_cons, if_neg (f 114 114 (by decide) c), Op.lookupswitch.offset_nil]
theorem sCl_none {ac mn : Nat} {s : List Int32} {r : bC} (h : r.2.2.2 = none) : sCl ac s mn r = emL ac s mn r.2.2.1 := by unfold sCl; rw [h]
theorem vt_none (T : Nat → Int32) (W : List Int32) (b : Int32) (p : Nat) : (vtS T W b p).2.2.2 = none := by
  unfold vtS
  split
  · split
    · split <;> rfl
    · rfl
  · rfl
theorem c_M_clause {d sp mn ac en : Nat} {T : Nat → Int32} {h : Nat → List Int32} {s A : List Int32} {K : Option Value → pm_S → Prop} (H : RH T en ac A s mn) (hsp : sp ≤ en) (hm : mn ≤ sp) : pm_WC fqP (d + 31) 119 [.ref 85] (mk (W2 h s (F5 A (nI sp) 0 0))) K = K none (mk (W2 h (sCl ac s mn (clS T sp)) (F5 A (nI (clS T sp).2.1) (bI (!(clS T sp).1)) 0))) := by
  have h10 := H.1.1
  have e0 := fun K => @c_here (d + 29) sp mn ac en T h s A K 0 0 H (by omega)
  unfold clS
  by_cases q1 : T sp = 113
  · have e1 := fun K => @c_M_tells d sp mn ac en T h s A K H hsp
    rw [if_pos q1]
    rw [q1] at e0
    simp (maxDischargeDepth := 20) (maxSteps := 2000000) only [↓reduceIte, pm_WL_nil, bi_900, bi_901, bi_904, bi_905, pm_lget_0, pm_lget_s, pm_oI_s, pm_oA_s, pm_oJ_s, pm_oK_s, pm_oR_s, pm_oO_s, pm_oN_s, pm_oF_s, pm_oM_s, pm_oP_s, pm_pu_n, pm_pu_s, pm_bo_ne, pm_bo_eq, Nat.reduceAdd, Nat.reduceSub, Nat.reduceLT, Nat.reduceLeDiff, Nat.reduceEqDiff, Nat.zero_add, Nat.lt_add_one, Nat.zero_ne_one, Nat.succ_ne_self, List.length_cons, List.length_nil, true_and, and_true, true_or, or_true, false_or, or_false, false_implies, true_implies, implies_true, not_true_eq_false, not_false_eq_true, ne_eq, eq_self, e_M_clauseHere, pm_okW_0, pm_okW_i, pm_okW_r, pm_okW_l, pm_ent_0, pm_ent_i, pm_ent_r, pm_ent_l, List.reduceReplicate, b_M_clauseHere_0, b_M_clauseHere_40, b_M_clauseHere_52, b_M_clauseHere_63, b_M_clauseHere_75, b_M_clauseHere_80, f_aloadn0, iv_119_55_85, kk_n, kk_s, w_look, pm_tgt_is, Int.cast_ofNat_Int, Int.reduceNeg, Int.reduceAdd, Int.reduceToNat, Int.zero_add, Int.zero_le_ofNat, Int.reduceLE, w_sipush, ks_224, w_ldc, lg_119, lk_8_105, pm_oC_i, pm_oC_r, iv_119_107_85, w_goto, w_bipush, kb_m10, lk_8_111, iv_119_113_85, ks_m200, lk_8_116, w_iconst, ki_1, pf_119_51_85, pm_fit_b, pm_fit_0, pm_fit_1, w_ret, hs_85, w2_86, w2_85, w2_u86, w2_u85, g5_0, g5_1, g5_2, g5_3, g5_4, g5_5, g5_6, g5_7, g5_8, g5_9, g5_10, g5_11, f5_f, w5_109_0, w5_109_1, w5_111_0, w5_111_1, w5_114_0, w5_114_1, w5_119_0, w5_119_1, e0, lcl_all, lcl_113, e1]
  · rw [if_neg q1]
    by_cases q2 : T sp = 102
    · have e1 := fun K => @c_M_much d sp mn ac en 1001 T h s A wwf (-10) K H hsp hm (Or.inr (Or.inl rfl)) tx_1001
      rw [if_pos q2, sCl_none (vt_none _ _ _ _)]
      rw [q2] at e0
      simp (maxDischargeDepth := 20) (maxSteps := 2000000) only [↓reduceIte, pm_WL_nil, bi_900, bi_901, bi_904, bi_905, pm_lget_0, pm_lget_s, pm_oI_s, pm_oA_s, pm_oJ_s, pm_oK_s, pm_oR_s, pm_oO_s, pm_oN_s, pm_oF_s, pm_oM_s, pm_oP_s, pm_pu_n, pm_pu_s, pm_bo_ne, pm_bo_eq, Nat.reduceAdd, Nat.reduceSub, Nat.reduceLT, Nat.reduceLeDiff, Nat.reduceEqDiff, Nat.zero_add, Nat.lt_add_one, Nat.zero_ne_one, Nat.succ_ne_self, List.length_cons, List.length_nil, true_and, and_true, true_or, or_true, false_or, or_false, false_implies, true_implies, implies_true, not_true_eq_false, not_false_eq_true, ne_eq, eq_self, e_M_clauseHere, pm_okW_0, pm_okW_i, pm_okW_r, pm_okW_l, pm_ent_0, pm_ent_i, pm_ent_r, pm_ent_l, List.reduceReplicate, b_M_clauseHere_0, b_M_clauseHere_40, b_M_clauseHere_52, b_M_clauseHere_63, b_M_clauseHere_75, b_M_clauseHere_80, f_aloadn0, iv_119_55_85, kk_n, kk_s, w_look, pm_tgt_is, Int.cast_ofNat_Int, Int.reduceNeg, Int.reduceAdd, Int.reduceToNat, Int.zero_add, Int.zero_le_ofNat, Int.reduceLE, w_sipush, ks_224, w_ldc, lg_119, lk_8_105, pm_oC_i, pm_oC_r, iv_119_107_85, w_goto, w_bipush, kb_m10, lk_8_111, iv_119_113_85, ks_m200, lk_8_116, w_iconst, ki_1, pf_119_51_85, pm_fit_b, pm_fit_0, pm_fit_1, w_ret, hs_85, w2_86, w2_85, w2_u86, w2_u85, g5_0, g5_1, g5_2, g5_3, g5_4, g5_5, g5_6, g5_7, g5_8, g5_9, g5_10, g5_11, f5_f, w5_109_0, w5_109_1, w5_111_0, w5_111_1, w5_114_0, w5_114_1, w5_119_0, w5_119_1, e0, lcl_all, lcl_102, e1]
    · rw [if_neg q2]
      by_cases q3 : T sp = 114
      · have e1 := fun K => @c_M_much d sp mn ac en 1002 T h s A wwr (-200) K H hsp hm (Or.inr (Or.inr rfl)) tx_1002
        rw [if_pos q3, sCl_none (vt_none _ _ _ _)]
        rw [q3] at e0
        simp (maxDischargeDepth := 20) (maxSteps := 2000000) only [↓reduceIte, pm_WL_nil, bi_900, bi_901, bi_904, bi_905, pm_lget_0, pm_lget_s, pm_oI_s, pm_oA_s, pm_oJ_s, pm_oK_s, pm_oR_s, pm_oO_s, pm_oN_s, pm_oF_s, pm_oM_s, pm_oP_s, pm_pu_n, pm_pu_s, pm_bo_ne, pm_bo_eq, Nat.reduceAdd, Nat.reduceSub, Nat.reduceLT, Nat.reduceLeDiff, Nat.reduceEqDiff, Nat.zero_add, Nat.lt_add_one, Nat.zero_ne_one, Nat.succ_ne_self, List.length_cons, List.length_nil, true_and, and_true, true_or, or_true, false_or, or_false, false_implies, true_implies, implies_true, not_true_eq_false, not_false_eq_true, ne_eq, eq_self, e_M_clauseHere, pm_okW_0, pm_okW_i, pm_okW_r, pm_okW_l, pm_ent_0, pm_ent_i, pm_ent_r, pm_ent_l, List.reduceReplicate, b_M_clauseHere_0, b_M_clauseHere_40, b_M_clauseHere_52, b_M_clauseHere_63, b_M_clauseHere_75, b_M_clauseHere_80, f_aloadn0, iv_119_55_85, kk_n, kk_s, w_look, pm_tgt_is, Int.cast_ofNat_Int, Int.reduceNeg, Int.reduceAdd, Int.reduceToNat, Int.zero_add, Int.zero_le_ofNat, Int.reduceLE, w_sipush, ks_224, w_ldc, lg_119, lk_8_105, pm_oC_i, pm_oC_r, iv_119_107_85, w_goto, w_bipush, kb_m10, lk_8_111, iv_119_113_85, ks_m200, lk_8_116, w_iconst, ki_1, pf_119_51_85, pm_fit_b, pm_fit_0, pm_fit_1, w_ret, hs_85, w2_86, w2_85, w2_u86, w2_u85, g5_0, g5_1, g5_2, g5_3, g5_4, g5_5, g5_6, g5_7, g5_8, g5_9, g5_10, g5_11, f5_f, w5_109_0, w5_109_1, w5_111_0, w5_111_1, w5_114_0, w5_114_1, w5_119_0, w5_119_1, e0, lcl_all, lcl_114, e1]
      · have ln := lcl_no q2 q1 q3
        rw [if_neg q3]
        simp (maxDischargeDepth := 20) (maxSteps := 2000000) only [↓reduceIte, pm_WL_nil, bi_900, bi_901, bi_904, bi_905, pm_lget_0, pm_lget_s, pm_oI_s, pm_oA_s, pm_oJ_s, pm_oK_s, pm_oR_s, pm_oO_s, pm_oN_s, pm_oF_s, pm_oM_s, pm_oP_s, pm_pu_n, pm_pu_s, pm_bo_ne, pm_bo_eq, Nat.reduceAdd, Nat.reduceSub, Nat.reduceLT, Nat.reduceLeDiff, Nat.reduceEqDiff, Nat.zero_add, Nat.lt_add_one, Nat.zero_ne_one, Nat.succ_ne_self, List.length_cons, List.length_nil, true_and, and_true, true_or, or_true, false_or, or_false, false_implies, true_implies, implies_true, not_true_eq_false, not_false_eq_true, ne_eq, eq_self, e_M_clauseHere, pm_okW_0, pm_okW_i, pm_okW_r, pm_okW_l, pm_ent_0, pm_ent_i, pm_ent_r, pm_ent_l, List.reduceReplicate, b_M_clauseHere_0, b_M_clauseHere_40, b_M_clauseHere_52, b_M_clauseHere_63, b_M_clauseHere_75, b_M_clauseHere_80, f_aloadn0, iv_119_55_85, kk_n, kk_s, w_look, pm_tgt_is, Int.cast_ofNat_Int, Int.reduceNeg, Int.reduceAdd, Int.reduceToNat, Int.zero_add, Int.zero_le_ofNat, Int.reduceLE, w_sipush, ks_224, w_ldc, lg_119, lk_8_105, pm_oC_i, pm_oC_r, iv_119_107_85, w_goto, w_bipush, kb_m10, lk_8_111, iv_119_113_85, ks_m200, lk_8_116, w_iconst, ki_1, pf_119_51_85, pm_fit_b, pm_fit_0, pm_fit_1, w_ret, hs_85, w2_86, w2_85, w2_u86, w2_u85, g5_0, g5_1, g5_2, g5_3, g5_4, g5_5, g5_6, g5_7, g5_8, g5_9, g5_10, g5_11, f5_f, w5_109_0, w5_109_1, w5_111_0, w5_111_1, w5_114_0, w5_114_1, w5_119_0, w5_119_1, e0, lcl_all, ln]
        rfl
theorem emL_len (ac : Nat) : ∀ (L s : List Int32) (mn : Nat), (emL ac s mn L).length = s.length
  | [], s, mn => rfl
  | x :: L, s, mn => by rw [emL, emL_len ac L]; unfold em1; rw [len_set, len_set]
theorem emL_gd (ac : Nat) : ∀ (L s : List Int32) (mn i : Nat), s.length = 934 → 234 + 140 * ac + mn + L.length ≤ 934 → 229 + ac < 234 → ¬ i = 229 + ac → gd (emL ac s mn L) i = if 234 + 140 * ac + mn ≤ i ∧ i < 234 + 140 * ac + mn + L.length then gd L (i - (234 + 140 * ac + mn)) else gd s i
  | [], s, mn, i, _, _, _, _ => by rw [if_neg (fun q => by have := q.2; simp only [List.length_nil] at this; omega)]; rfl
  | x :: L, s, mn, i, hs, hl, ha, hi => by
    rw [List.length_cons] at hl ⊢
    have h1 : (em1 ac s mn x).length = 934 := by unfold em1; rw [len_set, len_set, hs]
    rw [emL, emL_gd ac L (em1 ac s mn x) (mn + 1) i h1 (by omega) ha hi]
    by_cases c : i = 234 + 140 * ac + mn
    · rw [if_neg (by omega), if_pos (by omega)]
      unfold em1
      rw [gd_ne hi, c, gd_eq (by omega), Nat.sub_self]; rfl
    · by_cases c2 : 234 + 140 * ac + mn ≤ i ∧ i < 234 + 140 * ac + mn + (L.length + 1)
      · rw [if_pos c2, if_pos (by omega), show i - (234 + 140 * ac + mn) = (i - (234 + 140 * ac + (mn + 1))) + 1 by omega]; rfl
      · rw [if_neg c2, if_neg (by omega)]
        unfold em1
        rw [gd_ne hi, gd_ne c]
/-- what the reference has read so far -/
def PB (ac : Nat) (s0 s : List Int32) (L : List Int32) (q : Nat) : Prop := s.length = 934 ∧ (∀ i, i < 234 → ¬ i = 224 + ac → ¬ i = 229 + ac → gd s i = gd s0 i) ∧ (∀ i, 234 ≤ i → ¬ (234 + 140 * ac ≤ i ∧ i < 234 + 140 * ac + 140) → gd s i = gd s0 i) ∧ (∀ j, j < L.length → gd s (234 + 140 * ac + j) = gd L j) ∧ gd s (224 + ac) = nI q ∧ q < 100 ∧ gd s (229 + ac) = nI L.length ∧ L.length ≤ 140
theorem pb_cl {T : Nat → Int32} {en ac p q : Nat} {A s0 s L : List Int32} {r : bC} (H : RH T en ac A s L.length) (hb : PB ac s0 s L q) (hr : CLB en p r) (hL : L.length ≤ p) : RH T en ac A (sCl ac s L.length r) (L ++ r.2.2.1).length ∧ PB ac s0 (sCl ac s L.length r) (L ++ r.2.2.1) (qo q r) := by
  obtain ⟨b1, b2, b3, b4, b5, b6, b7, b8⟩ := hb
  obtain ⟨c1, c2, c3, c4, c5⟩ := hr
  have hac := H.2.2.1
  have h10 := H.1.1
  cases e : r.2.2.2 with
  | none =>
    have eq0 : qo q r = q := by unfold qo; rw [e]; rfl
    rw [sCl_none e, List.length_append, eq0]
    have H2 := rh_emL r.2.2.1 s L.length H (by omega)
    have g := fun i hi => emL_gd ac r.2.2.1 s L.length i b1 (by omega) (by omega) hi
    refine ⟨H2, by rw [emL_len, b1], fun i h1 h2 h3 => ?_, fun i h1 h2 => ?_, fun j hj => ?_, ?_, b6, ?_, by rw [List.length_append]; omega⟩
    · rw [g i h3, if_neg (by omega)]; exact b2 i h1 h2 h3
    · rw [g i (by omega), if_neg (by omega)]; exact b3 i h1 h2
    · rw [List.length_append] at hj
      rw [g _ (by omega)]
      by_cases z : j < L.length
      · rw [if_neg (by omega), b4 j z]
        unfold gd; rw [List.getD_eq_getElem?_getD, List.getD_eq_getElem?_getD, List.getElem?_append_left z]
      · rw [if_pos (by omega)]
        unfold gd; rw [List.getD_eq_getElem?_getD, List.getD_eq_getElem?_getD, List.getElem?_append_right (by omega)]
        congr 2; omega
    · rw [g _ (by omega), if_neg (by omega), b5]
    · rw [List.length_append]; exact H2.2.2.2.2.2.2
  | some v =>
    obtain ⟨v1, v2⟩ := c5 v e
    have eq0 : qo q r = v := by unfold qo; rw [e]; rfl
    have es : sCl ac s L.length r = s.set (224 + ac) (nI v) := by unfold sCl; rw [e]
    obtain ⟨h1, h2, h3, h4, h5, h6, h7⟩ := H
    rw [es, v2, List.append_nil, eq0]
    refine ⟨⟨h1, h2, h3, h4, by rw [len_set, h5], fun p hp => by rw [gd_ne (by omega)]; exact h6 p hp, by rw [gd_ne (by omega)]; exact h7⟩, by rw [len_set, b1], fun i i1 i2 i3 => by rw [gd_ne i2]; exact b2 i i1 i2 i3, fun i i1 i2 => by rw [gd_ne (by omega)]; exact b3 i i1 i2, fun j hj => by rw [gd_ne (by omega)]; exact b4 j hj, gd_eq (by omega), v1, by rw [gd_ne (by omega)]; exact b7, b8⟩
theorem c_M_clauses {d ac en : Nat} {T : Nat → Int32} {h : Nat → List Int32} {s0 A : List Int32} {Q : Option Value → pm_S → Prop} : ∀ (k nn p q : Nat) (s L : List Int32), nn + k = 10 → 1 ≤ nn → RH T en ac A s L.length → PB ac s0 s L q → L.length ≤ p → p ≤ en → (∀ (n2 : Nat) (s2 : List Int32), PB ac s0 s2 (L ++ (brM T (k + 1) p q).2.2.1) (brM T (k + 1) p q).2.2.2 → pm_W fqP (d + 31) 120 135 [some (.ref 85), some (.int (nI n2))] [] (mk (W2 h s2 (F5 A (nI (brM T (k + 1) p q).2.1) (bI (!(brM T (k + 1) p q).1)) 0))) Q) → pm_W fqP (d + 31) 120 93 [some (.ref 85), some (.int (nI nn))] [] (mk (W2 h (sCl ac s L.length (clS T p)) (F5 A (nI (clS T p).2.1) (bI (!(clS T p).1)) 0))) Q := by
  intro k
  induction k with
  | zero =>
    intro nn p q s L hn h1 H hb hL hp hQ
    have cb := cl_b H.1 hp
    obtain ⟨H2, hb2⟩ := pb_cl H hb cb hL
    rw [brM, if_neg (by omega)] at hQ
    rw [b_M_bar_93]
    by_cases o : (clS T p).1 = true
    · have o1 : bI (!(clS T p).1) = 0 := by rw [o]; rfl
      have e1 : ((10 : Int32) ≤ nI nn) = True := by rw [li_le 10 nn (by omega) (by omega)]; exact eq_true (by omega)
      have := hQ nn _ hb2
      simp only [o1] at this ⊢
      simp (maxDischargeDepth := 20) (maxSteps := 2000000) only [↓reduceIte, pm_WL_nil, bi_900, bi_901, bi_904, bi_905, pm_lget_0, pm_lget_s, pm_oI_s, pm_oA_s, pm_oJ_s, pm_oK_s, pm_oR_s, pm_oO_s, pm_oN_s, pm_oF_s, pm_oM_s, pm_oP_s, pm_pu_n, pm_pu_s, pm_bo_ne, pm_bo_eq, Nat.reduceAdd, Nat.reduceSub, Nat.reduceLT, Nat.reduceLeDiff, Nat.reduceEqDiff, Nat.zero_add, Nat.lt_add_one, Nat.zero_ne_one, Nat.succ_ne_self, List.length_cons, List.length_nil, true_and, and_true, true_or, or_true, false_or, or_false, false_implies, true_implies, implies_true, not_true_eq_false, not_false_eq_true, ne_eq, eq_self, e_M_bar, pm_okW_0, pm_okW_i, pm_okW_r, pm_okW_l, pm_ent_0, pm_ent_i, pm_ent_r, pm_ent_l, List.reduceReplicate, b_M_bar_0, b_M_bar_11, b_M_bar_14, b_M_bar_100, b_M_bar_106, b_M_bar_115, b_M_bar_142, b_M_bar_153, b_M_bar_161, f_aloadn0, gf_120_9_85, w_bipush, kb_23, w_iconst, ki_5, w_icmp_ne, pm_tgt_is, Int.cast_ofNat_Int, Int.reduceNeg, Int.reduceAdd, Int.reduceToNat, Int.zero_add, Int.zero_le_ofNat, Int.reduceLE, if_true, if_false, kb_m4, w_iret, lg_120, pm_fit_b, pm_fit_0, pm_fit_1, Bool.false_eq_true, pf_120_72_85, kb_28, pf_120_48_85, ki_0, w_sipush, ks_224, gf_120_72_85, w_iadd, ki_2, ks_229, pf_120_45_85, pf_120_51_85, pf_120_75_85, ki_1, w_istore1, pm_lset_0, pm_lset_1, pm_lset_n, pm_no2_n, pm_no2_i, pm_no2_r, pm_no2_l, iv_120_118_85, kk_n, kk_s, gf_120_51_85, w_if_ne, nz_1, nz_m1, f_iloadn1, kb_10, w_icmp_ge, iv_120_55_85, kb_59, w_dupi, w_dupa, gf_120_45_85, f_iinc1, w_goto, gf_120_48_85, w_icmp_eq, kb_m10, w_isub, w_dup2i, w_dup2a, kb_29, hs_85, w2_86, w2_85, w2_u86, w2_u85, g5_0, g5_1, g5_2, g5_3, g5_4, g5_5, g5_6, g5_7, g5_8, g5_9, g5_10, g5_11, f5_f, w5_109_0, w5_109_1, w5_111_0, w5_111_1, w5_114_0, w5_114_1, w5_119_0, w5_119_1, e1]
      exact this
    · have o1 : bI (!(clS T p).1) = 1 := by rw [show (clS T p).1 = false by simpa using o]; rfl
      have := hQ nn _ hb2
      simp only [o1] at this ⊢
      simp (maxDischargeDepth := 20) (maxSteps := 2000000) only [↓reduceIte, pm_WL_nil, bi_900, bi_901, bi_904, bi_905, pm_lget_0, pm_lget_s, pm_oI_s, pm_oA_s, pm_oJ_s, pm_oK_s, pm_oR_s, pm_oO_s, pm_oN_s, pm_oF_s, pm_oM_s, pm_oP_s, pm_pu_n, pm_pu_s, pm_bo_ne, pm_bo_eq, Nat.reduceAdd, Nat.reduceSub, Nat.reduceLT, Nat.reduceLeDiff, Nat.reduceEqDiff, Nat.zero_add, Nat.lt_add_one, Nat.zero_ne_one, Nat.succ_ne_self, List.length_cons, List.length_nil, true_and, and_true, true_or, or_true, false_or, or_false, false_implies, true_implies, implies_true, not_true_eq_false, not_false_eq_true, ne_eq, eq_self, e_M_bar, pm_okW_0, pm_okW_i, pm_okW_r, pm_okW_l, pm_ent_0, pm_ent_i, pm_ent_r, pm_ent_l, List.reduceReplicate, b_M_bar_0, b_M_bar_11, b_M_bar_14, b_M_bar_100, b_M_bar_106, b_M_bar_115, b_M_bar_142, b_M_bar_153, b_M_bar_161, f_aloadn0, gf_120_9_85, w_bipush, kb_23, w_iconst, ki_5, w_icmp_ne, pm_tgt_is, Int.cast_ofNat_Int, Int.reduceNeg, Int.reduceAdd, Int.reduceToNat, Int.zero_add, Int.zero_le_ofNat, Int.reduceLE, if_true, if_false, kb_m4, w_iret, lg_120, pm_fit_b, pm_fit_0, pm_fit_1, Bool.false_eq_true, pf_120_72_85, kb_28, pf_120_48_85, ki_0, w_sipush, ks_224, gf_120_72_85, w_iadd, ki_2, ks_229, pf_120_45_85, pf_120_51_85, pf_120_75_85, ki_1, w_istore1, pm_lset_0, pm_lset_1, pm_lset_n, pm_no2_n, pm_no2_i, pm_no2_r, pm_no2_l, iv_120_118_85, kk_n, kk_s, gf_120_51_85, w_if_ne, nz_1, nz_m1, f_iloadn1, kb_10, w_icmp_ge, iv_120_55_85, kb_59, w_dupi, w_dupa, gf_120_45_85, f_iinc1, w_goto, gf_120_48_85, w_icmp_eq, kb_m10, w_isub, w_dup2i, w_dup2a, kb_29, hs_85, w2_86, w2_85, w2_u86, w2_u85, g5_0, g5_1, g5_2, g5_3, g5_4, g5_5, g5_6, g5_7, g5_8, g5_9, g5_10, g5_11, f5_f, w5_109_0, w5_109_1, w5_111_0, w5_111_1, w5_114_0, w5_114_1, w5_119_0, w5_119_1]
      exact this
  | succ k ih =>
    intro nn p q s L hn h1 H hb hL hp hQ
    have hT := H.1
    have h10 := hT.1
    have cb := cl_b H.1 hp
    obtain ⟨H2, hb2⟩ := pb_cl H hb cb hL
    obtain ⟨c1, c2, c3, c4, c5⟩ := cb
    rw [b_M_bar_93]
    by_cases o : (clS T p).1 = true
    · have c6 := c4 o
      have o1 : bI (!(clS T p).1) = 0 := by rw [o]; rfl
      have e1 : ((10 : Int32) ≤ nI nn) = False := by rw [li_le 10 nn (by omega) (by omega)]; exact eq_false (by omega)
      have e0 := fun y K => @c_here (d + 30) (clS T p).2.1 _ ac en T h _ A K y 0 H2 (by omega)
      by_cases z : T (clS T p).2.1 = 59
      · have lt := tp_lt (c := 59) hT (by omega) z
        have z1 := eq_true z
        have e2 := fun K => @c_M_clause d ((clS T p).2.1 + 1) _ ac en T h _ A K H2 (by omega) (by rw [List.length_append]; omega)
        rw [brM, if_pos ⟨o, z, by omega⟩] at hQ
        simp only [o1]
        simp (maxDischargeDepth := 20) (maxSteps := 2000000) only [↓reduceIte, pm_WL_nil, bi_900, bi_901, bi_904, bi_905, pm_lget_0, pm_lget_s, pm_oI_s, pm_oA_s, pm_oJ_s, pm_oK_s, pm_oR_s, pm_oO_s, pm_oN_s, pm_oF_s, pm_oM_s, pm_oP_s, pm_pu_n, pm_pu_s, pm_bo_ne, pm_bo_eq, Nat.reduceAdd, Nat.reduceSub, Nat.reduceLT, Nat.reduceLeDiff, Nat.reduceEqDiff, Nat.zero_add, Nat.lt_add_one, Nat.zero_ne_one, Nat.succ_ne_self, List.length_cons, List.length_nil, true_and, and_true, true_or, or_true, false_or, or_false, false_implies, true_implies, implies_true, not_true_eq_false, not_false_eq_true, ne_eq, eq_self, e_M_bar, pm_okW_0, pm_okW_i, pm_okW_r, pm_okW_l, pm_ent_0, pm_ent_i, pm_ent_r, pm_ent_l, List.reduceReplicate, b_M_bar_0, b_M_bar_11, b_M_bar_14, b_M_bar_100, b_M_bar_106, b_M_bar_115, b_M_bar_142, b_M_bar_153, b_M_bar_161, f_aloadn0, gf_120_9_85, w_bipush, kb_23, w_iconst, ki_5, w_icmp_ne, pm_tgt_is, Int.cast_ofNat_Int, Int.reduceNeg, Int.reduceAdd, Int.reduceToNat, Int.zero_add, Int.zero_le_ofNat, Int.reduceLE, if_true, if_false, kb_m4, w_iret, lg_120, pm_fit_b, pm_fit_0, pm_fit_1, Bool.false_eq_true, pf_120_72_85, kb_28, pf_120_48_85, ki_0, w_sipush, ks_224, gf_120_72_85, w_iadd, ki_2, ks_229, pf_120_45_85, pf_120_51_85, pf_120_75_85, ki_1, w_istore1, pm_lset_0, pm_lset_1, pm_lset_n, pm_no2_n, pm_no2_i, pm_no2_r, pm_no2_l, iv_120_118_85, kk_n, kk_s, gf_120_51_85, w_if_ne, nz_1, nz_m1, f_iloadn1, kb_10, w_icmp_ge, iv_120_55_85, kb_59, w_dupi, w_dupa, gf_120_45_85, f_iinc1, w_goto, gf_120_48_85, w_icmp_eq, kb_m10, w_isub, w_dup2i, w_dup2a, kb_29, hs_85, w2_86, w2_85, w2_u86, w2_u85, g5_0, g5_1, g5_2, g5_3, g5_4, g5_5, g5_6, g5_7, g5_8, g5_9, g5_10, g5_11, f5_f, w5_109_0, w5_109_1, w5_111_0, w5_111_1, w5_114_0, w5_114_1, w5_119_0, w5_119_1, e1, e0, z1, e2, ni_1]
        refine ih (nn + 1) _ _ _ _ (by omega) (by omega) H2 hb2 (by rw [List.length_append]; omega) (by omega) ?_
        intro n2 s2 hs2
        rw [List.append_assoc] at hs2
        exact hQ n2 s2 hs2
      · have z1 := eq_false z
        rw [brM, if_neg (fun y => z y.2.1)] at hQ
        have := hQ nn _ hb2
        simp only [o1] at this ⊢
        simp (maxDischargeDepth := 20) (maxSteps := 2000000) only [↓reduceIte, pm_WL_nil, bi_900, bi_901, bi_904, bi_905, pm_lget_0, pm_lget_s, pm_oI_s, pm_oA_s, pm_oJ_s, pm_oK_s, pm_oR_s, pm_oO_s, pm_oN_s, pm_oF_s, pm_oM_s, pm_oP_s, pm_pu_n, pm_pu_s, pm_bo_ne, pm_bo_eq, Nat.reduceAdd, Nat.reduceSub, Nat.reduceLT, Nat.reduceLeDiff, Nat.reduceEqDiff, Nat.zero_add, Nat.lt_add_one, Nat.zero_ne_one, Nat.succ_ne_self, List.length_cons, List.length_nil, true_and, and_true, true_or, or_true, false_or, or_false, false_implies, true_implies, implies_true, not_true_eq_false, not_false_eq_true, ne_eq, eq_self, e_M_bar, pm_okW_0, pm_okW_i, pm_okW_r, pm_okW_l, pm_ent_0, pm_ent_i, pm_ent_r, pm_ent_l, List.reduceReplicate, b_M_bar_0, b_M_bar_11, b_M_bar_14, b_M_bar_100, b_M_bar_106, b_M_bar_115, b_M_bar_142, b_M_bar_153, b_M_bar_161, f_aloadn0, gf_120_9_85, w_bipush, kb_23, w_iconst, ki_5, w_icmp_ne, pm_tgt_is, Int.cast_ofNat_Int, Int.reduceNeg, Int.reduceAdd, Int.reduceToNat, Int.zero_add, Int.zero_le_ofNat, Int.reduceLE, if_true, if_false, kb_m4, w_iret, lg_120, pm_fit_b, pm_fit_0, pm_fit_1, Bool.false_eq_true, pf_120_72_85, kb_28, pf_120_48_85, ki_0, w_sipush, ks_224, gf_120_72_85, w_iadd, ki_2, ks_229, pf_120_45_85, pf_120_51_85, pf_120_75_85, ki_1, w_istore1, pm_lset_0, pm_lset_1, pm_lset_n, pm_no2_n, pm_no2_i, pm_no2_r, pm_no2_l, iv_120_118_85, kk_n, kk_s, gf_120_51_85, w_if_ne, nz_1, nz_m1, f_iloadn1, kb_10, w_icmp_ge, iv_120_55_85, kb_59, w_dupi, w_dupa, gf_120_45_85, f_iinc1, w_goto, gf_120_48_85, w_icmp_eq, kb_m10, w_isub, w_dup2i, w_dup2a, kb_29, hs_85, w2_86, w2_85, w2_u86, w2_u85, g5_0, g5_1, g5_2, g5_3, g5_4, g5_5, g5_6, g5_7, g5_8, g5_9, g5_10, g5_11, f5_f, w5_109_0, w5_109_1, w5_111_0, w5_111_1, w5_114_0, w5_114_1, w5_119_0, w5_119_1, e1, e0, z1]
        exact this
    · have o1 : bI (!(clS T p).1) = 1 := by rw [show (clS T p).1 = false by simpa using o]; rfl
      rw [brM, if_neg (fun y => o y.1)] at hQ
      have := hQ nn _ hb2
      simp only [o1] at this ⊢
      simp (maxDischargeDepth := 20) (maxSteps := 2000000) only [↓reduceIte, pm_WL_nil, bi_900, bi_901, bi_904, bi_905, pm_lget_0, pm_lget_s, pm_oI_s, pm_oA_s, pm_oJ_s, pm_oK_s, pm_oR_s, pm_oO_s, pm_oN_s, pm_oF_s, pm_oM_s, pm_oP_s, pm_pu_n, pm_pu_s, pm_bo_ne, pm_bo_eq, Nat.reduceAdd, Nat.reduceSub, Nat.reduceLT, Nat.reduceLeDiff, Nat.reduceEqDiff, Nat.zero_add, Nat.lt_add_one, Nat.zero_ne_one, Nat.succ_ne_self, List.length_cons, List.length_nil, true_and, and_true, true_or, or_true, false_or, or_false, false_implies, true_implies, implies_true, not_true_eq_false, not_false_eq_true, ne_eq, eq_self, e_M_bar, pm_okW_0, pm_okW_i, pm_okW_r, pm_okW_l, pm_ent_0, pm_ent_i, pm_ent_r, pm_ent_l, List.reduceReplicate, b_M_bar_0, b_M_bar_11, b_M_bar_14, b_M_bar_100, b_M_bar_106, b_M_bar_115, b_M_bar_142, b_M_bar_153, b_M_bar_161, f_aloadn0, gf_120_9_85, w_bipush, kb_23, w_iconst, ki_5, w_icmp_ne, pm_tgt_is, Int.cast_ofNat_Int, Int.reduceNeg, Int.reduceAdd, Int.reduceToNat, Int.zero_add, Int.zero_le_ofNat, Int.reduceLE, if_true, if_false, kb_m4, w_iret, lg_120, pm_fit_b, pm_fit_0, pm_fit_1, Bool.false_eq_true, pf_120_72_85, kb_28, pf_120_48_85, ki_0, w_sipush, ks_224, gf_120_72_85, w_iadd, ki_2, ks_229, pf_120_45_85, pf_120_51_85, pf_120_75_85, ki_1, w_istore1, pm_lset_0, pm_lset_1, pm_lset_n, pm_no2_n, pm_no2_i, pm_no2_r, pm_no2_l, iv_120_118_85, kk_n, kk_s, gf_120_51_85, w_if_ne, nz_1, nz_m1, f_iloadn1, kb_10, w_icmp_ge, iv_120_55_85, kb_59, w_dupi, w_dupa, gf_120_45_85, f_iinc1, w_goto, gf_120_48_85, w_icmp_eq, kb_m10, w_isub, w_dup2i, w_dup2a, kb_29, hs_85, w2_86, w2_85, w2_u86, w2_u85, g5_0, g5_1, g5_2, g5_3, g5_4, g5_5, g5_6, g5_7, g5_8, g5_9, g5_10, g5_11, f5_f, w5_109_0, w5_109_1, w5_111_0, w5_111_1, w5_114_0, w5_114_1, w5_119_0, w5_119_1]
      exact this
/-! THE CLASS'S CLAUSES -/
theorem v4_u77 (h : Nat → List Int32) (a b c t : List Int32) : up (V4 h a b c) 77 t = V4 (up h 77 t) a b c := v4_up (by decide) (by decide) (by decide)
theorem v4_u78 (h : Nat → List Int32) (a b c t : List Int32) : up (V4 h a b c) 78 t = V4 (up h 78 t) a b c := v4_up (by decide) (by decide) (by decide)
theorem c_endClause {d i cs : Nat} {h : Nat → List Int32} {cd f75 : List Int32} {x q2 : Int32} {K : Option Value → pm_S → Prop} (h7 : (h 77).length = 10) (h8 : (h 78).length = 10) (hi : i < 10) : pm_WC fqP (d + 2) 5 [.ref 76, .int x] (mk (V4 h f75 [nI i, nI cs, q2] cd)) K = K none (mk (V4 (up (up h 77 ((h 77).set i x)) 78 ((h 78).set i (nI cs))) f75 [nI (i + 1), nI cs, q2] cd)) := by
  have e1 : pt (h 77) (nI i) x = (h 77).set i x := pt_n (by omega) (by omega)
  have e2 : pt (h 78) (nI i) (nI cs) = (h 78).set i (nI cs) := pt_n (by omega) (by omega)
  simp (maxDischargeDepth := 20) (maxSteps := 2000000) only [↓reduceIte, pm_WL_nil, bi_900, bi_901, bi_904, bi_905, pm_lget_0, pm_lget_s, pm_oI_s, pm_oA_s, pm_oJ_s, pm_oK_s, pm_oR_s, pm_oO_s, pm_oN_s, pm_oF_s, pm_oM_s, pm_oP_s, pm_pu_n, pm_pu_s, pm_bo_ne, pm_bo_eq, Nat.reduceAdd, Nat.reduceSub, Nat.reduceLT, Nat.reduceLeDiff, Nat.reduceEqDiff, Nat.zero_add, Nat.lt_add_one, Nat.zero_ne_one, Nat.succ_ne_self, List.length_cons, List.length_nil, true_and, and_true, true_or, or_true, false_or, or_false, false_implies, true_implies, implies_true, not_true_eq_false, not_false_eq_true, ne_eq, eq_self, e_Bar_endClause, pm_okW_0, pm_okW_i, pm_okW_r, pm_okW_l, pm_ent_0, pm_ent_i, pm_ent_r, pm_ent_l, List.reduceReplicate, b_Bar_endClause_0, f_aloadn0, gf_5_9_7, gf_5_9_35, gf_5_9_62, gf_5_9_76, gf_5_25_7, gf_5_25_35, gf_5_25_62, gf_5_25_76, f_iloadn1, iv_5_31, kk_n, kk_s, gf_5_15_7, gf_5_15_35, gf_5_15_62, gf_5_15_76, gf_5_28_7, gf_5_28_35, gf_5_28_62, gf_5_28_76, w_dupi, w_dupa, w_iconst, ki_1, w_iadd, pf_5_25_7, pf_5_25_35, pf_5_25_62, pf_5_25_76, pm_fit_b, pm_fit_0, pm_fit_1, w_ret, hs_76, f_iald_77, f_alen_77, ia_77, ar_77, f_iast_77, iw_77, hs_77, f_iald_78, f_alen_78, ia_78, ar_78, f_iast_78, iw_78, hs_78, up_at, up_ne, up_up, gd_0, gd_s, v4_75, v4_76, v4_79, v4_80, v4_u75, v4_u76, v4_u79, v4_77, v4_78, v4_u77, v4_u78, c_X_put, e1, e2, ni_1]
def CLP (cs cs' p : Nat) (r : bC) (x : Int32) (cd cd' : List Int32) : Prop := cd'.length = 100 ∧ cs ≤ cs' ∧ cs' + p ≤ cs + r.2.1 ∧ (∀ i, i < cs → gd cd' i = gd cd i) ∧ ∃ e : List Int32 → Bool, RAD r.2.2.1 (fun f => if e f = true then x else 0) ∧ ∀ cd2 : List Int32, (∀ i, cs ≤ i → i < cs' → gd cd2 i = gd cd' i) → ∀ f, (if chd cd2 f cs' 101 cs false = true then x else 0) = (if e f = true then x else 0)
theorem chd_end (cd f : List Int32) (to k : Nat) (is : Bool) : chd cd f to k to is = is := by
  cases k with
  | zero => rfl
  | succ k => rw [chd, if_neg (by omega)]
theorem k_vote {T : Nat → Int32} {d n p i cs q tx : Nat} {h : Nat → List Int32} {cd W : List Int32} {nm : Int32} {Q : Option Value → pm_S → Prop} (H : CH T n h) (hc : cd.length = 100) (hp : p ≤ n) (hcs : cs ≤ p) (h7 : (h 77).length = 10) (h8 : (h 78).length = 10) (hi : i < 10)
    (ch : (T p = 102 ∧ W = wwf ∧ tx = 1001) ∨ (¬ T p = 113 ∧ ¬ T p = 102 ∧ W = wwr ∧ tx = 1002)) (ht : TXT tx W) (rc : bC) (hrc : rc = if T p = 102 then vtS T wwf (-10) p else vtS T wwr (-200) p)
    (hF : rc.1 = false → ∀ (f76 : List Int32) (nm' : Int32) (cd' : List Int32), f76.length = 3 → cd'.length = 100 → Q (some (.int 0)) (mk (V4 h [nI rc.2.1, nI n, nm'] f76 cd')))
    (hT : rc.1 = true → ∀ (cs' : Nat) (nm' x : Int32) (cd' : List Int32), CLP cs cs' p rc x cd cd' → Q (some (.int 1)) (mk (V4 (up (up h 77 ((h 77).set i x)) 78 ((h 78).set i (nI cs'))) [nI rc.2.1, nI n, nm'] [nI (i + 1), nI cs', nI (qo q rc)] cd'))) :
    pm_WC fqP (d + 30) 15 [.ref 75] (mk (V4 h [nI p, nI n, nm] [nI i, nI cs, nI q] cd)) Q := by
  have hTE := H.1
  have h10 := hTE.1
  have hW : W = wwq ∨ W = wwf ∨ W = wwr := by rcases ch with ⟨_, e, _⟩ | ⟨_, _, e, _⟩ <;> simp [e]
  have n1 : (T p = 113) = False := by
    rcases ch with ⟨e, _, _⟩ | ⟨e, _, _, _⟩
    · rw [e]; exact eq_false (by decide)
    · exact eq_false e
  -- the road is the same for both words
  obtain ⟨b, hrc2, ex⟩ : ∃ b : Int32, rc = vtS T W b p ∧ ∀ v, v < 100 → (ez T 5 ((hdS T W p).2.1 + 1)).1 = true → RAD ((ez T 5 ((hdS T W p).2.1 + 1)).2.2 ++ [b - nI v]) (fun f => if evL f (ez T 5 ((hdS T W p).2.1 + 1)).2.2 = true then (if T p = 102 then nI v else -nI v) else 0) := by
    rcases ch with ⟨e, rfl, _⟩ | ⟨_, e, rfl, _⟩
    · refine ⟨-10, by rw [hrc, if_pos e], fun v hv o => ?_⟩
      simp only [e, if_true]; exact rad_f hTE hv o
    · refine ⟨-200, by rw [hrc, if_neg e], fun v hv o => ?_⟩
      simp only [e, if_false]; exact rad_r hTE hv o
  have n2 : ∃ c : Prop, ∃ _ : Decidable c, (T p = 102) = c ∧ True := ⟨_, inferInstance, rfl, trivial⟩
  have e0 := fun K => @c_sign (d + 28) p n cs T h cd nm (nI i) (nI q) K [nI i, nI cs, nI q] H (by omega)
  have e1 := fun K => @c_isWord (d + 23) p n cs T h cd nm (nI i) (nI q) K tx W [nI i, nI cs, nI q] H hp ht (ww_ok W hW)
  obtain ⟨w1, w2⟩ := wrd_b hTE W p (ww_mem W hW) hp
  have e2 := fun K => @c_isNumberNext (d + 27) (wrdS T W p).2 n cs T h cd nm (nI i) (nI q) K [nI i, nI cs, nI q] H (by omega)
  -- from the word on, whatever the way there
  have mid : pm_W fqP (d + 29) 15 29 [some (.ref 75), some (.int (T p)), none, none] [.ref tx] (mk (V4 h [nI p, nI n, nm] [nI i, nI cs, nI q] cd)) Q := by
    rw [hrc2] at hF hT
    unfold vtS hdS at hF hT
    rw [b_Reader_isClause_29]
    by_cases qw : (wrdS T W p).1 = true
    · have q1 : bI (wrdS T W p).1 = 1 := by rw [qw]; rfl
      obtain ⟨m1, m2, m3, m4⟩ := num_b (p := (wrdS T W p).2) hTE w2
      rw [if_pos qw] at hF hT
      by_cases c : (numS T (wrdS T W p).2).1 = true
      · have c1 : bI (numS T (wrdS T W p).2).1 = 1 := by rw [c]; rfl
        have m5 := m4 c
        have ehd : hdS T W p = numS T (wrdS T W p).2 := by unfold hdS; rw [if_pos qw]
        rw [if_pos c] at hF hT
        simp only [if_pos c] at e2
        rw [ehd] at ex
        -- the worth
        have wor : ∀ (R : Prop), (pm_W fqP (d + 29) 15 92 [some (.ref 75), some (.int (T p)), some (.ref tx), none] [.int (if T p = 102 then nI (numS T (wrdS T W p).2).2.2 else -nI (numS T (wrdS T W p).2).2.2)] (mk (V4 h [nI (numS T (wrdS T W p).2).2.1, nI n, nI (numS T (wrdS T W p).2).2.2] [nI i, nI cs, nI q] cd)) Q) → pm_W fqP (d + 29) 15 74 [some (.ref 75), some (.int (T p)), some (.ref tx), none] [] (mk (V4 h [nI (numS T (wrdS T W p).2).2.1, nI n, nI (numS T (wrdS T W p).2).2.2] [nI i, nI cs, nI q] cd)) Q := by
          intro R hR
          rw [b_Reader_isClause_74]
          by_cases y : T p = 102
          · have y1 := eq_true y
            rw [if_pos y] at hR
            simp (maxDischargeDepth := 20) (maxSteps := 2000000) only [↓reduceIte, pm_WL_nil, bi_900, bi_901, bi_904, bi_905, pm_lget_0, pm_lget_s, pm_oI_s, pm_oA_s, pm_oJ_s, pm_oK_s, pm_oR_s, pm_oO_s, pm_oN_s, pm_oF_s, pm_oM_s, pm_oP_s, pm_pu_n, pm_pu_s, pm_bo_ne, pm_bo_eq, Nat.reduceAdd, Nat.reduceSub, Nat.reduceLT, Nat.reduceLeDiff, Nat.reduceEqDiff, Nat.zero_add, Nat.lt_add_one, Nat.zero_ne_one, Nat.succ_ne_self, List.length_cons, List.length_nil, true_and, and_true, true_or, or_true, false_or, or_false, false_implies, true_implies, implies_true, not_true_eq_false, not_false_eq_true, ne_eq, eq_self, e_Reader_isClause, pm_okW_0, pm_okW_i, pm_okW_r, pm_okW_l, pm_ent_0, pm_ent_i, pm_ent_r, pm_ent_l, List.reduceReplicate, b_Reader_isClause_0, b_Reader_isClause_11, b_Reader_isClause_16, b_Reader_isClause_22, b_Reader_isClause_27, b_Reader_isClause_29, b_Reader_isClause_38, b_Reader_isClause_45, b_Reader_isClause_47, b_Reader_isClause_53, b_Reader_isClause_74, b_Reader_isClause_80, b_Reader_isClause_87, b_Reader_isClause_102, b_Reader_isClause_110, b_Reader_isClause_112, f_aloadn0, iv_15_44_75, kk_n, kk_s, w_istore1, pm_lset_0, pm_lset_1, pm_lset_n, pm_no2_n, pm_no2_i, pm_no2_r, pm_no2_l, f_iloadn1, w_bipush, kb_113, w_icmp_ne, pm_tgt_is, Int.cast_ofNat_Int, Int.reduceNeg, Int.reduceAdd, Int.reduceToNat, Int.zero_add, Int.zero_le_ofNat, Int.reduceLE, if_true, if_false, w_ldc, lg_15, lk_3_48, pm_oC_i, pm_oC_r, w_goto, kb_102, lk_3_50, lk_3_52, w_astore2, f_aloadn2, iv_15_54_75, w_if_eq, nz_1, nz_m1, iv_15_58_75, w_if_ne, w_iconst, ki_0, w_iret, pm_fit_b, pm_fit_0, pm_fit_1, Bool.false_eq_true, gf_15_12_75, gf_15_61_75, pf_15_64_7, pf_15_64_35, pf_15_64_62, pf_15_64_76, iv_15_67_7, iv_15_67_35, iv_15_67_62, iv_15_67_76, ki_1, w_ineg, w_istore3, kb_32, iv_15_40_75, iv_15_71_75, f_iloadn3, hs_75, v4_75, v4_76, v4_79, v4_80, v4_u75, v4_u76, v4_u79, gd_0, gd_s, y1]
            exact hR
          · have y1 := eq_false y
            rw [if_neg y] at hR
            simp (maxDischargeDepth := 20) (maxSteps := 2000000) only [↓reduceIte, pm_WL_nil, bi_900, bi_901, bi_904, bi_905, pm_lget_0, pm_lget_s, pm_oI_s, pm_oA_s, pm_oJ_s, pm_oK_s, pm_oR_s, pm_oO_s, pm_oN_s, pm_oF_s, pm_oM_s, pm_oP_s, pm_pu_n, pm_pu_s, pm_bo_ne, pm_bo_eq, Nat.reduceAdd, Nat.reduceSub, Nat.reduceLT, Nat.reduceLeDiff, Nat.reduceEqDiff, Nat.zero_add, Nat.lt_add_one, Nat.zero_ne_one, Nat.succ_ne_self, List.length_cons, List.length_nil, true_and, and_true, true_or, or_true, false_or, or_false, false_implies, true_implies, implies_true, not_true_eq_false, not_false_eq_true, ne_eq, eq_self, e_Reader_isClause, pm_okW_0, pm_okW_i, pm_okW_r, pm_okW_l, pm_ent_0, pm_ent_i, pm_ent_r, pm_ent_l, List.reduceReplicate, b_Reader_isClause_0, b_Reader_isClause_11, b_Reader_isClause_16, b_Reader_isClause_22, b_Reader_isClause_27, b_Reader_isClause_29, b_Reader_isClause_38, b_Reader_isClause_45, b_Reader_isClause_47, b_Reader_isClause_53, b_Reader_isClause_74, b_Reader_isClause_80, b_Reader_isClause_87, b_Reader_isClause_102, b_Reader_isClause_110, b_Reader_isClause_112, f_aloadn0, iv_15_44_75, kk_n, kk_s, w_istore1, pm_lset_0, pm_lset_1, pm_lset_n, pm_no2_n, pm_no2_i, pm_no2_r, pm_no2_l, f_iloadn1, w_bipush, kb_113, w_icmp_ne, pm_tgt_is, Int.cast_ofNat_Int, Int.reduceNeg, Int.reduceAdd, Int.reduceToNat, Int.zero_add, Int.zero_le_ofNat, Int.reduceLE, if_true, if_false, w_ldc, lg_15, lk_3_48, pm_oC_i, pm_oC_r, w_goto, kb_102, lk_3_50, lk_3_52, w_astore2, f_aloadn2, iv_15_54_75, w_if_eq, nz_1, nz_m1, iv_15_58_75, w_if_ne, w_iconst, ki_0, w_iret, pm_fit_b, pm_fit_0, pm_fit_1, Bool.false_eq_true, gf_15_12_75, gf_15_61_75, pf_15_64_7, pf_15_64_35, pf_15_64_62, pf_15_64_76, iv_15_67_7, iv_15_67_35, iv_15_67_62, iv_15_67_76, ki_1, w_ineg, w_istore3, kb_32, iv_15_40_75, iv_15_71_75, f_iloadn3, hs_75, v4_75, v4_76, v4_79, v4_80, v4_u75, v4_u76, v4_u79, gd_0, gd_s, y1]
            exact hR
        simp (maxDischargeDepth := 20) (maxSteps := 2000000) only [↓reduceIte, pm_WL_nil, bi_900, bi_901, bi_904, bi_905, pm_lget_0, pm_lget_s, pm_oI_s, pm_oA_s, pm_oJ_s, pm_oK_s, pm_oR_s, pm_oO_s, pm_oN_s, pm_oF_s, pm_oM_s, pm_oP_s, pm_pu_n, pm_pu_s, pm_bo_ne, pm_bo_eq, Nat.reduceAdd, Nat.reduceSub, Nat.reduceLT, Nat.reduceLeDiff, Nat.reduceEqDiff, Nat.zero_add, Nat.lt_add_one, Nat.zero_ne_one, Nat.succ_ne_self, List.length_cons, List.length_nil, true_and, and_true, true_or, or_true, false_or, or_false, false_implies, true_implies, implies_true, not_true_eq_false, not_false_eq_true, ne_eq, eq_self, e_Reader_isClause, pm_okW_0, pm_okW_i, pm_okW_r, pm_okW_l, pm_ent_0, pm_ent_i, pm_ent_r, pm_ent_l, List.reduceReplicate, b_Reader_isClause_0, b_Reader_isClause_11, b_Reader_isClause_16, b_Reader_isClause_22, b_Reader_isClause_27, b_Reader_isClause_29, b_Reader_isClause_38, b_Reader_isClause_45, b_Reader_isClause_47, b_Reader_isClause_53, b_Reader_isClause_80, b_Reader_isClause_87, b_Reader_isClause_92, b_Reader_isClause_102, b_Reader_isClause_110, b_Reader_isClause_112, f_aloadn0, iv_15_44_75, kk_n, kk_s, w_istore1, pm_lset_0, pm_lset_1, pm_lset_n, pm_no2_n, pm_no2_i, pm_no2_r, pm_no2_l, f_iloadn1, w_bipush, kb_113, w_icmp_ne, pm_tgt_is, Int.cast_ofNat_Int, Int.reduceNeg, Int.reduceAdd, Int.reduceToNat, Int.zero_add, Int.zero_le_ofNat, Int.reduceLE, if_true, if_false, w_ldc, lg_15, lk_3_48, pm_oC_i, pm_oC_r, w_goto, kb_102, lk_3_50, lk_3_52, w_astore2, f_aloadn2, iv_15_54_75, w_if_eq, nz_1, nz_m1, iv_15_58_75, w_if_ne, w_iconst, ki_0, w_iret, pm_fit_b, pm_fit_0, pm_fit_1, Bool.false_eq_true, gf_15_12_75, gf_15_61_75, pf_15_64_7, pf_15_64_35, pf_15_64_62, pf_15_64_76, iv_15_67_7, iv_15_67_35, iv_15_67_62, iv_15_67_76, ki_1, w_ineg, w_istore3, kb_32, iv_15_40_75, iv_15_71_75, f_iloadn3, hs_75, v4_75, v4_76, v4_79, v4_80, v4_u75, v4_u76, v4_u79, gd_0, gd_s, e1, q1, e2, c1, n1]
        refine wor True ?_
        rw [b_Reader_isClause_92]
        by_cases z : T (numS T (wrdS T W p).2).2.1 = 32
        · have lt := tp_lt (c := 32) hTE (by omega) z
          have e3 := fun K => @c_takes_y (d + 27) (numS T (wrdS T W p).2).2.1 n cs T h cd (nI (numS T (wrdS T W p).2).2.2) (nI i) (nI q) K 32 [nI i, nI cs, nI q] H (by omega) z
          obtain ⟨f1, f2, f3, f4⟩ := gr_ez hTE 5 ((numS T (wrdS T W p).2).2.1 + 1) (by omega)
          rw [if_pos z] at hF hT
          simp (maxDischargeDepth := 20) (maxSteps := 2000000) only [↓reduceIte, pm_WL_nil, bi_900, bi_901, bi_904, bi_905, pm_lget_0, pm_lget_s, pm_oI_s, pm_oA_s, pm_oJ_s, pm_oK_s, pm_oR_s, pm_oO_s, pm_oN_s, pm_oF_s, pm_oM_s, pm_oP_s, pm_pu_n, pm_pu_s, pm_bo_ne, pm_bo_eq, Nat.reduceAdd, Nat.reduceSub, Nat.reduceLT, Nat.reduceLeDiff, Nat.reduceEqDiff, Nat.zero_add, Nat.lt_add_one, Nat.zero_ne_one, Nat.succ_ne_self, List.length_cons, List.length_nil, true_and, and_true, true_or, or_true, false_or, or_false, false_implies, true_implies, implies_true, not_true_eq_false, not_false_eq_true, ne_eq, eq_self, e_Reader_isClause, pm_okW_0, pm_okW_i, pm_okW_r, pm_okW_l, pm_ent_0, pm_ent_i, pm_ent_r, pm_ent_l, List.reduceReplicate, b_Reader_isClause_0, b_Reader_isClause_11, b_Reader_isClause_16, b_Reader_isClause_22, b_Reader_isClause_27, b_Reader_isClause_29, b_Reader_isClause_38, b_Reader_isClause_45, b_Reader_isClause_47, b_Reader_isClause_53, b_Reader_isClause_74, b_Reader_isClause_80, b_Reader_isClause_87, b_Reader_isClause_92, b_Reader_isClause_102, b_Reader_isClause_110, b_Reader_isClause_112, f_aloadn0, iv_15_44_75, kk_n, kk_s, w_istore1, pm_lset_0, pm_lset_1, pm_lset_n, pm_no2_n, pm_no2_i, pm_no2_r, pm_no2_l, f_iloadn1, w_bipush, kb_113, w_icmp_ne, pm_tgt_is, Int.cast_ofNat_Int, Int.reduceNeg, Int.reduceAdd, Int.reduceToNat, Int.zero_add, Int.zero_le_ofNat, Int.reduceLE, if_true, if_false, w_ldc, lg_15, lk_3_48, pm_oC_i, pm_oC_r, w_goto, kb_102, lk_3_50, lk_3_52, w_astore2, f_aloadn2, iv_15_54_75, w_if_eq, nz_1, nz_m1, iv_15_58_75, w_if_ne, w_iconst, ki_0, w_iret, pm_fit_b, pm_fit_0, pm_fit_1, Bool.false_eq_true, gf_15_12_75, gf_15_61_75, pf_15_64_7, pf_15_64_35, pf_15_64_62, pf_15_64_76, iv_15_67_7, iv_15_67_35, iv_15_67_62, iv_15_67_76, ki_1, w_ineg, w_istore3, kb_32, iv_15_40_75, iv_15_71_75, f_iloadn3, hs_75, v4_75, v4_76, v4_79, v4_80, v4_u75, v4_u76, v4_u79, gd_0, gd_s, e3]
          have hd : d + 29 = (d + 5) + 3 * 5 + 9 := by omega
          rw [hd]
          refine k_expr H (d + 5) ((numS T (wrdS T W p).2).2.1 + 1) 0 cs (nI (numS T (wrdS T W p).2).2.2) cd _ hc (by omega) (by omega) (by omega) ?_
          rw [← hd]
          intro cs1 nm1 cd1 g1 g2 g3 g4 g5
          by_cases y : (ez T 5 ((numS T (wrdS T W p).2).2.1 + 1)).1 = true
          · have y1 : bI (ez T 5 ((numS T (wrdS T W p).2).2.1 + 1)).1 = 1 := by rw [y]; rfl
            have f5 := f4 y
            rw [if_pos y] at hF hT
            have e4 := fun f75 x K => @c_endClause (d + 27) i cs1 h cd1 f75 x (nI q) K h7 h8 hi
            simp only [kk_s, y1]
            simp (maxDischargeDepth := 20) (maxSteps := 2000000) only [↓reduceIte, pm_WL_nil, bi_900, bi_901, bi_904, bi_905, pm_lget_0, pm_lget_s, pm_oI_s, pm_oA_s, pm_oJ_s, pm_oK_s, pm_oR_s, pm_oO_s, pm_oN_s, pm_oF_s, pm_oM_s, pm_oP_s, pm_pu_n, pm_pu_s, pm_bo_ne, pm_bo_eq, Nat.reduceAdd, Nat.reduceSub, Nat.reduceLT, Nat.reduceLeDiff, Nat.reduceEqDiff, Nat.zero_add, Nat.lt_add_one, Nat.zero_ne_one, Nat.succ_ne_self, List.length_cons, List.length_nil, true_and, and_true, true_or, or_true, false_or, or_false, false_implies, true_implies, implies_true, not_true_eq_false, not_false_eq_true, ne_eq, eq_self, e_Reader_isClause, pm_okW_0, pm_okW_i, pm_okW_r, pm_okW_l, pm_ent_0, pm_ent_i, pm_ent_r, pm_ent_l, List.reduceReplicate, b_Reader_isClause_0, b_Reader_isClause_11, b_Reader_isClause_16, b_Reader_isClause_22, b_Reader_isClause_27, b_Reader_isClause_29, b_Reader_isClause_38, b_Reader_isClause_45, b_Reader_isClause_47, b_Reader_isClause_53, b_Reader_isClause_74, b_Reader_isClause_80, b_Reader_isClause_87, b_Reader_isClause_92, b_Reader_isClause_102, b_Reader_isClause_110, b_Reader_isClause_112, f_aloadn0, iv_15_44_75, kk_n, kk_s, w_istore1, pm_lset_0, pm_lset_1, pm_lset_n, pm_no2_n, pm_no2_i, pm_no2_r, pm_no2_l, f_iloadn1, w_bipush, kb_113, w_icmp_ne, pm_tgt_is, Int.cast_ofNat_Int, Int.reduceNeg, Int.reduceAdd, Int.reduceToNat, Int.zero_add, Int.zero_le_ofNat, Int.reduceLE, if_true, if_false, w_ldc, lg_15, lk_3_48, pm_oC_i, pm_oC_r, w_goto, kb_102, lk_3_50, lk_3_52, w_astore2, f_aloadn2, iv_15_54_75, w_if_eq, nz_1, nz_m1, iv_15_58_75, w_if_ne, w_iconst, ki_0, w_iret, pm_fit_b, pm_fit_0, pm_fit_1, Bool.false_eq_true, gf_15_12_75, gf_15_61_75, pf_15_64_7, pf_15_64_35, pf_15_64_62, pf_15_64_76, iv_15_67_7, iv_15_67_35, iv_15_67_62, iv_15_67_76, ki_1, w_ineg, w_istore3, kb_32, iv_15_40_75, iv_15_71_75, f_iloadn3, hs_75, v4_75, v4_76, v4_79, v4_80, v4_u75, v4_u76, v4_u79, gd_0, gd_s, e4]
            refine hT rfl cs1 nm1 _ cd1 ⟨g1, g2, ?_, g4, fun f => evL f (ez T 5 ((numS T (wrdS T W p).2).2.1 + 1)).2.2, ex _ m3 y, fun cd2 hc2 f => ?_⟩
            · show cs1 + p ≤ cs + (ez T 5 ((numS T (wrdS T W p).2).2.1 + 1)).2.1; omega
            · have := g5 y cd2 hc2 f cs1 false (Nat.le_refl _) (by omega)
              unfold ch2 at this
              rw [this, chd_end]
          · have y1 : bI (ez T 5 ((numS T (wrdS T W p).2).2.1 + 1)).1 = 0 := by rw [show (ez T 5 ((numS T (wrdS T W p).2).2.1 + 1)).1 = false by simpa using y]; rfl
            rw [if_neg y] at hF hT
            simp only [kk_s, y1]
            simp (maxDischargeDepth := 20) (maxSteps := 2000000) only [↓reduceIte, pm_WL_nil, bi_900, bi_901, bi_904, bi_905, pm_lget_0, pm_lget_s, pm_oI_s, pm_oA_s, pm_oJ_s, pm_oK_s, pm_oR_s, pm_oO_s, pm_oN_s, pm_oF_s, pm_oM_s, pm_oP_s, pm_pu_n, pm_pu_s, pm_bo_ne, pm_bo_eq, Nat.reduceAdd, Nat.reduceSub, Nat.reduceLT, Nat.reduceLeDiff, Nat.reduceEqDiff, Nat.zero_add, Nat.lt_add_one, Nat.zero_ne_one, Nat.succ_ne_self, List.length_cons, List.length_nil, true_and, and_true, true_or, or_true, false_or, or_false, false_implies, true_implies, implies_true, not_true_eq_false, not_false_eq_true, ne_eq, eq_self, e_Reader_isClause, pm_okW_0, pm_okW_i, pm_okW_r, pm_okW_l, pm_ent_0, pm_ent_i, pm_ent_r, pm_ent_l, List.reduceReplicate, b_Reader_isClause_0, b_Reader_isClause_11, b_Reader_isClause_16, b_Reader_isClause_22, b_Reader_isClause_27, b_Reader_isClause_29, b_Reader_isClause_38, b_Reader_isClause_45, b_Reader_isClause_47, b_Reader_isClause_53, b_Reader_isClause_74, b_Reader_isClause_80, b_Reader_isClause_87, b_Reader_isClause_92, b_Reader_isClause_102, b_Reader_isClause_110, b_Reader_isClause_112, f_aloadn0, iv_15_44_75, kk_n, kk_s, w_istore1, pm_lset_0, pm_lset_1, pm_lset_n, pm_no2_n, pm_no2_i, pm_no2_r, pm_no2_l, f_iloadn1, w_bipush, kb_113, w_icmp_ne, pm_tgt_is, Int.cast_ofNat_Int, Int.reduceNeg, Int.reduceAdd, Int.reduceToNat, Int.zero_add, Int.zero_le_ofNat, Int.reduceLE, if_true, if_false, w_ldc, lg_15, lk_3_48, pm_oC_i, pm_oC_r, w_goto, kb_102, lk_3_50, lk_3_52, w_astore2, f_aloadn2, iv_15_54_75, w_if_eq, nz_1, nz_m1, iv_15_58_75, w_if_ne, w_iconst, ki_0, w_iret, pm_fit_b, pm_fit_0, pm_fit_1, Bool.false_eq_true, gf_15_12_75, gf_15_61_75, pf_15_64_7, pf_15_64_35, pf_15_64_62, pf_15_64_76, iv_15_67_7, iv_15_67_35, iv_15_67_62, iv_15_67_76, ki_1, w_ineg, w_istore3, kb_32, iv_15_40_75, iv_15_71_75, f_iloadn3, hs_75, v4_75, v4_76, v4_79, v4_80, v4_u75, v4_u76, v4_u79, gd_0, gd_s]
            exact hF rfl _ nm1 cd1 rfl g1
        · have e3 := fun K => @c_takes_n (d + 27) (numS T (wrdS T W p).2).2.1 n cs T h cd (nI (numS T (wrdS T W p).2).2.2) (nI i) (nI q) K 32 [nI i, nI cs, nI q] H (by omega) z
          rw [if_neg z] at hF hT
          simp (maxDischargeDepth := 20) (maxSteps := 2000000) only [↓reduceIte, pm_WL_nil, bi_900, bi_901, bi_904, bi_905, pm_lget_0, pm_lget_s, pm_oI_s, pm_oA_s, pm_oJ_s, pm_oK_s, pm_oR_s, pm_oO_s, pm_oN_s, pm_oF_s, pm_oM_s, pm_oP_s, pm_pu_n, pm_pu_s, pm_bo_ne, pm_bo_eq, Nat.reduceAdd, Nat.reduceSub, Nat.reduceLT, Nat.reduceLeDiff, Nat.reduceEqDiff, Nat.zero_add, Nat.lt_add_one, Nat.zero_ne_one, Nat.succ_ne_self, List.length_cons, List.length_nil, true_and, and_true, true_or, or_true, false_or, or_false, false_implies, true_implies, implies_true, not_true_eq_false, not_false_eq_true, ne_eq, eq_self, e_Reader_isClause, pm_okW_0, pm_okW_i, pm_okW_r, pm_okW_l, pm_ent_0, pm_ent_i, pm_ent_r, pm_ent_l, List.reduceReplicate, b_Reader_isClause_0, b_Reader_isClause_11, b_Reader_isClause_16, b_Reader_isClause_22, b_Reader_isClause_27, b_Reader_isClause_29, b_Reader_isClause_38, b_Reader_isClause_45, b_Reader_isClause_47, b_Reader_isClause_53, b_Reader_isClause_74, b_Reader_isClause_80, b_Reader_isClause_87, b_Reader_isClause_92, b_Reader_isClause_102, b_Reader_isClause_110, b_Reader_isClause_112, f_aloadn0, iv_15_44_75, kk_n, kk_s, w_istore1, pm_lset_0, pm_lset_1, pm_lset_n, pm_no2_n, pm_no2_i, pm_no2_r, pm_no2_l, f_iloadn1, w_bipush, kb_113, w_icmp_ne, pm_tgt_is, Int.cast_ofNat_Int, Int.reduceNeg, Int.reduceAdd, Int.reduceToNat, Int.zero_add, Int.zero_le_ofNat, Int.reduceLE, if_true, if_false, w_ldc, lg_15, lk_3_48, pm_oC_i, pm_oC_r, w_goto, kb_102, lk_3_50, lk_3_52, w_astore2, f_aloadn2, iv_15_54_75, w_if_eq, nz_1, nz_m1, iv_15_58_75, w_if_ne, w_iconst, ki_0, w_iret, pm_fit_b, pm_fit_0, pm_fit_1, Bool.false_eq_true, gf_15_12_75, gf_15_61_75, pf_15_64_7, pf_15_64_35, pf_15_64_62, pf_15_64_76, iv_15_67_7, iv_15_67_35, iv_15_67_62, iv_15_67_76, ki_1, w_ineg, w_istore3, kb_32, iv_15_40_75, iv_15_71_75, f_iloadn3, hs_75, v4_75, v4_76, v4_79, v4_80, v4_u75, v4_u76, v4_u79, gd_0, gd_s, e3]
          exact hF rfl _ _ cd rfl hc
      · have c1 : bI (numS T (wrdS T W p).2).1 = 0 := by rw [show (numS T (wrdS T W p).2).1 = false by simpa using c]; rfl
        rw [if_neg c] at hF hT
        simp only [if_neg c] at e2
        simp (maxDischargeDepth := 20) (maxSteps := 2000000) only [↓reduceIte, pm_WL_nil, bi_900, bi_901, bi_904, bi_905, pm_lget_0, pm_lget_s, pm_oI_s, pm_oA_s, pm_oJ_s, pm_oK_s, pm_oR_s, pm_oO_s, pm_oN_s, pm_oF_s, pm_oM_s, pm_oP_s, pm_pu_n, pm_pu_s, pm_bo_ne, pm_bo_eq, Nat.reduceAdd, Nat.reduceSub, Nat.reduceLT, Nat.reduceLeDiff, Nat.reduceEqDiff, Nat.zero_add, Nat.lt_add_one, Nat.zero_ne_one, Nat.succ_ne_self, List.length_cons, List.length_nil, true_and, and_true, true_or, or_true, false_or, or_false, false_implies, true_implies, implies_true, not_true_eq_false, not_false_eq_true, ne_eq, eq_self, e_Reader_isClause, pm_okW_0, pm_okW_i, pm_okW_r, pm_okW_l, pm_ent_0, pm_ent_i, pm_ent_r, pm_ent_l, List.reduceReplicate, b_Reader_isClause_0, b_Reader_isClause_11, b_Reader_isClause_16, b_Reader_isClause_22, b_Reader_isClause_27, b_Reader_isClause_29, b_Reader_isClause_38, b_Reader_isClause_45, b_Reader_isClause_47, b_Reader_isClause_53, b_Reader_isClause_74, b_Reader_isClause_80, b_Reader_isClause_87, b_Reader_isClause_92, b_Reader_isClause_102, b_Reader_isClause_110, b_Reader_isClause_112, f_aloadn0, iv_15_44_75, kk_n, kk_s, w_istore1, pm_lset_0, pm_lset_1, pm_lset_n, pm_no2_n, pm_no2_i, pm_no2_r, pm_no2_l, f_iloadn1, w_bipush, kb_113, w_icmp_ne, pm_tgt_is, Int.cast_ofNat_Int, Int.reduceNeg, Int.reduceAdd, Int.reduceToNat, Int.zero_add, Int.zero_le_ofNat, Int.reduceLE, if_true, if_false, w_ldc, lg_15, lk_3_48, pm_oC_i, pm_oC_r, w_goto, kb_102, lk_3_50, lk_3_52, w_astore2, f_aloadn2, iv_15_54_75, w_if_eq, nz_1, nz_m1, iv_15_58_75, w_if_ne, w_iconst, ki_0, w_iret, pm_fit_b, pm_fit_0, pm_fit_1, Bool.false_eq_true, gf_15_12_75, gf_15_61_75, pf_15_64_7, pf_15_64_35, pf_15_64_62, pf_15_64_76, iv_15_67_7, iv_15_67_35, iv_15_67_62, iv_15_67_76, ki_1, w_ineg, w_istore3, kb_32, iv_15_40_75, iv_15_71_75, f_iloadn3, hs_75, v4_75, v4_76, v4_79, v4_80, v4_u75, v4_u76, v4_u79, gd_0, gd_s, e1, q1, e2, c1]
        exact hF rfl _ _ cd rfl hc
    · have q1 : bI (wrdS T W p).1 = 0 := by rw [show (wrdS T W p).1 = false by simpa using qw]; rfl
      rw [if_neg qw, if_neg (fun z => Bool.noConfusion z)] at hF hT
      simp (maxDischargeDepth := 20) (maxSteps := 2000000) only [↓reduceIte, pm_WL_nil, bi_900, bi_901, bi_904, bi_905, pm_lget_0, pm_lget_s, pm_oI_s, pm_oA_s, pm_oJ_s, pm_oK_s, pm_oR_s, pm_oO_s, pm_oN_s, pm_oF_s, pm_oM_s, pm_oP_s, pm_pu_n, pm_pu_s, pm_bo_ne, pm_bo_eq, Nat.reduceAdd, Nat.reduceSub, Nat.reduceLT, Nat.reduceLeDiff, Nat.reduceEqDiff, Nat.zero_add, Nat.lt_add_one, Nat.zero_ne_one, Nat.succ_ne_self, List.length_cons, List.length_nil, true_and, and_true, true_or, or_true, false_or, or_false, false_implies, true_implies, implies_true, not_true_eq_false, not_false_eq_true, ne_eq, eq_self, e_Reader_isClause, pm_okW_0, pm_okW_i, pm_okW_r, pm_okW_l, pm_ent_0, pm_ent_i, pm_ent_r, pm_ent_l, List.reduceReplicate, b_Reader_isClause_0, b_Reader_isClause_11, b_Reader_isClause_16, b_Reader_isClause_22, b_Reader_isClause_27, b_Reader_isClause_29, b_Reader_isClause_38, b_Reader_isClause_45, b_Reader_isClause_47, b_Reader_isClause_53, b_Reader_isClause_74, b_Reader_isClause_80, b_Reader_isClause_87, b_Reader_isClause_92, b_Reader_isClause_102, b_Reader_isClause_110, b_Reader_isClause_112, f_aloadn0, iv_15_44_75, kk_n, kk_s, w_istore1, pm_lset_0, pm_lset_1, pm_lset_n, pm_no2_n, pm_no2_i, pm_no2_r, pm_no2_l, f_iloadn1, w_bipush, kb_113, w_icmp_ne, pm_tgt_is, Int.cast_ofNat_Int, Int.reduceNeg, Int.reduceAdd, Int.reduceToNat, Int.zero_add, Int.zero_le_ofNat, Int.reduceLE, if_true, if_false, w_ldc, lg_15, lk_3_48, pm_oC_i, pm_oC_r, w_goto, kb_102, lk_3_50, lk_3_52, w_astore2, f_aloadn2, iv_15_54_75, w_if_eq, nz_1, nz_m1, iv_15_58_75, w_if_ne, w_iconst, ki_0, w_iret, pm_fit_b, pm_fit_0, pm_fit_1, Bool.false_eq_true, gf_15_12_75, gf_15_61_75, pf_15_64_7, pf_15_64_35, pf_15_64_62, pf_15_64_76, iv_15_67_7, iv_15_67_35, iv_15_67_62, iv_15_67_76, ki_1, w_ineg, w_istore3, kb_32, iv_15_40_75, iv_15_71_75, f_iloadn3, hs_75, v4_75, v4_76, v4_79, v4_80, v4_u75, v4_u76, v4_u79, gd_0, gd_s, e1, q1]
      exact hF rfl _ _ cd rfl hc
  rcases ch with ⟨e, _, rfl⟩ | ⟨_, e, _, rfl⟩
  · have y1 := eq_true e
    simp (maxDischargeDepth := 20) (maxSteps := 2000000) only [↓reduceIte, pm_WL_nil, bi_900, bi_901, bi_904, bi_905, pm_lget_0, pm_lget_s, pm_oI_s, pm_oA_s, pm_oJ_s, pm_oK_s, pm_oR_s, pm_oO_s, pm_oN_s, pm_oF_s, pm_oM_s, pm_oP_s, pm_pu_n, pm_pu_s, pm_bo_ne, pm_bo_eq, Nat.reduceAdd, Nat.reduceSub, Nat.reduceLT, Nat.reduceLeDiff, Nat.reduceEqDiff, Nat.zero_add, Nat.lt_add_one, Nat.zero_ne_one, Nat.succ_ne_self, List.length_cons, List.length_nil, true_and, and_true, true_or, or_true, false_or, or_false, false_implies, true_implies, implies_true, not_true_eq_false, not_false_eq_true, ne_eq, eq_self, e_Reader_isClause, pm_okW_0, pm_okW_i, pm_okW_r, pm_okW_l, pm_ent_0, pm_ent_i, pm_ent_r, pm_ent_l, List.reduceReplicate, b_Reader_isClause_0, b_Reader_isClause_11, b_Reader_isClause_16, b_Reader_isClause_22, b_Reader_isClause_27, b_Reader_isClause_38, b_Reader_isClause_45, b_Reader_isClause_47, b_Reader_isClause_53, b_Reader_isClause_74, b_Reader_isClause_80, b_Reader_isClause_87, b_Reader_isClause_92, b_Reader_isClause_102, b_Reader_isClause_110, b_Reader_isClause_112, f_aloadn0, iv_15_44_75, kk_n, kk_s, w_istore1, pm_lset_0, pm_lset_1, pm_lset_n, pm_no2_n, pm_no2_i, pm_no2_r, pm_no2_l, f_iloadn1, w_bipush, kb_113, w_icmp_ne, pm_tgt_is, Int.cast_ofNat_Int, Int.reduceNeg, Int.reduceAdd, Int.reduceToNat, Int.zero_add, Int.zero_le_ofNat, Int.reduceLE, if_true, if_false, w_ldc, lg_15, lk_3_48, pm_oC_i, pm_oC_r, w_goto, kb_102, lk_3_50, lk_3_52, w_astore2, f_aloadn2, iv_15_54_75, w_if_eq, nz_1, nz_m1, iv_15_58_75, w_if_ne, w_iconst, ki_0, w_iret, pm_fit_b, pm_fit_0, pm_fit_1, Bool.false_eq_true, gf_15_12_75, gf_15_61_75, pf_15_64_7, pf_15_64_35, pf_15_64_62, pf_15_64_76, iv_15_67_7, iv_15_67_35, iv_15_67_62, iv_15_67_76, ki_1, w_ineg, w_istore3, kb_32, iv_15_40_75, iv_15_71_75, f_iloadn3, hs_75, v4_75, v4_76, v4_79, v4_80, v4_u75, v4_u76, v4_u79, gd_0, gd_s, e0, n1, y1]
    exact mid
  · have y1 := eq_false e
    simp (maxDischargeDepth := 20) (maxSteps := 2000000) only [↓reduceIte, pm_WL_nil, bi_900, bi_901, bi_904, bi_905, pm_lget_0, pm_lget_s, pm_oI_s, pm_oA_s, pm_oJ_s, pm_oK_s, pm_oR_s, pm_oO_s, pm_oN_s, pm_oF_s, pm_oM_s, pm_oP_s, pm_pu_n, pm_pu_s, pm_bo_ne, pm_bo_eq, Nat.reduceAdd, Nat.reduceSub, Nat.reduceLT, Nat.reduceLeDiff, Nat.reduceEqDiff, Nat.zero_add, Nat.lt_add_one, Nat.zero_ne_one, Nat.succ_ne_self, List.length_cons, List.length_nil, true_and, and_true, true_or, or_true, false_or, or_false, false_implies, true_implies, implies_true, not_true_eq_false, not_false_eq_true, ne_eq, eq_self, e_Reader_isClause, pm_okW_0, pm_okW_i, pm_okW_r, pm_okW_l, pm_ent_0, pm_ent_i, pm_ent_r, pm_ent_l, List.reduceReplicate, b_Reader_isClause_0, b_Reader_isClause_11, b_Reader_isClause_16, b_Reader_isClause_22, b_Reader_isClause_27, b_Reader_isClause_38, b_Reader_isClause_45, b_Reader_isClause_47, b_Reader_isClause_53, b_Reader_isClause_74, b_Reader_isClause_80, b_Reader_isClause_87, b_Reader_isClause_92, b_Reader_isClause_102, b_Reader_isClause_110, b_Reader_isClause_112, f_aloadn0, iv_15_44_75, kk_n, kk_s, w_istore1, pm_lset_0, pm_lset_1, pm_lset_n, pm_no2_n, pm_no2_i, pm_no2_r, pm_no2_l, f_iloadn1, w_bipush, kb_113, w_icmp_ne, pm_tgt_is, Int.cast_ofNat_Int, Int.reduceNeg, Int.reduceAdd, Int.reduceToNat, Int.zero_add, Int.zero_le_ofNat, Int.reduceLE, if_true, if_false, w_ldc, lg_15, lk_3_48, pm_oC_i, pm_oC_r, w_goto, kb_102, lk_3_50, lk_3_52, w_astore2, f_aloadn2, iv_15_54_75, w_if_eq, nz_1, nz_m1, iv_15_58_75, w_if_ne, w_iconst, ki_0, w_iret, pm_fit_b, pm_fit_0, pm_fit_1, Bool.false_eq_true, gf_15_12_75, gf_15_61_75, pf_15_64_7, pf_15_64_35, pf_15_64_62, pf_15_64_76, iv_15_67_7, iv_15_67_35, iv_15_67_62, iv_15_67_76, ki_1, w_ineg, w_istore3, kb_32, iv_15_40_75, iv_15_71_75, f_iloadn3, hs_75, v4_75, v4_76, v4_79, v4_80, v4_u75, v4_u76, v4_u79, gd_0, gd_s, e0, n1, y1]
    exact mid
theorem k_clause {T : Nat → Int32} {d n p i cs q : Nat} {h : Nat → List Int32} {cd : List Int32} {nm : Int32} {Q : Option Value → pm_S → Prop} (H : CH T n h) (hc : cd.length = 100) (hp : p ≤ n) (hcs : cs ≤ p) (h7 : (h 77).length = 10) (h8 : (h 78).length = 10) (hi : i < 10)
    (hF : (clS T p).1 = false → ∀ (f76 : List Int32) (nm' : Int32) (cd' : List Int32), f76.length = 3 → cd'.length = 100 → Q (some (.int 0)) (mk (V4 h [nI (clS T p).2.1, nI n, nm'] f76 cd')))
    (hT : (clS T p).1 = true → ∀ (cs' : Nat) (nm' x : Int32) (cd' : List Int32), CLP cs cs' p (clS T p) x cd cd' → Q (some (.int 1)) (mk (V4 (up (up h 77 ((h 77).set i x)) 78 ((h 78).set i (nI cs'))) [nI (clS T p).2.1, nI n, nm'] [nI (i + 1), nI cs', nI (qo q (clS T p))] cd'))) :
    pm_WC fqP (d + 30) 15 [.ref 75] (mk (V4 h [nI p, nI n, nm] [nI i, nI cs, nI q] cd)) Q := by
  have hTE := H.1
  have h10 := hTE.1
  by_cases q1 : T p = 113
  · have ecl : clS T p = quS T p := by unfold clS; rw [if_pos q1]
    rw [ecl] at hF hT
    have n1 := eq_true q1
    have e0 := fun K => @c_sign (d + 28) p n cs T h cd nm (nI i) (nI q) K [nI i, nI cs, nI q] H (by omega)
    have e1 := fun K => @c_isWord (d + 23) p n cs T h cd nm (nI i) (nI q) K 1000 wwq [nI i, nI cs, nI q] H hp tx_1000 (ww_ok wwq (Or.inl rfl))
    obtain ⟨w1, w2⟩ := wrd_b hTE wwq p (ww_mem wwq (Or.inl rfl)) hp
    have e2 := fun K => @c_isNumberNext (d + 27) (wrdS T wwq p).2 n cs T h cd nm (nI i) (nI q) K [nI i, nI cs, nI q] H (by omega)
    unfold quS hdS at hF hT
    by_cases qw : (wrdS T wwq p).1 = true
    · have q2 : bI (wrdS T wwq p).1 = 1 := by rw [qw]; rfl
      obtain ⟨m1, m2, m3, m4⟩ := num_b (p := (wrdS T wwq p).2) hTE w2
      rw [if_pos qw] at hF hT
      by_cases c : (numS T (wrdS T wwq p).2).1 = true
      · have c1 : bI (numS T (wrdS T wwq p).2).1 = 1 := by rw [c]; rfl
        rw [if_pos c] at hF hT
        simp only [if_pos c] at e2
        have e4 := fun f75 x z K => @c_endClause (d + 27) i cs h cd f75 x z K h7 h8 hi
        simp (maxDischargeDepth := 20) (maxSteps := 2000000) only [↓reduceIte, pm_WL_nil, bi_900, bi_901, bi_904, bi_905, pm_lget_0, pm_lget_s, pm_oI_s, pm_oA_s, pm_oJ_s, pm_oK_s, pm_oR_s, pm_oO_s, pm_oN_s, pm_oF_s, pm_oM_s, pm_oP_s, pm_pu_n, pm_pu_s, pm_bo_ne, pm_bo_eq, Nat.reduceAdd, Nat.reduceSub, Nat.reduceLT, Nat.reduceLeDiff, Nat.reduceEqDiff, Nat.zero_add, Nat.lt_add_one, Nat.zero_ne_one, Nat.succ_ne_self, List.length_cons, List.length_nil, true_and, and_true, true_or, or_true, false_or, or_false, false_implies, true_implies, implies_true, not_true_eq_false, not_false_eq_true, ne_eq, eq_self, e_Reader_isClause, pm_okW_0, pm_okW_i, pm_okW_r, pm_okW_l, pm_ent_0, pm_ent_i, pm_ent_r, pm_ent_l, List.reduceReplicate, b_Reader_isClause_0, b_Reader_isClause_11, b_Reader_isClause_16, b_Reader_isClause_22, b_Reader_isClause_27, b_Reader_isClause_29, b_Reader_isClause_38, b_Reader_isClause_45, b_Reader_isClause_47, b_Reader_isClause_53, b_Reader_isClause_74, b_Reader_isClause_80, b_Reader_isClause_87, b_Reader_isClause_92, b_Reader_isClause_102, b_Reader_isClause_110, b_Reader_isClause_112, f_aloadn0, iv_15_44_75, kk_n, kk_s, w_istore1, pm_lset_0, pm_lset_1, pm_lset_n, pm_no2_n, pm_no2_i, pm_no2_r, pm_no2_l, f_iloadn1, w_bipush, kb_113, w_icmp_ne, pm_tgt_is, Int.cast_ofNat_Int, Int.reduceNeg, Int.reduceAdd, Int.reduceToNat, Int.zero_add, Int.zero_le_ofNat, Int.reduceLE, if_true, if_false, w_ldc, lg_15, lk_3_48, pm_oC_i, pm_oC_r, w_goto, kb_102, lk_3_50, lk_3_52, w_astore2, f_aloadn2, iv_15_54_75, w_if_eq, nz_1, nz_m1, iv_15_58_75, w_if_ne, w_iconst, ki_0, w_iret, pm_fit_b, pm_fit_0, pm_fit_1, Bool.false_eq_true, gf_15_12_75, gf_15_61_75, pf_15_64_7, pf_15_64_35, pf_15_64_62, pf_15_64_76, iv_15_67_7, iv_15_67_35, iv_15_67_62, iv_15_67_76, ki_1, w_ineg, w_istore3, kb_32, iv_15_40_75, iv_15_71_75, f_iloadn3, hs_75, hs_76, v4_75, v4_76, v4_79, v4_80, v4_u75, v4_u76, v4_u79, gd_0, gd_s, e0, n1, e1, q2, e2, c1, e4]
        refine hT rfl cs _ 0 cd ⟨hc, Nat.le_refl _, ?_, fun _ _ => rfl, fun _ => false, rad_nil, fun cd2 _ f => ?_⟩
        · show cs + p ≤ cs + (numS T (wrdS T wwq p).2).2.1; omega
        · rw [chd_end]
      · have c1 : bI (numS T (wrdS T wwq p).2).1 = 0 := by rw [show (numS T (wrdS T wwq p).2).1 = false by simpa using c]; rfl
        rw [if_neg c] at hF hT
        simp only [if_neg c] at e2
        simp (maxDischargeDepth := 20) (maxSteps := 2000000) only [↓reduceIte, pm_WL_nil, bi_900, bi_901, bi_904, bi_905, pm_lget_0, pm_lget_s, pm_oI_s, pm_oA_s, pm_oJ_s, pm_oK_s, pm_oR_s, pm_oO_s, pm_oN_s, pm_oF_s, pm_oM_s, pm_oP_s, pm_pu_n, pm_pu_s, pm_bo_ne, pm_bo_eq, Nat.reduceAdd, Nat.reduceSub, Nat.reduceLT, Nat.reduceLeDiff, Nat.reduceEqDiff, Nat.zero_add, Nat.lt_add_one, Nat.zero_ne_one, Nat.succ_ne_self, List.length_cons, List.length_nil, true_and, and_true, true_or, or_true, false_or, or_false, false_implies, true_implies, implies_true, not_true_eq_false, not_false_eq_true, ne_eq, eq_self, e_Reader_isClause, pm_okW_0, pm_okW_i, pm_okW_r, pm_okW_l, pm_ent_0, pm_ent_i, pm_ent_r, pm_ent_l, List.reduceReplicate, b_Reader_isClause_0, b_Reader_isClause_11, b_Reader_isClause_16, b_Reader_isClause_22, b_Reader_isClause_27, b_Reader_isClause_29, b_Reader_isClause_38, b_Reader_isClause_45, b_Reader_isClause_47, b_Reader_isClause_53, b_Reader_isClause_74, b_Reader_isClause_80, b_Reader_isClause_87, b_Reader_isClause_92, b_Reader_isClause_102, b_Reader_isClause_110, b_Reader_isClause_112, f_aloadn0, iv_15_44_75, kk_n, kk_s, w_istore1, pm_lset_0, pm_lset_1, pm_lset_n, pm_no2_n, pm_no2_i, pm_no2_r, pm_no2_l, f_iloadn1, w_bipush, kb_113, w_icmp_ne, pm_tgt_is, Int.cast_ofNat_Int, Int.reduceNeg, Int.reduceAdd, Int.reduceToNat, Int.zero_add, Int.zero_le_ofNat, Int.reduceLE, if_true, if_false, w_ldc, lg_15, lk_3_48, pm_oC_i, pm_oC_r, w_goto, kb_102, lk_3_50, lk_3_52, w_astore2, f_aloadn2, iv_15_54_75, w_if_eq, nz_1, nz_m1, iv_15_58_75, w_if_ne, w_iconst, ki_0, w_iret, pm_fit_b, pm_fit_0, pm_fit_1, Bool.false_eq_true, gf_15_12_75, gf_15_61_75, pf_15_64_7, pf_15_64_35, pf_15_64_62, pf_15_64_76, iv_15_67_7, iv_15_67_35, iv_15_67_62, iv_15_67_76, ki_1, w_ineg, w_istore3, kb_32, iv_15_40_75, iv_15_71_75, f_iloadn3, hs_75, hs_76, v4_75, v4_76, v4_79, v4_80, v4_u75, v4_u76, v4_u79, gd_0, gd_s, e0, n1, e1, q2, e2, c1]
        exact hF rfl _ _ cd rfl hc
    · have q2 : bI (wrdS T wwq p).1 = 0 := by rw [show (wrdS T wwq p).1 = false by simpa using qw]; rfl
      rw [if_neg qw, if_neg (fun z => Bool.noConfusion z)] at hF hT
      simp (maxDischargeDepth := 20) (maxSteps := 2000000) only [↓reduceIte, pm_WL_nil, bi_900, bi_901, bi_904, bi_905, pm_lget_0, pm_lget_s, pm_oI_s, pm_oA_s, pm_oJ_s, pm_oK_s, pm_oR_s, pm_oO_s, pm_oN_s, pm_oF_s, pm_oM_s, pm_oP_s, pm_pu_n, pm_pu_s, pm_bo_ne, pm_bo_eq, Nat.reduceAdd, Nat.reduceSub, Nat.reduceLT, Nat.reduceLeDiff, Nat.reduceEqDiff, Nat.zero_add, Nat.lt_add_one, Nat.zero_ne_one, Nat.succ_ne_self, List.length_cons, List.length_nil, true_and, and_true, true_or, or_true, false_or, or_false, false_implies, true_implies, implies_true, not_true_eq_false, not_false_eq_true, ne_eq, eq_self, e_Reader_isClause, pm_okW_0, pm_okW_i, pm_okW_r, pm_okW_l, pm_ent_0, pm_ent_i, pm_ent_r, pm_ent_l, List.reduceReplicate, b_Reader_isClause_0, b_Reader_isClause_11, b_Reader_isClause_16, b_Reader_isClause_22, b_Reader_isClause_27, b_Reader_isClause_29, b_Reader_isClause_38, b_Reader_isClause_45, b_Reader_isClause_47, b_Reader_isClause_53, b_Reader_isClause_74, b_Reader_isClause_80, b_Reader_isClause_87, b_Reader_isClause_92, b_Reader_isClause_102, b_Reader_isClause_110, b_Reader_isClause_112, f_aloadn0, iv_15_44_75, kk_n, kk_s, w_istore1, pm_lset_0, pm_lset_1, pm_lset_n, pm_no2_n, pm_no2_i, pm_no2_r, pm_no2_l, f_iloadn1, w_bipush, kb_113, w_icmp_ne, pm_tgt_is, Int.cast_ofNat_Int, Int.reduceNeg, Int.reduceAdd, Int.reduceToNat, Int.zero_add, Int.zero_le_ofNat, Int.reduceLE, if_true, if_false, w_ldc, lg_15, lk_3_48, pm_oC_i, pm_oC_r, w_goto, kb_102, lk_3_50, lk_3_52, w_astore2, f_aloadn2, iv_15_54_75, w_if_eq, nz_1, nz_m1, iv_15_58_75, w_if_ne, w_iconst, ki_0, w_iret, pm_fit_b, pm_fit_0, pm_fit_1, Bool.false_eq_true, gf_15_12_75, gf_15_61_75, pf_15_64_7, pf_15_64_35, pf_15_64_62, pf_15_64_76, iv_15_67_7, iv_15_67_35, iv_15_67_62, iv_15_67_76, ki_1, w_ineg, w_istore3, kb_32, iv_15_40_75, iv_15_71_75, f_iloadn3, hs_75, hs_76, v4_75, v4_76, v4_79, v4_80, v4_u75, v4_u76, v4_u79, gd_0, gd_s, e0, n1, e1, q2]
      exact hF rfl _ _ cd rfl hc
  · by_cases q2 : T p = 102
    · have ecl : clS T p = vtS T wwf (-10) p := by unfold clS; rw [if_neg q1, if_pos q2]
      rw [ecl] at hF hT
      exact k_vote H hc hp hcs h7 h8 hi (Or.inl ⟨q2, rfl, rfl⟩) tx_1001 _ (by rw [if_pos q2]) hF hT
    · by_cases q3 : T p = 114
      · have ecl : clS T p = vtS T wwr (-200) p := by unfold clS; rw [if_neg q1, if_neg q2, if_pos q3]
        rw [ecl] at hF hT
        exact k_vote H hc hp hcs h7 h8 hi (Or.inr ⟨q1, q2, rfl, rfl⟩) tx_1002 _ (by rw [if_neg q2]) hF hT
      · have ecl : clS T p = (false, p, [], none) := by unfold clS; rw [if_neg q1, if_neg q2, if_neg q3]
        have ev : vtS T wwr (-200) p = (false, p, [], none) := by
          unfold vtS hdS wwr wrdS
          rw [if_neg q3]; rfl
        rw [ecl] at hF hT
        rw [← ev] at hF hT
        exact k_vote H hc hp hcs h7 h8 hi (Or.inr ⟨q1, q2, rfl, rfl⟩) tx_1002 _ (by rw [if_neg q2]) hF hT
/-- what the class has read so far -/
def CI (fac ends cd : List Int32) (i cs : Nat) (L : List Int32) : Prop := fac.length = 10 ∧ ends.length = 10 ∧ cd.length = 100 ∧ (if i = 0 then 0 else nN ends (i - 1)) = cs ∧ cs ≤ 100 ∧ (∀ j, j < i → gd ends j = nI (nN ends j) ∧ nN ends j ≤ 100)
  ∧ (∀ fac2 ends2 cd2 : List Int32, (∀ j, j < i → gd fac2 j = gd fac j ∧ gd ends2 j = gd ends j) → (∀ j, j < cs → gd cd2 j = gd cd j) → ∀ f, csum fac2 ends2 cd2 f i = rrun f L [] 0) ∧ (∀ f r, rrun f (L ++ r) [] 0 = rrun f r [] (rrun f L [] 0)) ∧ (∀ r, rok r 0 → rok (L ++ r) 0)
theorem ci_0 {fac ends cd : List Int32} (h1 : fac.length = 10) (h2 : ends.length = 10) (h3 : cd.length = 100) : CI fac ends cd 0 0 [] := ⟨h1, h2, h3, if_pos rfl, by omega, fun j hj => absurd hj (by omega), fun _ _ _ _ _ f => rfl, fun f r => rfl, fun r h => h⟩
theorem ci_s {fac ends cd cd' L : List Int32} {i cs cs' p : Nat} {r : bC} {x : Int32} (hc : CI fac ends cd i cs L) (hp : CLP cs cs' p r x cd cd') (hi : i < 10) (hcs : cs' ≤ 100) : CI (fac.set i x) (ends.set i (nI cs')) cd' (i + 1) cs' (L ++ r.2.2.1) := by
  obtain ⟨c1, c2, c3, c4, c5, c6, c7, c8, c9⟩ := hc
  obtain ⟨p1, p2, p3, p4, e, ⟨r1, r2⟩, p5⟩ := hp
  have en : nN (ends.set i (nI cs')) i = cs' := nN_eq (by omega) (by omega)
  have ad : ∀ f, rrun f (L ++ r.2.2.1) [] 0 = rrun f L [] 0 + (if e f = true then x else 0) := fun f => by
    have := r1 f [] (rrun f L [] 0)
    rw [List.append_nil] at this
    rw [c8, this]; rfl
  refine ⟨by rw [len_set, c1], by rw [len_set, c2], p1, ?_, hcs, fun j hj => ?_, fun fac2 ends2 cd2 h1 h2 f => ?_, fun f r0 => ?_, fun r0 h0 => ?_⟩
  · rw [if_neg (by omega), Nat.add_sub_cancel, en]
  · by_cases z : j = i
    · rw [z, en, gd_eq (by omega)]; exact ⟨rfl, hcs⟩
    · rw [gd_ne z, nN_ne z]; exact c6 j (by omega)
  · have g1 : ∀ j, j < i → gd fac2 j = gd fac j ∧ gd ends2 j = gd ends j := fun j hj => by
      have := h1 j (by omega)
      rw [gd_ne (by omega), gd_ne (by omega)] at this
      exact this
    have g2 := h1 i (by omega)
    rw [gd_eq (by omega), gd_eq (by omega)] at g2
    have ne2 : nN ends2 i = cs' := by unfold nN; rw [g2.2, ni_nat (by omega)]
    have st : (if i = 0 then 0 else nN ends2 (i - 1)) = cs := by
      rw [← c4]
      by_cases z : i = 0
      · rw [if_pos z, if_pos z]
      · rw [if_neg z, if_neg z]; unfold nN; rw [(g1 (i - 1) (by omega)).2]
    rw [csum, c7 fac2 ends2 cd2 g1 (fun j hj => by rw [h2 j (by omega), p4 j hj]) f, st, ne2, g2.1, ad f, p5 cd2 (fun j _ hj => h2 j hj) f]
  · rw [List.append_assoc, c8, r1 f r0 (rrun f L [] 0), ad f]
  · rw [List.append_assoc]; exact c9 _ (r2 r0 h0)
theorem ch_cg {T : Nat → Int32} {n : Nat} {h h1 : Nat → List Int32} (H : CH T n h) (e : h1 80 = h 80) : CH T n h1 := ⟨H.1, by rw [e]; exact H.2.1, fun p hp => by rw [e]; exact H.2.2 p hp⟩
/-- the clauses of the class, from the i-th on -/
theorem k_clauses {T : Nat → Int32} {d n : Nat} {h : Nat → List Int32} {x2 : Int32} {Q : Option Value → pm_S → Prop} (H : CH T n h) : ∀ (k i p cs q : Nat) (nm : Int32) (cd L fac ends : List Int32), i + k = 10 → 1 ≤ i → p ≤ n → cs ≤ p → CI fac ends cd (i - 1) cs L →
    (¬ ((brM T (k + 1) p q).1 = true ∧ (brM T (k + 1) p q).2.1 = n) → ∀ (f76 : List Int32) (nm' : Int32) (cd' fac' ends' : List Int32), f76.length = 3 → cd'.length = 100 → fac'.length = 10 → ends'.length = 10 → Q (some (.int 0)) (mk (V4 (up (up h 77 fac') 78 ends') [nI (brM T (k + 1) p q).2.1, nI n, nm'] f76 cd'))) →
    ((brM T (k + 1) p q).1 = true → (brM T (k + 1) p q).2.1 = n → ∀ (i' cs' : Nat) (nm' : Int32) (cd' fac' ends' : List Int32), i' ≤ 10 → CI fac' ends' cd' i' cs' (L ++ (brM T (k + 1) p q).2.2.1) → Q (some (.int 1)) (mk (V4 (up (up h 77 fac') 78 ends') [nI n, nI n, nm'] [nI i', nI cs', nI (brM T (k + 1) p q).2.2.2] cd'))) →
    pm_W fqP (d + 30) 14 27 [some (.ref 75), some (.ref 20), some (.int x2), some (.int (nI i))] [] (mk (V4 (up (up h 77 fac) 78 ends) [nI p, nI n, nm] [nI (i - 1), nI cs, nI q] cd)) Q := by
  have hTE := H.1
  have h10 := hTE.1
  have uu : ∀ a b c e : List Int32, up (up (up (up h 77 a) 78 b) 77 c) 78 e = up (up h 77 c) 78 e := fun a b c e => by rw [up_cm (k := 78) (j := 77) (by decide), up_up, up_up]
  intro k
  induction k with
  | zero =>
    intro i p cs q nm cd L fac ends hi h1 hp hcs hci hB hG
    have i10 : i = 10 := by omega
    subst i10
    have e1 : ((10 : Int32) < nI 10) = False := eq_false (by decide)
    have e9 : (nI 10 = 10) = True := eq_true rfl
    obtain ⟨c1, c2, c3, c4, c5⟩ := cl_b hTE hp
    rw [brM, if_neg (by omega)] at hB hG
    rw [b_Reader_reads_27]
    simp (maxDischargeDepth := 20) (maxSteps := 2000000) only [↓reduceIte, pm_WL_nil, bi_900, bi_901, bi_904, bi_905, pm_lget_0, pm_lget_s, pm_oI_s, pm_oA_s, pm_oJ_s, pm_oK_s, pm_oR_s, pm_oO_s, pm_oN_s, pm_oF_s, pm_oM_s, pm_oP_s, pm_pu_n, pm_pu_s, pm_bo_ne, pm_bo_eq, Nat.reduceAdd, Nat.reduceSub, Nat.reduceLT, Nat.reduceLeDiff, Nat.reduceEqDiff, Nat.zero_add, Nat.lt_add_one, Nat.zero_ne_one, Nat.succ_ne_self, List.length_cons, List.length_nil, true_and, and_true, true_or, or_true, false_or, or_false, false_implies, true_implies, implies_true, not_true_eq_false, not_false_eq_true, ne_eq, eq_self, e_Reader_reads, pm_okW_0, pm_okW_i, pm_okW_r, pm_okW_l, pm_ent_0, pm_ent_i, pm_ent_r, pm_ent_l, List.reduceReplicate, b_Reader_reads_0, b_Reader_reads_33, b_Reader_reads_40, b_Reader_reads_42, b_Reader_reads_53, b_Reader_reads_55, b_Reader_reads_61, b_Reader_reads_70, b_Reader_reads_72, b_Reader_reads_78, f_aloadn1, f_aloadn0, gf_14_18_75, iv_14_22, kk_n, kk_s, f_iloadn2, pf_14_26_75, pm_fit_b, pm_fit_0, pm_fit_1, w_iconst, ki_0, pf_14_30_75, gf_14_12_75, iv_14_33_7, iv_14_33_35, iv_14_33_62, iv_14_33_76, ki_1, w_istore3, pm_lset_0, pm_lset_1, pm_lset_n, pm_no2_n, pm_no2_i, pm_no2_r, pm_no2_l, f_iloadn3, w_bipush, kb_10, w_icmp_gt, pm_tgt_is, Int.cast_ofNat_Int, Int.reduceNeg, Int.reduceAdd, Int.reduceToNat, Int.zero_add, Int.zero_le_ofNat, Int.reduceLE, if_true, if_false, iv_14_36_75, w_if_ne, nz_1, nz_m1, w_iret, lg_14, Bool.false_eq_true, gf_14_30_75, gf_14_26_75, w_icmp_lt, w_icmp_eq, kb_59, iv_14_40_75, f_iinc3, w_goto, hs_75, e1]
    refine k_clause (ch_cg H (by rw [up_ne (by decide), up_ne (by decide)])) hci.2.2.1 hp hcs (by rw [up_ne (by decide), up_at]; exact hci.1) (by rw [up_at]; exact hci.2.1) (by omega) ?_ ?_
    · intro o f76 nm' cd' h3 h4
      simp only [kk_s]
      simp (maxDischargeDepth := 20) (maxSteps := 2000000) only [↓reduceIte, pm_WL_nil, bi_900, bi_901, bi_904, bi_905, pm_lget_0, pm_lget_s, pm_oI_s, pm_oA_s, pm_oJ_s, pm_oK_s, pm_oR_s, pm_oO_s, pm_oN_s, pm_oF_s, pm_oM_s, pm_oP_s, pm_pu_n, pm_pu_s, pm_bo_ne, pm_bo_eq, Nat.reduceAdd, Nat.reduceSub, Nat.reduceLT, Nat.reduceLeDiff, Nat.reduceEqDiff, Nat.zero_add, Nat.lt_add_one, Nat.zero_ne_one, Nat.succ_ne_self, List.length_cons, List.length_nil, true_and, and_true, true_or, or_true, false_or, or_false, false_implies, true_implies, implies_true, not_true_eq_false, not_false_eq_true, ne_eq, eq_self, e_Reader_reads, pm_okW_0, pm_okW_i, pm_okW_r, pm_okW_l, pm_ent_0, pm_ent_i, pm_ent_r, pm_ent_l, List.reduceReplicate, b_Reader_reads_0, b_Reader_reads_33, b_Reader_reads_40, b_Reader_reads_42, b_Reader_reads_53, b_Reader_reads_55, b_Reader_reads_61, b_Reader_reads_70, b_Reader_reads_72, b_Reader_reads_78, f_aloadn1, f_aloadn0, gf_14_18_75, iv_14_22, kk_n, kk_s, f_iloadn2, pf_14_26_75, pm_fit_b, pm_fit_0, pm_fit_1, w_iconst, ki_0, pf_14_30_75, gf_14_12_75, iv_14_33_7, iv_14_33_35, iv_14_33_62, iv_14_33_76, ki_1, w_istore3, pm_lset_0, pm_lset_1, pm_lset_n, pm_no2_n, pm_no2_i, pm_no2_r, pm_no2_l, f_iloadn3, w_bipush, kb_10, w_icmp_gt, pm_tgt_is, Int.cast_ofNat_Int, Int.reduceNeg, Int.reduceAdd, Int.reduceToNat, Int.zero_add, Int.zero_le_ofNat, Int.reduceLE, if_true, if_false, iv_14_36_75, w_if_ne, nz_1, nz_m1, w_iret, lg_14, Bool.false_eq_true, gf_14_30_75, gf_14_26_75, w_icmp_lt, w_icmp_eq, kb_59, iv_14_40_75, f_iinc3, w_goto, hs_75]
      exact hB (fun z => by rw [o] at z; exact Bool.noConfusion z.1) f76 nm' cd' fac ends h3 h4 hci.1 hci.2.1
    · intro o cs' nm' x cd' hp2
      have c6 := c4 o
      rw [up_at, up_ne (by decide), up_at, uu]
      have hcs' : cs' ≤ 100 := by have := hp2.2.2.1; omega
      have hci2 := ci_s hci hp2 (by omega) hcs'
      by_cases z : n ≤ (clS T p).2.1
      · have z1 : (nI (clS T p).2.1 < nI n) = False := by rw [ni_lt (by omega) (by omega)]; exact eq_false (by omega)
        simp only [kk_s]
        simp (maxDischargeDepth := 20) (maxSteps := 2000000) only [↓reduceIte, pm_WL_nil, bi_900, bi_901, bi_904, bi_905, pm_lget_0, pm_lget_s, pm_oI_s, pm_oA_s, pm_oJ_s, pm_oK_s, pm_oR_s, pm_oO_s, pm_oN_s, pm_oF_s, pm_oM_s, pm_oP_s, pm_pu_n, pm_pu_s, pm_bo_ne, pm_bo_eq, Nat.reduceAdd, Nat.reduceSub, Nat.reduceLT, Nat.reduceLeDiff, Nat.reduceEqDiff, Nat.zero_add, Nat.lt_add_one, Nat.zero_ne_one, Nat.succ_ne_self, List.length_cons, List.length_nil, true_and, and_true, true_or, or_true, false_or, or_false, false_implies, true_implies, implies_true, not_true_eq_false, not_false_eq_true, ne_eq, eq_self, e_Reader_reads, pm_okW_0, pm_okW_i, pm_okW_r, pm_okW_l, pm_ent_0, pm_ent_i, pm_ent_r, pm_ent_l, List.reduceReplicate, b_Reader_reads_0, b_Reader_reads_33, b_Reader_reads_40, b_Reader_reads_42, b_Reader_reads_53, b_Reader_reads_55, b_Reader_reads_61, b_Reader_reads_70, b_Reader_reads_72, b_Reader_reads_78, f_aloadn1, f_aloadn0, gf_14_18_75, iv_14_22, kk_n, kk_s, f_iloadn2, pf_14_26_75, pm_fit_b, pm_fit_0, pm_fit_1, w_iconst, ki_0, pf_14_30_75, gf_14_12_75, iv_14_33_7, iv_14_33_35, iv_14_33_62, iv_14_33_76, ki_1, w_istore3, pm_lset_0, pm_lset_1, pm_lset_n, pm_no2_n, pm_no2_i, pm_no2_r, pm_no2_l, f_iloadn3, w_bipush, kb_10, w_icmp_gt, pm_tgt_is, Int.cast_ofNat_Int, Int.reduceNeg, Int.reduceAdd, Int.reduceToNat, Int.zero_add, Int.zero_le_ofNat, Int.reduceLE, if_true, if_false, iv_14_36_75, w_if_ne, nz_1, nz_m1, w_iret, lg_14, Bool.false_eq_true, gf_14_30_75, gf_14_26_75, w_icmp_lt, w_icmp_eq, kb_59, iv_14_40_75, f_iinc3, w_goto, hs_75, v4_75, v4_76, v4_79, v4_80, v4_u75, v4_u76, v4_u79, gd_0, gd_s, z1]
        have := hG o (by show (clS T p).2.1 = n; omega) 10 cs' nm' cd' (fac.set (10 - 1) x) (ends.set (10 - 1) (nI cs')) (by omega) hci2
        rw [show (clS T p).2.1 = n by omega]
        exact this
      · have z1 : (nI (clS T p).2.1 < nI n) = True := by rw [ni_lt (by omega) (by omega)]; exact eq_true (by omega)
        simp only [kk_s]
        simp (maxDischargeDepth := 20) (maxSteps := 2000000) only [↓reduceIte, pm_WL_nil, bi_900, bi_901, bi_904, bi_905, pm_lget_0, pm_lget_s, pm_oI_s, pm_oA_s, pm_oJ_s, pm_oK_s, pm_oR_s, pm_oO_s, pm_oN_s, pm_oF_s, pm_oM_s, pm_oP_s, pm_pu_n, pm_pu_s, pm_bo_ne, pm_bo_eq, Nat.reduceAdd, Nat.reduceSub, Nat.reduceLT, Nat.reduceLeDiff, Nat.reduceEqDiff, Nat.zero_add, Nat.lt_add_one, Nat.zero_ne_one, Nat.succ_ne_self, List.length_cons, List.length_nil, true_and, and_true, true_or, or_true, false_or, or_false, false_implies, true_implies, implies_true, not_true_eq_false, not_false_eq_true, ne_eq, eq_self, e_Reader_reads, pm_okW_0, pm_okW_i, pm_okW_r, pm_okW_l, pm_ent_0, pm_ent_i, pm_ent_r, pm_ent_l, List.reduceReplicate, b_Reader_reads_0, b_Reader_reads_33, b_Reader_reads_40, b_Reader_reads_42, b_Reader_reads_53, b_Reader_reads_55, b_Reader_reads_61, b_Reader_reads_70, b_Reader_reads_72, b_Reader_reads_78, f_aloadn1, f_aloadn0, gf_14_18_75, iv_14_22, kk_n, kk_s, f_iloadn2, pf_14_26_75, pm_fit_b, pm_fit_0, pm_fit_1, w_iconst, ki_0, pf_14_30_75, gf_14_12_75, iv_14_33_7, iv_14_33_35, iv_14_33_62, iv_14_33_76, ki_1, w_istore3, pm_lset_0, pm_lset_1, pm_lset_n, pm_no2_n, pm_no2_i, pm_no2_r, pm_no2_l, f_iloadn3, w_bipush, kb_10, w_icmp_gt, pm_tgt_is, Int.cast_ofNat_Int, Int.reduceNeg, Int.reduceAdd, Int.reduceToNat, Int.zero_add, Int.zero_le_ofNat, Int.reduceLE, if_true, if_false, iv_14_36_75, w_if_ne, nz_1, nz_m1, w_iret, lg_14, Bool.false_eq_true, gf_14_30_75, gf_14_26_75, w_icmp_lt, w_icmp_eq, kb_59, iv_14_40_75, f_iinc3, w_goto, hs_75, v4_75, v4_76, v4_79, v4_80, v4_u75, v4_u76, v4_u79, gd_0, gd_s, z1, e9]
        exact hB (fun y => by have := y.2; simp only at this; omega) [nI 10, nI cs', nI (qo q (clS T p))] nm' cd' (fac.set (10 - 1) x) (ends.set (10 - 1) (nI cs')) rfl hp2.1 (by rw [len_set]; exact hci.1) (by rw [len_set]; exact hci.2.1)
  | succ k ih =>
    intro i p cs q nm cd L fac ends hi h1 hp hcs hci hB hG
    have e1 : ((10 : Int32) < nI i) = False := by rw [li_lt 10 i (by omega) (by omega)]; exact eq_false (by omega)
    have e9 : (nI i = 10) = False := by rw [il_eq 10 i (by omega) (by omega)]; exact eq_false (by omega)
    obtain ⟨c1, c2, c3, c4, c5⟩ := cl_b hTE hp
    rw [b_Reader_reads_27]
    simp (maxDischargeDepth := 20) (maxSteps := 2000000) only [↓reduceIte, pm_WL_nil, bi_900, bi_901, bi_904, bi_905, pm_lget_0, pm_lget_s, pm_oI_s, pm_oA_s, pm_oJ_s, pm_oK_s, pm_oR_s, pm_oO_s, pm_oN_s, pm_oF_s, pm_oM_s, pm_oP_s, pm_pu_n, pm_pu_s, pm_bo_ne, pm_bo_eq, Nat.reduceAdd, Nat.reduceSub, Nat.reduceLT, Nat.reduceLeDiff, Nat.reduceEqDiff, Nat.zero_add, Nat.lt_add_one, Nat.zero_ne_one, Nat.succ_ne_self, List.length_cons, List.length_nil, true_and, and_true, true_or, or_true, false_or, or_false, false_implies, true_implies, implies_true, not_true_eq_false, not_false_eq_true, ne_eq, eq_self, e_Reader_reads, pm_okW_0, pm_okW_i, pm_okW_r, pm_okW_l, pm_ent_0, pm_ent_i, pm_ent_r, pm_ent_l, List.reduceReplicate, b_Reader_reads_0, b_Reader_reads_33, b_Reader_reads_40, b_Reader_reads_42, b_Reader_reads_53, b_Reader_reads_55, b_Reader_reads_61, b_Reader_reads_70, b_Reader_reads_72, b_Reader_reads_78, f_aloadn1, f_aloadn0, gf_14_18_75, iv_14_22, kk_n, kk_s, f_iloadn2, pf_14_26_75, pm_fit_b, pm_fit_0, pm_fit_1, w_iconst, ki_0, pf_14_30_75, gf_14_12_75, iv_14_33_7, iv_14_33_35, iv_14_33_62, iv_14_33_76, ki_1, w_istore3, pm_lset_0, pm_lset_1, pm_lset_n, pm_no2_n, pm_no2_i, pm_no2_r, pm_no2_l, f_iloadn3, w_bipush, kb_10, w_icmp_gt, pm_tgt_is, Int.cast_ofNat_Int, Int.reduceNeg, Int.reduceAdd, Int.reduceToNat, Int.zero_add, Int.zero_le_ofNat, Int.reduceLE, if_true, if_false, iv_14_36_75, w_if_ne, nz_1, nz_m1, w_iret, lg_14, Bool.false_eq_true, gf_14_30_75, gf_14_26_75, w_icmp_lt, w_icmp_eq, kb_59, iv_14_40_75, f_iinc3, w_goto, hs_75, e1]
    refine k_clause (ch_cg H (by rw [up_ne (by decide), up_ne (by decide)])) hci.2.2.1 hp hcs (by rw [up_ne (by decide), up_at]; exact hci.1) (by rw [up_at]; exact hci.2.1) (by omega) ?_ ?_
    · intro o f76 nm' cd' h3 h4
      rw [brM, if_neg (fun y => by rw [o] at y; exact Bool.noConfusion y.1)] at hB
      simp only [kk_s]
      simp (maxDischargeDepth := 20) (maxSteps := 2000000) only [↓reduceIte, pm_WL_nil, bi_900, bi_901, bi_904, bi_905, pm_lget_0, pm_lget_s, pm_oI_s, pm_oA_s, pm_oJ_s, pm_oK_s, pm_oR_s, pm_oO_s, pm_oN_s, pm_oF_s, pm_oM_s, pm_oP_s, pm_pu_n, pm_pu_s, pm_bo_ne, pm_bo_eq, Nat.reduceAdd, Nat.reduceSub, Nat.reduceLT, Nat.reduceLeDiff, Nat.reduceEqDiff, Nat.zero_add, Nat.lt_add_one, Nat.zero_ne_one, Nat.succ_ne_self, List.length_cons, List.length_nil, true_and, and_true, true_or, or_true, false_or, or_false, false_implies, true_implies, implies_true, not_true_eq_false, not_false_eq_true, ne_eq, eq_self, e_Reader_reads, pm_okW_0, pm_okW_i, pm_okW_r, pm_okW_l, pm_ent_0, pm_ent_i, pm_ent_r, pm_ent_l, List.reduceReplicate, b_Reader_reads_0, b_Reader_reads_33, b_Reader_reads_40, b_Reader_reads_42, b_Reader_reads_53, b_Reader_reads_55, b_Reader_reads_61, b_Reader_reads_70, b_Reader_reads_72, b_Reader_reads_78, f_aloadn1, f_aloadn0, gf_14_18_75, iv_14_22, kk_n, kk_s, f_iloadn2, pf_14_26_75, pm_fit_b, pm_fit_0, pm_fit_1, w_iconst, ki_0, pf_14_30_75, gf_14_12_75, iv_14_33_7, iv_14_33_35, iv_14_33_62, iv_14_33_76, ki_1, w_istore3, pm_lset_0, pm_lset_1, pm_lset_n, pm_no2_n, pm_no2_i, pm_no2_r, pm_no2_l, f_iloadn3, w_bipush, kb_10, w_icmp_gt, pm_tgt_is, Int.cast_ofNat_Int, Int.reduceNeg, Int.reduceAdd, Int.reduceToNat, Int.zero_add, Int.zero_le_ofNat, Int.reduceLE, if_true, if_false, iv_14_36_75, w_if_ne, nz_1, nz_m1, w_iret, lg_14, Bool.false_eq_true, gf_14_30_75, gf_14_26_75, w_icmp_lt, w_icmp_eq, kb_59, iv_14_40_75, f_iinc3, w_goto, hs_75]
      exact hB (fun z => by rw [o] at z; exact Bool.noConfusion z.1) f76 nm' cd' fac ends h3 h4 hci.1 hci.2.1
    · intro o cs' nm' x cd' hp2
      have c6 := c4 o
      rw [up_at, up_ne (by decide), up_at, uu, show i - 1 + 1 = i by omega]
      have hcs' : cs' ≤ 100 := by have := hp2.2.2.1; omega
      have hci2 := ci_s hci hp2 (by omega) hcs'
      rw [show i - 1 + 1 = i by omega] at hci2
      by_cases z : n ≤ (clS T p).2.1
      · have z1 : (nI (clS T p).2.1 < nI n) = False := by rw [ni_lt (by omega) (by omega)]; exact eq_false (by omega)
        have nT : ¬ T (clS T p).2.1 = 59 := fun y => absurd (tp_lt (c := 59) hTE (by omega) y) (by omega)
        rw [brM, if_neg (fun y => nT y.2.1)] at hG
        simp only [kk_s]
        simp (maxDischargeDepth := 20) (maxSteps := 2000000) only [↓reduceIte, pm_WL_nil, bi_900, bi_901, bi_904, bi_905, pm_lget_0, pm_lget_s, pm_oI_s, pm_oA_s, pm_oJ_s, pm_oK_s, pm_oR_s, pm_oO_s, pm_oN_s, pm_oF_s, pm_oM_s, pm_oP_s, pm_pu_n, pm_pu_s, pm_bo_ne, pm_bo_eq, Nat.reduceAdd, Nat.reduceSub, Nat.reduceLT, Nat.reduceLeDiff, Nat.reduceEqDiff, Nat.zero_add, Nat.lt_add_one, Nat.zero_ne_one, Nat.succ_ne_self, List.length_cons, List.length_nil, true_and, and_true, true_or, or_true, false_or, or_false, false_implies, true_implies, implies_true, not_true_eq_false, not_false_eq_true, ne_eq, eq_self, e_Reader_reads, pm_okW_0, pm_okW_i, pm_okW_r, pm_okW_l, pm_ent_0, pm_ent_i, pm_ent_r, pm_ent_l, List.reduceReplicate, b_Reader_reads_0, b_Reader_reads_33, b_Reader_reads_40, b_Reader_reads_42, b_Reader_reads_53, b_Reader_reads_55, b_Reader_reads_61, b_Reader_reads_70, b_Reader_reads_72, b_Reader_reads_78, f_aloadn1, f_aloadn0, gf_14_18_75, iv_14_22, kk_n, kk_s, f_iloadn2, pf_14_26_75, pm_fit_b, pm_fit_0, pm_fit_1, w_iconst, ki_0, pf_14_30_75, gf_14_12_75, iv_14_33_7, iv_14_33_35, iv_14_33_62, iv_14_33_76, ki_1, w_istore3, pm_lset_0, pm_lset_1, pm_lset_n, pm_no2_n, pm_no2_i, pm_no2_r, pm_no2_l, f_iloadn3, w_bipush, kb_10, w_icmp_gt, pm_tgt_is, Int.cast_ofNat_Int, Int.reduceNeg, Int.reduceAdd, Int.reduceToNat, Int.zero_add, Int.zero_le_ofNat, Int.reduceLE, if_true, if_false, iv_14_36_75, w_if_ne, nz_1, nz_m1, w_iret, lg_14, Bool.false_eq_true, gf_14_30_75, gf_14_26_75, w_icmp_lt, w_icmp_eq, kb_59, iv_14_40_75, f_iinc3, w_goto, hs_75, v4_75, v4_76, v4_79, v4_80, v4_u75, v4_u76, v4_u79, gd_0, gd_s, z1]
        have := hG o (by show (clS T p).2.1 = n; omega) i cs' nm' cd' (fac.set (i - 1) x) (ends.set (i - 1) (nI cs')) (by omega) hci2
        rw [show (clS T p).2.1 = n by omega]
        exact this
      · have z1 : (nI (clS T p).2.1 < nI n) = True := by rw [ni_lt (by omega) (by omega)]; exact eq_true (by omega)
        have H2 : CH T n (up (up h 77 (fac.set (i - 1) x)) 78 (ends.set (i - 1) (nI cs'))) := ch_cg H (by rw [up_ne (by decide), up_ne (by decide)])
        by_cases y : T (clS T p).2.1 = 59
        · have e3 := fun f76 K => @c_takes_y (d + 28) (clS T p).2.1 n cs' T _ cd' nm' 0 0 K 59 f76 H2 (by omega) y
          rw [brM, if_pos ⟨o, y, by omega⟩] at hB hG
          simp only [kk_s]
          simp (maxDischargeDepth := 20) (maxSteps := 2000000) only [↓reduceIte, pm_WL_nil, bi_900, bi_901, bi_904, bi_905, pm_lget_0, pm_lget_s, pm_oI_s, pm_oA_s, pm_oJ_s, pm_oK_s, pm_oR_s, pm_oO_s, pm_oN_s, pm_oF_s, pm_oM_s, pm_oP_s, pm_pu_n, pm_pu_s, pm_bo_ne, pm_bo_eq, Nat.reduceAdd, Nat.reduceSub, Nat.reduceLT, Nat.reduceLeDiff, Nat.reduceEqDiff, Nat.zero_add, Nat.lt_add_one, Nat.zero_ne_one, Nat.succ_ne_self, List.length_cons, List.length_nil, true_and, and_true, true_or, or_true, false_or, or_false, false_implies, true_implies, implies_true, not_true_eq_false, not_false_eq_true, ne_eq, eq_self, e_Reader_reads, pm_okW_0, pm_okW_i, pm_okW_r, pm_okW_l, pm_ent_0, pm_ent_i, pm_ent_r, pm_ent_l, List.reduceReplicate, b_Reader_reads_0, b_Reader_reads_33, b_Reader_reads_40, b_Reader_reads_42, b_Reader_reads_53, b_Reader_reads_55, b_Reader_reads_61, b_Reader_reads_70, b_Reader_reads_72, b_Reader_reads_78, f_aloadn1, f_aloadn0, gf_14_18_75, iv_14_22, kk_n, kk_s, f_iloadn2, pf_14_26_75, pm_fit_b, pm_fit_0, pm_fit_1, w_iconst, ki_0, pf_14_30_75, gf_14_12_75, iv_14_33_7, iv_14_33_35, iv_14_33_62, iv_14_33_76, ki_1, w_istore3, pm_lset_0, pm_lset_1, pm_lset_n, pm_no2_n, pm_no2_i, pm_no2_r, pm_no2_l, f_iloadn3, w_bipush, kb_10, w_icmp_gt, pm_tgt_is, Int.cast_ofNat_Int, Int.reduceNeg, Int.reduceAdd, Int.reduceToNat, Int.zero_add, Int.zero_le_ofNat, Int.reduceLE, if_true, if_false, iv_14_36_75, w_if_ne, nz_1, nz_m1, w_iret, lg_14, Bool.false_eq_true, gf_14_30_75, gf_14_26_75, w_icmp_lt, w_icmp_eq, kb_59, iv_14_40_75, f_iinc3, w_goto, hs_75, v4_75, v4_76, v4_79, v4_80, v4_u75, v4_u76, v4_u79, gd_0, gd_s, z1, e9, e3, ni_1]
          have := ih (i + 1) ((clS T p).2.1 + 1) cs' (qo q (clS T p)) nm' cd' (L ++ (clS T p).2.2.1) _ _ (by omega) (by omega) (by omega) (by have := hp2.2.2.1; omega) (by rw [Nat.add_sub_cancel]; exact hci2) hB (by
            intro g1 g2 i' cs2 nm2 cd2 fac2 ends2 g3 g4
            rw [List.append_assoc] at g4
            exact hG g1 g2 i' cs2 nm2 cd2 fac2 ends2 g3 g4)
          rw [Nat.add_sub_cancel] at this
          exact this
        · have e3 := fun f76 K => @c_takes_n (d + 28) (clS T p).2.1 n cs' T _ cd' nm' 0 0 K 59 f76 H2 (by omega) y
          rw [brM, if_neg (fun z => y z.2.1)] at hB
          simp only [kk_s]
          simp (maxDischargeDepth := 20) (maxSteps := 2000000) only [↓reduceIte, pm_WL_nil, bi_900, bi_901, bi_904, bi_905, pm_lget_0, pm_lget_s, pm_oI_s, pm_oA_s, pm_oJ_s, pm_oK_s, pm_oR_s, pm_oO_s, pm_oN_s, pm_oF_s, pm_oM_s, pm_oP_s, pm_pu_n, pm_pu_s, pm_bo_ne, pm_bo_eq, Nat.reduceAdd, Nat.reduceSub, Nat.reduceLT, Nat.reduceLeDiff, Nat.reduceEqDiff, Nat.zero_add, Nat.lt_add_one, Nat.zero_ne_one, Nat.succ_ne_self, List.length_cons, List.length_nil, true_and, and_true, true_or, or_true, false_or, or_false, false_implies, true_implies, implies_true, not_true_eq_false, not_false_eq_true, ne_eq, eq_self, e_Reader_reads, pm_okW_0, pm_okW_i, pm_okW_r, pm_okW_l, pm_ent_0, pm_ent_i, pm_ent_r, pm_ent_l, List.reduceReplicate, b_Reader_reads_0, b_Reader_reads_33, b_Reader_reads_40, b_Reader_reads_42, b_Reader_reads_53, b_Reader_reads_55, b_Reader_reads_61, b_Reader_reads_70, b_Reader_reads_72, b_Reader_reads_78, f_aloadn1, f_aloadn0, gf_14_18_75, iv_14_22, kk_n, kk_s, f_iloadn2, pf_14_26_75, pm_fit_b, pm_fit_0, pm_fit_1, w_iconst, ki_0, pf_14_30_75, gf_14_12_75, iv_14_33_7, iv_14_33_35, iv_14_33_62, iv_14_33_76, ki_1, w_istore3, pm_lset_0, pm_lset_1, pm_lset_n, pm_no2_n, pm_no2_i, pm_no2_r, pm_no2_l, f_iloadn3, w_bipush, kb_10, w_icmp_gt, pm_tgt_is, Int.cast_ofNat_Int, Int.reduceNeg, Int.reduceAdd, Int.reduceToNat, Int.zero_add, Int.zero_le_ofNat, Int.reduceLE, if_true, if_false, iv_14_36_75, w_if_ne, nz_1, nz_m1, w_iret, lg_14, Bool.false_eq_true, gf_14_30_75, gf_14_26_75, w_icmp_lt, w_icmp_eq, kb_59, iv_14_40_75, f_iinc3, w_goto, hs_75, v4_75, v4_76, v4_79, v4_80, v4_u75, v4_u76, v4_u79, gd_0, gd_s, z1, e9, e3]
          exact hB (fun y => by have := y.2; simp only at this; omega) [nI i, nI cs', nI (qo q (clS T p))] nm' cd' (fac.set (i - 1) x) (ends.set (i - 1) (nI cs')) rfl hp2.1 (by rw [len_set]; exact hci.1) (by rw [len_set]; exact hci.2.1)
