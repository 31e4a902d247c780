/-! helpers of the runs: locals, operands, constants, entries -/
theorem pm_lget_0 (o : Option Value) (r : pm_L) : pm_lget (o :: r) 0 = o := by simp [pm_lget]
theorem pm_lget_s (o : Option Value) (r : pm_L) (n : Nat) : pm_lget (o :: r) (n + 1) = pm_lget r n := by simp [pm_lget]
theorem pm_lset_0 (o : Option Value) (r : pm_L) (v : Value) : pm_lset (o :: r) 0 v = some v :: r := rfl
theorem pm_lset_1 (o : Option Value) (r : pm_L) (v : Value) : pm_lset (o :: r) 1 v = pm_no2 o :: pm_lset r 0 v := rfl
theorem pm_lset_n (o : Option Value) (r : pm_L) (n : Nat) (v : Value) : pm_lset (o :: r) (n + 2) v = o :: pm_lset r (n + 1) v := rfl
theorem pm_lset2_0 (o p : Option Value) (r : pm_L) (v : Value) : pm_lset2 (o :: p :: r) 0 v = some v :: none :: r := rfl
theorem pm_lset2_1 (o : Option Value) (r : pm_L) (v : Value) : pm_lset2 (o :: r) 1 v = pm_no2 o :: pm_lset2 r 0 v := by cases r <;> rfl
theorem pm_lset2_n (o : Option Value) (r : pm_L) (n : Nat) (v : Value) : pm_lset2 (o :: r) (n + 2) v = o :: pm_lset2 r (n + 1) v := by cases r <;> rfl
theorem pm_no2_n : pm_no2 none = none := rfl
theorem pm_no2_i (x : Int32) : pm_no2 (some (.int x)) = some (.int x) := rfl
theorem pm_no2_r (x : Nat) : pm_no2 (some (.ref x)) = some (.ref x) := rfl
theorem pm_no2_l (x : Int64) : pm_no2 (some (.long x)) = none := rfl
theorem pm_pop_0 (a S : List Value) : pm_pop 0 a S = some (a, S) := by cases S <;> rfl
theorem pm_pop_s (n : Nat) (a S : List Value) (v : Value) : pm_pop (n + 1) a (v :: S) = pm_pop n (v :: a) S := rfl
theorem pm_okW_0 (n : Nat) : pm_okW n [] = true := by cases n <;> first | rfl | (rename_i n; cases n <;> rfl)
theorem pm_okW_i (n : Nat) (x : Int32) (r : List Value) : pm_okW (n + 1) (.int x :: r) = pm_okW n r := rfl
theorem pm_okW_r (n : Nat) (x : Nat) (r : List Value) : pm_okW (n + 1) (.ref x :: r) = pm_okW n r := rfl
theorem pm_okW_l (n : Nat) (x : Int64) (r : List Value) : pm_okW (n + 2) (.long x :: r) = pm_okW n r := rfl
theorem pm_ent_0 (n : Nat) : pm_ent n [] = List.replicate n none := rfl
theorem pm_ent_i (n : Nat) (x : Int32) (r : List Value) : pm_ent n (.int x :: r) = some (.int x) :: pm_ent (n - 1) r := rfl
theorem pm_ent_r (n : Nat) (x : Nat) (r : List Value) : pm_ent n (.ref x :: r) = some (.ref x) :: pm_ent (n - 1) r := rfl
theorem pm_ent_l (n : Nat) (x : Int64) (r : List Value) : pm_ent n (.long x :: r) = some (.long x) :: none :: pm_ent (n - 2) r := rfl
theorem pm_pu_n (S : List Value) : pm_pu none S = S := rfl
theorem pm_pu_s (v : Value) (S : List Value) : pm_pu (some v) S = v :: S := rfl
theorem pm_bo_ne (c : Prop) [Decidable c] : (¬ pm_bo c = 0) = c := by by_cases h : c <;> simp [pm_bo, h]
theorem pm_bo_eq (c : Prop) [Decidable c] : (pm_bo c = 0) = ¬ c := by by_cases h : c <;> simp [pm_bo, h]
theorem pm_bo_one (c : Prop) [Decidable c] : (pm_bo c = 1) = c := by by_cases h : c <;> simp [pm_bo, h]
theorem pm_fit_i (x : Int32) : pm_fit 0 (.int x) = true := rfl
theorem pm_fit_r (x : Nat) : pm_fit 2 (.ref x) = true := rfl
theorem pm_fit_b (c : Prop) [Decidable c] : pm_fit 1 (.int (pm_bo c)) = true := by by_cases h : c <;> simp [pm_bo, h, pm_fit]
theorem pm_fit_0 : pm_fit 1 (.int 0) = true := rfl
theorem pm_fit_1 : pm_fit 1 (.int 1) = true := rfl
theorem pm_rcv_is {σ : pm_S} {k : Nat} {t : List Value} {ci : Nat} : pm_rcv σ (.ref k :: t) ci = (pm_oO (pm_hg σ k) fun c _ => c = ci) := by
  cases h : pm_hg σ k with
  | none => simp [pm_rcv, pm_oO, h]
  | some q => rcases q with ⟨c, fs⟩ | q <;> simp [pm_rcv, pm_oO, h]
theorem pm_ref1_is {k : Nat} {t : List Value} : pm_ref1 (.ref k :: t) = True := rfl
theorem pm_WC_e {z d : Nat} {as : List Value} {σ : pm_S} {K : Option Value → pm_S → Prop} {P : pm_T} (hz : z < 900) : pm_WC P (d + 1) z as σ K = (pm_okW (pm_met P z).2.1 as = true ∧ pm_W P d z 0 (pm_ent (pm_met P z).2.1 as) [] σ K) := if_neg (Nat.not_le.mpr hz)
theorem pm_tgt_is (pc : Nat) (o : Int) : pm_tgt pc o = ((pc : Int) + o).toNat := rfl

theorem ki_m1 : Int32.ofInt (-1) = (-1) := by decide +kernel
theorem ki_0 : Int32.ofInt 0 = 0 := by decide +kernel
theorem ki_1 : Int32.ofInt 1 = 1 := by decide +kernel
theorem ki_2 : Int32.ofInt 2 = 2 := by decide +kernel
theorem ki_3 : Int32.ofInt 3 = 3 := by decide +kernel
theorem ki_4 : Int32.ofInt 4 = 4 := by decide +kernel
theorem ki_5 : Int32.ofInt 5 = 5 := by decide +kernel
theorem kb_m10 : (Int8.ofInt (-10)).toInt32 = (-10) := by decide +kernel
theorem kb_m6 : (Int8.ofInt (-6)).toInt32 = (-6) := by decide +kernel
theorem kb_m5 : (Int8.ofInt (-5)).toInt32 = (-5) := by decide +kernel
theorem kb_m4 : (Int8.ofInt (-4)).toInt32 = (-4) := by decide +kernel
theorem kb_m3 : (Int8.ofInt (-3)).toInt32 = (-3) := by decide +kernel
theorem kb_m2 : (Int8.ofInt (-2)).toInt32 = (-2) := by decide +kernel
theorem kb_6 : (Int8.ofInt 6).toInt32 = 6 := by decide +kernel
theorem kb_7 : (Int8.ofInt 7).toInt32 = 7 := by decide +kernel
theorem kb_8 : (Int8.ofInt 8).toInt32 = 8 := by decide +kernel
theorem kb_9 : (Int8.ofInt 9).toInt32 = 9 := by decide +kernel
theorem kb_10 : (Int8.ofInt 10).toInt32 = 10 := by decide +kernel
theorem kb_11 : (Int8.ofInt 11).toInt32 = 11 := by decide +kernel
theorem kb_12 : (Int8.ofInt 12).toInt32 = 12 := by decide +kernel
theorem kb_13 : (Int8.ofInt 13).toInt32 = 13 := by decide +kernel
theorem kb_14 : (Int8.ofInt 14).toInt32 = 14 := by decide +kernel
theorem kb_15 : (Int8.ofInt 15).toInt32 = 15 := by decide +kernel
theorem kb_16 : (Int8.ofInt 16).toInt32 = 16 := by decide +kernel
theorem kb_18 : (Int8.ofInt 18).toInt32 = 18 := by decide +kernel
theorem kb_20 : (Int8.ofInt 20).toInt32 = 20 := by decide +kernel
theorem kb_21 : (Int8.ofInt 21).toInt32 = 21 := by decide +kernel
theorem kb_22 : (Int8.ofInt 22).toInt32 = 22 := by decide +kernel
theorem kb_23 : (Int8.ofInt 23).toInt32 = 23 := by decide +kernel
theorem kb_24 : (Int8.ofInt 24).toInt32 = 24 := by decide +kernel
theorem kb_25 : (Int8.ofInt 25).toInt32 = 25 := by decide +kernel
theorem kb_26 : (Int8.ofInt 26).toInt32 = 26 := by decide +kernel
theorem kb_27 : (Int8.ofInt 27).toInt32 = 27 := by decide +kernel
theorem kb_28 : (Int8.ofInt 28).toInt32 = 28 := by decide +kernel
theorem kb_29 : (Int8.ofInt 29).toInt32 = 29 := by decide +kernel
theorem kb_30 : (Int8.ofInt 30).toInt32 = 30 := by decide +kernel
theorem kb_31 : (Int8.ofInt 31).toInt32 = 31 := by decide +kernel
theorem kb_32 : (Int8.ofInt 32).toInt32 = 32 := by decide +kernel
theorem kb_33 : (Int8.ofInt 33).toInt32 = 33 := by decide +kernel
theorem kb_36 : (Int8.ofInt 36).toInt32 = 36 := by decide +kernel
theorem kb_38 : (Int8.ofInt 38).toInt32 = 38 := by decide +kernel
theorem kb_40 : (Int8.ofInt 40).toInt32 = 40 := by decide +kernel
theorem kb_41 : (Int8.ofInt 41).toInt32 = 41 := by decide +kernel
theorem kb_42 : (Int8.ofInt 42).toInt32 = 42 := by decide +kernel
theorem kb_48 : (Int8.ofInt 48).toInt32 = 48 := by decide +kernel
theorem kb_51 : (Int8.ofInt 51).toInt32 = 51 := by decide +kernel
theorem kb_57 : (Int8.ofInt 57).toInt32 = 57 := by decide +kernel
theorem kb_59 : (Int8.ofInt 59).toInt32 = 59 := by decide +kernel
theorem kb_60 : (Int8.ofInt 60).toInt32 = 60 := by decide +kernel
theorem kb_61 : (Int8.ofInt 61).toInt32 = 61 := by decide +kernel
theorem kb_63 : (Int8.ofInt 63).toInt32 = 63 := by decide +kernel
theorem kb_64 : (Int8.ofInt 64).toInt32 = 64 := by decide +kernel
theorem kb_72 : (Int8.ofInt 72).toInt32 = 72 := by decide +kernel
theorem kb_77 : (Int8.ofInt 77).toInt32 = 77 := by decide +kernel
theorem kb_82 : (Int8.ofInt 82).toInt32 = 82 := by decide +kernel
theorem kb_87 : (Int8.ofInt 87).toInt32 = 87 := by decide +kernel
theorem kb_92 : (Int8.ofInt 92).toInt32 = 92 := by decide +kernel
theorem kb_100 : (Int8.ofInt 100).toInt32 = 100 := by decide +kernel
theorem kb_102 : (Int8.ofInt 102).toInt32 = 102 := by decide +kernel
theorem kb_108 : (Int8.ofInt 108).toInt32 = 108 := by decide +kernel
theorem kb_113 : (Int8.ofInt 113).toInt32 = 113 := by decide +kernel
theorem kb_116 : (Int8.ofInt 116).toInt32 = 116 := by decide +kernel
theorem kb_120 : (Int8.ofInt 120).toInt32 = 120 := by decide +kernel
theorem kb_124 : (Int8.ofInt 124).toInt32 = 124 := by decide +kernel
theorem kb_127 : (Int8.ofInt 127).toInt32 = 127 := by decide +kernel
theorem ks_m200 : (Int16.ofInt (-200)).toInt32 = (-200) := by decide +kernel
theorem ks_140 : (Int16.ofInt 140).toInt32 = 140 := by decide +kernel
theorem ks_224 : (Int16.ofInt 224).toInt32 = 224 := by decide +kernel
theorem ks_229 : (Int16.ofInt 229).toInt32 = 229 := by decide +kernel
theorem ks_234 : (Int16.ofInt 234).toInt32 = 234 := by decide +kernel
theorem ks_934 : (Int16.ofInt 934).toInt32 = 934 := by decide +kernel
theorem ks_9999 : (Int16.ofInt 9999).toInt32 = 9999 := by decide +kernel
theorem e_Acts_init {d : Nat} {as : List Value} {σ : pm_S} {K : Option Value → pm_S → Prop} : pm_WC fqP (d + 1) 0 as σ K = (pm_okW 1 as = true ∧ pm_W fqP d 0 0 (pm_ent 1 as) [] σ K) := (pm_WC_e (by decide)).trans (by rw [lg_0])
theorem e_Acts_run {d : Nat} {as : List Value} {σ : pm_S} {K : Option Value → pm_S → Prop} : pm_WC fqP (d + 1) 1 as σ K = (pm_okW 8 as = true ∧ pm_W fqP d 1 0 (pm_ent 8 as) [] σ K) := (pm_WC_e (by decide)).trans (by rw [lg_1])
theorem e_Acts_ownerOf {d : Nat} {as : List Value} {σ : pm_S} {K : Option Value → pm_S → Prop} : pm_WC fqP (d + 1) 2 as σ K = (pm_okW 4 as = true ∧ pm_W fqP d 2 0 (pm_ent 4 as) [] σ K) := (pm_WC_e (by decide)).trans (by rw [lg_2])
theorem e_Bar_init {d : Nat} {as : List Value} {σ : pm_S} {K : Option Value → pm_S → Prop} : pm_WC fqP (d + 1) 3 as σ K = (pm_okW 1 as = true ∧ pm_W fqP d 3 0 (pm_ent 1 as) [] σ K) := (pm_WC_e (by decide)).trans (by rw [lg_3])
theorem e_Bar_clear {d : Nat} {as : List Value} {σ : pm_S} {K : Option Value → pm_S → Prop} : pm_WC fqP (d + 1) 4 as σ K = (pm_okW 1 as = true ∧ pm_W fqP d 4 0 (pm_ent 1 as) [] σ K) := (pm_WC_e (by decide)).trans (by rw [lg_4])
theorem e_Bar_endClause {d : Nat} {as : List Value} {σ : pm_S} {K : Option Value → pm_S → Prop} : pm_WC fqP (d + 1) 5 as σ K = (pm_okW 2 as = true ∧ pm_W fqP d 5 0 (pm_ent 2 as) [] σ K) := (pm_WC_e (by decide)).trans (by rw [lg_5])
theorem e_Bar_add {d : Nat} {as : List Value} {σ : pm_S} {K : Option Value → pm_S → Prop} : pm_WC fqP (d + 1) 6 as σ K = (pm_okW 4 as = true ∧ pm_W fqP d 6 0 (pm_ent 4 as) [] σ K) := (pm_WC_e (by decide)).trans (by rw [lg_6])
theorem e_Bar_jumpToHere {d : Nat} {as : List Value} {σ : pm_S} {K : Option Value → pm_S → Prop} : pm_WC fqP (d + 1) 7 as σ K = (pm_okW 3 as = true ∧ pm_W fqP d 7 0 (pm_ent 3 as) [] σ K) := (pm_WC_e (by decide)).trans (by rw [lg_7])
theorem e_Bar_sum {d : Nat} {as : List Value} {σ : pm_S} {K : Option Value → pm_S → Prop} : pm_WC fqP (d + 1) 8 as σ K = (pm_okW 6 as = true ∧ pm_W fqP d 8 0 (pm_ent 6 as) [] σ K) := (pm_WC_e (by decide)).trans (by rw [lg_8])
theorem e_Bar_holds {d : Nat} {as : List Value} {σ : pm_S} {K : Option Value → pm_S → Prop} : pm_WC fqP (d + 1) 9 as σ K = (pm_okW 10 as = true ∧ pm_W fqP d 9 0 (pm_ent 10 as) [] σ K) := (pm_WC_e (by decide)).trans (by rw [lg_9])
theorem e_Bar_copyFrom {d : Nat} {as : List Value} {σ : pm_S} {K : Option Value → pm_S → Prop} : pm_WC fqP (d + 1) 10 as σ K = (pm_okW 2 as = true ∧ pm_W fqP d 10 0 (pm_ent 2 as) [] σ K) := (pm_WC_e (by decide)).trans (by rw [lg_10])
theorem e_Everything_init {d : Nat} {as : List Value} {σ : pm_S} {K : Option Value → pm_S → Prop} : pm_WC fqP (d + 1) 11 as σ K = (pm_okW 1 as = true ∧ pm_W fqP d 11 0 (pm_ent 1 as) [] σ K) := (pm_WC_e (by decide)).trans (by rw [lg_11])
theorem e_Everything_copyFrom {d : Nat} {as : List Value} {σ : pm_S} {K : Option Value → pm_S → Prop} : pm_WC fqP (d + 1) 12 as σ K = (pm_okW 2 as = true ∧ pm_W fqP d 12 0 (pm_ent 2 as) [] σ K) := (pm_WC_e (by decide)).trans (by rw [lg_12])
theorem e_Reader_init {d : Nat} {as : List Value} {σ : pm_S} {K : Option Value → pm_S → Prop} : pm_WC fqP (d + 1) 13 as σ K = (pm_okW 1 as = true ∧ pm_W fqP d 13 0 (pm_ent 1 as) [] σ K) := (pm_WC_e (by decide)).trans (by rw [lg_13])
theorem e_Reader_reads {d : Nat} {as : List Value} {σ : pm_S} {K : Option Value → pm_S → Prop} : pm_WC fqP (d + 1) 14 as σ K = (pm_okW 4 as = true ∧ pm_W fqP d 14 0 (pm_ent 4 as) [] σ K) := (pm_WC_e (by decide)).trans (by rw [lg_14])
theorem e_Reader_isClause {d : Nat} {as : List Value} {σ : pm_S} {K : Option Value → pm_S → Prop} : pm_WC fqP (d + 1) 15 as σ K = (pm_okW 4 as = true ∧ pm_W fqP d 15 0 (pm_ent 4 as) [] σ K) := (pm_WC_e (by decide)).trans (by rw [lg_15])
theorem e_Reader_isExpression {d : Nat} {as : List Value} {σ : pm_S} {K : Option Value → pm_S → Prop} : pm_WC fqP (d + 1) 16 as σ K = (pm_okW 4 as = true ∧ pm_W fqP d 16 0 (pm_ent 4 as) [] σ K) := (pm_WC_e (by decide)).trans (by rw [lg_16])
theorem e_Reader_isTerm {d : Nat} {as : List Value} {σ : pm_S} {K : Option Value → pm_S → Prop} : pm_WC fqP (d + 1) 17 as σ K = (pm_okW 4 as = true ∧ pm_W fqP d 17 0 (pm_ent 4 as) [] σ K) := (pm_WC_e (by decide)).trans (by rw [lg_17])
theorem e_Reader_isFactor {d : Nat} {as : List Value} {σ : pm_S} {K : Option Value → pm_S → Prop} : pm_WC fqP (d + 1) 18 as σ K = (pm_okW 5 as = true ∧ pm_W fqP d 18 0 (pm_ent 5 as) [] σ K) := (pm_WC_e (by decide)).trans (by rw [lg_18])
theorem e_Reader_takesOneOf {d : Nat} {as : List Value} {σ : pm_S} {K : Option Value → pm_S → Prop} : pm_WC fqP (d + 1) 19 as σ K = (pm_okW 4 as = true ∧ pm_W fqP d 19 0 (pm_ent 4 as) [] σ K) := (pm_WC_e (by decide)).trans (by rw [lg_19])
theorem e_Reader_isWord {d : Nat} {as : List Value} {σ : pm_S} {K : Option Value → pm_S → Prop} : pm_WC fqP (d + 1) 20 as σ K = (pm_okW 3 as = true ∧ pm_W fqP d 20 0 (pm_ent 3 as) [] σ K) := (pm_WC_e (by decide)).trans (by rw [lg_20])
theorem e_Reader_isNumberNext {d : Nat} {as : List Value} {σ : pm_S} {K : Option Value → pm_S → Prop} : pm_WC fqP (d + 1) 21 as σ K = (pm_okW 3 as = true ∧ pm_W fqP d 21 0 (pm_ent 3 as) [] σ K) := (pm_WC_e (by decide)).trans (by rw [lg_21])
theorem e_Reader_takes {d : Nat} {as : List Value} {σ : pm_S} {K : Option Value → pm_S → Prop} : pm_WC fqP (d + 1) 22 as σ K = (pm_okW 2 as = true ∧ pm_W fqP d 22 0 (pm_ent 2 as) [] σ K) := (pm_WC_e (by decide)).trans (by rw [lg_22])
theorem e_Reader_sign {d : Nat} {as : List Value} {σ : pm_S} {K : Option Value → pm_S → Prop} : pm_WC fqP (d + 1) 23 as σ K = (pm_okW 1 as = true ∧ pm_W fqP d 23 0 (pm_ent 1 as) [] σ K) := (pm_WC_e (by decide)).trans (by rw [lg_23])
theorem e_Rows_init {d : Nat} {as : List Value} {σ : pm_S} {K : Option Value → pm_S → Prop} : pm_WC fqP (d + 1) 24 as σ K = (pm_okW 3 as = true ∧ pm_W fqP d 24 0 (pm_ent 3 as) [] σ K) := (pm_WC_e (by decide)).trans (by rw [lg_24])
theorem e_Rows_add {d : Nat} {as : List Value} {σ : pm_S} {K : Option Value → pm_S → Prop} : pm_WC fqP (d + 1) 25 as σ K = (pm_okW 4 as = true ∧ pm_W fqP d 25 0 (pm_ent 4 as) [] σ K) := (pm_WC_e (by decide)).trans (by rw [lg_25])
theorem e_Rows_greatestSecond {d : Nat} {as : List Value} {σ : pm_S} {K : Option Value → pm_S → Prop} : pm_WC fqP (d + 1) 26 as σ K = (pm_okW 3 as = true ∧ pm_W fqP d 26 0 (pm_ent 3 as) [] σ K) := (pm_WC_e (by decide)).trans (by rw [lg_26])
theorem e_Rows_copyFrom {d : Nat} {as : List Value} {σ : pm_S} {K : Option Value → pm_S → Prop} : pm_WC fqP (d + 1) 27 as σ K = (pm_okW 2 as = true ∧ pm_W fqP d 27 0 (pm_ent 2 as) [] σ K) := (pm_WC_e (by decide)).trans (by rw [lg_27])
theorem e_Shore_init {d : Nat} {as : List Value} {σ : pm_S} {K : Option Value → pm_S → Prop} : pm_WC fqP (d + 1) 28 as σ K = (pm_okW 1 as = true ∧ pm_W fqP d 28 0 (pm_ent 1 as) [] σ K) := (pm_WC_e (by decide)).trans (by rw [lg_28])
theorem e_Shore_hasOnAgenda {d : Nat} {as : List Value} {σ : pm_S} {K : Option Value → pm_S → Prop} : pm_WC fqP (d + 1) 29 as σ K = (pm_okW 3 as = true ∧ pm_W fqP d 29 0 (pm_ent 3 as) [] σ K) := (pm_WC_e (by decide)).trans (by rw [lg_29])
theorem e_Shore_thoseIn {d : Nat} {as : List Value} {σ : pm_S} {K : Option Value → pm_S → Prop} : pm_WC fqP (d + 1) 30 as σ K = (pm_okW 4 as = true ∧ pm_W fqP d 30 0 (pm_ent 4 as) [] σ K) := (pm_WC_e (by decide)).trans (by rw [lg_30])
theorem e_Shore_goTides {d : Nat} {as : List Value} {σ : pm_S} {K : Option Value → pm_S → Prop} : pm_WC fqP (d + 1) 31 as σ K = (pm_okW 3 as = true ∧ pm_W fqP d 31 0 (pm_ent 3 as) [] σ K) := (pm_WC_e (by decide)).trans (by rw [lg_31])
theorem e_Shore_goTide {d : Nat} {as : List Value} {σ : pm_S} {K : Option Value → pm_S → Prop} : pm_WC fqP (d + 1) 32 as σ K = (pm_okW 3 as = true ∧ pm_W fqP d 32 0 (pm_ent 3 as) [] σ K) := (pm_WC_e (by decide)).trans (by rw [lg_32])
theorem e_Shore_isVotedFor {d : Nat} {as : List Value} {σ : pm_S} {K : Option Value → pm_S → Prop} : pm_WC fqP (d + 1) 33 as σ K = (pm_okW 7 as = true ∧ pm_W fqP d 33 0 (pm_ent 7 as) [] σ K) := (pm_WC_e (by decide)).trans (by rw [lg_33])
theorem e_Shore_likes {d : Nat} {as : List Value} {σ : pm_S} {K : Option Value → pm_S → Prop} : pm_WC fqP (d + 1) 34 as σ K = (pm_okW 7 as = true ∧ pm_W fqP d 34 0 (pm_ent 7 as) [] σ K) := (pm_WC_e (by decide)).trans (by rw [lg_34])
theorem e_Shore_likesOfChair {d : Nat} {as : List Value} {σ : pm_S} {K : Option Value → pm_S → Prop} : pm_WC fqP (d + 1) 35 as σ K = (pm_okW 4 as = true ∧ pm_W fqP d 35 0 (pm_ent 4 as) [] σ K) := (pm_WC_e (by decide)).trans (by rw [lg_35])
theorem e_Shore_likesOfCask {d : Nat} {as : List Value} {σ : pm_S} {K : Option Value → pm_S → Prop} : pm_WC fqP (d + 1) 36 as σ K = (pm_okW 2 as = true ∧ pm_W fqP d 36 0 (pm_ent 2 as) [] σ K) := (pm_WC_e (by decide)).trans (by rw [lg_36])
theorem e_Shore_goBackTo {d : Nat} {as : List Value} {σ : pm_S} {K : Option Value → pm_S → Prop} : pm_WC fqP (d + 1) 37 as σ K = (pm_okW 2 as = true ∧ pm_W fqP d 37 0 (pm_ent 2 as) [] σ K) := (pm_WC_e (by decide)).trans (by rw [lg_37])
theorem e_Shore_copyFrom {d : Nat} {as : List Value} {σ : pm_S} {K : Option Value → pm_S → Prop} : pm_WC fqP (d + 1) 38 as σ K = (pm_okW 2 as = true ∧ pm_W fqP d 38 0 (pm_ent 2 as) [] σ K) := (pm_WC_e (by decide)).trans (by rw [lg_38])
theorem e_Things_init {d : Nat} {as : List Value} {σ : pm_S} {K : Option Value → pm_S → Prop} : pm_WC fqP (d + 1) 39 as σ K = (pm_okW 1 as = true ∧ pm_W fqP d 39 0 (pm_ent 1 as) [] σ K) := (pm_WC_e (by decide)).trans (by rw [lg_39])
theorem e_Things_has {d : Nat} {as : List Value} {σ : pm_S} {K : Option Value → pm_S → Prop} : pm_WC fqP (d + 1) 40 as σ K = (pm_okW 2 as = true ∧ pm_W fqP d 40 0 (pm_ent 2 as) [] σ K) := (pm_WC_e (by decide)).trans (by rw [lg_40])
theorem e_Things_add {d : Nat} {as : List Value} {σ : pm_S} {K : Option Value → pm_S → Prop} : pm_WC fqP (d + 1) 41 as σ K = (pm_okW 5 as = true ∧ pm_W fqP d 41 0 (pm_ent 5 as) [] σ K) := (pm_WC_e (by decide)).trans (by rw [lg_41])
theorem e_Things_weightOf {d : Nat} {as : List Value} {σ : pm_S} {K : Option Value → pm_S → Prop} : pm_WC fqP (d + 1) 42 as σ K = (pm_okW 4 as = true ∧ pm_W fqP d 42 0 (pm_ent 4 as) [] σ K) := (pm_WC_e (by decide)).trans (by rw [lg_42])
theorem e_Things_copyFrom {d : Nat} {as : List Value} {σ : pm_S} {K : Option Value → pm_S → Prop} : pm_WC fqP (d + 1) 43 as σ K = (pm_okW 2 as = true ∧ pm_W fqP d 43 0 (pm_ent 2 as) [] σ K) := (pm_WC_e (by decide)).trans (by rw [lg_43])
theorem e_X_init {d : Nat} {as : List Value} {σ : pm_S} {K : Option Value → pm_S → Prop} : pm_WC fqP (d + 1) 44 as σ K = (pm_okW 1 as = true ∧ pm_W fqP d 44 0 (pm_ent 1 as) [] σ K) := (pm_WC_e (by decide)).trans (by rw [lg_44])
theorem e_X_feed {d : Nat} {as : List Value} {σ : pm_S} {K : Option Value → pm_S → Prop} : pm_WC fqP (d + 1) 45 as σ K = (pm_okW 2 as = true ∧ pm_W fqP d 45 0 (pm_ent 2 as) [] σ K) := (pm_WC_e (by decide)).trans (by rw [lg_45])
theorem e_X_bar {d : Nat} {as : List Value} {σ : pm_S} {K : Option Value → pm_S → Prop} : pm_WC fqP (d + 1) 46 as σ K = (pm_okW 2 as = true ∧ pm_W fqP d 46 0 (pm_ent 2 as) [] σ K) := (pm_WC_e (by decide)).trans (by rw [lg_46])
theorem e_X_thing {d : Nat} {as : List Value} {σ : pm_S} {K : Option Value → pm_S → Prop} : pm_WC fqP (d + 1) 47 as σ K = (pm_okW 4 as = true ∧ pm_W fqP d 47 0 (pm_ent 4 as) [] σ K) := (pm_WC_e (by decide)).trans (by rw [lg_47])
theorem e_X_of {d : Nat} {as : List Value} {σ : pm_S} {K : Option Value → pm_S → Prop} : pm_WC fqP (d + 1) 48 as σ K = (pm_okW 4 as = true ∧ pm_W fqP d 48 0 (pm_ent 4 as) [] σ K) := (pm_WC_e (by decide)).trans (by rw [lg_48])
theorem e_X_row {d : Nat} {as : List Value} {σ : pm_S} {K : Option Value → pm_S → Prop} : pm_WC fqP (d + 1) 49 as σ K = (pm_okW 5 as = true ∧ pm_W fqP d 49 0 (pm_ent 5 as) [] σ K) := (pm_WC_e (by decide)).trans (by rw [lg_49])
theorem e_X_set {d : Nat} {as : List Value} {σ : pm_S} {K : Option Value → pm_S → Prop} : pm_WC fqP (d + 1) 50 as σ K = (pm_okW 5 as = true ∧ pm_W fqP d 50 0 (pm_ent 5 as) [] σ K) := (pm_WC_e (by decide)).trans (by rw [lg_50])
theorem e_X_lose {d : Nat} {as : List Value} {σ : pm_S} {K : Option Value → pm_S → Prop} : pm_WC fqP (d + 1) 51 as σ K = (pm_okW 5 as = true ∧ pm_W fqP d 51 0 (pm_ent 5 as) [] σ K) := (pm_WC_e (by decide)).trans (by rw [lg_51])
theorem e_X_wind {d : Nat} {as : List Value} {σ : pm_S} {K : Option Value → pm_S → Prop} : pm_WC fqP (d + 1) 52 as σ K = (pm_okW 3 as = true ∧ pm_W fqP d 52 0 (pm_ent 3 as) [] σ K) := (pm_WC_e (by decide)).trans (by rw [lg_52])
theorem e_X_move {d : Nat} {as : List Value} {σ : pm_S} {K : Option Value → pm_S → Prop} : pm_WC fqP (d + 1) 53 as σ K = (pm_okW 3 as = true ∧ pm_W fqP d 53 0 (pm_ent 3 as) [] σ K) := (pm_WC_e (by decide)).trans (by rw [lg_53])
theorem e_X_carry {d : Nat} {as : List Value} {σ : pm_S} {K : Option Value → pm_S → Prop} : pm_WC fqP (d + 1) 54 as σ K = (pm_okW 4 as = true ∧ pm_W fqP d 54 0 (pm_ent 4 as) [] σ K) := (pm_WC_e (by decide)).trans (by rw [lg_54])
theorem e_X_told {d : Nat} {as : List Value} {σ : pm_S} {K : Option Value → pm_S → Prop} : pm_WC fqP (d + 1) 55 as σ K = (pm_okW 2 as = true ∧ pm_W fqP d 55 0 (pm_ent 2 as) [] σ K) := (pm_WC_e (by decide)).trans (by rw [lg_55])
theorem e_X_pass {d : Nat} {as : List Value} {σ : pm_S} {K : Option Value → pm_S → Prop} : pm_WC fqP (d + 1) 56 as σ K = (pm_okW 2 as = true ∧ pm_W fqP d 56 0 (pm_ent 2 as) [] σ K) := (pm_WC_e (by decide)).trans (by rw [lg_56])
theorem e_X_on {d : Nat} {as : List Value} {σ : pm_S} {K : Option Value → pm_S → Prop} : pm_WC fqP (d + 1) 57 as σ K = (pm_okW 3 as = true ∧ pm_W fqP d 57 0 (pm_ent 3 as) [] σ K) := (pm_WC_e (by decide)).trans (by rw [lg_57])
theorem e_X_when {d : Nat} {as : List Value} {σ : pm_S} {K : Option Value → pm_S → Prop} : pm_WC fqP (d + 1) 58 as σ K = (pm_okW 3 as = true ∧ pm_W fqP d 58 0 (pm_ent 3 as) [] σ K) := (pm_WC_e (by decide)).trans (by rw [lg_58])
theorem e_X_order {d : Nat} {as : List Value} {σ : pm_S} {K : Option Value → pm_S → Prop} : pm_WC fqP (d + 1) 59 as σ K = (pm_okW 4 as = true ∧ pm_W fqP d 59 0 (pm_ent 4 as) [] σ K) := (pm_WC_e (by decide)).trans (by rw [lg_59])
theorem e_X_blows {d : Nat} {as : List Value} {σ : pm_S} {K : Option Value → pm_S → Prop} : pm_WC fqP (d + 1) 60 as σ K = (pm_okW 2 as = true ∧ pm_W fqP d 60 0 (pm_ent 2 as) [] σ K) := (pm_WC_e (by decide)).trans (by rw [lg_60])
theorem e_X_stop {d : Nat} {as : List Value} {σ : pm_S} {K : Option Value → pm_S → Prop} : pm_WC fqP (d + 1) 61 as σ K = (pm_okW 6 as = true ∧ pm_W fqP d 61 0 (pm_ent 6 as) [] σ K) := (pm_WC_e (by decide)).trans (by rw [lg_61])
theorem e_X_see {d : Nat} {as : List Value} {σ : pm_S} {K : Option Value → pm_S → Prop} : pm_WC fqP (d + 1) 62 as σ K = (pm_okW 4 as = true ∧ pm_W fqP d 62 0 (pm_ent 4 as) [] σ K) := (pm_WC_e (by decide)).trans (by rw [lg_62])
theorem e_X_drifts {d : Nat} {as : List Value} {σ : pm_S} {K : Option Value → pm_S → Prop} : pm_WC fqP (d + 1) 63 as σ K = (pm_okW 2 as = true ∧ pm_W fqP d 63 0 (pm_ent 2 as) [] σ K) := (pm_WC_e (by decide)).trans (by rw [lg_63])
theorem e_X_firm {d : Nat} {as : List Value} {σ : pm_S} {K : Option Value → pm_S → Prop} : pm_WC fqP (d + 1) 64 as σ K = (pm_okW 4 as = true ∧ pm_W fqP d 64 0 (pm_ent 4 as) [] σ K) := (pm_WC_e (by decide)).trans (by rw [lg_64])
theorem e_X_power {d : Nat} {as : List Value} {σ : pm_S} {K : Option Value → pm_S → Prop} : pm_WC fqP (d + 1) 65 as σ K = (pm_okW 4 as = true ∧ pm_W fqP d 65 0 (pm_ent 4 as) [] σ K) := (pm_WC_e (by decide)).trans (by rw [lg_65])
theorem e_X_odds {d : Nat} {as : List Value} {σ : pm_S} {K : Option Value → pm_S → Prop} : pm_WC fqP (d + 1) 66 as σ K = (pm_okW 3 as = true ∧ pm_W fqP d 66 0 (pm_ent 3 as) [] σ K) := (pm_WC_e (by decide)).trans (by rw [lg_66])
theorem e_X_mean {d : Nat} {as : List Value} {σ : pm_S} {K : Option Value → pm_S → Prop} : pm_WC fqP (d + 1) 67 as σ K = (pm_okW 3 as = true ∧ pm_W fqP d 67 0 (pm_ent 3 as) [] σ K) := (pm_WC_e (by decide)).trans (by rw [lg_67])
theorem e_X_plan {d : Nat} {as : List Value} {σ : pm_S} {K : Option Value → pm_S → Prop} : pm_WC fqP (d + 1) 68 as σ K = (pm_okW 4 as = true ∧ pm_W fqP d 68 0 (pm_ent 4 as) [] σ K) := (pm_WC_e (by decide)).trans (by rw [lg_68])
theorem e_X_done {d : Nat} {as : List Value} {σ : pm_S} {K : Option Value → pm_S → Prop} : pm_WC fqP (d + 1) 69 as σ K = (pm_okW 3 as = true ∧ pm_W fqP d 69 0 (pm_ent 3 as) [] σ K) := (pm_WC_e (by decide)).trans (by rw [lg_69])
theorem e_X_book {d : Nat} {as : List Value} {σ : pm_S} {K : Option Value → pm_S → Prop} : pm_WC fqP (d + 1) 70 as σ K = (pm_okW 3 as = true ∧ pm_W fqP d 70 0 (pm_ent 3 as) [] σ K) := (pm_WC_e (by decide)).trans (by rw [lg_70])
theorem e_X_looked {d : Nat} {as : List Value} {σ : pm_S} {K : Option Value → pm_S → Prop} : pm_WC fqP (d + 1) 71 as σ K = (pm_okW 3 as = true ∧ pm_W fqP d 71 0 (pm_ent 3 as) [] σ K) := (pm_WC_e (by decide)).trans (by rw [lg_71])
theorem e_X_act {d : Nat} {as : List Value} {σ : pm_S} {K : Option Value → pm_S → Prop} : pm_WC fqP (d + 1) 72 as σ K = (pm_okW 5 as = true ∧ pm_W fqP d 72 0 (pm_ent 5 as) [] σ K) := (pm_WC_e (by decide)).trans (by rw [lg_72])
theorem e_X_trace {d : Nat} {as : List Value} {σ : pm_S} {K : Option Value → pm_S → Prop} : pm_WC fqP (d + 1) 73 as σ K = (pm_okW 2 as = true ∧ pm_W fqP d 73 0 (pm_ent 2 as) [] σ K) := (pm_WC_e (by decide)).trans (by rw [lg_73])
theorem e_X_as {d : Nat} {as : List Value} {σ : pm_S} {K : Option Value → pm_S → Prop} : pm_WC fqP (d + 1) 74 as σ K = (pm_okW 4 as = true ∧ pm_W fqP d 74 0 (pm_ent 4 as) [] σ K) := (pm_WC_e (by decide)).trans (by rw [lg_74])
theorem e_X_image {d : Nat} {as : List Value} {σ : pm_S} {K : Option Value → pm_S → Prop} : pm_WC fqP (d + 1) 75 as σ K = (pm_okW 1 as = true ∧ pm_W fqP d 75 0 (pm_ent 1 as) [] σ K) := (pm_WC_e (by decide)).trans (by rw [lg_75])
theorem e_X_undo {d : Nat} {as : List Value} {σ : pm_S} {K : Option Value → pm_S → Prop} : pm_WC fqP (d + 1) 76 as σ K = (pm_okW 1 as = true ∧ pm_W fqP d 76 0 (pm_ent 1 as) [] σ K) := (pm_WC_e (by decide)).trans (by rw [lg_76])
theorem e_X_count {d : Nat} {as : List Value} {σ : pm_S} {K : Option Value → pm_S → Prop} : pm_WC fqP (d + 1) 77 as σ K = (pm_okW 2 as = true ∧ pm_W fqP d 77 0 (pm_ent 2 as) [] σ K) := (pm_WC_e (by decide)).trans (by rw [lg_77])
theorem e_X_tidesTillStill {d : Nat} {as : List Value} {σ : pm_S} {K : Option Value → pm_S → Prop} : pm_WC fqP (d + 1) 78 as σ K = (pm_okW 4 as = true ∧ pm_W fqP d 78 0 (pm_ent 4 as) [] σ K) := (pm_WC_e (by decide)).trans (by rw [lg_78])
theorem e_X_findBestRow {d : Nat} {as : List Value} {σ : pm_S} {K : Option Value → pm_S → Prop} : pm_WC fqP (d + 1) 79 as σ K = (pm_okW 5 as = true ∧ pm_W fqP d 79 0 (pm_ent 5 as) [] σ K) := (pm_WC_e (by decide)).trans (by rw [lg_79])
theorem e_X_windsThatCarry {d : Nat} {as : List Value} {σ : pm_S} {K : Option Value → pm_S → Prop} : pm_WC fqP (d + 1) 80 as σ K = (pm_okW 4 as = true ∧ pm_W fqP d 80 0 (pm_ent 4 as) [] σ K) := (pm_WC_e (by decide)).trans (by rw [lg_80])
theorem e_X_isCarriedWithout {d : Nat} {as : List Value} {σ : pm_S} {K : Option Value → pm_S → Prop} : pm_WC fqP (d + 1) 81 as σ K = (pm_okW 3 as = true ∧ pm_W fqP d 81 0 (pm_ent 3 as) [] σ K) := (pm_WC_e (by decide)).trans (by rw [lg_81])
theorem e_X_numbersAsSeen {d : Nat} {as : List Value} {σ : pm_S} {K : Option Value → pm_S → Prop} : pm_WC fqP (d + 1) 82 as σ K = (pm_okW 5 as = true ∧ pm_W fqP d 82 0 (pm_ent 5 as) [] σ K) := (pm_WC_e (by decide)).trans (by rw [lg_82])
theorem e_X_isAllAsSeen {d : Nat} {as : List Value} {σ : pm_S} {K : Option Value → pm_S → Prop} : pm_WC fqP (d + 1) 83 as σ K = (pm_okW 5 as = true ∧ pm_W fqP d 83 0 (pm_ent 5 as) [] σ K) := (pm_WC_e (by decide)).trans (by rw [lg_83])
theorem e_X_rowsTurnedBy {d : Nat} {as : List Value} {σ : pm_S} {K : Option Value → pm_S → Prop} : pm_WC fqP (d + 1) 84 as σ K = (pm_okW 14 as = true ∧ pm_W fqP d 84 0 (pm_ent 14 as) [] σ K) := (pm_WC_e (by decide)).trans (by rw [lg_84])
theorem e_X_doPlanned {d : Nat} {as : List Value} {σ : pm_S} {K : Option Value → pm_S → Prop} : pm_WC fqP (d + 1) 85 as σ K = (pm_okW 3 as = true ∧ pm_W fqP d 85 0 (pm_ent 3 as) [] σ K) := (pm_WC_e (by decide)).trans (by rw [lg_85])
theorem e_X_isNumber {d : Nat} {as : List Value} {σ : pm_S} {K : Option Value → pm_S → Prop} : pm_WC fqP (d + 1) 86 as σ K = (pm_okW 1 as = true ∧ pm_W fqP d 86 0 (pm_ent 1 as) [] σ K) := (pm_WC_e (by decide)).trans (by rw [lg_86])
theorem e_X_isMotion {d : Nat} {as : List Value} {σ : pm_S} {K : Option Value → pm_S → Prop} : pm_WC fqP (d + 1) 87 as σ K = (pm_okW 1 as = true ∧ pm_W fqP d 87 0 (pm_ent 1 as) [] σ K) := (pm_WC_e (by decide)).trans (by rw [lg_87])
theorem e_X_isKind {d : Nat} {as : List Value} {σ : pm_S} {K : Option Value → pm_S → Prop} : pm_WC fqP (d + 1) 88 as σ K = (pm_okW 1 as = true ∧ pm_W fqP d 88 0 (pm_ent 1 as) [] σ K) := (pm_WC_e (by decide)).trans (by rw [lg_88])
theorem e_X_isPart {d : Nat} {as : List Value} {σ : pm_S} {K : Option Value → pm_S → Prop} : pm_WC fqP (d + 1) 89 as σ K = (pm_okW 1 as = true ∧ pm_W fqP d 89 0 (pm_ent 1 as) [] σ K) := (pm_WC_e (by decide)).trans (by rw [lg_89])
theorem e_X_isUnder {d : Nat} {as : List Value} {σ : pm_S} {K : Option Value → pm_S → Prop} : pm_WC fqP (d + 1) 90 as σ K = (pm_okW 4 as = true ∧ pm_W fqP d 90 0 (pm_ent 4 as) [] σ K) := (pm_WC_e (by decide)).trans (by rw [lg_90])
theorem e_X_cell {d : Nat} {as : List Value} {σ : pm_S} {K : Option Value → pm_S → Prop} : pm_WC fqP (d + 1) 91 as σ K = (pm_okW 2 as = true ∧ pm_W fqP d 91 0 (pm_ent 2 as) [] σ K) := (pm_WC_e (by decide)).trans (by rw [lg_91])
theorem e_X_put {d : Nat} {as : List Value} {σ : pm_S} {K : Option Value → pm_S → Prop} : pm_WC fqP (d + 1) 92 as σ K = (pm_okW 3 as = true ∧ pm_W fqP d 92 0 (pm_ent 3 as) [] σ K) := (pm_WC_e (by decide)).trans (by rw [lg_92])
theorem e_X_exchange {d : Nat} {as : List Value} {σ : pm_S} {K : Option Value → pm_S → Prop} : pm_WC fqP (d + 1) 93 as σ K = (pm_okW 4 as = true ∧ pm_W fqP d 93 0 (pm_ent 4 as) [] σ K) := (pm_WC_e (by decide)).trans (by rw [lg_93])
theorem e_X_copy {d : Nat} {as : List Value} {σ : pm_S} {K : Option Value → pm_S → Prop} : pm_WC fqP (d + 1) 94 as σ K = (pm_okW 2 as = true ∧ pm_W fqP d 94 0 (pm_ent 2 as) [] σ K) := (pm_WC_e (by decide)).trans (by rw [lg_94])
theorem e_X_bit {d : Nat} {as : List Value} {σ : pm_S} {K : Option Value → pm_S → Prop} : pm_WC fqP (d + 1) 95 as σ K = (pm_okW 2 as = true ∧ pm_W fqP d 95 0 (pm_ent 2 as) [] σ K) := (pm_WC_e (by decide)).trans (by rw [lg_95])
theorem e_X_withBit {d : Nat} {as : List Value} {σ : pm_S} {K : Option Value → pm_S → Prop} : pm_WC fqP (d + 1) 96 as σ K = (pm_okW 3 as = true ∧ pm_W fqP d 96 0 (pm_ent 3 as) [] σ K) := (pm_WC_e (by decide)).trans (by rw [lg_96])
theorem e_X_leastOf {d : Nat} {as : List Value} {σ : pm_S} {K : Option Value → pm_S → Prop} : pm_WC fqP (d + 1) 97 as σ K = (pm_okW 2 as = true ∧ pm_W fqP d 97 0 (pm_ent 2 as) [] σ K) := (pm_WC_e (by decide)).trans (by rw [lg_97])
theorem e_X_goToNextRow {d : Nat} {as : List Value} {σ : pm_S} {K : Option Value → pm_S → Prop} : pm_WC fqP (d + 1) 98 as σ K = (pm_okW 5 as = true ∧ pm_W fqP d 98 0 (pm_ent 5 as) [] σ K) := (pm_WC_e (by decide)).trans (by rw [lg_98])
theorem e_X_fraction {d : Nat} {as : List Value} {σ : pm_S} {K : Option Value → pm_S → Prop} : pm_WC fqP (d + 1) 99 as σ K = (pm_okW 12 as = true ∧ pm_W fqP d 99 0 (pm_ent 12 as) [] σ K) := (pm_WC_e (by decide)).trans (by rw [lg_99])
theorem e_M_init {d : Nat} {as : List Value} {σ : pm_S} {K : Option Value → pm_S → Prop} : pm_WC fqP (d + 1) 100 as σ K = (pm_okW 2 as = true ∧ pm_W fqP d 100 0 (pm_ent 2 as) [] σ K) := (pm_WC_e (by decide)).trans (by rw [lg_100])
theorem e_M_in {d : Nat} {as : List Value} {σ : pm_S} {K : Option Value → pm_S → Prop} : pm_WC fqP (d + 1) 101 as σ K = (pm_okW 3 as = true ∧ pm_W fqP d 101 0 (pm_ent 3 as) [] σ K) := (pm_WC_e (by decide)).trans (by rw [lg_101])
theorem e_M_isDigit {d : Nat} {as : List Value} {σ : pm_S} {K : Option Value → pm_S → Prop} : pm_WC fqP (d + 1) 102 as σ K = (pm_okW 1 as = true ∧ pm_W fqP d 102 0 (pm_ent 1 as) [] σ K) := (pm_WC_e (by decide)).trans (by rw [lg_102])
theorem e_M_isMotion {d : Nat} {as : List Value} {σ : pm_S} {K : Option Value → pm_S → Prop} : pm_WC fqP (d + 1) 103 as σ K = (pm_okW 1 as = true ∧ pm_W fqP d 103 0 (pm_ent 1 as) [] σ K) := (pm_WC_e (by decide)).trans (by rw [lg_103])
theorem e_M_isThing {d : Nat} {as : List Value} {σ : pm_S} {K : Option Value → pm_S → Prop} : pm_WC fqP (d + 1) 104 as σ K = (pm_okW 2 as = true ∧ pm_W fqP d 104 0 (pm_ent 2 as) [] σ K) := (pm_WC_e (by decide)).trans (by rw [lg_104])
theorem e_M_keeps {d : Nat} {as : List Value} {σ : pm_S} {K : Option Value → pm_S → Prop} : pm_WC fqP (d + 1) 105 as σ K = (pm_okW 2 as = true ∧ pm_W fqP d 105 0 (pm_ent 2 as) [] σ K) := (pm_WC_e (by decide)).trans (by rw [lg_105])
theorem e_M_goesBack {d : Nat} {as : List Value} {σ : pm_S} {K : Option Value → pm_S → Prop} : pm_WC fqP (d + 1) 106 as σ K = (pm_okW 2 as = true ∧ pm_W fqP d 106 0 (pm_ent 2 as) [] σ K) := (pm_WC_e (by decide)).trans (by rw [lg_106])
theorem e_M_feed {d : Nat} {as : List Value} {σ : pm_S} {K : Option Value → pm_S → Prop} : pm_WC fqP (d + 1) 107 as σ K = (pm_okW 2 as = true ∧ pm_W fqP d 107 0 (pm_ent 2 as) [] σ K) := (pm_WC_e (by decide)).trans (by rw [lg_107])
theorem e_M_here {d : Nat} {as : List Value} {σ : pm_S} {K : Option Value → pm_S → Prop} : pm_WC fqP (d + 1) 108 as σ K = (pm_okW 1 as = true ∧ pm_W fqP d 108 0 (pm_ent 1 as) [] σ K) := (pm_WC_e (by decide)).trans (by rw [lg_108])
theorem e_M_must {d : Nat} {as : List Value} {σ : pm_S} {K : Option Value → pm_S → Prop} : pm_WC fqP (d + 1) 109 as σ K = (pm_okW 2 as = true ∧ pm_W fqP d 109 0 (pm_ent 2 as) [] σ K) := (pm_WC_e (by decide)).trans (by rw [lg_109])
theorem e_M_spells {d : Nat} {as : List Value} {σ : pm_S} {K : Option Value → pm_S → Prop} : pm_WC fqP (d + 1) 110 as σ K = (pm_okW 3 as = true ∧ pm_W fqP d 110 0 (pm_ent 3 as) [] σ K) := (pm_WC_e (by decide)).trans (by rw [lg_110])
theorem e_M_figures {d : Nat} {as : List Value} {σ : pm_S} {K : Option Value → pm_S → Prop} : pm_WC fqP (d + 1) 111 as σ K = (pm_okW 3 as = true ∧ pm_W fqP d 111 0 (pm_ent 3 as) [] σ K) := (pm_WC_e (by decide)).trans (by rw [lg_111])
theorem e_M_among {d : Nat} {as : List Value} {σ : pm_S} {K : Option Value → pm_S → Prop} : pm_WC fqP (d + 1) 112 as σ K = (pm_okW 3 as = true ∧ pm_W fqP d 112 0 (pm_ent 3 as) [] σ K) := (pm_WC_e (by decide)).trans (by rw [lg_112])
theorem e_M_emits {d : Nat} {as : List Value} {σ : pm_S} {K : Option Value → pm_S → Prop} : pm_WC fqP (d + 1) 113 as σ K = (pm_okW 2 as = true ∧ pm_W fqP d 113 0 (pm_ent 2 as) [] σ K) := (pm_WC_e (by decide)).trans (by rw [lg_113])
theorem e_M_factor {d : Nat} {as : List Value} {σ : pm_S} {K : Option Value → pm_S → Prop} : pm_WC fqP (d + 1) 114 as σ K = (pm_okW 5 as = true ∧ pm_W fqP d 114 0 (pm_ent 5 as) [] σ K) := (pm_WC_e (by decide)).trans (by rw [lg_114])
theorem e_M_every {d : Nat} {as : List Value} {σ : pm_S} {K : Option Value → pm_S → Prop} : pm_WC fqP (d + 1) 115 as σ K = (pm_okW 1 as = true ∧ pm_W fqP d 115 0 (pm_ent 1 as) [] σ K) := (pm_WC_e (by decide)).trans (by rw [lg_115])
theorem e_M_some {d : Nat} {as : List Value} {σ : pm_S} {K : Option Value → pm_S → Prop} : pm_WC fqP (d + 1) 116 as σ K = (pm_okW 1 as = true ∧ pm_W fqP d 116 0 (pm_ent 1 as) [] σ K) := (pm_WC_e (by decide)).trans (by rw [lg_116])
theorem e_M_much {d : Nat} {as : List Value} {σ : pm_S} {K : Option Value → pm_S → Prop} : pm_WC fqP (d + 1) 117 as σ K = (pm_okW 4 as = true ∧ pm_W fqP d 117 0 (pm_ent 4 as) [] σ K) := (pm_WC_e (by decide)).trans (by rw [lg_117])
theorem e_M_tellsHere {d : Nat} {as : List Value} {σ : pm_S} {K : Option Value → pm_S → Prop} : pm_WC fqP (d + 1) 118 as σ K = (pm_okW 4 as = true ∧ pm_W fqP d 118 0 (pm_ent 4 as) [] σ K) := (pm_WC_e (by decide)).trans (by rw [lg_118])
theorem e_M_clauseHere {d : Nat} {as : List Value} {σ : pm_S} {K : Option Value → pm_S → Prop} : pm_WC fqP (d + 1) 119 as σ K = (pm_okW 1 as = true ∧ pm_W fqP d 119 0 (pm_ent 1 as) [] σ K) := (pm_WC_e (by decide)).trans (by rw [lg_119])
theorem e_M_bar {d : Nat} {as : List Value} {σ : pm_S} {K : Option Value → pm_S → Prop} : pm_WC fqP (d + 1) 120 as σ K = (pm_okW 2 as = true ∧ pm_W fqP d 120 0 (pm_ent 2 as) [] σ K) := (pm_WC_e (by decide)).trans (by rw [lg_120])
theorem e_M_tellsOf {d : Nat} {as : List Value} {σ : pm_S} {K : Option Value → pm_S → Prop} : pm_WC fqP (d + 1) 121 as σ K = (pm_okW 3 as = true ∧ pm_W fqP d 121 0 (pm_ent 3 as) [] σ K) := (pm_WC_e (by decide)).trans (by rw [lg_121])
theorem e_M_carriedMany {d : Nat} {as : List Value} {σ : pm_S} {K : Option Value → pm_S → Prop} : pm_WC fqP (d + 1) 122 as σ K = (pm_okW 3 as = true ∧ pm_W fqP d 122 0 (pm_ent 3 as) [] σ K) := (pm_WC_e (by decide)).trans (by rw [lg_122])
theorem e_M_sumOf {d : Nat} {as : List Value} {σ : pm_S} {K : Option Value → pm_S → Prop} : pm_WC fqP (d + 1) 123 as σ K = (pm_okW 12 as = true ∧ pm_W fqP d 123 0 (pm_ent 12 as) [] σ K) := (pm_WC_e (by decide)).trans (by rw [lg_123])
theorem e_M_likesOf {d : Nat} {as : List Value} {σ : pm_S} {K : Option Value → pm_S → Prop} : pm_WC fqP (d + 1) 124 as σ K = (pm_okW 6 as = true ∧ pm_W fqP d 124 0 (pm_ent 6 as) [] σ K) := (pm_WC_e (by decide)).trans (by rw [lg_124])
theorem e_M_isHere {d : Nat} {as : List Value} {σ : pm_S} {K : Option Value → pm_S → Prop} : pm_WC fqP (d + 1) 125 as σ K = (pm_okW 2 as = true ∧ pm_W fqP d 125 0 (pm_ent 2 as) [] σ K) := (pm_WC_e (by decide)).trans (by rw [lg_125])
theorem e_M_hereOnes {d : Nat} {as : List Value} {σ : pm_S} {K : Option Value → pm_S → Prop} : pm_WC fqP (d + 1) 126 as σ K = (pm_okW 3 as = true ∧ pm_W fqP d 126 0 (pm_ent 3 as) [] σ K) := (pm_WC_e (by decide)).trans (by rw [lg_126])
theorem e_M_countOf {d : Nat} {as : List Value} {σ : pm_S} {K : Option Value → pm_S → Prop} : pm_WC fqP (d + 1) 127 as σ K = (pm_okW 3 as = true ∧ pm_W fqP d 127 0 (pm_ent 3 as) [] σ K) := (pm_WC_e (by decide)).trans (by rw [lg_127])
theorem e_M_carriedOnes {d : Nat} {as : List Value} {σ : pm_S} {K : Option Value → pm_S → Prop} : pm_WC fqP (d + 1) 128 as σ K = (pm_okW 3 as = true ∧ pm_W fqP d 128 0 (pm_ent 3 as) [] σ K) := (pm_WC_e (by decide)).trans (by rw [lg_128])
theorem e_M_becomes {d : Nat} {as : List Value} {σ : pm_S} {K : Option Value → pm_S → Prop} : pm_WC fqP (d + 1) 129 as σ K = (pm_okW 4 as = true ∧ pm_W fqP d 129 0 (pm_ent 4 as) [] σ K) := (pm_WC_e (by decide)).trans (by rw [lg_129])
theorem e_M_thing {d : Nat} {as : List Value} {σ : pm_S} {K : Option Value → pm_S → Prop} : pm_WC fqP (d + 1) 130 as σ K = (pm_okW 6 as = true ∧ pm_W fqP d 130 0 (pm_ent 6 as) [] σ K) := (pm_WC_e (by decide)).trans (by rw [lg_130])
theorem e_M_of {d : Nat} {as : List Value} {σ : pm_S} {K : Option Value → pm_S → Prop} : pm_WC fqP (d + 1) 131 as σ K = (pm_okW 3 as = true ∧ pm_W fqP d 131 0 (pm_ent 3 as) [] σ K) := (pm_WC_e (by decide)).trans (by rw [lg_131])
theorem e_M_row {d : Nat} {as : List Value} {σ : pm_S} {K : Option Value → pm_S → Prop} : pm_WC fqP (d + 1) 132 as σ K = (pm_okW 4 as = true ∧ pm_W fqP d 132 0 (pm_ent 4 as) [] σ K) := (pm_WC_e (by decide)).trans (by rw [lg_132])
theorem e_M_set {d : Nat} {as : List Value} {σ : pm_S} {K : Option Value → pm_S → Prop} : pm_WC fqP (d + 1) 133 as σ K = (pm_okW 4 as = true ∧ pm_W fqP d 133 0 (pm_ent 4 as) [] σ K) := (pm_WC_e (by decide)).trans (by rw [lg_133])
theorem e_M_lose {d : Nat} {as : List Value} {σ : pm_S} {K : Option Value → pm_S → Prop} : pm_WC fqP (d + 1) 134 as σ K = (pm_okW 3 as = true ∧ pm_W fqP d 134 0 (pm_ent 3 as) [] σ K) := (pm_WC_e (by decide)).trans (by rw [lg_134])
theorem e_M_wind {d : Nat} {as : List Value} {σ : pm_S} {K : Option Value → pm_S → Prop} : pm_WC fqP (d + 1) 135 as σ K = (pm_okW 3 as = true ∧ pm_W fqP d 135 0 (pm_ent 3 as) [] σ K) := (pm_WC_e (by decide)).trans (by rw [lg_135])
theorem e_M_isListed {d : Nat} {as : List Value} {σ : pm_S} {K : Option Value → pm_S → Prop} : pm_WC fqP (d + 1) 136 as σ K = (pm_okW 4 as = true ∧ pm_W fqP d 136 0 (pm_ent 4 as) [] σ K) := (pm_WC_e (by decide)).trans (by rw [lg_136])
theorem e_M_move {d : Nat} {as : List Value} {σ : pm_S} {K : Option Value → pm_S → Prop} : pm_WC fqP (d + 1) 137 as σ K = (pm_okW 2 as = true ∧ pm_W fqP d 137 0 (pm_ent 2 as) [] σ K) := (pm_WC_e (by decide)).trans (by rw [lg_137])
theorem e_M_carry {d : Nat} {as : List Value} {σ : pm_S} {K : Option Value → pm_S → Prop} : pm_WC fqP (d + 1) 138 as σ K = (pm_okW 3 as = true ∧ pm_W fqP d 138 0 (pm_ent 3 as) [] σ K) := (pm_WC_e (by decide)).trans (by rw [lg_138])
theorem e_M_votesOn {d : Nat} {as : List Value} {σ : pm_S} {K : Option Value → pm_S → Prop} : pm_WC fqP (d + 1) 139 as σ K = (pm_okW 6 as = true ∧ pm_W fqP d 139 0 (pm_ent 6 as) [] σ K) := (pm_WC_e (by decide)).trans (by rw [lg_139])
theorem e_M_goes {d : Nat} {as : List Value} {σ : pm_S} {K : Option Value → pm_S → Prop} : pm_WC fqP (d + 1) 140 as σ K = (pm_okW 3 as = true ∧ pm_W fqP d 140 0 (pm_ent 3 as) [] σ K) := (pm_WC_e (by decide)).trans (by rw [lg_140])
theorem e_M_goesByLine {d : Nat} {as : List Value} {σ : pm_S} {K : Option Value → pm_S → Prop} : pm_WC fqP (d + 1) 141 as σ K = (pm_okW 3 as = true ∧ pm_W fqP d 141 0 (pm_ent 3 as) [] σ K) := (pm_WC_e (by decide)).trans (by rw [lg_141])
theorem e_M_goesOn {d : Nat} {as : List Value} {σ : pm_S} {K : Option Value → pm_S → Prop} : pm_WC fqP (d + 1) 142 as σ K = (pm_okW 3 as = true ∧ pm_W fqP d 142 0 (pm_ent 3 as) [] σ K) := (pm_WC_e (by decide)).trans (by rw [lg_142])
theorem e_M_pass {d : Nat} {as : List Value} {σ : pm_S} {K : Option Value → pm_S → Prop} : pm_WC fqP (d + 1) 143 as σ K = (pm_okW 2 as = true ∧ pm_W fqP d 143 0 (pm_ent 2 as) [] σ K) := (pm_WC_e (by decide)).trans (by rw [lg_143])
theorem e_M_on {d : Nat} {as : List Value} {σ : pm_S} {K : Option Value → pm_S → Prop} : pm_WC fqP (d + 1) 144 as σ K = (pm_okW 4 as = true ∧ pm_W fqP d 144 0 (pm_ent 4 as) [] σ K) := (pm_WC_e (by decide)).trans (by rw [lg_144])
theorem e_M_when {d : Nat} {as : List Value} {σ : pm_S} {K : Option Value → pm_S → Prop} : pm_WC fqP (d + 1) 145 as σ K = (pm_okW 4 as = true ∧ pm_W fqP d 145 0 (pm_ent 4 as) [] σ K) := (pm_WC_e (by decide)).trans (by rw [lg_145])
theorem e_M_still {d : Nat} {as : List Value} {σ : pm_S} {K : Option Value → pm_S → Prop} : pm_WC fqP (d + 1) 146 as σ K = (pm_okW 5 as = true ∧ pm_W fqP d 146 0 (pm_ent 5 as) [] σ K) := (pm_WC_e (by decide)).trans (by rw [lg_146])
theorem e_M_told {d : Nat} {as : List Value} {σ : pm_S} {K : Option Value → pm_S → Prop} : pm_WC fqP (d + 1) 147 as σ K = (pm_okW 2 as = true ∧ pm_W fqP d 147 0 (pm_ent 2 as) [] σ K) := (pm_WC_e (by decide)).trans (by rw [lg_147])
theorem e_M_triesLine {d : Nat} {as : List Value} {σ : pm_S} {K : Option Value → pm_S → Prop} : pm_WC fqP (d + 1) 148 as σ K = (pm_okW 4 as = true ∧ pm_W fqP d 148 0 (pm_ent 4 as) [] σ K) := (pm_WC_e (by decide)).trans (by rw [lg_148])
theorem e_M_linesFrom {d : Nat} {as : List Value} {σ : pm_S} {K : Option Value → pm_S → Prop} : pm_WC fqP (d + 1) 149 as σ K = (pm_okW 5 as = true ∧ pm_W fqP d 149 0 (pm_ent 5 as) [] σ K) := (pm_WC_e (by decide)).trans (by rw [lg_149])
theorem e_M_order {d : Nat} {as : List Value} {σ : pm_S} {K : Option Value → pm_S → Prop} : pm_WC fqP (d + 1) 150 as σ K = (pm_okW 3 as = true ∧ pm_W fqP d 150 0 (pm_ent 3 as) [] σ K) := (pm_WC_e (by decide)).trans (by rw [lg_150])
theorem e_M_isCarriedThen {d : Nat} {as : List Value} {σ : pm_S} {K : Option Value → pm_S → Prop} : pm_WC fqP (d + 1) 151 as σ K = (pm_okW 3 as = true ∧ pm_W fqP d 151 0 (pm_ent 3 as) [] σ K) := (pm_WC_e (by decide)).trans (by rw [lg_151])
theorem e_M_blowing {d : Nat} {as : List Value} {σ : pm_S} {K : Option Value → pm_S → Prop} : pm_WC fqP (d + 1) 152 as σ K = (pm_okW 4 as = true ∧ pm_W fqP d 152 0 (pm_ent 4 as) [] σ K) := (pm_WC_e (by decide)).trans (by rw [lg_152])
theorem e_M_blows {d : Nat} {as : List Value} {σ : pm_S} {K : Option Value → pm_S → Prop} : pm_WC fqP (d + 1) 153 as σ K = (pm_okW 2 as = true ∧ pm_W fqP d 153 0 (pm_ent 2 as) [] σ K) := (pm_WC_e (by decide)).trans (by rw [lg_153])
theorem e_M_stop {d : Nat} {as : List Value} {σ : pm_S} {K : Option Value → pm_S → Prop} : pm_WC fqP (d + 1) 154 as σ K = (pm_okW 5 as = true ∧ pm_W fqP d 154 0 (pm_ent 5 as) [] σ K) := (pm_WC_e (by decide)).trans (by rw [lg_154])
theorem e_M_see {d : Nat} {as : List Value} {σ : pm_S} {K : Option Value → pm_S → Prop} : pm_WC fqP (d + 1) 155 as σ K = (pm_okW 4 as = true ∧ pm_W fqP d 155 0 (pm_ent 4 as) [] σ K) := (pm_WC_e (by decide)).trans (by rw [lg_155])
theorem e_M_isAsSeen {d : Nat} {as : List Value} {σ : pm_S} {K : Option Value → pm_S → Prop} : pm_WC fqP (d + 1) 156 as σ K = (pm_okW 4 as = true ∧ pm_W fqP d 156 0 (pm_ent 4 as) [] σ K) := (pm_WC_e (by decide)).trans (by rw [lg_156])
theorem e_M_areAsSeen {d : Nat} {as : List Value} {σ : pm_S} {K : Option Value → pm_S → Prop} : pm_WC fqP (d + 1) 157 as σ K = (pm_okW 3 as = true ∧ pm_W fqP d 157 0 (pm_ent 3 as) [] σ K) := (pm_WC_e (by decide)).trans (by rw [lg_157])
theorem e_M_drifts {d : Nat} {as : List Value} {σ : pm_S} {K : Option Value → pm_S → Prop} : pm_WC fqP (d + 1) 158 as σ K = (pm_okW 4 as = true ∧ pm_W fqP d 158 0 (pm_ent 4 as) [] σ K) := (pm_WC_e (by decide)).trans (by rw [lg_158])
theorem e_M_firm {d : Nat} {as : List Value} {σ : pm_S} {K : Option Value → pm_S → Prop} : pm_WC fqP (d + 1) 159 as σ K = (pm_okW 8 as = true ∧ pm_W fqP d 159 0 (pm_ent 8 as) [] σ K) := (pm_WC_e (by decide)).trans (by rw [lg_159])
theorem e_M_lowest {d : Nat} {as : List Value} {σ : pm_S} {K : Option Value → pm_S → Prop} : pm_WC fqP (d + 1) 160 as σ K = (pm_okW 11 as = true ∧ pm_W fqP d 160 0 (pm_ent 11 as) [] σ K) := (pm_WC_e (by decide)).trans (by rw [lg_160])
theorem e_M_rows {d : Nat} {as : List Value} {σ : pm_S} {K : Option Value → pm_S → Prop} : pm_WC fqP (d + 1) 161 as σ K = (pm_okW 4 as = true ∧ pm_W fqP d 161 0 (pm_ent 4 as) [] σ K) := (pm_WC_e (by decide)).trans (by rw [lg_161])
theorem e_M_weightsOf {d : Nat} {as : List Value} {σ : pm_S} {K : Option Value → pm_S → Prop} : pm_WC fqP (d + 1) 162 as σ K = (pm_okW 4 as = true ∧ pm_W fqP d 162 0 (pm_ent 4 as) [] σ K) := (pm_WC_e (by decide)).trans (by rw [lg_162])
theorem e_M_power {d : Nat} {as : List Value} {σ : pm_S} {K : Option Value → pm_S → Prop} : pm_WC fqP (d + 1) 163 as σ K = (pm_okW 12 as = true ∧ pm_W fqP d 163 0 (pm_ent 12 as) [] σ K) := (pm_WC_e (by decide)).trans (by rw [lg_163])
theorem e_M_odds {d : Nat} {as : List Value} {σ : pm_S} {K : Option Value → pm_S → Prop} : pm_WC fqP (d + 1) 164 as σ K = (pm_okW 7 as = true ∧ pm_W fqP d 164 0 (pm_ent 7 as) [] σ K) := (pm_WC_e (by decide)).trans (by rw [lg_164])
theorem e_M_mean {d : Nat} {as : List Value} {σ : pm_S} {K : Option Value → pm_S → Prop} : pm_WC fqP (d + 1) 165 as σ K = (pm_okW 3 as = true ∧ pm_W fqP d 165 0 (pm_ent 3 as) [] σ K) := (pm_WC_e (by decide)).trans (by rw [lg_165])
theorem e_M_plan {d : Nat} {as : List Value} {σ : pm_S} {K : Option Value → pm_S → Prop} : pm_WC fqP (d + 1) 166 as σ K = (pm_okW 3 as = true ∧ pm_W fqP d 166 0 (pm_ent 3 as) [] σ K) := (pm_WC_e (by decide)).trans (by rw [lg_166])
theorem e_M_goesBy {d : Nat} {as : List Value} {σ : pm_S} {K : Option Value → pm_S → Prop} : pm_WC fqP (d + 1) 167 as σ K = (pm_okW 3 as = true ∧ pm_W fqP d 167 0 (pm_ent 3 as) [] σ K) := (pm_WC_e (by decide)).trans (by rw [lg_167])
theorem e_M_done {d : Nat} {as : List Value} {σ : pm_S} {K : Option Value → pm_S → Prop} : pm_WC fqP (d + 1) 168 as σ K = (pm_okW 3 as = true ∧ pm_W fqP d 168 0 (pm_ent 3 as) [] σ K) := (pm_WC_e (by decide)).trans (by rw [lg_168])
theorem e_M_book {d : Nat} {as : List Value} {σ : pm_S} {K : Option Value → pm_S → Prop} : pm_WC fqP (d + 1) 169 as σ K = (pm_okW 3 as = true ∧ pm_W fqP d 169 0 (pm_ent 3 as) [] σ K) := (pm_WC_e (by decide)).trans (by rw [lg_169])
theorem e_M_looked {d : Nat} {as : List Value} {σ : pm_S} {K : Option Value → pm_S → Prop} : pm_WC fqP (d + 1) 170 as σ K = (pm_okW 2 as = true ∧ pm_W fqP d 170 0 (pm_ent 2 as) [] σ K) := (pm_WC_e (by decide)).trans (by rw [lg_170])
theorem e_M_ranBody {d : Nat} {as : List Value} {σ : pm_S} {K : Option Value → pm_S → Prop} : pm_WC fqP (d + 1) 171 as σ K = (pm_okW 2 as = true ∧ pm_W fqP d 171 0 (pm_ent 2 as) [] σ K) := (pm_WC_e (by decide)).trans (by rw [lg_171])
theorem e_M_isUnder {d : Nat} {as : List Value} {σ : pm_S} {K : Option Value → pm_S → Prop} : pm_WC fqP (d + 1) 172 as σ K = (pm_okW 2 as = true ∧ pm_W fqP d 172 0 (pm_ent 2 as) [] σ K) := (pm_WC_e (by decide)).trans (by rw [lg_172])
theorem e_M_plainBobs {d : Nat} {as : List Value} {σ : pm_S} {K : Option Value → pm_S → Prop} : pm_WC fqP (d + 1) 173 as σ K = (pm_okW 2 as = true ∧ pm_W fqP d 173 0 (pm_ent 2 as) [] σ K) := (pm_WC_e (by decide)).trans (by rw [lg_173])
theorem e_M_bobsActs {d : Nat} {as : List Value} {σ : pm_S} {K : Option Value → pm_S → Prop} : pm_WC fqP (d + 1) 174 as σ K = (pm_okW 2 as = true ∧ pm_W fqP d 174 0 (pm_ent 2 as) [] σ K) := (pm_WC_e (by decide)).trans (by rw [lg_174])
theorem e_M_plainSits {d : Nat} {as : List Value} {σ : pm_S} {K : Option Value → pm_S → Prop} : pm_WC fqP (d + 1) 175 as σ K = (pm_okW 2 as = true ∧ pm_W fqP d 175 0 (pm_ent 2 as) [] σ K) := (pm_WC_e (by decide)).trans (by rw [lg_175])
theorem e_M_sitsActs {d : Nat} {as : List Value} {σ : pm_S} {K : Option Value → pm_S → Prop} : pm_WC fqP (d + 1) 176 as σ K = (pm_okW 2 as = true ∧ pm_W fqP d 176 0 (pm_ent 2 as) [] σ K) := (pm_WC_e (by decide)).trans (by rw [lg_176])
theorem e_M_plainTelling {d : Nat} {as : List Value} {σ : pm_S} {K : Option Value → pm_S → Prop} : pm_WC fqP (d + 1) 177 as σ K = (pm_okW 2 as = true ∧ pm_W fqP d 177 0 (pm_ent 2 as) [] σ K) := (pm_WC_e (by decide)).trans (by rw [lg_177])
theorem e_M_votesActs {d : Nat} {as : List Value} {σ : pm_S} {K : Option Value → pm_S → Prop} : pm_WC fqP (d + 1) 178 as σ K = (pm_okW 3 as = true ∧ pm_W fqP d 178 0 (pm_ent 3 as) [] σ K) := (pm_WC_e (by decide)).trans (by rw [lg_178])
theorem e_M_act {d : Nat} {as : List Value} {σ : pm_S} {K : Option Value → pm_S → Prop} : pm_WC fqP (d + 1) 179 as σ K = (pm_okW 4 as = true ∧ pm_W fqP d 179 0 (pm_ent 4 as) [] σ K) := (pm_WC_e (by decide)).trans (by rw [lg_179])
theorem e_M_trace {d : Nat} {as : List Value} {σ : pm_S} {K : Option Value → pm_S → Prop} : pm_WC fqP (d + 1) 180 as σ K = (pm_okW 2 as = true ∧ pm_W fqP d 180 0 (pm_ent 2 as) [] σ K) := (pm_WC_e (by decide)).trans (by rw [lg_180])
theorem e_M_as {d : Nat} {as : List Value} {σ : pm_S} {K : Option Value → pm_S → Prop} : pm_WC fqP (d + 1) 181 as σ K = (pm_okW 3 as = true ∧ pm_W fqP d 181 0 (pm_ent 3 as) [] σ K) := (pm_WC_e (by decide)).trans (by rw [lg_181])
theorem e_M_image {d : Nat} {as : List Value} {σ : pm_S} {K : Option Value → pm_S → Prop} : pm_WC fqP (d + 1) 182 as σ K = (pm_okW 2 as = true ∧ pm_W fqP d 182 0 (pm_ent 2 as) [] σ K) := (pm_WC_e (by decide)).trans (by rw [lg_182])
theorem e_M_undo {d : Nat} {as : List Value} {σ : pm_S} {K : Option Value → pm_S → Prop} : pm_WC fqP (d + 1) 183 as σ K = (pm_okW 2 as = true ∧ pm_W fqP d 183 0 (pm_ent 2 as) [] σ K) := (pm_WC_e (by decide)).trans (by rw [lg_183])
theorem e_M_count {d : Nat} {as : List Value} {σ : pm_S} {K : Option Value → pm_S → Prop} : pm_WC fqP (d + 1) 184 as σ K = (pm_okW 2 as = true ∧ pm_W fqP d 184 0 (pm_ent 2 as) [] σ K) := (pm_WC_e (by decide)).trans (by rw [lg_184])
theorem e_Integer_bitCount {d : Nat} {as : List Value} {σ : pm_S} {K : Option Value → pm_S → Prop} : pm_WC fqP (d + 1) 185 as σ K = (pm_okW 1 as = true ∧ pm_W fqP d 185 0 (pm_ent 1 as) [] σ K) := (pm_WC_e (by decide)).trans (by rw [lg_185])
theorem e_law {d : Nat} {as : List Value} {σ : pm_S} {K : Option Value → pm_S → Prop} : pm_WC fqP (d + 1) 186 as σ K = (pm_okW 4 as = true ∧ pm_W fqP d 186 0 (pm_ent 4 as) [] σ K) := (pm_WC_e (by decide)).trans (by rw [lg_186])
