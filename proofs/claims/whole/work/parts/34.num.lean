/-! NUMBERS AND MASKS -/
theorem ni_mul (a b : Nat) : nI a * nI b = nI (a * b) := (Int32.ofNat_mul a b).symm
theorem ni_div {a b : Nat} (ha : a < 2 ^ 31) (hb : b < 2 ^ 31) : nI a / nI b = nI (a / b) := by
  apply Int32.toInt_inj.mp
  have h2 : a / b < 2 ^ 31 := Nat.lt_of_le_of_lt (Nat.div_le_self a b) ha
  rw [Int32.toInt_div, ni_int ha, ni_int hb, ni_int h2, ← Int.ofNat_tdiv, Int.bmod_def]
  generalize a / b = q at h2 ⊢
  split <;> omega
theorem ni_mod {a b : Nat} (ha : a < 2 ^ 31) (hb : b < 2 ^ 31) : nI a - nI a / nI b * nI b = nI (a % b) := by
  rw [ni_div ha hb, ni_mul, ni_sub (Nat.div_mul_le_self a b)]
  congr 1
  have := Nat.mod_add_div a b
  rw [Nat.mul_comm] at this
  omega
def tb (m i : Nat) : Nat := m / 2 ^ i % 2
def sb (m i c : Nat) : Nat := m + c * 2 ^ i - tb m i * 2 ^ i
theorem tb_lt (m i : Nat) : tb m i < 2 := Nat.mod_lt _ (by decide)
theorem bt_n : ∀ m, m < 1024 → ∀ i, i < 10 → bt (nI m) (nI i) = nI (tb m i) := by decide +kernel
theorem sb_lt6 : ∀ m, m < 64 → ∀ i, i < 6 → ∀ c, c < 2 → sb m i c < 64 := by decide +kernel
theorem sb_lt5 : ∀ m, m < 32 → ∀ i, i < 5 → ∀ c, c < 2 → sb m i c < 32 := by decide +kernel
theorem tb_sb : ∀ m, m < 64 → ∀ i, i < 6 → ∀ c, c < 2 → ∀ k, k < 6 → tb (sb m i c) k = if k = i then c else tb m k := by decide +kernel
theorem wb_n1 : ∀ m, m < 64 → ∀ i, i < 6 → wb (nI m) (nI i) True = nI (sb m i 1) := by decide +kernel
theorem wb_n0 : ∀ m, m < 64 → ∀ i, i < 6 → wb (nI m) (nI i) False = nI (sb m i 0) := by decide +kernel
theorem wb_n {m i : Nat} (hm : m < 64) (hi : i < 6) (c : Prop) [Decidable c] : wb (nI m) (nI i) c = nI (sb m i (if c then 1 else 0)) := by
  by_cases h : c
  · have := wb_n1 m hm i hi; rw [if_pos h]; unfold wb at this ⊢; rw [if_pos trivial] at this; rw [if_pos h]; exact this
  · have := wb_n0 m hm i hi; rw [if_neg h]; unfold wb at this ⊢; rw [if_neg (fun q => q)] at this; rw [if_neg h]; exact this
theorem wb_a1 : ∀ i, i < 10 → ∀ m, m < 2 ^ i → wb (nI m) (nI i) True = nI (m + 2 ^ i) := by decide +kernel
theorem wb_a0 : ∀ i, i < 10 → ∀ m, m < 2 ^ i → wb (nI m) (nI i) False = nI m := by decide +kernel
theorem wb_a {m i : Nat} (hi : i < 10) (hm : m < 2 ^ i) (c : Prop) [Decidable c] : wb (nI m) (nI i) c = nI (m + (if c then 1 else 0) * 2 ^ i) := by
  by_cases h : c
  · have := wb_a1 i hi m hm; rw [if_pos h, Nat.one_mul]; unfold wb at this ⊢; rw [if_pos trivial] at this; rw [if_pos h]; exact this
  · have := wb_a0 i hi m hm; rw [if_neg h, Nat.zero_mul]; unfold wb at this ⊢; rw [if_neg (fun q => q)] at this; rw [if_neg h]; exact this
/-- a bit more, by or -/
theorem or_a : ∀ i, i < 10 → ∀ m, m < 2 ^ i → ∀ b, b < 2 → nI m ||| (nI b <<< (nI i &&& 31)) = nI (m + b * 2 ^ i) := by decide +kernel
theorem tb_add : ∀ n, n < 10 → ∀ a, a < 2 ^ n → ∀ b, b < 2 → ∀ k, k < 10 → tb (a + b * 2 ^ n) k = if k = n then b else tb a k := by decide +kernel
def msk (f : Nat → Nat) : Nat → Nat
  | 0 => 0
  | n + 1 => msk f n + f n * 2 ^ n
theorem msk_lt {f : Nat → Nat} : ∀ (n : Nat), (∀ k, k < n → f k < 2) → msk f n < 2 ^ n
  | 0, _ => by simp [msk]
  | n + 1, h => by
    have i := msk_lt n (fun k hk => h k (by omega))
    have b := h n (by omega)
    rw [msk, Nat.pow_succ]
    rcases (by omega : f n = 0 ∨ f n = 1) with e | e <;> rw [e] <;> omega
theorem msk_tb {f : Nat → Nat} : ∀ (n : Nat), n ≤ 10 → (∀ k, k < n → f k < 2) → ∀ k, k < 10 → tb (msk f n) k = if k < n then f k else 0
  | 0, _, _, k, _ => by simp [msk, tb]
  | n + 1, hn, h, k, hk => by
    rw [msk, tb_add n (by omega) _ (msk_lt n fun k hk => h k (by omega)) _ (h n (by omega)) k hk]
    by_cases e : k = n
    · rw [if_pos e, if_pos (by omega), e]
    · rw [if_neg e, msk_tb n (by omega) (fun k hk => h k (by omega)) k hk]
      by_cases e2 : k < n
      · rw [if_pos e2, if_pos (by omega)]
      · rw [if_neg e2, if_neg (by omega)]
theorem msk_cg {f g : Nat → Nat} : ∀ (n : Nat), (∀ k, k < n → f k = g k) → msk f n = msk g n
  | 0, _ => rfl
  | n + 1, h => by rw [msk, msk, msk_cg n (fun k hk => h k (by omega)), h n (by omega)]
theorem msk_5 : ∀ m, m < 32 → msk (tb m) 5 = m := by decide +kernel
theorem msk_6 : ∀ m, m < 64 → msk (tb m) 6 = m := by decide +kernel
def pc (m : Nat) : Nat → Nat
  | 0 => 0
  | n + 1 => pc m n + tb m n
theorem pc_le (m : Nat) : ∀ n, pc m n ≤ n
  | 0 => Nat.le_refl 0
  | n + 1 => by have := pc_le m n; have := tb_lt m n; rw [pc]; omega
def bcf (x : Int32) : Int32 :=
  let a := x - ((x.toUInt32 >>> (Int32.toUInt32 1 &&& Int32.toUInt32 31)).toInt32 &&& 1431655765)
  let b := (a &&& 858993459) + ((a.toUInt32 >>> (Int32.toUInt32 2 &&& Int32.toUInt32 31)).toInt32 &&& 858993459)
  let c := (b + (b.toUInt32 >>> (Int32.toUInt32 4 &&& Int32.toUInt32 31)).toInt32) &&& 252645135
  let e := c + (c.toUInt32 >>> (Int32.toUInt32 8 &&& Int32.toUInt32 31)).toInt32
  (e + (e.toUInt32 >>> (Int32.toUInt32 16 &&& Int32.toUInt32 31)).toInt32) &&& 63
theorem bcf_n : ∀ n, n < 1024 → bcf (nI n) = nI (pc n 10) := by decide +kernel
theorem pc_6 : ∀ n, n < 64 → pc n 10 = pc n 6 := by decide +kernel
theorem pc_5 : ∀ n, n < 32 → pc n 10 = pc n 5 := by decide +kernel
theorem c_Integer_bitCount {d n : Nat} {σ : pm_S} {K : Option Value → pm_S → Prop} (hn : n < 1024) : pm_WC fqP (d + 1) 185 [.int (nI n)] σ K = K (some (.int (nI (pc n 10)))) σ := by
  rw [← bcf_n n hn]
  simp (maxDischargeDepth := 20) (maxSteps := 2000000) only [pm_WL_nil, bi_900, bi_901, bi_904, bi_905, pm_lget_0, pm_lget_s, pm_oI_s, pm_oA_s, pm_oJ_s, pm_oK_s, pm_oR_s, pm_oO_s, pm_oN_s, pm_oF_s, pm_oM_s, pm_oP_s, pm_pu_n, pm_pu_s, pm_bo_ne, pm_bo_eq, Nat.reduceAdd, Nat.reduceSub, Nat.reduceLT, Nat.reduceLeDiff, Nat.reduceEqDiff, Nat.zero_add, Nat.lt_add_one, Nat.zero_ne_one, Nat.succ_ne_self, List.length_cons, List.length_nil, true_and, and_true, true_or, or_true, false_or, or_false, false_implies, true_implies, implies_true, not_true_eq_false, not_false_eq_true, ne_eq, eq_self, e_Integer_bitCount, pm_okW_0, pm_okW_i, pm_okW_r, pm_okW_l, pm_ent_0, pm_ent_i, pm_ent_r, pm_ent_l, List.reduceReplicate, b_Integer_bitCount_0, w_iload0, w_iconst, ki_1, w_iushr, w_ldcw, lg_185, lk_10_265, w_iand, w_isub, w_istore0, pm_lset_0, pm_lset_1, pm_lset_n, pm_no2_n, pm_no2_i, pm_no2_r, pm_no2_l, lk_10_266, ki_2, w_iadd, ki_4, lk_10_267, w_bipush, kb_8, kb_16, kb_63, w_iret, pm_fit_b, pm_fit_0, pm_fit_1, Bool.false_eq_true]
  rfl
