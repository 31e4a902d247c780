/-! NUMBERS as naturals; the builtins; the leaves -/
theorem ni_add (a b : Nat) : nI a + nI b = nI (a + b) := (Int32.ofNat_add a b).symm
theorem ni_lit (k : Nat) : (OfNat.ofNat k : Int32) = nI k := rfl
theorem ni_int {n : Nat} (h : n < 2 ^ 31) : (nI n).toInt = n := Int32.toInt_ofNat_of_lt h
theorem ni_nat {n : Nat} (h : n < 2 ^ 31) : (nI n).toNatClampNeg = n := Int32.toNatClampNeg_ofNat_of_lt h
theorem ni_lt {a b : Nat} (ha : a < 2 ^ 31) (hb : b < 2 ^ 31) : (nI a < nI b) = (a < b) := by rw [Int32.lt_iff_toInt_lt, ni_int ha, ni_int hb]; exact propext Int.ofNat_lt
theorem ni_le {a b : Nat} (ha : a < 2 ^ 31) (hb : b < 2 ^ 31) : (nI a ≤ nI b) = (a ≤ b) := by rw [Int32.le_iff_toInt_le, ni_int ha, ni_int hb]; exact propext Int.ofNat_le
theorem ni_eq {a b : Nat} (ha : a < 2 ^ 31) (hb : b < 2 ^ 31) : (nI a = nI b) = (a = b) := by rw [← Int32.toInt_inj, ni_int ha, ni_int hb]; exact propext Int.ofNat_inj
theorem ni_sub {a b : Nat} (h : b ≤ a) : nI a - nI b = nI (a - b) := by
  have : nI a = nI (a - b) + nI b := by rw [ni_add]; congr 1; omega
  rw [this, Int32.add_sub_cancel]
theorem ni_inR {n m : Nat} (hn : n < 2 ^ 31) : pm_inR (nI n) m = (n < m) := by
  unfold pm_inR; rw [ni_int hn]; exact propext ⟨fun h => by omega, fun h => by omega⟩
theorem ni_rd {n : Nat} (xs : List Int32) (hn : n < 2 ^ 31) : pm_rd xs (nI n) = gd xs n := by unfold pm_rd gd; rw [ni_nat hn]
theorem ni_wr {n : Nat} (xs : List Int32) (x : Int32) (hn : n < 2 ^ 31) : pm_wr xs (nI n) x = xs.set n x := by unfold pm_wr; rw [ni_nat hn]
theorem bi_900 {d k : Nat} {σ : pm_S} {K : Option Value → pm_S → Prop} : pm_WC fqP (d + 5) 900 [.ref k] σ K = K none σ := rfl
theorem bi_901 {d a b : Nat} {p q n : Int32} {σ : pm_S} {K : Option Value → pm_S → Prop} : pm_WC fqP (d + 5) 901 [.ref a, .int p, .ref b, .int q, .int n] σ K = (pm_oR (pm_hg σ a) fun t xs => pm_oR (pm_hg σ b) fun u ys => (t = 0 ∧ u = 0 ∧ p = 0 ∧ q = 0 ∧ n = nI xs.length ∧ xs.length = ys.length ∧ xs.length < 2 ^ 31) ∧ K none (pm_hs σ b (.inr (0, xs)))) := by
  show (if 900 ≤ 901 then pm_WB (pm_bif fqP (d + 5) 901 [.ref a, .int p, .ref b, .int q, .int n] σ) K else _) = _
  rw [if_pos (by decide)]
  show pm_WB (match pm_hg σ a, pm_hg σ b with | some (.inr (0, xs)), some (.inr (0, ys)) => if p = 0 ∧ q = 0 ∧ n = nI xs.length ∧ xs.length = ys.length ∧ xs.length < 2 ^ 31 then some (none, pm_hs σ b (.inr (0, xs))) else none | _, _ => none) K = _
  cases ha : pm_hg σ a with
  | none => simp [pm_WB, pm_oR]
  | some c =>
    cases hb : pm_hg σ b with
    | none => rcases c with c | ⟨t, xs⟩ <;> simp [pm_WB, pm_oR]
    | some e =>
      rcases c with c | ⟨t, xs⟩
      · simp [pm_WB, pm_oR]
      · rcases e with e | ⟨u, ys⟩
        · rcases t with _ | t <;> simp [pm_WB, pm_oR]
        · rcases t with _ | t
          · rcases u with _ | u
            · by_cases hc : p = 0 ∧ q = 0 ∧ n = nI xs.length ∧ xs.length = ys.length ∧ xs.length < 2 ^ 31
              · simp only [if_pos hc, pm_WB, pm_oR, true_and]; exact propext ⟨fun q => ⟨hc, q⟩, fun q => q.2⟩
              · simp only [if_neg hc, pm_WB, pm_oR, true_and]; exact propext ⟨fun q => q.elim, fun q => hc q.1⟩
            · simp [pm_WB, pm_oR]
          · simp [pm_WB, pm_oR]
theorem bi_902 {d k : Nat} {σ : pm_S} {K : Option Value → pm_S → Prop} {v : Int32} (h : pm_txt fqP k 0 = some v) : pm_WC fqP (d + 5) 902 [.ref k] σ K = K (some (.int v)) σ := by
  show pm_WB (match pm_txt fqP k 0 with | some v => some (some (.int v), σ) | none => none) K = _
  rw [h]; rfl
theorem bi_903 {d k n : Nat} {σ : pm_S} {K : Option Value → pm_S → Prop} {v : Int32} (hn : n < 2 ^ 31) (h : pm_txt fqP k (n + 1) = some v) : pm_WC fqP (d + 5) 903 [.ref k, .int (nI n)] σ K = K (some (.int v)) σ := by
  show pm_WB (if 0 ≤ (nI n).toInt then (match pm_txt fqP k ((nI n).toNatClampNeg + 1) with | some v => some (some (.int v), σ) | none => none) else none) K = _
  rw [ni_int hn, ni_nat hn, if_pos (by omega), h]; rfl
theorem bi_904 {d : Nat} {x z : Int32} {σ : pm_S} {K : Option Value → pm_S → Prop} : pm_WC fqP (d + 5) 904 [.int x, .int z] σ K = K (some (.int (if x < z then z else x))) σ := rfl
theorem bi_905 {d : Nat} {x z : Int32} {σ : pm_S} {K : Option Value → pm_S → Prop} : pm_WC fqP (d + 5) 905 [.int x, .int z] σ K = K (some (.int (if z < x then z else x))) σ := rfl
theorem pm_WL_nil {P : pm_T} {d y pc : Nat} {L : pm_L} {S : List Value} {σ : pm_S} {Q : Option Value → pm_S → Prop} : pm_WL P d y pc [] L S σ Q = pm_W P d y pc L S σ Q := rfl
theorem nz_1 : ((1 : Int32) = 0) = False := eq_false (by decide)
theorem nz_2 : ((2 : Int32) = 0) = False := eq_false (by decide)
theorem nz_4 : ((4 : Int32) = 0) = False := eq_false (by decide)
theorem nz_8 : ((8 : Int32) = 0) = False := eq_false (by decide)
theorem nz_10 : ((10 : Int32) = 0) = False := eq_false (by decide)
theorem nz_32 : ((32 : Int32) = 0) = False := eq_false (by decide)
theorem nz_m1 : ((-1 : Int32) = 0) = False := eq_false (by decide)
theorem tI_0 : (nI 0).toInt = 0 := by decide
theorem tI_1 : (nI 1).toInt = 1 := by decide
theorem tI_2 : (nI 2).toInt = 2 := by decide
theorem tI_3 : (nI 3).toInt = 3 := by decide
theorem tI_4 : (nI 4).toInt = 4 := by decide
theorem tI_5 : (nI 5).toInt = 5 := by decide
theorem tI_6 : (nI 6).toInt = 6 := by decide
