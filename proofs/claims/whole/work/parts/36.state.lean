/-! THE STATE: the reference's row s, read by places; what both sides make of it -/
def nN (s : List Int32) (i : Nat) : Nat := (gd s i).toNatClampNeg
def bnd (T i : Nat) : Nat := if i = 0 then T else if i < 12 then 1 else if i < 22 then 9 else if i = 22 then 6 else if i < 26 then 5 else if i < 28 then 8 else if i = 28 then 100 else if i < 36 then 6 else if i < 72 then 9 else if i < 82 then 4 else if i < 87 then 20 else if i < 92 then 1 else if i < 100 then 3 else if i < 116 then 5 else if i < 124 then 9 else if i < 224 then 127 else if i < 229 then 99 else 140
/-- what is true of the steps of a bar: f truths lie open -/
def rok : List Int32 → Nat → Prop
  | [], _ => True
  | x :: r, f => if 0 ≤ x then (pm_inR (x - x / 8 * 8) 6 ∧ f < 60 ∧ rok r (f + 1)) else if x = -1 then (1 ≤ f ∧ rok r f) else if -10 < x then (2 ≤ f ∧ rok r (f - 1)) else (f = 1 ∧ rok r 0)
def stepsOf (s : List Int32) : List Int32 := if gd s 29 = -1 then [] else sl s (234 + 140 * nN s 29) (nN s (229 + nN s 29))
def WF (T : Nat) (s : List Int32) : Prop := s.length = 934 ∧ (∀ i, i < 234 → ¬ i = 29 → ¬ (100 ≤ i ∧ i < 108) → gd s i = nI (nN s i) ∧ nN s i ≤ bnd T i)
  ∧ (∀ k, k < 8 → (nN s (92 + k) = 1 ∨ nN s (92 + k) = 2 → gd s (100 + k) = nI (nN s (100 + k)) ∧ nN s (100 + k) < 6) ∧ (nN s (92 + k) = 3 → gd s (100 + k) = nI (nN s (100 + k)) ∧ nN s (100 + k) < 5))
  ∧ (gd s 29 = -1 ∨ (gd s 29 = nI (nN s 29) ∧ nN s 29 < 5)) ∧ rok (stepsOf s) 0
theorem nN_of {s : List Int32} {i a : Nat} (h : gd s i = nI a) (ha : a < 2 ^ 31) : nN s i = a := by unfold nN; rw [h, ni_nat ha]
theorem wf_len {T : Nat} {s : List Int32} (h : WF T s) : s.length = 934 := h.1
theorem wf_g {T : Nat} {s : List Int32} (h : WF T s) (i : Nat) (h1 : i < 234) (h2 : ¬ i = 29) (h3 : ¬ (100 ≤ i ∧ i < 108)) : gd s i = nI (nN s i) := (h.2.1 i h1 h2 h3).1
theorem wf_b {T : Nat} {s : List Int32} (h : WF T s) (i b : Nat) (h1 : i < 234) (h2 : ¬ i = 29) (h3 : ¬ (100 ≤ i ∧ i < 108)) (hb : bnd T i ≤ b) : nN s i ≤ b := Nat.le_trans (h.2.1 i h1 h2 h3).2 hb
theorem wf_t {T : Nat} {s : List Int32} (h : WF T s) : gd s 0 = nI (nN s 0) ∧ nN s 0 ≤ T := ⟨wf_g h 0 (by omega) (by omega) (by omega), wf_b h 0 T (by omega) (by omega) (by omega) (by simp [bnd])⟩
theorem wf_c {T m : Nat} {s : List Int32} (h : WF T s) (hm : m < 5) : gd s (1 + m) = nI (nN s (1 + m)) ∧ nN s (1 + m) < 2 := ⟨wf_g h _ (by omega) (by omega) (by omega), Nat.lt_succ_of_le (wf_b h _ 1 (by omega) (by omega) (by omega) (Nat.le_of_eq (by unfold bnd; rw [if_neg (by omega), if_pos (by omega)])))⟩
theorem wf_l {T p : Nat} {s : List Int32} (h : WF T s) (hp : p < 6) : gd s (6 + p) = nI (nN s (6 + p)) ∧ nN s (6 + p) < 2 := ⟨wf_g h _ (by omega) (by omega) (by omega), Nat.lt_succ_of_le (wf_b h _ 1 (by omega) (by omega) (by omega) (Nat.le_of_eq (by unfold bnd; rw [if_neg (by omega), if_pos (by omega)])))⟩
theorem wf_n {T : Nat} {s : List Int32} (h : WF T s) : gd s 22 = nI (nN s 22) ∧ nN s 22 ≤ 6 := ⟨wf_g h _ (by omega) (by omega) (by omega), wf_b h _ 6 (by omega) (by omega) (by omega) (by simp [bnd])⟩
theorem wf_a {T : Nat} {s : List Int32} (h : WF T s) : gd s 24 = nI (nN s 24) ∧ nN s 24 ≤ 5 := ⟨wf_g h _ (by omega) (by omega) (by omega), wf_b h _ 5 (by omega) (by omega) (by omega) (by simp [bnd])⟩
theorem wf_k {T p : Nat} {s : List Int32} (h : WF T s) (hp : p < 6) : gd s (30 + p) = nI (nN s (30 + p)) ∧ nN s (30 + p) < 7 := ⟨wf_g h _ (by omega) (by omega) (by omega), Nat.lt_succ_of_le (wf_b h _ 6 (by omega) (by omega) (by omega) (Nat.le_of_eq (by unfold bnd; rw [if_neg (by omega), if_neg (by omega), if_neg (by omega), if_neg (by omega), if_neg (by omega), if_neg (by omega), if_neg (by omega), if_pos (by omega)])))⟩
theorem wf_m {T k : Nat} {s : List Int32} (h : WF T s) (hk : k < 5) : gd s (72 + k) = nI (nN s (72 + k)) ∧ nN s (72 + k) < 5 := ⟨wf_g h _ (by omega) (by omega) (by omega), Nat.lt_succ_of_le (wf_b h _ 4 (by omega) (by omega) (by omega) (Nat.le_of_eq (by unfold bnd; rw [if_neg (by omega), if_neg (by omega), if_neg (by omega), if_neg (by omega), if_neg (by omega), if_neg (by omega), if_neg (by omega), if_neg (by omega), if_neg (by omega), if_pos (by omega)])))⟩
def cN (s : List Int32) : Nat := msk (fun m => nN s (1 + m)) 5
def loN (s : List Int32) : Nat := msk (fun p => nN s (6 + p)) 6
theorem cN_lt {T : Nat} {s : List Int32} (h : WF T s) : cN s < 32 := msk_lt 5 fun k hk => (wf_c h hk).2
theorem loN_lt {T : Nat} {s : List Int32} (h : WF T s) : loN s < 64 := msk_lt 6 fun k hk => (wf_l h hk).2
theorem tb_c {T m : Nat} {s : List Int32} (h : WF T s) (hm : m < 5) : tb (cN s) m = nN s (1 + m) := by unfold cN; rw [msk_tb 5 (by omega) (fun k hk => (wf_c h hk).2) m (by omega), if_pos hm]
theorem tb_l {T p : Nat} {s : List Int32} (h : WF T s) (hp : p < 6) : tb (loN s) p = nN s (6 + p) := by unfold loN; rw [msk_tb 6 (by omega) (fun k hk => (wf_l h hk).2) p (by omega), if_pos hp]
theorem bt_c {T m : Nat} {s : List Int32} (h : WF T s) (hm : m < 5) : bt (nI (cN s)) (nI m) = nI (nN s (1 + m)) := by rw [bt_n _ (by have := cN_lt h; omega) m (by omega), tb_c h hm]
theorem bt_l {T p : Nat} {s : List Int32} (h : WF T s) (hp : p < 6) : bt (nI (loN s)) (nI p) = nI (nN s (6 + p)) := by rw [bt_n _ (by have := loN_lt h; omega) p (by omega), tb_l h hp]
theorem msk_ext {a b : Nat} (ha : a < 64) (hb : b < 64) (h : ∀ k, k < 6 → tb a k = tb b k) : a = b := by rw [← msk_6 a ha, ← msk_6 b hb, msk_cg 6 h]
def quo (s : List Int32) : Int32 := if gd s 29 = -1 then 2 else gd s (224 + nN s 29)
def inN (s : List Int32) (p : Nat) : Nat := if gd s (6 + p) = 0 ∧ gd s (12 + p) ≤ gd s (18 + nN s 0 % 4) + 3 * gd s 1 then 1 else 0
def here (s : List Int32) : Nat := msk (inN s) (nN s 22)
theorem inN_lt (s : List Int32) (p : Nat) : inN s p < 2 := by unfold inN; split <;> omega
theorem here_lt {T : Nat} {s : List Int32} (h : WF T s) : here s < 64 := Nat.lt_of_lt_of_le (msk_lt _ fun k _ => inN_lt s k) (Nat.pow_le_pow_right (by omega) (wf_n h).2)
theorem tb_here {T p : Nat} {s : List Int32} (h : WF T s) (hp : p < 6) : tb (here s) p = if p < nN s 22 then inN s p else 0 := msk_tb _ (by have := wf_n h; omega) (fun k _ => inN_lt s k) p (by omega)
/-- what a fact is held against -/
def cmpI (how fact v : Int32) : Bool := if how = 0 then decide (fact < v) else if how = 1 then decide (fact = v) else decide (v < fact)
def rrun (f : List Int32) : List Int32 → List Bool → Int32 → Int32
  | [], _, sum => sum
  | x :: r, st, sum => if 0 ≤ x then rrun f r (cmpI (x / 8 - x / 8 / 4 * 4) (pm_rd f (x - x / 8 * 8)) (x / 32) :: st) sum
    else if x = -1 then rrun f r ((!st.headD false) :: st.tail) sum
    else if -10 < x then rrun f r ((if x = -2 then st.tail.headD false && st.headD false else st.tail.headD false || st.headD false) :: st.tail.tail) sum
    else rrun f r [] (sum + (if st.headD false = true ∧ -200 < x then -10 - x else 0) - (if st.headD false = true ∧ x ≤ -200 then -200 - x else 0))
def rsum (s f : List Int32) : Int32 := rrun f (stepsOf s) [] 0
def fl (s : List Int32) (p m : Nat) : List Int32 := [nI p, gd s (30 + p), gd s (36 + p), nI m, nI (pc (cN s) 5), nI (nN s 0 % 10)]
def chairF (s : List Int32) (p m : Nat) (sum : Int32) : Int32 := if m % 2 = 0 then sum + gd s (36 + p) else sum
def caskF (s : List Int32) (sum : Int32) : Int32 := if nN s 0 % 2 = 1 then -sum else sum
def kindF (s : List Int32) (p m : Nat) (sum : Int32) : Int32 :=
  if nN s (30 + p) = 1 then chairF s p m sum else if nN s (30 + p) = 2 then caskF s sum else if nN s (30 + p) = 3 then sum / 2
  else if nN s (30 + p) = 4 then chairF s p m sum - 2 * nI (pc (cN s) 5) else if nN s (30 + p) = 5 then caskF s sum + gd s (36 + p)
  else if nN s (30 + p) = 6 then sum / 2 + gd s (48 + (4 * p + m % 4)) - 4 else sum
def likeF (s : List Int32) (p m : Nat) : Int32 := kindF s p m (rsum s (fl s p m))
def balF (s : List Int32) (hr m : Nat) : Nat → Int32
  | 0 => 0
  | p + 1 => balF s hr m p + (if tb hr p = 1 then (if 0 < likeF s p m then gd s (42 + p) else if likeF s p m < 0 then - gd s (42 + p) else 0) else 0)
def voteF (s : List Int32) (hr m : Nat) : Nat := if 0 < balF s hr m (nN s 22) then 1 else 0
def vt1 (s : List Int32) (hr m : Nat) : List Int32 := s.set (1 + m) (nI (voteF s hr m))
/-- behind k votes along a row of motions -/
def vts (s : List Int32) (hr : Nat) (ag : List Int32) : Nat → List Int32
  | 0 => s
  | k + 1 => vt1 (vts s hr ag k) hr (nN ag k)
def goBy (s : List Int32) (ag : List Int32) (n : Nat) : List Int32 :=
  let s1 := if quo s ≤ nI (pc (here s) 6) then vts s (here s) ag n else s
  s1.set 0 (gd s 0 + 1)
def goes (s : List Int32) : List Int32 := goBy s (sl s 72 5) (nN s 24)
/-- the code of a clause runs from a place on -/
def chd (code f : List Int32) (to : Nat) : Nat → Nat → Bool → Bool
  | 0, _, is => is
  | k + 1, a, is => if a < to ∧ a < 100 then
      (if gd code a &&& 15 < 6 then chd code f to k (a + 1) (cmpI ((gd code a >>> 4) &&& 15) (pm_rd f (gd code a &&& 15)) (gd code a >>> 8))
      else if gd code a &&& 15 = 6 then chd code f to k (a + 1) (!is)
      else if is = decide (gd code a &&& 15 = 7) ∧ nI a < gd code a >>> 8 then chd code f to k (gd code a >>> 8).toNatClampNeg is
      else chd code f to k (a + 1) is) else is
def csum (fac ends code f : List Int32) : Nat → Int32
  | 0 => 0
  | k + 1 => csum fac ends code f k + (if chd code f (nN ends k) 101 (if k = 0 then 0 else nN ends (k - 1)) false = true then gd fac k else 0)
def CB (c : Nat) (s : List Int32) (h : Nat → List Int32) : Prop := (h c).length = 3 ∧ (h (c + 1)).length = 10 ∧ (h (c + 2)).length = 10 ∧ (h (c + 3)).length = 100 ∧ gd (h c) 2 = quo s
  ∧ (gd (h c) 0 = nI (nN (h c) 0) ∧ nN (h c) 0 ≤ 10) ∧ (∀ i, i < nN (h c) 0 → gd (h (c + 2)) i = nI (nN (h (c + 2)) i) ∧ nN (h (c + 2)) i ≤ 100)
  ∧ (∀ f : List Int32, f.length = 6 → csum (h (c + 1)) (h (c + 2)) (h (c + 3)) f (nN (h c) 0) = rsum s f)
/-- the class's Shore at b holds what s tells, its agenda ag -/
def CS (b : Nat) (s ag : List Int32) (n : Nat) (h : Nat → List Int32) : Prop := h b = [nI n, nI (cN s), gd s 0] ∧ h (b + 5) = [nI (loN s), gd s 22] ∧ h (b + 6) = sl s 30 6 ∧ h (b + 7) = sl s 36 6 ∧ h (b + 8) = sl s 42 6 ∧ h (b + 9) = sl s 12 6
  ∧ h (b + 10) = sl s 48 24 ∧ h (b + 11) = sl s 18 4 ∧ h (b + 12) = ag ∧ (h (b + 13)).length = 6 ∧ CB (b + 1) s h
/-- a row of motions -/
def AG (ag : List Int32) (n : Nat) : Prop := ag.length = 5 ∧ n ≤ 5 ∧ ∀ k, k < 5 → gd ag k = nI (nN ag k) ∧ nN ag k < 5
theorem cs_cg {b n : Nat} {s ag : List Int32} {h h1 : Nat → List Int32} (hc : CS b s ag n h) (e : ∀ k, b ≤ k → k < b + 14 → h1 k = h k) : CS b s ag n h1 := by
  unfold CS CB at hc ⊢
  rw [e b (by omega) (by omega), e (b + 5) (by omega) (by omega), e (b + 6) (by omega) (by omega), e (b + 7) (by omega) (by omega), e (b + 8) (by omega) (by omega), e (b + 9) (by omega) (by omega), e (b + 10) (by omega) (by omega), e (b + 11) (by omega) (by omega), e (b + 12) (by omega) (by omega), e (b + 13) (by omega) (by omega), e (b + 1) (by omega) (by omega), e (b + 1 + 1) (by omega) (by omega), e (b + 1 + 2) (by omega) (by omega), e (b + 1 + 3) (by omega) (by omega)]
  exact hc
