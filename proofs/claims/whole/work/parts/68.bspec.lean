/-! THE TAPE READ: told once for both. An answer: whether it goes, where it stands then, the steps -/
abbrev bR : Type := Bool × Nat × List Int32
def TPE (T : Nat → Int32) (en : Nat) : Prop := en ≤ 100 ∧ (∀ p, p < en → ∃ a, a < 128 ∧ T p = nI a) ∧ ∀ p, en ≤ p → T p = -1
theorem neg1_ni {c : Nat} (hc : c < 2 ^ 31) : ¬ (-1 : Int32) = nI c := by
  intro e
  have h := congrArg Int32.toInt e
  rw [ni_int hc, show (-1 : Int32).toInt = -1 by decide] at h
  omega
theorem tp_lt {T : Nat → Int32} {en p c : Nat} (h : TPE T en) (hc : c < 2 ^ 31) (e : T p = nI c) : p < en := by
  apply Nat.lt_of_not_le
  intro q
  rw [h.2.2 p q] at e
  exact neg1_ni hc e
def amg (x : Int32) : List Int32 → Nat → Option Nat
  | [], _ => none
  | c :: r, k => if x = c then some k else amg x r (k + 1)
theorem amg_lt {x : Int32} : ∀ (l : List Int32) (k w : Nat), amg x l k = some w → k ≤ w ∧ w < k + l.length ∧ x ∈ l
  | [], k, w, h => by simp [amg] at h
  | c :: r, k, w, h => by
    rw [amg] at h
    by_cases e : x = c
    · rw [if_pos e] at h
      have := Option.some.inj h
      subst e
      simp
      omega
    · rw [if_neg e] at h
      have := amg_lt r (k + 1) w h
      simp only [List.length_cons, List.mem_cons]
      exact ⟨by omega, by omega, Or.inr this.2.2⟩
abbrev isD (x : Int32) : Prop := 48 ≤ x ∧ x ≤ 57
def dgv (x : Int32) : Nat := (x - 48).toNatClampNeg
theorem isD_ex {x : Int32} (h : isD x) : ∃ a, a < 10 ∧ x = nI (48 + a) ∧ dgv x = a ∧ x - 48 = nI a := by
  have h0 : (0 : Int32) ≤ x := Int32.le_trans (by decide) h.1
  have h1 : x < nI 58 := by
    have := Int32.le_iff_toInt_le.mp h.2
    rw [Int32.lt_iff_toInt_lt, ni_int (by omega)]
    rw [show (57 : Int32).toInt = 57 by decide] at this
    omega
  obtain ⟨i, hi, rfl⟩ := i_rng (by omega) ⟨h0, h1⟩
  have h2 := h.1
  rw [li_le 48 i (by omega) (by omega)] at h2
  have e : nI i - 48 = nI (i - 48) := ni_sub (a := i) (b := 48) h2
  refine ⟨i - 48, by omega, by rw [show 48 + (i - 48) = i by omega], ?_, e⟩
  unfold dgv
  rw [e, ni_nat (by omega)]
def numS (T : Nat → Int32) (p : Nat) : Bool × Nat × Nat := if isD (T p) then (if ¬ dgv (T p) = 0 ∧ isD (T (p + 1)) then (true, p + 2, 10 * dgv (T p) + dgv (T (p + 1))) else (true, p + 1, dgv (T p))) else (false, p, 0)
theorem num_b {T : Nat → Int32} {en p : Nat} (h : TPE T en) (hp : p ≤ en) : p ≤ (numS T p).2.1 ∧ (numS T p).2.1 ≤ en ∧ (numS T p).2.2 < 100 ∧ ((numS T p).1 = true → p < (numS T p).2.1) := by
  unfold numS
  by_cases d1 : isD (T p)
  · obtain ⟨a, ha, ea, da, _⟩ := isD_ex d1
    have l1 := tp_lt h (by omega) ea
    rw [if_pos d1]
    by_cases d2 : ¬ dgv (T p) = 0 ∧ isD (T (p + 1))
    · obtain ⟨b, hb, eb, db, _⟩ := isD_ex d2.2
      have l2 := tp_lt h (by omega) eb
      rw [if_pos d2]
      exact ⟨by show p ≤ p + 2; omega, by show p + 2 ≤ en; omega, by show 10 * dgv (T p) + dgv (T (p + 1)) < 100; omega, fun _ => by show p < p + 2; omega⟩
    · rw [if_neg d2]
      exact ⟨by show p ≤ p + 1; omega, by show p + 1 ≤ en; omega, by show dgv (T p) < 100; omega, fun _ => by show p < p + 1; omega⟩
  · rw [if_neg d1]
    exact ⟨Nat.le_refl _, hp, by show 0 < 100; omega, fun q => Bool.noConfusion q⟩
def tstS (T : Nat → Int32) (p : Nat) : bR := match amg (T p) [112, 107, 118, 109, 99, 116] 0 with
  | none => (false, p, [])
  | some w => match amg (T (p + 1)) [60, 61, 62] 0 with
    | none => (false, p + 1, [])
    | some q => if (numS T (p + 2)).1 = true then (true, (numS T (p + 2)).2.1, [nI (w + 8 * q + 32 * (numS T (p + 2)).2.2)]) else (false, (numS T (p + 2)).2.1, [])
def notS (r : bR) : bR := if r.1 = true then (true, r.2.1, r.2.2 ++ [-1]) else r
def clsS (T : Nat → Int32) (r : bR) : bR := if r.1 = true then (if T r.2.1 = 41 then (true, r.2.1 + 1, r.2.2) else (false, r.2.1, r.2.2)) else r
def lpM (T : Nat → Int32) (c w : Int32) (F : Nat → bR) : Nat → Nat → bR
  | 0, p => (true, p, [])
  | k + 1, p => if T p = c then (if (F (p + 1)).1 = true then ((lpM T c w F k (F (p + 1)).2.1).1, (lpM T c w F k (F (p + 1)).2.1).2.1, (F (p + 1)).2.2 ++ w :: (lpM T c w F k (F (p + 1)).2.1).2.2) else (false, (F (p + 1)).2.1, (F (p + 1)).2.2)) else (true, p, [])
def lpK (T : Nat → Int32) (c w : Int32) (F : Nat → bR) (k p : Nat) : bR := if (F p).1 = true then ((lpM T c w F k (F p).2.1).1, (lpM T c w F k (F p).2.1).2.1, (F p).2.2 ++ (lpM T c w F k (F p).2.1).2.2) else (false, (F p).2.1, (F p).2.2)
def lpS (T : Nat → Int32) (c w : Int32) (F : Nat → bR) (p : Nat) : bR := lpK T c w F 100 p
def fz (T : Nat → Int32) : Nat → (Nat → bR)
  | 0 => tstS T
  | l + 1 => fun p => if T p = 33 then notS (fz T l (p + 1)) else if T p = 40 then clsS T (lpS T 124 (-3) (lpS T 38 (-2) (fz T l)) (p + 1)) else tstS T p
def tz (T : Nat → Int32) (l : Nat) : Nat → bR := lpS T 38 (-2) (fz T l)
def ez (T : Nat → Int32) (l : Nat) : Nat → bR := lpS T 124 (-3) (tz T l)
theorem fz_s (T : Nat → Int32) (l p : Nat) : fz T (l + 1) p = if T p = 33 then notS (fz T l (p + 1)) else if T p = 40 then clsS T (ez T l (p + 1)) else tstS T p := rfl
/-! how far it goes -/
def GR (en : Nat) (F : Nat → bR) : Prop := ∀ p, p ≤ en → p ≤ (F p).2.1 ∧ (F p).2.1 ≤ en ∧ (F p).2.2.length + p ≤ (F p).2.1 ∧ ((F p).1 = true → p < (F p).2.1)
theorem mem_tp {T : Nat → Int32} {en p : Nat} {l : List Int32} (h : TPE T en) (hm : T p ∈ l) (hl : ¬ (-1 : Int32) ∈ l) : p < en := by
  apply Nat.lt_of_not_le
  intro q
  rw [h.2.2 p q] at hm
  exact hl hm
theorem gr_tst {T : Nat → Int32} {en : Nat} (h : TPE T en) : GR en (tstS T) := by
  intro p hp
  unfold tstS
  cases e1 : amg (T p) [112, 107, 118, 109, 99, 116] 0 with
  | none => exact ⟨Nat.le_refl _, hp, Nat.le_of_eq (Nat.zero_add p), fun q => Bool.noConfusion q⟩
  | some w =>
    have l1 : p < en := mem_tp h (amg_lt _ _ _ e1).2.2 (by decide)
    simp only
    cases e2 : amg (T (p + 1)) [60, 61, 62] 0 with
    | none => exact ⟨Nat.le_succ p, l1, by show 0 + p ≤ p + 1; omega, fun q => Bool.noConfusion q⟩
    | some q =>
      have l2 : p + 1 < en := mem_tp h (amg_lt _ _ _ e2).2.2 (by decide)
      obtain ⟨n1, n2, n3, n4⟩ := num_b (p := p + 2) h (by omega)
      simp only
      by_cases c : (numS T (p + 2)).1 = true
      · rw [if_pos c]
        exact ⟨by show p ≤ (numS T (p + 2)).2.1; omega, n2, by show 1 + p ≤ (numS T (p + 2)).2.1; omega, fun _ => by show p < (numS T (p + 2)).2.1; omega⟩
      · rw [if_neg c]
        exact ⟨by show p ≤ (numS T (p + 2)).2.1; omega, n2, by show 0 + p ≤ (numS T (p + 2)).2.1; omega, fun _ => by show p < (numS T (p + 2)).2.1; omega⟩
theorem gr_lpM {T : Nat → Int32} {en ci : Nat} {c w : Int32} {F : Nat → bR} (h : TPE T en) (hc : c = nI ci) (hci : ci < 2 ^ 31) (hF : GR en F) : ∀ k p, p ≤ en → p ≤ (lpM T c w F k p).2.1 ∧ (lpM T c w F k p).2.1 ≤ en ∧ (lpM T c w F k p).2.2.length + p ≤ (lpM T c w F k p).2.1 := by
  intro k
  induction k with
  | zero => intro p hp; exact ⟨Nat.le_refl _, hp, Nat.le_of_eq (Nat.zero_add p)⟩
  | succ k ih =>
    intro p hp
    rw [lpM]
    by_cases e : T p = c
    · have l1 := tp_lt h hci (e.trans hc)
      obtain ⟨f1, f2, f3, f4⟩ := hF (p + 1) l1
      rw [if_pos e]
      by_cases o : (F (p + 1)).1 = true
      · rw [if_pos o]
        obtain ⟨g1, g2, g3⟩ := ih _ f2
        refine ⟨?_, g2, ?_⟩
        · show p ≤ (lpM T c w F k (F (p + 1)).2.1).2.1; omega
        · show ((F (p + 1)).2.2 ++ w :: (lpM T c w F k (F (p + 1)).2.1).2.2).length + p ≤ (lpM T c w F k (F (p + 1)).2.1).2.1
          rw [List.length_append, List.length_cons]; omega
      · rw [if_neg o]
        exact ⟨by show p ≤ (F (p + 1)).2.1; omega, f2, by show (F (p + 1)).2.2.length + p ≤ (F (p + 1)).2.1; omega⟩
    · rw [if_neg e]; exact ⟨Nat.le_refl _, hp, Nat.le_of_eq (Nat.zero_add p)⟩
theorem gr_lpS {T : Nat → Int32} {en ci : Nat} {c w : Int32} {F : Nat → bR} (h : TPE T en) (hc : c = nI ci) (hci : ci < 2 ^ 31) (hF : GR en F) : GR en (lpS T c w F) := by
  intro p hp
  obtain ⟨f1, f2, f3, f4⟩ := hF p hp
  unfold lpS lpK
  by_cases o : (F p).1 = true
  · rw [if_pos o]
    have f5 := f4 o
    obtain ⟨g1, g2, g3⟩ := gr_lpM (w := w) h hc hci hF 100 _ f2
    refine ⟨?_, g2, ?_, fun _ => ?_⟩
    · show p ≤ (lpM T c w F 100 (F p).2.1).2.1; omega
    · show ((F p).2.2 ++ (lpM T c w F 100 (F p).2.1).2.2).length + p ≤ (lpM T c w F 100 (F p).2.1).2.1
      rw [List.length_append]; omega
    · show p < (lpM T c w F 100 (F p).2.1).2.1; omega
  · rw [if_neg o]
    exact ⟨f1, f2, f3, fun q => Bool.noConfusion q⟩
theorem gr_not {en p : Nat} {r : bR} (h : p + 1 ≤ r.2.1 ∧ r.2.1 ≤ en ∧ r.2.2.length + (p + 1) ≤ r.2.1 ∧ (r.1 = true → p + 1 < r.2.1)) : p ≤ (notS r).2.1 ∧ (notS r).2.1 ≤ en ∧ (notS r).2.2.length + p ≤ (notS r).2.1 ∧ ((notS r).1 = true → p < (notS r).2.1) := by
  obtain ⟨f1, f2, f3, f4⟩ := h
  unfold notS
  by_cases o : r.1 = true
  · rw [if_pos o]
    refine ⟨?_, f2, ?_, fun _ => ?_⟩
    · show p ≤ r.2.1; omega
    · show (r.2.2 ++ [-1]).length + p ≤ r.2.1
      rw [List.length_append]; show r.2.2.length + 1 + p ≤ _; omega
    · show p < r.2.1; omega
  · rw [if_neg o]; exact ⟨by omega, f2, by omega, fun _ => by omega⟩
theorem gr_cls {T : Nat → Int32} {en p : Nat} {r : bR} (hT : TPE T en) (h : p + 1 ≤ r.2.1 ∧ r.2.1 ≤ en ∧ r.2.2.length + (p + 1) ≤ r.2.1 ∧ (r.1 = true → p + 1 < r.2.1)) : p ≤ (clsS T r).2.1 ∧ (clsS T r).2.1 ≤ en ∧ (clsS T r).2.2.length + p ≤ (clsS T r).2.1 ∧ ((clsS T r).1 = true → p < (clsS T r).2.1) := by
  obtain ⟨f1, f2, f3, f4⟩ := h
  unfold clsS
  by_cases o : r.1 = true
  · rw [if_pos o]
    by_cases e : T r.2.1 = 41
    · rw [if_pos e]
      have := tp_lt (c := 41) hT (by omega) e
      exact ⟨by show p ≤ r.2.1 + 1; omega, by show r.2.1 + 1 ≤ en; omega, by show r.2.2.length + p ≤ r.2.1 + 1; omega, fun _ => by show p < r.2.1 + 1; omega⟩
    · rw [if_neg e]
      exact ⟨by show p ≤ r.2.1; omega, f2, by show r.2.2.length + p ≤ r.2.1; omega, fun q => Bool.noConfusion q⟩
  · rw [if_neg o]; exact ⟨by omega, f2, by omega, fun _ => by omega⟩
theorem gr_tz0 {T : Nat → Int32} {en : Nat} {F : Nat → bR} (h : TPE T en) (hF : GR en F) : GR en (lpS T 38 (-2) F) := gr_lpS (ci := 38) h rfl (by omega) hF
theorem gr_ez0 {T : Nat → Int32} {en : Nat} {F : Nat → bR} (h : TPE T en) (hF : GR en F) : GR en (lpS T 124 (-3) F) := gr_lpS (ci := 124) h rfl (by omega) hF
theorem gr_fz {T : Nat → Int32} {en : Nat} (h : TPE T en) : ∀ l, GR en (fz T l)
  | 0 => gr_tst h
  | l + 1 => by
    intro p hp
    rw [fz_s]
    by_cases e : T p = 33
    · rw [if_pos e]
      exact gr_not (gr_fz h l (p + 1) (tp_lt (c := 33) h (by omega) e))
    · rw [if_neg e]
      by_cases e2 : T p = 40
      · rw [if_pos e2]
        exact gr_cls h (gr_ez0 h (gr_tz0 h (gr_fz h l)) (p + 1) (tp_lt (c := 40) h (by omega) e2))
      · rw [if_neg e2]; exact gr_tst h p hp
theorem gr_tz {T : Nat → Int32} {en : Nat} (h : TPE T en) (l : Nat) : GR en (tz T l) := gr_tz0 h (gr_fz h l)
theorem gr_ez {T : Nat → Int32} {en : Nat} (h : TPE T en) (l : Nat) : GR en (ez T l) := gr_ez0 h (gr_tz h l)
/-! what the steps mean -/
def stk1 (f : List Int32) (x : Int32) (st : List Bool) : List Bool := if 0 ≤ x then cmpI (x / 8 - x / 8 / 4 * 4) (pm_rd f (x - x / 8 * 8)) (x / 32) :: st else if x = -1 then (!st.headD false) :: st.tail else (if x = -2 then st.tail.headD false && st.headD false else st.tail.headD false || st.headD false) :: st.tail.tail
def stk (f : List Int32) : List Int32 → List Bool → List Bool
  | [], st => st
  | x :: r, st => stk f r (stk1 f x st)
def PLs (L : List Int32) : Prop := ∀ x, x ∈ L → -10 < x
theorem stk_app (f : List Int32) : ∀ (L M : List Int32) (st : List Bool), stk f (L ++ M) st = stk f M (stk f L st)
  | [], _, _ => rfl
  | x :: L, M, st => stk_app f L M (stk1 f x st)
theorem rrun_app (f : List Int32) : ∀ (L M : List Int32) (st : List Bool) (sum : Int32), PLs L → rrun f (L ++ M) st sum = rrun f M (stk f L st) sum
  | [], _, _, _, _ => rfl
  | x :: L, M, st, sum, h => by
    have hx := h x List.mem_cons_self
    have ih := rrun_app f L M (stk1 f x st) sum fun y hy => h y (List.mem_cons_of_mem _ hy)
    rw [stk, ← ih, List.cons_append, rrun, stk1]
    by_cases c0 : 0 ≤ x
    · rw [if_pos c0, if_pos c0]
    · rw [if_neg c0, if_neg c0]
      by_cases c1 : x = -1
      · rw [if_pos c1, if_pos c1]
      · rw [if_neg c1, if_neg c1, if_pos hx]
def evL (f L : List Int32) : Bool := (stk f L []).headD false
def evT (f L : List Int32) (v : Bool) : Bool := (stk f L [v]).headD false
def opW (w : Int32) (v e : Bool) : Bool := if w = -2 then v && e else v || e
def SM1 (L : List Int32) : Prop := PLs L ∧ ∀ f st, stk f L st = evL f L :: st
theorem pls_app {L M : List Int32} (a : PLs L) (b : PLs M) : PLs (L ++ M) := fun x hx => (List.mem_append.mp hx).elim (a x) (b x)
theorem ev_not {f L : List Int32} (h : SM1 L) : evL f (L ++ [-1]) = !evL f L := by
  unfold evL
  rw [stk_app, h.2]
  rfl
theorem sm_not {L : List Int32} (h : SM1 L) : SM1 (L ++ [-1]) := by
  refine ⟨pls_app h.1 (by intro x hx; rw [List.mem_singleton.mp hx]; decide), fun f st => ?_⟩
  rw [ev_not h, stk_app, h.2]
  rfl
theorem stk_w {w : Int32} (hw : w = -2 ∨ w = -3) (f : List Int32) (e v : Bool) (st : List Bool) : stk1 f w (e :: v :: st) = opW w v e :: st := by
  rcases hw with rfl | rfl <;> rfl
theorem ev_step {f L M : List Int32} {w : Int32} (hw : w = -2 ∨ w = -3) (h : SM1 L) (v : Bool) : evT f (L ++ w :: M) v = evT f M (opW w v (evL f L)) := by
  unfold evT
  rw [stk_app, h.2, stk, stk_w hw]
theorem ev_first {f L M : List Int32} (h : SM1 L) : evL f (L ++ M) = evT f M (evL f L) := by
  unfold evT
  rw [show evL f (L ++ M) = (stk f (L ++ M) []).headD false from rfl, stk_app, h.2]
def SMF (F : Nat → bR) : Prop := ∀ p, (F p).1 = true → SM1 (F p).2.2
theorem nn_plain (a : Nat) (h : a < 2 ^ 31) : (0 : Int32) ≤ nI a := by rw [li_le 0 a (by omega) h]; exact Nat.zero_le a
theorem sm_one {a : Nat} (h : a < 2 ^ 31) : SM1 [nI a] := by
  refine ⟨fun x hx => ?_, fun f st => ?_⟩
  · rw [List.mem_singleton.mp hx]
    exact Int32.lt_of_lt_of_le (by decide) (nn_plain a h)
  · unfold evL stk stk stk1
    rw [if_pos (nn_plain a h), if_pos (nn_plain a h)]
    rfl
theorem tst_ok {T : Nat → Int32} {en p : Nat} (h : TPE T en) (hp : p ≤ en) (o : (tstS T p).1 = true) : ∃ w q v, w < 6 ∧ q < 3 ∧ v < 100 ∧ amg (T p) [112, 107, 118, 109, 99, 116] 0 = some w ∧ amg (T (p + 1)) [60, 61, 62] 0 = some q ∧ (numS T (p + 2)).1 = true ∧ (numS T (p + 2)).2.2 = v ∧ tstS T p = (true, (numS T (p + 2)).2.1, [nI (w + 8 * q + 32 * v)]) := by
  unfold tstS at o ⊢
  cases e1 : amg (T p) [112, 107, 118, 109, 99, 116] 0 with
  | none => rw [e1] at o; exact Bool.noConfusion o
  | some w =>
    rw [e1] at o
    simp only at o ⊢
    have l1 : p < en := mem_tp h (amg_lt _ _ _ e1).2.2 (by decide)
    cases e2 : amg (T (p + 1)) [60, 61, 62] 0 with
    | none => rw [e2] at o; exact Bool.noConfusion o
    | some q =>
      rw [e2] at o
      simp only at o ⊢
      have l2 : p + 1 < en := mem_tp h (amg_lt _ _ _ e2).2.2 (by decide)
      by_cases c : (numS T (p + 2)).1 = true
      · have w1 := (amg_lt _ _ _ e1).2.1
        have q1 := (amg_lt _ _ _ e2).2.1
        exact ⟨w, q, _, by simpa using w1, by simpa using q1, (num_b (p := p + 2) h (by omega)).2.2.1, rfl, rfl, c, rfl, by rw [if_pos c]⟩
      · rw [if_neg c] at o; exact Bool.noConfusion o
theorem tst_in {T : Nat → Int32} {en p : Nat} (h : TPE T en) (o : (tstS T p).1 = true) : p ≤ en := by
  apply Nat.le_of_not_lt
  intro q
  have e : T p = -1 := h.2.2 p (by omega)
  unfold tstS at o
  rw [e, show amg (-1) [112, 107, 118, 109, 99, 116] 0 = none by decide] at o
  exact Bool.noConfusion o
theorem smf_tst {T : Nat → Int32} {en : Nat} (h : TPE T en) : SMF (tstS T) := by
  intro p o
  obtain ⟨w, q, v, hw, hq, hv, _, _, _, _, e⟩ := tst_ok h (tst_in h o) o
  rw [e]
  exact sm_one (by omega)
theorem sm_lpM {T : Nat → Int32} {c w : Int32} {F : Nat → bR} (hw : w = -2 ∨ w = -3) (hF : SMF F) : ∀ k p, (lpM T c w F k p).1 = true → PLs (lpM T c w F k p).2.2 ∧ ∀ f v st, stk f (lpM T c w F k p).2.2 (v :: st) = evT f (lpM T c w F k p).2.2 v :: st := by
  intro k
  induction k with
  | zero => intro p _; exact ⟨fun x hx => absurd hx List.not_mem_nil, fun f v st => rfl⟩
  | succ k ih =>
    intro p o
    rw [lpM] at o ⊢
    by_cases e : T p = c
    · rw [if_pos e] at o ⊢
      by_cases g : (F (p + 1)).1 = true
      · rw [if_pos g] at o ⊢
        obtain ⟨i1, i2⟩ := ih _ o
        have hs := hF _ g
        refine ⟨pls_app hs.1 fun x hx => ?_, fun f v st => ?_⟩
        · rcases List.mem_cons.mp hx with q | q
          · rw [q]; rcases hw with z | z <;> rw [z] <;> decide
          · exact i1 x q
        · show stk f ((F (p + 1)).2.2 ++ w :: _) (v :: st) = _
          rw [ev_step hw hs, stk_app, hs.2, stk, stk_w hw, i2]
      · rw [if_neg g] at o; exact Bool.noConfusion o
    · rw [if_neg e]; exact ⟨fun x hx => absurd hx List.not_mem_nil, fun f v st => rfl⟩
theorem smf_lpS {T : Nat → Int32} {c w : Int32} {F : Nat → bR} (hw : w = -2 ∨ w = -3) (hF : SMF F) : SMF (lpS T c w F) := by
  intro p o
  unfold lpS lpK at o ⊢
  by_cases g : (F p).1 = true
  · rw [if_pos g] at o ⊢
    obtain ⟨i1, i2⟩ := sm_lpM hw hF _ _ o
    have hs := hF _ g
    refine ⟨pls_app hs.1 i1, fun f st => ?_⟩
    show stk f ((F p).2.2 ++ _) st = _
    rw [ev_first hs, stk_app, hs.2, i2]
  · rw [if_neg g] at o; exact Bool.noConfusion o
theorem smf_fz {T : Nat → Int32} {en : Nat} (h : TPE T en) : ∀ l, SMF (fz T l)
  | 0 => smf_tst h
  | l + 1 => by
    intro p o
    rw [fz_s] at o ⊢
    by_cases e : T p = 33
    · rw [if_pos e] at o ⊢
      unfold notS at o ⊢
      by_cases g : (fz T l (p + 1)).1 = true
      · rw [if_pos g]; exact sm_not (smf_fz h l _ g)
      · rw [if_neg g] at o; exact absurd o g
    · rw [if_neg e] at o ⊢
      by_cases e2 : T p = 40
      · rw [if_pos e2] at o ⊢
        unfold clsS at o ⊢
        by_cases g : (ez T l (p + 1)).1 = true
        · rw [if_pos g] at o ⊢
          by_cases z : T (ez T l (p + 1)).2.1 = 41
          · rw [if_pos z]; exact smf_lpS (Or.inr rfl) (smf_lpS (Or.inl rfl) (smf_fz h l)) _ g
          · rw [if_neg z] at o; exact Bool.noConfusion o
        · rw [if_neg g] at o; exact absurd o g
      · rw [if_neg e2] at o ⊢; exact smf_tst h p o
theorem smf_tz {T : Nat → Int32} {en : Nat} (h : TPE T en) (l : Nat) : SMF (tz T l) := smf_lpS (Or.inl rfl) (smf_fz h l)
theorem smf_ez {T : Nat → Int32} {en : Nat} (h : TPE T en) (l : Nat) : SMF (ez T l) := smf_lpS (Or.inr rfl) (smf_tz h l)
/-! how many truths lie open -/
def RKF (m : Nat) (F : Nat → bR) : Prop := ∀ p, (F p).1 = true → ∀ (g : Nat) (r : List Int32), g + m < 60 → rok r (g + 1) → rok ((F p).2.2 ++ r) g
theorem rk_tst {T : Nat → Int32} {en : Nat} (h : TPE T en) : RKF 0 (tstS T) := by
  intro p o g r hg hr
  obtain ⟨w, q, v, hw, hq, hv, _, _, _, _, e⟩ := tst_ok h (tst_in h o) o
  rw [e]
  show rok (nI (w + 8 * q + 32 * v) :: r) g
  rw [rok, if_pos (nn_plain _ (by omega))]
  have e2 : nI (w + 8 * q + 32 * v) - nI (w + 8 * q + 32 * v) / 8 * 8 = nI w := by
    rw [show (8 : Int32) = nI 8 from rfl, ni_mod (by omega) (by omega)]
    congr 1; omega
  rw [e2, ni_inR (by omega)]
  exact ⟨hw, by omega, hr⟩
theorem rok_w {w : Int32} (hw : w = -2 ∨ w = -3) {r : List Int32} {g : Nat} (h : rok r (g + 1)) : rok (w :: r) (g + 2) := by
  rcases hw with rfl | rfl
  · rw [rok, if_neg (by decide), if_neg (by decide), if_pos (by decide)]; exact ⟨by omega, h⟩
  · rw [rok, if_neg (by decide), if_neg (by decide), if_pos (by decide)]; exact ⟨by omega, h⟩
theorem rk_lpM {T : Nat → Int32} {c w : Int32} {F : Nat → bR} {m : Nat} (hw : w = -2 ∨ w = -3) (hF : RKF m F) : ∀ k p, (lpM T c w F k p).1 = true → ∀ (g : Nat) (r : List Int32), g + 1 + m < 60 → rok r (g + 1) → rok ((lpM T c w F k p).2.2 ++ r) (g + 1) := by
  intro k
  induction k with
  | zero => intro p _ g r _ hr; exact hr
  | succ k ih =>
    intro p o g r hg hr
    rw [lpM] at o ⊢
    by_cases e : T p = c
    · rw [if_pos e] at o ⊢
      by_cases z : (F (p + 1)).1 = true
      · rw [if_pos z] at o ⊢
        show rok (((F (p + 1)).2.2 ++ w :: (lpM T c w F k (F (p + 1)).2.1).2.2) ++ r) (g + 1)
        rw [List.append_assoc]
        exact hF _ z (g + 1) _ hg (rok_w hw (ih _ o g r hg hr))
      · rw [if_neg z] at o; exact Bool.noConfusion o
    · rw [if_neg e]; exact hr
theorem rk_lpS {T : Nat → Int32} {c w : Int32} {F : Nat → bR} {m : Nat} (hw : w = -2 ∨ w = -3) (hF : RKF m F) : RKF (m + 1) (lpS T c w F) := by
  intro p o g r hg hr
  unfold lpS lpK at o ⊢
  by_cases z : (F p).1 = true
  · rw [if_pos z] at o ⊢
    show rok (((F p).2.2 ++ (lpM T c w F 100 (F p).2.1).2.2) ++ r) g
    rw [List.append_assoc]
    exact hF _ z g _ (by omega) (rk_lpM hw hF _ _ o g r (by omega) hr)
  · rw [if_neg z] at o; exact Bool.noConfusion o
theorem rk_fz {T : Nat → Int32} {en : Nat} (h : TPE T en) : ∀ l, RKF (2 * l) (fz T l)
  | 0 => rk_tst h
  | l + 1 => by
    intro p o g r hg hr
    rw [fz_s] at o ⊢
    by_cases e : T p = 33
    · rw [if_pos e] at o ⊢
      unfold notS at o ⊢
      by_cases z : (fz T l (p + 1)).1 = true
      · rw [if_pos z]
        show rok (((fz T l (p + 1)).2.2 ++ [-1]) ++ r) g
        rw [List.append_assoc]
        refine rk_fz h l _ z g _ (by omega) ?_
        show rok (-1 :: r) (g + 1)
        rw [rok, if_neg (by decide), if_pos rfl]
        exact ⟨by omega, hr⟩
      · rw [if_neg z] at o; exact absurd o z
    · rw [if_neg e] at o ⊢
      by_cases e2 : T p = 40
      · rw [if_pos e2] at o ⊢
        unfold clsS at o ⊢
        by_cases z : (ez T l (p + 1)).1 = true
        · rw [if_pos z] at o ⊢
          by_cases y : T (ez T l (p + 1)).2.1 = 41
          · rw [if_pos y]; exact rk_lpS (Or.inr rfl) (rk_lpS (Or.inl rfl) (rk_fz h l)) _ z g r (by omega) hr
          · rw [if_neg y] at o; exact Bool.noConfusion o
        · rw [if_neg z] at o; exact absurd o z
      · rw [if_neg e2] at o ⊢; exact rk_tst h p o g r (by omega) hr
theorem rk_ez {T : Nat → Int32} {en : Nat} (h : TPE T en) (l : Nat) : RKF (2 * l + 2) (ez T l) := rk_lpS (Or.inr rfl) (rk_lpS (Or.inl rfl) (rk_fz h l))
