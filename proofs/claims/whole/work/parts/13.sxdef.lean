/-! SOUNDNESS: what a store of the pure machine means on the real heap -/
def sx_v (ad : Nat → Nat) : Value → Value
  | .ref k => .ref (ad k)
  | v => v
def sx_A (base : Nat) : Nat → Prop := fun q => base ≤ q
def sx_len : List Nat := [7, 7, 7, 6, 3]
def sx_byt : List (List Int32) := fq_txt_T
def sx_at (ad : Nat → Nat) (D : va_G) (cI cZ : ClassId) (k : Nat) (c : pm_C) (H : Heap) : Prop := match c with
  | .inl (ci, fs) => va_at D sx_cl (ad k, .inr (ci, fs.map (sx_v ad))) H
  | .inr (0, xs) => va_at D sx_cl (ad k, .inl (cI, xs.length, .inl fun j => xs.getD j 0)) H
  | .inr (1, xs) => va_at D sx_cl (ad k, .inl (cZ, xs.length, .inl fun j => xs.getD j 0)) H
  | .inr _ => False
/-- the heap holds the store: the cells that are written lie from base on, in their order -/
def sx_R (base : Nat) (ad : Nat → Nat) (D : va_G) (cI cZ : ClassId) (ro : Nat → List Int32) (σ : pm_S) (H : Heap) : Prop := 4 ≤ σ.length ∧ H.size = base + (σ.length - 4) ∧ (∀ k, k < 4 → σ[k]? = some (.inr (2, ro k))) ∧ ∀ (k : Nat) (c : pm_C), 4 ≤ k → σ[k]? = some c → sx_at ad D cI cZ k c H
/-- what lies outside: rows never written, statics, texts -/
def sx_E (base : Nat) (ad : Nat → Nat) (ro : Nat → List Int32) (adV : Nat → Nat) (U : State) (H : Heap) : Prop :=
  (∀ k, k < 4 → va_T .int (ad k) (ro k).length (fun j => .int ((ro k).getD j 0)) (sx_A base) U H) ∧
  (∀ k, 1 ≤ k → k < 4 → va_Z "FlotsamQuorum" (sx_sn k) "[I" (.ref (ad k)) (sx_A base) U H) ∧
  vk_S 5 sx_len sx_byt (fun i => ad (1000 + i)) adV (sx_A base) U H ∧
  va_Z "java/lang/String" "COMPACT_STRINGS" "Z" (.int 1) (sx_A base) U H ∧
  va_Zq "jdk/internal/util/Preconditions" "SIOOBE_FORMATTER" "Ljava/util/function/BiFunction;" (sx_A base) U H
def sx_N (U : State) : Prop := ∀ w ∈ sx_nest, va_Nw w U
def sx_Sr (ad : Nat → Nat) (U : State) : Prop := ∀ q ∈ sx_sr, vk_R (sx_own q.1) q.2.1 (sx_tx q.2.2) (ad (1000 + q.2.2)) U
def sx_P (base : Nat) (ad : Nat → Nat) (D : va_G) (cI cZ : ClassId) (ro : Nat → List Int32) (adV : Nat → Nat) (U : State) : Prop := va_K D sx_cl [(cI, .int), (cZ, .boolean)] U ∧ sx_N U ∧ sx_Sr ad U ∧ sx_E base ad ro adV U U.heap
theorem sx_E_moved {base : Nat} {ad : Nat → Nat} {ro : Nat → List Int32} {adV : Nat → Nat} {u U : State} {H : Heap} (hvm : u.vm.Alike U.vm) (h : sx_E base ad ro adV u H) : sx_E base ad ro adV U H :=
  ⟨fun k hk => va_T.moved hvm (h.1 k hk), fun k h1 hk => va_Z.moved hvm (h.2.1 k h1 hk), vk_S.moved hvm h.2.2.1, va_Z.moved hvm h.2.2.2.1, va_Zq.moved hvm h.2.2.2.2⟩
theorem sx_E_kept {base : Nat} {ad : Nat → Nat} {ro : Nat → List Int32} {adV : Nat → Nat} {U : State} {H H1 : Heap} (h : sx_E base ad ro adV U H) (hq : ∀ a : Nat, a < H.size → ¬ sx_A base a → H1[a]? = H[a]?) : sx_E base ad ro adV U H1 :=
  ⟨fun k hk => va_T.kept (h.1 k hk) hq, fun k h1 hk => va_Z.kept (h.2.1 k h1 hk) hq, vk_S.kept h.2.2.1 hq, va_Z.kept h.2.2.2.1 hq, va_Zq.kept h.2.2.2.2 hq⟩
theorem sx_nest_is {w : Cond} (h : w ∈ sx_nest) : (∃ a i x q, w = .methodLinkNest a i x q) ∨ ∃ a i b n d q, w = .fieldLinkNest a i b n d q := by
  obtain ⟨-, h2⟩ := List.mem_filter.mp h
  cases w <;> first | exact Or.inl ⟨_, _, _, _, rfl⟩ | exact Or.inr ⟨_, _, _, _, _, _, rfl⟩ | (simp at h2)
theorem sx_N_warm {s U : State} (hW : s.WarmedH U.vm) (h : sx_N s) : sx_N U := by
  intro w hw
  have := h w hw
  rcases sx_nest_is hw with ⟨a, i, x, q, rfl⟩ | ⟨a, i, b, n, d, q, rfl⟩
  · exact va_Nw.warmM hW this
  · exact va_Nw.warmF hW this
theorem sx_N_same {u U : State} (hv : u.vm = U.vm) (h : sx_N u) : sx_N U := by
  intro w hw
  have := h w hw
  rcases sx_nest_is hw with ⟨a, i, x, q, rfl⟩ | ⟨a, i, b, n, d, q, rfl⟩
  · exact va_Nw.same rfl hv this
  · exact va_Nw.same rfl hv this
theorem sx_P_warm {base : Nat} {ad : Nat → Nat} {D : va_G} {cI cZ : ClassId} {ro : Nat → List Int32} {adV : Nat → Nat} {s U : State} (hW : s.WarmedH U.vm) (hq : ∀ a : Nat, a < s.heap.size → ¬ sx_A base a → U.heap[a]? = s.heap[a]?) (h : sx_P base ad D cI cZ ro adV s) : sx_P base ad D cI cZ ro adV U :=
  ⟨va_K.moved hW.alike h.1, sx_N_warm hW h.2.1, fun q hq => vk_R.warm hW (h.2.2.1 q hq), sx_E_kept (sx_E_moved hW.alike h.2.2.2) hq⟩
theorem sx_P_same {base : Nat} {ad : Nat → Nat} {D : va_G} {cI cZ : ClassId} {ro : Nat → List Int32} {adV : Nat → Nat} {u U : State} (hv : u.vm = U.vm) (hh : U.heap = u.heap) (h : sx_P base ad D cI cZ ro adV u) : sx_P base ad D cI cZ ro adV U := by
  have ha : u.vm.Alike U.vm := by rw [hv]; exact Vm.Alike.refl _
  refine ⟨va_K.moved ha h.1, sx_N_same hv h.2.1, fun q hq => vk_R.same hv.symm (h.2.2.1 q hq), ?_⟩
  rw [hh]
  exact sx_E_moved ha h.2.2.2
/-! locals -/
def sx_L (ad : Nat → Nat) (L : pm_L) (ls : Array Slot) (nL : Nat) : Prop := L.length = nL ∧ ls.size = nL ∧ lv_wf ls ∧ ∀ (k : Nat) (v : Value), L[k]? = some (some v) → ls[k]? = some (.val (sx_v ad v))
def sx_lv (ad : Nat → Nat) (L : pm_L) : List (Nat × Value) := (List.range L.length).filterMap fun k => (pm_lget L k).map fun w => (k, sx_v ad w)
theorem sx_lv_mem {ad : Nat → Nat} {L : pm_L} {k : Nat} {v : Value} (h : L[k]? = some (some v)) : (k, sx_v ad v) ∈ sx_lv ad L := by
  refine List.mem_filterMap.mpr ⟨k, List.mem_range.mpr (List.getElem?_eq_some_iff.mp h).1, ?_⟩
  simp [pm_lget, h]
theorem sx_lv_of {ad : Nat → Nat} {L : pm_L} {q : Nat × Value} (h : q ∈ sx_lv ad L) : ∃ v, L[q.1]? = some (some v) ∧ q.2 = sx_v ad v := by
  obtain ⟨k, hk, hq⟩ := List.mem_filterMap.mp h
  cases hg : pm_lget L k with
  | none => rw [hg] at hq; simp at hq
  | some v =>
    rw [hg] at hq
    simp only [Option.map_some, Option.some.injEq] at hq
    subst hq
    refine ⟨v, ?_, rfl⟩
    unfold pm_lget at hg
    cases hl : L[k]? with
    | none => rw [hl] at hg; simp at hg
    | some o => rw [hl] at hg; simp at hg; rw [hg]
theorem sx_L_has {ad : Nat → Nat} {L : pm_L} {ls : Array Slot} {nL : Nat} (h : sx_L ad L ls nL) : lv_has ls nL (sx_lv ad L) := by
  refine ⟨h.2.1, h.2.2.1, fun q hq => ?_⟩
  obtain ⟨v, h1, h2⟩ := sx_lv_of hq
  rw [h2]
  exact h.2.2.2 _ _ h1
theorem sx_L_get {ad : Nat → Nat} {L : pm_L} {ls : Array Slot} {nL k : Nat} {v : Value} (h : sx_L ad L ls nL) (hk : pm_lget L k = some v) : ls[k]? = some (.val (sx_v ad v)) := by
  refine h.2.2.2 k v ?_
  unfold pm_lget at hk
  cases hl : L[k]? with
  | none => rw [hl] at hk; simp at hk
  | some o => rw [hl] at hk; simp at hk; rw [hk]
theorem sx_v_cat (ad : Nat → Nat) (v : Value) : (sx_v ad v).category = v.category := by cases v <;> rfl
theorem pm_no2_some {o : Option Value} {w : Value} (h : pm_no2 o = some w) : o = some w ∧ ¬ w.category = 2 := by
  cases o with
  | none => simp [pm_no2] at h
  | some v => cases v <;> simp [pm_no2] at h <;> subst h <;> exact ⟨rfl, by simp [Value.category]⟩
theorem pm_lset_len : ∀ (L : pm_L) (i : Nat) (v : Value), (pm_lset L i v).length = L.length := by
  intro L
  induction L with
  | nil => intro i v; rfl
  | cons o r ih =>
    intro i v
    match i with
    | 0 => rfl
    | 1 => show (pm_lset r 0 v).length + 1 = _; rw [ih]; rfl
    | i + 2 => show (pm_lset r (i + 1) v).length + 1 = _; rw [ih]; rfl
theorem pm_lset_get : ∀ (L : pm_L) (i : Nat) (v : Value) (k : Nat) (w : Value), (pm_lset L i v)[k]? = some (some w) → (k = i ∧ w = v) ∨ (k ≠ i ∧ L[k]? = some (some w) ∧ ¬ (k + 1 = i ∧ w.category = 2)) := by
  intro L
  induction L with
  | nil => intro i v k w h; simp [pm_lset] at h
  | cons o r ih =>
    intro i v k w h
    match i, k with
    | 0, 0 => simp [pm_lset] at h; exact Or.inl ⟨rfl, h.symm⟩
    | 0, k + 1 => exact Or.inr ⟨by omega, by simpa [pm_lset] using h, by omega⟩
    | 1, 0 =>
      simp only [pm_lset, List.getElem?_cons_zero, Option.some.injEq] at h
      obtain ⟨h1, h2⟩ := pm_no2_some h
      exact Or.inr ⟨by omega, by simp [h1], fun q => h2 q.2⟩
    | 1, k + 1 =>
      simp only [pm_lset, List.getElem?_cons_succ] at h
      rcases ih 0 v k w h with ⟨h1, h2⟩ | ⟨h1, h2, h3⟩
      · exact Or.inl ⟨by omega, h2⟩
      · exact Or.inr ⟨by omega, by simpa using h2, by omega⟩
    | i + 2, 0 =>
      simp only [pm_lset, List.getElem?_cons_zero, Option.some.injEq] at h
      exact Or.inr ⟨by omega, by simp [h], by omega⟩
    | i + 2, k + 1 =>
      simp only [pm_lset, List.getElem?_cons_succ] at h
      rcases ih (i + 1) v k w h with ⟨h1, h2⟩ | ⟨h1, h2, h3⟩
      · exact Or.inl ⟨by omega, h2⟩
      · exact Or.inr ⟨by omega, by simpa using h2, fun q => h3 ⟨by omega, q.2⟩⟩
theorem pm_lset2_len : ∀ (L : pm_L) (i : Nat) (v : Value), i + 1 < L.length → (pm_lset2 L i v).length = L.length := by
  intro L
  induction L with
  | nil => intro i v h; simp at h
  | cons o r ih =>
    intro i v h
    simp only [List.length_cons] at h
    match i, r, ih with
    | 0, [], _ => simp at h
    | 0, p :: r, _ => rfl
    | 1, r, ih => rw [pm_lset2_1]; simp only [List.length_cons]; rw [ih 0 v (by omega)]
    | i + 2, r, ih => rw [pm_lset2_n]; simp only [List.length_cons]; rw [ih (i + 1) v (by omega)]
theorem pm_lset2_get : ∀ (L : pm_L) (i : Nat) (v : Value) (k : Nat) (w : Value), i + 1 < L.length → (pm_lset2 L i v)[k]? = some (some w) → (k = i ∧ w = v) ∨ (k ≠ i ∧ k ≠ i + 1 ∧ L[k]? = some (some w) ∧ ¬ (k + 1 = i ∧ w.category = 2)) := by
  intro L
  induction L with
  | nil => intro i v k w h; simp at h
  | cons o r ih =>
    intro i v k w hi h
    simp only [List.length_cons] at hi
    match i, r, k, ih with
    | 0, [], _, _ => simp at hi
    | 0, p :: r, 0, _ => simp [pm_lset2] at h; exact Or.inl ⟨rfl, h.symm⟩
    | 0, p :: r, 1, _ => simp [pm_lset2] at h
    | 0, p :: r, k + 2, _ => exact Or.inr ⟨by omega, by omega, by simpa [pm_lset2] using h, by omega⟩
    | 1, r, 0, _ =>
      rw [pm_lset2_1] at h
      simp only [List.getElem?_cons_zero, Option.some.injEq] at h
      obtain ⟨h1, h2⟩ := pm_no2_some h
      exact Or.inr ⟨by omega, by omega, by simp [h1], fun q => h2 q.2⟩
    | 1, r, k + 1, ih =>
      rw [pm_lset2_1] at h
      simp only [List.getElem?_cons_succ] at h
      rcases ih 0 v k w (by omega) h with ⟨h1, h2⟩ | ⟨h1, h2, h3, h4⟩
      · exact Or.inl ⟨by omega, h2⟩
      · exact Or.inr ⟨by omega, by omega, by simpa using h3, by omega⟩
    | i + 2, r, 0, _ =>
      rw [pm_lset2_n] at h
      simp only [List.getElem?_cons_zero, Option.some.injEq] at h
      exact Or.inr ⟨by omega, by omega, by simp [h], by omega⟩
    | i + 2, r, k + 1, ih =>
      rw [pm_lset2_n] at h
      simp only [List.getElem?_cons_succ] at h
      rcases ih (i + 1) v k w (by omega) h with ⟨h1, h2⟩ | ⟨h1, h2, h3, h4⟩
      · exact Or.inl ⟨by omega, h2⟩
      · exact Or.inr ⟨by omega, by omega, by simpa using h3, fun q => h4 ⟨by omega, q.2⟩⟩
/-- behind a store of one slot -/
theorem sx_L_set {ad : Nat → Nat} {L : pm_L} {ls ls' : Array Slot} {nL i : Nat} {v : Value} (h : sx_L ad L ls nL) (h' : lv_has ls' nL ((i, sx_v ad v) :: (sx_lv ad L).filter (fun q => !(q.1 == i) && !(q.1 + 1 == i && q.2.category == 2)))) : sx_L ad (pm_lset L i v) ls' nL := by
  refine ⟨(pm_lset_len L i v).trans h.1, h'.1, h'.2.1, fun k w hk => ?_⟩
  rcases pm_lset_get L i v k w hk with ⟨rfl, rfl⟩ | ⟨h1, h2, h3⟩
  · exact h'.2.2 _ List.mem_cons_self
  · refine h'.2.2 (k, sx_v ad w) (List.mem_cons_of_mem _ (List.mem_filter.mpr ⟨sx_lv_mem h2, ?_⟩))
    simp only [sx_v_cat, Bool.and_eq_true, Bool.not_eq_true', beq_eq_false_iff_ne, ne_eq, Bool.and_eq_false_iff]
    refine ⟨h1, ?_⟩
    by_cases hh : k + 1 = i
    · exact Or.inr fun q => h3 ⟨hh, q⟩
    · exact Or.inl hh
theorem sx_L_set2 {ad : Nat → Nat} {L : pm_L} {ls ls' : Array Slot} {nL i : Nat} {v : Value} (h : sx_L ad L ls nL) (hi : i + 1 < L.length) (h' : lv_has ls' nL ((i, sx_v ad v) :: (sx_lv ad L).filter (fun q => !(q.1 == i) && (!(q.1 == i + 1) && !(q.1 + 1 == i && q.2.category == 2))))) : sx_L ad (pm_lset2 L i v) ls' nL := by
  refine ⟨(pm_lset2_len L i v hi).trans h.1, h'.1, h'.2.1, fun k w hk => ?_⟩
  rcases pm_lset2_get L i v k w hi hk with ⟨rfl, rfl⟩ | ⟨h1, h2, h3, h4⟩
  · exact h'.2.2 _ List.mem_cons_self
  · refine h'.2.2 (k, sx_v ad w) (List.mem_cons_of_mem _ (List.mem_filter.mpr ⟨sx_lv_mem h3, ?_⟩))
    simp only [sx_v_cat, Bool.and_eq_true, Bool.not_eq_true', beq_eq_false_iff_ne, ne_eq, Bool.and_eq_false_iff]
    refine ⟨h1, h2, ?_⟩
    by_cases hh : k + 1 = i
    · exact Or.inr fun q => h4 ⟨hh, q⟩
    · exact Or.inl hh
/-! room -/
def sx_szc : pm_C → Nat
  | .inl (_, fs) => fs.length
  | .inr (_, xs) => xs.length
def sx_sz : pm_S → Nat
  | [] => 0
  | c :: σ => sx_szc c + sx_sz σ
theorem sx_sz_app (σ τ : pm_S) : sx_sz (σ ++ τ) = sx_sz σ + sx_sz τ := by
  induction σ with
  | nil => simp [sx_sz]
  | cons c σ ih => simp only [List.cons_append, sx_sz, ih]; omega
theorem sx_sz_set : ∀ (σ : pm_S) (k : Nat) (c c' : pm_C), σ[k]? = some c → sx_szc c = sx_szc c' → sx_sz (σ.set k c') = sx_sz σ := by
  intro σ
  induction σ with
  | nil => intro k c c' h; simp at h
  | cons d σ ih =>
    intro k c c' h e
    cases k with
    | zero => simp only [List.getElem?_cons_zero, Option.some.injEq] at h; subst h; simp [sx_sz, e]
    | succ k => simp only [List.getElem?_cons_succ] at h; simp only [List.set_cons_succ, sx_sz, ih k c c' h e]
