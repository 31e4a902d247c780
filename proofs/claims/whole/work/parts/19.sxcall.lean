/-! SOUNDNESS of calls: what a call is -/
theorem pm_nxC {a : Nat} {L : pm_L} {S : List Value} {σ : pm_S} {q : (Nat × List Value × List Value) ⊕ Option Value} (h : pm_nx a L S σ = some (.inr q)) : False := by
  unfold pm_nx at h
  cases h
theorem pm_call_is {P : pm_T} {y k way z : Nat} {S as S' : List Value} {σ : pm_S} (hw : way < 4) (h : pm_call P y k way S σ = some (.inr (.inl (z, as, S')))) : ∃ nn ci, pm_mth P (pm_met P y).1 k = some (way, z, nn, ci) ∧ S = as.reverse ++ S' ∧ as.length = nn ∧ pm_okW 8 S' = true ∧ (way = 1 → pm_rcv σ as ci) ∧ (way = 2 ∨ way = 3 → pm_ref1 as) := by
  unfold pm_call at h
  split at h
  next w z' nn ci hm =>
    split at h
    next hw2 =>
      subst hw2
      split at h
      next as' T hp =>
        split at h
        next ho =>
          obtain ⟨g, hg, he⟩ := pm_cgo_is σ z' ci T hw as'
          rw [he] at h
          cases g with
          | false => cases h
          | true =>
            cases h
            obtain ⟨xs, h1, h2, h3⟩ := pm_pop_is _ _ _ _ _ hp
            refine ⟨nn, ci, hm, ?_, ?_, ho, (hg.mp rfl).1, (hg.mp rfl).2⟩
            · rw [h1, h2]; simp
            · rw [h2]; simpa using h3
        next => cases h
      next => cases h
    next => cases h
  next => cases h
theorem pm_stp_call {P : pm_T} {y n pc z : Nat} {i : Instr} {L : pm_L} {S as S' : List Value} {σ : pm_S} (hs : pm_stp P y i n pc L S σ = some (.inr (.inl (z, as, S')))) : ∃ k w, w < 4 ∧ pm_call P y k w S σ = some (.inr (.inl (z, as, S'))) ∧ ((w = 0 ∧ i = .invokestatic k) ∨ (w = 1 ∧ i = .invokevirtual k) ∨ (w = 2 ∧ i = .invokespecial k) ∨ (w = 3 ∧ i = .invokevirtual k)) := by
  cases i with
  | invokestatic k => exact ⟨k, 0, by decide, hs, Or.inl ⟨rfl, rfl⟩⟩
  | invokespecial k => exact ⟨k, 2, by decide, hs, Or.inr (Or.inr (Or.inl ⟨rfl, rfl⟩))⟩
  | invokevirtual k =>
    have hs : (match pm_mth P (pm_met P y).1 k with | some (3, _) => pm_call P y k 3 S σ | _ => pm_call P y k 1 S σ) = some (.inr (.inl (z, as, S'))) := hs
    split at hs
    · exact ⟨k, 3, by decide, hs, Or.inr (Or.inr (Or.inr ⟨rfl, rfl⟩))⟩
    · exact ⟨k, 1, by decide, hs, Or.inr (Or.inl ⟨rfl, rfl⟩)⟩
  | newarray t =>
    exfalso
    cases t with
    | int =>
      have hs : (match S with
        | .int x :: S => if 0 ≤ x.toInt ∧ x.toInt ≤ 1000 then pm_nx (pc + n) L (.ref σ.length :: S) (σ ++ [.inr (0, List.replicate x.toNatClampNeg 0)]) else none
        | _ => none) = some (.inr (.inl (z, as, S'))) := hs
      repeat' split at hs
      all_goals first
        | exact pm_nxC hs
        | cases hs
    | boolean =>
      have hs : (match S with
        | .int x :: S => if 0 ≤ x.toInt ∧ x.toInt ≤ 1000 then pm_nx (pc + n) L (.ref σ.length :: S) (σ ++ [.inr (1, List.replicate x.toNatClampNeg 0)]) else none
        | _ => none) = some (.inr (.inl (z, as, S'))) := hs
      repeat' split at hs
      all_goals first
        | exact pm_nxC hs
        | cases hs
    | _ => exact absurd (show (none : Option pm_A) = some _ from hs) (by simp)
  | _ =>
    exfalso
    first
      | exact absurd (show (none : Option pm_A) = some _ from hs) (by simp)
      | exact pm_nxC hs
      | (unfold pm_stp at hs
         (try dsimp only at hs)
         (try unfold pm_b2 at hs)
         (try unfold pm_l2 at hs)
         (try unfold pm_ldI at hs)
         (try unfold pm_ldA at hs)
         (try unfold pm_ldL at hs)
         (try unfold pm_stI at hs)
         (try unfold pm_stA at hs)
         (try unfold pm_stL at hs)
         (repeat' split at hs)
         all_goals first
           | exact pm_nxC hs
           | cases hs)
theorem sx_mth {c i w z nn ci : Nat} (h : fq_mth c i = some (w, z, nn, ci)) : sx_mB c i w z nn ci = true ∧ (w = 1 → z ∈ sx_virt) ∧ (w = 0 ∧ z < 900 → sx_st z = true) ∧ ((w = 1 ∨ w = 2) ∧ z < 900 → sx_st z = false) ∧ (w ≠ 1 ∨ z < 900) ∧ z ≠ sx_law := by
  obtain ⟨l, h1, h2⟩ := sx_lookup2 (show ((fq_mth_T.lookup c).getD []).lookup i = some (w, z, nn, ci) from h)
  have a := List.all_eq_true.mp (List.all_eq_true.mp sx_m_all _ h1) _ h2
  have b := List.all_eq_true.mp (List.all_eq_true.mp sx_v_all _ h1) _ h2
  simp only [Bool.and_eq_true, decide_eq_true_eq] at b
  exact ⟨a, b.1.1.1.1, b.1.1.1.2, b.1.1.2, b.1.2, b.2⟩
/-- how a callee is told: its room, its start, its end -/
def sx_rm (d mc ms : Nat) : Room := { frames := d, cells := mc, slots := ms, locals := 40 * d }
def sx_ws (z : Nat) : List Cond := .code (sx_nm z) (sx_by z) (fq_met z).2.1 (sx_rt z) :: sx_big
def sx_Pc (base : Nat) (ad : Nat → Nat) (D : va_G) (cI cZ : ClassId) (ro : Nat → List Int32) (adV : Nat → Nat) (as : List Value) (σ : pm_S) : Array Value → State → Prop := va_Pc (as.map (sx_v ad)) fun U => sx_R base ad D cI cZ ro σ U.heap ∧ sx_P base ad D cI cZ ro adV U ∧ base ≤ U.heap.size
def sx_Qc (base : Nat) (ad : Nat → Nat) (D : va_G) (cI cZ : ClassId) (ro : Nat → List Int32) (r : Option Value) (σ' : pm_S) : Array Value → State → Outcome → State → Prop := fun _ st oc t => oc = .returned (r.map (sx_v ad)) ∧ sx_R base ad D cI cZ ro σ' t.heap ∧ va_F (sx_A base) st t
def sx_Met (base : Nat) (ad : Nat → Nat) (D : va_G) (cI cZ : ClassId) (ro : Nat → List Int32) (adV : Nat → Nat) (l : Launch) (d z : Nat) (as : List Value) (σ : pm_S) (r : Option Value) (σ' : pm_S) : Prop :=
  Met l (sx_nm z) (sx_ws z) (sx_rm d (σ'.length - σ.length) (sx_sz σ' - sx_sz σ)) (sx_Pc base ad D cI cZ ro adV as σ) (sx_Qc base ad D cI cZ ro r σ') (σ'.length - σ.length) (sx_sz σ' - sx_sz σ) (sx_A base)
theorem sx_yw_ok {z : Nat} (h : z < 187) (hl : z ≠ sx_law) : Cond.code (sx_nm z) (sx_by z) (fq_met z).2.1 (sx_rt z) ∈ sx_big ∧ Cond.initialized (sx_nm z).cls ∈ sx_big ∧ (sx_st z = true → Cond.static (sx_nm z) ∈ sx_big) ∧ (sx_st z = false → Cond.instanceMethod (sx_nm z) ∈ sx_big) ∧ plainName (sx_nm z).cls = true ∧ ((sx_nm z).cls ≠ "java/lang/invoke/MethodHandle" ∧ (sx_nm z).cls ≠ "java/lang/invoke/VarHandle") ∧ (sx_nm z).cls = sx_own (fq_met z).1 ∧ (fq_met z).2.1 ≤ 20 ∧ ((fq_met z).2.2.1 = true ↔ sx_rt z = some .boolean) ∧ (sx_rt z = none ∨ sx_rt z = some .int ∨ sx_rt z = some .long ∨ sx_rt z = some .boolean) ∧ ((fq_met z).2.2.2 = true → (sx_nm z).name = "<init>") := by
  have := sx_y_all z h hl
  simp only [sx_yB, Bool.and_eq_true, decide_eq_true_eq] at this
  obtain ⟨⟨⟨⟨⟨⟨⟨⟨⟨⟨a1, a2⟩, a3⟩, a4⟩, a5⟩, a6⟩, a7⟩, a8⟩, a9⟩, a10⟩, a11⟩ := this
  refine ⟨sx_wB_mem a1, sx_wB_mem a2, fun h => ?_, fun h => ?_, a4, ⟨a5, a6⟩, a7, a8, a9, a10, a11⟩
  · rw [if_pos h] at a3; exact sx_wB_mem a3
  · rw [if_neg (by rw [h]; decide)] at a3; exact sx_wB_mem a3
theorem sx_good {w : Cond} (h : w ∈ sx_big) : (w.onTables && w.keeps) = true ∨ ∃ ty, w = .arrayClass ty := good_of_word (List.mem_filter.mp h).2
theorem sx_GoodIn {z : Nat} (h : z < 187) (hl : z ≠ sx_law) : GoodIn sx_big (sx_ws z) := by
  intro w hw
  rcases List.mem_cons.mp hw with rfl | hw
  · exact ⟨(sx_yw_ok h hl).1, sx_good (sx_yw_ok h hl).1⟩
  · exact ⟨hw, sx_good hw⟩
theorem sx_Pc_blind {base : Nat} {ad : Nat → Nat} {D : va_G} {cI cZ : ClassId} {ro : Nat → List Int32} {adV : Nat → Nat} {as : List Value} {σ : pm_S} : FrameBlind (sx_Pc base ad D cI cZ ro adV as σ) := by
  intro a U g mk h
  obtain ⟨h1, h2, h3, h4⟩ := h
  exact ⟨h1, h2, sx_P_same (u := U) (U := U.calling g mk a) rfl rfl h3, h4⟩
