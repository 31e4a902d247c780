/-! SOUNDNESS: a run of the pure machine is a run of the real one -/
theorem sx_vret {p : Program} {l : Launch} {e : Env} {R : Room} {s : State} {m : MethodId} {args : Array Value} {below : List Frame} {meth : Method} {c : Code} {H : Heap} {locs : List Loc} {cells slots : Nat} {cc : ByteArray} {Qc : Array Value → State → Outcome → State → Prop} {free : Addr → Prop} (hexec : p.tables.exec = Jvm.exec) (hb : c.code = cc) (hr : meth.sig.returnType = none)
    (hq : ∀ t : State, t.heap = H → s.WarmedH t.vm → Qc args s (.returned none) t) (hf : ∀ q ∈ locs, free q.base)
    {pc : Nat} {ls : Array Slot} {st : List Value} (hdg : decode cc pc = .ok (.return_, 1)) (hlocks : meth.locks = false) : W p l e R s m args below meth c H locs cells slots (MQ below Qc args s cells slots free) (F0 m pc ls st) := by
  intro T hT X
  obtain ⟨fs, hret, hrun, hended, hW, hframe⟩ := X.leave (v := none) (hlocks := hlocks) (fun _ => rfl)
  have hmeth' : T.vm.method? m = some meth := X.method'
  refine ⟨T.setFrames fs, ?_, .returned none, hrun, hended, hq _ hT hW, locs, ⟨⟨_, rfl⟩, hW, hframe⟩, hf⟩
  jvm_step X.here [X.here.top, hexec, hb, hdg, hmeth', hr]
  (try refine ⟨rfl, ?_⟩); (try refine ⟨rfl, ?_⟩)
  first | (intro acts; rw [hret _ acts rfl rfl rfl]) | rw [hret _ _ rfl rfl rfl]
  exact Steps.refl _
def sx_ri (y : Nat) (i : Instr) (r : Option Value) (st : List Value) : Prop := match i, r with
  | .ireturn, some (.int x) => ((fq_met y).2.2.1 = true → pm_fit 1 (.int x) = true) ∧ st = [.int x]
  | .lreturn, some (.long x) => st = [.long x]
  | .return_, none => True
  | _, _ => False
theorem pm_call_ne2 {P : pm_T} {y k way : Nat} {S : List Value} {σ : pm_S} {q : Option Value} (h : pm_call P y k way S σ = some (.inr (.inr q))) : False := by
  unfold pm_call at h
  split at h
  · split at h
    · split at h
      · split at h
        · unfold pm_cgo at h
          split at h <;> (try split at h) <;> (try split at h) <;> cases h
        · cases h
      · cases h
    · cases h
  · cases h
theorem pm_stp_end {y n pc : Nat} {i : Instr} {L : pm_L} {S : List Value} {r : Option Value} {σ : pm_S} (ad : Nat → Nat) (hs : pm_stp fqP y i n pc L S σ = some (.inr (.inr r))) : sx_ri y i r (S.map (sx_v ad)) := by
  cases i with
  | return_ =>
    have hs : (some (.inr (.inr none)) : Option pm_A) = some (.inr (.inr r)) := hs
    cases hs
    trivial
  | ireturn =>
    have hs : (match S with | .int x :: [] => if (pm_met fqP y).2.2.1 = true → pm_fit 1 (.int x) = true then (some (.inr (.inr (some (.int x)))) : Option pm_A) else none | _ => none) = some (.inr (.inr r)) := hs
    split at hs
    · split at hs
      next h => cases hs; exact ⟨h, rfl⟩
      next => cases hs
    · cases hs
  | lreturn =>
    have hs : (match S with | .long x :: [] => (some (.inr (.inr (some (.long x)))) : Option pm_A) | _ => none) = some (.inr (.inr r)) := hs
    split at hs
    · cases hs; rfl
    · cases hs
  | invokestatic k => exact (pm_call_ne2 (show pm_call fqP y k 0 S σ = some (.inr (.inr r)) from hs)).elim
  | invokespecial k => exact (pm_call_ne2 (show pm_call fqP y k 2 S σ = some (.inr (.inr r)) from hs)).elim
  | invokevirtual k =>
    have hs : (match pm_mth fqP (pm_met fqP y).1 k with | some (3, _) => pm_call fqP y k 3 S σ | _ => pm_call fqP y k 1 S σ) = some (.inr (.inr r)) := hs
    split at hs <;> exact (pm_call_ne2 hs).elim
  | newarray t =>
    exfalso
    cases t with
    | int =>
      have hs : (match S with
        | .int x :: S => if 0 ≤ x.toInt ∧ x.toInt ≤ 1000 then pm_nx (pc + n) L (.ref σ.length :: S) (σ ++ [.inr (0, List.replicate x.toNatClampNeg 0)]) else none
        | _ => none) = some (.inr (.inr r)) := hs
      repeat' split at hs
      all_goals first
        | exact pm_nxC hs
        | cases hs
    | boolean =>
      have hs : (match S with
        | .int x :: S => if 0 ≤ x.toInt ∧ x.toInt ≤ 1000 then pm_nx (pc + n) L (.ref σ.length :: S) (σ ++ [.inr (1, List.replicate x.toNatClampNeg 0)]) else none
        | _ => none) = some (.inr (.inr r)) := hs
      repeat' split at hs
      all_goals first
        | exact pm_nxC hs
        | cases hs
    | _ => exact absurd (show (none : Option pm_A) = some _ from hs) (by simp)
  | _ =>
    exfalso
    first
      | exact absurd (show (none : Option pm_A) = some _ from hs) (by simp)
      | exact pm_nxC hs
      | (unfold pm_stp at hs
         (try dsimp only at hs)
         (try unfold pm_b2 at hs)
         (try unfold pm_l2 at hs)
         (try unfold pm_ldI at hs)
         (try unfold pm_ldA at hs)
         (try unfold pm_ldL at hs)
         (try unfold pm_stI at hs)
         (try unfold pm_stA at hs)
         (try unfold pm_stL at hs)
         (repeat' split at hs)
         all_goals first
           | exact pm_nxC hs
           | cases hs)
def sx_retP (y : Nat) (i : Instr) : Prop := match i with
  | .ireturn => sx_rt y = some .int ∨ sx_rt y = some .boolean
  | .lreturn => sx_rt y = some .long
  | .return_ => sx_rt y = none
  | _ => True
def sx_retB (y : Nat) (i : Instr) : Bool := match i with
  | .ireturn => decide (sx_rt y = some .int ∨ sx_rt y = some .boolean)
  | .lreturn => decide (sx_rt y = some .long)
  | .return_ => decide (sx_rt y = none)
  | _ => true
theorem sx_ret_all : (List.range 187).all (fun y => (fq_code.getD y []).all fun e => sx_retB y e.2.1) = true := by decide +kernel
theorem sx_fet_ret {y pc n : Nat} {i : Instr} (h : fq_fet y pc = some (i, n)) : sx_retP y i := by
  have hm := sx_lookup (show (fq_code.getD y []).lookup pc = some (i, n) from h)
  have := List.all_eq_true.mp (List.all_eq_true.mp sx_ret_all y (List.mem_range.mpr (sx_fet_dec h).1)) _ hm
  have this : sx_retB y i = true := this
  cases i with
  | ireturn => exact (show sx_rt y = some .int ∨ sx_rt y = some .boolean from of_decide_eq_true this)
  | lreturn => exact (show sx_rt y = some .long from of_decide_eq_true this)
  | return_ => exact (show sx_rt y = none from of_decide_eq_true this)
  | _ => exact trivial
def sx_fin (base : Nat) (ad : Nat → Nat) (D : va_G) (cI cZ : ClassId) (ro : Nat → List Int32) (y : Nat) (p : Program) (l : Launch) (e : Env) (R : Room) (s : State) (m : MethodId) (args : Array Value) (below : List Frame) (meth : Method) (c : Code) (Q : State → Prop) (r : Option Value) (σ' : pm_S) (tc ts : Nat) : Prop :=
  ∀ (H : Heap) (locs : List Loc) (ls : Array Slot) (pc : Nat) (i : Instr) (st : List Value), fq_fet y pc = some (i, 1) → sx_ri y i r st → va_S (sx_A base) s.heap H locs → sx_R base ad D cI cZ ro σ' H → W p l e R s m args below meth c H locs tc ts Q (F0 m pc ls st)
/-- what a run gives -/
def sx_Run (base : Nat) (ad : Nat → Nat) (D : va_G) (cI cZ : ClassId) (ro : Nat → List Int32) (adV : Nat → Nat) (d y pc : Nat) (L : pm_L) (S : List Value) (σ : pm_S) (r : Option Value) (σ' : pm_S) : Prop :=
  (σ.length ≤ σ'.length ∧ sx_sz σ ≤ sx_sz σ') ∧ ∀ {p : Program} {l : Launch} {e : Env} {R : Room} {s : State} {m : MethodId} {args : Array Value} {below : List Frame} {meth : Method} {c : Code} {Q : State → Prop} {H : Heap} {locs : List Loc} {cells slots : Nat} {ls : Array Slot} {tc ts : Nat},
    sx_X base ad D cI cZ ro adV y p s m args meth c → d ≤ R.frames → 40 * d ≤ R.locals → va_S (sx_A base) s.heap H locs → sx_R base ad D cI cZ ro σ H → sx_L ad L ls (fq_met y).2.1 → cells + (σ'.length - σ.length) = tc → slots + (sx_sz σ' - sx_sz σ) = ts → tc ≤ R.cells → ts ≤ R.slots →
    sx_fin base ad D cI cZ ro y p l e R s m args below meth c Q r σ' tc ts → W p l e R s m args below meth c H locs cells slots Q (F0 m pc ls (S.map (sx_v ad)))
section SM
variable {base : Nat} {ad : Nat → Nat} {D : va_G} {cI cZ : ClassId} {ro : Nat → List Int32} {adV : Nat → Nat}
/-- the contract of a method out of a run of it -/
theorem sx_met {d z : Nat} {as : List Value} {σ σ1 : pm_S} {r : Option Value} (l : Launch) (hz : z < 187) (hzl : z ≠ sx_law) (ho : pm_okW (fq_met z).2.1 as = true) (h : sx_Run base ad D cI cZ ro adV d z 0 (pm_ent (fq_met z).2.1 as) [] σ r σ1) : sx_Met base ad D cI cZ ro adV l d z as σ r σ1 := by
  obtain ⟨w1, w2, w3, w4, w5, w6, w7, w8, w9, w10, w11⟩ := sx_yw_ok hz hzl
  refine Met.ofW (cc := sx_by z) (maxL := (fq_met z).2.1) (ret := sx_rt z) w5 rfl ?_
  intro p e s m args below meth c s₁ B hml hv
  obtain ⟨rfl, hR, hP, hbs⟩ := hv
  have hr := B.returns
  have hts := atoms_spec (ws := sx_ws z) B.pre
  have hown : s.vm.findClass (sx_nm z).cls = some m.cls := findClass_of_methodNamed B.named
  rw [w7] at hown
  have X : sx_X base ad D cI cZ ro adV z p s m (as.map (sx_v ad)).toArray meth c := ⟨B.exec, B.bytes, hown, fun w hw => hts w (List.mem_cons_of_mem _ hw), fun hi => (name_of_methodNamed B.named B.method).1.trans (w11 hi), hP, hbs, hml⟩
  have hsl : (lg_sl (as.map (sx_v ad))).length ≤ (fq_met z).2.1 := by
    rw [sx_sl_len, sx_map_cat]
    exact pm_okW_sum _ _ ho
  have hl0 := lv_entry (as.map (sx_v ad)) hsl
  rw [lg_entry_eq]
  have hl : sx_L ad (pm_ent (fq_met z).2.1 as) ((lg_sl (as.map (sx_v ad)) ++ List.replicate ((fq_met z).2.1 - (lg_sl (as.map (sx_v ad))).length) Slot.unset).toArray) (fq_met z).2.1 := by
    refine ⟨pm_ent_len as _ ho, hl0.1, hl0.2.1, fun k v hk => ?_⟩
    have := pm_ent_args ad as (fq_met z).2.1 0 k v ho hk
    rw [Nat.zero_add] at this
    exact hl0.2.2 _ this
  refine h.2 (R := (headSpec (sx_ws z) (sx_rm d (σ1.length - σ.length) (sx_sz σ1 - sx_sz σ))).room) X (Nat.le_refl _) (Nat.le_refl _) va_S.rf hR hl (Nat.zero_add _) (Nat.zero_add _) (Nat.le_refl _) (Nat.le_refl _) ?_
  intro H locs ls pc i st hf hri hS hR'
  have hd := (sx_fet_dec hf).2.1
  have hrt := sx_fet_ret hf
  have hq : ∀ (r' : Option Value), r' = r.map (sx_v ad) → ∀ t : State, t.heap = H → s.WarmedH t.vm → sx_Qc base ad D cI cZ ro r σ1 (as.map (sx_v ad)).toArray s (.returned r') t := fun r' e t ht hW => ⟨by rw [e], by rw [ht]; exact hR', hS.F ht⟩
  unfold sx_ri at hri
  split at hri
  next x =>
    obtain ⟨hb, rfl⟩ := hri
    have hrt : sx_rt z = some .int ∨ sx_rt z = some .boolean := hrt
    rcases hrt with e | e
    · exact W.iret X.1 X.2.1 (hr.trans e) (hq _ rfl) hS.2.2 hd B.notSynchronized
    · refine W.zret X.1 X.2.1 (hr.trans e) ?_ (hq _ rfl) hS.2.2 hd B.notSynchronized
      have : (x == 0 || x == 1) = true := hb (w9.mpr e)
      simp only [Bool.or_eq_true, beq_iff_eq] at this
      rcases this with rfl | rfl <;> rfl
  next x =>
    subst hri
    exact W.lret X.1 X.2.1 (hr.trans hrt) (hq _ rfl) hS.2.2 hd B.notSynchronized
  next => exact sx_vret X.1 X.2.1 (hr.trans hrt) (hq _ rfl) hS.2.2 hd B.notSynchronized
  next => exact hri.elim
end SM
