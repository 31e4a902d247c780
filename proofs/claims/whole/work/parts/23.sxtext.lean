/-! SOUNDNESS: texts -/
section ST
variable {base : Nat} {ad : Nat → Nat} {D : va_G} {cI cZ : ClassId} {ro : Nat → List Int32} {adV : Nat → Nat}
variable {p : Program} {l : Launch} {e : Env} {R : Room} {s : State} {m : MethodId} {args : Array Value} {below : List Frame} {meth : Method} {c : Code} {Q : State → Prop} {H : Heap} {locs : List Loc} {cells slots : Nat} {ls : Array Slot}
theorem sx_strlen {y k pc a : Nat} {v : Int32} {T : List Value} (X : sx_X base ad D cI cZ ro adV y p s m args meth c) (hlink : (Cond.methodLink (sx_own (fq_met y).1) k (sx_bn 902)).before args s = true) (hv : pm_txt fqP a 0 = some v) (hfr : 5 ≤ R.frames) (hlo : 200 ≤ R.locals) (hS : va_S (sx_A base) s.heap H locs) (hls : ls.size = (fq_met y).2.1) (h8 : (T.map fun v => v.category).sum ≤ 8) (hc : cells ≤ R.cells) (hs : slots ≤ R.slots) (hd : decode (sx_by y) pc = .ok (.invokevirtual k, 3))
    (kk : W p l e R s m args below meth c H locs cells slots Q (F0 m (pc + 3) ls (.int v :: T))) : W p l e R s m args below meth c H locs cells slots Q (F0 m pc ls (.ref (ad a) :: T)) := by
  sorry
theorem sx_strchar {y k pc a : Nat} {i v : Int32} {T : List Value} (X : sx_X base ad D cI cZ ro adV y p s m args meth c) (hlink : (Cond.methodLink (sx_own (fq_met y).1) k (sx_bn 903)).before args s = true) (h0 : 0 ≤ i.toInt) (hv : pm_txt fqP a (i.toNatClampNeg + 1) = some v) (hfr : 5 ≤ R.frames) (hlo : 200 ≤ R.locals) (hS : va_S (sx_A base) s.heap H locs) (hls : ls.size = (fq_met y).2.1) (h8 : (T.map fun v => v.category).sum ≤ 8) (hc : cells ≤ R.cells) (hs : slots ≤ R.slots) (hd : decode (sx_by y) pc = .ok (.invokevirtual k, 3))
    (kk : W p l e R s m args below meth c H locs cells slots Q (F0 m (pc + 3) ls (.int v :: T))) : W p l e R s m args below meth c H locs cells slots Q (F0 m pc ls (.int i :: .ref (ad a) :: T)) := by
  sorry
end ST
