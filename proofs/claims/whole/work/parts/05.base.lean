-- ===== what every contract asks of the state beside its cells: words that only the tables tell; the two statics of Throwable =====
abbrev tI : String := "java/lang/IllegalStateException"
abbrev tA : String := "java/lang/IllegalArgumentException"
abbrev tX : String := "java/lang/IndexOutOfBoundsException"
abbrev tRE : List String := ["java/lang/RuntimeException", "java/lang/Exception"]
def ex_cs (C T : String) (U : State) : Prop := ∃ c t : ClassId, U.vm.findClass C = some c ∧ U.vm.findClass T = some t ∧ U.vm.assignable c t = true
theorem ex_cs.moved {C T : String} {u U : State} (hvm : u.vm.Alike U.vm) (h : ex_cs C T u) : ex_cs C T U := by
  obtain ⟨c, t, h1, h2, h3⟩ := h
  exact ⟨c, t, by rw [hvm.findClass]; exact h1, by rw [hvm.findClass]; exact h2, by rw [hvm.assignable]; exact h3⟩
theorem ex_cs.of {args : Array Value} {s : State} {C T : String} (h : (Cond.castable C T).before args s = true) : ex_cs C T s := by
  obtain ⟨c, t, h1, h2, h3⟩ := Cond.castable_spec h
  exact ⟨c, t, h1, h2, h3⟩
theorem ex_cs.use {args : Array Value} {s : State} {C T : String} (h : ex_cs C T s) : (Cond.castable C T).before args s = true := by
  obtain ⟨c, t, h1, h2, h3⟩ := h
  simp [Cond.before, Cond.holds, Cond.value, h1, h2, h3]
def ex_str (k : Nat) (tx : String) (U : State) : Prop := ∃ a : Nat, vk_R "FindLog" k tx a U
def ex_N (U : State) : Prop :=
  (va_Nw (.methodLinkNest "FindLog" 30 yX3_init "FindLog") U ∧ va_Nw (.methodLinkNest "FindLog" 37 yX2_init "FindLog") U ∧ va_Nw (.methodLinkNest "FindLog$Bytes" 27 yX4_mixed "FindLog") U) ∧
  (ex_cs tI tI U ∧ ex_cs tA tA U ∧ ex_cs tX tX U ∧ va_Nw (.declares ⟨"java/lang/RuntimeException", "<init>", "(Ljava/lang/String;)V"⟩) U ∧ va_Nw (.declares ⟨"java/lang/Exception", "<init>", "(Ljava/lang/String;)V"⟩) U ∧ va_Nw (.declares ⟨"java/lang/Throwable", "<init>", "(Ljava/lang/String;)V"⟩) U) ∧
  (va_Nc tI tA U ∧ va_Nc tI tX U ∧ va_Nc tA tX U) ∧
  (ex_str 220 "behind a cut, not opened again yet" U ∧ ex_str 54 "a byte is 0 .. 255" U ∧ ex_str 65 "the pad is full" U ∧ ex_str 226 "a thing is 0 .. 31" U ∧ ex_str 75 "a day is 0 .. 36500" U ∧ ex_str 83 "the log is full" U ∧ ex_str 160 "the thing's latest act has no such byte" U ∧ ex_str 173 "there are not so many bytes to keep" U ∧ ex_str 222 "there was no cut" U ∧ ex_str 185 "only one head is whole" U ∧ ex_str 224 "the log has no such byte" U ∧ ex_str 193 "a mask is 1 .. 255" U ∧ ex_str 218 "a head tells 0 .. 7" U)
theorem ex_str.warm {k : Nat} {tx : String} {s U : State} (hW : s.WarmedH U.vm) (h : ex_str k tx s) : ex_str k tx U := h.elim fun a h => ⟨a, vk_R.warm hW h⟩
theorem ex_N.warm {s U : State} (hW : s.WarmedH U.vm) (h : ex_N s) : ex_N U := by
  obtain ⟨⟨a1, a2, a3⟩, ⟨b1, b2, b3, b4, b5, b6⟩, ⟨c1, c2, c3⟩, d1, d2, d3, d4, d5, d6, d7, d8, d9, d10, d11, d12, d13⟩ := h
  exact ⟨⟨va_Nw.warmM hW a1, va_Nw.warmM hW a2, va_Nw.warmM hW a3⟩, ⟨b1.moved hW.alike, b2.moved hW.alike, b3.moved hW.alike, va_Nw.warmD hW b4, va_Nw.warmD hW b5, va_Nw.warmD hW b6⟩, ⟨va_Nc.moved hW.alike c1, va_Nc.moved hW.alike c2, va_Nc.moved hW.alike c3⟩,
    d1.warm hW, d2.warm hW, d3.warm hW, d4.warm hW, d5.warm hW, d6.warm hW, d7.warm hW, d8.warm hW, d9.warm hW, d10.warm hW, d11.warm hW, d12.warm hW, d13.warm hW⟩
theorem ex_N.calling {U : State} {g : JFrame} {mk : MethodId} {a : Array Value} (h : ex_N U) : ex_N (U.calling g mk a) := h.warm (State.WarmedH.refl U)
/-- the two statics of Throwable, as they are at the start -/
def ex_Z (U : State) : Prop := vx_Zq Bundle.tN "UNASSIGNED_STACK" Bundle.steD (fun _ => False) U U.heap ∧ vx_Zq Bundle.tN "SUPPRESSED_SENTINEL" Bundle.listD (fun _ => False) U U.heap
theorem ex_at_vm {D : va_G} {cl : List vw_C} {q : Nat × va_E} {H : Heap} {cell : Cell} (h : va_at D cl q H) (hc : H[q.1]? = some cell) : cell.vm = .none := by
  obtain ⟨a, e⟩ := q
  cases e with
  | inl x =>
    have h1 : H[a]? = some (vp_cell x.1 x.2) := h
    cases Option.some.inj (hc.symm.trans h1)
    obtain ⟨n, f | f | f | f | f⟩ := x.2 <;> rfl
  | inr o =>
    obtain ⟨r, h1, cell2, h2, h3, h4, h5⟩ := h
    cases Option.some.inj (hc.symm.trans h2)
    exact h4
theorem ex_notA {D : va_G} {cl : List vw_C} {W0 : va_W} {H : Heap} (hP : va_P D cl W0 H) {a : Nat} {cell : Cell} (hc : H[a]? = some cell) (hs : cell.vm.isStatics = true) : ¬ va_A W0 H.size a := by
  intro h
  rcases h with ⟨k, e, h⟩ | h
  · have h1 := ex_at_vm (hP k _ h) hc
    rw [h1] at hs
    cases hs
  · have := (Array.getElem?_eq_some_iff.mp hc).1
    omega
theorem ex_zq {C n d : String} {D : va_G} {cl : List vw_C} {W0 : va_W} {s : State} (hP : va_P D cl W0 s.heap) (h : vx_Zq C n d (fun _ => False) s s.heap) : vx_Zq C n d (va_A W0 s.heap.size) s s.heap := by
  obtain ⟨h1, c, k, i, f, a, cell, e1, e2, e3, e4, e5, e6, e7, e8, e9, -⟩ := h
  refine ⟨?_, c, k, i, f, a, cell, e1, e2, e3, e4, e5, e6, e7, e8, e9, ex_notA hP e5 e6⟩
  rcases h1 with ⟨cf, kf, fi, f', a', cell', q1, q2, q3, q4, q5, q6, q7, -⟩ | ⟨t, cf, kf, fi, f', a', cell', q1, q2, q3, q4, q5, q6, q7, -⟩
  · exact Or.inl ⟨cf, kf, fi, f', a', cell', q1, q2, q3, q4, q5, q6, q7, ex_notA hP q5 q6⟩
  · exact Or.inr ⟨t, cf, kf, fi, f', a', cell', q1, q2, q3, q4, q5, q6, q7, ex_notA hP q5 q6⟩
/-- the statics at a later heap: for a callee -/
theorem ex_Z.later {s U : State} {A : Nat → Prop} {H : Heap} {locs : List Loc} (h1 : vx_Zq Bundle.tN "UNASSIGNED_STACK" Bundle.steD A s s.heap) (h2 : vx_Zq Bundle.tN "SUPPRESSED_SENTINEL" Bundle.listD A s s.heap) (hS : va_S A s.heap H locs) (hU : U.heap = H) (hW : s.WarmedH U.vm) : ex_Z U := by
  subst hU
  exact ⟨(vx_Zq.moved hW.alike (h1.kept hS.2.1)).narrow (fun _ h => h.elim), (vx_Zq.moved hW.alike (h2.kept hS.2.1)).narrow (fun _ h => h.elim)⟩
-- ===== rooms, starts, ends =====
abbrev rmL (j mc ms : Nat) : Room := { frames := j + 1, cells := mc, slots := ms, locals := 40 + 31 * j }
/-- a reader's start: its cells, the classes, the words -/
abbrev pw_P (D : va_G) (W0 : va_W) (TY : List (ClassId × FieldType)) : State → Prop := fun U => va_P D vwC W0 U.heap ∧ va_K D vwC TY U ∧ ex_N U
theorem pw_blind {D : va_G} {W0 : va_W} {TY : List (ClassId × FieldType)} {av : List Value} : FrameBlind (va_Pc av (pw_P D W0 TY)) := fun a U g mk q => by
  obtain ⟨q0, qP, qK, qN⟩ := q
  exact ⟨q0, qP, va_K.moved (u := U) (U := U.calling g mk a) (Vm.Alike.refl U.vm) qK, qN.calling⟩
theorem pw_pre {s : State} {H : Heap} {D : va_G} {W0 : va_W} {TY : List (ClassId × FieldType)} {As : List Value} (hP : va_P D vwC W0 H) (hK : va_K D vwC TY s) (hN : ex_N s) : ∀ U : State, U.heap = H → s.WarmedH U.vm → va_Pc As (pw_P D W0 TY) As.toArray U :=
  fun U hU hW => ⟨rfl, by rw [hU]; exact hP, va_K.moved hW.alike hK, hN.warm hW⟩
abbrev pw_Qi (E : Int32) : Array Value → State → Outcome → State → Prop := va_Qi (fun r (_ : Unit) => r = E) (fun _ _ => True) (fun _ => False)
abbrev pw_Ql (E : Int64) : Array Value → State → Outcome → State → Prop := va_Ql (fun r (_ : Unit) => r = E) (fun _ _ => True) (fun _ => False)
/-- a writer's start and end -/
abbrev ww_P (D : va_G) (sz : Nat) (W0 : va_W) (TY : List (ClassId × FieldType)) : State → Prop := fun U => U.heap.size = sz ∧ va_P D vwC W0 U.heap ∧ va_K D vwC TY U ∧ va_D (fun _ => True) W0 ∧ ex_N U
abbrev ww_B (D : va_G) (A : Nat → Prop) (W1 : va_W) (TY : List (ClassId × FieldType)) : State → Prop := fun t => va_P D vwC W1 t.heap ∧ va_K D vwC TY t ∧ va_D A W1
theorem ww_blind {D : va_G} {sz : Nat} {W0 : va_W} {TY : List (ClassId × FieldType)} {av : List Value} : FrameBlind (va_Pc av (ww_P D sz W0 TY)) := fun a U g mk q => by
  obtain ⟨q0, q1, qP, qK, qD, qN⟩ := q
  exact ⟨q0, q1, qP, va_K.moved (u := U) (U := U.calling g mk a) (Vm.Alike.refl U.vm) qK, qD, qN.calling⟩
theorem ww_pre {s : State} {H : Heap} {D : va_G} {W0 : va_W} {A : Nat → Prop} {TY : List (ClassId × FieldType)} {As : List Value} (hP : va_P D vwC W0 H) (hD : va_D A W0) (hK : va_K D vwC TY s) (hN : ex_N s) : ∀ U : State, U.heap = H → s.WarmedH U.vm → va_Pc As (ww_P D H.size W0 TY) As.toArray U :=
  fun U hU hW => ⟨rfl, by rw [hU], by rw [hU]; exact hP, va_K.moved hW.alike hK, hD.weaken (fun _ _ _ _ => trivial), hN.warm hW⟩
section CALLS
variable {p : Program} {l : Launch} {e : Env} {R : Room} {s : State} {m : MethodId} {args : Array Value} {below : List Frame} {meth : Method} {c : Code} {H : Heap} {locs : List Loc} {cells slots : Nat} {Q : State → Prop}
variable {pc : Nat} {ls : Array Slot} {rest st0 : List Value} {a : Array Value} {A0 : Nat → Prop} {H0 : Heap} {D : va_G} {cl : List vw_C} {ws : va_W}
theorem pw_calli {E : Int32} (hr : va_Run p l e R s m args below meth c H locs cells slots 0 0 (F0 m pc ls st0) rest (pw_Qi E a) (fun _ => False)) (hS : va_S A0 H0 H locs) (hP : va_P D cl ws H)
    (kk : ∀ (H1 : Heap) (locs1 : List Loc), va_P D cl ws H1 → va_S A0 H0 H1 locs1 → W p l e R s m args below meth c H1 locs1 cells slots Q (F0 m (pc + 3) ls (.int E :: rest))) : W p l e R s m args below meth c H locs cells slots Q (F0 m pc ls st0) :=
  va_calli hr hS (fun _ _ h => h.elim) (fun _ h => h.elim) (fun r _ t H1 locs1 _ _ hp _ _ hk hS => by
    subst hp
    exact kk H1 locs1 (hP.kept (fun k q hq => hk q.1 (hP k q hq).lt (fun h => h))) hS)
theorem pw_calll {E : Int64} (hr : va_Run p l e R s m args below meth c H locs cells slots 0 0 (F0 m pc ls st0) rest (pw_Ql E a) (fun _ => False)) (hS : va_S A0 H0 H locs) (hP : va_P D cl ws H)
    (kk : ∀ (H1 : Heap) (locs1 : List Loc), va_P D cl ws H1 → va_S A0 H0 H1 locs1 → W p l e R s m args below meth c H1 locs1 cells slots Q (F0 m (pc + 3) ls (.long E :: rest))) : W p l e R s m args below meth c H locs cells slots Q (F0 m pc ls st0) :=
  va_calll hr hS (fun _ _ h => h.elim) (fun _ h => h.elim) (fun r _ t H1 locs1 _ _ hp _ _ hk hS => by
    subst hp
    exact kk H1 locs1 (hP.kept (fun k q hq => hk q.1 (hP k q hq).lt (fun h => h))) hS)
/-- a call of a writer: its cells wc, what is left wr, what comes back w1 -/
theorem ww_callv {S : Type} {post : S → Prop} {w1 : S → va_W} {ty1 : List (ClassId × FieldType)} {wc wr : va_W} {mc ms : Nat} (hr : va_Run p l e R s m args below meth c H locs cells slots mc ms (F0 m pc ls st0) rest (va_Qv post (fun u => ww_B D (va_A wc H.size) (w1 u) ty1) (va_A wc H.size) a) (va_A wc H.size))
    (hS : va_S A0 H0 H locs) (hA : ∀ q, H0.size ≤ q → A0 q) (hP : va_P D vwC ws H) (hD : va_D A0 ws) (isC isR : List Nat) (hC : isC.map (fun i => ws[i]?) = wc.map some) (hR : isR.map (fun i => ws[i]?) = wr.map some) (hn : va_nd isR = true) (hdis : ∀ i ∈ isR, i ∉ isC)
    (kk : ∀ (u : S) (H1 : Heap) (locs1 : List Loc), post u → va_K D vwC ty1 s → va_P D vwC (wr ++ w1 u) H1 → va_D A0 (wr ++ w1 u) → va_S A0 H0 H1 locs1 → W p l e R s m args below meth c H1 locs1 (cells + mc) (slots + ms) Q (F0 m (pc + 3) ls rest)) : W p l e R s m args below meth c H locs cells slots Q (F0 m pc ls st0) := by
  have hF := va_free (wc := wc) hD hS hA isC hC
  refine va_callv hr hS (fun q _ h => hF q h) hF (fun u t H1 locs1 ht hvm hp hB _ hk hS => ?_)
  obtain ⟨hP1, hK1, hD1⟩ := hB
  rw [ht] at hP1
  obtain ⟨hP', hD'⟩ := va_join hP hD isC isR hC hR hn hdis hk hF hP1 hD1
  exact kk u H1 locs1 hp (va_K.moved hvm.symm hK1) hP' hD' hS
theorem ww_calli {S : Type} {post : Int32 → S → Prop} {w1 : S → va_W} {ty1 : List (ClassId × FieldType)} {wc wr : va_W} {mc ms : Nat} (hr : va_Run p l e R s m args below meth c H locs cells slots mc ms (F0 m pc ls st0) rest (va_Qi post (fun u => ww_B D (va_A wc H.size) (w1 u) ty1) (va_A wc H.size) a) (va_A wc H.size))
    (hS : va_S A0 H0 H locs) (hA : ∀ q, H0.size ≤ q → A0 q) (hP : va_P D vwC ws H) (hD : va_D A0 ws) (isC isR : List Nat) (hC : isC.map (fun i => ws[i]?) = wc.map some) (hR : isR.map (fun i => ws[i]?) = wr.map some) (hn : va_nd isR = true) (hdis : ∀ i ∈ isR, i ∉ isC)
    (kk : ∀ (r : Int32) (u : S) (H1 : Heap) (locs1 : List Loc), post r u → va_K D vwC ty1 s → va_P D vwC (wr ++ w1 u) H1 → va_D A0 (wr ++ w1 u) → va_S A0 H0 H1 locs1 → W p l e R s m args below meth c H1 locs1 (cells + mc) (slots + ms) Q (F0 m (pc + 3) ls (.int r :: rest))) : W p l e R s m args below meth c H locs cells slots Q (F0 m pc ls st0) := by
  have hF := va_free (wc := wc) hD hS hA isC hC
  refine va_calli hr hS (fun q _ h => hF q h) hF (fun r u t H1 locs1 ht hvm hp hB _ hk hS => ?_)
  obtain ⟨hP1, hK1, hD1⟩ := hB
  rw [ht] at hP1
  obtain ⟨hP', hD'⟩ := va_join hP hD isC isR hC hR hn hdis hk hF hP1 hD1
  exact kk r u H1 locs1 hp (va_K.moved hvm.symm hK1) hP' hD' hS
theorem ww_calll {S : Type} {post : Int64 → S → Prop} {w1 : S → va_W} {ty1 : List (ClassId × FieldType)} {wc wr : va_W} {mc ms : Nat} (hr : va_Run p l e R s m args below meth c H locs cells slots mc ms (F0 m pc ls st0) rest (va_Ql post (fun u => ww_B D (va_A wc H.size) (w1 u) ty1) (va_A wc H.size) a) (va_A wc H.size))
    (hS : va_S A0 H0 H locs) (hA : ∀ q, H0.size ≤ q → A0 q) (hP : va_P D vwC ws H) (hD : va_D A0 ws) (isC isR : List Nat) (hC : isC.map (fun i => ws[i]?) = wc.map some) (hR : isR.map (fun i => ws[i]?) = wr.map some) (hn : va_nd isR = true) (hdis : ∀ i ∈ isR, i ∉ isC)
    (kk : ∀ (r : Int64) (u : S) (H1 : Heap) (locs1 : List Loc), post r u → va_K D vwC ty1 s → va_P D vwC (wr ++ w1 u) H1 → va_D A0 (wr ++ w1 u) → va_S A0 H0 H1 locs1 → W p l e R s m args below meth c H1 locs1 (cells + mc) (slots + ms) Q (F0 m (pc + 3) ls (.long r :: rest))) : W p l e R s m args below meth c H locs cells slots Q (F0 m pc ls st0) := by
  have hF := va_free (wc := wc) hD hS hA isC hC
  refine va_calll hr hS (fun q _ h => hF q h) hF (fun r u t H1 locs1 ht hvm hp hB _ hk hS => ?_)
  obtain ⟨hP1, hK1, hD1⟩ := hB
  rw [ht] at hP1
  obtain ⟨hP', hD'⟩ := va_join hP hD isC isR hC hR hn hdis hk hF hP1 hD1
  exact kk r u H1 locs1 hp (va_K.moved hvm.symm hK1) hP' hD' hS
end CALLS
