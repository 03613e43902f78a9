-- ===== readers without an answer; methods that throw and change nothing =====
abbrev pw_Qv : Array Value → State → Outcome → State → Prop := va_Qv (fun (_ : Unit) => True) (fun _ _ => True) (fun _ => False)
abbrev xt_Qv : Array Value → State → Outcome → State → Prop := va_Qv (fun (_ : Unit) => False) (fun _ _ => True) (fun _ => False)
abbrev xt_Qi : Array Value → State → Outcome → State → Prop := va_Qi (fun _ (_ : Unit) => False) (fun _ _ => True) (fun _ => False)
abbrev xt_Ql : Array Value → State → Outcome → State → Prop := va_Ql (fun _ (_ : Unit) => False) (fun _ _ => True) (fun _ => False)
abbrev xt_X (C : String) : String → State → State → Prop := vx_X (fun (_ : Unit) => True) (fun E _ _ => E = C) (fun _ => False)
abbrev pz_P (D : va_G) (W0 : va_W) (TY : List (ClassId × FieldType)) : State → Prop := fun U => pw_P D W0 TY U ∧ ex_Z U
theorem ex_Z.calling {U : State} {g : JFrame} {mk : MethodId} {a : Array Value} (h : ex_Z U) : ex_Z (U.calling g mk a) :=
  ⟨vx_Zq.moved (u := U) (U := U.calling g mk a) (Vm.Alike.refl U.vm) h.1, vx_Zq.moved (u := U) (U := U.calling g mk a) (Vm.Alike.refl U.vm) h.2⟩
theorem pz_blind {D : va_G} {W0 : va_W} {TY : List (ClassId × FieldType)} {av : List Value} : FrameBlind (va_Pc av (pz_P D W0 TY)) := fun a U g mk q => by
  obtain ⟨q0, ⟨qP, qK, qN⟩, qZ⟩ := q
  exact ⟨q0, ⟨qP, va_K.moved (u := U) (U := U.calling g mk a) (Vm.Alike.refl U.vm) qK, qN.calling⟩, qZ.calling⟩
theorem pz_pre {s : State} {H : Heap} {locs : List Loc} {D : va_G} {W0 : va_W} {TY : List (ClassId × FieldType)} {As : List Value} (hP : va_P D vwC W0 H) (hK : va_K D vwC TY s) (hN : ex_N s) (hZ : ex_Z s) (hS : va_S (fun _ => False) s.heap H locs) : ∀ U : State, U.heap = H → s.WarmedH U.vm → va_Pc As (pz_P D W0 TY) As.toArray U :=
  fun U hU hW => ⟨rfl, ⟨by rw [hU]; exact hP, va_K.moved hW.alike hK, hN.warm hW⟩, ex_Z.later hZ.1 hZ.2 hS hU hW⟩
set_option maxRecDepth 20000 in
abbrev tDD : List Cond := [Cond.declares ⟨"java/lang/RuntimeException", "<init>", "(Ljava/lang/String;)V"⟩, Cond.declares ⟨"java/lang/Exception", "<init>", "(Ljava/lang/String;)V"⟩, Cond.declares ⟨"java/lang/Throwable", "<init>", "(Ljava/lang/String;)V"⟩]
set_option maxRecDepth 20000 in
theorem at_I : ∀ w ∈ (vx_atS "FindLog" 67 tI tRE).filter goodWord, w ∈ GW := by decide +kernel
set_option maxRecDepth 20000 in
theorem at_A : ∀ w ∈ (vx_atS "FindLog" 56 tA tRE).filter goodWord, w ∈ GW := by decide +kernel
set_option maxRecDepth 20000 in
theorem at_X : ∀ w ∈ (vx_atS "FindLog" 162 tX tRE).filter goodWord, w ∈ GW := by decide +kernel
set_option maxRecDepth 20000 in
theorem bt_I : ∀ w ∈ (vx_atS "FindLog" 67 tI tRE).filter (fun w => !goodWord w), w ∈ Cond.castable tI tI :: tDD := by decide +kernel
set_option maxRecDepth 20000 in
theorem bt_A : ∀ w ∈ (vx_atS "FindLog" 56 tA tRE).filter (fun w => !goodWord w), w ∈ Cond.castable tA tA :: tDD := by decide +kernel
set_option maxRecDepth 20000 in
theorem bt_X : ∀ w ∈ (vx_atS "FindLog" 162 tX tRE).filter (fun w => !goodWord w), w ∈ Cond.castable tX tX :: tDD := by decide +kernel
set_option maxRecDepth 20000 in
theorem ot_I : ∀ w ∈ Cond.classLink "FindLog" 63 tI :: Cond.initialized tI :: vx_atS "FindLog" 67 tI tRE, vx_ot w = true := by decide +kernel
set_option maxRecDepth 20000 in
theorem ot_A : ∀ w ∈ Cond.classLink "FindLog" 52 tA :: Cond.initialized tA :: vx_atS "FindLog" 56 tA tRE, vx_ot w = true := by decide +kernel
set_option maxRecDepth 20000 in
theorem ot_X : ∀ w ∈ Cond.classLink "FindLog" 158 tX :: Cond.initialized tX :: vx_atS "FindLog" 162 tX tRE, vx_ot w = true := by decide +kernel
theorem fit_RE : ∀ n ∈ tRE, Bundle.fit n = true := by decide +kernel
section THROWS
variable {p : Program} {l : Launch} {e : Env} {R : Room} {s : State} {m : MethodId} {args : Array Value} {below : List Frame} {meth : Method} {c : Code} {H : Heap} {locs : List Loc} {cells slots : Nat} {Q : State → Prop}
variable {pc : Nat} {ls : Array Slot} {rest st0 : List Value} {a : Array Value} {A0 : Nat → Prop} {H0 : Heap} {D : va_G} {cl : List vw_C} {ws : va_W} {cc : ByteArray}
theorem pw_callv (hr : va_Run p l e R s m args below meth c H locs cells slots 0 0 (F0 m pc ls st0) rest (pw_Qv a) (fun _ => False)) (hS : va_S A0 H0 H locs) (hP : va_P D cl ws H)
    (kk : ∀ (H1 : Heap) (locs1 : List Loc), va_P D cl ws H1 → va_S A0 H0 H1 locs1 → W p l e R s m args below meth c H1 locs1 cells slots Q (F0 m (pc + 3) ls rest)) : W p l e R s m args below meth c H locs cells slots Q (F0 m pc ls st0) :=
  va_callv hr hS (fun _ _ h => h.elim) (fun _ h => h.elim) (fun _ t H1 locs1 _ _ _ _ _ hk hS => kk H1 locs1 (hP.kept (fun k q hq => hk q.1 (hP k q hq).lt (fun h => h))) hS)
theorem xt_F (hS : va_S (fun _ => False) s.heap H locs) {t : State} (h1 : H.size ≤ t.heap.size) (h2 : ∀ q : Nat, q < H.size → t.heap[q]? = H[q]?) : va_F (fun _ => False) s t :=
  ⟨Nat.le_trans hS.1 h1, fun q hq _ => (h2 q (Nat.lt_of_lt_of_le hq hS.1)).trans (hS.2.1 q hq (fun z => z))⟩
/-- throw new C(a text) in FindLog: nothing was written -/
theorem xt_new {Qc : Array Value → State → Outcome → State → Prop} {CE tx : String} {ik is ic : Nat} (hexec : p.tables.exec = Jvm.exec) (hb : c.code = cc) (hst : l.stackTraces = false) (hg : ∀ w ∈ GW, w.before args s = true) (hown : s.vm.findClass "FindLog" = some m.cls) (hcls : Bundle.fit CE = true)
    (hk : Cond.classLink "FindLog" ik CE ∈ GW) (hini : Cond.initialized CE ∈ GW) (hstr : ex_str is tx s) (hat : ∀ w ∈ (vx_atS "FindLog" ic CE tRE).filter goodWord, w ∈ GW) (hbt : ∀ w ∈ (vx_atS "FindLog" ic CE tRE).filter (fun w => !goodWord w), w ∈ Cond.castable CE CE :: tDD) (hcs : ex_cs CE CE s) (hN : ex_N s)
    (hot : ∀ w ∈ Cond.classLink "FindLog" ik CE :: Cond.initialized CE :: vx_atS "FindLog" ic CE tRE, vx_ot w = true) (hZ : ex_Z s) (hS : va_S (fun _ => False) s.heap H locs) (hsize : ls.size = c.maxLocals)
    (d0 : decode cc pc = .ok (.new ik, 3)) (d3 : decode cc (pc + 3) = .ok (.dup, 1)) (d4 : decode cc (pc + 4) = .ok (.ldc is, 2)) (d6 : decode cc (pc + 6) = .ok (.invokespecial ic, 3)) (d9 : decode cc (pc + 9) = .ok (.athrow, 1))
    (htab : ∀ x ∈ c.exceptionTable.toList, False) (hRf : 5 < R.frames) (hRl : 82 ≤ R.locals) (hRc : cells + 1 ≤ R.cells) (hRs : slots + 6 ≤ R.slots) (hlocks : meth.locks = false) (hc : cells + 1 ≤ 1) (hs : slots + 6 ≤ 6) :
    W p l e R s m args below meth c H locs cells slots (vx_MQ below Qc (xt_X CE) args s 1 6 (fun _ => False)) (F0 m pc ls []) := by
  obtain ⟨sa, hsa⟩ := hstr
  refine vx_throwS hexec hb hst hown hcls fit_RE (hg _ hk) (hg _ hini) hsa (vx_hat (fun w hw => hg w (hat w hw)) hbt (vx_c hcs.use (vx_c (va_Nw.use rfl hN.2.1.2.2.2.1) (vx_c (va_Nw.use rfl hN.2.1.2.2.2.2.1) (vx_c (va_Nw.use rfl hN.2.1.2.2.2.2.2) vx_n))))) hot hZ.1 hZ.2 hS hsize d0 d3 d4 d6 d9 (fun x hx => (htab x hx).elim) (Nat.lt_of_lt_of_le (by decide) hRf) (Nat.le_trans (by decide) hRl) hRc hRs hlocks
    (fun t _ h1 h2 => ⟨(), trivial, rfl, xt_F hS h1 h2⟩) (fun z hz => hS.2.2 z hz) hc hs
/-- a callee of FindLog's own has thrown: so does this method -/
theorem xt_pass {Qc : Array Value → State → Outcome → State → Prop} {CE : String} {E : String} {ce : Cell} {q9 : Addr} {H1 : Heap} {locs1 : List Loc} (hE : E = CE) (htab : ∀ x ∈ c.exceptionTable.toList, False) (hlocks : meth.locks = false)
    (hce : H1[q9]? = some ce) (hcv : ce.vm = .none) (hcl : s.vm.findClass E = some ce.cls) (hS : va_S (fun _ => False) s.heap H1 locs1) (hc : cells ≤ 1) (hs : slots ≤ 6) :
    vx_W p l e R s m args below meth c H1 locs1 cells slots (vx_MQ below Qc (xt_X CE) args s 1 6 (fun _ => False)) (F0 m pc ls rest) q9 := by
  subst hE
  exact vx_out (fun x hx => (htab x hx).elim) hlocks hce hcv hcl (fun t ht _ => ⟨(), trivial, rfl, xt_F hS (by rw [ht]; exact Nat.le_refl _) (fun q _ => by rw [ht])⟩) (fun z hz => hS.2.2 z hz) hc hs
end THROWS
