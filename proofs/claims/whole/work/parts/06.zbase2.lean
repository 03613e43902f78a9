section NATS2
variable {p : Program} {l : Launch} {e : Env} {R : Room} {s : State} {m : MethodId} {args : Array Value} {below : List Frame} {meth : Method} {c : Code} {H : Heap} {locs : List Loc} {cells slots : Nat} {Q : State → Prop}
variable {cc : ByteArray} {pc : Nat} {ls : Array Slot} {rest : List Value} {D : va_G} {cl : List vw_C} {A : Nat → Prop} {a : Nat} {tys : List (ClassId × FieldType)} {ws : va_W} {H0 : Heap}
theorem va_copyiN (hexec : p.tables.exec = Jvm.exec) (hb : c.code = cc) (hml : c.maxLocals = ls.size) {own : String} {index : Nat} (hown : s.vm.findClass own = some m.cls) (hlink : (Cond.methodLink own index arraycopyName).before args s = true) (hnat : (Cond.native arraycopyName).before args s = true) (hstat : (Cond.static arraycopyName).before args s = true) (hini : (Cond.initialized "java/lang/System").before args s = true)
    (hK : va_K D cl tys s) (hP : va_P D cl ws H) (hD : va_D A ws) (hS : va_S A H0 H locs) (q0 q1 t0 t1 : Nat) {a0 : Nat} {c0 c1 : ClassId} {n0 n1 : Nat} {f g : Nat → Int32} (ha0 : ws[q0]? = some (a0, .inl (c0, n0, .inl f))) (ha1 : ws[q1]? = some (a, .inl (c1, n1, .inl g))) (ht0 : tys[t0]? = some (c0, .int)) (ht1 : tys[t1]? = some (c1, .int))
    {sp dp n : Nat} (h4 : sp + n ≤ n0) (h5 : dp + n ≤ n1) (b0 : n0 < 2 ^ 31) (b1 : n1 < 2 ^ 31)
    (hframes : 1 ≤ R.frames) (hlocals : (rest.map fun v => v.category).sum + (nativeFrameWords "java/lang/System" "arraycopy" 5 + 11) ≤ R.locals) (hdg : decode cc pc = .ok (.invokestatic index, 3))
    (kk : ∀ (H1 : Heap) (locs1 : List Loc), va_P D cl (ws.set q1 (a, .inl (c1, n1, .inl (va_cpy f g sp dp n)))) H1 → va_D A (ws.set q1 (a, .inl (c1, n1, .inl (va_cpy f g sp dp n)))) → va_S A H0 H1 locs1 → W p l e R s m args below meth c H1 locs1 cells slots Q (F0 m (pc + 3) ls rest)) : W p l e R s m args below meth c H locs cells slots Q (F0 m pc ls (.int (nI n) :: .int (nI dp) :: .ref a :: .int (nI sp) :: .ref a0 :: rest)) := by
  have e1 : (nI sp).toNatClampNeg = sp := nI_clamp (by omega)
  have e2 : (nI dp).toNatClampNeg = dp := nI_clamp (by omega)
  have e3 : (nI n).toNatClampNeg = n := nI_clamp (by omega)
  refine va_copyi hexec hb hml hown hlink hnat hstat hini hK hP hD hS q0 q1 t0 t1 ha0 ha1 ht0 ht1 rfl (nI_pos (by omega)) (nI_pos (by omega)) (nI_pos (by omega)) (by rw [e1, e3]; exact h4) (by rw [e2, e3]; exact h5) (fun _ _ => rfl) hframes hlocals hdg (fun H1 l1 hP hD hS => kk H1 l1 ?_ ?_ hS)
  · simp only [e1, e2, e3] at hP
    exact hP
  · simp only [e1, e2, e3] at hD
    exact hD
end NATS2
theorem kk_int {D : va_G} {cl : List vw_C} {s : State} {tys : List (ClassId × FieldType)} {k1 k2 : ClassId} {ty : FieldType} (hK : va_K D cl tys s) (i j : Nat) (h1 : tys[i]? = some (k1, ty)) (h2 : tys[j]? = some (k2, ty)) (hp : ∀ C, ty ≠ .object C) : k2 = k1 := by
  have a1 := (hK.2 i _ h1).2
  have a2 := (hK.2 j _ h2).2
  cases ty <;> first | exact absurd rfl (hp _) | exact Option.some.inj (a2.symm.trans a1)
def uN (u : Nat → Nat) (p x : Nat) : Nat → Nat := fun j => if j = p then x else u j
theorem upd_nI (u : Nat → Nat) (p x : Nat) : upd (fun j => nI (u j)) p (nI x) = fun j => nI (uN u p x j) := by
  funext j
  by_cases h : j = p
  · simp [upd, uN, h]
  · simp [upd, uN, h]
theorem ix_m1 (x : Int32) : x + Int32.ofInt (-1) = x - nI 1 := by
  rw [Int32.sub_eq_add_neg]
  rfl
/-- an array's contents count within its length alone -/
theorem va_P.ext {D : va_G} {cl : List vw_C} {ws : va_W} {H : Heap} (hP : va_P D cl ws H) (k : Nat) {a n : Nat} {cA : ClassId} {f g : Nat → Int32} (hk : ws[k]? = some (a, .inl (cA, n, .inl f))) (h : ∀ j, j < n → f j = g j) : va_P D cl (ws.set k (a, .inl (cA, n, .inl g))) H := by
  have hl := (List.getElem?_eq_some_iff.mp hk).1
  intro i q hi
  by_cases hik : i = k
  · subst hik
    rw [List.getElem?_set_self hl] at hi
    cases hi
    have h1 : H[a]? = some (vp_cell cA (n, .inl f)) := hP i _ hk
    show H[a]? = some (vp_cell cA (n, .inl g))
    rw [h1]
    congr 1
    show arrV cA n (fun j => .int (f j)) = arrV cA n (fun j => .int (g j))
    unfold arrV
    congr 1
    congr 1
    funext j
    exact congrArg _ (h j.val j.isLt)
  · rw [List.getElem?_set_ne (Ne.symm hik)] at hi
    exact hP i q hi
theorem va_P.extL {D : va_G} {cl : List vw_C} {ws : va_W} {H : Heap} (hP : va_P D cl ws H) (k : Nat) {a n : Nat} {cA : ClassId} {f g : Nat → Int64} (hk : ws[k]? = some (a, .inl (cA, n, .inr (.inl f)))) (h : ∀ j, j < n → f j = g j) : va_P D cl (ws.set k (a, .inl (cA, n, .inr (.inl g)))) H := by
  have hl := (List.getElem?_eq_some_iff.mp hk).1
  intro i q hi
  by_cases hik : i = k
  · subst hik
    rw [List.getElem?_set_self hl] at hi
    cases hi
    have h1 : H[a]? = some (vp_cell cA (n, .inr (.inl f))) := hP i _ hk
    show H[a]? = some (vp_cell cA (n, .inr (.inl g)))
    rw [h1]
    congr 1
    show arrV cA n (fun j => .long (f j)) = arrV cA n (fun j => .long (g j))
    unfold arrV
    congr 1
    congr 1
    funext j
    exact congrArg _ (h j.val j.isLt)
  · rw [List.getElem?_set_ne (Ne.symm hik)] at hi
    exact hP i q hi
theorem cpy_all {f g : Nat → Int32} {n : Nat} : ∀ j, j < n → va_cpy f g 0 0 n j = f j := fun j hj => by
  simp [va_cpy, hj]
