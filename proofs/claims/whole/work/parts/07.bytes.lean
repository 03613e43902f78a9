-- ===== the pure words of bytes and sums =====
def fx_g (v b : Int64) : Int64 := (((v ^^^ b) <<< ((nI 37 : Int32).toInt64 &&& 63)) ||| ((v ^^^ b).toUInt64 >>> ((nI 27 : Int32).toInt64.toUInt64 &&& Int64.toUInt64 63)).toInt64) * (-7046029254386353131)
def fx_sm (f : Nat → Int32) (at_ : Nat) : Nat → Int64
  | 0 => 0
  | k + 1 => fx_g (fx_sm f at_ k) (f (at_ + k)).toInt64
def fx_nb (f : Nat → Int32) (at_ : Nat) : Nat → Int64
  | 0 => 0
  | k + 1 => (fx_nb f at_ k <<< ((nI 8 : Int32).toInt64 &&& 63)) ||| (f (at_ + k)).toInt64
def fx_by (v : Int64) (i : Nat) : Int32 := ((v.toUInt64 >>> ((nI (i * 8) : Int32).toInt64.toUInt64 &&& Int64.toUInt64 63)).toInt64).toInt32 &&& nI 255
def fx_add (f : Nat → Int32) (n : Nat) (v : Int64) : Nat → Nat → Int32
  | 0 => f
  | k + 1 => fx_add (upd f n (fx_by v k)) (n + 1) v k
theorem va_cpy0 (f : Nat → Int32) (n : Nat) : va_cpy f f 0 0 n = f := by
  funext j
  simp [va_cpy]
set_option maxHeartbeats 4000000 in
set_option maxRecDepth 100000 in
/-- how many bytes -/
theorem c_X0_size (l : Launch) (D : va_G) (b r : Nat) (cA : ClassId) (cap n : Nat) (f : Nat → Int32) : Met l yX0_size (.code yX0_size bX0_size 1 (some .int) :: GW) (rmL 0 0 0) (va_Pc [.ref b] (pw_P D [(b, .inr (0, [.ref r, .int (nI n)])), (r, .inl (cA, cap, .inl f))] [(cA, .int)])) (pw_Qi (nI n)) 0 0 (fun _ => False) := by
  refine Met.ofW (cc := bX0_size) (maxL := 1) (ret := (some .int)) (by decide) rfl ?_
  intro p e s m args below meth c s₁ B hml hv
  obtain ⟨rfl, hP, hK, hN⟩ := hv
  have hx := B.exec
  have hb := B.bytes
  have hr := B.returns
  have hg : ∀ w ∈ GW, w.before _ s = true := fun w h => atoms_spec (ws := Cond.code yX0_size bX0_size 1 (some .int) :: GW) B.pre w (List.mem_cons_of_mem _ h)
  have hown : s.vm.findClass "FindLog$Bytes" = some m.cls := findClass_of_methodNamed B.named
  have hlocks := B.notSynchronized
  have hS : va_S (fun _ => False) s.heap s.heap [] := va_S.rf
  have hl := lv_entry ([.ref b]) (n := 1) (Nat.le_of_ble_eq_true rfl)
  rw [lg_entry_eq]
  generalize (lg_sl ([.ref b]) ++ List.replicate (1 - (lg_sl ([.ref b])).length) Slot.unset).toArray = ls at hl ⊢
  have hl : lv_has ls 1 [(0, .ref b)] := hl
  refine lv_aload_n hx hb dX0_size_0 rfl (lv_at hl 0 rfl) ?_
  refine va_get (D := D) (ci := 0) (v := .int (nI n)) (C := "FindLog$Bytes") (T := TX0) (N := 2) hx hb hg inX0 hown hK hP 0 rfl rfl 1 (by decide) (hg _ k_51) (fun _ h9 => h9) rfl dX0_size_1 ?_
  exact W.iret (v := (nI n)) hx hb hr (fun t ht hW => ⟨⟨(nI n), (), rfl, rfl, trivial⟩, hS.F ht⟩) (fun q hq => (hS.2.2 q hq).elim) dX0_size_4
set_option maxHeartbeats 4000000 in
set_option maxRecDepth 100000 in
/-- byte j -/
theorem c_X0_get (l : Launch) (D : va_G) (b r : Nat) (cA : ClassId) (cap n : Nat) (f : Nat → Int32) (j : Nat) (hj : j < n) (hn : n ≤ cap) (hc : cap < 2 ^ 31) : Met l yX0_get (.code yX0_get bX0_get 2 (some .int) :: GW) (rmL 0 0 0) (va_Pc [.ref b, .int (nI j)] (pw_P D [(b, .inr (0, [.ref r, .int (nI n)])), (r, .inl (cA, cap, .inl f))] [(cA, .int)])) (pw_Qi (f j)) 0 0 (fun _ => False) := by
  refine Met.ofW (cc := bX0_get) (maxL := 2) (ret := (some .int)) (by decide) rfl ?_
  intro p e s m args below meth c s₁ B hml hv
  obtain ⟨rfl, hP, hK, hN⟩ := hv
  have hx := B.exec
  have hb := B.bytes
  have hr := B.returns
  have hg : ∀ w ∈ GW, w.before _ s = true := fun w h => atoms_spec (ws := Cond.code yX0_get bX0_get 2 (some .int) :: GW) B.pre w (List.mem_cons_of_mem _ h)
  have hown : s.vm.findClass "FindLog$Bytes" = some m.cls := findClass_of_methodNamed B.named
  have hlocks := B.notSynchronized
  have hS : va_S (fun _ => False) s.heap s.heap [] := va_S.rf
  have hl := lv_entry ([.ref b, .int (nI j)]) (n := 2) (Nat.le_of_ble_eq_true rfl)
  rw [lg_entry_eq]
  generalize (lg_sl ([.ref b, .int (nI j)]) ++ List.replicate (2 - (lg_sl ([.ref b, .int (nI j)])).length) Slot.unset).toArray = ls at hl ⊢
  have hl : lv_has ls 2 [(0, .ref b), (1, .int (nI j))] := hl
  refine lv_iload_n hx hb dX0_get_0 rfl (lv_at hl 1 rfl) ?_
  refine lv_if_ltN (tgt := 30) hx hb (by omega) dX0_get_1 (by decide) (fun c_1 => absurd c_1 id) (fun c_1 => ?_)
  refine lv_iload_n hx hb dX0_get_4 rfl (lv_at hl 1 rfl) ?_
  refine lv_aload_n hx hb dX0_get_5 rfl (lv_at hl 0 rfl) ?_
  refine va_get (D := D) (ci := 0) (v := .int (nI n)) (C := "FindLog$Bytes") (T := TX0) (N := 2) hx hb hg inX0 hown hK hP 0 rfl rfl 1 (by decide) (hg _ k_51) (fun _ h9 => h9) rfl dX0_get_6 ?_
  refine lv_icmp_geN (tgt := 30) hx hb (by omega) (by omega) dX0_get_9 (by decide) (fun c_9 => absurd c_9 (by omega)) (fun c_9 => ?_)
  refine lv_iload_n hx hb dX0_get_12 rfl (lv_at hl 1 rfl) ?_
  refine lv_aload_n hx hb dX0_get_13 rfl (lv_at hl 0 rfl) ?_
  refine va_get (D := D) (ci := 0) (v := .ref r) (C := "FindLog$Bytes") (T := TX0) (N := 2) hx hb hg inX0 hown hK hP 0 rfl rfl 0 (by decide) (hg _ k_50) (fun _ h9 => h9) rfl dX0_get_14 ?_
  refine va_alen (v := nI cap) hx hb hK hP 1 0 rfl rfl rfl dX0_get_17 ?_
  refine lv_icmp_geN (tgt := 30) hx hb (by omega) (by omega) dX0_get_18 (by decide) (fun c_18 => absurd c_18 (by omega)) (fun c_18 => ?_)
  refine lv_aload_n hx hb dX0_get_21 rfl (lv_at hl 0 rfl) ?_
  refine va_get (D := D) (ci := 0) (v := .ref r) (C := "FindLog$Bytes") (T := TX0) (N := 2) hx hb hg inX0 hown hK hP 0 rfl rfl 0 (by decide) (hg _ k_50) (fun _ h9 => h9) rfl dX0_get_22 ?_
  refine lv_iload_n hx hb dX0_get_25 rfl (lv_at hl 1 rfl) ?_
  refine va_ialdN hx hb hK hP 1 0 rfl rfl (by omega) (by omega) dX0_get_26 ?_
  refine lv_goto (tgt := 31) hx hb dX0_get_27 (by decide) ?_
  exact W.iret (v := (f j)) hx hb hr (fun t ht hW => ⟨⟨(f j), (), rfl, rfl, trivial⟩, hS.F ht⟩) (fun q hq => (hS.2.2 q hq).elim) dX0_get_31
set_option maxHeartbeats 4000000 in
set_option maxRecDepth 100000 in
/-- byte j becomes x -/
theorem c_X0_set (l : Launch) (D : va_G) (sz : Nat) (b r : Nat) (cA : ClassId) (cap n : Nat) (f : Nat → Int32) (j : Nat) (x : Int32) (hj : j < n) (hn : n ≤ cap) (hc : cap < 2 ^ 31) : Met l yX0_set (.code yX0_set bX0_set 3 none :: GW) (rmL 0 0 0) (va_Pc [.ref b, .int (nI j), .int x] (ww_P D sz [(b, .inr (0, [.ref r, .int (nI n)])), (r, .inl (cA, cap, .inl f))] [(cA, .int)])) (va_Qv (fun (u : Unit) => True) (fun (u : Unit) => ww_B D (va_A [(b, .inr (0, [.ref r, .int (nI n)])), (r, .inl (cA, cap, .inl f))] sz) [(b, .inr (0, [.ref r, .int (nI n)])), (r, .inl (cA, cap, .inl (upd f j x)))] [(cA, .int)]) (va_A [(b, .inr (0, [.ref r, .int (nI n)])), (r, .inl (cA, cap, .inl f))] sz)) 0 0 (va_A [(b, .inr (0, [.ref r, .int (nI n)])), (r, .inl (cA, cap, .inl f))] sz) := by
  refine Met.ofW (cc := bX0_set) (maxL := 3) (ret := none) (by decide) rfl ?_
  intro p e s m args below meth c s₁ B hml hv
  obtain ⟨rfl, hsz, hP, hK, hD0, hN⟩ := hv
  have hx := B.exec
  have hb := B.bytes
  have hr := B.returns
  have hg : ∀ w ∈ GW, w.before _ s = true := fun w h => atoms_spec (ws := Cond.code yX0_set bX0_set 3 none :: GW) B.pre w (List.mem_cons_of_mem _ h)
  have hown : s.vm.findClass "FindLog$Bytes" = some m.cls := findClass_of_methodNamed B.named
  have hlocks := B.notSynchronized
  subst hsz
  have hD := hD0.self (sz := s.heap.size)
  generalize hAe : va_A [(b, .inr (0, [.ref r, .int (nI n)])), (r, .inl (cA, cap, .inl f))] s.heap.size = A at hD ⊢
  have hA : ∀ q : Nat, s.heap.size ≤ q → A q := fun q h => by rw [← hAe]; exact Or.inr h
  have hS : va_S A s.heap s.heap [] := va_S.rf
  have hl := lv_entry ([.ref b, .int (nI j), .int x]) (n := 3) (Nat.le_of_ble_eq_true rfl)
  rw [lg_entry_eq]
  generalize (lg_sl ([.ref b, .int (nI j), .int x]) ++ List.replicate (3 - (lg_sl ([.ref b, .int (nI j), .int x])).length) Slot.unset).toArray = ls at hl ⊢
  have hl : lv_has ls 3 [(0, .ref b), (1, .int (nI j)), (2, .int x)] := hl
  refine lv_iload_n hx hb dX0_set_0 rfl (lv_at hl 1 rfl) ?_
  refine lv_if_ltN (tgt := 28) hx hb (by omega) dX0_set_1 (by decide) (fun c_1 => absurd c_1 id) (fun c_1 => ?_)
  refine lv_iload_n hx hb dX0_set_4 rfl (lv_at hl 1 rfl) ?_
  refine lv_aload_n hx hb dX0_set_5 rfl (lv_at hl 0 rfl) ?_
  refine va_get (D := D) (ci := 0) (v := .int (nI n)) (C := "FindLog$Bytes") (T := TX0) (N := 2) hx hb hg inX0 hown hK hP 0 rfl rfl 1 (by decide) (hg _ k_51) (fun _ h9 => h9) rfl dX0_set_6 ?_
  refine lv_icmp_geN (tgt := 28) hx hb (by omega) (by omega) dX0_set_9 (by decide) (fun c_9 => absurd c_9 (by omega)) (fun c_9 => ?_)
  refine lv_iload_n hx hb dX0_set_12 rfl (lv_at hl 1 rfl) ?_
  refine lv_aload_n hx hb dX0_set_13 rfl (lv_at hl 0 rfl) ?_
  refine va_get (D := D) (ci := 0) (v := .ref r) (C := "FindLog$Bytes") (T := TX0) (N := 2) hx hb hg inX0 hown hK hP 0 rfl rfl 0 (by decide) (hg _ k_50) (fun _ h9 => h9) rfl dX0_set_14 ?_
  refine va_alen (v := nI cap) hx hb hK hP 1 0 rfl rfl rfl dX0_set_17 ?_
  refine lv_icmp_geN (tgt := 28) hx hb (by omega) (by omega) dX0_set_18 (by decide) (fun c_18 => absurd c_18 (by omega)) (fun c_18 => ?_)
  refine lv_aload_n hx hb dX0_set_21 rfl (lv_at hl 0 rfl) ?_
  refine va_get (D := D) (ci := 0) (v := .ref r) (C := "FindLog$Bytes") (T := TX0) (N := 2) hx hb hg inX0 hown hK hP 0 rfl rfl 0 (by decide) (hg _ k_50) (fun _ h9 => h9) rfl dX0_set_22 ?_
  refine lv_iload_n hx hb dX0_set_25 rfl (lv_at hl 1 rfl) ?_
  refine lv_iload_n hx hb dX0_set_26 rfl (lv_at hl 2 rfl) ?_
  refine va_iastN hx hb hK hP hD hS 1 0 rfl rfl (by omega) (by omega) dX0_set_27 (fun H locs hP hD hS => ?_)
  have hP : va_P D vwC [(b, .inr (0, [.ref r, .int (nI n)])), (r, .inl (cA, cap, .inl (upd f j x)))] H := hP
  have hD : va_D A [(b, .inr (0, [.ref r, .int (nI n)])), (r, .inl (cA, cap, .inl (upd f j x)))] := hD
  exact W.vret hx hb hr (fun t ht hW => ⟨⟨(), rfl, trivial, by rw [ht]; exact hP, va_K.moved hW.alike hK, hD⟩, hS.F ht⟩) hS.2.2 dX0_set_28
set_option maxHeartbeats 4000000 in
set_option maxRecDepth 100000 in
/-- a byte behind -/
theorem c_X0_add (l : Launch) (D : va_G) (sz : Nat) (b r : Nat) (cA : ClassId) (cap n : Nat) (f : Nat → Int32) (x : Int32) (hn : n < cap) (hc : cap < 2 ^ 31) : Met l yX0_add (.code yX0_add bX0_add 2 none :: GW) (rmL 0 0 0) (va_Pc [.ref b, .int x] (ww_P D sz [(b, .inr (0, [.ref r, .int (nI n)])), (r, .inl (cA, cap, .inl f))] [(cA, .int)])) (va_Qv (fun (u : Unit) => True) (fun (u : Unit) => ww_B D (va_A [(b, .inr (0, [.ref r, .int (nI n)])), (r, .inl (cA, cap, .inl f))] sz) [(b, .inr (0, [.ref r, .int (nI (n + 1))])), (r, .inl (cA, cap, .inl (upd f n x)))] [(cA, .int)]) (va_A [(b, .inr (0, [.ref r, .int (nI n)])), (r, .inl (cA, cap, .inl f))] sz)) 0 0 (va_A [(b, .inr (0, [.ref r, .int (nI n)])), (r, .inl (cA, cap, .inl f))] sz) := by
  refine Met.ofW (cc := bX0_add) (maxL := 2) (ret := none) (by decide) rfl ?_
  intro p e s m args below meth c s₁ B hml hv
  obtain ⟨rfl, hsz, hP, hK, hD0, hN⟩ := hv
  have hx := B.exec
  have hb := B.bytes
  have hr := B.returns
  have hg : ∀ w ∈ GW, w.before _ s = true := fun w h => atoms_spec (ws := Cond.code yX0_add bX0_add 2 none :: GW) B.pre w (List.mem_cons_of_mem _ h)
  have hown : s.vm.findClass "FindLog$Bytes" = some m.cls := findClass_of_methodNamed B.named
  have hlocks := B.notSynchronized
  subst hsz
  have hD := hD0.self (sz := s.heap.size)
  generalize hAe : va_A [(b, .inr (0, [.ref r, .int (nI n)])), (r, .inl (cA, cap, .inl f))] s.heap.size = A at hD ⊢
  have hA : ∀ q : Nat, s.heap.size ≤ q → A q := fun q h => by rw [← hAe]; exact Or.inr h
  have hS : va_S A s.heap s.heap [] := va_S.rf
  have hl := lv_entry ([.ref b, .int x]) (n := 2) (Nat.le_of_ble_eq_true rfl)
  rw [lg_entry_eq]
  generalize (lg_sl ([.ref b, .int x]) ++ List.replicate (2 - (lg_sl ([.ref b, .int x])).length) Slot.unset).toArray = ls at hl ⊢
  have hl : lv_has ls 2 [(0, .ref b), (1, .int x)] := hl
  refine lv_aload_n hx hb dX0_add_0 rfl (lv_at hl 0 rfl) ?_
  refine va_get (D := D) (ci := 0) (v := .int (nI n)) (C := "FindLog$Bytes") (T := TX0) (N := 2) hx hb hg inX0 hown hK hP 0 rfl rfl 1 (by decide) (hg _ k_51) (fun _ h9 => h9) rfl dX0_add_1 ?_
  refine lv_if_ltN (tgt := 39) hx hb (by omega) dX0_add_4 (by decide) (fun c_4 => absurd c_4 id) (fun c_4 => ?_)
  refine lv_aload_n hx hb dX0_add_7 rfl (lv_at hl 0 rfl) ?_
  refine va_get (D := D) (ci := 0) (v := .int (nI n)) (C := "FindLog$Bytes") (T := TX0) (N := 2) hx hb hg inX0 hown hK hP 0 rfl rfl 1 (by decide) (hg _ k_51) (fun _ h9 => h9) rfl dX0_add_8 ?_
  refine lv_aload_n hx hb dX0_add_11 rfl (lv_at hl 0 rfl) ?_
  refine va_get (D := D) (ci := 0) (v := .ref r) (C := "FindLog$Bytes") (T := TX0) (N := 2) hx hb hg inX0 hown hK hP 0 rfl rfl 0 (by decide) (hg _ k_50) (fun _ h9 => h9) rfl dX0_add_12 ?_
  refine va_alen (v := nI cap) hx hb hK hP 1 0 rfl rfl rfl dX0_add_15 ?_
  refine lv_icmp_geN (tgt := 39) hx hb (by omega) (by omega) dX0_add_16 (by decide) (fun c_16 => absurd c_16 (by omega)) (fun c_16 => ?_)
  refine lv_aload_n hx hb dX0_add_19 rfl (lv_at hl 0 rfl) ?_
  refine va_get (D := D) (ci := 0) (v := .ref r) (C := "FindLog$Bytes") (T := TX0) (N := 2) hx hb hg inX0 hown hK hP 0 rfl rfl 0 (by decide) (hg _ k_50) (fun _ h9 => h9) rfl dX0_add_20 ?_
  refine lv_aload_n hx hb dX0_add_23 rfl (lv_at hl 0 rfl) ?_
  refine va_get (D := D) (ci := 0) (v := .int (nI n)) (C := "FindLog$Bytes") (T := TX0) (N := 2) hx hb hg inX0 hown hK hP 0 rfl rfl 1 (by decide) (hg _ k_51) (fun _ h9 => h9) rfl dX0_add_24 ?_
  refine lv_iload_n hx hb dX0_add_27 rfl (lv_at hl 1 rfl) ?_
  refine va_iastN hx hb hK hP hD hS 1 0 rfl rfl (by omega) (by omega) dX0_add_28 (fun H locs hP hD hS => ?_)
  have hP : va_P D vwC [(b, .inr (0, [.ref r, .int (nI n)])), (r, .inl (cA, cap, .inl (upd f n x)))] H := hP
  have hD : va_D A [(b, .inr (0, [.ref r, .int (nI n)])), (r, .inl (cA, cap, .inl (upd f n x)))] := hD
  refine lv_aload_n hx hb dX0_add_29 rfl (lv_at hl 0 rfl) ?_
  refine lv_dup hx hb dX0_add_30 rfl ?_
  refine va_get (D := D) (ci := 0) (v := .int (nI n)) (C := "FindLog$Bytes") (T := TX0) (N := 2) hx hb hg inX0 hown hK hP 0 rfl rfl 1 (by decide) (hg _ k_51) (fun _ h9 => h9) rfl dX0_add_31 ?_
  refine lv_iconst (v := nI 1) hx hb dX0_add_34 (by decide) ?_
  refine lv_iaddN hx hb dX0_add_35 ?_
  refine va_put (D := D) (ci := 0) (v := .int (nI (n + 1))) (ty := .int) (C := "FindLog$Bytes") (T := TX0) (N := 2) hx hb hg inX0 tyX0 okX0 nmX0 hown hK hP hD hS 0 rfl rfl 1 (by decide) (hg _ k_51) (fun _ h9 => h9) rfl (by decide +kernel) rfl rfl (Nat.le_of_ble_eq_true rfl) dX0_add_36 (fun H locs hP hD hS => ?_)
  have hP : va_P D vwC [(b, .inr (0, [.ref r, .int (nI (n + 1))])), (r, .inl (cA, cap, .inl (upd f n x)))] H := hP
  have hD : va_D A [(b, .inr (0, [.ref r, .int (nI (n + 1))])), (r, .inl (cA, cap, .inl (upd f n x)))] := hD
  exact W.vret hx hb hr (fun t ht hW => ⟨⟨(), rfl, trivial, by rw [ht]; exact hP, va_K.moved hW.alike hK, hD⟩, hS.F ht⟩) hS.2.2 dX0_add_39
set_option maxHeartbeats 4000000 in
set_option maxRecDepth 100000 in
/-- k bytes are left -/
theorem c_X0_shorten (l : Launch) (D : va_G) (sz : Nat) (b r : Nat) (cA : ClassId) (cap n : Nat) (f : Nat → Int32) (k : Nat) (hk : k ≤ n) (hn : n < 2 ^ 31) : Met l yX0_shorten (.code yX0_shorten bX0_shorten 2 none :: GW) (rmL 0 0 0) (va_Pc [.ref b, .int (nI k)] (ww_P D sz [(b, .inr (0, [.ref r, .int (nI n)])), (r, .inl (cA, cap, .inl f))] [(cA, .int)])) (va_Qv (fun (u : Unit) => True) (fun (u : Unit) => ww_B D (va_A [(b, .inr (0, [.ref r, .int (nI n)])), (r, .inl (cA, cap, .inl f))] sz) [(b, .inr (0, [.ref r, .int (nI k)])), (r, .inl (cA, cap, .inl f))] [(cA, .int)]) (va_A [(b, .inr (0, [.ref r, .int (nI n)])), (r, .inl (cA, cap, .inl f))] sz)) 0 0 (va_A [(b, .inr (0, [.ref r, .int (nI n)])), (r, .inl (cA, cap, .inl f))] sz) := by
  refine Met.ofW (cc := bX0_shorten) (maxL := 2) (ret := none) (by decide) rfl ?_
  intro p e s m args below meth c s₁ B hml hv
  obtain ⟨rfl, hsz, hP, hK, hD0, hN⟩ := hv
  have hx := B.exec
  have hb := B.bytes
  have hr := B.returns
  have hg : ∀ w ∈ GW, w.before _ s = true := fun w h => atoms_spec (ws := Cond.code yX0_shorten bX0_shorten 2 none :: GW) B.pre w (List.mem_cons_of_mem _ h)
  have hown : s.vm.findClass "FindLog$Bytes" = some m.cls := findClass_of_methodNamed B.named
  have hlocks := B.notSynchronized
  subst hsz
  have hD := hD0.self (sz := s.heap.size)
  generalize hAe : va_A [(b, .inr (0, [.ref r, .int (nI n)])), (r, .inl (cA, cap, .inl f))] s.heap.size = A at hD ⊢
  have hA : ∀ q : Nat, s.heap.size ≤ q → A q := fun q h => by rw [← hAe]; exact Or.inr h
  have hS : va_S A s.heap s.heap [] := va_S.rf
  have hl := lv_entry ([.ref b, .int (nI k)]) (n := 2) (Nat.le_of_ble_eq_true rfl)
  rw [lg_entry_eq]
  generalize (lg_sl ([.ref b, .int (nI k)]) ++ List.replicate (2 - (lg_sl ([.ref b, .int (nI k)])).length) Slot.unset).toArray = ls at hl ⊢
  have hl : lv_has ls 2 [(0, .ref b), (1, .int (nI k))] := hl
  refine lv_iload_n hx hb dX0_shorten_0 rfl (lv_at hl 1 rfl) ?_
  refine lv_if_ltN (tgt := 17) hx hb (by omega) dX0_shorten_1 (by decide) (fun c_1 => absurd c_1 id) (fun c_1 => ?_)
  refine lv_iload_n hx hb dX0_shorten_4 rfl (lv_at hl 1 rfl) ?_
  refine lv_aload_n hx hb dX0_shorten_5 rfl (lv_at hl 0 rfl) ?_
  refine va_get (D := D) (ci := 0) (v := .int (nI n)) (C := "FindLog$Bytes") (T := TX0) (N := 2) hx hb hg inX0 hown hK hP 0 rfl rfl 1 (by decide) (hg _ k_51) (fun _ h9 => h9) rfl dX0_shorten_6 ?_
  refine lv_icmp_geN (tgt := 17) hx hb (by omega) (by omega) dX0_shorten_9 (by decide) (fun c_9 => ?_) (fun c_9 => ?_)
  · obtain rfl : k = n := by omega
    exact W.vret hx hb hr (fun t ht hW => ⟨⟨(), rfl, trivial, by rw [ht]; exact hP, va_K.moved hW.alike hK, hD⟩, hS.F ht⟩) hS.2.2 dX0_shorten_17
  · refine lv_aload_n hx hb dX0_shorten_12 rfl (lv_at hl 0 rfl) ?_
    refine lv_iload_n hx hb dX0_shorten_13 rfl (lv_at hl 1 rfl) ?_
    refine va_put (D := D) (ci := 0) (v := .int (nI k)) (ty := .int) (C := "FindLog$Bytes") (T := TX0) (N := 2) hx hb hg inX0 tyX0 okX0 nmX0 hown hK hP hD hS 0 rfl rfl 1 (by decide) (hg _ k_51) (fun _ h9 => h9) rfl (by decide +kernel) rfl rfl (Nat.le_of_ble_eq_true rfl) dX0_shorten_14 (fun H locs hP hD hS => ?_)
    have hP : va_P D vwC [(b, .inr (0, [.ref r, .int (nI k)])), (r, .inl (cA, cap, .inl f))] H := hP
    have hD : va_D A [(b, .inr (0, [.ref r, .int (nI k)])), (r, .inl (cA, cap, .inl f))] := hD
    exact W.vret hx hb hr (fun t ht hW => ⟨⟨(), rfl, trivial, by rw [ht]; exact hP, va_K.moved hW.alike hK, hD⟩, hS.F ht⟩) hS.2.2 dX0_shorten_17
set_option maxHeartbeats 4000000 in
set_option maxRecDepth 100000 in
/-- k bytes ahead are dropped -/
theorem c_X0_dropAhead (l : Launch) (D : va_G) (sz : Nat) (b r : Nat) (cA : ClassId) (cap n : Nat) (f : Nat → Int32) (k : Nat) (hk : k ≤ n) (hn : n ≤ cap) (hc : cap < 2 ^ 31) : Met l yX0_dropAhead (.code yX0_dropAhead bX0_dropAhead 2 none :: GW) (rmL 0 0 0) (va_Pc [.ref b, .int (nI k)] (ww_P D sz [(b, .inr (0, [.ref r, .int (nI n)])), (r, .inl (cA, cap, .inl f))] [(cA, .int)])) (va_Qv (fun (u : Unit) => True) (fun (u : Unit) => ww_B D (va_A [(b, .inr (0, [.ref r, .int (nI n)])), (r, .inl (cA, cap, .inl f))] sz) [(b, .inr (0, [.ref r, .int (nI (n - k))])), (r, .inl (cA, cap, .inl (va_cpy f f k 0 (n - k))))] [(cA, .int)]) (va_A [(b, .inr (0, [.ref r, .int (nI n)])), (r, .inl (cA, cap, .inl f))] sz)) 0 0 (va_A [(b, .inr (0, [.ref r, .int (nI n)])), (r, .inl (cA, cap, .inl f))] sz) := by
  refine Met.ofW (cc := bX0_dropAhead) (maxL := 2) (ret := none) (by decide) rfl ?_
  intro p e s m args below meth c s₁ B hml hv
  obtain ⟨rfl, hsz, hP, hK, hD0, hN⟩ := hv
  have hx := B.exec
  have hb := B.bytes
  have hr := B.returns
  have hg : ∀ w ∈ GW, w.before _ s = true := fun w h => atoms_spec (ws := Cond.code yX0_dropAhead bX0_dropAhead 2 none :: GW) B.pre w (List.mem_cons_of_mem _ h)
  have hown : s.vm.findClass "FindLog$Bytes" = some m.cls := findClass_of_methodNamed B.named
  have hlocks := B.notSynchronized
  subst hsz
  have hD := hD0.self (sz := s.heap.size)
  generalize hAe : va_A [(b, .inr (0, [.ref r, .int (nI n)])), (r, .inl (cA, cap, .inl f))] s.heap.size = A at hD ⊢
  have hA : ∀ q : Nat, s.heap.size ≤ q → A q := fun q h => by rw [← hAe]; exact Or.inr h
  have hS : va_S A s.heap s.heap [] := va_S.rf
  have hl := lv_entry ([.ref b, .int (nI k)]) (n := 2) (Nat.le_of_ble_eq_true rfl)
  rw [lg_entry_eq]
  generalize (lg_sl ([.ref b, .int (nI k)]) ++ List.replicate (2 - (lg_sl ([.ref b, .int (nI k)])).length) Slot.unset).toArray = ls at hl ⊢
  have hl : lv_has ls 2 [(0, .ref b), (1, .int (nI k))] := hl
  refine lv_iload_n hx hb dX0_dropAhead_0 rfl (lv_at hl 1 rfl) ?_
  refine lv_if_leN (tgt := 24) hx hb (by omega) dX0_dropAhead_1 (by decide) (fun c_1 => ?_) (fun c_1 => ?_)
  · subst c_1
    have e9 : va_cpy f f 0 0 (n - 0) = f := va_cpy0 f _
    rw [e9]
    exact W.vret hx hb hr (fun t ht hW => ⟨⟨(), rfl, trivial, by rw [ht]; exact hP, va_K.moved hW.alike hK, hD⟩, hS.F ht⟩) hS.2.2 dX0_dropAhead_24
  · refine lv_iload_n hx hb dX0_dropAhead_4 rfl (lv_at hl 1 rfl) ?_
    refine lv_aload_n hx hb dX0_dropAhead_5 rfl (lv_at hl 0 rfl) ?_
    refine va_get (D := D) (ci := 0) (v := .int (nI n)) (C := "FindLog$Bytes") (T := TX0) (N := 2) hx hb hg inX0 hown hK hP 0 rfl rfl 1 (by decide) (hg _ k_51) (fun _ h9 => h9) rfl dX0_dropAhead_6 ?_
    refine lv_icmp_gtN (tgt := 24) hx hb (by omega) (by omega) dX0_dropAhead_9 (by decide) (fun c_9 => absurd c_9 (by omega)) (fun c_9 => ?_)
    refine lv_aload_n hx hb dX0_dropAhead_12 rfl (lv_at hl 0 rfl) ?_
    refine va_get (D := D) (ci := 0) (v := .int (nI n)) (C := "FindLog$Bytes") (T := TX0) (N := 2) hx hb hg inX0 hown hK hP 0 rfl rfl 1 (by decide) (hg _ k_51) (fun _ h9 => h9) rfl dX0_dropAhead_13 ?_
    refine lv_aload_n hx hb dX0_dropAhead_16 rfl (lv_at hl 0 rfl) ?_
    refine va_get (D := D) (ci := 0) (v := .ref r) (C := "FindLog$Bytes") (T := TX0) (N := 2) hx hb hg inX0 hown hK hP 0 rfl rfl 0 (by decide) (hg _ k_50) (fun _ h9 => h9) rfl dX0_dropAhead_17 ?_
    refine va_alen (v := nI cap) hx hb hK hP 1 0 rfl rfl rfl dX0_dropAhead_20 ?_
    refine lv_icmp_leN (tgt := 25) hx hb (by omega) (by omega) dX0_dropAhead_21 (by decide) (fun c_21 => ?_) (fun c_21 => absurd c_21 (by omega))
    refine lv_aload_n hx hb dX0_dropAhead_25 rfl (lv_at hl 0 rfl) ?_
    refine va_get (D := D) (ci := 0) (v := .ref r) (C := "FindLog$Bytes") (T := TX0) (N := 2) hx hb hg inX0 hown hK hP 0 rfl rfl 0 (by decide) (hg _ k_50) (fun _ h9 => h9) rfl dX0_dropAhead_26 ?_
    refine lv_iload_n hx hb dX0_dropAhead_29 rfl (lv_at hl 1 rfl) ?_
    refine lv_aload_n hx hb dX0_dropAhead_30 rfl (lv_at hl 0 rfl) ?_
    refine va_get (D := D) (ci := 0) (v := .ref r) (C := "FindLog$Bytes") (T := TX0) (N := 2) hx hb hg inX0 hown hK hP 0 rfl rfl 0 (by decide) (hg _ k_50) (fun _ h9 => h9) rfl dX0_dropAhead_31 ?_
    refine lv_iconst (v := nI 0) hx hb dX0_dropAhead_34 (by decide) ?_
    refine lv_aload_n hx hb dX0_dropAhead_35 rfl (lv_at hl 0 rfl) ?_
    refine va_get (D := D) (ci := 0) (v := .int (nI n)) (C := "FindLog$Bytes") (T := TX0) (N := 2) hx hb hg inX0 hown hK hP 0 rfl rfl 1 (by decide) (hg _ k_51) (fun _ h9 => h9) rfl dX0_dropAhead_36 ?_
    refine lv_iload_n hx hb dX0_dropAhead_39 rfl (lv_at hl 1 rfl) ?_
    refine lv_isubN hx hb (by omega) dX0_dropAhead_40 ?_
    refine va_copyi (sp := nI k) (dp := nI 0) (n := nI (n - k)) hx hb (hml.trans hl.1.symm) hown (hg _ k_409) (hg _ k_380) (hg _ k_379) (hg _ k_34) hK hP hD hS 1 1 0 0 rfl rfl rfl rfl rfl (nI_pos (by omega)) (nI_pos (by omega)) (nI_pos (by omega)) (by rw [nI_clamp (by omega), nI_clamp (by omega)]; omega) (by rw [nI_clamp (by omega), nI_clamp (by omega)]; omega) (fun _ _ => rfl) (Nat.le_of_ble_eq_true rfl) (Nat.le_of_ble_eq_true rfl) dX0_dropAhead_41 (fun H locs hP hD hS => ?_)
    rw [nI_clamp (by omega : k < 2 ^ 31), nI_clamp (by omega : 0 < 2 ^ 31), nI_clamp (by omega : n - k < 2 ^ 31)] at hP hD
    have hP : va_P D vwC [(b, .inr (0, [.ref r, .int (nI n)])), (r, .inl (cA, cap, .inl (va_cpy f f k 0 (n - k))))] H := hP
    have hD : va_D A [(b, .inr (0, [.ref r, .int (nI n)])), (r, .inl (cA, cap, .inl (va_cpy f f k 0 (n - k))))] := hD
    refine lv_aload_n hx hb dX0_dropAhead_44 rfl (lv_at hl 0 rfl) ?_
    refine lv_dup hx hb dX0_dropAhead_45 rfl ?_
    refine va_get (D := D) (ci := 0) (v := .int (nI n)) (C := "FindLog$Bytes") (T := TX0) (N := 2) hx hb hg inX0 hown hK hP 0 rfl rfl 1 (by decide) (hg _ k_51) (fun _ h9 => h9) rfl dX0_dropAhead_46 ?_
    refine lv_iload_n hx hb dX0_dropAhead_49 rfl (lv_at hl 1 rfl) ?_
    refine lv_isubN hx hb (by omega) dX0_dropAhead_50 ?_
    refine va_put (D := D) (ci := 0) (v := .int (nI (n - k))) (ty := .int) (C := "FindLog$Bytes") (T := TX0) (N := 2) hx hb hg inX0 tyX0 okX0 nmX0 hown hK hP hD hS 0 rfl rfl 1 (by decide) (hg _ k_51) (fun _ h9 => h9) rfl (by decide +kernel) rfl rfl (Nat.le_of_ble_eq_true rfl) dX0_dropAhead_51 (fun H locs hP hD hS => ?_)
    have hP : va_P D vwC [(b, .inr (0, [.ref r, .int (nI (n - k))])), (r, .inl (cA, cap, .inl (va_cpy f f k 0 (n - k))))] H := hP
    have hD : va_D A [(b, .inr (0, [.ref r, .int (nI (n - k))])), (r, .inl (cA, cap, .inl (va_cpy f f k 0 (n - k))))] := hD
    exact W.vret hx hb hr (fun t ht hW => ⟨⟨(), rfl, trivial, by rw [ht]; exact hP, va_K.moved hW.alike hK, hD⟩, hS.F ht⟩) hS.2.2 dX0_dropAhead_54
set_option maxHeartbeats 4000000 in
set_option maxRecDepth 100000 in
/-- one step of a sum -/
theorem c_X4_mixed (l : Launch) (D : va_G) (v b : Int64) : Met l yX4_mixed (.code yX4_mixed bX4_mixed 6 (some .long) :: GW) (rmL 0 0 0) (va_Pc [.long v, .long b] (pw_P D [] [])) (pw_Ql (fx_g v b)) 0 0 (fun _ => False) := by
  refine Met.ofW (cc := bX4_mixed) (maxL := 6) (ret := (some .long)) (by decide) rfl ?_
  intro p e s m args below meth c s₁ B hml hv
  obtain ⟨rfl, hP, hK, hN⟩ := hv
  have hx := B.exec
  have hb := B.bytes
  have hr := B.returns
  have hg : ∀ w ∈ GW, w.before _ s = true := fun w h => atoms_spec (ws := Cond.code yX4_mixed bX4_mixed 6 (some .long) :: GW) B.pre w (List.mem_cons_of_mem _ h)
  have hown : s.vm.findClass "FindLog" = some m.cls := findClass_of_methodNamed B.named
  have hlocks := B.notSynchronized
  have hS : va_S (fun _ => False) s.heap s.heap [] := va_S.rf
  have hl := lv_entry ([.long v, .long b]) (n := 6) (Nat.le_of_ble_eq_true rfl)
  rw [lg_entry_eq]
  generalize (lg_sl ([.long v, .long b]) ++ List.replicate (6 - (lg_sl ([.long v, .long b])).length) Slot.unset).toArray = ls at hl ⊢
  have hl : lv_has ls 6 [(0, .long v), (2, .long b)] := hl
  refine lv_lload_n hx hb dX4_mixed_0 rfl (lv_at hl 0 rfl) ?_
  refine lv_lload_n hx hb dX4_mixed_1 rfl (lv_at hl 1 rfl) ?_
  refine lv_lxor hx hb dX4_mixed_2 ?_
  refine lv_lstore (lv' := [(4, .long (v ^^^ b)), (0, .long v), (2, .long b)]) hx hb dX4_mixed_3 hl (by decide) rfl (fun ls hl => ?_)
  refine lv_lload hx hb dX4_mixed_5 (lv_at hl 0 rfl) ?_
  refine lv_bipush (v := nI 37) hx hb dX4_mixed_7 (by decide) ?_
  refine lv_lshl hx hb dX4_mixed_9 rfl ?_
  refine lv_lload hx hb dX4_mixed_10 (lv_at hl 0 rfl) ?_
  refine lv_bipush (v := nI 27) hx hb dX4_mixed_12 (by decide) ?_
  refine lv_lushr hx hb dX4_mixed_14 rfl ?_
  refine lv_lor hx hb dX4_mixed_15 ?_
  refine lv_ldc2 (v := (-7046029254386353131)) hx hb hown (hg _ k_337) dX4_mixed_16 ?_
  refine lv_lmul hx hb dX4_mixed_19 ?_
  exact W.lret (v := ((((v ^^^ b) <<< (((nI 37) : Int32).toInt64 &&& 63)) ||| ((((v ^^^ b)).toUInt64 >>> (((nI 27) : Int32).toInt64.toUInt64 &&& Int64.toUInt64 63)).toInt64)) * (-7046029254386353131))) hx hb hr (fun t ht hW => ⟨⟨((((v ^^^ b) <<< (((nI 37) : Int32).toInt64 &&& 63)) ||| ((((v ^^^ b)).toUInt64 >>> (((nI 27) : Int32).toInt64.toUInt64 &&& Int64.toUInt64 63)).toInt64)) * (-7046029254386353131)), (), rfl, rfl, trivial⟩, hS.F ht⟩) (fun q hq => (hS.2.2 q hq).elim) dX4_mixed_20
set_option maxHeartbeats 4000000 in
set_option maxRecDepth 100000 in
/-- k bytes from q on as a number -/
theorem c_X0_numberAt (l : Launch) (D : va_G) (b r : Nat) (cA : ClassId) (cap n : Nat) (f : Nat → Int32) (q k : Nat) (hk : q + k ≤ n) (hn : n ≤ cap) (hc : cap < 2 ^ 31) : Met l yX0_numberAt (.code yX0_numberAt bX0_numberAt 6 (some .long) :: GW) (rmL 1 0 0) (va_Pc [.ref b, .int (nI q), .int (nI k)] (pw_P D [(b, .inr (0, [.ref r, .int (nI n)])), (r, .inl (cA, cap, .inl f))] [(cA, .int)])) (pw_Ql (fx_nb f q k)) 0 0 (fun _ => False) := by
  refine Met.ofW (cc := bX0_numberAt) (maxL := 6) (ret := (some .long)) (by decide) rfl ?_
  intro p e s m args below meth c s₁ B hml hv
  obtain ⟨rfl, hP, hK, hN⟩ := hv
  have hx := B.exec
  have hb := B.bytes
  have hr := B.returns
  have hg : ∀ w ∈ GW, w.before _ s = true := fun w h => atoms_spec (ws := Cond.code yX0_numberAt bX0_numberAt 6 (some .long) :: GW) B.pre w (List.mem_cons_of_mem _ h)
  have hown : s.vm.findClass "FindLog$Bytes" = some m.cls := findClass_of_methodNamed B.named
  have hlocks := B.notSynchronized
  have hS : va_S (fun _ => False) s.heap s.heap [] := va_S.rf
  have hl := lv_entry ([.ref b, .int (nI q), .int (nI k)]) (n := 6) (Nat.le_of_ble_eq_true rfl)
  rw [lg_entry_eq]
  generalize (lg_sl ([.ref b, .int (nI q), .int (nI k)]) ++ List.replicate (6 - (lg_sl ([.ref b, .int (nI q), .int (nI k)])).length) Slot.unset).toArray = ls at hl ⊢
  have hl : lv_has ls 6 [(0, .ref b), (1, .int (nI q)), (2, .int (nI k))] := hl
  refine lv_lconst (v := 0) hx hb dX0_numberAt_0 (by decide) ?_
  refine lv_lstore_n (lv' := [(3, .long 0), (0, .ref b), (1, .int (nI q)), (2, .int (nI k))]) hx hb dX0_numberAt_1 rfl hl (by decide) rfl (fun ls hl => ?_)
  refine lv_iconst (v := nI 0) hx hb dX0_numberAt_2 (by decide) ?_
  refine lv_istore (lv' := [(5, .int (nI 0)), (3, .long 0), (0, .ref b), (1, .int (nI q)), (2, .int (nI k))]) hx hb dX0_numberAt_3 hl (by decide) rfl (fun ls hl => ?_)
  have key : ∀ (d : Nat) (i : Nat) (H : Heap) (locs : List Loc) (ls : Array Slot), i + d = k → va_P D vwC [(b, .inr (0, [.ref r, .int (nI n)])), (r, .inl (cA, cap, .inl f))] H → va_S (fun _ => False) s.heap H locs → lv_has ls 6 [(5, .int (nI i)), (3, .long (fx_nb f q i)), (0, .ref b), (1, .int (nI q)), (2, .int (nI k))] → W p l e (rmL 1 0 0) s m ([.ref b, .int (nI q), .int (nI k)] : List Value).toArray below meth c H locs 0 0 (MQ below (pw_Ql (fx_nb f q k)) ([.ref b, .int (nI q), .int (nI k)] : List Value).toArray s 0 0 (fun _ => False)) (F0 m 5 ls []) := by
    intro d
    induction d with
    | zero =>
      intro i H locs ls hd hP hS hl
      refine lv_iload hx hb dX0_numberAt_5 (lv_at hl 0 rfl) ?_
      refine lv_iload_n hx hb dX0_numberAt_7 rfl (lv_at hl 4 rfl) ?_
      refine lv_icmp_geN (tgt := 32) hx hb (by omega) (by omega) dX0_numberAt_8 (by decide) (fun c_8 => ?_) (fun c_8 => absurd c_8 (by omega))
      refine lv_lload_n hx hb dX0_numberAt_32 rfl (lv_at hl 1 rfl) ?_
      obtain rfl : i = k := by omega
      exact W.lret (v := (fx_nb f q i)) hx hb hr (fun t ht hW => ⟨⟨(fx_nb f q i), (), rfl, rfl, trivial⟩, hS.F ht⟩) (fun q hq => (hS.2.2 q hq).elim) dX0_numberAt_33
    | succ d ih =>
      intro i H locs ls hd hP hS hl
      refine lv_iload hx hb dX0_numberAt_5 (lv_at hl 0 rfl) ?_
      refine lv_iload_n hx hb dX0_numberAt_7 rfl (lv_at hl 4 rfl) ?_
      refine lv_icmp_geN (tgt := 32) hx hb (by omega) (by omega) dX0_numberAt_8 (by decide) (fun c_8 => absurd c_8 (by omega)) (fun c_8 => ?_)
      refine lv_lload_n hx hb dX0_numberAt_11 rfl (lv_at hl 1 rfl) ?_
      refine lv_bipush (v := nI 8) hx hb dX0_numberAt_12 (by decide) ?_
      refine lv_lshl hx hb dX0_numberAt_14 rfl ?_
      refine lv_aload_n hx hb dX0_numberAt_15 rfl (lv_at hl 2 rfl) ?_
      refine lv_iload_n hx hb dX0_numberAt_16 rfl (lv_at hl 3 rfl) ?_
      refine lv_iload hx hb dX0_numberAt_17 (lv_at hl 0 rfl) ?_
      refine lv_iaddN hx hb dX0_numberAt_19 ?_
      refine pw_calli (va_runV (As := [.int (nI (q + i))]) (rest := [.long ((fx_nb f q i) <<< (((nI 8) : Int32).toInt64 &&& 63))]) ⟨hx, hb, hml, hown, hg⟩ (c_X0_get l D b r cA cap n f (q + i) (by omega) hn hc) (cwV 1 hg (gw_V k_333 k_326 k_327 k_23 k_328) rfl rfl rfl (by decide +kernel) ⟨Nat.le_of_ble_eq_true rfl, Nat.le_of_ble_eq_true rfl⟩) ⟨pw_blind, va_recv hK hP (ci := 0) (q0 := 0) rfl rfl, pw_pre (hP.sub (ws' := [(b, .inr (0, [.ref r, .int (nI n)])), (r, .inl (cA, cap, .inl f))]) [0, 1] rfl) (hK.sub (tys' := [(cA, .int)]) [0] rfl) hN⟩ rfl rfl hl.1 rfl (lv_room (Nat.le_of_ble_eq_true rfl)) dX0_numberAt_20 ⟨Nat.le_of_ble_eq_true rfl, Nat.le_of_ble_eq_true rfl⟩) hS hP (fun H locs hP hS => ?_)
      refine lv_i2l hx hb dX0_numberAt_23 rfl ?_
      refine lv_lor hx hb dX0_numberAt_24 ?_
      refine lv_lstore_n (lv' := [(3, .long (((fx_nb f q i) <<< (((nI 8) : Int32).toInt64 &&& 63)) ||| (((f (q + i))).toInt64))), (5, .int (nI i)), (0, .ref b), (1, .int (nI q)), (2, .int (nI k))]) hx hb dX0_numberAt_25 rfl hl (by decide) rfl (fun ls hl => ?_)
      refine lv_iincN (x := i) (j := 1) (lv' := [(5, .int (nI (i + 1))), (3, .long (((fx_nb f q i) <<< (((nI 8) : Int32).toInt64 &&& 63)) ||| (((f (q + i))).toInt64))), (0, .ref b), (1, .int (nI q)), (2, .int (nI k))]) hx hb dX0_numberAt_26 hl (k := 1) rfl (by decide) (by decide) rfl (fun ls hl => ?_)
      refine lv_goto (tgt := 5) hx hb dX0_numberAt_29 (by decide) ?_
      exact ih (i + 1) _ _ _ (by omega) hP hS (lv_sub hl [0, 1, 2, 3, 4] rfl)
  exact key k 0 _ _ _ (by omega) hP hS (lv_sub hl [0, 1, 2, 3, 4] rfl)
set_option maxHeartbeats 4000000 in
set_option maxRecDepth 100000 in
/-- the sum over k bytes from q on -/
theorem c_X0_sumOf (l : Launch) (D : va_G) (b r : Nat) (cA : ClassId) (cap n : Nat) (f : Nat → Int32) (q k : Nat) (hk : q + k ≤ n) (hn : n ≤ cap) (hc : cap < 2 ^ 31) : Met l yX0_sumOf (.code yX0_sumOf bX0_sumOf 6 (some .long) :: GW) (rmL 1 0 0) (va_Pc [.ref b, .int (nI q), .int (nI (q + k))] (pw_P D [(b, .inr (0, [.ref r, .int (nI n)])), (r, .inl (cA, cap, .inl f))] [(cA, .int)])) (pw_Ql (fx_sm f q k)) 0 0 (fun _ => False) := by
  refine Met.ofW (cc := bX0_sumOf) (maxL := 6) (ret := (some .long)) (by decide) rfl ?_
  intro p e s m args below meth c s₁ B hml hv
  obtain ⟨rfl, hP, hK, hN⟩ := hv
  have hx := B.exec
  have hb := B.bytes
  have hr := B.returns
  have hg : ∀ w ∈ GW, w.before _ s = true := fun w h => atoms_spec (ws := Cond.code yX0_sumOf bX0_sumOf 6 (some .long) :: GW) B.pre w (List.mem_cons_of_mem _ h)
  have hown : s.vm.findClass "FindLog$Bytes" = some m.cls := findClass_of_methodNamed B.named
  have hlocks := B.notSynchronized
  have hS : va_S (fun _ => False) s.heap s.heap [] := va_S.rf
  have hl := lv_entry ([.ref b, .int (nI q), .int (nI (q + k))]) (n := 6) (Nat.le_of_ble_eq_true rfl)
  rw [lg_entry_eq]
  generalize (lg_sl ([.ref b, .int (nI q), .int (nI (q + k))]) ++ List.replicate (6 - (lg_sl ([.ref b, .int (nI q), .int (nI (q + k))])).length) Slot.unset).toArray = ls at hl ⊢
  have hl : lv_has ls 6 [(0, .ref b), (1, .int (nI q)), (2, .int (nI (q + k)))] := hl
  refine lv_lconst (v := 0) hx hb dX0_sumOf_0 (by decide) ?_
  refine lv_lstore_n (lv' := [(3, .long 0), (0, .ref b), (1, .int (nI q)), (2, .int (nI (q + k)))]) hx hb dX0_sumOf_1 rfl hl (by decide) rfl (fun ls hl => ?_)
  refine lv_iload_n hx hb dX0_sumOf_2 rfl (lv_at hl 2 rfl) ?_
  refine lv_istore (lv' := [(5, .int (nI q)), (3, .long 0), (0, .ref b), (1, .int (nI q)), (2, .int (nI (q + k)))]) hx hb dX0_sumOf_3 hl (by decide) rfl (fun ls hl => ?_)
  have key : ∀ (d : Nat) (i : Nat) (H : Heap) (locs : List Loc) (ls : Array Slot), i + d = k → va_P D vwC [(b, .inr (0, [.ref r, .int (nI n)])), (r, .inl (cA, cap, .inl f))] H → va_S (fun _ => False) s.heap H locs → lv_has ls 6 [(5, .int (nI (q + i))), (3, .long (fx_sm f q i)), (0, .ref b), (1, .int (nI q)), (2, .int (nI (q + k)))] → W p l e (rmL 1 0 0) s m ([.ref b, .int (nI q), .int (nI (q + k))] : List Value).toArray below meth c H locs 0 0 (MQ below (pw_Ql (fx_sm f q k)) ([.ref b, .int (nI q), .int (nI (q + k))] : List Value).toArray s 0 0 (fun _ => False)) (F0 m 5 ls []) := by
    intro d
    induction d with
    | zero =>
      intro i H locs ls hd hP hS hl
      refine lv_iload hx hb dX0_sumOf_5 (lv_at hl 0 rfl) ?_
      refine lv_iload_n hx hb dX0_sumOf_7 rfl (lv_at hl 4 rfl) ?_
      refine lv_icmp_geN (tgt := 29) hx hb (by omega) (by omega) dX0_sumOf_8 (by decide) (fun c_8 => ?_) (fun c_8 => absurd c_8 (by omega))
      refine lv_lload_n hx hb dX0_sumOf_29 rfl (lv_at hl 1 rfl) ?_
      obtain rfl : i = k := by omega
      exact W.lret (v := (fx_sm f q i)) hx hb hr (fun t ht hW => ⟨⟨(fx_sm f q i), (), rfl, rfl, trivial⟩, hS.F ht⟩) (fun q hq => (hS.2.2 q hq).elim) dX0_sumOf_30
    | succ d ih =>
      intro i H locs ls hd hP hS hl
      refine lv_iload hx hb dX0_sumOf_5 (lv_at hl 0 rfl) ?_
      refine lv_iload_n hx hb dX0_sumOf_7 rfl (lv_at hl 4 rfl) ?_
      refine lv_icmp_geN (tgt := 29) hx hb (by omega) (by omega) dX0_sumOf_8 (by decide) (fun c_8 => absurd c_8 (by omega)) (fun c_8 => ?_)
      refine lv_lload_n hx hb dX0_sumOf_11 rfl (lv_at hl 1 rfl) ?_
      refine lv_aload_n hx hb dX0_sumOf_12 rfl (lv_at hl 2 rfl) ?_
      refine lv_iload hx hb dX0_sumOf_13 (lv_at hl 0 rfl) ?_
      refine pw_calli (va_runV (As := [.int (nI (q + i))]) (rest := [.long (fx_sm f q i)]) ⟨hx, hb, hml, hown, hg⟩ (c_X0_get l D b r cA cap n f (q + i) (by omega) hn hc) (cwV 1 hg (gw_V k_333 k_326 k_327 k_23 k_328) rfl rfl rfl (by decide +kernel) ⟨Nat.le_of_ble_eq_true rfl, Nat.le_of_ble_eq_true rfl⟩) ⟨pw_blind, va_recv hK hP (ci := 0) (q0 := 0) rfl rfl, pw_pre (hP.sub (ws' := [(b, .inr (0, [.ref r, .int (nI n)])), (r, .inl (cA, cap, .inl f))]) [0, 1] rfl) (hK.sub (tys' := [(cA, .int)]) [0] rfl) hN⟩ rfl rfl hl.1 rfl (lv_room (Nat.le_of_ble_eq_true rfl)) dX0_sumOf_15 ⟨Nat.le_of_ble_eq_true rfl, Nat.le_of_ble_eq_true rfl⟩) hS hP (fun H locs hP hS => ?_)
      refine lv_i2l hx hb dX0_sumOf_18 rfl ?_
      refine pw_calll (va_runSN (As := [.long (fx_sm f q i), .long ((f (q + i))).toInt64]) (rest := []) ⟨hx, hb, hml, hown, hg⟩ (c_X4_mixed l D (fx_sm f q i) (f (q + i)).toInt64) ⟨va_cnB 2 hg (gw_G (gw_c k_336)) rfl rfl rfl hN.1.2.2 (hg _ k_22) (by decide +kernel) ⟨Nat.le_of_ble_eq_true rfl, Nat.le_of_ble_eq_true rfl⟩, hg _ k_335, trivial⟩ ⟨pw_blind, pw_pre (hP.sub (ws' := []) [] rfl) (hK.sub (tys' := []) [] rfl) hN⟩ rfl rfl hl.1 rfl (lv_room (Nat.le_of_ble_eq_true rfl)) dX0_sumOf_19 ⟨Nat.le_of_ble_eq_true rfl, Nat.le_of_ble_eq_true rfl⟩) hS hP (fun H locs hP hS => ?_)
      refine lv_lstore_n (lv' := [(3, .long (fx_g (fx_sm f q i) (f (q + i)).toInt64)), (5, .int (nI (q + i))), (0, .ref b), (1, .int (nI q)), (2, .int (nI (q + k)))]) hx hb dX0_sumOf_22 rfl hl (by decide) rfl (fun ls hl => ?_)
      refine lv_iincN (x := (q + i)) (j := 1) (lv' := [(5, .int (nI ((q + i) + 1))), (3, .long (fx_g (fx_sm f q i) (f (q + i)).toInt64)), (0, .ref b), (1, .int (nI q)), (2, .int (nI (q + k)))]) hx hb dX0_sumOf_23 hl (k := 1) rfl (by decide) (by decide) rfl (fun ls hl => ?_)
      refine lv_goto (tgt := 5) hx hb dX0_sumOf_26 (by decide) ?_
      exact ih (i + 1) _ _ _ (by omega) hP hS (lv_sub hl [0, 1, 2, 3, 4] rfl)
  exact key k 0 _ _ _ (by omega) hP hS (lv_sub hl [0, 1, 2, 3, 4] rfl)
set_option maxHeartbeats 4000000 in
set_option maxRecDepth 100000 in
/-- k bytes of a number behind, the highest first -/
theorem c_X0_addNumber (l : Launch) (D : va_G) (sz : Nat) (b r : Nat) (cA : ClassId) (cap n : Nat) (f : Nat → Int32) (v : Int64) (k : Nat) (hk : n + k ≤ cap) (hk8 : k ≤ 8) (hc : cap < 2 ^ 31) : Met l yX0_addNumber (.code yX0_addNumber bX0_addNumber 5 none :: GW) (rmL 1 0 0) (va_Pc [.ref b, .long v, .int (nI k)] (ww_P D sz [(b, .inr (0, [.ref r, .int (nI n)])), (r, .inl (cA, cap, .inl f))] [(cA, .int)])) (va_Qv (fun (u : Unit) => True) (fun (u : Unit) => ww_B D (va_A [(b, .inr (0, [.ref r, .int (nI n)])), (r, .inl (cA, cap, .inl f))] sz) [(b, .inr (0, [.ref r, .int (nI (n + k))])), (r, .inl (cA, cap, .inl (fx_add f n v k)))] [(cA, .int)]) (va_A [(b, .inr (0, [.ref r, .int (nI n)])), (r, .inl (cA, cap, .inl f))] sz)) 0 0 (va_A [(b, .inr (0, [.ref r, .int (nI n)])), (r, .inl (cA, cap, .inl f))] sz) := by
  refine Met.ofW (cc := bX0_addNumber) (maxL := 5) (ret := none) (by decide) rfl ?_
  intro p e s m args below meth c s₁ B hml hv
  obtain ⟨rfl, hsz, hP, hK, hD0, hN⟩ := hv
  have hx := B.exec
  have hb := B.bytes
  have hr := B.returns
  have hg : ∀ w ∈ GW, w.before _ s = true := fun w h => atoms_spec (ws := Cond.code yX0_addNumber bX0_addNumber 5 none :: GW) B.pre w (List.mem_cons_of_mem _ h)
  have hown : s.vm.findClass "FindLog$Bytes" = some m.cls := findClass_of_methodNamed B.named
  have hlocks := B.notSynchronized
  subst hsz
  have hD := hD0.self (sz := s.heap.size)
  generalize hAe : va_A [(b, .inr (0, [.ref r, .int (nI n)])), (r, .inl (cA, cap, .inl f))] s.heap.size = A at hD ⊢
  have hA : ∀ q : Nat, s.heap.size ≤ q → A q := fun q h => by rw [← hAe]; exact Or.inr h
  have hS : va_S A s.heap s.heap [] := va_S.rf
  have hl := lv_entry ([.ref b, .long v, .int (nI k)]) (n := 5) (Nat.le_of_ble_eq_true rfl)
  rw [lg_entry_eq]
  generalize (lg_sl ([.ref b, .long v, .int (nI k)]) ++ List.replicate (5 - (lg_sl ([.ref b, .long v, .int (nI k)])).length) Slot.unset).toArray = ls at hl ⊢
  have hl : lv_has ls 5 [(0, .ref b), (1, .long v), (3, .int (nI k))] := hl
  refine lv_iload_n hx hb dX0_addNumber_0 rfl (lv_at hl 2 rfl) ?_
  refine lv_iconst (v := nI 1) hx hb dX0_addNumber_1 (by decide) ?_
  refine lv_isub hx hb dX0_addNumber_2 ?_
  refine lv_istore (lv' := [(4, .int ((nI k) - (nI 1))), (0, .ref b), (1, .long v), (3, .int (nI k))]) hx hb dX0_addNumber_3 hl (by decide) rfl (fun ls hl => ?_)
  have key : ∀ (d : Nat) (n1 : Nat) (f1 : Nat → Int32) (x4 : Int32) (H : Heap) (locs : List Loc) (ls : Array Slot), n1 + d ≤ cap → d ≤ 8 → n1 + d = n + k → fx_add f1 n1 v d = fx_add f n v k → x4 = nI d - nI 1 → va_P D vwC [(b, .inr (0, [.ref r, .int (nI n1)])), (r, .inl (cA, cap, .inl f1))] H → va_D A [(b, .inr (0, [.ref r, .int (nI n1)])), (r, .inl (cA, cap, .inl f1))] → va_S A s.heap H locs → lv_has ls 5 [(4, .int x4), (0, .ref b), (1, .long v), (3, .int (nI k))] → W p l e (rmL 1 0 0) s m ([.ref b, .long v, .int (nI k)] : List Value).toArray below meth c H locs 0 0 (MQ below (va_Qv (fun (u : Unit) => True) (fun (u : Unit) => ww_B D A [(b, .inr (0, [.ref r, .int (nI (n + k))])), (r, .inl (cA, cap, .inl (fx_add f n v k)))] [(cA, .int)]) A) ([.ref b, .long v, .int (nI k)] : List Value).toArray s 0 0 A) (F0 m 5 ls []) := by
    intro d
    induction d with
    | zero =>
      intro n1 f1 x4 H locs ls hb1 hd8 hn1 hf1 hx4 hP hD hS hl
      rw [show nI 0 - nI 1 = (-1 : Int32) from by decide] at hx4
      subst hx4
      have hl : lv_has ls 5 [(4, .int (-1)), (0, .ref b), (1, .long v), (3, .int (nI k))] := hl
      refine lv_iload hx hb dX0_addNumber_5 (lv_at hl 0 rfl) ?_
      refine lv_if_lt (tgt := 32) hx hb dX0_addNumber_7 (by decide) (fun c_7 => ?_) (fun c_7 => absurd c_7 (by decide))
      rw [Nat.add_zero] at hn1
      rw [← hn1, ← hf1]
      exact W.vret hx hb hr (fun t ht hW => ⟨⟨(), rfl, trivial, by rw [ht]; exact hP, va_K.moved hW.alike hK, hD⟩, hS.F ht⟩) hS.2.2 dX0_addNumber_32
    | succ d ih =>
      intro n1 f1 x4 H locs ls hb1 hd8 hn1 hf1 hx4 hP hD hS hl
      rw [show nI (d + 1) - nI 1 = nI d from nI_pred d] at hx4
      subst hx4
      have hl : lv_has ls 5 [(4, .int (nI d)), (0, .ref b), (1, .long v), (3, .int (nI k))] := hl
      refine lv_iload hx hb dX0_addNumber_5 (lv_at hl 0 rfl) ?_
      refine lv_if_ltN (tgt := 32) hx hb (by omega) dX0_addNumber_7 (by decide) (fun c_7 => absurd c_7 id) (fun c_7 => ?_)
      refine lv_aload_n hx hb dX0_addNumber_10 rfl (lv_at hl 1 rfl) ?_
      refine lv_lload_n hx hb dX0_addNumber_11 rfl (lv_at hl 2 rfl) ?_
      refine lv_iload hx hb dX0_addNumber_12 (lv_at hl 0 rfl) ?_
      refine lv_bipush (v := nI 8) hx hb dX0_addNumber_14 (by decide) ?_
      refine lv_imulN hx hb dX0_addNumber_16 ?_
      refine lv_lushr hx hb dX0_addNumber_17 rfl ?_
      refine lv_l2i hx hb dX0_addNumber_18 rfl ?_
      refine lv_sipush (v := nI 255) hx hb dX0_addNumber_19 (by decide) ?_
      refine lv_iand hx hb dX0_addNumber_22 ?_
      refine ww_callv (wr := []) (va_runV (As := [.int ((((((v).toUInt64 >>> (((nI (d * 8)) : Int32).toInt64.toUInt64 &&& Int64.toUInt64 63)).toInt64)).toInt32) &&& (nI 255))]) (rest := []) ⟨hx, hb, hml, hown, hg⟩ (c_X0_add l D H.size b r cA cap n1 f1 ((((((v).toUInt64 >>> (((nI (d * 8)) : Int32).toInt64.toUInt64 &&& Int64.toUInt64 63)).toInt64)).toInt32) &&& (nI 255)) (by omega) hc) (cwV 1 hg (gw_V k_324 k_283 k_284 k_23 k_285) rfl rfl rfl (by decide +kernel) ⟨Nat.le_of_ble_eq_true rfl, Nat.le_of_ble_eq_true rfl⟩) ⟨ww_blind, va_recv hK hP (ci := 0) (q0 := 0) rfl rfl, ww_pre (hP.sub (ws' := [(b, .inr (0, [.ref r, .int (nI n1)])), (r, .inl (cA, cap, .inl f1))]) [0, 1] rfl) (hD.sub (ws' := [(b, .inr (0, [.ref r, .int (nI n1)])), (r, .inl (cA, cap, .inl f1))]) [0, 1] (by decide) rfl) (hK.sub (tys' := [(cA, .int)]) [0] rfl) hN⟩ rfl rfl hl.1 rfl (lv_room (Nat.le_of_ble_eq_true rfl)) dX0_addNumber_23 ⟨Nat.le_of_ble_eq_true rfl, Nat.le_of_ble_eq_true rfl⟩) hS hA hP hD [0, 1] [] rfl rfl (by decide) (by decide) (fun u_ H locs hw hK' hP hD hS => ?_)
      have hP : va_P D vwC [(b, .inr (0, [.ref r, .int (nI (n1 + 1))])), (r, .inl (cA, cap, .inl (upd f1 n1 (fx_by v d))))] H := hP.sub [0, 1] rfl
      have hD : va_D A [(b, .inr (0, [.ref r, .int (nI (n1 + 1))])), (r, .inl (cA, cap, .inl (upd f1 n1 (fx_by v d))))] := hD.sub [0, 1] (by decide) rfl
      refine lv_iinc (v := nI d - nI 1) (lv' := [(4, .int (nI d - nI 1)), (0, .ref b), (1, .long v), (3, .int (nI k))]) hx hb dX0_addNumber_26 hl (k := 0) rfl (ix_m1 _) (by decide) rfl (fun ls hl => ?_)
      refine lv_goto (tgt := 5) hx hb dX0_addNumber_29 (by decide) ?_
      exact ih (n1 + 1) (upd f1 n1 (fx_by v d)) (nI d - nI 1) _ _ _ (by omega) (by omega) (by omega) hf1 rfl hP hD hS (lv_sub hl [0, 1, 2, 3] rfl)
  exact key k n f _ _ _ _ (by omega) hk8 rfl rfl rfl hP hD hS (lv_sub hl [0, 1, 2, 3] rfl)
set_option maxHeartbeats 4000000 in
set_option maxRecDepth 100000 in
/-- a new row of cap bytes -/
theorem c_X0_init (l : Launch) (D : va_G) (sz : Nat) (b : Nat) (cA : ClassId) (cap : Nat) (h0 : 0 < cap) (hc : cap ≤ 2432) : Met l yX0_init (.code yX0_init bX0_init 2 none :: GW) (rmL 0 1 2432) (va_Pc [.ref b, .int (nI cap)] (ww_P D sz [(b, .inr (0, [.null, .int 0]))] [(cA, .int)])) (va_Qv (fun (u_ : Nat) => match u_ with | r => True) (fun (u_ : Nat) => match u_ with | r => ww_B D (va_A [(b, .inr (0, [.null, .int 0]))] sz) [(b, .inr (0, [.ref r, .int (nI 0)])), (r, .inl (cA, cap, .inl (fun _ => 0)))] [(cA, .int)]) (va_A [(b, .inr (0, [.null, .int 0]))] sz)) 1 2432 (va_A [(b, .inr (0, [.null, .int 0]))] sz) := by
  refine Met.ofW (cc := bX0_init) (maxL := 2) (ret := none) (by decide) rfl ?_
  intro p e s m args below meth c s₁ B hml hv
  obtain ⟨rfl, hsz, hP, hK, hD0, hN⟩ := hv
  have hx := B.exec
  have hb := B.bytes
  have hr := B.returns
  have hg : ∀ w ∈ GW, w.before _ s = true := fun w h => atoms_spec (ws := Cond.code yX0_init bX0_init 2 none :: GW) B.pre w (List.mem_cons_of_mem _ h)
  have hown : s.vm.findClass "FindLog$Bytes" = some m.cls := findClass_of_methodNamed B.named
  have hlocks := B.notSynchronized
  have hin : meth.name = "<init>" := (name_of_methodNamed B.named B.method).1
  subst hsz
  have hD := hD0.self (sz := s.heap.size)
  generalize hAe : va_A [(b, .inr (0, [.null, .int 0]))] s.heap.size = A at hD ⊢
  have hA : ∀ q : Nat, s.heap.size ≤ q → A q := fun q h => by rw [← hAe]; exact Or.inr h
  have hS : va_S A s.heap s.heap [] := va_S.rf
  have hl := lv_entry ([.ref b, .int (nI cap)]) (n := 2) (Nat.le_of_ble_eq_true rfl)
  rw [lg_entry_eq]
  generalize (lg_sl ([.ref b, .int (nI cap)]) ++ List.replicate (2 - (lg_sl ([.ref b, .int (nI cap)])).length) Slot.unset).toArray = ls at hl ⊢
  have hl : lv_has ls 2 [(0, .ref b), (1, .int (nI cap))] := hl
  refine lv_aload_n hx hb dX0_init_0 rfl (lv_at hl 0 rfl) ?_
  refine W.objInit hx hb hown (hg _ k_49) (hg _ k_42) (hg _ k_43) rfl (by rw [hml]; exact hl.1) rfl dX0_init_1 (Nat.le_of_ble_eq_true rfl) (Nat.le_of_ble_eq_true rfl) ?_
  refine W.eq (g2 := F0 m 4 ls []) rfl ?_
  refine lv_aload_n hx hb dX0_init_4 rfl (lv_at hl 0 rfl) ?_
  refine lv_iload_n hx hb dX0_init_5 rfl (lv_at hl 1 rfl) ?_
  refine lv_if_leN (tgt := 13) hx hb (by omega) dX0_init_6 (by decide) (fun c_6 => absurd c_6 (by omega)) (fun c_6 => ?_)
  refine lv_iload_n hx hb dX0_init_9 rfl (lv_at hl 1 rfl) ?_
  refine lv_goto (tgt := 14) hx hb dX0_init_10 (by decide) ?_
  refine va_newa (atype := .int) (ty := .int) (N' := cap) (a0 := (cap, .inl (fun _ => 0))) hx hb (hg _ k_57) rfl hK hP hD hS hA (fun _ => rfl) (nI_pos (by omega)) (nI_clamp (by omega)) (by show cap * 4 ≤ 536870912; omega) (Nat.le_of_ble_eq_true rfl) (by show 0 + cap ≤ 2432; omega) dX0_init_14 (fun r c9 H hK9 hP hD hS => ?_)
  have e9 : c9 = cA := kk_int hK9 0 1 rfl rfl (fun _ h => nomatch h)
  rw [e9] at hP hD
  have hP : va_P D vwC [(b, .inr (0, [.null, .int 0])), (r, .inl (cA, cap, .inl (fun _ => 0)))] H := hP
  have hD : va_D A [(b, .inr (0, [.null, .int 0])), (r, .inl (cA, cap, .inl (fun _ => 0)))] := hD
  refine W.widen (k := 1) (n := 2432) (by omega) (by omega) ?_
  refine va_putF (D := D) (ci := 0) (v := .ref r) (ty := (.array .int)) (C := "FindLog$Bytes") (T := TX0) (N := 2) hx hb hg inX0 tyX0 okX0 nmX0 hown hK hP hD hS 0 rfl rfl 0 (by decide) (hg _ k_50) (fun _ h9 => h9) rfl hin rfl (by decide +kernel) rfl rfl (Nat.le_of_ble_eq_true rfl) dX0_init_16 (fun H locs hP hD hS => ?_)
  have hP : va_P D vwC [(b, .inr (0, [.ref r, .int 0])), (r, .inl (cA, cap, .inl (fun _ => 0)))] H := hP
  have hD : va_D A [(b, .inr (0, [.ref r, .int 0])), (r, .inl (cA, cap, .inl (fun _ => 0)))] := hD
  exact W.vret hx hb hr (fun t ht hW => ⟨⟨r, rfl, trivial, by rw [ht]; exact hP, va_K.moved hW.alike hK, hD⟩, hS.F ht⟩) hS.2.2 dX0_init_19
