-- ===== the pure words of bytes and sums =====
def fx_g (v b : Int64) : Int64 := (((v ^^^ b) <<< ((nI 37 : Int32).toInt64 &&& 63)) ||| ((v ^^^ b).toUInt64 >>> ((nI 27 : Int32).toInt64.toUInt64 &&& Int64.toUInt64 63)).toInt64) * (-7046029254386353131)
def fx_sm (f : Nat → Int32) (at_ : Nat) : Nat → Int64
  | 0 => 0
  | k + 1 => fx_g (fx_sm f at_ k) (f (at_ + k)).toInt64
def fx_nb (f : Nat → Int32) (at_ : Nat) : Nat → Int64
  | 0 => 0
  | k + 1 => (fx_nb f at_ k <<< ((nI 8 : Int32).toInt64 &&& 63)) ||| (f (at_ + k)).toInt64
def fx_by (v : Int64) (i : Nat) : Int32 := ((v.toUInt64 >>> ((nI (i * 8) : Int32).toInt64.toUInt64 &&& Int64.toUInt64 63)).toInt64).toInt32 &&& nI 255
def fx_add (f : Nat → Int32) (n : Nat) (v : Int64) : Nat → Nat → Int32
  | 0 => f
  | k + 1 => fx_add (upd f n (fx_by v k)) (n + 1) v k
theorem va_cpy0 (f : Nat → Int32) (n : Nat) : va_cpy f f 0 0 n = f := by
  funext j
  simp [va_cpy]
set_option maxHeartbeats 4000000 in
set_option maxRecDepth 100000 in
/-- how many bytes -/
theorem c_X0_size (l : Launch) (D : va_G) (b r : Nat) (cA : ClassId) (cap n : Nat) (f : Nat → Int32) : Met l yX0_size (.code yX0_size bX0_size 1 (some .int) :: GW) (rmL 0 0 0) (va_Pc [.ref b] (pw_P D [(b, .inr (0, [.ref r, .int (nI n)])), (r, .inl (cA, cap, .inl f))] [(cA, .int)])) (pw_Qi (nI n)) 0 0 (fun _ => False) := by
  refine Met.ofW (cc := bX0_size) (maxL := 1) (ret := (some .int)) (by decide) rfl ?_
  intro p e s m args below meth c s₁ B hml hv
  obtain ⟨rfl, hP, hK, hN⟩ := hv
  have hx := B.exec
  have hb := B.bytes
  have hr := B.returns
  have hg : ∀ w ∈ GW, w.before _ s = true := fun w h => atoms_spec (ws := Cond.code yX0_size bX0_size 1 (some .int) :: GW) B.pre w (List.mem_cons_of_mem _ h)
  have hown : s.vm.findClass "FindLog$Bytes" = some m.cls := findClass_of_methodNamed B.named
  have hlocks := B.notSynchronized
  have hS : va_S (fun _ => False) s.heap s.heap [] := va_S.rf
  have hl := lv_entry ([.ref b]) (n := 1) (Nat.le_of_ble_eq_true rfl)
  rw [lg_entry_eq]
  generalize (lg_sl ([.ref b]) ++ List.replicate (1 - (lg_sl ([.ref b])).length) Slot.unset).toArray = ls at hl ⊢
  have hl : lv_has ls 1 [(0, .ref b)] := hl
  refine lv_aload_n hx hb dX0_size_0 rfl (lv_at hl 0 rfl) ?_
  refine va_get (D := D) (ci := 0) (v := .int (nI n)) (C := "FindLog$Bytes") (T := TX0) (N := 2) hx hb hg inX0 hown hK hP 0 rfl rfl 1 (by decide) (hg _ k_51) (fun _ h9 => h9) rfl dX0_size_1 ?_
  exact W.iret (v := (nI n)) hx hb hr (fun t ht hW => ⟨⟨(nI n), (), rfl, rfl, trivial⟩, hS.F ht⟩) (fun q hq => (hS.2.2 q hq).elim) dX0_size_4
set_option maxHeartbeats 4000000 in
set_option maxRecDepth 100000 in
/-- byte j -/
theorem c_X0_get (l : Launch) (D : va_G) (b r : Nat) (cA : ClassId) (cap n : Nat) (f : Nat → Int32) (j : Nat) (hj : j < n) (hn : n ≤ cap) (hc : cap < 2 ^ 31) : Met l yX0_get (.code yX0_get bX0_get 2 (some .int) :: GW) (rmL 0 0 0) (va_Pc [.ref b, .int (nI j)] (pw_P D [(b, .inr (0, [.ref r, .int (nI n)])), (r, .inl (cA, cap, .inl f))] [(cA, .int)])) (pw_Qi (f j)) 0 0 (fun _ => False) := by
  refine Met.ofW (cc := bX0_get) (maxL := 2) (ret := (some .int)) (by decide) rfl ?_
  intro p e s m args below meth c s₁ B hml hv
  obtain ⟨rfl, hP, hK, hN⟩ := hv
  have hx := B.exec
  have hb := B.bytes
  have hr := B.returns
  have hg : ∀ w ∈ GW, w.before _ s = true := fun w h => atoms_spec (ws := Cond.code yX0_get bX0_get 2 (some .int) :: GW) B.pre w (List.mem_cons_of_mem _ h)
  have hown : s.vm.findClass "FindLog$Bytes" = some m.cls := findClass_of_methodNamed B.named
  have hlocks := B.notSynchronized
  have hS : va_S (fun _ => False) s.heap s.heap [] := va_S.rf
  have hl := lv_entry ([.ref b, .int (nI j)]) (n := 2) (Nat.le_of_ble_eq_true rfl)
  rw [lg_entry_eq]
  generalize (lg_sl ([.ref b, .int (nI j)]) ++ List.replicate (2 - (lg_sl ([.ref b, .int (nI j)])).length) Slot.unset).toArray = ls at hl ⊢
  have hl : lv_has ls 2 [(0, .ref b), (1, .int (nI j))] := hl
  refine lv_iload_n hx hb dX0_get_0 rfl (lv_at hl 1 rfl) ?_
  refine lv_if_ltN (tgt := 30) hx hb (by omega) dX0_get_1 (by decide) (fun c_1 => absurd c_1 id) (fun c_1 => ?_)
  refine lv_iload_n hx hb dX0_get_4 rfl (lv_at hl 1 rfl) ?_
  refine lv_aload_n hx hb dX0_get_5 rfl (lv_at hl 0 rfl) ?_
  refine va_get (D := D) (ci := 0) (v := .int (nI n)) (C := "FindLog$Bytes") (T := TX0) (N := 2) hx hb hg inX0 hown hK hP 0 rfl rfl 1 (by decide) (hg _ k_51) (fun _ h9 => h9) rfl dX0_get_6 ?_
  refine lv_icmp_geN (tgt := 30) hx hb (by omega) (by omega) dX0_get_9 (by decide) (fun c_9 => absurd c_9 (by omega)) (fun c_9 => ?_)
  refine lv_iload_n hx hb dX0_get_12 rfl (lv_at hl 1 rfl) ?_
  refine lv_aload_n hx hb dX0_get_13 rfl (lv_at hl 0 rfl) ?_
  refine va_get (D := D) (ci := 0) (v := .ref r) (C := "FindLog$Bytes") (T := TX0) (N := 2) hx hb hg inX0 hown hK hP 0 rfl rfl 0 (by decide) (hg _ k_50) (fun _ h9 => h9) rfl dX0_get_14 ?_
  refine va_alen (v := nI cap) hx hb hK hP 1 0 rfl rfl rfl dX0_get_17 ?_
  refine lv_icmp_geN (tgt := 30) hx hb (by omega) (by omega) dX0_get_18 (by decide) (fun c_18 => absurd c_18 (by omega)) (fun c_18 => ?_)
  refine lv_aload_n hx hb dX0_get_21 rfl (lv_at hl 0 rfl) ?_
  refine va_get (D := D) (ci := 0) (v := .ref r) (C := "FindLog$Bytes") (T := TX0) (N := 2) hx hb hg inX0 hown hK hP 0 rfl rfl 0 (by decide) (hg _ k_50) (fun _ h9 => h9) rfl dX0_get_22 ?_
  refine lv_iload_n hx hb dX0_get_25 rfl (lv_at hl 1 rfl) ?_
  refine va_ialdN hx hb hK hP 1 0 rfl rfl (by omega) (by omega) dX0_get_26 ?_
  refine lv_goto (tgt := 31) hx hb dX0_get_27 (by decide) ?_
  exact W.iret (v := (f j)) hx hb hr (fun t ht hW => ⟨⟨(f j), (), rfl, rfl, trivial⟩, hS.F ht⟩) (fun q hq => (hS.2.2 q hq).elim) dX0_get_31
set_option maxHeartbeats 4000000 in
set_option maxRecDepth 100000 in
/-- byte j becomes x -/
theorem c_X0_set (l : Launch) (D : va_G) (sz : Nat) (b r : Nat) (cA : ClassId) (cap n : Nat) (f : Nat → Int32) (j : Nat) (x : Int32) (hj : j < n) (hn : n ≤ cap) (hc : cap < 2 ^ 31) : Met l yX0_set (.code yX0_set bX0_set 3 none :: GW) (rmL 0 0 0) (va_Pc [.ref b, .int (nI j), .int x] (ww_P D sz [(b, .inr (0, [.ref r, .int (nI n)])), (r, .inl (cA, cap, .inl f))] [(cA, .int)])) (va_Qv (fun (u : Unit) => True) (fun (u : Unit) => ww_B D (va_A [(b, .inr (0, [.ref r, .int (nI n)])), (r, .inl (cA, cap, .inl f))] sz) [(b, .inr (0, [.ref r, .int (nI n)])), (r, .inl (cA, cap, .inl (upd f j x)))] [(cA, .int)]) (va_A [(b, .inr (0, [.ref r, .int (nI n)])), (r, .inl (cA, cap, .inl f))] sz)) 0 0 (va_A [(b, .inr (0, [.ref r, .int (nI n)])), (r, .inl (cA, cap, .inl f))] sz) := by
  refine Met.ofW (cc := bX0_set) (maxL := 3) (ret := none) (by decide) rfl ?_
  intro p e s m args below meth c s₁ B hml hv
  obtain ⟨rfl, hsz, hP, hK, hD0, hN⟩ := hv
  have hx := B.exec
  have hb := B.bytes
  have hr := B.returns
  have hg : ∀ w ∈ GW, w.before _ s = true := fun w h => atoms_spec (ws := Cond.code yX0_set bX0_set 3 none :: GW) B.pre w (List.mem_cons_of_mem _ h)
  have hown : s.vm.findClass "FindLog$Bytes" = some m.cls := findClass_of_methodNamed B.named
  have hlocks := B.notSynchronized
  subst hsz
  have hD := hD0.self (sz := s.heap.size)
  generalize hAe : va_A [(b, .inr (0, [.ref r, .int (nI n)])), (r, .inl (cA, cap, .inl f))] s.heap.size = A at hD ⊢
  have hA : ∀ q : Nat, s.heap.size ≤ q → A q := fun q h => by rw [← hAe]; exact Or.inr h
  have hS : va_S A s.heap s.heap [] := va_S.rf
  have hl := lv_entry ([.ref b, .int (nI j), .int x]) (n := 3) (Nat.le_of_ble_eq_true rfl)
  rw [lg_entry_eq]
  generalize (lg_sl ([.ref b, .int (nI j), .int x]) ++ List.replicate (3 - (lg_sl ([.ref b, .int (nI j), .int x])).length) Slot.unset).toArray = ls at hl ⊢
  have hl : lv_has ls 3 [(0, .ref b), (1, .int (nI j)), (2, .int x)] := hl
  refine lv_iload_n hx hb dX0_set_0 rfl (lv_at hl 1 rfl) ?_
  refine lv_if_ltN (tgt := 28) hx hb (by omega) dX0_set_1 (by decide) (fun c_1 => absurd c_1 id) (fun c_1 => ?_)
  refine lv_iload_n hx hb dX0_set_4 rfl (lv_at hl 1 rfl) ?_
  refine lv_aload_n hx hb dX0_set_5 rfl (lv_at hl 0 rfl) ?_
  refine va_get (D := D) (ci := 0) (v := .int (nI n)) (C := "FindLog$Bytes") (T := TX0) (N := 2) hx hb hg inX0 hown hK hP 0 rfl rfl 1 (by decide) (hg _ k_51) (fun _ h9 => h9) rfl dX0_set_6 ?_
  refine lv_icmp_geN (tgt := 28) hx hb (by omega) (by omega) dX0_set_9 (by decide) (fun c_9 => absurd c_9 (by omega)) (fun c_9 => ?_)
  refine lv_iload_n hx hb dX0_set_12 rfl (lv_at hl 1 rfl) ?_
  refine lv_aload_n hx hb dX0_set_13 rfl (lv_at hl 0 rfl) ?_
  refine va_get (D := D) (ci := 0) (v := .ref r) (C := "FindLog$Bytes") (T := TX0) (N := 2) hx hb hg inX0 hown hK hP 0 rfl rfl 0 (by decide) (hg _ k_50) (fun _ h9 => h9) rfl dX0_set_14 ?_
  refine va_alen (v := nI cap) hx hb hK hP 1 0 rfl rfl rfl dX0_set_17 ?_
  refine lv_icmp_geN (tgt := 28) hx hb (by omega) (by omega) dX0_set_18 (by decide) (fun c_18 => absurd c_18 (by omega)) (fun c_18 => ?_)
  refine lv_aload_n hx hb dX0_set_21 rfl (lv_at hl 0 rfl) ?_
  refine va_get (D := D) (ci := 0) (v := .ref r) (C := "FindLog$Bytes") (T := TX0) (N := 2) hx hb hg inX0 hown hK hP 0 rfl rfl 0 (by decide) (hg _ k_50) (fun _ h9 => h9) rfl dX0_set_22 ?_
  refine lv_iload_n hx hb dX0_set_25 rfl (lv_at hl 1 rfl) ?_
  refine lv_iload_n hx hb dX0_set_26 rfl (lv_at hl 2 rfl) ?_
  refine va_iastN hx hb hK hP hD hS 1 0 rfl rfl (by omega) (by omega) dX0_set_27 (fun H locs hP hD hS => ?_)
  have hP : va_P D vwC [(b, .inr (0, [.ref r, .int (nI n)])), (r, .inl (cA, cap, .inl (upd f j x)))] H := hP
  have hD : va_D A [(b, .inr (0, [.ref r, .int (nI n)])), (r, .inl (cA, cap, .inl (upd f j x)))] := hD
  exact W.vret hx hb hr (fun t ht hW => ⟨⟨(), rfl, trivial, by rw [ht]; exact hP, va_K.moved hW.alike hK, hD⟩, hS.F ht⟩) hS.2.2 dX0_set_28
set_option maxHeartbeats 4000000 in
set_option maxRecDepth 100000 in
/-- a byte behind -/
theorem c_X0_add (l : Launch) (D : va_G) (sz : Nat) (b r : Nat) (cA : ClassId) (cap n : Nat) (f : Nat → Int32) (x : Int32) (hn : n < cap) (hc : cap < 2 ^ 31) : Met l yX0_add (.code yX0_add bX0_add 2 none :: GW) (rmL 0 0 0) (va_Pc [.ref b, .int x] (ww_P D sz [(b, .inr (0, [.ref r, .int (nI n)])), (r, .inl (cA, cap, .inl f))] [(cA, .int)])) (va_Qv (fun (u : Unit) => True) (fun (u : Unit) => ww_B D (va_A [(b, .inr (0, [.ref r, .int (nI n)])), (r, .inl (cA, cap, .inl f))] sz) [(b, .inr (0, [.ref r, .int (nI (n + 1))])), (r, .inl (cA, cap, .inl (upd f n x)))] [(cA, .int)]) (va_A [(b, .inr (0, [.ref r, .int (nI n)])), (r, .inl (cA, cap, .inl f))] sz)) 0 0 (va_A [(b, .inr (0, [.ref r, .int (nI n)])), (r, .inl (cA, cap, .inl f))] sz) := by
  refine Met.ofW (cc := bX0_add) (maxL := 2) (ret := none) (by decide) rfl ?_
  intro p e s m args below meth c s₁ B hml hv
  obtain ⟨rfl, hsz, hP, hK, hD0, hN⟩ := hv
  have hx := B.exec
  have hb := B.bytes
  have hr := B.returns
  have hg : ∀ w ∈ GW, w.before _ s = true := fun w h => atoms_spec (ws := Cond.code yX0_add bX0_add 2 none :: GW) B.pre w (List.mem_cons_of_mem _ h)
  have hown : s.vm.findClass "FindLog$Bytes" = some m.cls := findClass_of_methodNamed B.named
  have hlocks := B.notSynchronized
  subst hsz
  have hD := hD0.self (sz := s.heap.size)
  generalize hAe : va_A [(b, .inr (0, [.ref r, .int (nI n)])), (r, .inl (cA, cap, .inl f))] s.heap.size = A at hD ⊢
  have hA : ∀ q : Nat, s.heap.size ≤ q → A q := fun q h => by rw [← hAe]; exact Or.inr h
  have hS : va_S A s.heap s.heap [] := va_S.rf
  have hl := lv_entry ([.ref b, .int x]) (n := 2) (Nat.le_of_ble_eq_true rfl)
  rw [lg_entry_eq]
  generalize (lg_sl ([.ref b, .int x]) ++ List.replicate (2 - (lg_sl ([.ref b, .int x])).length) Slot.unset).toArray = ls at hl ⊢
  have hl : lv_has ls 2 [(0, .ref b), (1, .int x)] := hl
  refine lv_aload_n hx hb dX0_add_0 rfl (lv_at hl 0 rfl) ?_
  refine va_get (D := D) (ci := 0) (v := .int (nI n)) (C := "FindLog$Bytes") (T := TX0) (N := 2) hx hb hg inX0 hown hK hP 0 rfl rfl 1 (by decide) (hg _ k_51) (fun _ h9 => h9) rfl dX0_add_1 ?_
  refine lv_if_ltN (tgt := 39) hx hb (by omega) dX0_add_4 (by decide) (fun c_4 => absurd c_4 id) (fun c_4 => ?_)
  refine lv_aload_n hx hb dX0_add_7 rfl (lv_at hl 0 rfl) ?_
  refine va_get (D := D) (ci := 0) (v := .int (nI n)) (C := "FindLog$Bytes") (T := TX0) (N := 2) hx hb hg inX0 hown hK hP 0 rfl rfl 1 (by decide) (hg _ k_51) (fun _ h9 => h9) rfl dX0_add_8 ?_
  refine lv_aload_n hx hb dX0_add_11 rfl (lv_at hl 0 rfl) ?_
  refine va_get (D := D) (ci := 0) (v := .ref r) (C := "FindLog$Bytes") (T := TX0) (N := 2) hx hb hg inX0 hown hK hP 0 rfl rfl 0 (by decide) (hg _ k_50) (fun _ h9 => h9) rfl dX0_add_12 ?_
  refine va_alen (v := nI cap) hx hb hK hP 1 0 rfl rfl rfl dX0_add_15 ?_
  refine lv_icmp_geN (tgt := 39) hx hb (by omega) (by omega) dX0_add_16 (by decide) (fun c_16 => absurd c_16 (by omega)) (fun c_16 => ?_)
  refine lv_aload_n hx hb dX0_add_19 rfl (lv_at hl 0 rfl) ?_
  refine va_get (D := D) (ci := 0) (v := .ref r) (C := "FindLog$Bytes") (T := TX0) (N := 2) hx hb hg inX0 hown hK hP 0 rfl rfl 0 (by decide) (hg _ k_50) (fun _ h9 => h9) rfl dX0_add_20 ?_
  refine lv_aload_n hx hb dX0_add_23 rfl (lv_at hl 0 rfl) ?_
  refine va_get (D := D) (ci := 0) (v := .int (nI n)) (C := "FindLog$Bytes") (T := TX0) (N := 2) hx hb hg inX0 hown hK hP 0 rfl rfl 1 (by decide) (hg _ k_51) (fun _ h9 => h9) rfl dX0_add_24 ?_
  refine lv_iload_n hx hb dX0_add_27 rfl (lv_at hl 1 rfl) ?_
  refine va_iastN hx hb hK hP hD hS 1 0 rfl rfl (by omega) (by omega) dX0_add_28 (fun H locs hP hD hS => ?_)
  have hP : va_P D vwC [(b, .inr (0, [.ref r, .int (nI n)])), (r, .inl (cA, cap, .inl (upd f n x)))] H := hP
  have hD : va_D A [(b, .inr (0, [.ref r, .int (nI n)])), (r, .inl (cA, cap, .inl (upd f n x)))] := hD
  refine lv_aload_n hx hb dX0_add_29 rfl (lv_at hl 0 rfl) ?_
  refine lv_dup hx hb dX0_add_30 rfl ?_
  refine va_get (D := D) (ci := 0) (v := .int (nI n)) (C := "FindLog$Bytes") (T := TX0) (N := 2) hx hb hg inX0 hown hK hP 0 rfl rfl 1 (by decide) (hg _ k_51) (fun _ h9 => h9) rfl dX0_add_31 ?_
  refine lv_iconst (v := nI 1) hx hb dX0_add_34 (by decide) ?_
  refine lv_iaddN hx hb dX0_add_35 ?_
  refine va_put (D := D) (ci := 0) (v := .int (nI (n + 1))) (ty := .int) (C := "FindLog$Bytes") (T := TX0) (N := 2) hx hb hg inX0 tyX0 okX0 nmX0 hown hK hP hD hS 0 rfl rfl 1 (by decide) (hg _ k_51) (fun _ h9 => h9) rfl (by decide +kernel) rfl rfl (Nat.le_of_ble_eq_true rfl) dX0_add_36 (fun H locs hP hD hS => ?_)
  have hP : va_P D vwC [(b, .inr (0, [.ref r, .int (nI (n + 1))])), (r, .inl (cA, cap, .inl (upd f n x)))] H := hP
  have hD : va_D A [(b, .inr (0, [.ref r, .int (nI (n + 1))])), (r, .inl (cA, cap, .inl (upd f n x)))] := hD
  exact W.vret hx hb hr (fun t ht hW => ⟨⟨(), rfl, trivial, by rw [ht]; exact hP, va_K.moved hW.alike hK, hD⟩, hS.F ht⟩) hS.2.2 dX0_add_39
set_option maxHeartbeats 4000000 in
set_option maxRecDepth 100000 in
/-- k bytes are left -/
theorem c_X0_shorten (l : Launch) (D : va_G) (sz : Nat) (b r : Nat) (cA : ClassId) (cap n : Nat) (f : Nat → Int32) (k : Nat) (hk : k ≤ n) (hn : n < 2 ^ 31) : Met l yX0_shorten (.code yX0_shorten bX0_shorten 2 none :: GW) (rmL 0 0 0) (va_Pc [.ref b, .int (nI k)] (ww_P D sz [(b, .inr (0, [.ref r, .int (nI n)])), (r, .inl (cA, cap, .inl f))] [(cA, .int)])) (va_Qv (fun (u : Unit) => True) (fun (u : Unit) => ww_B D (va_A [(b, .inr (0, [.ref r, .int (nI n)])), (r, .inl (cA, cap, .inl f))] sz) [(b, .inr (0, [.ref r, .int (nI k)])), (r, .inl (cA, cap, .inl f))] [(cA, .int)]) (va_A [(b, .inr (0, [.ref r, .int (nI n)])), (r, .inl (cA, cap, .inl f))] sz)) 0 0 (va_A [(b, .inr (0, [.ref r, .int (nI n)])), (r, .inl (cA, cap, .inl f))] sz) := by
  refine Met.ofW (cc := bX0_shorten) (maxL := 2) (ret := none) (by decide) rfl ?_
  intro p e s m args below meth c s₁ B hml hv
  obtain ⟨rfl, hsz, hP, hK, hD0, hN⟩ := hv
  have hx := B.exec
  have hb := B.bytes
  have hr := B.returns
  have hg : ∀ w ∈ GW, w.before _ s = true := fun w h => atoms_spec (ws := Cond.code yX0_shorten bX0_shorten 2 none :: GW) B.pre w (List.mem_cons_of_mem _ h)
  have hown : s.vm.findClass "FindLog$Bytes" = some m.cls := findClass_of_methodNamed B.named
  have hlocks := B.notSynchronized
  subst hsz
  have hD := hD0.self (sz := s.heap.size)
  generalize hAe : va_A [(b, .inr (0, [.ref r, .int (nI n)])), (r, .inl (cA, cap, .inl f))] s.heap.size = A at hD ⊢
  have hA : ∀ q : Nat, s.heap.size ≤ q → A q := fun q h => by rw [← hAe]; exact Or.inr h
  have hS : va_S A s.heap s.heap [] := va_S.rf
  have hl := lv_entry ([.ref b, .int (nI k)]) (n := 2) (Nat.le_of_ble_eq_true rfl)
  rw [lg_entry_eq]
  generalize (lg_sl ([.ref b, .int (nI k)]) ++ List.replicate (2 - (lg_sl ([.ref b, .int (nI k)])).length) Slot.unset).toArray = ls at hl ⊢
  have hl : lv_has ls 2 [(0, .ref b), (1, .int (nI k))] := hl
  refine lv_iload_n hx hb dX0_shorten_0 rfl (lv_at hl 1 rfl) ?_
  refine lv_if_ltN (tgt := 17) hx hb (by omega) dX0_shorten_1 (by decide) (fun c_1 => absurd c_1 id) (fun c_1 => ?_)
  refine lv_iload_n hx hb dX0_shorten_4 rfl (lv_at hl 1 rfl) ?_
  refine lv_aload_n hx hb dX0_shorten_5 rfl (lv_at hl 0 rfl) ?_
  refine va_get (D := D) (ci := 0) (v := .int (nI n)) (C := "FindLog$Bytes") (T := TX0) (N := 2) hx hb hg inX0 hown hK hP 0 rfl rfl 1 (by decide) (hg _ k_51) (fun _ h9 => h9) rfl dX0_shorten_6 ?_
  refine lv_icmp_geN (tgt := 17) hx hb (by omega) (by omega) dX0_shorten_9 (by decide) (fun c_9 => ?_) (fun c_9 => ?_)
  · obtain rfl : k = n := by omega
    exact W.vret hx hb hr (fun t ht hW => ⟨⟨(), rfl, trivial, by rw [ht]; exact hP, va_K.moved hW.alike hK, hD⟩, hS.F ht⟩) hS.2.2 dX0_shorten_17
  · refine lv_aload_n hx hb dX0_shorten_12 rfl (lv_at hl 0 rfl) ?_
    refine lv_iload_n hx hb dX0_shorten_13 rfl (lv_at hl 1 rfl) ?_
    refine va_put (D := D) (ci := 0) (v := .int (nI k)) (ty := .int) (C := "FindLog$Bytes") (T := TX0) (N := 2) hx hb hg inX0 tyX0 okX0 nmX0 hown hK hP hD hS 0 rfl rfl 1 (by decide) (hg _ k_51) (fun _ h9 => h9) rfl (by decide +kernel) rfl rfl (Nat.le_of_ble_eq_true rfl) dX0_shorten_14 (fun H locs hP hD hS => ?_)
    have hP : va_P D vwC [(b, .inr (0, [.ref r, .int (nI k)])), (r, .inl (cA, cap, .inl f))] H := hP
    have hD : va_D A [(b, .inr (0, [.ref r, .int (nI k)])), (r, .inl (cA, cap, .inl f))] := hD
    exact W.vret hx hb hr (fun t ht hW => ⟨⟨(), rfl, trivial, by rw [ht]; exact hP, va_K.moved hW.alike hK, hD⟩, hS.F ht⟩) hS.2.2 dX0_shorten_17
set_option maxHeartbeats 4000000 in
set_option maxRecDepth 100000 in
/-- k bytes ahead are dropped -/
theorem c_X0_dropAhead (l : Launch) (D : va_G) (sz : Nat) (b r : Nat) (cA : ClassId) (cap n : Nat) (f : Nat → Int32) (k : Nat) (hk : k ≤ n) (hn : n ≤ cap) (hc : cap < 2 ^ 31) : Met l yX0_dropAhead (.code yX0_dropAhead bX0_dropAhead 2 none :: GW) (rmL 0 0 0) (va_Pc [.ref b, .int (nI k)] (ww_P D sz [(b, .inr (0, [.ref r, .int (nI n)])), (r, .inl (cA, cap, .inl f))] [(cA, .int)])) (va_Qv (fun (u : Unit) => True) (fun (u : Unit) => ww_B D (va_A [(b, .inr (0, [.ref r, .int (nI n)])), (r, .inl (cA, cap, .inl f))] sz) [(b, .inr (0, [.ref r, .int (nI (n - k))])), (r, .inl (cA, cap, .inl (va_cpy f f k 0 (n - k))))] [(cA, .int)]) (va_A [(b, .inr (0, [.ref r, .int (nI n)])), (r, .inl (cA, cap, .inl f))] sz)) 0 0 (va_A [(b, .inr (0, [.ref r, .int (nI n)])), (r, .inl (cA, cap, .inl f))] sz) := by
  refine Met.ofW (cc := bX0_dropAhead) (maxL := 2) (ret := none) (by decide) rfl ?_
  intro p e s m args below meth c s₁ B hml hv
  obtain ⟨rfl, hsz, hP, hK, hD0, hN⟩ := hv
  have hx := B.exec
  have hb := B.bytes
  have hr := B.returns
  have hg : ∀ w ∈ GW, w.before _ s = true := fun w h => atoms_spec (ws := Cond.code yX0_dropAhead bX0_dropAhead 2 none :: GW) B.pre w (List.mem_cons_of_mem _ h)
  have hown : s.vm.findClass "FindLog$Bytes" = some m.cls := findClass_of_methodNamed B.named
  have hlocks := B.notSynchronized
  subst hsz
  have hD := hD0.self (sz := s.heap.size)
  generalize hAe : va_A [(b, .inr (0, [.ref r, .int (nI n)])), (r, .inl (cA, cap, .inl f))] s.heap.size = A at hD ⊢
  have hA : ∀ q : Nat, s.heap.size ≤ q → A q := fun q h => by rw [← hAe]; exact Or.inr h
  have hS : va_S A s.heap s.heap [] := va_S.rf
  have hl := lv_entry ([.ref b, .int (nI k)]) (n := 2) (Nat.le_of_ble_eq_true rfl)
  rw [lg_entry_eq]
  generalize (lg_sl ([.ref b, .int (nI k)]) ++ List.replicate (2 - (lg_sl ([.ref b, .int (nI k)])).length) Slot.unset).toArray = ls at hl ⊢
  have hl : lv_has ls 2 [(0, .ref b), (1, .int (nI k))] := hl
  refine lv_iload_n hx hb dX0_dropAhead_0 rfl (lv_at hl 1 rfl) ?_
  refine lv_if_leN (tgt := 24) hx hb (by omega) dX0_dropAhead_1 (by decide) (fun c_1 => ?_) (fun c_1 => ?_)
  · subst c_1
    have e9 : va_cpy f f 0 0 (n - 0) = f := va_cpy0 f _
    rw [e9]
    exact W.vret hx hb hr (fun t ht hW => ⟨⟨(), rfl, trivial, by rw [ht]; exact hP, va_K.moved hW.alike hK, hD⟩, hS.F ht⟩) hS.2.2 dX0_dropAhead_24
  · refine lv_iload_n hx hb dX0_dropAhead_4 rfl (lv_at hl 1 rfl) ?_
    refine lv_aload_n hx hb dX0_dropAhead_5 rfl (lv_at hl 0 rfl) ?_
    refine va_get (D := D) (ci := 0) (v := .int (nI n)) (C := "FindLog$Bytes") (T := TX0) (N := 2) hx hb hg inX0 hown hK hP 0 rfl rfl 1 (by decide) (hg _ k_51) (fun _ h9 => h9) rfl dX0_dropAhead_6 ?_
    refine lv_icmp_gtN (tgt := 24) hx hb (by omega) (by omega) dX0_dropAhead_9 (by decide) (fun c_9 => absurd c_9 (by omega)) (fun c_9 => ?_)
    refine lv_aload_n hx hb dX0_dropAhead_12 rfl (lv_at hl 0 rfl) ?_
    refine va_get (D := D) (ci := 0) (v := .int (nI n)) (C := "FindLog$Bytes") (T := TX0) (N := 2) hx hb hg inX0 hown hK hP 0 rfl rfl 1 (by decide) (hg _ k_51) (fun _ h9 => h9) rfl dX0_dropAhead_13 ?_
    refine lv_aload_n hx hb dX0_dropAhead_16 rfl (lv_at hl 0 rfl) ?_
    refine va_get (D := D) (ci := 0) (v := .ref r) (C := "FindLog$Bytes") (T := TX0) (N := 2) hx hb hg inX0 hown hK hP 0 rfl rfl 0 (by decide) (hg _ k_50) (fun _ h9 => h9) rfl dX0_dropAhead_17 ?_
    refine va_alen (v := nI cap) hx hb hK hP 1 0 rfl rfl rfl dX0_dropAhead_20 ?_
    refine lv_icmp_leN (tgt := 25) hx hb (by omega) (by omega) dX0_dropAhead_21 (by decide) (fun c_21 => ?_) (fun c_21 => absurd c_21 (by omega))
    refine lv_aload_n hx hb dX0_dropAhead_25 rfl (lv_at hl 0 rfl) ?_
    refine va_get (D := D) (ci := 0) (v := .ref r) (C := "FindLog$Bytes") (T := TX0) (N := 2) hx hb hg inX0 hown hK hP 0 rfl rfl 0 (by decide) (hg _ k_50) (fun _ h9 => h9) rfl dX0_dropAhead_26 ?_
    refine lv_iload_n hx hb dX0_dropAhead_29 rfl (lv_at hl 1 rfl) ?_
    refine lv_aload_n hx hb dX0_dropAhead_30 rfl (lv_at hl 0 rfl) ?_
    refine va_get (D := D) (ci := 0) (v := .ref r) (C := "FindLog$Bytes") (T := TX0) (N := 2) hx hb hg inX0 hown hK hP 0 rfl rfl 0 (by decide) (hg _ k_50) (fun _ h9 => h9) rfl dX0_dropAhead_31 ?_
    refine lv_iconst (v := nI 0) hx hb dX0_dropAhead_34 (by decide) ?_
    refine lv_aload_n hx hb dX0_dropAhead_35 rfl (lv_at hl 0 rfl) ?_
    refine va_get (D := D) (ci := 0) (v := .int (nI n)) (C := "FindLog$Bytes") (T := TX0) (N := 2) hx hb hg inX0 hown hK hP 0 rfl rfl 1 (by decide) (hg _ k_51) (fun _ h9 => h9) rfl dX0_dropAhead_36 ?_
    refine lv_iload_n hx hb dX0_dropAhead_39 rfl (lv_at hl 1 rfl) ?_
    refine lv_isubN hx hb (by omega) dX0_dropAhead_40 ?_
    refine va_copyi (sp := nI k) (dp := nI 0) (n := nI (n - k)) hx hb (hml.trans hl.1.symm) hown (hg _ k_409) (hg _ k_380) (hg _ k_379) (hg _ k_34) hK hP hD hS 1 1 0 0 rfl rfl rfl rfl rfl (nI_pos (by omega)) (nI_pos (by omega)) (nI_pos (by omega)) (by rw [nI_clamp (by omega), nI_clamp (by omega)]; omega) (by rw [nI_clamp (by omega), nI_clamp (by omega)]; omega) (fun _ _ => rfl) (Nat.le_of_ble_eq_true rfl) (Nat.le_of_ble_eq_true rfl) dX0_dropAhead_41 (fun H locs hP hD hS => ?_)
    rw [nI_clamp (by omega : k < 2 ^ 31), nI_clamp (by omega : 0 < 2 ^ 31), nI_clamp (by omega : n - k < 2 ^ 31)] at hP hD
    have hP : va_P D vwC [(b, .inr (0, [.ref r, .int (nI n)])), (r, .inl (cA, cap, .inl (va_cpy f f k 0 (n - k))))] H := hP
    have hD : va_D A [(b, .inr (0, [.ref r, .int (nI n)])), (r, .inl (cA, cap, .inl (va_cpy f f k 0 (n - k))))] := hD
    refine lv_aload_n hx hb dX0_dropAhead_44 rfl (lv_at hl 0 rfl) ?_
    refine lv_dup hx hb dX0_dropAhead_45 rfl ?_
    refine va_get (D := D) (ci := 0) (v := .int (nI n)) (C := "FindLog$Bytes") (T := TX0) (N := 2) hx hb hg inX0 hown hK hP 0 rfl rfl 1 (by decide) (hg _ k_51) (fun _ h9 => h9) rfl dX0_dropAhead_46 ?_
    refine lv_iload_n hx hb dX0_dropAhead_49 rfl (lv_at hl 1 rfl) ?_
    refine lv_isubN hx hb (by omega) dX0_dropAhead_50 ?_
    refine va_put (D := D) (ci := 0) (v := .int (nI (n - k))) (ty := .int) (C := "FindLog$Bytes") (T := TX0) (N := 2) hx hb hg inX0 tyX0 okX0 nmX0 hown hK hP hD hS 0 rfl rfl 1 (by decide) (hg _ k_51) (fun _ h9 => h9) rfl (by decide +kernel) rfl rfl (Nat.le_of_ble_eq_true rfl) dX0_dropAhead_51 (fun H locs hP hD hS => ?_)
    have hP : va_P D vwC [(b, .inr (0, [.ref r, .int (nI (n - k))])), (r, .inl (cA, cap, .inl (va_cpy f f k 0 (n - k))))] H := hP
    have hD : va_D A [(b, .inr (0, [.ref r, .int (nI (n - k))])), (r, .inl (cA, cap, .inl (va_cpy f f k 0 (n - k))))] := hD
    exact W.vret hx hb hr (fun t ht hW => ⟨⟨(), rfl, trivial, by rw [ht]; exact hP, va_K.moved hW.alike hK, hD⟩, hS.F ht⟩) hS.2.2 dX0_dropAhead_54
