-- ===== a stored act, by the bytes alone =====
def fx_B (f : Nat → Int32) (n : Nat) : Prop := ∀ j, j < n → ∃ x : Nat, x < 256 ∧ f j = nI x
def fx_okc (f : Nat → Int32) (n q th ct : Nat) : Prop := f q = nI th ∧ f (q + 5) = nI ct ∧ q + (14 + ct) ≤ n ∧ th < 32 ∧ fx_nb f (q + 1) 4 ≤ 36500 ∧ ct ≤ 24 ∧ fx_nb f (q + 6 + ct) 8 = fx_sm f q (6 + ct)
def fx_ok (f : Nat → Int32) (n q : Nat) : Prop := ∃ th ct : Nat, fx_okc f n q th ct
def fx_m1 (k : Nat) : Nat → Int32 := fun j => if j < k then -1 else 0
theorem fx_m1_0 : fx_m1 0 = fun _ => 0 := by
  funext j
  simp [fx_m1]
theorem fx_m1_s (k : Nat) : upd (fx_m1 k) k (-1) = fx_m1 (k + 1) := by
  funext j
  by_cases h : j = k
  · simp [upd, fx_m1, h]
  · by_cases h2 : j < k
    · simp [upd, fx_m1, h, h2, Nat.lt_succ_of_lt h2]
    · simp [upd, fx_m1, h, h2, show ¬ j < k + 1 by omega]
/-- k bytes of f from q on, laid into y from a on -/
def fx_kp (y : Nat → Int32) (a : Nat) (f : Nat → Int32) (q : Nat) : Nat → Nat → Int32
  | 0 => y
  | k + 1 => upd (fx_kp y a f q k) (a + k) (f (q + k))
theorem fx_kp_eq (y : Nat → Int32) (a : Nat) (f : Nat → Int32) (q : Nat) : ∀ k, fx_kp y a f q k = va_cpy f y q a k
  | 0 => by
    funext j
    simp [fx_kp, va_cpy, show ¬ (a ≤ j ∧ j < a) by omega]
  | k + 1 => by
    funext j
    rw [fx_kp, fx_kp_eq y a f q k]
    by_cases h : j = a + k
    · subst h
      simp [upd, va_cpy]
    · by_cases h2 : a ≤ j ∧ j < a + k
      · simp [upd, va_cpy, h, h2, show a ≤ j ∧ j < a + (k + 1) by omega]
      · simp [upd, va_cpy, h, h2, show ¬ (a ≤ j ∧ j < a + (k + 1)) by omega]
def pt_d (g y : Nat → Int32) (p : Nat) : Nat → Int32 := fun j => if j % 4 = p then g j else y j
def pt_y (g y : Nat → Int32) (p : Nat) : Nat → Int32 := fun j => if j / 24 % 4 = p then g j else y j
/-- k things of a part: days (or counts), bytes -/
def fx_td (g y : Nat → Int32) (p : Nat) : Nat → Nat → Int32
  | 0 => y
  | k + 1 => upd (fx_td g y p k) (p + 4 * k) (g (p + 4 * k))
def fx_ty (g y : Nat → Int32) (p : Nat) : Nat → Nat → Int32
  | 0 => y
  | k + 1 => va_cpy g (fx_ty g y p k) ((p + 4 * k) * 24) ((p + 4 * k) * 24) 24
theorem fx_td_eq (g y : Nat → Int32) (p : Nat) (hp : p < 4) : ∀ k j, fx_td g y p k j = if j % 4 = p ∧ j < 4 * k then g j else y j
  | 0, j => by simp [fx_td]
  | k + 1, j => by
    rw [fx_td]
    by_cases h : j = p + 4 * k
    · subst h
      simp [upd, show (p + 4 * k) % 4 = p by omega, show p + 4 * k < 4 * (k + 1) by omega]
    · simp only [upd, h, if_false]
      rw [fx_td_eq g y p hp k j]
      by_cases h2 : j % 4 = p
      · simp only [h2, true_and]
        by_cases h3 : j < 4 * k
        · simp [h3, show j < 4 * (k + 1) by omega]
        · simp [h3, show ¬ j < 4 * (k + 1) by omega]
      · simp [h2]
theorem fx_ty_eq (g y : Nat → Int32) (p : Nat) (hp : p < 4) : ∀ k j, fx_ty g y p k j = if j / 24 % 4 = p ∧ j / 24 < 4 * k then g j else y j
  | 0, j => by simp [fx_ty]
  | k + 1, j => by
    rw [fx_ty]
    by_cases h : (p + 4 * k) * 24 ≤ j ∧ j < (p + 4 * k) * 24 + 24
    · have h1 : j / 24 = p + 4 * k := by omega
      simp only [va_cpy, h, and_self, if_true]
      rw [if_pos (by omega)]
      congr 1
      omega
    · simp only [va_cpy, h, if_false]
      rw [fx_ty_eq g y p hp k j]
      by_cases h2 : j / 24 % 4 = p
      · simp only [h2, true_and]
        by_cases h3 : j / 24 < 4 * k
        · rw [if_pos h3, if_pos (by omega)]
        · rw [if_neg h3, if_neg (by omega)]
      · simp [h2]
set_option maxHeartbeats 4000000 in
set_option maxRecDepth 100000 in
/-- StoredAct() -/
theorem c_X3_init (l : Launch) (D : va_G) (sz : Nat) (kI : ClassId) (a : Nat) (x0 x1 x2 : Int32) (x3 : Int64) : Met l yX3_init (.code yX3_init bX3_init 1 none :: GW) (rmL 0 0 0) (va_Pc [.ref a] (ww_P D sz [(a, .inr (3, [.int x0, .int x1, .int x2, .long x3]))] [(kI, .int)])) (va_Qv (fun (u : Unit) => True) (fun (u : Unit) => ww_B D (va_A [(a, .inr (3, [.int x0, .int x1, .int x2, .long x3]))] sz) [(a, .inr (3, [.int x0, .int x1, .int x2, .long x3]))] [(kI, .int)]) (va_A [(a, .inr (3, [.int x0, .int x1, .int x2, .long x3]))] sz)) 0 0 (va_A [(a, .inr (3, [.int x0, .int x1, .int x2, .long x3]))] sz) := by
  refine Met.ofW (cc := bX3_init) (maxL := 1) (ret := none) (by decide) rfl ?_
  intro p e s m args below meth c s₁ B hml hv
  obtain ⟨rfl, hsz, hP, hK, hD0, hN⟩ := hv
  have hx := B.exec
  have hb := B.bytes
  have hr := B.returns
  have hg : ∀ w ∈ GW, w.before _ s = true := fun w h => atoms_spec (ws := Cond.code yX3_init bX3_init 1 none :: GW) B.pre w (List.mem_cons_of_mem _ h)
  have hown : s.vm.findClass "FindLog$StoredAct" = some m.cls := findClass_of_methodNamed B.named
  have hlocks := B.notSynchronized
  have hin : meth.name = "<init>" := (name_of_methodNamed B.named B.method).1
  subst hsz
  have hD := hD0.self (sz := s.heap.size)
  generalize hAe : va_A [(a, .inr (3, [.int x0, .int x1, .int x2, .long x3]))] s.heap.size = A at hD ⊢
  have hA : ∀ q : Nat, s.heap.size ≤ q → A q := fun q h => by rw [← hAe]; exact Or.inr h
  have hS : va_S A s.heap s.heap [] := va_S.rf
  have hl := lv_entry ([.ref a]) (n := 1) (Nat.le_of_ble_eq_true rfl)
  rw [lg_entry_eq]
  generalize (lg_sl ([.ref a]) ++ List.replicate (1 - (lg_sl ([.ref a])).length) Slot.unset).toArray = ls at hl ⊢
  have hl : lv_has ls 1 [(0, .ref a)] := hl
  refine lv_aload_n hx hb dX3_init_0 rfl (lv_at hl 0 rfl) ?_
  refine W.objInit hx hb hown (hg _ k_79) (hg _ k_42) (hg _ k_43) rfl (by rw [hml]; exact hl.1) rfl dX3_init_1 (Nat.le_of_ble_eq_true rfl) (Nat.le_of_ble_eq_true rfl) ?_
  refine W.eq (g2 := F0 m 4 ls []) rfl ?_
  exact W.vret hx hb hr (fun t ht hW => ⟨⟨(), rfl, trivial, by rw [ht]; exact hP, va_K.moved hW.alike hK, hD⟩, hS.F ht⟩) hS.2.2 dX3_init_4
set_option maxHeartbeats 4000000 in
set_option maxRecDepth 100000 in
/-- how long the act is -/
theorem c_X3_length (l : Launch) (D : va_G) (kI : ClassId) (a : Nat) (x0 x1 : Int32) (ct : Nat) (x3 : Int64) : Met l yX3_length (.code yX3_length bX3_length 1 (some .int) :: GW) (rmL 0 0 0) (va_Pc [.ref a] (pw_P D [(a, .inr (3, [.int x0, .int x1, .int (nI ct), .long x3]))] [(kI, .int)])) (pw_Qi (nI (14 + ct))) 0 0 (fun _ => False) := by
  refine Met.ofW (cc := bX3_length) (maxL := 1) (ret := (some .int)) (by decide) rfl ?_
  intro p e s m args below meth c s₁ B hml hv
  obtain ⟨rfl, hP, hK, hN⟩ := hv
  have hx := B.exec
  have hb := B.bytes
  have hr := B.returns
  have hg : ∀ w ∈ GW, w.before _ s = true := fun w h => atoms_spec (ws := Cond.code yX3_length bX3_length 1 (some .int) :: GW) B.pre w (List.mem_cons_of_mem _ h)
  have hown : s.vm.findClass "FindLog$StoredAct" = some m.cls := findClass_of_methodNamed B.named
  have hlocks := B.notSynchronized
  have hS : va_S (fun _ => False) s.heap s.heap [] := va_S.rf
  have hl := lv_entry ([.ref a]) (n := 1) (Nat.le_of_ble_eq_true rfl)
  rw [lg_entry_eq]
  generalize (lg_sl ([.ref a]) ++ List.replicate (1 - (lg_sl ([.ref a])).length) Slot.unset).toArray = ls at hl ⊢
  have hl : lv_has ls 1 [(0, .ref a)] := hl
  refine lv_bipush (v := nI 14) hx hb dX3_length_0 (by decide) ?_
  refine lv_aload_n hx hb dX3_length_2 rfl (lv_at hl 0 rfl) ?_
  refine va_get (D := D) (ci := 3) (v := .int (nI ct)) (C := "FindLog$StoredAct") (T := TX3) (N := 4) hx hb hg inX3 hown hK hP 0 rfl rfl 2 (by decide) (hg _ k_84) (fun _ h9 => h9) rfl dX3_length_3 ?_
  refine lv_iaddN hx hb dX3_length_6 ?_
  exact W.iret (v := (nI (14 + ct))) hx hb hr (fun t ht hW => ⟨⟨(nI (14 + ct)), (), rfl, rfl, trivial⟩, hS.F ht⟩) (fun q hq => (hS.2.2 q hq).elim) dX3_length_7
set_option maxHeartbeats 4000000 in
set_option maxRecDepth 100000 in
/-- a whole act -/
theorem c_X3_whole (l : Launch) (D : va_G) (sz : Nat) (kI : ClassId) (b r cap n : Nat) (f : Nat → Int32) (a : Nat) (x0 x1 x2 : Int32) (x3 : Int64) (q : Nat) (th ct : Nat) (ho : fx_okc f n q th ct) (hn : n ≤ cap) (hc : cap < 2 ^ 30) : Met l yX3_isWholeAt (.code yX3_isWholeAt bX3_isWholeAt 7 (some .boolean) :: GW) (rmL 2 0 0) (va_Pc [.ref a, .ref b, .int (nI q)] (ww_P D sz [(a, .inr (3, [.int x0, .int x1, .int x2, .long x3])), (b, .inr (0, [.ref r, .int (nI n)])), (r, .inl (kI, cap, .inl f))] [(kI, .int)])) (va_Qi (fun (r : Int32) (u : Unit) => r = nI 1) (fun (u : Unit) => ww_B D (va_A [(a, .inr (3, [.int x0, .int x1, .int x2, .long x3])), (b, .inr (0, [.ref r, .int (nI n)])), (r, .inl (kI, cap, .inl f))] sz) [(a, .inr (3, [.int (nI th), .int (fx_nb f (q + 1) 4).toInt32, .int (nI ct), .long (fx_nb f (q + 6 + ct) 8)])), (b, .inr (0, [.ref r, .int (nI n)])), (r, .inl (kI, cap, .inl f))] [(kI, .int)]) (va_A [(a, .inr (3, [.int x0, .int x1, .int x2, .long x3])), (b, .inr (0, [.ref r, .int (nI n)])), (r, .inl (kI, cap, .inl f))] sz)) 0 0 (va_A [(a, .inr (3, [.int x0, .int x1, .int x2, .long x3])), (b, .inr (0, [.ref r, .int (nI n)])), (r, .inl (kI, cap, .inl f))] sz) := by
  refine Met.ofW (cc := bX3_isWholeAt) (maxL := 7) (ret := (some .boolean)) (by decide) rfl ?_
  intro p e s m args below meth c s₁ B hml hv
  obtain ⟨rfl, hsz, hP, hK, hD0, hN⟩ := hv
  have hx := B.exec
  have hb := B.bytes
  have hr := B.returns
  have hg : ∀ w ∈ GW, w.before _ s = true := fun w h => atoms_spec (ws := Cond.code yX3_isWholeAt bX3_isWholeAt 7 (some .boolean) :: GW) B.pre w (List.mem_cons_of_mem _ h)
  have hown : s.vm.findClass "FindLog$StoredAct" = some m.cls := findClass_of_methodNamed B.named
  have hlocks := B.notSynchronized
  subst hsz
  have hD := hD0.self (sz := s.heap.size)
  generalize hAe : va_A [(a, .inr (3, [.int x0, .int x1, .int x2, .long x3])), (b, .inr (0, [.ref r, .int (nI n)])), (r, .inl (kI, cap, .inl f))] s.heap.size = A at hD ⊢
  have hA : ∀ q : Nat, s.heap.size ≤ q → A q := fun q h => by rw [← hAe]; exact Or.inr h
  have hS : va_S A s.heap s.heap [] := va_S.rf
  have hl := lv_entry ([.ref a, .ref b, .int (nI q)]) (n := 7) (Nat.le_of_ble_eq_true rfl)
  rw [lg_entry_eq]
  generalize (lg_sl ([.ref a, .ref b, .int (nI q)]) ++ List.replicate (7 - (lg_sl ([.ref a, .ref b, .int (nI q)])).length) Slot.unset).toArray = ls at hl ⊢
  have hl : lv_has ls 7 [(0, .ref a), (1, .ref b), (2, .int (nI q))] := hl
  obtain ⟨hth, hct, h1, h2, h3, h4, h5⟩ := ho
  have hc' : cap < 2 ^ 31 := by omega
  refine lv_aload_n hx hb dX3_isWholeAt_0 rfl (lv_at hl 1 rfl) ?_
  refine pw_calli (va_runV (As := []) (rest := []) ⟨hx, hb, hml, hown, hg⟩ (c_X0_size l D b r kI cap n f) (cwV 0 hg (gw_V k_421 k_278 k_279 k_23 k_280) rfl rfl rfl (by decide +kernel) ⟨Nat.le_of_ble_eq_true rfl, Nat.le_of_ble_eq_true rfl⟩) ⟨pw_blind, va_recv hK hP (ci := 0) (q0 := 1) rfl rfl, pw_pre (hP.sub (ws' := [(b, .inr (0, [.ref r, .int (nI n)])), (r, .inl (kI, cap, .inl f))]) [1, 2] rfl) (hK.sub (tys' := [(kI, .int)]) [0] rfl) hN⟩ rfl rfl hl.1 rfl (lv_room (Nat.le_of_ble_eq_true rfl)) dX3_isWholeAt_1 ⟨Nat.le_of_ble_eq_true rfl, Nat.le_of_ble_eq_true rfl⟩) hS hP (fun H locs hP hS => ?_)
  refine lv_iload_n hx hb dX3_isWholeAt_4 rfl (lv_at hl 2 rfl) ?_
  refine lv_isubN hx hb (by omega) dX3_isWholeAt_5 ?_
  refine lv_istore_n (lv' := [(3, .int (nI (n - q))), (0, .ref a), (1, .ref b), (2, .int (nI q))]) hx hb dX3_isWholeAt_6 rfl hl (by decide) rfl (fun ls hl => ?_)
  refine lv_iload_n hx hb dX3_isWholeAt_7 rfl (lv_at hl 3 rfl) ?_
  refine lv_if_ltN (tgt := 17) hx hb (by omega) dX3_isWholeAt_8 (by decide) (fun c_8 => absurd c_8 id) (fun c_8 => ?_)
  refine lv_iload_n hx hb dX3_isWholeAt_11 rfl (lv_at hl 0 rfl) ?_
  refine lv_bipush (v := nI 14) hx hb dX3_isWholeAt_12 (by decide) ?_
  refine lv_icmp_geN (tgt := 19) hx hb (by omega) (by omega) dX3_isWholeAt_14 (by decide) (fun c_14 => ?_) (fun c_14 => absurd c_14 (by omega))
  refine lv_aload_n hx hb dX3_isWholeAt_19 rfl (lv_at hl 2 rfl) ?_
  refine lv_iload_n hx hb dX3_isWholeAt_20 rfl (lv_at hl 3 rfl) ?_
  refine lv_iconst (v := nI 1) hx hb dX3_isWholeAt_21 (by decide) ?_
  refine lv_iaddN hx hb dX3_isWholeAt_22 ?_
  refine lv_iconst (v := nI 4) hx hb dX3_isWholeAt_23 (by decide) ?_
  refine pw_calll (va_runV (As := [.int (nI (q + 1)), .int (nI 4)]) (rest := []) ⟨hx, hb, hml, hown, hg⟩ (c_X0_numberAt l D b r kI cap n f (q + 1) 4 (by omega) hn hc') (cwV 2 hg (gw_V k_422 k_423 k_424 k_23 k_425) rfl rfl rfl (by decide +kernel) ⟨Nat.le_of_ble_eq_true rfl, Nat.le_of_ble_eq_true rfl⟩) ⟨pw_blind, va_recv hK hP (ci := 0) (q0 := 1) rfl rfl, pw_pre (hP.sub (ws' := [(b, .inr (0, [.ref r, .int (nI n)])), (r, .inl (kI, cap, .inl f))]) [1, 2] rfl) (hK.sub (tys' := [(kI, .int)]) [0] rfl) hN⟩ rfl rfl hl.1 rfl (lv_room (Nat.le_of_ble_eq_true rfl)) dX3_isWholeAt_24 ⟨Nat.le_of_ble_eq_true rfl, Nat.le_of_ble_eq_true rfl⟩) hS hP (fun H locs hP hS => ?_)
  refine lv_lstore (lv' := [(4, .long (fx_nb f (q + 1) 4)), (3, .int (nI (n - q))), (0, .ref a), (1, .ref b), (2, .int (nI q))]) hx hb dX3_isWholeAt_27 hl (by decide) rfl (fun ls hl => ?_)
  refine lv_aload_n hx hb dX3_isWholeAt_29 rfl (lv_at hl 2 rfl) ?_
  refine lv_aload_n hx hb dX3_isWholeAt_30 rfl (lv_at hl 3 rfl) ?_
  refine lv_iload_n hx hb dX3_isWholeAt_31 rfl (lv_at hl 4 rfl) ?_
  refine pw_calli (va_runV (As := [.int (nI q)]) (rest := [.ref a]) ⟨hx, hb, hml, hown, hg⟩ (c_X0_get l D b r kI cap n f q (by omega) hn hc') (cwV 1 hg (gw_V k_426 k_326 k_327 k_23 k_328) rfl rfl rfl (by decide +kernel) ⟨Nat.le_of_ble_eq_true rfl, Nat.le_of_ble_eq_true rfl⟩) ⟨pw_blind, va_recv hK hP (ci := 0) (q0 := 1) rfl rfl, pw_pre (hP.sub (ws' := [(b, .inr (0, [.ref r, .int (nI n)])), (r, .inl (kI, cap, .inl f))]) [1, 2] rfl) (hK.sub (tys' := [(kI, .int)]) [0] rfl) hN⟩ rfl rfl hl.1 rfl (lv_room (Nat.le_of_ble_eq_true rfl)) dX3_isWholeAt_32 ⟨Nat.le_of_ble_eq_true rfl, Nat.le_of_ble_eq_true rfl⟩) hS hP (fun H locs hP hS => ?_)
  rw [hth]
  refine va_put (D := D) (ci := 3) (v := .int (nI th)) (ty := .int) (C := "FindLog$StoredAct") (T := TX3) (N := 4) hx hb hg inX3 tyX3 okX3 nmX3 hown hK hP hD hS 0 rfl rfl 0 (by decide) (hg _ k_80) (fun _ h9 => h9) rfl (by decide +kernel) rfl rfl (Nat.le_of_ble_eq_true rfl) dX3_isWholeAt_35 (fun H locs hP hD hS => ?_)
  have hP : va_P D vwC [(a, .inr (3, [.int (nI th), .int x1, .int x2, .long x3])), (b, .inr (0, [.ref r, .int (nI n)])), (r, .inl (kI, cap, .inl f))] H := hP
  have hD : va_D A [(a, .inr (3, [.int (nI th), .int x1, .int x2, .long x3])), (b, .inr (0, [.ref r, .int (nI n)])), (r, .inl (kI, cap, .inl f))] := hD
  refine lv_aload_n hx hb dX3_isWholeAt_38 rfl (lv_at hl 2 rfl) ?_
  refine lv_aload_n hx hb dX3_isWholeAt_39 rfl (lv_at hl 3 rfl) ?_
  refine lv_iload_n hx hb dX3_isWholeAt_40 rfl (lv_at hl 4 rfl) ?_
  refine lv_bipush (v := nI 6) hx hb dX3_isWholeAt_41 (by decide) ?_
  refine lv_iaddN hx hb dX3_isWholeAt_43 ?_
  refine lv_iconst (v := nI 1) hx hb dX3_isWholeAt_44 (by decide) ?_
  refine lv_isubN hx hb (by omega) dX3_isWholeAt_45 ?_
  rw [show nI ((q + 6) - 1) = nI (q + 5) from sx_i _ _ (by omega)]
  refine pw_calli (va_runV (As := [.int (nI (q + 5))]) (rest := [.ref a]) ⟨hx, hb, hml, hown, hg⟩ (c_X0_get l D b r kI cap n f (q + 5) (by omega) hn hc') (cwV 1 hg (gw_V k_426 k_326 k_327 k_23 k_328) rfl rfl rfl (by decide +kernel) ⟨Nat.le_of_ble_eq_true rfl, Nat.le_of_ble_eq_true rfl⟩) ⟨pw_blind, va_recv hK hP (ci := 0) (q0 := 1) rfl rfl, pw_pre (hP.sub (ws' := [(b, .inr (0, [.ref r, .int (nI n)])), (r, .inl (kI, cap, .inl f))]) [1, 2] rfl) (hK.sub (tys' := [(kI, .int)]) [0] rfl) hN⟩ rfl rfl hl.1 rfl (lv_room (Nat.le_of_ble_eq_true rfl)) dX3_isWholeAt_46 ⟨Nat.le_of_ble_eq_true rfl, Nat.le_of_ble_eq_true rfl⟩) hS hP (fun H locs hP hS => ?_)
  rw [hct]
  refine va_put (D := D) (ci := 3) (v := .int (nI ct)) (ty := .int) (C := "FindLog$StoredAct") (T := TX3) (N := 4) hx hb hg inX3 tyX3 okX3 nmX3 hown hK hP hD hS 0 rfl rfl 2 (by decide) (hg _ k_84) (fun _ h9 => h9) rfl (by decide +kernel) rfl rfl (Nat.le_of_ble_eq_true rfl) dX3_isWholeAt_49 (fun H locs hP hD hS => ?_)
  have hP : va_P D vwC [(a, .inr (3, [.int (nI th), .int x1, .int (nI ct), .long x3])), (b, .inr (0, [.ref r, .int (nI n)])), (r, .inl (kI, cap, .inl f))] H := hP
  have hD : va_D A [(a, .inr (3, [.int (nI th), .int x1, .int (nI ct), .long x3])), (b, .inr (0, [.ref r, .int (nI n)])), (r, .inl (kI, cap, .inl f))] := hD
  refine lv_aload_n hx hb dX3_isWholeAt_52 rfl (lv_at hl 2 rfl) ?_
  refine va_get (D := D) (ci := 3) (v := .int (nI th)) (C := "FindLog$StoredAct") (T := TX3) (N := 4) hx hb hg inX3 hown hK hP 0 rfl rfl 0 (by decide) (hg _ k_80) (fun _ h9 => h9) rfl dX3_isWholeAt_53 ?_
  refine lv_bipush (v := nI 32) hx hb dX3_isWholeAt_56 (by decide) ?_
  refine lv_icmp_geN (tgt := 87) hx hb (by omega) (by omega) dX3_isWholeAt_58 (by decide) (fun c_58 => absurd c_58 (by omega)) (fun c_58 => ?_)
  refine lv_lload hx hb dX3_isWholeAt_61 (lv_at hl 0 rfl) ?_
  refine lv_ldc2 (v := 36500) hx hb hown (hg _ k_427) dX3_isWholeAt_63 ?_
  refine W.lcmp hx hb dX3_isWholeAt_66 ?_
  refine lv_if_gt (tgt := 87) hx hb dX3_isWholeAt_67 (by decide) (fun c_67 => absurd c_67 (fun h9 => absurd ((lg_cmp_gt _ _).mp h9) (Int64.not_lt.mpr h3))) (fun c_67 => ?_)
  refine lv_aload_n hx hb dX3_isWholeAt_70 rfl (lv_at hl 2 rfl) ?_
  refine va_get (D := D) (ci := 3) (v := .int (nI ct)) (C := "FindLog$StoredAct") (T := TX3) (N := 4) hx hb hg inX3 hown hK hP 0 rfl rfl 2 (by decide) (hg _ k_84) (fun _ h9 => h9) rfl dX3_isWholeAt_71 ?_
  refine lv_bipush (v := nI 24) hx hb dX3_isWholeAt_74 (by decide) ?_
  refine lv_icmp_gtN (tgt := 87) hx hb (by omega) (by omega) dX3_isWholeAt_76 (by decide) (fun c_76 => absurd c_76 (by omega)) (fun c_76 => ?_)
  refine lv_iload_n hx hb dX3_isWholeAt_79 rfl (lv_at hl 1 rfl) ?_
  refine lv_aload_n hx hb dX3_isWholeAt_80 rfl (lv_at hl 2 rfl) ?_
  refine pw_calli (va_runV (As := []) (rest := [.int (nI (n - q))]) ⟨hx, hb, hml, hown, hg⟩ (c_X3_length l D kI a (nI th) x1 ct x3) (cwV 0 hg (gw_V k_428 k_429 k_430 k_25 k_431) rfl rfl rfl (by decide +kernel) ⟨Nat.le_of_ble_eq_true rfl, Nat.le_of_ble_eq_true rfl⟩) ⟨pw_blind, va_recv hK hP (ci := 3) (q0 := 0) rfl rfl, pw_pre (hP.sub (ws' := [(a, .inr (3, [.int (nI th), .int x1, .int (nI ct), .long x3]))]) [0] rfl) (hK.sub (tys' := [(kI, .int)]) [0] rfl) hN⟩ rfl rfl hl.1 rfl (lv_room (Nat.le_of_ble_eq_true rfl)) dX3_isWholeAt_81 ⟨Nat.le_of_ble_eq_true rfl, Nat.le_of_ble_eq_true rfl⟩) hS hP (fun H locs hP hS => ?_)
  refine lv_icmp_geN (tgt := 89) hx hb (by omega) (by omega) dX3_isWholeAt_84 (by decide) (fun c_84 => ?_) (fun c_84 => absurd c_84 (by omega))
  refine lv_aload_n hx hb dX3_isWholeAt_89 rfl (lv_at hl 2 rfl) ?_
  refine lv_lload hx hb dX3_isWholeAt_90 (lv_at hl 0 rfl) ?_
  refine lv_l2i hx hb dX3_isWholeAt_92 rfl ?_
  refine va_put (D := D) (ci := 3) (v := .int ((fx_nb f (q + 1) 4)).toInt32) (ty := .int) (C := "FindLog$StoredAct") (T := TX3) (N := 4) hx hb hg inX3 tyX3 okX3 nmX3 hown hK hP hD hS 0 rfl rfl 1 (by decide) (hg _ k_82) (fun _ h9 => h9) rfl (by decide +kernel) rfl rfl (Nat.le_of_ble_eq_true rfl) dX3_isWholeAt_93 (fun H locs hP hD hS => ?_)
  have hP : va_P D vwC [(a, .inr (3, [.int (nI th), .int ((fx_nb f (q + 1) 4)).toInt32, .int (nI ct), .long x3])), (b, .inr (0, [.ref r, .int (nI n)])), (r, .inl (kI, cap, .inl f))] H := hP
  have hD : va_D A [(a, .inr (3, [.int (nI th), .int ((fx_nb f (q + 1) 4)).toInt32, .int (nI ct), .long x3])), (b, .inr (0, [.ref r, .int (nI n)])), (r, .inl (kI, cap, .inl f))] := hD
  refine lv_iload_n hx hb dX3_isWholeAt_96 rfl (lv_at hl 4 rfl) ?_
  refine lv_bipush (v := nI 6) hx hb dX3_isWholeAt_97 (by decide) ?_
  refine lv_iaddN hx hb dX3_isWholeAt_99 ?_
  refine lv_aload_n hx hb dX3_isWholeAt_100 rfl (lv_at hl 2 rfl) ?_
  refine va_get (D := D) (ci := 3) (v := .int (nI ct)) (C := "FindLog$StoredAct") (T := TX3) (N := 4) hx hb hg inX3 hown hK hP 0 rfl rfl 2 (by decide) (hg _ k_84) (fun _ h9 => h9) rfl dX3_isWholeAt_101 ?_
  refine lv_iaddN hx hb dX3_isWholeAt_104 ?_
  refine lv_istore (lv' := [(6, .int (nI ((q + 6) + ct))), (4, .long (fx_nb f (q + 1) 4)), (3, .int (nI (n - q))), (0, .ref a), (1, .ref b), (2, .int (nI q))]) hx hb dX3_isWholeAt_105 hl (by decide) rfl (fun ls hl => ?_)
  refine lv_aload_n hx hb dX3_isWholeAt_107 rfl (lv_at hl 3 rfl) ?_
  refine lv_aload_n hx hb dX3_isWholeAt_108 rfl (lv_at hl 4 rfl) ?_
  refine lv_iload hx hb dX3_isWholeAt_109 (lv_at hl 0 rfl) ?_
  refine lv_bipush (v := nI 8) hx hb dX3_isWholeAt_111 (by decide) ?_
  refine pw_calll (va_runV (As := [.int (nI ((q + 6) + ct)), .int (nI 8)]) (rest := [.ref a]) ⟨hx, hb, hml, hown, hg⟩ (c_X0_numberAt l D b r kI cap n f (q + 6 + ct) 8 (by omega) hn hc') (cwV 2 hg (gw_V k_422 k_423 k_424 k_23 k_425) rfl rfl rfl (by decide +kernel) ⟨Nat.le_of_ble_eq_true rfl, Nat.le_of_ble_eq_true rfl⟩) ⟨pw_blind, va_recv hK hP (ci := 0) (q0 := 1) rfl rfl, pw_pre (hP.sub (ws' := [(b, .inr (0, [.ref r, .int (nI n)])), (r, .inl (kI, cap, .inl f))]) [1, 2] rfl) (hK.sub (tys' := [(kI, .int)]) [0] rfl) hN⟩ rfl rfl hl.1 rfl (lv_room (Nat.le_of_ble_eq_true rfl)) dX3_isWholeAt_113 ⟨Nat.le_of_ble_eq_true rfl, Nat.le_of_ble_eq_true rfl⟩) hS hP (fun H locs hP hS => ?_)
  refine va_put (D := D) (ci := 3) (v := .long (fx_nb f (q + 6 + ct) 8)) (ty := .long) (C := "FindLog$StoredAct") (T := TX3) (N := 4) hx hb hg inX3 tyX3 okX3 nmX3 hown hK hP hD hS 0 rfl rfl 3 (by decide) (hg _ k_86) (fun _ h9 => h9) rfl (by decide +kernel) rfl rfl (Nat.le_of_ble_eq_true rfl) dX3_isWholeAt_116 (fun H locs hP hD hS => ?_)
  have hP : va_P D vwC [(a, .inr (3, [.int (nI th), .int ((fx_nb f (q + 1) 4)).toInt32, .int (nI ct), .long (fx_nb f (q + 6 + ct) 8)])), (b, .inr (0, [.ref r, .int (nI n)])), (r, .inl (kI, cap, .inl f))] H := hP
  have hD : va_D A [(a, .inr (3, [.int (nI th), .int ((fx_nb f (q + 1) 4)).toInt32, .int (nI ct), .long (fx_nb f (q + 6 + ct) 8)])), (b, .inr (0, [.ref r, .int (nI n)])), (r, .inl (kI, cap, .inl f))] := hD
  refine lv_aload_n hx hb dX3_isWholeAt_119 rfl (lv_at hl 3 rfl) ?_
  refine va_get (D := D) (ci := 3) (v := .long (fx_nb f (q + 6 + ct) 8)) (C := "FindLog$StoredAct") (T := TX3) (N := 4) hx hb hg inX3 hown hK hP 0 rfl rfl 3 (by decide) (hg _ k_86) (fun _ h9 => h9) rfl dX3_isWholeAt_120 ?_
  refine lv_aload_n hx hb dX3_isWholeAt_123 rfl (lv_at hl 4 rfl) ?_
  refine lv_iload_n hx hb dX3_isWholeAt_124 rfl (lv_at hl 5 rfl) ?_
  refine lv_iload hx hb dX3_isWholeAt_125 (lv_at hl 0 rfl) ?_
  rw [show nI (q + 6 + ct) = nI (q + (6 + ct)) from sx_i _ _ (by omega)]
  refine pw_calll (va_runV (As := [.int (nI q), .int (nI (q + (6 + ct)))]) (rest := [.long (fx_nb f (q + 6 + ct) 8)]) ⟨hx, hb, hml, hown, hg⟩ (c_X0_sumOf l D b r kI cap n f q (6 + ct) (by omega) hn hc') (cwV 2 hg (gw_V k_432 k_330 k_331 k_23 k_332) rfl rfl rfl (by decide +kernel) ⟨Nat.le_of_ble_eq_true rfl, Nat.le_of_ble_eq_true rfl⟩) ⟨pw_blind, va_recv hK hP (ci := 0) (q0 := 1) rfl rfl, pw_pre (hP.sub (ws' := [(b, .inr (0, [.ref r, .int (nI n)])), (r, .inl (kI, cap, .inl f))]) [1, 2] rfl) (hK.sub (tys' := [(kI, .int)]) [0] rfl) hN⟩ rfl rfl hl.1 rfl (lv_room (Nat.le_of_ble_eq_true rfl)) dX3_isWholeAt_127 ⟨Nat.le_of_ble_eq_true rfl, Nat.le_of_ble_eq_true rfl⟩) hS hP (fun H locs hP hS => ?_)
  refine W.lcmp hx hb dX3_isWholeAt_130 ?_
  refine lv_if_ne (tgt := 138) hx hb dX3_isWholeAt_131 (by decide) (fun c_131 => absurd c_131 (fun h9 => h9 ((lg_cmp_eq _ _).mpr h5))) (fun c_131 => ?_)
  refine lv_iconst (v := nI 1) hx hb dX3_isWholeAt_134 (by decide) ?_
  refine lv_goto (tgt := 139) hx hb dX3_isWholeAt_135 (by decide) ?_
  exact W.zret (v := (nI 1)) hx hb hr (by decide) (fun t ht hW => ⟨⟨(nI 1), (), rfl, rfl, by rw [ht]; exact hP, va_K.moved hW.alike hK, hD⟩, hS.F ht⟩) hS.2.2 dX3_isWholeAt_139
set_option maxHeartbeats 4000000 in
set_option maxRecDepth 100000 in
/-- no whole act -/
theorem c_X3_broken (l : Launch) (D : va_G) (sz : Nat) (kI : ClassId) (b r cap n : Nat) (f : Nat → Int32) (a : Nat) (x0 x1 x2 : Int32) (x3 : Int64) (q : Nat) (hno : ¬ fx_ok f n q) (hB : fx_B f n) (hq : q ≤ n) (hn : n ≤ cap) (hc : cap < 2 ^ 30) : Met l yX3_isWholeAt (.code yX3_isWholeAt bX3_isWholeAt 7 (some .boolean) :: GW) (rmL 2 0 0) (va_Pc [.ref a, .ref b, .int (nI q)] (ww_P D sz [(a, .inr (3, [.int x0, .int x1, .int x2, .long x3])), (b, .inr (0, [.ref r, .int (nI n)])), (r, .inl (kI, cap, .inl f))] [(kI, .int)])) (va_Qi (fun (r : Int32) (u_ : Int32 × Int32 × Int32 × Int64) => match u_ with | (y0, y1, y2, y3) => r = nI 0) (fun (u_ : Int32 × Int32 × Int32 × Int64) => match u_ with | (y0, y1, y2, y3) => ww_B D (va_A [(a, .inr (3, [.int x0, .int x1, .int x2, .long x3])), (b, .inr (0, [.ref r, .int (nI n)])), (r, .inl (kI, cap, .inl f))] sz) [(a, .inr (3, [.int y0, .int y1, .int y2, .long y3])), (b, .inr (0, [.ref r, .int (nI n)])), (r, .inl (kI, cap, .inl f))] [(kI, .int)]) (va_A [(a, .inr (3, [.int x0, .int x1, .int x2, .long x3])), (b, .inr (0, [.ref r, .int (nI n)])), (r, .inl (kI, cap, .inl f))] sz)) 0 0 (va_A [(a, .inr (3, [.int x0, .int x1, .int x2, .long x3])), (b, .inr (0, [.ref r, .int (nI n)])), (r, .inl (kI, cap, .inl f))] sz) := by
  refine Met.ofW (cc := bX3_isWholeAt) (maxL := 7) (ret := (some .boolean)) (by decide) rfl ?_
  intro p e s m args below meth c s₁ B hml hv
  obtain ⟨rfl, hsz, hP, hK, hD0, hN⟩ := hv
  have hx := B.exec
  have hb := B.bytes
  have hr := B.returns
  have hg : ∀ w ∈ GW, w.before _ s = true := fun w h => atoms_spec (ws := Cond.code yX3_isWholeAt bX3_isWholeAt 7 (some .boolean) :: GW) B.pre w (List.mem_cons_of_mem _ h)
  have hown : s.vm.findClass "FindLog$StoredAct" = some m.cls := findClass_of_methodNamed B.named
  have hlocks := B.notSynchronized
  subst hsz
  have hD := hD0.self (sz := s.heap.size)
  generalize hAe : va_A [(a, .inr (3, [.int x0, .int x1, .int x2, .long x3])), (b, .inr (0, [.ref r, .int (nI n)])), (r, .inl (kI, cap, .inl f))] s.heap.size = A at hD ⊢
  have hA : ∀ q : Nat, s.heap.size ≤ q → A q := fun q h => by rw [← hAe]; exact Or.inr h
  have hS : va_S A s.heap s.heap [] := va_S.rf
  have hl := lv_entry ([.ref a, .ref b, .int (nI q)]) (n := 7) (Nat.le_of_ble_eq_true rfl)
  rw [lg_entry_eq]
  generalize (lg_sl ([.ref a, .ref b, .int (nI q)]) ++ List.replicate (7 - (lg_sl ([.ref a, .ref b, .int (nI q)])).length) Slot.unset).toArray = ls at hl ⊢
  have hl : lv_has ls 7 [(0, .ref a), (1, .ref b), (2, .int (nI q))] := hl
  have hc' : cap < 2 ^ 31 := by omega
  refine lv_aload_n hx hb dX3_isWholeAt_0 rfl (lv_at hl 1 rfl) ?_
  refine pw_calli (va_runV (As := []) (rest := []) ⟨hx, hb, hml, hown, hg⟩ (c_X0_size l D b r kI cap n f) (cwV 0 hg (gw_V k_421 k_278 k_279 k_23 k_280) rfl rfl rfl (by decide +kernel) ⟨Nat.le_of_ble_eq_true rfl, Nat.le_of_ble_eq_true rfl⟩) ⟨pw_blind, va_recv hK hP (ci := 0) (q0 := 1) rfl rfl, pw_pre (hP.sub (ws' := [(b, .inr (0, [.ref r, .int (nI n)])), (r, .inl (kI, cap, .inl f))]) [1, 2] rfl) (hK.sub (tys' := [(kI, .int)]) [0] rfl) hN⟩ rfl rfl hl.1 rfl (lv_room (Nat.le_of_ble_eq_true rfl)) dX3_isWholeAt_1 ⟨Nat.le_of_ble_eq_true rfl, Nat.le_of_ble_eq_true rfl⟩) hS hP (fun H locs hP hS => ?_)
  refine lv_iload_n hx hb dX3_isWholeAt_4 rfl (lv_at hl 2 rfl) ?_
  refine lv_isubN hx hb (by omega) dX3_isWholeAt_5 ?_
  refine lv_istore_n (lv' := [(3, .int (nI (n - q))), (0, .ref a), (1, .ref b), (2, .int (nI q))]) hx hb dX3_isWholeAt_6 rfl hl (by decide) rfl (fun ls hl => ?_)
  refine lv_iload_n hx hb dX3_isWholeAt_7 rfl (lv_at hl 3 rfl) ?_
  refine lv_if_ltN (tgt := 17) hx hb (by omega) dX3_isWholeAt_8 (by decide) (fun c_8 => absurd c_8 id) (fun c_8 => ?_)
  refine lv_iload_n hx hb dX3_isWholeAt_11 rfl (lv_at hl 0 rfl) ?_
  refine lv_bipush (v := nI 14) hx hb dX3_isWholeAt_12 (by decide) ?_
  refine lv_icmp_geN (tgt := 19) hx hb (by omega) (by omega) dX3_isWholeAt_14 (by decide) (fun c_14 => ?_) (fun c_14 => ?_)
  · obtain ⟨th, hb1, hth⟩ := hB q (by omega)
    obtain ⟨ct, hb2, hct⟩ := hB (q + 5) (by omega)
    refine lv_aload_n hx hb dX3_isWholeAt_19 rfl (lv_at hl 2 rfl) ?_
    refine lv_iload_n hx hb dX3_isWholeAt_20 rfl (lv_at hl 3 rfl) ?_
    refine lv_iconst (v := nI 1) hx hb dX3_isWholeAt_21 (by decide) ?_
    refine lv_iaddN hx hb dX3_isWholeAt_22 ?_
    refine lv_iconst (v := nI 4) hx hb dX3_isWholeAt_23 (by decide) ?_
    refine pw_calll (va_runV (As := [.int (nI (q + 1)), .int (nI 4)]) (rest := []) ⟨hx, hb, hml, hown, hg⟩ (c_X0_numberAt l D b r kI cap n f (q + 1) 4 (by omega) hn hc') (cwV 2 hg (gw_V k_422 k_423 k_424 k_23 k_425) rfl rfl rfl (by decide +kernel) ⟨Nat.le_of_ble_eq_true rfl, Nat.le_of_ble_eq_true rfl⟩) ⟨pw_blind, va_recv hK hP (ci := 0) (q0 := 1) rfl rfl, pw_pre (hP.sub (ws' := [(b, .inr (0, [.ref r, .int (nI n)])), (r, .inl (kI, cap, .inl f))]) [1, 2] rfl) (hK.sub (tys' := [(kI, .int)]) [0] rfl) hN⟩ rfl rfl hl.1 rfl (lv_room (Nat.le_of_ble_eq_true rfl)) dX3_isWholeAt_24 ⟨Nat.le_of_ble_eq_true rfl, Nat.le_of_ble_eq_true rfl⟩) hS hP (fun H locs hP hS => ?_)
    refine lv_lstore (lv' := [(4, .long (fx_nb f (q + 1) 4)), (3, .int (nI (n - q))), (0, .ref a), (1, .ref b), (2, .int (nI q))]) hx hb dX3_isWholeAt_27 hl (by decide) rfl (fun ls hl => ?_)
    refine lv_aload_n hx hb dX3_isWholeAt_29 rfl (lv_at hl 2 rfl) ?_
    refine lv_aload_n hx hb dX3_isWholeAt_30 rfl (lv_at hl 3 rfl) ?_
    refine lv_iload_n hx hb dX3_isWholeAt_31 rfl (lv_at hl 4 rfl) ?_
    refine pw_calli (va_runV (As := [.int (nI q)]) (rest := [.ref a]) ⟨hx, hb, hml, hown, hg⟩ (c_X0_get l D b r kI cap n f q (by omega) hn hc') (cwV 1 hg (gw_V k_426 k_326 k_327 k_23 k_328) rfl rfl rfl (by decide +kernel) ⟨Nat.le_of_ble_eq_true rfl, Nat.le_of_ble_eq_true rfl⟩) ⟨pw_blind, va_recv hK hP (ci := 0) (q0 := 1) rfl rfl, pw_pre (hP.sub (ws' := [(b, .inr (0, [.ref r, .int (nI n)])), (r, .inl (kI, cap, .inl f))]) [1, 2] rfl) (hK.sub (tys' := [(kI, .int)]) [0] rfl) hN⟩ rfl rfl hl.1 rfl (lv_room (Nat.le_of_ble_eq_true rfl)) dX3_isWholeAt_32 ⟨Nat.le_of_ble_eq_true rfl, Nat.le_of_ble_eq_true rfl⟩) hS hP (fun H locs hP hS => ?_)
    rw [hth]
    refine va_put (D := D) (ci := 3) (v := .int (nI th)) (ty := .int) (C := "FindLog$StoredAct") (T := TX3) (N := 4) hx hb hg inX3 tyX3 okX3 nmX3 hown hK hP hD hS 0 rfl rfl 0 (by decide) (hg _ k_80) (fun _ h9 => h9) rfl (by decide +kernel) rfl rfl (Nat.le_of_ble_eq_true rfl) dX3_isWholeAt_35 (fun H locs hP hD hS => ?_)
    have hP : va_P D vwC [(a, .inr (3, [.int (nI th), .int x1, .int x2, .long x3])), (b, .inr (0, [.ref r, .int (nI n)])), (r, .inl (kI, cap, .inl f))] H := hP
    have hD : va_D A [(a, .inr (3, [.int (nI th), .int x1, .int x2, .long x3])), (b, .inr (0, [.ref r, .int (nI n)])), (r, .inl (kI, cap, .inl f))] := hD
    refine lv_aload_n hx hb dX3_isWholeAt_38 rfl (lv_at hl 2 rfl) ?_
    refine lv_aload_n hx hb dX3_isWholeAt_39 rfl (lv_at hl 3 rfl) ?_
    refine lv_iload_n hx hb dX3_isWholeAt_40 rfl (lv_at hl 4 rfl) ?_
    refine lv_bipush (v := nI 6) hx hb dX3_isWholeAt_41 (by decide) ?_
    refine lv_iaddN hx hb dX3_isWholeAt_43 ?_
    refine lv_iconst (v := nI 1) hx hb dX3_isWholeAt_44 (by decide) ?_
    refine lv_isubN hx hb (by omega) dX3_isWholeAt_45 ?_
    rw [show nI ((q + 6) - 1) = nI (q + 5) from sx_i _ _ (by omega)]
    refine pw_calli (va_runV (As := [.int (nI (q + 5))]) (rest := [.ref a]) ⟨hx, hb, hml, hown, hg⟩ (c_X0_get l D b r kI cap n f (q + 5) (by omega) hn hc') (cwV 1 hg (gw_V k_426 k_326 k_327 k_23 k_328) rfl rfl rfl (by decide +kernel) ⟨Nat.le_of_ble_eq_true rfl, Nat.le_of_ble_eq_true rfl⟩) ⟨pw_blind, va_recv hK hP (ci := 0) (q0 := 1) rfl rfl, pw_pre (hP.sub (ws' := [(b, .inr (0, [.ref r, .int (nI n)])), (r, .inl (kI, cap, .inl f))]) [1, 2] rfl) (hK.sub (tys' := [(kI, .int)]) [0] rfl) hN⟩ rfl rfl hl.1 rfl (lv_room (Nat.le_of_ble_eq_true rfl)) dX3_isWholeAt_46 ⟨Nat.le_of_ble_eq_true rfl, Nat.le_of_ble_eq_true rfl⟩) hS hP (fun H locs hP hS => ?_)
    rw [hct]
    refine va_put (D := D) (ci := 3) (v := .int (nI ct)) (ty := .int) (C := "FindLog$StoredAct") (T := TX3) (N := 4) hx hb hg inX3 tyX3 okX3 nmX3 hown hK hP hD hS 0 rfl rfl 2 (by decide) (hg _ k_84) (fun _ h9 => h9) rfl (by decide +kernel) rfl rfl (Nat.le_of_ble_eq_true rfl) dX3_isWholeAt_49 (fun H locs hP hD hS => ?_)
    have hP : va_P D vwC [(a, .inr (3, [.int (nI th), .int x1, .int (nI ct), .long x3])), (b, .inr (0, [.ref r, .int (nI n)])), (r, .inl (kI, cap, .inl f))] H := hP
    have hD : va_D A [(a, .inr (3, [.int (nI th), .int x1, .int (nI ct), .long x3])), (b, .inr (0, [.ref r, .int (nI n)])), (r, .inl (kI, cap, .inl f))] := hD
    refine lv_aload_n hx hb dX3_isWholeAt_52 rfl (lv_at hl 2 rfl) ?_
    refine va_get (D := D) (ci := 3) (v := .int (nI th)) (C := "FindLog$StoredAct") (T := TX3) (N := 4) hx hb hg inX3 hown hK hP 0 rfl rfl 0 (by decide) (hg _ k_80) (fun _ h9 => h9) rfl dX3_isWholeAt_53 ?_
    refine lv_bipush (v := nI 32) hx hb dX3_isWholeAt_56 (by decide) ?_
    refine lv_icmp_geN (tgt := 87) hx hb (by omega) (by omega) dX3_isWholeAt_58 (by decide) (fun c_58 => ?_) (fun c_58 => ?_)
    · refine lv_iconst (v := nI 0) hx hb dX3_isWholeAt_87 (by decide) ?_
      exact W.zret (v := (nI 0)) hx hb hr (by decide) (fun t ht hW => ⟨⟨(nI 0), ((nI th), x1, (nI ct), x3), rfl, rfl, by rw [ht]; exact hP, va_K.moved hW.alike hK, hD⟩, hS.F ht⟩) hS.2.2 dX3_isWholeAt_88
    · refine lv_lload hx hb dX3_isWholeAt_61 (lv_at hl 0 rfl) ?_
      refine lv_ldc2 (v := 36500) hx hb hown (hg _ k_427) dX3_isWholeAt_63 ?_
      refine W.lcmp hx hb dX3_isWholeAt_66 ?_
      refine lv_if_gt (tgt := 87) hx hb dX3_isWholeAt_67 (by decide) (fun c_67 => ?_) (fun c_67 => ?_)
      · refine lv_iconst (v := nI 0) hx hb dX3_isWholeAt_87 (by decide) ?_
        exact W.zret (v := (nI 0)) hx hb hr (by decide) (fun t ht hW => ⟨⟨(nI 0), ((nI th), x1, (nI ct), x3), rfl, rfl, by rw [ht]; exact hP, va_K.moved hW.alike hK, hD⟩, hS.F ht⟩) hS.2.2 dX3_isWholeAt_88
      · refine lv_aload_n hx hb dX3_isWholeAt_70 rfl (lv_at hl 2 rfl) ?_
        refine va_get (D := D) (ci := 3) (v := .int (nI ct)) (C := "FindLog$StoredAct") (T := TX3) (N := 4) hx hb hg inX3 hown hK hP 0 rfl rfl 2 (by decide) (hg _ k_84) (fun _ h9 => h9) rfl dX3_isWholeAt_71 ?_
        refine lv_bipush (v := nI 24) hx hb dX3_isWholeAt_74 (by decide) ?_
        refine lv_icmp_gtN (tgt := 87) hx hb (by omega) (by omega) dX3_isWholeAt_76 (by decide) (fun c_76 => ?_) (fun c_76 => ?_)
        · refine lv_iconst (v := nI 0) hx hb dX3_isWholeAt_87 (by decide) ?_
          exact W.zret (v := (nI 0)) hx hb hr (by decide) (fun t ht hW => ⟨⟨(nI 0), ((nI th), x1, (nI ct), x3), rfl, rfl, by rw [ht]; exact hP, va_K.moved hW.alike hK, hD⟩, hS.F ht⟩) hS.2.2 dX3_isWholeAt_88
        · refine lv_iload_n hx hb dX3_isWholeAt_79 rfl (lv_at hl 1 rfl) ?_
          refine lv_aload_n hx hb dX3_isWholeAt_80 rfl (lv_at hl 2 rfl) ?_
          refine pw_calli (va_runV (As := []) (rest := [.int (nI (n - q))]) ⟨hx, hb, hml, hown, hg⟩ (c_X3_length l D kI a (nI th) x1 ct x3) (cwV 0 hg (gw_V k_428 k_429 k_430 k_25 k_431) rfl rfl rfl (by decide +kernel) ⟨Nat.le_of_ble_eq_true rfl, Nat.le_of_ble_eq_true rfl⟩) ⟨pw_blind, va_recv hK hP (ci := 3) (q0 := 0) rfl rfl, pw_pre (hP.sub (ws' := [(a, .inr (3, [.int (nI th), .int x1, .int (nI ct), .long x3]))]) [0] rfl) (hK.sub (tys' := [(kI, .int)]) [0] rfl) hN⟩ rfl rfl hl.1 rfl (lv_room (Nat.le_of_ble_eq_true rfl)) dX3_isWholeAt_81 ⟨Nat.le_of_ble_eq_true rfl, Nat.le_of_ble_eq_true rfl⟩) hS hP (fun H locs hP hS => ?_)
          refine lv_icmp_geN (tgt := 89) hx hb (by omega) (by omega) dX3_isWholeAt_84 (by decide) (fun c_84 => ?_) (fun c_84 => ?_)
          · refine lv_aload_n hx hb dX3_isWholeAt_89 rfl (lv_at hl 2 rfl) ?_
            refine lv_lload hx hb dX3_isWholeAt_90 (lv_at hl 0 rfl) ?_
            refine lv_l2i hx hb dX3_isWholeAt_92 rfl ?_
            refine va_put (D := D) (ci := 3) (v := .int ((fx_nb f (q + 1) 4)).toInt32) (ty := .int) (C := "FindLog$StoredAct") (T := TX3) (N := 4) hx hb hg inX3 tyX3 okX3 nmX3 hown hK hP hD hS 0 rfl rfl 1 (by decide) (hg _ k_82) (fun _ h9 => h9) rfl (by decide +kernel) rfl rfl (Nat.le_of_ble_eq_true rfl) dX3_isWholeAt_93 (fun H locs hP hD hS => ?_)
            have hP : va_P D vwC [(a, .inr (3, [.int (nI th), .int ((fx_nb f (q + 1) 4)).toInt32, .int (nI ct), .long x3])), (b, .inr (0, [.ref r, .int (nI n)])), (r, .inl (kI, cap, .inl f))] H := hP
            have hD : va_D A [(a, .inr (3, [.int (nI th), .int ((fx_nb f (q + 1) 4)).toInt32, .int (nI ct), .long x3])), (b, .inr (0, [.ref r, .int (nI n)])), (r, .inl (kI, cap, .inl f))] := hD
            refine lv_iload_n hx hb dX3_isWholeAt_96 rfl (lv_at hl 4 rfl) ?_
            refine lv_bipush (v := nI 6) hx hb dX3_isWholeAt_97 (by decide) ?_
            refine lv_iaddN hx hb dX3_isWholeAt_99 ?_
            refine lv_aload_n hx hb dX3_isWholeAt_100 rfl (lv_at hl 2 rfl) ?_
            refine va_get (D := D) (ci := 3) (v := .int (nI ct)) (C := "FindLog$StoredAct") (T := TX3) (N := 4) hx hb hg inX3 hown hK hP 0 rfl rfl 2 (by decide) (hg _ k_84) (fun _ h9 => h9) rfl dX3_isWholeAt_101 ?_
            refine lv_iaddN hx hb dX3_isWholeAt_104 ?_
            refine lv_istore (lv' := [(6, .int (nI ((q + 6) + ct))), (4, .long (fx_nb f (q + 1) 4)), (3, .int (nI (n - q))), (0, .ref a), (1, .ref b), (2, .int (nI q))]) hx hb dX3_isWholeAt_105 hl (by decide) rfl (fun ls hl => ?_)
            refine lv_aload_n hx hb dX3_isWholeAt_107 rfl (lv_at hl 3 rfl) ?_
            refine lv_aload_n hx hb dX3_isWholeAt_108 rfl (lv_at hl 4 rfl) ?_
            refine lv_iload hx hb dX3_isWholeAt_109 (lv_at hl 0 rfl) ?_
            refine lv_bipush (v := nI 8) hx hb dX3_isWholeAt_111 (by decide) ?_
            refine pw_calll (va_runV (As := [.int (nI ((q + 6) + ct)), .int (nI 8)]) (rest := [.ref a]) ⟨hx, hb, hml, hown, hg⟩ (c_X0_numberAt l D b r kI cap n f (q + 6 + ct) 8 (by omega) hn hc') (cwV 2 hg (gw_V k_422 k_423 k_424 k_23 k_425) rfl rfl rfl (by decide +kernel) ⟨Nat.le_of_ble_eq_true rfl, Nat.le_of_ble_eq_true rfl⟩) ⟨pw_blind, va_recv hK hP (ci := 0) (q0 := 1) rfl rfl, pw_pre (hP.sub (ws' := [(b, .inr (0, [.ref r, .int (nI n)])), (r, .inl (kI, cap, .inl f))]) [1, 2] rfl) (hK.sub (tys' := [(kI, .int)]) [0] rfl) hN⟩ rfl rfl hl.1 rfl (lv_room (Nat.le_of_ble_eq_true rfl)) dX3_isWholeAt_113 ⟨Nat.le_of_ble_eq_true rfl, Nat.le_of_ble_eq_true rfl⟩) hS hP (fun H locs hP hS => ?_)
            refine va_put (D := D) (ci := 3) (v := .long (fx_nb f (q + 6 + ct) 8)) (ty := .long) (C := "FindLog$StoredAct") (T := TX3) (N := 4) hx hb hg inX3 tyX3 okX3 nmX3 hown hK hP hD hS 0 rfl rfl 3 (by decide) (hg _ k_86) (fun _ h9 => h9) rfl (by decide +kernel) rfl rfl (Nat.le_of_ble_eq_true rfl) dX3_isWholeAt_116 (fun H locs hP hD hS => ?_)
            have hP : va_P D vwC [(a, .inr (3, [.int (nI th), .int ((fx_nb f (q + 1) 4)).toInt32, .int (nI ct), .long (fx_nb f (q + 6 + ct) 8)])), (b, .inr (0, [.ref r, .int (nI n)])), (r, .inl (kI, cap, .inl f))] H := hP
            have hD : va_D A [(a, .inr (3, [.int (nI th), .int ((fx_nb f (q + 1) 4)).toInt32, .int (nI ct), .long (fx_nb f (q + 6 + ct) 8)])), (b, .inr (0, [.ref r, .int (nI n)])), (r, .inl (kI, cap, .inl f))] := hD
            refine lv_aload_n hx hb dX3_isWholeAt_119 rfl (lv_at hl 3 rfl) ?_
            refine va_get (D := D) (ci := 3) (v := .long (fx_nb f (q + 6 + ct) 8)) (C := "FindLog$StoredAct") (T := TX3) (N := 4) hx hb hg inX3 hown hK hP 0 rfl rfl 3 (by decide) (hg _ k_86) (fun _ h9 => h9) rfl dX3_isWholeAt_120 ?_
            refine lv_aload_n hx hb dX3_isWholeAt_123 rfl (lv_at hl 4 rfl) ?_
            refine lv_iload_n hx hb dX3_isWholeAt_124 rfl (lv_at hl 5 rfl) ?_
            refine lv_iload hx hb dX3_isWholeAt_125 (lv_at hl 0 rfl) ?_
            rw [show nI (q + 6 + ct) = nI (q + (6 + ct)) from sx_i _ _ (by omega)]
            refine pw_calll (va_runV (As := [.int (nI q), .int (nI (q + (6 + ct)))]) (rest := [.long (fx_nb f (q + 6 + ct) 8)]) ⟨hx, hb, hml, hown, hg⟩ (c_X0_sumOf l D b r kI cap n f q (6 + ct) (by omega) hn hc') (cwV 2 hg (gw_V k_432 k_330 k_331 k_23 k_332) rfl rfl rfl (by decide +kernel) ⟨Nat.le_of_ble_eq_true rfl, Nat.le_of_ble_eq_true rfl⟩) ⟨pw_blind, va_recv hK hP (ci := 0) (q0 := 1) rfl rfl, pw_pre (hP.sub (ws' := [(b, .inr (0, [.ref r, .int (nI n)])), (r, .inl (kI, cap, .inl f))]) [1, 2] rfl) (hK.sub (tys' := [(kI, .int)]) [0] rfl) hN⟩ rfl rfl hl.1 rfl (lv_room (Nat.le_of_ble_eq_true rfl)) dX3_isWholeAt_127 ⟨Nat.le_of_ble_eq_true rfl, Nat.le_of_ble_eq_true rfl⟩) hS hP (fun H locs hP hS => ?_)
            refine W.lcmp hx hb dX3_isWholeAt_130 ?_
            refine lv_if_ne (tgt := 138) hx hb dX3_isWholeAt_131 (by decide) (fun c_131 => ?_) (fun c_131 => ?_)
            · refine lv_iconst (v := nI 0) hx hb dX3_isWholeAt_138 (by decide) ?_
              exact W.zret (v := (nI 0)) hx hb hr (by decide) (fun t ht hW => ⟨⟨(nI 0), ((nI th), (((fx_nb f (q + 1) 4)).toInt32), (nI ct), (fx_nb f (q + 6 + ct) 8)), rfl, rfl, by rw [ht]; exact hP, va_K.moved hW.alike hK, hD⟩, hS.F ht⟩) hS.2.2 dX3_isWholeAt_139
            · exact absurd ⟨th, ct, hth, hct, by omega, by omega, Int64.not_lt.mp fun h9 => c_67 ((lg_cmp_gt _ _).mpr h9), by omega, (lg_cmp_eq _ _).mp c_131⟩ hno
          · refine lv_iconst (v := nI 0) hx hb dX3_isWholeAt_87 (by decide) ?_
            exact W.zret (v := (nI 0)) hx hb hr (by decide) (fun t ht hW => ⟨⟨(nI 0), ((nI th), x1, (nI ct), x3), rfl, rfl, by rw [ht]; exact hP, va_K.moved hW.alike hK, hD⟩, hS.F ht⟩) hS.2.2 dX3_isWholeAt_88
  · refine lv_iconst (v := nI 0) hx hb dX3_isWholeAt_17 (by decide) ?_
    exact W.zret (v := (nI 0)) hx hb hr (by decide) (fun t ht hW => ⟨⟨(nI 0), (x0, x1, x2, x3), rfl, rfl, by rw [ht]; exact hP, va_K.moved hW.alike hK, hD⟩, hS.F ht⟩) hS.2.2 dX3_isWholeAt_18
set_option maxHeartbeats 4000000 in
set_option maxRecDepth 100000 in
theorem c_X1_dayOf (l : Launch) (D : va_G) (kI : ClassId) (h da ca ya : Nat) (fd fc fy : Nat → Int32) (tt : Nat) (ht : tt < 32) : Met l yX1_dayOf (.code yX1_dayOf bX1_dayOf 2 (some .int) :: GW) (rmL 0 0 0) (va_Pc [.ref h, .int (nI tt)] (pw_P D [(h, .inr (1, [.ref da, .ref ca, .ref ya])), (da, .inl (kI, 32, .inl fd)), (ca, .inl (kI, 32, .inl fc)), (ya, .inl (kI, 768, .inl fy))] [(kI, .int)])) (pw_Qi (fd tt)) 0 0 (fun _ => False) := by
  refine Met.ofW (cc := bX1_dayOf) (maxL := 2) (ret := (some .int)) (by decide) rfl ?_
  intro p e s m args below meth c s₁ B hml hv
  obtain ⟨rfl, hP, hK, hN⟩ := hv
  have hx := B.exec
  have hb := B.bytes
  have hr := B.returns
  have hg : ∀ w ∈ GW, w.before _ s = true := fun w h => atoms_spec (ws := Cond.code yX1_dayOf bX1_dayOf 2 (some .int) :: GW) B.pre w (List.mem_cons_of_mem _ h)
  have hown : s.vm.findClass "FindLog$Finds" = some m.cls := findClass_of_methodNamed B.named
  have hlocks := B.notSynchronized
  have hS : va_S (fun _ => False) s.heap s.heap [] := va_S.rf
  have hl := lv_entry ([.ref h, .int (nI tt)]) (n := 2) (Nat.le_of_ble_eq_true rfl)
  rw [lg_entry_eq]
  generalize (lg_sl ([.ref h, .int (nI tt)]) ++ List.replicate (2 - (lg_sl ([.ref h, .int (nI tt)])).length) Slot.unset).toArray = ls at hl ⊢
  have hl : lv_has ls 2 [(0, .ref h), (1, .int (nI tt))] := hl
  refine lv_iload_n hx hb dX1_dayOf_0 rfl (lv_at hl 1 rfl) ?_
  refine lv_if_ltN (tgt := 19) hx hb (by omega) dX1_dayOf_1 (by decide) (fun c_1 => absurd c_1 id) (fun c_1 => ?_)
  refine lv_iload_n hx hb dX1_dayOf_4 rfl (lv_at hl 1 rfl) ?_
  refine lv_bipush (v := nI 32) hx hb dX1_dayOf_5 (by decide) ?_
  refine lv_icmp_geN (tgt := 19) hx hb (by omega) (by omega) dX1_dayOf_7 (by decide) (fun c_7 => absurd c_7 (by omega)) (fun c_7 => ?_)
  refine lv_aload_n hx hb dX1_dayOf_10 rfl (lv_at hl 0 rfl) ?_
  refine va_get (D := D) (ci := 1) (v := .ref da) (C := "FindLog$Finds") (T := TX1) (N := 3) hx hb hg inX1 hown hK hP 0 rfl rfl 0 (by decide) (hg _ k_64) (fun _ h9 => h9) rfl dX1_dayOf_11 ?_
  refine lv_iload_n hx hb dX1_dayOf_14 rfl (lv_at hl 1 rfl) ?_
  refine va_ialdN hx hb hK hP 1 0 rfl rfl (by omega) (by omega) dX1_dayOf_15 ?_
  refine lv_goto (tgt := 20) hx hb dX1_dayOf_16 (by decide) ?_
  exact W.iret (v := (fd tt)) hx hb hr (fun t ht hW => ⟨⟨(fd tt), (), rfl, rfl, trivial⟩, hS.F ht⟩) (fun q hq => (hS.2.2 q hq).elim) dX1_dayOf_20
set_option maxHeartbeats 4000000 in
set_option maxRecDepth 100000 in
theorem c_X1_countOf (l : Launch) (D : va_G) (kI : ClassId) (h da ca ya : Nat) (fd fc fy : Nat → Int32) (tt : Nat) (ht : tt < 32) : Met l yX1_countOf (.code yX1_countOf bX1_countOf 2 (some .int) :: GW) (rmL 0 0 0) (va_Pc [.ref h, .int (nI tt)] (pw_P D [(h, .inr (1, [.ref da, .ref ca, .ref ya])), (da, .inl (kI, 32, .inl fd)), (ca, .inl (kI, 32, .inl fc)), (ya, .inl (kI, 768, .inl fy))] [(kI, .int)])) (pw_Qi (fc tt)) 0 0 (fun _ => False) := by
  refine Met.ofW (cc := bX1_countOf) (maxL := 2) (ret := (some .int)) (by decide) rfl ?_
  intro p e s m args below meth c s₁ B hml hv
  obtain ⟨rfl, hP, hK, hN⟩ := hv
  have hx := B.exec
  have hb := B.bytes
  have hr := B.returns
  have hg : ∀ w ∈ GW, w.before _ s = true := fun w h => atoms_spec (ws := Cond.code yX1_countOf bX1_countOf 2 (some .int) :: GW) B.pre w (List.mem_cons_of_mem _ h)
  have hown : s.vm.findClass "FindLog$Finds" = some m.cls := findClass_of_methodNamed B.named
  have hlocks := B.notSynchronized
  have hS : va_S (fun _ => False) s.heap s.heap [] := va_S.rf
  have hl := lv_entry ([.ref h, .int (nI tt)]) (n := 2) (Nat.le_of_ble_eq_true rfl)
  rw [lg_entry_eq]
  generalize (lg_sl ([.ref h, .int (nI tt)]) ++ List.replicate (2 - (lg_sl ([.ref h, .int (nI tt)])).length) Slot.unset).toArray = ls at hl ⊢
  have hl : lv_has ls 2 [(0, .ref h), (1, .int (nI tt))] := hl
  refine lv_iload_n hx hb dX1_countOf_0 rfl (lv_at hl 1 rfl) ?_
  refine lv_if_ltN (tgt := 19) hx hb (by omega) dX1_countOf_1 (by decide) (fun c_1 => absurd c_1 id) (fun c_1 => ?_)
  refine lv_iload_n hx hb dX1_countOf_4 rfl (lv_at hl 1 rfl) ?_
  refine lv_bipush (v := nI 32) hx hb dX1_countOf_5 (by decide) ?_
  refine lv_icmp_geN (tgt := 19) hx hb (by omega) (by omega) dX1_countOf_7 (by decide) (fun c_7 => absurd c_7 (by omega)) (fun c_7 => ?_)
  refine lv_aload_n hx hb dX1_countOf_10 rfl (lv_at hl 0 rfl) ?_
  refine va_get (D := D) (ci := 1) (v := .ref ca) (C := "FindLog$Finds") (T := TX1) (N := 3) hx hb hg inX1 hown hK hP 0 rfl rfl 1 (by decide) (hg _ k_65) (fun _ h9 => h9) rfl dX1_countOf_11 ?_
  refine lv_iload_n hx hb dX1_countOf_14 rfl (lv_at hl 1 rfl) ?_
  refine va_ialdN hx hb hK hP 2 0 rfl rfl (by omega) (by omega) dX1_countOf_15 ?_
  refine lv_goto (tgt := 20) hx hb dX1_countOf_16 (by decide) ?_
  exact W.iret (v := (fc tt)) hx hb hr (fun t ht hW => ⟨⟨(fc tt), (), rfl, rfl, trivial⟩, hS.F ht⟩) (fun q hq => (hS.2.2 q hq).elim) dX1_countOf_20
set_option maxHeartbeats 4000000 in
set_option maxRecDepth 100000 in
theorem c_X1_byteOf (l : Launch) (D : va_G) (kI : ClassId) (h da ca ya : Nat) (fd fc fy : Nat → Int32) (tt i : Nat) (ht : tt < 32) (hi : i < 24) : Met l yX1_byteOf (.code yX1_byteOf bX1_byteOf 3 (some .int) :: GW) (rmL 0 0 0) (va_Pc [.ref h, .int (nI tt), .int (nI i)] (pw_P D [(h, .inr (1, [.ref da, .ref ca, .ref ya])), (da, .inl (kI, 32, .inl fd)), (ca, .inl (kI, 32, .inl fc)), (ya, .inl (kI, 768, .inl fy))] [(kI, .int)])) (pw_Qi (fy (tt * 24 + i))) 0 0 (fun _ => False) := by
  refine Met.ofW (cc := bX1_byteOf) (maxL := 3) (ret := (some .int)) (by decide) rfl ?_
  intro p e s m args below meth c s₁ B hml hv
  obtain ⟨rfl, hP, hK, hN⟩ := hv
  have hx := B.exec
  have hb := B.bytes
  have hr := B.returns
  have hg : ∀ w ∈ GW, w.before _ s = true := fun w h => atoms_spec (ws := Cond.code yX1_byteOf bX1_byteOf 3 (some .int) :: GW) B.pre w (List.mem_cons_of_mem _ h)
  have hown : s.vm.findClass "FindLog$Finds" = some m.cls := findClass_of_methodNamed B.named
  have hlocks := B.notSynchronized
  have hS : va_S (fun _ => False) s.heap s.heap [] := va_S.rf
  have hl := lv_entry ([.ref h, .int (nI tt), .int (nI i)]) (n := 3) (Nat.le_of_ble_eq_true rfl)
  rw [lg_entry_eq]
  generalize (lg_sl ([.ref h, .int (nI tt), .int (nI i)]) ++ List.replicate (3 - (lg_sl ([.ref h, .int (nI tt), .int (nI i)])).length) Slot.unset).toArray = ls at hl ⊢
  have hl : lv_has ls 3 [(0, .ref h), (1, .int (nI tt)), (2, .int (nI i))] := hl
  refine lv_iload_n hx hb dX1_byteOf_0 rfl (lv_at hl 1 rfl) ?_
  refine lv_if_ltN (tgt := 20) hx hb (by omega) dX1_byteOf_1 (by decide) (fun c_1 => absurd c_1 id) (fun c_1 => ?_)
  refine lv_iload_n hx hb dX1_byteOf_4 rfl (lv_at hl 1 rfl) ?_
  refine lv_bipush (v := nI 32) hx hb dX1_byteOf_5 (by decide) ?_
  refine lv_icmp_geN (tgt := 20) hx hb (by omega) (by omega) dX1_byteOf_7 (by decide) (fun c_7 => absurd c_7 (by omega)) (fun c_7 => ?_)
  refine lv_iload_n hx hb dX1_byteOf_10 rfl (lv_at hl 2 rfl) ?_
  refine lv_if_ltN (tgt := 20) hx hb (by omega) dX1_byteOf_11 (by decide) (fun c_11 => absurd c_11 id) (fun c_11 => ?_)
  refine lv_iload_n hx hb dX1_byteOf_14 rfl (lv_at hl 2 rfl) ?_
  refine lv_bipush (v := nI 24) hx hb dX1_byteOf_15 (by decide) ?_
  refine lv_icmp_ltN (tgt := 22) hx hb (by omega) (by omega) dX1_byteOf_17 (by decide) (fun c_17 => ?_) (fun c_17 => absurd c_17 (by omega))
  refine lv_aload_n hx hb dX1_byteOf_22 rfl (lv_at hl 0 rfl) ?_
  refine va_get (D := D) (ci := 1) (v := .ref ya) (C := "FindLog$Finds") (T := TX1) (N := 3) hx hb hg inX1 hown hK hP 0 rfl rfl 2 (by decide) (hg _ k_66) (fun _ h9 => h9) rfl dX1_byteOf_23 ?_
  refine lv_iload_n hx hb dX1_byteOf_26 rfl (lv_at hl 1 rfl) ?_
  refine lv_bipush (v := nI 24) hx hb dX1_byteOf_27 (by decide) ?_
  refine lv_imulN hx hb dX1_byteOf_29 ?_
  refine lv_iload_n hx hb dX1_byteOf_30 rfl (lv_at hl 2 rfl) ?_
  refine lv_iaddN hx hb dX1_byteOf_31 ?_
  refine va_ialdN hx hb hK hP 3 0 rfl rfl (by omega) (by omega) dX1_byteOf_32 ?_
  exact W.iret (v := (fy ((tt * 24) + i))) hx hb hr (fun t ht hW => ⟨⟨(fy ((tt * 24) + i)), (), rfl, rfl, trivial⟩, hS.F ht⟩) (fun q hq => (hS.2.2 q hq).elim) dX1_byteOf_33
set_option maxHeartbeats 4000000 in
set_option maxRecDepth 100000 in
/-- the latest act of a thing -/
theorem c_X1_keep (l : Launch) (D : va_G) (sz : Nat) (kI : ClassId) (h da ca ya : Nat) (fd fc fy : Nat → Int32) (b r cap n : Nat) (f : Nat → Int32) (tt : Nat) (dy : Int32) (q k : Nat) (ht : tt < 32) (hk : k ≤ 24) (hq : q + k ≤ n) (hn : n ≤ cap) (hc : cap < 2 ^ 31) : Met l yX1_keep (.code yX1_keep bX1_keep 7 none :: GW) (rmL 1 0 0) (va_Pc [.ref h, .int (nI tt), .int dy, .ref b, .int (nI q), .int (nI k)] (ww_P D sz [(h, .inr (1, [.ref da, .ref ca, .ref ya])), (da, .inl (kI, 32, .inl fd)), (ca, .inl (kI, 32, .inl fc)), (ya, .inl (kI, 768, .inl fy)), (b, .inr (0, [.ref r, .int (nI n)])), (r, .inl (kI, cap, .inl f))] [(kI, .int)])) (va_Qv (fun (u : Unit) => True) (fun (u : Unit) => ww_B D (va_A [(h, .inr (1, [.ref da, .ref ca, .ref ya])), (da, .inl (kI, 32, .inl fd)), (ca, .inl (kI, 32, .inl fc)), (ya, .inl (kI, 768, .inl fy)), (b, .inr (0, [.ref r, .int (nI n)])), (r, .inl (kI, cap, .inl f))] sz) [(h, .inr (1, [.ref da, .ref ca, .ref ya])), (da, .inl (kI, 32, .inl (upd fd tt dy))), (ca, .inl (kI, 32, .inl (upd fc tt (nI k)))), (ya, .inl (kI, 768, .inl (va_cpy f fy q (tt * 24) k))), (b, .inr (0, [.ref r, .int (nI n)])), (r, .inl (kI, cap, .inl f))] [(kI, .int)]) (va_A [(h, .inr (1, [.ref da, .ref ca, .ref ya])), (da, .inl (kI, 32, .inl fd)), (ca, .inl (kI, 32, .inl fc)), (ya, .inl (kI, 768, .inl fy)), (b, .inr (0, [.ref r, .int (nI n)])), (r, .inl (kI, cap, .inl f))] sz)) 0 0 (va_A [(h, .inr (1, [.ref da, .ref ca, .ref ya])), (da, .inl (kI, 32, .inl fd)), (ca, .inl (kI, 32, .inl fc)), (ya, .inl (kI, 768, .inl fy)), (b, .inr (0, [.ref r, .int (nI n)])), (r, .inl (kI, cap, .inl f))] sz) := by
  refine Met.ofW (cc := bX1_keep) (maxL := 7) (ret := none) (by decide) rfl ?_
  intro p e s m args below meth c s₁ B hml hv
  obtain ⟨rfl, hsz, hP, hK, hD0, hN⟩ := hv
  have hx := B.exec
  have hb := B.bytes
  have hr := B.returns
  have hg : ∀ w ∈ GW, w.before _ s = true := fun w h => atoms_spec (ws := Cond.code yX1_keep bX1_keep 7 none :: GW) B.pre w (List.mem_cons_of_mem _ h)
  have hown : s.vm.findClass "FindLog$Finds" = some m.cls := findClass_of_methodNamed B.named
  have hlocks := B.notSynchronized
  subst hsz
  have hD := hD0.self (sz := s.heap.size)
  generalize hAe : va_A [(h, .inr (1, [.ref da, .ref ca, .ref ya])), (da, .inl (kI, 32, .inl fd)), (ca, .inl (kI, 32, .inl fc)), (ya, .inl (kI, 768, .inl fy)), (b, .inr (0, [.ref r, .int (nI n)])), (r, .inl (kI, cap, .inl f))] s.heap.size = A at hD ⊢
  have hA : ∀ q : Nat, s.heap.size ≤ q → A q := fun q h => by rw [← hAe]; exact Or.inr h
  have hS : va_S A s.heap s.heap [] := va_S.rf
  have hl := lv_entry ([.ref h, .int (nI tt), .int dy, .ref b, .int (nI q), .int (nI k)]) (n := 7) (Nat.le_of_ble_eq_true rfl)
  rw [lg_entry_eq]
  generalize (lg_sl ([.ref h, .int (nI tt), .int dy, .ref b, .int (nI q), .int (nI k)]) ++ List.replicate (7 - (lg_sl ([.ref h, .int (nI tt), .int dy, .ref b, .int (nI q), .int (nI k)])).length) Slot.unset).toArray = ls at hl ⊢
  have hl : lv_has ls 7 [(0, .ref h), (1, .int (nI tt)), (2, .int dy), (3, .ref b), (4, .int (nI q)), (5, .int (nI k))] := hl
  refine lv_iload_n hx hb dX1_keep_0 rfl (lv_at hl 1 rfl) ?_
  refine lv_if_ltN (tgt := 22) hx hb (by omega) dX1_keep_1 (by decide) (fun c_1 => absurd c_1 id) (fun c_1 => ?_)
  refine lv_iload_n hx hb dX1_keep_4 rfl (lv_at hl 1 rfl) ?_
  refine lv_bipush (v := nI 32) hx hb dX1_keep_5 (by decide) ?_
  refine lv_icmp_geN (tgt := 22) hx hb (by omega) (by omega) dX1_keep_7 (by decide) (fun c_7 => absurd c_7 (by omega)) (fun c_7 => ?_)
  refine lv_iload hx hb dX1_keep_10 (lv_at hl 5 rfl) ?_
  refine lv_if_ltN (tgt := 22) hx hb (by omega) dX1_keep_12 (by decide) (fun c_12 => absurd c_12 id) (fun c_12 => ?_)
  refine lv_iload hx hb dX1_keep_15 (lv_at hl 5 rfl) ?_
  refine lv_bipush (v := nI 24) hx hb dX1_keep_17 (by decide) ?_
  refine lv_icmp_leN (tgt := 23) hx hb (by omega) (by omega) dX1_keep_19 (by decide) (fun c_19 => ?_) (fun c_19 => absurd c_19 (by omega))
  refine lv_aload_n hx hb dX1_keep_23 rfl (lv_at hl 0 rfl) ?_
  refine va_get (D := D) (ci := 1) (v := .ref da) (C := "FindLog$Finds") (T := TX1) (N := 3) hx hb hg inX1 hown hK hP 0 rfl rfl 0 (by decide) (hg _ k_64) (fun _ h9 => h9) rfl dX1_keep_24 ?_
  refine lv_iload_n hx hb dX1_keep_27 rfl (lv_at hl 1 rfl) ?_
  refine lv_iload_n hx hb dX1_keep_28 rfl (lv_at hl 2 rfl) ?_
  refine va_iastN hx hb hK hP hD hS 1 0 rfl rfl (by omega) (by omega) dX1_keep_29 (fun H locs hP hD hS => ?_)
  have hP : va_P D vwC [(h, .inr (1, [.ref da, .ref ca, .ref ya])), (da, .inl (kI, 32, .inl (upd fd tt dy))), (ca, .inl (kI, 32, .inl fc)), (ya, .inl (kI, 768, .inl fy)), (b, .inr (0, [.ref r, .int (nI n)])), (r, .inl (kI, cap, .inl f))] H := hP
  have hD : va_D A [(h, .inr (1, [.ref da, .ref ca, .ref ya])), (da, .inl (kI, 32, .inl (upd fd tt dy))), (ca, .inl (kI, 32, .inl fc)), (ya, .inl (kI, 768, .inl fy)), (b, .inr (0, [.ref r, .int (nI n)])), (r, .inl (kI, cap, .inl f))] := hD
  refine lv_aload_n hx hb dX1_keep_30 rfl (lv_at hl 0 rfl) ?_
  refine va_get (D := D) (ci := 1) (v := .ref ca) (C := "FindLog$Finds") (T := TX1) (N := 3) hx hb hg inX1 hown hK hP 0 rfl rfl 1 (by decide) (hg _ k_65) (fun _ h9 => h9) rfl dX1_keep_31 ?_
  refine lv_iload_n hx hb dX1_keep_34 rfl (lv_at hl 1 rfl) ?_
  refine lv_iload hx hb dX1_keep_35 (lv_at hl 5 rfl) ?_
  refine va_iastN hx hb hK hP hD hS 2 0 rfl rfl (by omega) (by omega) dX1_keep_37 (fun H locs hP hD hS => ?_)
  have hP : va_P D vwC [(h, .inr (1, [.ref da, .ref ca, .ref ya])), (da, .inl (kI, 32, .inl (upd fd tt dy))), (ca, .inl (kI, 32, .inl (upd fc tt (nI k)))), (ya, .inl (kI, 768, .inl fy)), (b, .inr (0, [.ref r, .int (nI n)])), (r, .inl (kI, cap, .inl f))] H := hP
  have hD : va_D A [(h, .inr (1, [.ref da, .ref ca, .ref ya])), (da, .inl (kI, 32, .inl (upd fd tt dy))), (ca, .inl (kI, 32, .inl (upd fc tt (nI k)))), (ya, .inl (kI, 768, .inl fy)), (b, .inr (0, [.ref r, .int (nI n)])), (r, .inl (kI, cap, .inl f))] := hD
  refine lv_iconst (v := nI 0) hx hb dX1_keep_38 (by decide) ?_
  refine lv_istore (lv' := [(6, .int (nI 0)), (0, .ref h), (1, .int (nI tt)), (2, .int dy), (3, .ref b), (4, .int (nI q)), (5, .int (nI k))]) hx hb dX1_keep_39 hl (by decide) rfl (fun ls hl => ?_)
  have key : ∀ (e9 : Nat) (i : Nat) (H : Heap) (locs : List Loc) (ls : Array Slot), i + e9 = k → va_P D vwC [(h, .inr (1, [.ref da, .ref ca, .ref ya])), (da, .inl (kI, 32, .inl (upd fd tt dy))), (ca, .inl (kI, 32, .inl (upd fc tt (nI k)))), (ya, .inl (kI, 768, .inl (fx_kp fy (tt * 24) f q i))), (b, .inr (0, [.ref r, .int (nI n)])), (r, .inl (kI, cap, .inl f))] H → va_D A [(h, .inr (1, [.ref da, .ref ca, .ref ya])), (da, .inl (kI, 32, .inl (upd fd tt dy))), (ca, .inl (kI, 32, .inl (upd fc tt (nI k)))), (ya, .inl (kI, 768, .inl (fx_kp fy (tt * 24) f q i))), (b, .inr (0, [.ref r, .int (nI n)])), (r, .inl (kI, cap, .inl f))] → va_S A s.heap H locs → lv_has ls 7 [(6, .int (nI i)), (0, .ref h), (1, .int (nI tt)), (2, .int dy), (3, .ref b), (4, .int (nI q)), (5, .int (nI k))] → W p l e (rmL 1 0 0) s m ([.ref h, .int (nI tt), .int dy, .ref b, .int (nI q), .int (nI k)] : List Value).toArray below meth c H locs 0 0 (MQ below (va_Qv (fun (u : Unit) => True) (fun (u : Unit) => ww_B D A [(h, .inr (1, [.ref da, .ref ca, .ref ya])), (da, .inl (kI, 32, .inl (upd fd tt dy))), (ca, .inl (kI, 32, .inl (upd fc tt (nI k)))), (ya, .inl (kI, 768, .inl (va_cpy f fy q (tt * 24) k))), (b, .inr (0, [.ref r, .int (nI n)])), (r, .inl (kI, cap, .inl f))] [(kI, .int)]) A) ([.ref h, .int (nI tt), .int dy, .ref b, .int (nI q), .int (nI k)] : List Value).toArray s 0 0 A) (F0 m 41 ls []) := by
    intro e9
    induction e9 with
    | zero =>
      intro i H locs ls hd hP hD hS hl
      refine lv_iload hx hb dX1_keep_41 (lv_at hl 0 rfl) ?_
      refine lv_iload hx hb dX1_keep_43 (lv_at hl 6 rfl) ?_
      refine lv_icmp_geN (tgt := 75) hx hb (by omega) (by omega) dX1_keep_45 (by decide) (fun c_45 => ?_) (fun c_45 => absurd c_45 (by omega))
      obtain rfl : i = k := by omega
      rw [fx_kp_eq] at hP hD
      exact W.vret hx hb hr (fun t ht hW => ⟨⟨(), rfl, trivial, by rw [ht]; exact hP, va_K.moved hW.alike hK, hD⟩, hS.F ht⟩) hS.2.2 dX1_keep_75
    | succ e9 ih =>
      intro i H locs ls hd hP hD hS hl
      refine lv_iload hx hb dX1_keep_41 (lv_at hl 0 rfl) ?_
      refine lv_iload hx hb dX1_keep_43 (lv_at hl 6 rfl) ?_
      refine lv_icmp_geN (tgt := 75) hx hb (by omega) (by omega) dX1_keep_45 (by decide) (fun c_45 => absurd c_45 (by omega)) (fun c_45 => ?_)
      refine lv_aload_n hx hb dX1_keep_48 rfl (lv_at hl 1 rfl) ?_
      refine va_get (D := D) (ci := 1) (v := .ref ya) (C := "FindLog$Finds") (T := TX1) (N := 3) hx hb hg inX1 hown hK hP 0 rfl rfl 2 (by decide) (hg _ k_66) (fun _ h9 => h9) rfl dX1_keep_49 ?_
      refine lv_iload_n hx hb dX1_keep_52 rfl (lv_at hl 2 rfl) ?_
      refine lv_bipush (v := nI 24) hx hb dX1_keep_53 (by decide) ?_
      refine lv_imulN hx hb dX1_keep_55 ?_
      refine lv_iload hx hb dX1_keep_56 (lv_at hl 0 rfl) ?_
      refine lv_iaddN hx hb dX1_keep_58 ?_
      refine lv_aload_n hx hb dX1_keep_59 rfl (lv_at hl 4 rfl) ?_
      refine lv_iload hx hb dX1_keep_60 (lv_at hl 5 rfl) ?_
      refine lv_iload hx hb dX1_keep_62 (lv_at hl 0 rfl) ?_
      refine lv_iaddN hx hb dX1_keep_64 ?_
      refine pw_calli (va_runV (As := [.int (nI (q + i))]) (rest := [.int (nI ((tt * 24) + i)), .ref ya]) ⟨hx, hb, hml, hown, hg⟩ (c_X0_get l D b r kI cap n f (q + i) (by omega) hn hc) (cwV 1 hg (gw_V k_343 k_326 k_327 k_23 k_328) rfl rfl rfl (by decide +kernel) ⟨Nat.le_of_ble_eq_true rfl, Nat.le_of_ble_eq_true rfl⟩) ⟨pw_blind, va_recv hK hP (ci := 0) (q0 := 4) rfl rfl, pw_pre (hP.sub (ws' := [(b, .inr (0, [.ref r, .int (nI n)])), (r, .inl (kI, cap, .inl f))]) [4, 5] rfl) (hK.sub (tys' := [(kI, .int)]) [0] rfl) hN⟩ rfl rfl hl.1 rfl (lv_room (Nat.le_of_ble_eq_true rfl)) dX1_keep_65 ⟨Nat.le_of_ble_eq_true rfl, Nat.le_of_ble_eq_true rfl⟩) hS hP (fun H locs hP hS => ?_)
      refine va_iastN hx hb hK hP hD hS 3 0 rfl rfl (by omega) (by omega) dX1_keep_68 (fun H locs hP hD hS => ?_)
      have hP : va_P D vwC [(h, .inr (1, [.ref da, .ref ca, .ref ya])), (da, .inl (kI, 32, .inl (upd fd tt dy))), (ca, .inl (kI, 32, .inl (upd fc tt (nI k)))), (ya, .inl (kI, 768, .inl (upd (fx_kp fy (tt * 24) f q i) ((tt * 24) + i) (f (q + i))))), (b, .inr (0, [.ref r, .int (nI n)])), (r, .inl (kI, cap, .inl f))] H := hP
      have hD : va_D A [(h, .inr (1, [.ref da, .ref ca, .ref ya])), (da, .inl (kI, 32, .inl (upd fd tt dy))), (ca, .inl (kI, 32, .inl (upd fc tt (nI k)))), (ya, .inl (kI, 768, .inl (upd (fx_kp fy (tt * 24) f q i) ((tt * 24) + i) (f (q + i))))), (b, .inr (0, [.ref r, .int (nI n)])), (r, .inl (kI, cap, .inl f))] := hD
      refine lv_iincN (x := i) (j := 1) (lv' := [(6, .int (nI (i + 1))), (0, .ref h), (1, .int (nI tt)), (2, .int dy), (3, .ref b), (4, .int (nI q)), (5, .int (nI k))]) hx hb dX1_keep_69 hl (k := 0) rfl (by decide) (by decide) rfl (fun ls hl => ?_)
      refine lv_goto (tgt := 41) hx hb dX1_keep_72 (by decide) ?_
      exact ih (i + 1) _ _ _ (by omega) hP hD hS (lv_sub hl [0, 1, 2, 3, 4, 5, 6] rfl)
  exact key k 0 _ _ _ (by omega) hP hD hS (lv_sub hl [0, 1, 2, 3, 4, 5, 6] rfl)
set_option maxHeartbeats 4000000 in
set_option maxRecDepth 100000 in
/-- all that another holds -/
theorem c_X1_takeAll (l : Launch) (D : va_G) (sz : Nat) (kI : ClassId) (h da ca ya : Nat) (fd fc fy : Nat → Int32) (h2 d2 c2 y2 : Nat) (gd gc gy : Nat → Int32)  : Met l yX1_takeAll (.code yX1_takeAll bX1_takeAll 2 none :: GW) (rmL 0 0 0) (va_Pc [.ref h, .ref h2] (ww_P D sz [(h, .inr (1, [.ref da, .ref ca, .ref ya])), (da, .inl (kI, 32, .inl fd)), (ca, .inl (kI, 32, .inl fc)), (ya, .inl (kI, 768, .inl fy)), (h2, .inr (1, [.ref d2, .ref c2, .ref y2])), (d2, .inl (kI, 32, .inl gd)), (c2, .inl (kI, 32, .inl gc)), (y2, .inl (kI, 768, .inl gy))] [(kI, .int)])) (va_Qv (fun (u : Unit) => True) (fun (u : Unit) => ww_B D (va_A [(h, .inr (1, [.ref da, .ref ca, .ref ya])), (da, .inl (kI, 32, .inl fd)), (ca, .inl (kI, 32, .inl fc)), (ya, .inl (kI, 768, .inl fy)), (h2, .inr (1, [.ref d2, .ref c2, .ref y2])), (d2, .inl (kI, 32, .inl gd)), (c2, .inl (kI, 32, .inl gc)), (y2, .inl (kI, 768, .inl gy))] sz) [(h, .inr (1, [.ref da, .ref ca, .ref ya])), (da, .inl (kI, 32, .inl gd)), (ca, .inl (kI, 32, .inl gc)), (ya, .inl (kI, 768, .inl gy)), (h2, .inr (1, [.ref d2, .ref c2, .ref y2])), (d2, .inl (kI, 32, .inl gd)), (c2, .inl (kI, 32, .inl gc)), (y2, .inl (kI, 768, .inl gy))] [(kI, .int)]) (va_A [(h, .inr (1, [.ref da, .ref ca, .ref ya])), (da, .inl (kI, 32, .inl fd)), (ca, .inl (kI, 32, .inl fc)), (ya, .inl (kI, 768, .inl fy)), (h2, .inr (1, [.ref d2, .ref c2, .ref y2])), (d2, .inl (kI, 32, .inl gd)), (c2, .inl (kI, 32, .inl gc)), (y2, .inl (kI, 768, .inl gy))] sz)) 0 0 (va_A [(h, .inr (1, [.ref da, .ref ca, .ref ya])), (da, .inl (kI, 32, .inl fd)), (ca, .inl (kI, 32, .inl fc)), (ya, .inl (kI, 768, .inl fy)), (h2, .inr (1, [.ref d2, .ref c2, .ref y2])), (d2, .inl (kI, 32, .inl gd)), (c2, .inl (kI, 32, .inl gc)), (y2, .inl (kI, 768, .inl gy))] sz) := by
  refine Met.ofW (cc := bX1_takeAll) (maxL := 2) (ret := none) (by decide) rfl ?_
  intro p e s m args below meth c s₁ B hml hv
  obtain ⟨rfl, hsz, hP, hK, hD0, hN⟩ := hv
  have hx := B.exec
  have hb := B.bytes
  have hr := B.returns
  have hg : ∀ w ∈ GW, w.before _ s = true := fun w h => atoms_spec (ws := Cond.code yX1_takeAll bX1_takeAll 2 none :: GW) B.pre w (List.mem_cons_of_mem _ h)
  have hown : s.vm.findClass "FindLog$Finds" = some m.cls := findClass_of_methodNamed B.named
  have hlocks := B.notSynchronized
  subst hsz
  have hD := hD0.self (sz := s.heap.size)
  generalize hAe : va_A [(h, .inr (1, [.ref da, .ref ca, .ref ya])), (da, .inl (kI, 32, .inl fd)), (ca, .inl (kI, 32, .inl fc)), (ya, .inl (kI, 768, .inl fy)), (h2, .inr (1, [.ref d2, .ref c2, .ref y2])), (d2, .inl (kI, 32, .inl gd)), (c2, .inl (kI, 32, .inl gc)), (y2, .inl (kI, 768, .inl gy))] s.heap.size = A at hD ⊢
  have hA : ∀ q : Nat, s.heap.size ≤ q → A q := fun q h => by rw [← hAe]; exact Or.inr h
  have hS : va_S A s.heap s.heap [] := va_S.rf
  have hl := lv_entry ([.ref h, .ref h2]) (n := 2) (Nat.le_of_ble_eq_true rfl)
  rw [lg_entry_eq]
  generalize (lg_sl ([.ref h, .ref h2]) ++ List.replicate (2 - (lg_sl ([.ref h, .ref h2])).length) Slot.unset).toArray = ls at hl ⊢
  have hl : lv_has ls 2 [(0, .ref h), (1, .ref h2)] := hl
  refine lv_aload_n hx hb dX1_takeAll_0 rfl (lv_at hl 1 rfl) ?_
  refine va_get (D := D) (ci := 1) (v := .ref d2) (C := "FindLog$Finds") (T := TX1) (N := 3) hx hb hg inX1 hown hK hP 4 rfl rfl 0 (by decide) (hg _ k_64) (fun _ h9 => h9) rfl dX1_takeAll_1 ?_
  refine lv_iconst (v := nI 0) hx hb dX1_takeAll_4 (by decide) ?_
  refine lv_aload_n hx hb dX1_takeAll_5 rfl (lv_at hl 0 rfl) ?_
  refine va_get (D := D) (ci := 1) (v := .ref da) (C := "FindLog$Finds") (T := TX1) (N := 3) hx hb hg inX1 hown hK hP 0 rfl rfl 0 (by decide) (hg _ k_64) (fun _ h9 => h9) rfl dX1_takeAll_6 ?_
  refine lv_iconst (v := nI 0) hx hb dX1_takeAll_9 (by decide) ?_
  refine lv_bipush (v := nI 32) hx hb dX1_takeAll_10 (by decide) ?_
  refine va_copyiN (sp := 0) (dp := 0) (n := 32) hx hb (hml.trans hl.1.symm) hown (hg _ k_385) (hg _ k_380) (hg _ k_379) (hg _ k_34) hK hP hD hS 5 1 0 0 rfl rfl rfl rfl (by omega) (by omega) (by omega) (by omega) (Nat.le_of_ble_eq_true rfl) (Nat.le_of_ble_eq_true rfl) dX1_takeAll_12 (fun H locs hP hD hS => ?_)
  have hP : va_P D vwC [(h, .inr (1, [.ref da, .ref ca, .ref ya])), (da, .inl (kI, 32, .inl (va_cpy gd fd 0 0 32))), (ca, .inl (kI, 32, .inl fc)), (ya, .inl (kI, 768, .inl fy)), (h2, .inr (1, [.ref d2, .ref c2, .ref y2])), (d2, .inl (kI, 32, .inl gd)), (c2, .inl (kI, 32, .inl gc)), (y2, .inl (kI, 768, .inl gy))] H := hP
  have hD : va_D A [(h, .inr (1, [.ref da, .ref ca, .ref ya])), (da, .inl (kI, 32, .inl (va_cpy gd fd 0 0 32))), (ca, .inl (kI, 32, .inl fc)), (ya, .inl (kI, 768, .inl fy)), (h2, .inr (1, [.ref d2, .ref c2, .ref y2])), (d2, .inl (kI, 32, .inl gd)), (c2, .inl (kI, 32, .inl gc)), (y2, .inl (kI, 768, .inl gy))] := hD
  refine lv_aload_n hx hb dX1_takeAll_15 rfl (lv_at hl 1 rfl) ?_
  refine va_get (D := D) (ci := 1) (v := .ref c2) (C := "FindLog$Finds") (T := TX1) (N := 3) hx hb hg inX1 hown hK hP 4 rfl rfl 1 (by decide) (hg _ k_65) (fun _ h9 => h9) rfl dX1_takeAll_16 ?_
  refine lv_iconst (v := nI 0) hx hb dX1_takeAll_19 (by decide) ?_
  refine lv_aload_n hx hb dX1_takeAll_20 rfl (lv_at hl 0 rfl) ?_
  refine va_get (D := D) (ci := 1) (v := .ref ca) (C := "FindLog$Finds") (T := TX1) (N := 3) hx hb hg inX1 hown hK hP 0 rfl rfl 1 (by decide) (hg _ k_65) (fun _ h9 => h9) rfl dX1_takeAll_21 ?_
  refine lv_iconst (v := nI 0) hx hb dX1_takeAll_24 (by decide) ?_
  refine lv_bipush (v := nI 32) hx hb dX1_takeAll_25 (by decide) ?_
  refine va_copyiN (sp := 0) (dp := 0) (n := 32) hx hb (hml.trans hl.1.symm) hown (hg _ k_385) (hg _ k_380) (hg _ k_379) (hg _ k_34) hK hP hD hS 6 2 0 0 rfl rfl rfl rfl (by omega) (by omega) (by omega) (by omega) (Nat.le_of_ble_eq_true rfl) (Nat.le_of_ble_eq_true rfl) dX1_takeAll_27 (fun H locs hP hD hS => ?_)
  have hP : va_P D vwC [(h, .inr (1, [.ref da, .ref ca, .ref ya])), (da, .inl (kI, 32, .inl (va_cpy gd fd 0 0 32))), (ca, .inl (kI, 32, .inl (va_cpy gc fc 0 0 32))), (ya, .inl (kI, 768, .inl fy)), (h2, .inr (1, [.ref d2, .ref c2, .ref y2])), (d2, .inl (kI, 32, .inl gd)), (c2, .inl (kI, 32, .inl gc)), (y2, .inl (kI, 768, .inl gy))] H := hP
  have hD : va_D A [(h, .inr (1, [.ref da, .ref ca, .ref ya])), (da, .inl (kI, 32, .inl (va_cpy gd fd 0 0 32))), (ca, .inl (kI, 32, .inl (va_cpy gc fc 0 0 32))), (ya, .inl (kI, 768, .inl fy)), (h2, .inr (1, [.ref d2, .ref c2, .ref y2])), (d2, .inl (kI, 32, .inl gd)), (c2, .inl (kI, 32, .inl gc)), (y2, .inl (kI, 768, .inl gy))] := hD
  refine lv_aload_n hx hb dX1_takeAll_30 rfl (lv_at hl 1 rfl) ?_
  refine va_get (D := D) (ci := 1) (v := .ref y2) (C := "FindLog$Finds") (T := TX1) (N := 3) hx hb hg inX1 hown hK hP 4 rfl rfl 2 (by decide) (hg _ k_66) (fun _ h9 => h9) rfl dX1_takeAll_31 ?_
  refine lv_iconst (v := nI 0) hx hb dX1_takeAll_34 (by decide) ?_
  refine lv_aload_n hx hb dX1_takeAll_35 rfl (lv_at hl 0 rfl) ?_
  refine va_get (D := D) (ci := 1) (v := .ref ya) (C := "FindLog$Finds") (T := TX1) (N := 3) hx hb hg inX1 hown hK hP 0 rfl rfl 2 (by decide) (hg _ k_66) (fun _ h9 => h9) rfl dX1_takeAll_36 ?_
  refine lv_iconst (v := nI 0) hx hb dX1_takeAll_39 (by decide) ?_
  refine lv_sipush (v := nI 768) hx hb dX1_takeAll_40 (by decide) ?_
  refine va_copyiN (sp := 0) (dp := 0) (n := 768) hx hb (hml.trans hl.1.symm) hown (hg _ k_385) (hg _ k_380) (hg _ k_379) (hg _ k_34) hK hP hD hS 7 3 0 0 rfl rfl rfl rfl (by omega) (by omega) (by omega) (by omega) (Nat.le_of_ble_eq_true rfl) (Nat.le_of_ble_eq_true rfl) dX1_takeAll_43 (fun H locs hP hD hS => ?_)
  have hP : va_P D vwC [(h, .inr (1, [.ref da, .ref ca, .ref ya])), (da, .inl (kI, 32, .inl (va_cpy gd fd 0 0 32))), (ca, .inl (kI, 32, .inl (va_cpy gc fc 0 0 32))), (ya, .inl (kI, 768, .inl (va_cpy gy fy 0 0 768))), (h2, .inr (1, [.ref d2, .ref c2, .ref y2])), (d2, .inl (kI, 32, .inl gd)), (c2, .inl (kI, 32, .inl gc)), (y2, .inl (kI, 768, .inl gy))] H := hP
  have hD : va_D A [(h, .inr (1, [.ref da, .ref ca, .ref ya])), (da, .inl (kI, 32, .inl (va_cpy gd fd 0 0 32))), (ca, .inl (kI, 32, .inl (va_cpy gc fc 0 0 32))), (ya, .inl (kI, 768, .inl (va_cpy gy fy 0 0 768))), (h2, .inr (1, [.ref d2, .ref c2, .ref y2])), (d2, .inl (kI, 32, .inl gd)), (c2, .inl (kI, 32, .inl gc)), (y2, .inl (kI, 768, .inl gy))] := hD
  have hP := ((hP.ext (g := gd) 1 rfl cpy_all).ext (g := gc) 2 rfl cpy_all).ext (g := gy) 3 rfl cpy_all
  have hD := ((hD.set (e := .inl (kI, 32, .inl gd)) (p := 1) rfl).set (e := .inl (kI, 32, .inl gc)) (p := 2) rfl).set (e := .inl (kI, 768, .inl gy)) (p := 3) rfl
  exact W.vret hx hb hr (fun t ht hW => ⟨⟨(), rfl, trivial, by rw [ht]; exact hP, va_K.moved hW.alike hK, hD⟩, hS.F ht⟩) hS.2.2 dX1_takeAll_46
set_option maxHeartbeats 4000000 in
set_option maxRecDepth 100000 in
/-- a part of what another holds -/
theorem c_X1_takePart (l : Launch) (D : va_G) (sz : Nat) (kI : ClassId) (h da ca ya : Nat) (fd fc fy : Nat → Int32) (h2 d2 c2 y2 : Nat) (gd gc gy : Nat → Int32) (p0 : Nat) (hp : p0 < 4) : Met l yX1_takePart (.code yX1_takePart bX1_takePart 5 none :: GW) (rmL 0 0 0) (va_Pc [.ref h, .ref h2, .int (nI p0)] (ww_P D sz [(h, .inr (1, [.ref da, .ref ca, .ref ya])), (da, .inl (kI, 32, .inl fd)), (ca, .inl (kI, 32, .inl fc)), (ya, .inl (kI, 768, .inl fy)), (h2, .inr (1, [.ref d2, .ref c2, .ref y2])), (d2, .inl (kI, 32, .inl gd)), (c2, .inl (kI, 32, .inl gc)), (y2, .inl (kI, 768, .inl gy))] [(kI, .int)])) (va_Qv (fun (u : Unit) => True) (fun (u : Unit) => ww_B D (va_A [(h, .inr (1, [.ref da, .ref ca, .ref ya])), (da, .inl (kI, 32, .inl fd)), (ca, .inl (kI, 32, .inl fc)), (ya, .inl (kI, 768, .inl fy)), (h2, .inr (1, [.ref d2, .ref c2, .ref y2])), (d2, .inl (kI, 32, .inl gd)), (c2, .inl (kI, 32, .inl gc)), (y2, .inl (kI, 768, .inl gy))] sz) [(h, .inr (1, [.ref da, .ref ca, .ref ya])), (da, .inl (kI, 32, .inl (pt_d gd fd p0))), (ca, .inl (kI, 32, .inl (pt_d gc fc p0))), (ya, .inl (kI, 768, .inl (pt_y gy fy p0))), (h2, .inr (1, [.ref d2, .ref c2, .ref y2])), (d2, .inl (kI, 32, .inl gd)), (c2, .inl (kI, 32, .inl gc)), (y2, .inl (kI, 768, .inl gy))] [(kI, .int)]) (va_A [(h, .inr (1, [.ref da, .ref ca, .ref ya])), (da, .inl (kI, 32, .inl fd)), (ca, .inl (kI, 32, .inl fc)), (ya, .inl (kI, 768, .inl fy)), (h2, .inr (1, [.ref d2, .ref c2, .ref y2])), (d2, .inl (kI, 32, .inl gd)), (c2, .inl (kI, 32, .inl gc)), (y2, .inl (kI, 768, .inl gy))] sz)) 0 0 (va_A [(h, .inr (1, [.ref da, .ref ca, .ref ya])), (da, .inl (kI, 32, .inl fd)), (ca, .inl (kI, 32, .inl fc)), (ya, .inl (kI, 768, .inl fy)), (h2, .inr (1, [.ref d2, .ref c2, .ref y2])), (d2, .inl (kI, 32, .inl gd)), (c2, .inl (kI, 32, .inl gc)), (y2, .inl (kI, 768, .inl gy))] sz) := by
  refine Met.ofW (cc := bX1_takePart) (maxL := 5) (ret := none) (by decide) rfl ?_
  intro p e s m args below meth c s₁ B hml hv
  obtain ⟨rfl, hsz, hP, hK, hD0, hN⟩ := hv
  have hx := B.exec
  have hb := B.bytes
  have hr := B.returns
  have hg : ∀ w ∈ GW, w.before _ s = true := fun w h => atoms_spec (ws := Cond.code yX1_takePart bX1_takePart 5 none :: GW) B.pre w (List.mem_cons_of_mem _ h)
  have hown : s.vm.findClass "FindLog$Finds" = some m.cls := findClass_of_methodNamed B.named
  have hlocks := B.notSynchronized
  subst hsz
  have hD := hD0.self (sz := s.heap.size)
  generalize hAe : va_A [(h, .inr (1, [.ref da, .ref ca, .ref ya])), (da, .inl (kI, 32, .inl fd)), (ca, .inl (kI, 32, .inl fc)), (ya, .inl (kI, 768, .inl fy)), (h2, .inr (1, [.ref d2, .ref c2, .ref y2])), (d2, .inl (kI, 32, .inl gd)), (c2, .inl (kI, 32, .inl gc)), (y2, .inl (kI, 768, .inl gy))] s.heap.size = A at hD ⊢
  have hA : ∀ q : Nat, s.heap.size ≤ q → A q := fun q h => by rw [← hAe]; exact Or.inr h
  have hS : va_S A s.heap s.heap [] := va_S.rf
  have hl := lv_entry ([.ref h, .ref h2, .int (nI p0)]) (n := 5) (Nat.le_of_ble_eq_true rfl)
  rw [lg_entry_eq]
  generalize (lg_sl ([.ref h, .ref h2, .int (nI p0)]) ++ List.replicate (5 - (lg_sl ([.ref h, .ref h2, .int (nI p0)])).length) Slot.unset).toArray = ls at hl ⊢
  have hl : lv_has ls 5 [(0, .ref h), (1, .ref h2), (2, .int (nI p0))] := hl
  refine lv_iload_n hx hb dX1_takePart_0 rfl (lv_at hl 2 rfl) ?_
  refine lv_if_geN (tgt := 5) hx hb (by omega) dX1_takePart_1 (by decide) (fun c_1 => ?_) (fun c_1 => absurd c_1 (fun h => h))
  refine lv_iload_n hx hb dX1_takePart_5 rfl (lv_at hl 2 rfl) ?_
  refine lv_istore_n (lv' := [(3, .int (nI p0)), (0, .ref h), (1, .ref h2), (2, .int (nI p0))]) hx hb dX1_takePart_6 rfl hl (by decide) rfl (fun ls hl => ?_)
  have key : ∀ (e9 : Nat) (i : Nat) (H : Heap) (locs : List Loc) (ls : Array Slot), i + e9 = 8 → va_P D vwC [(h, .inr (1, [.ref da, .ref ca, .ref ya])), (da, .inl (kI, 32, .inl (fx_td gd fd p0 i))), (ca, .inl (kI, 32, .inl (fx_td gc fc p0 i))), (ya, .inl (kI, 768, .inl (fx_ty gy fy p0 i))), (h2, .inr (1, [.ref d2, .ref c2, .ref y2])), (d2, .inl (kI, 32, .inl gd)), (c2, .inl (kI, 32, .inl gc)), (y2, .inl (kI, 768, .inl gy))] H → va_D A [(h, .inr (1, [.ref da, .ref ca, .ref ya])), (da, .inl (kI, 32, .inl (fx_td gd fd p0 i))), (ca, .inl (kI, 32, .inl (fx_td gc fc p0 i))), (ya, .inl (kI, 768, .inl (fx_ty gy fy p0 i))), (h2, .inr (1, [.ref d2, .ref c2, .ref y2])), (d2, .inl (kI, 32, .inl gd)), (c2, .inl (kI, 32, .inl gc)), (y2, .inl (kI, 768, .inl gy))] → va_S A s.heap H locs → lv_has ls 5 [(3, .int (nI (p0 + 4 * i))), (0, .ref h), (1, .ref h2), (2, .int (nI p0))] → W p l e (rmL 0 0 0) s m ([.ref h, .ref h2, .int (nI p0)] : List Value).toArray below meth c H locs 0 0 (MQ below (va_Qv (fun (u : Unit) => True) (fun (u : Unit) => ww_B D A [(h, .inr (1, [.ref da, .ref ca, .ref ya])), (da, .inl (kI, 32, .inl (pt_d gd fd p0))), (ca, .inl (kI, 32, .inl (pt_d gc fc p0))), (ya, .inl (kI, 768, .inl (pt_y gy fy p0))), (h2, .inr (1, [.ref d2, .ref c2, .ref y2])), (d2, .inl (kI, 32, .inl gd)), (c2, .inl (kI, 32, .inl gc)), (y2, .inl (kI, 768, .inl gy))] [(kI, .int)]) A) ([.ref h, .ref h2, .int (nI p0)] : List Value).toArray s 0 0 A) (F0 m 7 ls []) := by
    intro e9
    induction e9 with
    | zero =>
      intro i H locs ls hd hP hD hS hl
      refine lv_iload_n hx hb dX1_takePart_7 rfl (lv_at hl 0 rfl) ?_
      refine lv_bipush (v := nI 32) hx hb dX1_takePart_8 (by decide) ?_
      refine lv_icmp_geN (tgt := 66) hx hb (by omega) (by omega) dX1_takePart_10 (by decide) (fun c_10 => ?_) (fun c_10 => absurd c_10 (by omega))
      obtain rfl : i = 8 := by omega
      have e1 : ∀ (g y : Nat → Int32) (j : Nat), j < 32 → fx_td g y p0 8 j = pt_d g y p0 j := fun g y j hj => by rw [fx_td_eq g y p0 hp, pt_d]; by_cases h9 : j % 4 = p0 <;> simp [h9, hj]
      have e2 : ∀ (g y : Nat → Int32) (j : Nat), j < 768 → fx_ty g y p0 8 j = pt_y g y p0 j := fun g y j hj => by rw [fx_ty_eq g y p0 hp, pt_y]; by_cases h9 : j / 24 % 4 = p0 <;> simp [h9, show j / 24 < 4 * 8 by omega]
      have hP := ((hP.ext (g := pt_d gd fd p0) 1 rfl (e1 _ _)).ext (g := pt_d gc fc p0) 2 rfl (e1 _ _)).ext (g := pt_y gy fy p0) 3 rfl (e2 _ _)
      have hD := ((hD.set (e := .inl (kI, 32, .inl (pt_d gd fd p0))) (p := 1) rfl).set (e := .inl (kI, 32, .inl (pt_d gc fc p0))) (p := 2) rfl).set (e := .inl (kI, 768, .inl (pt_y gy fy p0))) (p := 3) rfl
      exact W.vret hx hb hr (fun t ht hW => ⟨⟨(), rfl, trivial, by rw [ht]; exact hP, va_K.moved hW.alike hK, hD⟩, hS.F ht⟩) hS.2.2 dX1_takePart_66
    | succ e9 ih =>
      intro i H locs ls hd hP hD hS hl
      refine lv_iload_n hx hb dX1_takePart_7 rfl (lv_at hl 0 rfl) ?_
      refine lv_bipush (v := nI 32) hx hb dX1_takePart_8 (by decide) ?_
      refine lv_icmp_geN (tgt := 66) hx hb (by omega) (by omega) dX1_takePart_10 (by decide) (fun c_10 => absurd c_10 (by omega)) (fun c_10 => ?_)
      refine lv_iload_n hx hb dX1_takePart_13 rfl (lv_at hl 0 rfl) ?_
      refine lv_bipush (v := nI 24) hx hb dX1_takePart_14 (by decide) ?_
      refine lv_imulN hx hb dX1_takePart_16 ?_
      refine lv_istore (lv' := [(4, .int (nI ((p0 + 4 * i) * 24))), (3, .int (nI (p0 + 4 * i))), (0, .ref h), (1, .ref h2), (2, .int (nI p0))]) hx hb dX1_takePart_17 hl (by decide) rfl (fun ls hl => ?_)
      refine lv_aload_n hx hb dX1_takePart_19 rfl (lv_at hl 2 rfl) ?_
      refine va_get (D := D) (ci := 1) (v := .ref da) (C := "FindLog$Finds") (T := TX1) (N := 3) hx hb hg inX1 hown hK hP 0 rfl rfl 0 (by decide) (hg _ k_64) (fun _ h9 => h9) rfl dX1_takePart_20 ?_
      refine lv_iload_n hx hb dX1_takePart_23 rfl (lv_at hl 1 rfl) ?_
      refine lv_aload_n hx hb dX1_takePart_24 rfl (lv_at hl 3 rfl) ?_
      refine va_get (D := D) (ci := 1) (v := .ref d2) (C := "FindLog$Finds") (T := TX1) (N := 3) hx hb hg inX1 hown hK hP 4 rfl rfl 0 (by decide) (hg _ k_64) (fun _ h9 => h9) rfl dX1_takePart_25 ?_
      refine lv_iload_n hx hb dX1_takePart_28 rfl (lv_at hl 1 rfl) ?_
      refine va_ialdN hx hb hK hP 5 0 rfl rfl (by omega) (by omega) dX1_takePart_29 ?_
      refine va_iastN hx hb hK hP hD hS 1 0 rfl rfl (by omega) (by omega) dX1_takePart_30 (fun H locs hP hD hS => ?_)
      have hP : va_P D vwC [(h, .inr (1, [.ref da, .ref ca, .ref ya])), (da, .inl (kI, 32, .inl (upd (fx_td gd fd p0 i) (p0 + 4 * i) (gd (p0 + 4 * i))))), (ca, .inl (kI, 32, .inl (fx_td gc fc p0 i))), (ya, .inl (kI, 768, .inl (fx_ty gy fy p0 i))), (h2, .inr (1, [.ref d2, .ref c2, .ref y2])), (d2, .inl (kI, 32, .inl gd)), (c2, .inl (kI, 32, .inl gc)), (y2, .inl (kI, 768, .inl gy))] H := hP
      have hD : va_D A [(h, .inr (1, [.ref da, .ref ca, .ref ya])), (da, .inl (kI, 32, .inl (upd (fx_td gd fd p0 i) (p0 + 4 * i) (gd (p0 + 4 * i))))), (ca, .inl (kI, 32, .inl (fx_td gc fc p0 i))), (ya, .inl (kI, 768, .inl (fx_ty gy fy p0 i))), (h2, .inr (1, [.ref d2, .ref c2, .ref y2])), (d2, .inl (kI, 32, .inl gd)), (c2, .inl (kI, 32, .inl gc)), (y2, .inl (kI, 768, .inl gy))] := hD
      refine lv_aload_n hx hb dX1_takePart_31 rfl (lv_at hl 2 rfl) ?_
      refine va_get (D := D) (ci := 1) (v := .ref ca) (C := "FindLog$Finds") (T := TX1) (N := 3) hx hb hg inX1 hown hK hP 0 rfl rfl 1 (by decide) (hg _ k_65) (fun _ h9 => h9) rfl dX1_takePart_32 ?_
      refine lv_iload_n hx hb dX1_takePart_35 rfl (lv_at hl 1 rfl) ?_
      refine lv_aload_n hx hb dX1_takePart_36 rfl (lv_at hl 3 rfl) ?_
      refine va_get (D := D) (ci := 1) (v := .ref c2) (C := "FindLog$Finds") (T := TX1) (N := 3) hx hb hg inX1 hown hK hP 4 rfl rfl 1 (by decide) (hg _ k_65) (fun _ h9 => h9) rfl dX1_takePart_37 ?_
      refine lv_iload_n hx hb dX1_takePart_40 rfl (lv_at hl 1 rfl) ?_
      refine va_ialdN hx hb hK hP 6 0 rfl rfl (by omega) (by omega) dX1_takePart_41 ?_
      refine va_iastN hx hb hK hP hD hS 2 0 rfl rfl (by omega) (by omega) dX1_takePart_42 (fun H locs hP hD hS => ?_)
      have hP : va_P D vwC [(h, .inr (1, [.ref da, .ref ca, .ref ya])), (da, .inl (kI, 32, .inl (upd (fx_td gd fd p0 i) (p0 + 4 * i) (gd (p0 + 4 * i))))), (ca, .inl (kI, 32, .inl (upd (fx_td gc fc p0 i) (p0 + 4 * i) (gc (p0 + 4 * i))))), (ya, .inl (kI, 768, .inl (fx_ty gy fy p0 i))), (h2, .inr (1, [.ref d2, .ref c2, .ref y2])), (d2, .inl (kI, 32, .inl gd)), (c2, .inl (kI, 32, .inl gc)), (y2, .inl (kI, 768, .inl gy))] H := hP
      have hD : va_D A [(h, .inr (1, [.ref da, .ref ca, .ref ya])), (da, .inl (kI, 32, .inl (upd (fx_td gd fd p0 i) (p0 + 4 * i) (gd (p0 + 4 * i))))), (ca, .inl (kI, 32, .inl (upd (fx_td gc fc p0 i) (p0 + 4 * i) (gc (p0 + 4 * i))))), (ya, .inl (kI, 768, .inl (fx_ty gy fy p0 i))), (h2, .inr (1, [.ref d2, .ref c2, .ref y2])), (d2, .inl (kI, 32, .inl gd)), (c2, .inl (kI, 32, .inl gc)), (y2, .inl (kI, 768, .inl gy))] := hD
      refine lv_aload_n hx hb dX1_takePart_43 rfl (lv_at hl 3 rfl) ?_
      refine va_get (D := D) (ci := 1) (v := .ref y2) (C := "FindLog$Finds") (T := TX1) (N := 3) hx hb hg inX1 hown hK hP 4 rfl rfl 2 (by decide) (hg _ k_66) (fun _ h9 => h9) rfl dX1_takePart_44 ?_
      refine lv_iload hx hb dX1_takePart_47 (lv_at hl 0 rfl) ?_
      refine lv_aload_n hx hb dX1_takePart_49 rfl (lv_at hl 2 rfl) ?_
      refine va_get (D := D) (ci := 1) (v := .ref ya) (C := "FindLog$Finds") (T := TX1) (N := 3) hx hb hg inX1 hown hK hP 0 rfl rfl 2 (by decide) (hg _ k_66) (fun _ h9 => h9) rfl dX1_takePart_50 ?_
      refine lv_iload hx hb dX1_takePart_53 (lv_at hl 0 rfl) ?_
      refine lv_bipush (v := nI 24) hx hb dX1_takePart_55 (by decide) ?_
      refine va_copyiN (sp := ((p0 + 4 * i) * 24)) (dp := ((p0 + 4 * i) * 24)) (n := 24) hx hb (hml.trans hl.1.symm) hown (hg _ k_385) (hg _ k_380) (hg _ k_379) (hg _ k_34) hK hP hD hS 7 3 0 0 rfl rfl rfl rfl (by omega) (by omega) (by omega) (by omega) (Nat.le_of_ble_eq_true rfl) (Nat.le_of_ble_eq_true rfl) dX1_takePart_57 (fun H locs hP hD hS => ?_)
      have hP : va_P D vwC [(h, .inr (1, [.ref da, .ref ca, .ref ya])), (da, .inl (kI, 32, .inl (upd (fx_td gd fd p0 i) (p0 + 4 * i) (gd (p0 + 4 * i))))), (ca, .inl (kI, 32, .inl (upd (fx_td gc fc p0 i) (p0 + 4 * i) (gc (p0 + 4 * i))))), (ya, .inl (kI, 768, .inl (va_cpy gy (fx_ty gy fy p0 i) ((p0 + 4 * i) * 24) ((p0 + 4 * i) * 24) 24))), (h2, .inr (1, [.ref d2, .ref c2, .ref y2])), (d2, .inl (kI, 32, .inl gd)), (c2, .inl (kI, 32, .inl gc)), (y2, .inl (kI, 768, .inl gy))] H := hP
      have hD : va_D A [(h, .inr (1, [.ref da, .ref ca, .ref ya])), (da, .inl (kI, 32, .inl (upd (fx_td gd fd p0 i) (p0 + 4 * i) (gd (p0 + 4 * i))))), (ca, .inl (kI, 32, .inl (upd (fx_td gc fc p0 i) (p0 + 4 * i) (gc (p0 + 4 * i))))), (ya, .inl (kI, 768, .inl (va_cpy gy (fx_ty gy fy p0 i) ((p0 + 4 * i) * 24) ((p0 + 4 * i) * 24) 24))), (h2, .inr (1, [.ref d2, .ref c2, .ref y2])), (d2, .inl (kI, 32, .inl gd)), (c2, .inl (kI, 32, .inl gc)), (y2, .inl (kI, 768, .inl gy))] := hD
      refine lv_iincN (x := (p0 + 4 * i)) (j := 4) (lv' := [(3, .int (nI ((p0 + 4 * i) + 4))), (4, .int (nI ((p0 + 4 * i) * 24))), (0, .ref h), (1, .ref h2), (2, .int (nI p0))]) hx hb dX1_takePart_60 hl (k := 1) rfl (by decide) (by decide) rfl (fun ls hl => ?_)
      refine lv_goto (tgt := 7) hx hb dX1_takePart_63 (by decide) ?_
      rw [show p0 + 4 * i + 4 = p0 + 4 * (i + 1) from by omega] at hl
      exact ih (i + 1) _ _ _ (by omega) hP hD hS (lv_sub hl [0, 2, 3, 4] rfl)
  exact key 8 0 _ _ _ (by omega) hP hD hS (lv_sub hl [0, 1, 2, 3] rfl)
set_option maxHeartbeats 4000000 in
set_option maxRecDepth 100000 in
/-- Finds(): nothing -/
theorem c_X1_init (l : Launch) (D : va_G) (sz : Nat) (kI : ClassId) (h : Nat) : Met l yX1_init (.code yX1_init bX1_init 2 none :: GW) (rmL 0 3 832) (va_Pc [.ref h] (ww_P D sz [(h, .inr (1, [.null, .null, .null]))] [(kI, .int)])) (va_Qv (fun (u_ : Nat × Nat × Nat) => match u_ with | (da, ca, ya) => True) (fun (u_ : Nat × Nat × Nat) => match u_ with | (da, ca, ya) => ww_B D (va_A [(h, .inr (1, [.null, .null, .null]))] sz) [(h, .inr (1, [.ref da, .ref ca, .ref ya])), (da, .inl (kI, 32, .inl (fx_m1 32))), (ca, .inl (kI, 32, .inl (fx_m1 32))), (ya, .inl (kI, 768, .inl (fun _ => 0)))] [(kI, .int)]) (va_A [(h, .inr (1, [.null, .null, .null]))] sz)) 3 832 (va_A [(h, .inr (1, [.null, .null, .null]))] sz) := by
  refine Met.ofW (cc := bX1_init) (maxL := 2) (ret := none) (by decide) rfl ?_
  intro p e s m args below meth c s₁ B hml hv
  obtain ⟨rfl, hsz, hP, hK, hD0, hN⟩ := hv
  have hx := B.exec
  have hb := B.bytes
  have hr := B.returns
  have hg : ∀ w ∈ GW, w.before _ s = true := fun w h => atoms_spec (ws := Cond.code yX1_init bX1_init 2 none :: GW) B.pre w (List.mem_cons_of_mem _ h)
  have hown : s.vm.findClass "FindLog$Finds" = some m.cls := findClass_of_methodNamed B.named
  have hlocks := B.notSynchronized
  have hin : meth.name = "<init>" := (name_of_methodNamed B.named B.method).1
  subst hsz
  have hD := hD0.self (sz := s.heap.size)
  generalize hAe : va_A [(h, .inr (1, [.null, .null, .null]))] s.heap.size = A at hD ⊢
  have hA : ∀ q : Nat, s.heap.size ≤ q → A q := fun q h => by rw [← hAe]; exact Or.inr h
  have hS : va_S A s.heap s.heap [] := va_S.rf
  have hl := lv_entry ([.ref h]) (n := 2) (Nat.le_of_ble_eq_true rfl)
  rw [lg_entry_eq]
  generalize (lg_sl ([.ref h]) ++ List.replicate (2 - (lg_sl ([.ref h])).length) Slot.unset).toArray = ls at hl ⊢
  have hl : lv_has ls 2 [(0, .ref h)] := hl
  refine lv_aload_n hx hb dX1_init_0 rfl (lv_at hl 0 rfl) ?_
  refine W.objInit hx hb hown (hg _ k_63) (hg _ k_42) (hg _ k_43) rfl (by rw [hml]; exact hl.1) rfl dX1_init_1 (Nat.le_of_ble_eq_true rfl) (Nat.le_of_ble_eq_true rfl) ?_
  refine W.eq (g2 := F0 m 4 ls []) rfl ?_
  refine lv_aload_n hx hb dX1_init_4 rfl (lv_at hl 0 rfl) ?_
  refine lv_bipush (v := nI 32) hx hb dX1_init_5 (by decide) ?_
  refine va_newa (atype := .int) (ty := .int) (N' := 32) (a0 := (32, .inl (fun _ => 0))) hx hb (hg _ k_57) rfl hK hP hD hS hA (fun _ => rfl) (nI_pos (by omega)) (nI_clamp (by omega)) (by show 32 * 4 ≤ 536870912; omega) (Nat.le_of_ble_eq_true rfl) (Nat.le_of_ble_eq_true rfl) dX1_init_7 (fun da c9 H hK9 hP hD hS => ?_)
  have e9 : c9 = kI := kk_int hK9 0 1 rfl rfl (fun _ h => nomatch h)
  rw [e9] at hP hD
  have hP : va_P D vwC [(h, .inr (1, [.null, .null, .null])), (da, .inl (kI, 32, .inl (fun _ => 0)))] H := hP
  have hD : va_D A [(h, .inr (1, [.null, .null, .null])), (da, .inl (kI, 32, .inl (fun _ => 0)))] := hD
  refine W.widen (k := 1) (n := 32) (by omega) (by omega) ?_
  refine va_putF (D := D) (ci := 1) (v := .ref da) (ty := (.array .int)) (C := "FindLog$Finds") (T := TX1) (N := 3) hx hb hg inX1 tyX1 okX1 nmX1 hown hK hP hD hS 0 rfl rfl 0 (by decide) (hg _ k_64) (fun _ h9 => h9) rfl hin rfl (by decide +kernel) rfl rfl (Nat.le_of_ble_eq_true rfl) dX1_init_9 (fun H locs hP hD hS => ?_)
  have hP : va_P D vwC [(h, .inr (1, [.ref da, .null, .null])), (da, .inl (kI, 32, .inl (fun _ => 0)))] H := hP
  have hD : va_D A [(h, .inr (1, [.ref da, .null, .null])), (da, .inl (kI, 32, .inl (fun _ => 0)))] := hD
  refine lv_aload_n hx hb dX1_init_12 rfl (lv_at hl 0 rfl) ?_
  refine lv_bipush (v := nI 32) hx hb dX1_init_13 (by decide) ?_
  refine va_newa (atype := .int) (ty := .int) (N' := 32) (a0 := (32, .inl (fun _ => 0))) hx hb (hg _ k_57) rfl hK hP hD hS hA (fun _ => rfl) (nI_pos (by omega)) (nI_clamp (by omega)) (by show 32 * 4 ≤ 536870912; omega) (Nat.le_of_ble_eq_true rfl) (Nat.le_of_ble_eq_true rfl) dX1_init_15 (fun ca c9 H hK9 hP hD hS => ?_)
  have e9 : c9 = kI := kk_int hK9 0 1 rfl rfl (fun _ h => nomatch h)
  rw [e9] at hP hD
  have hP : va_P D vwC [(h, .inr (1, [.ref da, .null, .null])), (da, .inl (kI, 32, .inl (fun _ => 0))), (ca, .inl (kI, 32, .inl (fun _ => 0)))] H := hP
  have hD : va_D A [(h, .inr (1, [.ref da, .null, .null])), (da, .inl (kI, 32, .inl (fun _ => 0))), (ca, .inl (kI, 32, .inl (fun _ => 0)))] := hD
  refine W.widen (k := 2) (n := 64) (by omega) (by omega) ?_
  refine va_putF (D := D) (ci := 1) (v := .ref ca) (ty := (.array .int)) (C := "FindLog$Finds") (T := TX1) (N := 3) hx hb hg inX1 tyX1 okX1 nmX1 hown hK hP hD hS 0 rfl rfl 1 (by decide) (hg _ k_65) (fun _ h9 => h9) rfl hin rfl (by decide +kernel) rfl rfl (Nat.le_of_ble_eq_true rfl) dX1_init_17 (fun H locs hP hD hS => ?_)
  have hP : va_P D vwC [(h, .inr (1, [.ref da, .ref ca, .null])), (da, .inl (kI, 32, .inl (fun _ => 0))), (ca, .inl (kI, 32, .inl (fun _ => 0)))] H := hP
  have hD : va_D A [(h, .inr (1, [.ref da, .ref ca, .null])), (da, .inl (kI, 32, .inl (fun _ => 0))), (ca, .inl (kI, 32, .inl (fun _ => 0)))] := hD
  refine lv_aload_n hx hb dX1_init_20 rfl (lv_at hl 0 rfl) ?_
  refine lv_sipush (v := nI 768) hx hb dX1_init_21 (by decide) ?_
  refine va_newa (atype := .int) (ty := .int) (N' := 768) (a0 := (768, .inl (fun _ => 0))) hx hb (hg _ k_57) rfl hK hP hD hS hA (fun _ => rfl) (nI_pos (by omega)) (nI_clamp (by omega)) (by show 768 * 4 ≤ 536870912; omega) (Nat.le_of_ble_eq_true rfl) (Nat.le_of_ble_eq_true rfl) dX1_init_24 (fun ya c9 H hK9 hP hD hS => ?_)
  have e9 : c9 = kI := kk_int hK9 0 1 rfl rfl (fun _ h => nomatch h)
  rw [e9] at hP hD
  have hP : va_P D vwC [(h, .inr (1, [.ref da, .ref ca, .null])), (da, .inl (kI, 32, .inl (fun _ => 0))), (ca, .inl (kI, 32, .inl (fun _ => 0))), (ya, .inl (kI, 768, .inl (fun _ => 0)))] H := hP
  have hD : va_D A [(h, .inr (1, [.ref da, .ref ca, .null])), (da, .inl (kI, 32, .inl (fun _ => 0))), (ca, .inl (kI, 32, .inl (fun _ => 0))), (ya, .inl (kI, 768, .inl (fun _ => 0)))] := hD
  refine W.widen (k := 3) (n := 832) (by omega) (by omega) ?_
  refine va_putF (D := D) (ci := 1) (v := .ref ya) (ty := (.array .int)) (C := "FindLog$Finds") (T := TX1) (N := 3) hx hb hg inX1 tyX1 okX1 nmX1 hown hK hP hD hS 0 rfl rfl 2 (by decide) (hg _ k_66) (fun _ h9 => h9) rfl hin rfl (by decide +kernel) rfl rfl (Nat.le_of_ble_eq_true rfl) dX1_init_26 (fun H locs hP hD hS => ?_)
  have hP : va_P D vwC [(h, .inr (1, [.ref da, .ref ca, .ref ya])), (da, .inl (kI, 32, .inl (fun _ => 0))), (ca, .inl (kI, 32, .inl (fun _ => 0))), (ya, .inl (kI, 768, .inl (fun _ => 0)))] H := hP
  have hD : va_D A [(h, .inr (1, [.ref da, .ref ca, .ref ya])), (da, .inl (kI, 32, .inl (fun _ => 0))), (ca, .inl (kI, 32, .inl (fun _ => 0))), (ya, .inl (kI, 768, .inl (fun _ => 0)))] := hD
  refine lv_iconst (v := nI 0) hx hb dX1_init_29 (by decide) ?_
  refine lv_istore_n (lv' := [(1, .int (nI 0)), (0, .ref h)]) hx hb dX1_init_30 rfl hl (by decide) rfl (fun ls hl => ?_)
  have hP : va_P D vwC [(h, .inr (1, [.ref da, .ref ca, .ref ya])), (da, .inl (kI, 32, .inl (fx_m1 0))), (ca, .inl (kI, 32, .inl (fx_m1 0))), (ya, .inl (kI, 768, .inl (fun _ => 0)))] H := by rw [fx_m1_0]; exact hP
  have hD : va_D A [(h, .inr (1, [.ref da, .ref ca, .ref ya])), (da, .inl (kI, 32, .inl (fx_m1 0))), (ca, .inl (kI, 32, .inl (fx_m1 0))), (ya, .inl (kI, 768, .inl (fun _ => 0)))] := by rw [fx_m1_0]; exact hD
  have key : ∀ (e9 : Nat) (i : Nat) (H : Heap) (locs : List Loc) (ls : Array Slot), i + e9 = 32 → va_P D vwC [(h, .inr (1, [.ref da, .ref ca, .ref ya])), (da, .inl (kI, 32, .inl (fx_m1 i))), (ca, .inl (kI, 32, .inl (fx_m1 i))), (ya, .inl (kI, 768, .inl (fun _ => 0)))] H → va_D A [(h, .inr (1, [.ref da, .ref ca, .ref ya])), (da, .inl (kI, 32, .inl (fx_m1 i))), (ca, .inl (kI, 32, .inl (fx_m1 i))), (ya, .inl (kI, 768, .inl (fun _ => 0)))] → va_S A s.heap H locs → lv_has ls 2 [(1, .int (nI i)), (0, .ref h)] → W p l e (rmL 0 3 832) s m ([.ref h] : List Value).toArray below meth c H locs 3 832 (MQ below (va_Qv (fun (u_ : Nat × Nat × Nat) => match u_ with | (da, ca, ya) => True) (fun (u_ : Nat × Nat × Nat) => match u_ with | (da, ca, ya) => ww_B D A [(h, .inr (1, [.ref da, .ref ca, .ref ya])), (da, .inl (kI, 32, .inl (fx_m1 32))), (ca, .inl (kI, 32, .inl (fx_m1 32))), (ya, .inl (kI, 768, .inl (fun _ => 0)))] [(kI, .int)]) A) ([.ref h] : List Value).toArray s 3 832 A) (F0 m 31 ls []) := by
    intro e9
    induction e9 with
    | zero =>
      intro i H locs ls hd hP hD hS hl
      refine lv_iload_n hx hb dX1_init_31 rfl (lv_at hl 0 rfl) ?_
      refine lv_bipush (v := nI 32) hx hb dX1_init_32 (by decide) ?_
      refine lv_icmp_geN (tgt := 57) hx hb (by omega) (by omega) dX1_init_34 (by decide) (fun c_34 => ?_) (fun c_34 => absurd c_34 (by omega))
      obtain rfl : i = 32 := by omega
      exact W.vret hx hb hr (fun t ht hW => ⟨⟨(da, ca, ya), rfl, trivial, by rw [ht]; exact hP, va_K.moved hW.alike hK, hD⟩, hS.F ht⟩) hS.2.2 dX1_init_57
    | succ e9 ih =>
      intro i H locs ls hd hP hD hS hl
      refine lv_iload_n hx hb dX1_init_31 rfl (lv_at hl 0 rfl) ?_
      refine lv_bipush (v := nI 32) hx hb dX1_init_32 (by decide) ?_
      refine lv_icmp_geN (tgt := 57) hx hb (by omega) (by omega) dX1_init_34 (by decide) (fun c_34 => absurd c_34 (by omega)) (fun c_34 => ?_)
      refine lv_aload_n hx hb dX1_init_37 rfl (lv_at hl 1 rfl) ?_
      refine va_get (D := D) (ci := 1) (v := .ref da) (C := "FindLog$Finds") (T := TX1) (N := 3) hx hb hg inX1 hown hK hP 0 rfl rfl 0 (by decide) (hg _ k_64) (fun _ h9 => h9) rfl dX1_init_38 ?_
      refine lv_iload_n hx hb dX1_init_41 rfl (lv_at hl 0 rfl) ?_
      refine lv_iconst (v := (-1)) hx hb dX1_init_42 (by decide) ?_
      refine va_iastN hx hb hK hP hD hS 1 0 rfl rfl (by omega) (by omega) dX1_init_43 (fun H locs hP hD hS => ?_)
      have hP : va_P D vwC [(h, .inr (1, [.ref da, .ref ca, .ref ya])), (da, .inl (kI, 32, .inl (upd (fx_m1 i) i (-1)))), (ca, .inl (kI, 32, .inl (fx_m1 i))), (ya, .inl (kI, 768, .inl (fun _ => 0)))] H := hP
      have hD : va_D A [(h, .inr (1, [.ref da, .ref ca, .ref ya])), (da, .inl (kI, 32, .inl (upd (fx_m1 i) i (-1)))), (ca, .inl (kI, 32, .inl (fx_m1 i))), (ya, .inl (kI, 768, .inl (fun _ => 0)))] := hD
      rw [fx_m1_s] at hP hD
      refine lv_aload_n hx hb dX1_init_44 rfl (lv_at hl 1 rfl) ?_
      refine va_get (D := D) (ci := 1) (v := .ref ca) (C := "FindLog$Finds") (T := TX1) (N := 3) hx hb hg inX1 hown hK hP 0 rfl rfl 1 (by decide) (hg _ k_65) (fun _ h9 => h9) rfl dX1_init_45 ?_
      refine lv_iload_n hx hb dX1_init_48 rfl (lv_at hl 0 rfl) ?_
      refine lv_iconst (v := (-1)) hx hb dX1_init_49 (by decide) ?_
      refine va_iastN hx hb hK hP hD hS 2 0 rfl rfl (by omega) (by omega) dX1_init_50 (fun H locs hP hD hS => ?_)
      have hP : va_P D vwC [(h, .inr (1, [.ref da, .ref ca, .ref ya])), (da, .inl (kI, 32, .inl (fx_m1 (i + 1)))), (ca, .inl (kI, 32, .inl (upd (fx_m1 i) i (-1)))), (ya, .inl (kI, 768, .inl (fun _ => 0)))] H := hP
      have hD : va_D A [(h, .inr (1, [.ref da, .ref ca, .ref ya])), (da, .inl (kI, 32, .inl (fx_m1 (i + 1)))), (ca, .inl (kI, 32, .inl (upd (fx_m1 i) i (-1)))), (ya, .inl (kI, 768, .inl (fun _ => 0)))] := hD
      rw [fx_m1_s] at hP hD
      refine lv_iincN (x := i) (j := 1) (lv' := [(1, .int (nI (i + 1))), (0, .ref h)]) hx hb dX1_init_51 hl (k := 0) rfl (by decide) (by decide) rfl (fun ls hl => ?_)
      refine lv_goto (tgt := 31) hx hb dX1_init_54 (by decide) ?_
      exact ih (i + 1) _ _ _ (by omega) hP hD hS (lv_sub hl [0, 1] rfl)
  exact key 32 0 _ _ _ (by omega) hP hD hS (lv_sub hl [0, 1] rfl)
