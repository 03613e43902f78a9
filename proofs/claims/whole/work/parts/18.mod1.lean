set_option maxHeartbeats 4000000 in
set_option maxRecDepth 100000 in
theorem c_X5_goOn (l : Launch) (D : va_G) (v b : Int64) : Met l yX5_goOn (Cond.code yX5_goOn bX5_goOn 6 (some .long) :: GW) (rmL 0 0 0) (va_Pc [.long v, .long b] (pw_P D [] [])) (pw_Ql (fx_g v b)) 0 0 (fun _ => False) := by
  refine Met.ofW (cc := bX5_goOn) (maxL := 6) (ret := (some .long)) (by decide) rfl ?_
  intro p e s m args below meth c s₁ B hml hv
  obtain ⟨rfl, hP, hK, hN⟩ := hv
  have hx := B.exec
  have hb := B.bytes
  have hr := B.returns
  have hg : ∀ w ∈ GW, w.before _ s = true := fun w h => atoms_spec (ws := Cond.code yX5_goOn bX5_goOn 6 (some .long) :: GW) B.pre w (List.mem_cons_of_mem _ h)
  have hown : s.vm.findClass "FindLogModel" = some m.cls := findClass_of_methodNamed B.named
  have hlocks := B.notSynchronized
  have hS : va_S (fun _ => False) s.heap s.heap [] := va_S.rf
  have hl := lv_entry ([.long v, .long b]) (n := 6) (Nat.le_of_ble_eq_true rfl)
  rw [lg_entry_eq]
  generalize (lg_sl ([.long v, .long b]) ++ List.replicate (6 - (lg_sl ([.long v, .long b])).length) Slot.unset).toArray = ls at hl ⊢
  have hl : lv_has ls 6 [(0, .long v), (2, .long b)] := hl
  refine lv_lload_n hx hb dX5_goOn_0 rfl (lv_at hl 0 rfl) ?_
  refine lv_lload_n hx hb dX5_goOn_1 rfl (lv_at hl 1 rfl) ?_
  refine lv_lxor hx hb dX5_goOn_2 ?_
  refine lv_lstore (lv' := [(4, .long (v ^^^ b)), (0, .long v), (2, .long b)]) hx hb dX5_goOn_3 hl (by decide) rfl (fun ls hl => ?_)
  refine lv_lload hx hb dX5_goOn_5 (lv_at hl 0 rfl) ?_
  refine lv_bipush (v := nI 37) hx hb dX5_goOn_7 (by decide) ?_
  refine lv_lshl hx hb dX5_goOn_9 rfl ?_
  refine lv_lload hx hb dX5_goOn_10 (lv_at hl 0 rfl) ?_
  refine lv_bipush (v := nI 27) hx hb dX5_goOn_12 (by decide) ?_
  refine lv_lushr hx hb dX5_goOn_14 rfl ?_
  refine lv_lor hx hb dX5_goOn_15 ?_
  refine lv_ldc2 (v := (-7046029254386353131)) hx hb hown (hg _ k_650) dX5_goOn_16 ?_
  refine lv_lmul hx hb dX5_goOn_19 ?_
  exact W.lret (v := ((((v ^^^ b) <<< (((nI 37) : Int32).toInt64 &&& 63)) ||| ((((v ^^^ b)).toUInt64 >>> (((nI 27) : Int32).toInt64.toUInt64 &&& Int64.toUInt64 63)).toInt64)) * (-7046029254386353131))) hx hb hr (fun t ht hW => ⟨⟨((((v ^^^ b) <<< (((nI 37) : Int32).toInt64 &&& 63)) ||| ((((v ^^^ b)).toUInt64 >>> (((nI 27) : Int32).toInt64.toUInt64 &&& Int64.toUInt64 63)).toInt64)) * (-7046029254386353131)), (), rfl, rfl, trivial⟩, hS.F ht⟩) (fun q hq => (hS.2.2 q hq).elim) dX5_goOn_20
set_option maxHeartbeats 4000000 in
set_option maxRecDepth 100000 in
theorem c_X5_thrown (l : Launch) (D : va_G) (kI kJ kZ : ClassId) (mm mp ml mw mg mf msl mwh mu md mn mk : Nat) (tc mpn mb mbg mnx mak mbr mtn mus : Nat) (mbd : Int32) (qp ql : Nat → Int32) (qw qg qf : Nat → Nat) (qs : Nat → Int64) (qh qu : Nat → Nat) (qd qm qk : Nat → Int32)  : Met l yX5_thrown (Cond.code yX5_thrown bX5_thrown 1 (some .int) :: GW) (rmL 0 0 0) (va_Pc [.ref mm] (pw_P D [(mm, .inr (5, [.int (nI tc), .ref mp, .int (nI mpn), .ref ml, .int (nI mb), .ref mw, .int (nI mbg), .int (nI mnx), .int (nI mak), .int (nI mbr), .int mbd, .int (nI mtn), .int (nI mus), .ref mg, .ref mf, .ref msl, .ref mwh, .ref mu, .ref md, .ref mn, .ref mk])), (mp, .inl (kI, 24, .inl qp)), (ml, .inl (kI, 2500, .inl ql)), (mw, .inl (kI, 66, .inl (fun j => nI (qw j)))), (mg, .inl (kI, 2, .inl (fun j => nI (qg j)))), (mf, .inl (kI, 2, .inl (fun j => nI (qf j)))), (msl, .inl (kJ, 2, .inr (.inl qs))), (mwh, .inl (kZ, 2, .inl (fun j => nI (qh j)))), (mu, .inl (kI, 8, .inl (fun j => nI (qu j)))), (md, .inl (kI, 96, .inl qd)), (mn, .inl (kI, 96, .inl qm)), (mk, .inl (kI, 2304, .inl qk))] [(kI, .int), (kJ, .long), (kZ, .boolean)])) (pw_Qi (nI tc)) 0 0 (fun _ => False) := by
  refine Met.ofW (cc := bX5_thrown) (maxL := 1) (ret := (some .int)) (by decide) rfl ?_
  intro p e s m args below meth c s₁ B hml hv
  obtain ⟨rfl, hP, hK, hN⟩ := hv
  have hx := B.exec
  have hb := B.bytes
  have hr := B.returns
  have hg : ∀ w ∈ GW, w.before _ s = true := fun w h => atoms_spec (ws := Cond.code yX5_thrown bX5_thrown 1 (some .int) :: GW) B.pre w (List.mem_cons_of_mem _ h)
  have hown : s.vm.findClass "FindLogModel" = some m.cls := findClass_of_methodNamed B.named
  have hlocks := B.notSynchronized
  have hS : va_S (fun _ => False) s.heap s.heap [] := va_S.rf
  have hl := lv_entry ([.ref mm]) (n := 1) (Nat.le_of_ble_eq_true rfl)
  rw [lg_entry_eq]
  generalize (lg_sl ([.ref mm]) ++ List.replicate (1 - (lg_sl ([.ref mm])).length) Slot.unset).toArray = ls at hl ⊢
  have hl : lv_has ls 1 [(0, .ref mm)] := hl
  refine lv_aload_n hx hb dX5_thrown_0 rfl (lv_at hl 0 rfl) ?_
  refine va_get (D := D) (ci := 5) (v := .int (nI tc)) (C := "FindLogModel") (T := TX5) (N := 21) hx hb hg inX5 hown hK hP 0 rfl rfl 0 (by decide) (hg _ k_557) (fun _ h9 => h9) rfl dX5_thrown_1 ?_
  exact W.iret (v := (nI tc)) hx hb hr (fun t ht hW => ⟨⟨(nI tc), (), rfl, rfl, trivial⟩, hS.F ht⟩) (fun q hq => (hS.2.2 q hq).elim) dX5_thrown_4
set_option maxHeartbeats 4000000 in
set_option maxRecDepth 100000 in
theorem c_X5_none0 (l : Launch) (D : va_G) (j n : Nat) (hj : j < n) (hn : n < 2 ^ 31) : Met l yX5_none (Cond.code yX5_none bX5_none 2 (some .boolean) :: GW) (rmL 0 0 0) (va_Pc [.int (nI j), .int (nI n)] (pw_P D [] [])) (pw_Qi (nI 0)) 0 0 (fun _ => False) := by
  refine Met.ofW (cc := bX5_none) (maxL := 2) (ret := (some .boolean)) (by decide) rfl ?_
  intro p e s m args below meth c s₁ B hml hv
  obtain ⟨rfl, hP, hK, hN⟩ := hv
  have hx := B.exec
  have hb := B.bytes
  have hr := B.returns
  have hg : ∀ w ∈ GW, w.before _ s = true := fun w h => atoms_spec (ws := Cond.code yX5_none bX5_none 2 (some .boolean) :: GW) B.pre w (List.mem_cons_of_mem _ h)
  have hown : s.vm.findClass "FindLogModel" = some m.cls := findClass_of_methodNamed B.named
  have hlocks := B.notSynchronized
  have hS : va_S (fun _ => False) s.heap s.heap [] := va_S.rf
  have hl := lv_entry ([.int (nI j), .int (nI n)]) (n := 2) (Nat.le_of_ble_eq_true rfl)
  rw [lg_entry_eq]
  generalize (lg_sl ([.int (nI j), .int (nI n)]) ++ List.replicate (2 - (lg_sl ([.int (nI j), .int (nI n)])).length) Slot.unset).toArray = ls at hl ⊢
  have hl : lv_has ls 2 [(0, .int (nI j)), (1, .int (nI n))] := hl
  refine lv_iload_n hx hb dX5_none_0 rfl (lv_at hl 0 rfl) ?_
  refine lv_if_ltN (tgt := 9) hx hb (by omega) dX5_none_1 (by decide) (fun c_1 => absurd c_1 id) (fun c_1 => ?_)
  refine lv_iload_n hx hb dX5_none_4 rfl (lv_at hl 0 rfl) ?_
  refine lv_iload_n hx hb dX5_none_5 rfl (lv_at hl 1 rfl) ?_
  refine lv_icmp_ltN (tgt := 13) hx hb (by omega) (by omega) dX5_none_6 (by decide) (fun c_6 => ?_) (fun c_6 => absurd c_6 (by omega))
  refine lv_iconst (v := nI 0) hx hb dX5_none_13 (by decide) ?_
  exact W.zret (v := (nI 0)) hx hb hr (by decide) (fun t ht hW => ⟨⟨(nI 0), (), rfl, rfl, trivial⟩, hS.F ht⟩) (fun q hq => (hS.2.2 q hq).elim) dX5_none_14
set_option maxHeartbeats 4000000 in
set_option maxRecDepth 100000 in
theorem c_X5_none1 (l : Launch) (D : va_G) (x : Int32) (n : Nat) (hx0 : x < 0 ∨ nI n ≤ x) : Met l yX5_none (Cond.code yX5_none bX5_none 2 (some .boolean) :: GW) (rmL 0 0 0) (va_Pc [.int x, .int (nI n)] (pw_P D [] [])) (pw_Qi (nI 1)) 0 0 (fun _ => False) := by
  refine Met.ofW (cc := bX5_none) (maxL := 2) (ret := (some .boolean)) (by decide) rfl ?_
  intro p e s m args below meth c s₁ B hml hv
  obtain ⟨rfl, hP, hK, hN⟩ := hv
  have hx := B.exec
  have hb := B.bytes
  have hr := B.returns
  have hg : ∀ w ∈ GW, w.before _ s = true := fun w h => atoms_spec (ws := Cond.code yX5_none bX5_none 2 (some .boolean) :: GW) B.pre w (List.mem_cons_of_mem _ h)
  have hown : s.vm.findClass "FindLogModel" = some m.cls := findClass_of_methodNamed B.named
  have hlocks := B.notSynchronized
  have hS : va_S (fun _ => False) s.heap s.heap [] := va_S.rf
  have hl := lv_entry ([.int x, .int (nI n)]) (n := 2) (Nat.le_of_ble_eq_true rfl)
  rw [lg_entry_eq]
  generalize (lg_sl ([.int x, .int (nI n)]) ++ List.replicate (2 - (lg_sl ([.int x, .int (nI n)])).length) Slot.unset).toArray = ls at hl ⊢
  have hl : lv_has ls 2 [(0, .int x), (1, .int (nI n))] := hl
  refine lv_iload_n hx hb dX5_none_0 rfl (lv_at hl 0 rfl) ?_
  refine lv_if_lt (tgt := 9) hx hb dX5_none_1 (by decide) (fun c_1 => ?_) (fun c_1 => ?_)
  · refine lv_iconst (v := nI 1) hx hb dX5_none_9 (by decide) ?_
    refine lv_goto (tgt := 14) hx hb dX5_none_10 (by decide) ?_
    exact W.zret (v := (nI 1)) hx hb hr (by decide) (fun t ht hW => ⟨⟨(nI 1), (), rfl, rfl, trivial⟩, hS.F ht⟩) (fun q hq => (hS.2.2 q hq).elim) dX5_none_14
  · refine lv_iload_n hx hb dX5_none_4 rfl (lv_at hl 0 rfl) ?_
    refine lv_iload_n hx hb dX5_none_5 rfl (lv_at hl 1 rfl) ?_
    refine lv_icmp_lt (tgt := 13) hx hb dX5_none_6 (by decide) (fun c_6 => absurd c_6 (fun h9 => (Int32.not_lt.mpr (hx0.resolve_left c_1)) h9)) (fun c_6 => ?_)
    refine lv_iconst (v := nI 1) hx hb dX5_none_9 (by decide) ?_
    refine lv_goto (tgt := 14) hx hb dX5_none_10 (by decide) ?_
    exact W.zret (v := (nI 1)) hx hb hr (by decide) (fun t ht hW => ⟨⟨(nI 1), (), rfl, rfl, trivial⟩, hS.F ht⟩) (fun q hq => (hS.2.2 q hq).elim) dX5_none_14
set_option maxHeartbeats 4000000 in
set_option maxRecDepth 100000 in
theorem c_X5_sum (l : Launch) (D : va_G) (kI kJ kZ : ClassId) (mm mp ml mw mg mf msl mwh mu md mn mk : Nat) (tc mpn mb mbg mnx mak mbr mtn mus : Nat) (mbd : Int32) (ql : Nat → Int32) (q k : Nat) (hk : q + k ≤ 2500) : Met l yX5_sum (Cond.code yX5_sum bX5_sum 6 (some .long) :: GW) (rmL 1 0 0) (va_Pc [.ref mm, .int (nI q), .int (nI k)] (pw_P D [(mm, .inr (5, [.int (nI tc), .ref mp, .int (nI mpn), .ref ml, .int (nI mb), .ref mw, .int (nI mbg), .int (nI mnx), .int (nI mak), .int (nI mbr), .int mbd, .int (nI mtn), .int (nI mus), .ref mg, .ref mf, .ref msl, .ref mwh, .ref mu, .ref md, .ref mn, .ref mk])), (ml, .inl (kI, 2500, .inl ql))] [(kI, .int), (kJ, .long), (kZ, .boolean)])) (pw_Ql (fx_sm ql q k)) 0 0 (fun _ => False) := by
  refine Met.ofW (cc := bX5_sum) (maxL := 6) (ret := (some .long)) (by decide) rfl ?_
  intro p e s m args below meth c s₁ B hml hv
  obtain ⟨rfl, hP, hK, hN⟩ := hv
  have hx := B.exec
  have hb := B.bytes
  have hr := B.returns
  have hg : ∀ w ∈ GW, w.before _ s = true := fun w h => atoms_spec (ws := Cond.code yX5_sum bX5_sum 6 (some .long) :: GW) B.pre w (List.mem_cons_of_mem _ h)
  have hown : s.vm.findClass "FindLogModel" = some m.cls := findClass_of_methodNamed B.named
  have hlocks := B.notSynchronized
  have hS : va_S (fun _ => False) s.heap s.heap [] := va_S.rf
  have hl := lv_entry ([.ref mm, .int (nI q), .int (nI k)]) (n := 6) (Nat.le_of_ble_eq_true rfl)
  rw [lg_entry_eq]
  generalize (lg_sl ([.ref mm, .int (nI q), .int (nI k)]) ++ List.replicate (6 - (lg_sl ([.ref mm, .int (nI q), .int (nI k)])).length) Slot.unset).toArray = ls at hl ⊢
  have hl : lv_has ls 6 [(0, .ref mm), (1, .int (nI q)), (2, .int (nI k))] := hl
  refine lv_lconst (v := 0) hx hb dX5_sum_0 (by decide) ?_
  refine lv_lstore_n (lv' := [(3, .long 0), (0, .ref mm), (1, .int (nI q)), (2, .int (nI k))]) hx hb dX5_sum_1 rfl hl (by decide) rfl (fun ls hl => ?_)
  refine lv_iconst (v := nI 0) hx hb dX5_sum_2 (by decide) ?_
  refine lv_istore (lv' := [(5, .int (nI 0)), (3, .long 0), (0, .ref mm), (1, .int (nI q)), (2, .int (nI k))]) hx hb dX5_sum_3 hl (by decide) rfl (fun ls hl => ?_)
  have key : ∀ (e9 : Nat) (i : Nat) (H : Heap) (locs : List Loc) (ls : Array Slot), i + e9 = k → va_P D vwC [(mm, .inr (5, [.int (nI tc), .ref mp, .int (nI mpn), .ref ml, .int (nI mb), .ref mw, .int (nI mbg), .int (nI mnx), .int (nI mak), .int (nI mbr), .int mbd, .int (nI mtn), .int (nI mus), .ref mg, .ref mf, .ref msl, .ref mwh, .ref mu, .ref md, .ref mn, .ref mk])), (ml, .inl (kI, 2500, .inl ql))] H → va_S (fun _ => False) s.heap H locs → lv_has ls 6 [(5, .int (nI i)), (3, .long (fx_sm ql q i)), (0, .ref mm), (1, .int (nI q)), (2, .int (nI k))] → W p l e (rmL 1 0 0) s m ([.ref mm, .int (nI q), .int (nI k)] : List Value).toArray below meth c H locs 0 0 (MQ below (pw_Ql (fx_sm ql q k)) ([.ref mm, .int (nI q), .int (nI k)] : List Value).toArray s 0 0 (fun _ => False)) (F0 m 5 ls []) := by
    intro e9
    induction e9 with
    | zero =>
      intro i H locs ls hd hP hS hl
      refine lv_iload hx hb dX5_sum_5 (lv_at hl 0 rfl) ?_
      refine lv_iload_n hx hb dX5_sum_7 rfl (lv_at hl 4 rfl) ?_
      refine lv_icmp_geN (tgt := 32) hx hb (by omega) (by omega) dX5_sum_8 (by decide) (fun c_8 => ?_) (fun c_8 => absurd c_8 (by omega))
      refine lv_lload_n hx hb dX5_sum_32 rfl (lv_at hl 1 rfl) ?_
      obtain rfl : i = k := by omega
      exact W.lret (v := (fx_sm ql q i)) hx hb hr (fun t ht hW => ⟨⟨(fx_sm ql q i), (), rfl, rfl, trivial⟩, hS.F ht⟩) (fun q hq => (hS.2.2 q hq).elim) dX5_sum_33
    | succ e9 ih =>
      intro i H locs ls hd hP hS hl
      refine lv_iload hx hb dX5_sum_5 (lv_at hl 0 rfl) ?_
      refine lv_iload_n hx hb dX5_sum_7 rfl (lv_at hl 4 rfl) ?_
      refine lv_icmp_geN (tgt := 32) hx hb (by omega) (by omega) dX5_sum_8 (by decide) (fun c_8 => absurd c_8 (by omega)) (fun c_8 => ?_)
      refine lv_lload_n hx hb dX5_sum_11 rfl (lv_at hl 1 rfl) ?_
      refine lv_aload_n hx hb dX5_sum_12 rfl (lv_at hl 2 rfl) ?_
      refine va_get (D := D) (ci := 5) (v := .ref ml) (C := "FindLogModel") (T := TX5) (N := 21) hx hb hg inX5 hown hK hP 0 rfl rfl 3 (by decide) (hg _ k_560) (fun _ h9 => h9) rfl dX5_sum_13 ?_
      refine lv_iload_n hx hb dX5_sum_16 rfl (lv_at hl 3 rfl) ?_
      refine lv_iload hx hb dX5_sum_17 (lv_at hl 0 rfl) ?_
      refine lv_iaddN hx hb dX5_sum_19 ?_
      refine va_ialdN hx hb hK hP 1 0 rfl rfl (by omega) (by omega) dX5_sum_20 ?_
      refine lv_i2l hx hb dX5_sum_21 rfl ?_
      refine pw_calll (va_runS (As := [.long (fx_sm ql q i), .long ((ql (q + i))).toInt64]) (rest := []) ⟨hx, hb, hml, hown, hg⟩ (c_X5_goOn l D (fx_sm ql q i) (ql (q + i)).toInt64) (va_cwS 2 hg (gw_S k_647 k_648 k_27 k_649) rfl rfl rfl (by decide +kernel) ⟨Nat.le_of_ble_eq_true rfl, Nat.le_of_ble_eq_true rfl⟩) ⟨pw_blind, pw_pre (hP.sub (ws' := []) [] rfl) (hK.sub (tys' := []) [] rfl) hN⟩ rfl rfl hl.1 rfl (lv_room (Nat.le_of_ble_eq_true rfl)) dX5_sum_22 ⟨Nat.le_of_ble_eq_true rfl, Nat.le_of_ble_eq_true rfl⟩) hS hP (fun H locs hP hS => ?_)
      refine lv_lstore_n (lv' := [(3, .long (fx_g (fx_sm ql q i) (ql (q + i)).toInt64)), (5, .int (nI i)), (0, .ref mm), (1, .int (nI q)), (2, .int (nI k))]) hx hb dX5_sum_25 rfl hl (by decide) rfl (fun ls hl => ?_)
      refine lv_iincN (x := i) (j := 1) (lv' := [(5, .int (nI (i + 1))), (3, .long (fx_g (fx_sm ql q i) (ql (q + i)).toInt64)), (0, .ref mm), (1, .int (nI q)), (2, .int (nI k))]) hx hb dX5_sum_26 hl (k := 1) rfl (by decide) (by decide) rfl (fun ls hl => ?_)
      refine lv_goto (tgt := 5) hx hb dX5_sum_29 (by decide) ?_
      exact ih (i + 1) _ _ _ (by omega) hP hS (lv_sub hl [0, 1, 2, 3, 4] rfl)
  exact key k 0 _ _ _ (by omega) hP hS (lv_sub hl [0, 1, 2, 3, 4] rfl)
set_option maxHeartbeats 4000000 in
set_option maxRecDepth 100000 in
theorem c_X5_number (l : Launch) (D : va_G) (kI kJ kZ : ClassId) (mm mp ml mw mg mf msl mwh mu md mn mk : Nat) (tc mpn mb mbg mnx mak mbr mtn mus : Nat) (mbd : Int32) (ql : Nat → Int32) (q k : Nat) (hk : q + k ≤ 2500) : Met l yX5_number (Cond.code yX5_number bX5_number 6 (some .long) :: GW) (rmL 0 0 0) (va_Pc [.ref mm, .int (nI q), .int (nI k)] (pw_P D [(mm, .inr (5, [.int (nI tc), .ref mp, .int (nI mpn), .ref ml, .int (nI mb), .ref mw, .int (nI mbg), .int (nI mnx), .int (nI mak), .int (nI mbr), .int mbd, .int (nI mtn), .int (nI mus), .ref mg, .ref mf, .ref msl, .ref mwh, .ref mu, .ref md, .ref mn, .ref mk])), (ml, .inl (kI, 2500, .inl ql))] [(kI, .int), (kJ, .long), (kZ, .boolean)])) (pw_Ql (fx_nb ql q k)) 0 0 (fun _ => False) := by
  refine Met.ofW (cc := bX5_number) (maxL := 6) (ret := (some .long)) (by decide) rfl ?_
  intro p e s m args below meth c s₁ B hml hv
  obtain ⟨rfl, hP, hK, hN⟩ := hv
  have hx := B.exec
  have hb := B.bytes
  have hr := B.returns
  have hg : ∀ w ∈ GW, w.before _ s = true := fun w h => atoms_spec (ws := Cond.code yX5_number bX5_number 6 (some .long) :: GW) B.pre w (List.mem_cons_of_mem _ h)
  have hown : s.vm.findClass "FindLogModel" = some m.cls := findClass_of_methodNamed B.named
  have hlocks := B.notSynchronized
  have hS : va_S (fun _ => False) s.heap s.heap [] := va_S.rf
  have hl := lv_entry ([.ref mm, .int (nI q), .int (nI k)]) (n := 6) (Nat.le_of_ble_eq_true rfl)
  rw [lg_entry_eq]
  generalize (lg_sl ([.ref mm, .int (nI q), .int (nI k)]) ++ List.replicate (6 - (lg_sl ([.ref mm, .int (nI q), .int (nI k)])).length) Slot.unset).toArray = ls at hl ⊢
  have hl : lv_has ls 6 [(0, .ref mm), (1, .int (nI q)), (2, .int (nI k))] := hl
  refine lv_lconst (v := 0) hx hb dX5_number_0 (by decide) ?_
  refine lv_lstore_n (lv' := [(3, .long 0), (0, .ref mm), (1, .int (nI q)), (2, .int (nI k))]) hx hb dX5_number_1 rfl hl (by decide) rfl (fun ls hl => ?_)
  refine lv_iconst (v := nI 0) hx hb dX5_number_2 (by decide) ?_
  refine lv_istore (lv' := [(5, .int (nI 0)), (3, .long 0), (0, .ref mm), (1, .int (nI q)), (2, .int (nI k))]) hx hb dX5_number_3 hl (by decide) rfl (fun ls hl => ?_)
  have key : ∀ (e9 : Nat) (i : Nat) (H : Heap) (locs : List Loc) (ls : Array Slot), i + e9 = k → va_P D vwC [(mm, .inr (5, [.int (nI tc), .ref mp, .int (nI mpn), .ref ml, .int (nI mb), .ref mw, .int (nI mbg), .int (nI mnx), .int (nI mak), .int (nI mbr), .int mbd, .int (nI mtn), .int (nI mus), .ref mg, .ref mf, .ref msl, .ref mwh, .ref mu, .ref md, .ref mn, .ref mk])), (ml, .inl (kI, 2500, .inl ql))] H → va_S (fun _ => False) s.heap H locs → lv_has ls 6 [(5, .int (nI i)), (3, .long (fx_nb ql q i)), (0, .ref mm), (1, .int (nI q)), (2, .int (nI k))] → W p l e (rmL 0 0 0) s m ([.ref mm, .int (nI q), .int (nI k)] : List Value).toArray below meth c H locs 0 0 (MQ below (pw_Ql (fx_nb ql q k)) ([.ref mm, .int (nI q), .int (nI k)] : List Value).toArray s 0 0 (fun _ => False)) (F0 m 5 ls []) := by
    intro e9
    induction e9 with
    | zero =>
      intro i H locs ls hd hP hS hl
      refine lv_iload hx hb dX5_number_5 (lv_at hl 0 rfl) ?_
      refine lv_iload_n hx hb dX5_number_7 rfl (lv_at hl 4 rfl) ?_
      refine lv_icmp_geN (tgt := 33) hx hb (by omega) (by omega) dX5_number_8 (by decide) (fun c_8 => ?_) (fun c_8 => absurd c_8 (by omega))
      refine lv_lload_n hx hb dX5_number_33 rfl (lv_at hl 1 rfl) ?_
      obtain rfl : i = k := by omega
      exact W.lret (v := (fx_nb ql q i)) hx hb hr (fun t ht hW => ⟨⟨(fx_nb ql q i), (), rfl, rfl, trivial⟩, hS.F ht⟩) (fun q hq => (hS.2.2 q hq).elim) dX5_number_34
    | succ e9 ih =>
      intro i H locs ls hd hP hS hl
      refine lv_iload hx hb dX5_number_5 (lv_at hl 0 rfl) ?_
      refine lv_iload_n hx hb dX5_number_7 rfl (lv_at hl 4 rfl) ?_
      refine lv_icmp_geN (tgt := 33) hx hb (by omega) (by omega) dX5_number_8 (by decide) (fun c_8 => absurd c_8 (by omega)) (fun c_8 => ?_)
      refine lv_lload_n hx hb dX5_number_11 rfl (lv_at hl 1 rfl) ?_
      refine lv_bipush (v := nI 8) hx hb dX5_number_12 (by decide) ?_
      refine lv_lshl hx hb dX5_number_14 rfl ?_
      refine lv_aload_n hx hb dX5_number_15 rfl (lv_at hl 2 rfl) ?_
      refine va_get (D := D) (ci := 5) (v := .ref ml) (C := "FindLogModel") (T := TX5) (N := 21) hx hb hg inX5 hown hK hP 0 rfl rfl 3 (by decide) (hg _ k_560) (fun _ h9 => h9) rfl dX5_number_16 ?_
      refine lv_iload_n hx hb dX5_number_19 rfl (lv_at hl 3 rfl) ?_
      refine lv_iload hx hb dX5_number_20 (lv_at hl 0 rfl) ?_
      refine lv_iaddN hx hb dX5_number_22 ?_
      refine va_ialdN hx hb hK hP 1 0 rfl rfl (by omega) (by omega) dX5_number_23 ?_
      refine lv_i2l hx hb dX5_number_24 rfl ?_
      refine lv_lor hx hb dX5_number_25 ?_
      refine lv_lstore_n (lv' := [(3, .long (((fx_nb ql q i) <<< (((nI 8) : Int32).toInt64 &&& 63)) ||| (((ql (q + i))).toInt64))), (5, .int (nI i)), (0, .ref mm), (1, .int (nI q)), (2, .int (nI k))]) hx hb dX5_number_26 rfl hl (by decide) rfl (fun ls hl => ?_)
      refine lv_iincN (x := i) (j := 1) (lv' := [(5, .int (nI (i + 1))), (3, .long (((fx_nb ql q i) <<< (((nI 8) : Int32).toInt64 &&& 63)) ||| (((ql (q + i))).toInt64))), (0, .ref mm), (1, .int (nI q)), (2, .int (nI k))]) hx hb dX5_number_27 hl (k := 1) rfl (by decide) (by decide) rfl (fun ls hl => ?_)
      refine lv_goto (tgt := 5) hx hb dX5_number_30 (by decide) ?_
      exact ih (i + 1) _ _ _ (by omega) hP hS (lv_sub hl [0, 1, 2, 3, 4] rfl)
  exact key k 0 _ _ _ (by omega) hP hS (lv_sub hl [0, 1, 2, 3, 4] rfl)
set_option maxHeartbeats 4000000 in
set_option maxRecDepth 100000 in
theorem c_X5_len (l : Launch) (D : va_G) (kI kJ kZ : ClassId) (mm mp ml mw mg mf msl mwh mu md mn mk : Nat) (tc mpn mb mbg mnx mak mbr mtn mus : Nat) (mbd : Int32) (ql : Nat → Int32) (q ct : Nat) (hq : q + 5 < 2500) (hct : ql (q + 5) = nI ct) : Met l yX5_lengthAt (Cond.code yX5_lengthAt bX5_lengthAt 2 (some .int) :: GW) (rmL 0 0 0) (va_Pc [.ref mm, .int (nI q)] (pw_P D [(mm, .inr (5, [.int (nI tc), .ref mp, .int (nI mpn), .ref ml, .int (nI mb), .ref mw, .int (nI mbg), .int (nI mnx), .int (nI mak), .int (nI mbr), .int mbd, .int (nI mtn), .int (nI mus), .ref mg, .ref mf, .ref msl, .ref mwh, .ref mu, .ref md, .ref mn, .ref mk])), (ml, .inl (kI, 2500, .inl ql))] [(kI, .int), (kJ, .long), (kZ, .boolean)])) (pw_Qi (nI (14 + ct))) 0 0 (fun _ => False) := by
  refine Met.ofW (cc := bX5_lengthAt) (maxL := 2) (ret := (some .int)) (by decide) rfl ?_
  intro p e s m args below meth c s₁ B hml hv
  obtain ⟨rfl, hP, hK, hN⟩ := hv
  have hx := B.exec
  have hb := B.bytes
  have hr := B.returns
  have hg : ∀ w ∈ GW, w.before _ s = true := fun w h => atoms_spec (ws := Cond.code yX5_lengthAt bX5_lengthAt 2 (some .int) :: GW) B.pre w (List.mem_cons_of_mem _ h)
  have hown : s.vm.findClass "FindLogModel" = some m.cls := findClass_of_methodNamed B.named
  have hlocks := B.notSynchronized
  have hS : va_S (fun _ => False) s.heap s.heap [] := va_S.rf
  have hl := lv_entry ([.ref mm, .int (nI q)]) (n := 2) (Nat.le_of_ble_eq_true rfl)
  rw [lg_entry_eq]
  generalize (lg_sl ([.ref mm, .int (nI q)]) ++ List.replicate (2 - (lg_sl ([.ref mm, .int (nI q)])).length) Slot.unset).toArray = ls at hl ⊢
  have hl : lv_has ls 2 [(0, .ref mm), (1, .int (nI q))] := hl
  refine lv_bipush (v := nI 14) hx hb dX5_lengthAt_0 (by decide) ?_
  refine lv_aload_n hx hb dX5_lengthAt_2 rfl (lv_at hl 0 rfl) ?_
  refine va_get (D := D) (ci := 5) (v := .ref ml) (C := "FindLogModel") (T := TX5) (N := 21) hx hb hg inX5 hown hK hP 0 rfl rfl 3 (by decide) (hg _ k_560) (fun _ h9 => h9) rfl dX5_lengthAt_3 ?_
  refine lv_iload_n hx hb dX5_lengthAt_6 rfl (lv_at hl 1 rfl) ?_
  refine lv_iconst (v := nI 5) hx hb dX5_lengthAt_7 (by decide) ?_
  refine lv_iaddN hx hb dX5_lengthAt_8 ?_
  refine va_ialdN hx hb hK hP 1 0 rfl rfl (by omega) (by omega) dX5_lengthAt_9 ?_
  rw [hct]
  refine lv_iaddN hx hb dX5_lengthAt_10 ?_
  exact W.iret (v := (nI (14 + ct))) hx hb hr (fun t ht hW => ⟨⟨(nI (14 + ct)), (), rfl, rfl, trivial⟩, hS.F ht⟩) (fun q hq => (hS.2.2 q hq).elim) dX5_lengthAt_11
set_option maxHeartbeats 4000000 in
set_option maxRecDepth 100000 in
theorem c_X5_isAct (l : Launch) (D : va_G) (kI kJ kZ : ClassId) (mm mp ml mw mg mf msl mwh mu md mn mk : Nat) (tc mpn mb mbg mnx mak mbr mtn mus : Nat) (mbd : Int32) (ql : Nat → Int32) (q th ct : Nat) (ho : fx_okc ql mb q th ct) (hmb : mb ≤ 2432) : Met l yX5_isAct (Cond.code yX5_isAct bX5_isAct 3 (some .boolean) :: GW) (rmL 2 0 0) (va_Pc [.ref mm, .int (nI q)] (pw_P D [(mm, .inr (5, [.int (nI tc), .ref mp, .int (nI mpn), .ref ml, .int (nI mb), .ref mw, .int (nI mbg), .int (nI mnx), .int (nI mak), .int (nI mbr), .int mbd, .int (nI mtn), .int (nI mus), .ref mg, .ref mf, .ref msl, .ref mwh, .ref mu, .ref md, .ref mn, .ref mk])), (ml, .inl (kI, 2500, .inl ql))] [(kI, .int), (kJ, .long), (kZ, .boolean)])) (pw_Qi (nI 1)) 0 0 (fun _ => False) := by
  refine Met.ofW (cc := bX5_isAct) (maxL := 3) (ret := (some .boolean)) (by decide) rfl ?_
  intro p e s m args below meth c s₁ B hml hv
  obtain ⟨rfl, hP, hK, hN⟩ := hv
  have hx := B.exec
  have hb := B.bytes
  have hr := B.returns
  have hg : ∀ w ∈ GW, w.before _ s = true := fun w h => atoms_spec (ws := Cond.code yX5_isAct bX5_isAct 3 (some .boolean) :: GW) B.pre w (List.mem_cons_of_mem _ h)
  have hown : s.vm.findClass "FindLogModel" = some m.cls := findClass_of_methodNamed B.named
  have hlocks := B.notSynchronized
  have hS : va_S (fun _ => False) s.heap s.heap [] := va_S.rf
  have hl := lv_entry ([.ref mm, .int (nI q)]) (n := 3) (Nat.le_of_ble_eq_true rfl)
  rw [lg_entry_eq]
  generalize (lg_sl ([.ref mm, .int (nI q)]) ++ List.replicate (3 - (lg_sl ([.ref mm, .int (nI q)])).length) Slot.unset).toArray = ls at hl ⊢
  have hl : lv_has ls 3 [(0, .ref mm), (1, .int (nI q))] := hl
  obtain ⟨hth, hct, h1, h2, h3, h4, h5⟩ := ho
  refine lv_iload_n hx hb dX5_isAct_0 rfl (lv_at hl 1 rfl) ?_
  refine lv_bipush (v := nI 14) hx hb dX5_isAct_1 (by decide) ?_
  refine lv_iaddN hx hb dX5_isAct_3 ?_
  refine lv_aload_n hx hb dX5_isAct_4 rfl (lv_at hl 0 rfl) ?_
  refine va_get (D := D) (ci := 5) (v := .int (nI mb)) (C := "FindLogModel") (T := TX5) (N := 21) hx hb hg inX5 hown hK hP 0 rfl rfl 4 (by decide) (hg _ k_561) (fun _ h9 => h9) rfl dX5_isAct_5 ?_
  refine lv_icmp_gtN (tgt := 50) hx hb (by omega) (by omega) dX5_isAct_8 (by decide) (fun c_8 => absurd c_8 (by omega)) (fun c_8 => ?_)
  refine lv_aload_n hx hb dX5_isAct_11 rfl (lv_at hl 0 rfl) ?_
  refine va_get (D := D) (ci := 5) (v := .ref ml) (C := "FindLogModel") (T := TX5) (N := 21) hx hb hg inX5 hown hK hP 0 rfl rfl 3 (by decide) (hg _ k_560) (fun _ h9 => h9) rfl dX5_isAct_12 ?_
  refine lv_iload_n hx hb dX5_isAct_15 rfl (lv_at hl 1 rfl) ?_
  refine va_ialdN hx hb hK hP 1 0 rfl rfl (by omega) (by omega) dX5_isAct_16 ?_
  rw [hth]
  refine lv_bipush (v := nI 31) hx hb dX5_isAct_17 (by decide) ?_
  refine lv_icmp_gtN (tgt := 50) hx hb (by omega) (by omega) dX5_isAct_19 (by decide) (fun c_19 => absurd c_19 (by omega)) (fun c_19 => ?_)
  refine lv_aload_n hx hb dX5_isAct_22 rfl (lv_at hl 0 rfl) ?_
  refine lv_iload_n hx hb dX5_isAct_23 rfl (lv_at hl 1 rfl) ?_
  refine lv_iconst (v := nI 1) hx hb dX5_isAct_24 (by decide) ?_
  refine lv_iaddN hx hb dX5_isAct_25 ?_
  refine lv_iconst (v := nI 4) hx hb dX5_isAct_26 (by decide) ?_
  refine pw_calll (va_runV (As := [.int (nI (q + 1)), .int (nI 4)]) (rest := []) ⟨hx, hb, hml, hown, hg⟩ (c_X5_number l D kI kJ kZ mm mp ml mw mg mf msl mwh mu md mn mk tc mpn mb mbg mnx mak mbr mtn mus mbd ql (q + 1) 4 (by omega)) (cwV 2 hg (gw_V k_655 k_657 k_13 k_27 k_658) rfl rfl rfl (by decide +kernel) ⟨Nat.le_of_ble_eq_true rfl, Nat.le_of_ble_eq_true rfl⟩) ⟨pw_blind, va_recv hK hP (ci := 5) (q0 := 0) rfl rfl, pw_pre (hP.sub (ws' := [(mm, .inr (5, [.int (nI tc), .ref mp, .int (nI mpn), .ref ml, .int (nI mb), .ref mw, .int (nI mbg), .int (nI mnx), .int (nI mak), .int (nI mbr), .int mbd, .int (nI mtn), .int (nI mus), .ref mg, .ref mf, .ref msl, .ref mwh, .ref mu, .ref md, .ref mn, .ref mk])), (ml, .inl (kI, 2500, .inl ql))]) [0, 1] rfl) (hK.sub (tys' := [(kI, .int), (kJ, .long), (kZ, .boolean)]) [0, 1, 2] rfl) hN⟩ rfl rfl hl.1 rfl (lv_room (Nat.le_of_ble_eq_true rfl)) dX5_isAct_27 ⟨Nat.le_of_ble_eq_true rfl, Nat.le_of_ble_eq_true rfl⟩) hS hP (fun H locs hP hS => ?_)
  refine lv_ldc2 (v := 36500) hx hb hown (hg _ k_727) dX5_isAct_30 ?_
  refine W.lcmp hx hb dX5_isAct_33 ?_
  refine lv_if_gt (tgt := 50) hx hb dX5_isAct_34 (by decide) (fun c_34 => absurd c_34 (fun h9 => absurd ((lg_cmp_gt _ _).mp h9) (Int64.not_lt.mpr h3))) (fun c_34 => ?_)
  refine lv_aload_n hx hb dX5_isAct_37 rfl (lv_at hl 0 rfl) ?_
  refine va_get (D := D) (ci := 5) (v := .ref ml) (C := "FindLogModel") (T := TX5) (N := 21) hx hb hg inX5 hown hK hP 0 rfl rfl 3 (by decide) (hg _ k_560) (fun _ h9 => h9) rfl dX5_isAct_38 ?_
  refine lv_iload_n hx hb dX5_isAct_41 rfl (lv_at hl 1 rfl) ?_
  refine lv_iconst (v := nI 5) hx hb dX5_isAct_42 (by decide) ?_
  refine lv_iaddN hx hb dX5_isAct_43 ?_
  refine va_ialdN hx hb hK hP 1 0 rfl rfl (by omega) (by omega) dX5_isAct_44 ?_
  rw [hct]
  refine lv_bipush (v := nI 24) hx hb dX5_isAct_45 (by decide) ?_
  refine lv_icmp_leN (tgt := 52) hx hb (by omega) (by omega) dX5_isAct_47 (by decide) (fun c_47 => ?_) (fun c_47 => absurd c_47 (by omega))
  refine lv_bipush (v := nI 6) hx hb dX5_isAct_52 (by decide) ?_
  refine lv_aload_n hx hb dX5_isAct_54 rfl (lv_at hl 0 rfl) ?_
  refine va_get (D := D) (ci := 5) (v := .ref ml) (C := "FindLogModel") (T := TX5) (N := 21) hx hb hg inX5 hown hK hP 0 rfl rfl 3 (by decide) (hg _ k_560) (fun _ h9 => h9) rfl dX5_isAct_55 ?_
  refine lv_iload_n hx hb dX5_isAct_58 rfl (lv_at hl 1 rfl) ?_
  refine lv_iconst (v := nI 5) hx hb dX5_isAct_59 (by decide) ?_
  refine lv_iaddN hx hb dX5_isAct_60 ?_
  refine va_ialdN hx hb hK hP 1 0 rfl rfl (by omega) (by omega) dX5_isAct_61 ?_
  rw [hct]
  refine lv_iaddN hx hb dX5_isAct_62 ?_
  refine lv_istore_n (lv' := [(2, .int (nI (6 + ct))), (0, .ref mm), (1, .int (nI q))]) hx hb dX5_isAct_63 rfl hl (by decide) rfl (fun ls hl => ?_)
  refine lv_iload_n hx hb dX5_isAct_64 rfl (lv_at hl 2 rfl) ?_
  refine lv_iload_n hx hb dX5_isAct_65 rfl (lv_at hl 0 rfl) ?_
  refine lv_iaddN hx hb dX5_isAct_66 ?_
  refine lv_bipush (v := nI 8) hx hb dX5_isAct_67 (by decide) ?_
  refine lv_iaddN hx hb dX5_isAct_69 ?_
  refine lv_aload_n hx hb dX5_isAct_70 rfl (lv_at hl 1 rfl) ?_
  refine va_get (D := D) (ci := 5) (v := .int (nI mb)) (C := "FindLogModel") (T := TX5) (N := 21) hx hb hg inX5 hown hK hP 0 rfl rfl 4 (by decide) (hg _ k_561) (fun _ h9 => h9) rfl dX5_isAct_71 ?_
  refine lv_icmp_gtN (tgt := 100) hx hb (by omega) (by omega) dX5_isAct_74 (by decide) (fun c_74 => absurd c_74 (by omega)) (fun c_74 => ?_)
  refine lv_aload_n hx hb dX5_isAct_77 rfl (lv_at hl 1 rfl) ?_
  refine lv_iload_n hx hb dX5_isAct_78 rfl (lv_at hl 2 rfl) ?_
  refine lv_iload_n hx hb dX5_isAct_79 rfl (lv_at hl 0 rfl) ?_
  refine pw_calll (va_runV (As := [.int (nI q), .int (nI (6 + ct))]) (rest := []) ⟨hx, hb, hml, hown, hg⟩ (c_X5_sum l D kI kJ kZ mm mp ml mw mg mf msl mwh mu md mn mk tc mpn mb mbg mnx mak mbr mtn mus mbd ql q (6 + ct) (by omega)) (cwV 2 hg (gw_V k_643 k_645 k_11 k_27 k_646) rfl rfl rfl (by decide +kernel) ⟨Nat.le_of_ble_eq_true rfl, Nat.le_of_ble_eq_true rfl⟩) ⟨pw_blind, va_recv hK hP (ci := 5) (q0 := 0) rfl rfl, pw_pre (hP.sub (ws' := [(mm, .inr (5, [.int (nI tc), .ref mp, .int (nI mpn), .ref ml, .int (nI mb), .ref mw, .int (nI mbg), .int (nI mnx), .int (nI mak), .int (nI mbr), .int mbd, .int (nI mtn), .int (nI mus), .ref mg, .ref mf, .ref msl, .ref mwh, .ref mu, .ref md, .ref mn, .ref mk])), (ml, .inl (kI, 2500, .inl ql))]) [0, 1] rfl) (hK.sub (tys' := [(kI, .int), (kJ, .long), (kZ, .boolean)]) [0, 1, 2] rfl) hN⟩ rfl rfl hl.1 rfl (lv_room (Nat.le_of_ble_eq_true rfl)) dX5_isAct_80 ⟨Nat.le_of_ble_eq_true rfl, Nat.le_of_ble_eq_true rfl⟩) hS hP (fun H locs hP hS => ?_)
  refine lv_aload_n hx hb dX5_isAct_83 rfl (lv_at hl 1 rfl) ?_
  refine lv_iload_n hx hb dX5_isAct_84 rfl (lv_at hl 2 rfl) ?_
  refine lv_iload_n hx hb dX5_isAct_85 rfl (lv_at hl 0 rfl) ?_
  refine lv_iaddN hx hb dX5_isAct_86 ?_
  refine lv_bipush (v := nI 8) hx hb dX5_isAct_87 (by decide) ?_
  rw [show nI (q + (6 + ct)) = nI (q + 6 + ct) from sx_i _ _ (by omega)]
  refine pw_calll (va_runV (As := [.int (nI (q + 6 + ct)), .int (nI 8)]) (rest := [.long (fx_sm ql q (6 + ct))]) ⟨hx, hb, hml, hown, hg⟩ (c_X5_number l D kI kJ kZ mm mp ml mw mg mf msl mwh mu md mn mk tc mpn mb mbg mnx mak mbr mtn mus mbd ql (q + 6 + ct) 8 (by omega)) (cwV 2 hg (gw_V k_655 k_657 k_13 k_27 k_658) rfl rfl rfl (by decide +kernel) ⟨Nat.le_of_ble_eq_true rfl, Nat.le_of_ble_eq_true rfl⟩) ⟨pw_blind, va_recv hK hP (ci := 5) (q0 := 0) rfl rfl, pw_pre (hP.sub (ws' := [(mm, .inr (5, [.int (nI tc), .ref mp, .int (nI mpn), .ref ml, .int (nI mb), .ref mw, .int (nI mbg), .int (nI mnx), .int (nI mak), .int (nI mbr), .int mbd, .int (nI mtn), .int (nI mus), .ref mg, .ref mf, .ref msl, .ref mwh, .ref mu, .ref md, .ref mn, .ref mk])), (ml, .inl (kI, 2500, .inl ql))]) [0, 1] rfl) (hK.sub (tys' := [(kI, .int), (kJ, .long), (kZ, .boolean)]) [0, 1, 2] rfl) hN⟩ rfl rfl hl.1 rfl (lv_room (Nat.le_of_ble_eq_true rfl)) dX5_isAct_89 ⟨Nat.le_of_ble_eq_true rfl, Nat.le_of_ble_eq_true rfl⟩) hS hP (fun H locs hP hS => ?_)
  refine W.lcmp hx hb dX5_isAct_92 ?_
  refine lv_if_ne (tgt := 100) hx hb dX5_isAct_93 (by decide) (fun c_93 => absurd c_93 (fun h9 => h9 ((lg_cmp_eq _ _).mpr h5.symm))) (fun c_93 => ?_)
  refine lv_iconst (v := nI 1) hx hb dX5_isAct_96 (by decide) ?_
  refine lv_goto (tgt := 101) hx hb dX5_isAct_97 (by decide) ?_
  exact W.zret (v := (nI 1)) hx hb hr (by decide) (fun t ht hW => ⟨⟨(nI 1), (), rfl, rfl, trivial⟩, hS.F ht⟩) (fun q hq => (hS.2.2 q hq).elim) dX5_isAct_101
set_option maxHeartbeats 4000000 in
set_option maxRecDepth 100000 in
theorem c_X5_noAct (l : Launch) (D : va_G) (kI kJ kZ : ClassId) (mm mp ml mw mg mf msl mwh mu md mn mk : Nat) (tc mpn mb mbg mnx mak mbr mtn mus : Nat) (mbd : Int32) (ql : Nat → Int32) (q : Nat) (hno : ¬ fx_ok ql mb q) (hB : fx_B ql mb) (hq : q ≤ mb) (hmb : mb ≤ 2432) : Met l yX5_isAct (Cond.code yX5_isAct bX5_isAct 3 (some .boolean) :: GW) (rmL 2 0 0) (va_Pc [.ref mm, .int (nI q)] (pw_P D [(mm, .inr (5, [.int (nI tc), .ref mp, .int (nI mpn), .ref ml, .int (nI mb), .ref mw, .int (nI mbg), .int (nI mnx), .int (nI mak), .int (nI mbr), .int mbd, .int (nI mtn), .int (nI mus), .ref mg, .ref mf, .ref msl, .ref mwh, .ref mu, .ref md, .ref mn, .ref mk])), (ml, .inl (kI, 2500, .inl ql))] [(kI, .int), (kJ, .long), (kZ, .boolean)])) (pw_Qi (nI 0)) 0 0 (fun _ => False) := by
  refine Met.ofW (cc := bX5_isAct) (maxL := 3) (ret := (some .boolean)) (by decide) rfl ?_
  intro p e s m args below meth c s₁ B hml hv
  obtain ⟨rfl, hP, hK, hN⟩ := hv
  have hx := B.exec
  have hb := B.bytes
  have hr := B.returns
  have hg : ∀ w ∈ GW, w.before _ s = true := fun w h => atoms_spec (ws := Cond.code yX5_isAct bX5_isAct 3 (some .boolean) :: GW) B.pre w (List.mem_cons_of_mem _ h)
  have hown : s.vm.findClass "FindLogModel" = some m.cls := findClass_of_methodNamed B.named
  have hlocks := B.notSynchronized
  have hS : va_S (fun _ => False) s.heap s.heap [] := va_S.rf
  have hl := lv_entry ([.ref mm, .int (nI q)]) (n := 3) (Nat.le_of_ble_eq_true rfl)
  rw [lg_entry_eq]
  generalize (lg_sl ([.ref mm, .int (nI q)]) ++ List.replicate (3 - (lg_sl ([.ref mm, .int (nI q)])).length) Slot.unset).toArray = ls at hl ⊢
  have hl : lv_has ls 3 [(0, .ref mm), (1, .int (nI q))] := hl
  refine lv_iload_n hx hb dX5_isAct_0 rfl (lv_at hl 1 rfl) ?_
  refine lv_bipush (v := nI 14) hx hb dX5_isAct_1 (by decide) ?_
  refine lv_iaddN hx hb dX5_isAct_3 ?_
  refine lv_aload_n hx hb dX5_isAct_4 rfl (lv_at hl 0 rfl) ?_
  refine va_get (D := D) (ci := 5) (v := .int (nI mb)) (C := "FindLogModel") (T := TX5) (N := 21) hx hb hg inX5 hown hK hP 0 rfl rfl 4 (by decide) (hg _ k_561) (fun _ h9 => h9) rfl dX5_isAct_5 ?_
  refine lv_icmp_gtN (tgt := 50) hx hb (by omega) (by omega) dX5_isAct_8 (by decide) (fun c_8 => ?_) (fun c_8 => ?_)
  · refine lv_iconst (v := nI 0) hx hb dX5_isAct_50 (by decide) ?_
    exact W.zret (v := (nI 0)) hx hb hr (by decide) (fun t ht hW => ⟨⟨(nI 0), (), rfl, rfl, trivial⟩, hS.F ht⟩) (fun q hq => (hS.2.2 q hq).elim) dX5_isAct_51
  · obtain ⟨th, hb1, hth⟩ := hB q (by omega)
    obtain ⟨ct, hb2, hct⟩ := hB (q + 5) (by omega)
    refine lv_aload_n hx hb dX5_isAct_11 rfl (lv_at hl 0 rfl) ?_
    refine va_get (D := D) (ci := 5) (v := .ref ml) (C := "FindLogModel") (T := TX5) (N := 21) hx hb hg inX5 hown hK hP 0 rfl rfl 3 (by decide) (hg _ k_560) (fun _ h9 => h9) rfl dX5_isAct_12 ?_
    refine lv_iload_n hx hb dX5_isAct_15 rfl (lv_at hl 1 rfl) ?_
    refine va_ialdN hx hb hK hP 1 0 rfl rfl (by omega) (by omega) dX5_isAct_16 ?_
    rw [hth]
    refine lv_bipush (v := nI 31) hx hb dX5_isAct_17 (by decide) ?_
    refine lv_icmp_gtN (tgt := 50) hx hb (by omega) (by omega) dX5_isAct_19 (by decide) (fun c_19 => ?_) (fun c_19 => ?_)
    · refine lv_iconst (v := nI 0) hx hb dX5_isAct_50 (by decide) ?_
      exact W.zret (v := (nI 0)) hx hb hr (by decide) (fun t ht hW => ⟨⟨(nI 0), (), rfl, rfl, trivial⟩, hS.F ht⟩) (fun q hq => (hS.2.2 q hq).elim) dX5_isAct_51
    · refine lv_aload_n hx hb dX5_isAct_22 rfl (lv_at hl 0 rfl) ?_
      refine lv_iload_n hx hb dX5_isAct_23 rfl (lv_at hl 1 rfl) ?_
      refine lv_iconst (v := nI 1) hx hb dX5_isAct_24 (by decide) ?_
      refine lv_iaddN hx hb dX5_isAct_25 ?_
      refine lv_iconst (v := nI 4) hx hb dX5_isAct_26 (by decide) ?_
      refine pw_calll (va_runV (As := [.int (nI (q + 1)), .int (nI 4)]) (rest := []) ⟨hx, hb, hml, hown, hg⟩ (c_X5_number l D kI kJ kZ mm mp ml mw mg mf msl mwh mu md mn mk tc mpn mb mbg mnx mak mbr mtn mus mbd ql (q + 1) 4 (by omega)) (cwV 2 hg (gw_V k_655 k_657 k_13 k_27 k_658) rfl rfl rfl (by decide +kernel) ⟨Nat.le_of_ble_eq_true rfl, Nat.le_of_ble_eq_true rfl⟩) ⟨pw_blind, va_recv hK hP (ci := 5) (q0 := 0) rfl rfl, pw_pre (hP.sub (ws' := [(mm, .inr (5, [.int (nI tc), .ref mp, .int (nI mpn), .ref ml, .int (nI mb), .ref mw, .int (nI mbg), .int (nI mnx), .int (nI mak), .int (nI mbr), .int mbd, .int (nI mtn), .int (nI mus), .ref mg, .ref mf, .ref msl, .ref mwh, .ref mu, .ref md, .ref mn, .ref mk])), (ml, .inl (kI, 2500, .inl ql))]) [0, 1] rfl) (hK.sub (tys' := [(kI, .int), (kJ, .long), (kZ, .boolean)]) [0, 1, 2] rfl) hN⟩ rfl rfl hl.1 rfl (lv_room (Nat.le_of_ble_eq_true rfl)) dX5_isAct_27 ⟨Nat.le_of_ble_eq_true rfl, Nat.le_of_ble_eq_true rfl⟩) hS hP (fun H locs hP hS => ?_)
      refine lv_ldc2 (v := 36500) hx hb hown (hg _ k_727) dX5_isAct_30 ?_
      refine W.lcmp hx hb dX5_isAct_33 ?_
      refine lv_if_gt (tgt := 50) hx hb dX5_isAct_34 (by decide) (fun c_34 => ?_) (fun c_34 => ?_)
      · refine lv_iconst (v := nI 0) hx hb dX5_isAct_50 (by decide) ?_
        exact W.zret (v := (nI 0)) hx hb hr (by decide) (fun t ht hW => ⟨⟨(nI 0), (), rfl, rfl, trivial⟩, hS.F ht⟩) (fun q hq => (hS.2.2 q hq).elim) dX5_isAct_51
      · refine lv_aload_n hx hb dX5_isAct_37 rfl (lv_at hl 0 rfl) ?_
        refine va_get (D := D) (ci := 5) (v := .ref ml) (C := "FindLogModel") (T := TX5) (N := 21) hx hb hg inX5 hown hK hP 0 rfl rfl 3 (by decide) (hg _ k_560) (fun _ h9 => h9) rfl dX5_isAct_38 ?_
        refine lv_iload_n hx hb dX5_isAct_41 rfl (lv_at hl 1 rfl) ?_
        refine lv_iconst (v := nI 5) hx hb dX5_isAct_42 (by decide) ?_
        refine lv_iaddN hx hb dX5_isAct_43 ?_
        refine va_ialdN hx hb hK hP 1 0 rfl rfl (by omega) (by omega) dX5_isAct_44 ?_
        rw [hct]
        refine lv_bipush (v := nI 24) hx hb dX5_isAct_45 (by decide) ?_
        refine lv_icmp_leN (tgt := 52) hx hb (by omega) (by omega) dX5_isAct_47 (by decide) (fun c_47 => ?_) (fun c_47 => ?_)
        · refine lv_bipush (v := nI 6) hx hb dX5_isAct_52 (by decide) ?_
          refine lv_aload_n hx hb dX5_isAct_54 rfl (lv_at hl 0 rfl) ?_
          refine va_get (D := D) (ci := 5) (v := .ref ml) (C := "FindLogModel") (T := TX5) (N := 21) hx hb hg inX5 hown hK hP 0 rfl rfl 3 (by decide) (hg _ k_560) (fun _ h9 => h9) rfl dX5_isAct_55 ?_
          refine lv_iload_n hx hb dX5_isAct_58 rfl (lv_at hl 1 rfl) ?_
          refine lv_iconst (v := nI 5) hx hb dX5_isAct_59 (by decide) ?_
          refine lv_iaddN hx hb dX5_isAct_60 ?_
          refine va_ialdN hx hb hK hP 1 0 rfl rfl (by omega) (by omega) dX5_isAct_61 ?_
          rw [hct]
          refine lv_iaddN hx hb dX5_isAct_62 ?_
          refine lv_istore_n (lv' := [(2, .int (nI (6 + ct))), (0, .ref mm), (1, .int (nI q))]) hx hb dX5_isAct_63 rfl hl (by decide) rfl (fun ls hl => ?_)
          refine lv_iload_n hx hb dX5_isAct_64 rfl (lv_at hl 2 rfl) ?_
          refine lv_iload_n hx hb dX5_isAct_65 rfl (lv_at hl 0 rfl) ?_
          refine lv_iaddN hx hb dX5_isAct_66 ?_
          refine lv_bipush (v := nI 8) hx hb dX5_isAct_67 (by decide) ?_
          refine lv_iaddN hx hb dX5_isAct_69 ?_
          refine lv_aload_n hx hb dX5_isAct_70 rfl (lv_at hl 1 rfl) ?_
          refine va_get (D := D) (ci := 5) (v := .int (nI mb)) (C := "FindLogModel") (T := TX5) (N := 21) hx hb hg inX5 hown hK hP 0 rfl rfl 4 (by decide) (hg _ k_561) (fun _ h9 => h9) rfl dX5_isAct_71 ?_
          refine lv_icmp_gtN (tgt := 100) hx hb (by omega) (by omega) dX5_isAct_74 (by decide) (fun c_74 => ?_) (fun c_74 => ?_)
          · refine lv_iconst (v := nI 0) hx hb dX5_isAct_100 (by decide) ?_
            exact W.zret (v := (nI 0)) hx hb hr (by decide) (fun t ht hW => ⟨⟨(nI 0), (), rfl, rfl, trivial⟩, hS.F ht⟩) (fun q hq => (hS.2.2 q hq).elim) dX5_isAct_101
          · refine lv_aload_n hx hb dX5_isAct_77 rfl (lv_at hl 1 rfl) ?_
            refine lv_iload_n hx hb dX5_isAct_78 rfl (lv_at hl 2 rfl) ?_
            refine lv_iload_n hx hb dX5_isAct_79 rfl (lv_at hl 0 rfl) ?_
            refine pw_calll (va_runV (As := [.int (nI q), .int (nI (6 + ct))]) (rest := []) ⟨hx, hb, hml, hown, hg⟩ (c_X5_sum l D kI kJ kZ mm mp ml mw mg mf msl mwh mu md mn mk tc mpn mb mbg mnx mak mbr mtn mus mbd ql q (6 + ct) (by omega)) (cwV 2 hg (gw_V k_643 k_645 k_11 k_27 k_646) rfl rfl rfl (by decide +kernel) ⟨Nat.le_of_ble_eq_true rfl, Nat.le_of_ble_eq_true rfl⟩) ⟨pw_blind, va_recv hK hP (ci := 5) (q0 := 0) rfl rfl, pw_pre (hP.sub (ws' := [(mm, .inr (5, [.int (nI tc), .ref mp, .int (nI mpn), .ref ml, .int (nI mb), .ref mw, .int (nI mbg), .int (nI mnx), .int (nI mak), .int (nI mbr), .int mbd, .int (nI mtn), .int (nI mus), .ref mg, .ref mf, .ref msl, .ref mwh, .ref mu, .ref md, .ref mn, .ref mk])), (ml, .inl (kI, 2500, .inl ql))]) [0, 1] rfl) (hK.sub (tys' := [(kI, .int), (kJ, .long), (kZ, .boolean)]) [0, 1, 2] rfl) hN⟩ rfl rfl hl.1 rfl (lv_room (Nat.le_of_ble_eq_true rfl)) dX5_isAct_80 ⟨Nat.le_of_ble_eq_true rfl, Nat.le_of_ble_eq_true rfl⟩) hS hP (fun H locs hP hS => ?_)
            refine lv_aload_n hx hb dX5_isAct_83 rfl (lv_at hl 1 rfl) ?_
            refine lv_iload_n hx hb dX5_isAct_84 rfl (lv_at hl 2 rfl) ?_
            refine lv_iload_n hx hb dX5_isAct_85 rfl (lv_at hl 0 rfl) ?_
            refine lv_iaddN hx hb dX5_isAct_86 ?_
            refine lv_bipush (v := nI 8) hx hb dX5_isAct_87 (by decide) ?_
            rw [show nI (q + (6 + ct)) = nI (q + 6 + ct) from sx_i _ _ (by omega)]
            refine pw_calll (va_runV (As := [.int (nI (q + 6 + ct)), .int (nI 8)]) (rest := [.long (fx_sm ql q (6 + ct))]) ⟨hx, hb, hml, hown, hg⟩ (c_X5_number l D kI kJ kZ mm mp ml mw mg mf msl mwh mu md mn mk tc mpn mb mbg mnx mak mbr mtn mus mbd ql (q + 6 + ct) 8 (by omega)) (cwV 2 hg (gw_V k_655 k_657 k_13 k_27 k_658) rfl rfl rfl (by decide +kernel) ⟨Nat.le_of_ble_eq_true rfl, Nat.le_of_ble_eq_true rfl⟩) ⟨pw_blind, va_recv hK hP (ci := 5) (q0 := 0) rfl rfl, pw_pre (hP.sub (ws' := [(mm, .inr (5, [.int (nI tc), .ref mp, .int (nI mpn), .ref ml, .int (nI mb), .ref mw, .int (nI mbg), .int (nI mnx), .int (nI mak), .int (nI mbr), .int mbd, .int (nI mtn), .int (nI mus), .ref mg, .ref mf, .ref msl, .ref mwh, .ref mu, .ref md, .ref mn, .ref mk])), (ml, .inl (kI, 2500, .inl ql))]) [0, 1] rfl) (hK.sub (tys' := [(kI, .int), (kJ, .long), (kZ, .boolean)]) [0, 1, 2] rfl) hN⟩ rfl rfl hl.1 rfl (lv_room (Nat.le_of_ble_eq_true rfl)) dX5_isAct_89 ⟨Nat.le_of_ble_eq_true rfl, Nat.le_of_ble_eq_true rfl⟩) hS hP (fun H locs hP hS => ?_)
            refine W.lcmp hx hb dX5_isAct_92 ?_
            refine lv_if_ne (tgt := 100) hx hb dX5_isAct_93 (by decide) (fun c_93 => ?_) (fun c_93 => ?_)
            · refine lv_iconst (v := nI 0) hx hb dX5_isAct_100 (by decide) ?_
              exact W.zret (v := (nI 0)) hx hb hr (by decide) (fun t ht hW => ⟨⟨(nI 0), (), rfl, rfl, trivial⟩, hS.F ht⟩) (fun q hq => (hS.2.2 q hq).elim) dX5_isAct_101
            · exact absurd ⟨th, ct, hth, hct, by omega, by omega, Int64.not_lt.mp fun h9 => c_34 ((lg_cmp_gt _ _).mpr h9), by omega, ((lg_cmp_eq _ _).mp c_93).symm⟩ hno
        · refine lv_iconst (v := nI 0) hx hb dX5_isAct_50 (by decide) ?_
          exact W.zret (v := (nI 0)) hx hb hr (by decide) (fun t ht hW => ⟨⟨(nI 0), (), rfl, rfl, trivial⟩, hS.F ht⟩) (fun q hq => (hS.2.2 q hq).elim) dX5_isAct_51
set_option maxHeartbeats 4000000 in
set_option maxRecDepth 100000 in
theorem c_X5_copy (l : Launch) (D : va_G) (sz : Nat) (kI kJ kZ : ClassId) (mm mp ml mw mg mf msl mwh mu md mn mk : Nat) (tc mpn mb mbg mnx mak mbr mtn mus : Nat) (mbd : Int32) (qd qm qk : Nat → Int32) (x y : Nat) (hx9 : x < 96) (hy9 : y < 96) : Met l yX5_copyThing (Cond.code yX5_copyThing bX5_copyThing 4 none :: GW) (rmL 0 0 0) (va_Pc [.ref mm, .int (nI x), .int (nI y)] (ww_P D sz [(mm, .inr (5, [.int (nI tc), .ref mp, .int (nI mpn), .ref ml, .int (nI mb), .ref mw, .int (nI mbg), .int (nI mnx), .int (nI mak), .int (nI mbr), .int mbd, .int (nI mtn), .int (nI mus), .ref mg, .ref mf, .ref msl, .ref mwh, .ref mu, .ref md, .ref mn, .ref mk])), (md, .inl (kI, 96, .inl qd)), (mn, .inl (kI, 96, .inl qm)), (mk, .inl (kI, 2304, .inl qk))] [(kI, .int), (kJ, .long), (kZ, .boolean)])) (va_Qv (fun (u : Unit) => True) (fun (u : Unit) => ww_B D (va_A [(mm, .inr (5, [.int (nI tc), .ref mp, .int (nI mpn), .ref ml, .int (nI mb), .ref mw, .int (nI mbg), .int (nI mnx), .int (nI mak), .int (nI mbr), .int mbd, .int (nI mtn), .int (nI mus), .ref mg, .ref mf, .ref msl, .ref mwh, .ref mu, .ref md, .ref mn, .ref mk])), (md, .inl (kI, 96, .inl qd)), (mn, .inl (kI, 96, .inl qm)), (mk, .inl (kI, 2304, .inl qk))] sz) [(mm, .inr (5, [.int (nI tc), .ref mp, .int (nI mpn), .ref ml, .int (nI mb), .ref mw, .int (nI mbg), .int (nI mnx), .int (nI mak), .int (nI mbr), .int mbd, .int (nI mtn), .int (nI mus), .ref mg, .ref mf, .ref msl, .ref mwh, .ref mu, .ref md, .ref mn, .ref mk])), (md, .inl (kI, 96, .inl (upd qd y (qd x)))), (mn, .inl (kI, 96, .inl (upd qm y (qm x)))), (mk, .inl (kI, 2304, .inl (va_cpy qk qk (24 * x) (24 * y) 24)))] [(kI, .int), (kJ, .long), (kZ, .boolean)]) (va_A [(mm, .inr (5, [.int (nI tc), .ref mp, .int (nI mpn), .ref ml, .int (nI mb), .ref mw, .int (nI mbg), .int (nI mnx), .int (nI mak), .int (nI mbr), .int mbd, .int (nI mtn), .int (nI mus), .ref mg, .ref mf, .ref msl, .ref mwh, .ref mu, .ref md, .ref mn, .ref mk])), (md, .inl (kI, 96, .inl qd)), (mn, .inl (kI, 96, .inl qm)), (mk, .inl (kI, 2304, .inl qk))] sz)) 0 0 (va_A [(mm, .inr (5, [.int (nI tc), .ref mp, .int (nI mpn), .ref ml, .int (nI mb), .ref mw, .int (nI mbg), .int (nI mnx), .int (nI mak), .int (nI mbr), .int mbd, .int (nI mtn), .int (nI mus), .ref mg, .ref mf, .ref msl, .ref mwh, .ref mu, .ref md, .ref mn, .ref mk])), (md, .inl (kI, 96, .inl qd)), (mn, .inl (kI, 96, .inl qm)), (mk, .inl (kI, 2304, .inl qk))] sz) := by
  refine Met.ofW (cc := bX5_copyThing) (maxL := 4) (ret := none) (by decide) rfl ?_
  intro p e s m args below meth c s₁ B hml hv
  obtain ⟨rfl, hsz, hP, hK, hD0, hN⟩ := hv
  have hx := B.exec
  have hb := B.bytes
  have hr := B.returns
  have hg : ∀ w ∈ GW, w.before _ s = true := fun w h => atoms_spec (ws := Cond.code yX5_copyThing bX5_copyThing 4 none :: GW) B.pre w (List.mem_cons_of_mem _ h)
  have hown : s.vm.findClass "FindLogModel" = some m.cls := findClass_of_methodNamed B.named
  have hlocks := B.notSynchronized
  subst hsz
  have hD := hD0.self (sz := s.heap.size)
  generalize hAe : va_A [(mm, .inr (5, [.int (nI tc), .ref mp, .int (nI mpn), .ref ml, .int (nI mb), .ref mw, .int (nI mbg), .int (nI mnx), .int (nI mak), .int (nI mbr), .int mbd, .int (nI mtn), .int (nI mus), .ref mg, .ref mf, .ref msl, .ref mwh, .ref mu, .ref md, .ref mn, .ref mk])), (md, .inl (kI, 96, .inl qd)), (mn, .inl (kI, 96, .inl qm)), (mk, .inl (kI, 2304, .inl qk))] s.heap.size = A at hD ⊢
  have hA : ∀ q : Nat, s.heap.size ≤ q → A q := fun q h => by rw [← hAe]; exact Or.inr h
  have hS : va_S A s.heap s.heap [] := va_S.rf
  have hl := lv_entry ([.ref mm, .int (nI x), .int (nI y)]) (n := 4) (Nat.le_of_ble_eq_true rfl)
  rw [lg_entry_eq]
  generalize (lg_sl ([.ref mm, .int (nI x), .int (nI y)]) ++ List.replicate (4 - (lg_sl ([.ref mm, .int (nI x), .int (nI y)])).length) Slot.unset).toArray = ls at hl ⊢
  have hl : lv_has ls 4 [(0, .ref mm), (1, .int (nI x)), (2, .int (nI y))] := hl
  refine lv_aload_n hx hb dX5_copyThing_0 rfl (lv_at hl 0 rfl) ?_
  refine va_get (D := D) (ci := 5) (v := .ref md) (C := "FindLogModel") (T := TX5) (N := 21) hx hb hg inX5 hown hK hP 0 rfl rfl 18 (by decide) (hg _ k_575) (fun _ h9 => h9) rfl dX5_copyThing_1 ?_
  refine lv_iload_n hx hb dX5_copyThing_4 rfl (lv_at hl 2 rfl) ?_
  refine lv_aload_n hx hb dX5_copyThing_5 rfl (lv_at hl 0 rfl) ?_
  refine va_get (D := D) (ci := 5) (v := .ref md) (C := "FindLogModel") (T := TX5) (N := 21) hx hb hg inX5 hown hK hP 0 rfl rfl 18 (by decide) (hg _ k_575) (fun _ h9 => h9) rfl dX5_copyThing_6 ?_
  refine lv_iload_n hx hb dX5_copyThing_9 rfl (lv_at hl 1 rfl) ?_
  refine va_ialdN hx hb hK hP 1 0 rfl rfl (by omega) (by omega) dX5_copyThing_10 ?_
  refine va_iastN hx hb hK hP hD hS 1 0 rfl rfl (by omega) (by omega) dX5_copyThing_11 (fun H locs hP hD hS => ?_)
  have hP : va_P D vwC [(mm, .inr (5, [.int (nI tc), .ref mp, .int (nI mpn), .ref ml, .int (nI mb), .ref mw, .int (nI mbg), .int (nI mnx), .int (nI mak), .int (nI mbr), .int mbd, .int (nI mtn), .int (nI mus), .ref mg, .ref mf, .ref msl, .ref mwh, .ref mu, .ref md, .ref mn, .ref mk])), (md, .inl (kI, 96, .inl (upd qd y (qd x)))), (mn, .inl (kI, 96, .inl qm)), (mk, .inl (kI, 2304, .inl qk))] H := hP
  have hD : va_D A [(mm, .inr (5, [.int (nI tc), .ref mp, .int (nI mpn), .ref ml, .int (nI mb), .ref mw, .int (nI mbg), .int (nI mnx), .int (nI mak), .int (nI mbr), .int mbd, .int (nI mtn), .int (nI mus), .ref mg, .ref mf, .ref msl, .ref mwh, .ref mu, .ref md, .ref mn, .ref mk])), (md, .inl (kI, 96, .inl (upd qd y (qd x)))), (mn, .inl (kI, 96, .inl qm)), (mk, .inl (kI, 2304, .inl qk))] := hD
  refine lv_aload_n hx hb dX5_copyThing_12 rfl (lv_at hl 0 rfl) ?_
  refine va_get (D := D) (ci := 5) (v := .ref mn) (C := "FindLogModel") (T := TX5) (N := 21) hx hb hg inX5 hown hK hP 0 rfl rfl 19 (by decide) (hg _ k_576) (fun _ h9 => h9) rfl dX5_copyThing_13 ?_
  refine lv_iload_n hx hb dX5_copyThing_16 rfl (lv_at hl 2 rfl) ?_
  refine lv_aload_n hx hb dX5_copyThing_17 rfl (lv_at hl 0 rfl) ?_
  refine va_get (D := D) (ci := 5) (v := .ref mn) (C := "FindLogModel") (T := TX5) (N := 21) hx hb hg inX5 hown hK hP 0 rfl rfl 19 (by decide) (hg _ k_576) (fun _ h9 => h9) rfl dX5_copyThing_18 ?_
  refine lv_iload_n hx hb dX5_copyThing_21 rfl (lv_at hl 1 rfl) ?_
  refine va_ialdN hx hb hK hP 2 0 rfl rfl (by omega) (by omega) dX5_copyThing_22 ?_
  refine va_iastN hx hb hK hP hD hS 2 0 rfl rfl (by omega) (by omega) dX5_copyThing_23 (fun H locs hP hD hS => ?_)
  have hP : va_P D vwC [(mm, .inr (5, [.int (nI tc), .ref mp, .int (nI mpn), .ref ml, .int (nI mb), .ref mw, .int (nI mbg), .int (nI mnx), .int (nI mak), .int (nI mbr), .int mbd, .int (nI mtn), .int (nI mus), .ref mg, .ref mf, .ref msl, .ref mwh, .ref mu, .ref md, .ref mn, .ref mk])), (md, .inl (kI, 96, .inl (upd qd y (qd x)))), (mn, .inl (kI, 96, .inl (upd qm y (qm x)))), (mk, .inl (kI, 2304, .inl qk))] H := hP
  have hD : va_D A [(mm, .inr (5, [.int (nI tc), .ref mp, .int (nI mpn), .ref ml, .int (nI mb), .ref mw, .int (nI mbg), .int (nI mnx), .int (nI mak), .int (nI mbr), .int mbd, .int (nI mtn), .int (nI mus), .ref mg, .ref mf, .ref msl, .ref mwh, .ref mu, .ref md, .ref mn, .ref mk])), (md, .inl (kI, 96, .inl (upd qd y (qd x)))), (mn, .inl (kI, 96, .inl (upd qm y (qm x)))), (mk, .inl (kI, 2304, .inl qk))] := hD
  refine lv_iconst (v := nI 0) hx hb dX5_copyThing_24 (by decide) ?_
  refine lv_istore_n (lv' := [(3, .int (nI 0)), (0, .ref mm), (1, .int (nI x)), (2, .int (nI y))]) hx hb dX5_copyThing_25 rfl hl (by decide) rfl (fun ls hl => ?_)
  have hP : va_P D vwC [(mm, .inr (5, [.int (nI tc), .ref mp, .int (nI mpn), .ref ml, .int (nI mb), .ref mw, .int (nI mbg), .int (nI mnx), .int (nI mak), .int (nI mbr), .int mbd, .int (nI mtn), .int (nI mus), .ref mg, .ref mf, .ref msl, .ref mwh, .ref mu, .ref md, .ref mn, .ref mk])), (md, .inl (kI, 96, .inl (upd qd y (qd x)))), (mn, .inl (kI, 96, .inl (upd qm y (qm x)))), (mk, .inl (kI, 2304, .inl (va_cpy qk qk (24 * x) (24 * y) 0)))] H := by rw [cpy_0]; exact hP
  have hD : va_D A [(mm, .inr (5, [.int (nI tc), .ref mp, .int (nI mpn), .ref ml, .int (nI mb), .ref mw, .int (nI mbg), .int (nI mnx), .int (nI mak), .int (nI mbr), .int mbd, .int (nI mtn), .int (nI mus), .ref mg, .ref mf, .ref msl, .ref mwh, .ref mu, .ref md, .ref mn, .ref mk])), (md, .inl (kI, 96, .inl (upd qd y (qd x)))), (mn, .inl (kI, 96, .inl (upd qm y (qm x)))), (mk, .inl (kI, 2304, .inl (va_cpy qk qk (24 * x) (24 * y) 0)))] := by rw [cpy_0]; exact hD
  have key : ∀ (e9 : Nat) (i : Nat) (H : Heap) (locs : List Loc) (ls : Array Slot), i + e9 = 24 → va_P D vwC [(mm, .inr (5, [.int (nI tc), .ref mp, .int (nI mpn), .ref ml, .int (nI mb), .ref mw, .int (nI mbg), .int (nI mnx), .int (nI mak), .int (nI mbr), .int mbd, .int (nI mtn), .int (nI mus), .ref mg, .ref mf, .ref msl, .ref mwh, .ref mu, .ref md, .ref mn, .ref mk])), (md, .inl (kI, 96, .inl (upd qd y (qd x)))), (mn, .inl (kI, 96, .inl (upd qm y (qm x)))), (mk, .inl (kI, 2304, .inl (va_cpy qk qk (24 * x) (24 * y) i)))] H → va_D A [(mm, .inr (5, [.int (nI tc), .ref mp, .int (nI mpn), .ref ml, .int (nI mb), .ref mw, .int (nI mbg), .int (nI mnx), .int (nI mak), .int (nI mbr), .int mbd, .int (nI mtn), .int (nI mus), .ref mg, .ref mf, .ref msl, .ref mwh, .ref mu, .ref md, .ref mn, .ref mk])), (md, .inl (kI, 96, .inl (upd qd y (qd x)))), (mn, .inl (kI, 96, .inl (upd qm y (qm x)))), (mk, .inl (kI, 2304, .inl (va_cpy qk qk (24 * x) (24 * y) i)))] → va_S A s.heap H locs → lv_has ls 4 [(3, .int (nI i)), (0, .ref mm), (1, .int (nI x)), (2, .int (nI y))] → W p l e (rmL 0 0 0) s m ([.ref mm, .int (nI x), .int (nI y)] : List Value).toArray below meth c H locs 0 0 (MQ below (va_Qv (fun (u : Unit) => True) (fun (u : Unit) => ww_B D A [(mm, .inr (5, [.int (nI tc), .ref mp, .int (nI mpn), .ref ml, .int (nI mb), .ref mw, .int (nI mbg), .int (nI mnx), .int (nI mak), .int (nI mbr), .int mbd, .int (nI mtn), .int (nI mus), .ref mg, .ref mf, .ref msl, .ref mwh, .ref mu, .ref md, .ref mn, .ref mk])), (md, .inl (kI, 96, .inl (upd qd y (qd x)))), (mn, .inl (kI, 96, .inl (upd qm y (qm x)))), (mk, .inl (kI, 2304, .inl (va_cpy qk qk (24 * x) (24 * y) 24)))] [(kI, .int), (kJ, .long), (kZ, .boolean)]) A) ([.ref mm, .int (nI x), .int (nI y)] : List Value).toArray s 0 0 A) (F0 m 26 ls []) := by
    intro e9
    induction e9 with
    | zero =>
      intro i H locs ls hd hP hD hS hl
      refine lv_iload_n hx hb dX5_copyThing_26 rfl (lv_at hl 0 rfl) ?_
      refine lv_bipush (v := nI 24) hx hb dX5_copyThing_27 (by decide) ?_
      refine lv_icmp_geN (tgt := 60) hx hb (by omega) (by omega) dX5_copyThing_29 (by decide) (fun c_29 => ?_) (fun c_29 => absurd c_29 (by omega))
      obtain rfl : i = 24 := by omega
      exact W.vret hx hb hr (fun t ht hW => ⟨⟨(), rfl, trivial, by rw [ht]; exact hP, va_K.moved hW.alike hK, hD⟩, hS.F ht⟩) hS.2.2 dX5_copyThing_60
    | succ e9 ih =>
      intro i H locs ls hd hP hD hS hl
      refine lv_iload_n hx hb dX5_copyThing_26 rfl (lv_at hl 0 rfl) ?_
      refine lv_bipush (v := nI 24) hx hb dX5_copyThing_27 (by decide) ?_
      refine lv_icmp_geN (tgt := 60) hx hb (by omega) (by omega) dX5_copyThing_29 (by decide) (fun c_29 => absurd c_29 (by omega)) (fun c_29 => ?_)
      refine lv_aload_n hx hb dX5_copyThing_32 rfl (lv_at hl 1 rfl) ?_
      refine va_get (D := D) (ci := 5) (v := .ref mk) (C := "FindLogModel") (T := TX5) (N := 21) hx hb hg inX5 hown hK hP 0 rfl rfl 20 (by decide) (hg _ k_577) (fun _ h9 => h9) rfl dX5_copyThing_33 ?_
      refine lv_bipush (v := nI 24) hx hb dX5_copyThing_36 (by decide) ?_
      refine lv_iload_n hx hb dX5_copyThing_38 rfl (lv_at hl 3 rfl) ?_
      refine lv_imulN hx hb dX5_copyThing_39 ?_
      refine lv_iload_n hx hb dX5_copyThing_40 rfl (lv_at hl 0 rfl) ?_
      refine lv_iaddN hx hb dX5_copyThing_41 ?_
      refine lv_aload_n hx hb dX5_copyThing_42 rfl (lv_at hl 1 rfl) ?_
      refine va_get (D := D) (ci := 5) (v := .ref mk) (C := "FindLogModel") (T := TX5) (N := 21) hx hb hg inX5 hown hK hP 0 rfl rfl 20 (by decide) (hg _ k_577) (fun _ h9 => h9) rfl dX5_copyThing_43 ?_
      refine lv_bipush (v := nI 24) hx hb dX5_copyThing_46 (by decide) ?_
      refine lv_iload_n hx hb dX5_copyThing_48 rfl (lv_at hl 2 rfl) ?_
      refine lv_imulN hx hb dX5_copyThing_49 ?_
      refine lv_iload_n hx hb dX5_copyThing_50 rfl (lv_at hl 0 rfl) ?_
      refine lv_iaddN hx hb dX5_copyThing_51 ?_
      refine va_ialdN hx hb hK hP 3 0 rfl rfl (by omega) (by omega) dX5_copyThing_52 ?_
      rw [show va_cpy qk qk (24 * x) (24 * y) i (24 * x + i) = qk (24 * x + i) from by rw [va_cpy, if_neg (by omega)]]
      refine va_iastN hx hb hK hP hD hS 3 0 rfl rfl (by omega) (by omega) dX5_copyThing_53 (fun H locs hP hD hS => ?_)
      have hP : va_P D vwC [(mm, .inr (5, [.int (nI tc), .ref mp, .int (nI mpn), .ref ml, .int (nI mb), .ref mw, .int (nI mbg), .int (nI mnx), .int (nI mak), .int (nI mbr), .int mbd, .int (nI mtn), .int (nI mus), .ref mg, .ref mf, .ref msl, .ref mwh, .ref mu, .ref md, .ref mn, .ref mk])), (md, .inl (kI, 96, .inl (upd qd y (qd x)))), (mn, .inl (kI, 96, .inl (upd qm y (qm x)))), (mk, .inl (kI, 2304, .inl (upd (va_cpy qk qk (24 * x) (24 * y) i) ((24 * y) + i) (qk (24 * x + i)))))] H := hP
      have hD : va_D A [(mm, .inr (5, [.int (nI tc), .ref mp, .int (nI mpn), .ref ml, .int (nI mb), .ref mw, .int (nI mbg), .int (nI mnx), .int (nI mak), .int (nI mbr), .int mbd, .int (nI mtn), .int (nI mus), .ref mg, .ref mf, .ref msl, .ref mwh, .ref mu, .ref md, .ref mn, .ref mk])), (md, .inl (kI, 96, .inl (upd qd y (qd x)))), (mn, .inl (kI, 96, .inl (upd qm y (qm x)))), (mk, .inl (kI, 2304, .inl (upd (va_cpy qk qk (24 * x) (24 * y) i) ((24 * y) + i) (qk (24 * x + i)))))] := hD
      rw [cpy_s] at hP hD
      refine lv_iincN (x := i) (j := 1) (lv' := [(3, .int (nI (i + 1))), (0, .ref mm), (1, .int (nI x)), (2, .int (nI y))]) hx hb dX5_copyThing_54 hl (k := 0) rfl (by decide) (by decide) rfl (fun ls hl => ?_)
      refine lv_goto (tgt := 26) hx hb dX5_copyThing_57 (by decide) ?_
      exact ih (i + 1) _ _ _ (by omega) hP hD hS (lv_sub hl [0, 1, 2, 3] rfl)
  exact key 24 0 _ _ _ (by omega) hP hD hS (lv_sub hl [0, 1, 2, 3] rfl)
set_option maxHeartbeats 4000000 in
set_option maxRecDepth 100000 in
theorem c_X5_holds (l : Launch) (D : va_G) (sz : Nat) (kI kJ kZ : ClassId) (mm mp ml mw mg mf msl mwh mu md mn mk : Nat) (tc mpn mb mbg mnx mak mbr mtn mus : Nat) (mbd : Int32) (ql qd qm qk : Nat → Int32) (q th ct : Nat) (hth : ql q = nI th) (hct : ql (q + 5) = nI ct) (h1 : th < 32) (h2 : ct ≤ 24) (h3 : q + 38 ≤ 2500) : Met l yX5_holds (Cond.code yX5_holds bX5_holds 4 none :: GW) (rmL 1 0 0) (va_Pc [.ref mm, .int (nI q)] (ww_P D sz [(mm, .inr (5, [.int (nI tc), .ref mp, .int (nI mpn), .ref ml, .int (nI mb), .ref mw, .int (nI mbg), .int (nI mnx), .int (nI mak), .int (nI mbr), .int mbd, .int (nI mtn), .int (nI mus), .ref mg, .ref mf, .ref msl, .ref mwh, .ref mu, .ref md, .ref mn, .ref mk])), (ml, .inl (kI, 2500, .inl ql)), (md, .inl (kI, 96, .inl qd)), (mn, .inl (kI, 96, .inl qm)), (mk, .inl (kI, 2304, .inl qk))] [(kI, .int), (kJ, .long), (kZ, .boolean)])) (va_Qv (fun (u : Unit) => True) (fun (u : Unit) => ww_B D (va_A [(mm, .inr (5, [.int (nI tc), .ref mp, .int (nI mpn), .ref ml, .int (nI mb), .ref mw, .int (nI mbg), .int (nI mnx), .int (nI mak), .int (nI mbr), .int mbd, .int (nI mtn), .int (nI mus), .ref mg, .ref mf, .ref msl, .ref mwh, .ref mu, .ref md, .ref mn, .ref mk])), (ml, .inl (kI, 2500, .inl ql)), (md, .inl (kI, 96, .inl qd)), (mn, .inl (kI, 96, .inl qm)), (mk, .inl (kI, 2304, .inl qk))] sz) [(mm, .inr (5, [.int (nI tc), .ref mp, .int (nI mpn), .ref ml, .int (nI mb), .ref mw, .int (nI mbg), .int (nI mnx), .int (nI mak), .int (nI mbr), .int mbd, .int (nI mtn), .int (nI mus), .ref mg, .ref mf, .ref msl, .ref mwh, .ref mu, .ref md, .ref mn, .ref mk])), (ml, .inl (kI, 2500, .inl ql)), (md, .inl (kI, 96, .inl (upd qd (64 + th) (fx_nb ql (q + 1) 4).toInt32))), (mn, .inl (kI, 96, .inl (upd qm (64 + th) (nI ct)))), (mk, .inl (kI, 2304, .inl (va_cpy ql qk (q + 6) (24 * (64 + th)) ct)))] [(kI, .int), (kJ, .long), (kZ, .boolean)]) (va_A [(mm, .inr (5, [.int (nI tc), .ref mp, .int (nI mpn), .ref ml, .int (nI mb), .ref mw, .int (nI mbg), .int (nI mnx), .int (nI mak), .int (nI mbr), .int mbd, .int (nI mtn), .int (nI mus), .ref mg, .ref mf, .ref msl, .ref mwh, .ref mu, .ref md, .ref mn, .ref mk])), (ml, .inl (kI, 2500, .inl ql)), (md, .inl (kI, 96, .inl qd)), (mn, .inl (kI, 96, .inl qm)), (mk, .inl (kI, 2304, .inl qk))] sz)) 0 0 (va_A [(mm, .inr (5, [.int (nI tc), .ref mp, .int (nI mpn), .ref ml, .int (nI mb), .ref mw, .int (nI mbg), .int (nI mnx), .int (nI mak), .int (nI mbr), .int mbd, .int (nI mtn), .int (nI mus), .ref mg, .ref mf, .ref msl, .ref mwh, .ref mu, .ref md, .ref mn, .ref mk])), (ml, .inl (kI, 2500, .inl ql)), (md, .inl (kI, 96, .inl qd)), (mn, .inl (kI, 96, .inl qm)), (mk, .inl (kI, 2304, .inl qk))] sz) := by
  refine Met.ofW (cc := bX5_holds) (maxL := 4) (ret := none) (by decide) rfl ?_
  intro p e s m args below meth c s₁ B hml hv
  obtain ⟨rfl, hsz, hP, hK, hD0, hN⟩ := hv
  have hx := B.exec
  have hb := B.bytes
  have hr := B.returns
  have hg : ∀ w ∈ GW, w.before _ s = true := fun w h => atoms_spec (ws := Cond.code yX5_holds bX5_holds 4 none :: GW) B.pre w (List.mem_cons_of_mem _ h)
  have hown : s.vm.findClass "FindLogModel" = some m.cls := findClass_of_methodNamed B.named
  have hlocks := B.notSynchronized
  subst hsz
  have hD := hD0.self (sz := s.heap.size)
  generalize hAe : va_A [(mm, .inr (5, [.int (nI tc), .ref mp, .int (nI mpn), .ref ml, .int (nI mb), .ref mw, .int (nI mbg), .int (nI mnx), .int (nI mak), .int (nI mbr), .int mbd, .int (nI mtn), .int (nI mus), .ref mg, .ref mf, .ref msl, .ref mwh, .ref mu, .ref md, .ref mn, .ref mk])), (ml, .inl (kI, 2500, .inl ql)), (md, .inl (kI, 96, .inl qd)), (mn, .inl (kI, 96, .inl qm)), (mk, .inl (kI, 2304, .inl qk))] s.heap.size = A at hD ⊢
  have hA : ∀ q : Nat, s.heap.size ≤ q → A q := fun q h => by rw [← hAe]; exact Or.inr h
  have hS : va_S A s.heap s.heap [] := va_S.rf
  have hl := lv_entry ([.ref mm, .int (nI q)]) (n := 4) (Nat.le_of_ble_eq_true rfl)
  rw [lg_entry_eq]
  generalize (lg_sl ([.ref mm, .int (nI q)]) ++ List.replicate (4 - (lg_sl ([.ref mm, .int (nI q)])).length) Slot.unset).toArray = ls at hl ⊢
  have hl : lv_has ls 4 [(0, .ref mm), (1, .int (nI q))] := hl
  refine lv_bipush (v := nI 64) hx hb dX5_holds_0 (by decide) ?_
  refine lv_aload_n hx hb dX5_holds_2 rfl (lv_at hl 0 rfl) ?_
  refine va_get (D := D) (ci := 5) (v := .ref ml) (C := "FindLogModel") (T := TX5) (N := 21) hx hb hg inX5 hown hK hP 0 rfl rfl 3 (by decide) (hg _ k_560) (fun _ h9 => h9) rfl dX5_holds_3 ?_
  refine lv_iload_n hx hb dX5_holds_6 rfl (lv_at hl 1 rfl) ?_
  refine va_ialdN hx hb hK hP 1 0 rfl rfl (by omega) (by omega) dX5_holds_7 ?_
  rw [hth]
  refine lv_iaddN hx hb dX5_holds_8 ?_
  refine lv_istore_n (lv' := [(2, .int (nI (64 + th))), (0, .ref mm), (1, .int (nI q))]) hx hb dX5_holds_9 rfl hl (by decide) rfl (fun ls hl => ?_)
  refine lv_aload_n hx hb dX5_holds_10 rfl (lv_at hl 1 rfl) ?_
  refine va_get (D := D) (ci := 5) (v := .ref md) (C := "FindLogModel") (T := TX5) (N := 21) hx hb hg inX5 hown hK hP 0 rfl rfl 18 (by decide) (hg _ k_575) (fun _ h9 => h9) rfl dX5_holds_11 ?_
  refine lv_iload_n hx hb dX5_holds_14 rfl (lv_at hl 0 rfl) ?_
  refine lv_aload_n hx hb dX5_holds_15 rfl (lv_at hl 1 rfl) ?_
  refine lv_iload_n hx hb dX5_holds_16 rfl (lv_at hl 2 rfl) ?_
  refine lv_iconst (v := nI 1) hx hb dX5_holds_17 (by decide) ?_
  refine lv_iaddN hx hb dX5_holds_18 ?_
  refine lv_iconst (v := nI 4) hx hb dX5_holds_19 (by decide) ?_
  refine pw_calll (va_runV (As := [.int (nI (q + 1)), .int (nI 4)]) (rest := [.int (nI (64 + th)), .ref md]) ⟨hx, hb, hml, hown, hg⟩ (c_X5_number l D kI kJ kZ mm mp ml mw mg mf msl mwh mu md mn mk tc mpn mb mbg mnx mak mbr mtn mus mbd ql (q + 1) 4 (by omega)) (cwV 2 hg (gw_V k_655 k_657 k_13 k_27 k_658) rfl rfl rfl (by decide +kernel) ⟨Nat.le_of_ble_eq_true rfl, Nat.le_of_ble_eq_true rfl⟩) ⟨pw_blind, va_recv hK hP (ci := 5) (q0 := 0) rfl rfl, pw_pre (hP.sub (ws' := [(mm, .inr (5, [.int (nI tc), .ref mp, .int (nI mpn), .ref ml, .int (nI mb), .ref mw, .int (nI mbg), .int (nI mnx), .int (nI mak), .int (nI mbr), .int mbd, .int (nI mtn), .int (nI mus), .ref mg, .ref mf, .ref msl, .ref mwh, .ref mu, .ref md, .ref mn, .ref mk])), (ml, .inl (kI, 2500, .inl ql))]) [0, 1] rfl) (hK.sub (tys' := [(kI, .int), (kJ, .long), (kZ, .boolean)]) [0, 1, 2] rfl) hN⟩ rfl rfl hl.1 rfl (lv_room (Nat.le_of_ble_eq_true rfl)) dX5_holds_20 ⟨Nat.le_of_ble_eq_true rfl, Nat.le_of_ble_eq_true rfl⟩) hS hP (fun H locs hP hS => ?_)
  refine lv_l2i hx hb dX5_holds_23 rfl ?_
  refine va_iastN hx hb hK hP hD hS 2 0 rfl rfl (by omega) (by omega) dX5_holds_24 (fun H locs hP hD hS => ?_)
  have hP : va_P D vwC [(mm, .inr (5, [.int (nI tc), .ref mp, .int (nI mpn), .ref ml, .int (nI mb), .ref mw, .int (nI mbg), .int (nI mnx), .int (nI mak), .int (nI mbr), .int mbd, .int (nI mtn), .int (nI mus), .ref mg, .ref mf, .ref msl, .ref mwh, .ref mu, .ref md, .ref mn, .ref mk])), (ml, .inl (kI, 2500, .inl ql)), (md, .inl (kI, 96, .inl (upd qd (64 + th) (((fx_nb ql (q + 1) 4)).toInt32)))), (mn, .inl (kI, 96, .inl qm)), (mk, .inl (kI, 2304, .inl qk))] H := hP
  have hD : va_D A [(mm, .inr (5, [.int (nI tc), .ref mp, .int (nI mpn), .ref ml, .int (nI mb), .ref mw, .int (nI mbg), .int (nI mnx), .int (nI mak), .int (nI mbr), .int mbd, .int (nI mtn), .int (nI mus), .ref mg, .ref mf, .ref msl, .ref mwh, .ref mu, .ref md, .ref mn, .ref mk])), (ml, .inl (kI, 2500, .inl ql)), (md, .inl (kI, 96, .inl (upd qd (64 + th) (((fx_nb ql (q + 1) 4)).toInt32)))), (mn, .inl (kI, 96, .inl qm)), (mk, .inl (kI, 2304, .inl qk))] := hD
  refine lv_aload_n hx hb dX5_holds_25 rfl (lv_at hl 1 rfl) ?_
  refine va_get (D := D) (ci := 5) (v := .ref mn) (C := "FindLogModel") (T := TX5) (N := 21) hx hb hg inX5 hown hK hP 0 rfl rfl 19 (by decide) (hg _ k_576) (fun _ h9 => h9) rfl dX5_holds_26 ?_
  refine lv_iload_n hx hb dX5_holds_29 rfl (lv_at hl 0 rfl) ?_
  refine lv_aload_n hx hb dX5_holds_30 rfl (lv_at hl 1 rfl) ?_
  refine va_get (D := D) (ci := 5) (v := .ref ml) (C := "FindLogModel") (T := TX5) (N := 21) hx hb hg inX5 hown hK hP 0 rfl rfl 3 (by decide) (hg _ k_560) (fun _ h9 => h9) rfl dX5_holds_31 ?_
  refine lv_iload_n hx hb dX5_holds_34 rfl (lv_at hl 2 rfl) ?_
  refine lv_iconst (v := nI 5) hx hb dX5_holds_35 (by decide) ?_
  refine lv_iaddN hx hb dX5_holds_36 ?_
  refine va_ialdN hx hb hK hP 1 0 rfl rfl (by omega) (by omega) dX5_holds_37 ?_
  rw [hct]
  refine va_iastN hx hb hK hP hD hS 3 0 rfl rfl (by omega) (by omega) dX5_holds_38 (fun H locs hP hD hS => ?_)
  have hP : va_P D vwC [(mm, .inr (5, [.int (nI tc), .ref mp, .int (nI mpn), .ref ml, .int (nI mb), .ref mw, .int (nI mbg), .int (nI mnx), .int (nI mak), .int (nI mbr), .int mbd, .int (nI mtn), .int (nI mus), .ref mg, .ref mf, .ref msl, .ref mwh, .ref mu, .ref md, .ref mn, .ref mk])), (ml, .inl (kI, 2500, .inl ql)), (md, .inl (kI, 96, .inl (upd qd (64 + th) (((fx_nb ql (q + 1) 4)).toInt32)))), (mn, .inl (kI, 96, .inl (upd qm (64 + th) (nI ct)))), (mk, .inl (kI, 2304, .inl qk))] H := hP
  have hD : va_D A [(mm, .inr (5, [.int (nI tc), .ref mp, .int (nI mpn), .ref ml, .int (nI mb), .ref mw, .int (nI mbg), .int (nI mnx), .int (nI mak), .int (nI mbr), .int mbd, .int (nI mtn), .int (nI mus), .ref mg, .ref mf, .ref msl, .ref mwh, .ref mu, .ref md, .ref mn, .ref mk])), (ml, .inl (kI, 2500, .inl ql)), (md, .inl (kI, 96, .inl (upd qd (64 + th) (((fx_nb ql (q + 1) 4)).toInt32)))), (mn, .inl (kI, 96, .inl (upd qm (64 + th) (nI ct)))), (mk, .inl (kI, 2304, .inl qk))] := hD
  refine lv_iconst (v := nI 0) hx hb dX5_holds_39 (by decide) ?_
  refine lv_istore_n (lv' := [(3, .int (nI 0)), (2, .int (nI (64 + th))), (0, .ref mm), (1, .int (nI q))]) hx hb dX5_holds_40 rfl hl (by decide) rfl (fun ls hl => ?_)
  have hP : va_P D vwC [(mm, .inr (5, [.int (nI tc), .ref mp, .int (nI mpn), .ref ml, .int (nI mb), .ref mw, .int (nI mbg), .int (nI mnx), .int (nI mak), .int (nI mbr), .int mbd, .int (nI mtn), .int (nI mus), .ref mg, .ref mf, .ref msl, .ref mwh, .ref mu, .ref md, .ref mn, .ref mk])), (ml, .inl (kI, 2500, .inl ql)), (md, .inl (kI, 96, .inl (upd qd (64 + th) (fx_nb ql (q + 1) 4).toInt32))), (mn, .inl (kI, 96, .inl (upd qm (64 + th) (nI ct)))), (mk, .inl (kI, 2304, .inl (va_cpy ql qk (q + 6) (24 * (64 + th)) 0)))] H := by rw [cpy_0]; exact hP
  have hD : va_D A [(mm, .inr (5, [.int (nI tc), .ref mp, .int (nI mpn), .ref ml, .int (nI mb), .ref mw, .int (nI mbg), .int (nI mnx), .int (nI mak), .int (nI mbr), .int mbd, .int (nI mtn), .int (nI mus), .ref mg, .ref mf, .ref msl, .ref mwh, .ref mu, .ref md, .ref mn, .ref mk])), (ml, .inl (kI, 2500, .inl ql)), (md, .inl (kI, 96, .inl (upd qd (64 + th) (fx_nb ql (q + 1) 4).toInt32))), (mn, .inl (kI, 96, .inl (upd qm (64 + th) (nI ct)))), (mk, .inl (kI, 2304, .inl (va_cpy ql qk (q + 6) (24 * (64 + th)) 0)))] := by rw [cpy_0]; exact hD
  have key : ∀ (e9 : Nat) (i : Nat) (H : Heap) (locs : List Loc) (ls : Array Slot), i + e9 = ct → va_P D vwC [(mm, .inr (5, [.int (nI tc), .ref mp, .int (nI mpn), .ref ml, .int (nI mb), .ref mw, .int (nI mbg), .int (nI mnx), .int (nI mak), .int (nI mbr), .int mbd, .int (nI mtn), .int (nI mus), .ref mg, .ref mf, .ref msl, .ref mwh, .ref mu, .ref md, .ref mn, .ref mk])), (ml, .inl (kI, 2500, .inl ql)), (md, .inl (kI, 96, .inl (upd qd (64 + th) (fx_nb ql (q + 1) 4).toInt32))), (mn, .inl (kI, 96, .inl (upd qm (64 + th) (nI ct)))), (mk, .inl (kI, 2304, .inl (va_cpy ql qk (q + 6) (24 * (64 + th)) i)))] H → va_D A [(mm, .inr (5, [.int (nI tc), .ref mp, .int (nI mpn), .ref ml, .int (nI mb), .ref mw, .int (nI mbg), .int (nI mnx), .int (nI mak), .int (nI mbr), .int mbd, .int (nI mtn), .int (nI mus), .ref mg, .ref mf, .ref msl, .ref mwh, .ref mu, .ref md, .ref mn, .ref mk])), (ml, .inl (kI, 2500, .inl ql)), (md, .inl (kI, 96, .inl (upd qd (64 + th) (fx_nb ql (q + 1) 4).toInt32))), (mn, .inl (kI, 96, .inl (upd qm (64 + th) (nI ct)))), (mk, .inl (kI, 2304, .inl (va_cpy ql qk (q + 6) (24 * (64 + th)) i)))] → va_S A s.heap H locs → lv_has ls 4 [(3, .int (nI i)), (2, .int (nI (64 + th))), (0, .ref mm), (1, .int (nI q))] → W p l e (rmL 1 0 0) s m ([.ref mm, .int (nI q)] : List Value).toArray below meth c H locs 0 0 (MQ below (va_Qv (fun (u : Unit) => True) (fun (u : Unit) => ww_B D A [(mm, .inr (5, [.int (nI tc), .ref mp, .int (nI mpn), .ref ml, .int (nI mb), .ref mw, .int (nI mbg), .int (nI mnx), .int (nI mak), .int (nI mbr), .int mbd, .int (nI mtn), .int (nI mus), .ref mg, .ref mf, .ref msl, .ref mwh, .ref mu, .ref md, .ref mn, .ref mk])), (ml, .inl (kI, 2500, .inl ql)), (md, .inl (kI, 96, .inl (upd qd (64 + th) (fx_nb ql (q + 1) 4).toInt32))), (mn, .inl (kI, 96, .inl (upd qm (64 + th) (nI ct)))), (mk, .inl (kI, 2304, .inl (va_cpy ql qk (q + 6) (24 * (64 + th)) ct)))] [(kI, .int), (kJ, .long), (kZ, .boolean)]) A) ([.ref mm, .int (nI q)] : List Value).toArray s 0 0 A) (F0 m 41 ls []) := by
    intro e9
    induction e9 with
    | zero =>
      intro i H locs ls hd hP hD hS hl
      refine lv_iload_n hx hb dX5_holds_41 rfl (lv_at hl 0 rfl) ?_
      refine lv_aload_n hx hb dX5_holds_42 rfl (lv_at hl 2 rfl) ?_
      refine va_get (D := D) (ci := 5) (v := .ref mn) (C := "FindLogModel") (T := TX5) (N := 21) hx hb hg inX5 hown hK hP 0 rfl rfl 19 (by decide) (hg _ k_576) (fun _ h9 => h9) rfl dX5_holds_43 ?_
      refine lv_iload_n hx hb dX5_holds_46 rfl (lv_at hl 1 rfl) ?_
      refine va_ialdN hx hb hK hP 3 0 rfl rfl (by omega) (by omega) dX5_holds_47 ?_
      rw [show (upd qm (64 + th) (nI ct)) (64 + th) = nI ct from pk_us]
      refine lv_icmp_geN (tgt := 79) hx hb (by omega) (by omega) dX5_holds_48 (by decide) (fun c_48 => ?_) (fun c_48 => absurd c_48 (by omega))
      obtain rfl : i = ct := by omega
      exact W.vret hx hb hr (fun t ht hW => ⟨⟨(), rfl, trivial, by rw [ht]; exact hP, va_K.moved hW.alike hK, hD⟩, hS.F ht⟩) hS.2.2 dX5_holds_79
    | succ e9 ih =>
      intro i H locs ls hd hP hD hS hl
      refine lv_iload_n hx hb dX5_holds_41 rfl (lv_at hl 0 rfl) ?_
      refine lv_aload_n hx hb dX5_holds_42 rfl (lv_at hl 2 rfl) ?_
      refine va_get (D := D) (ci := 5) (v := .ref mn) (C := "FindLogModel") (T := TX5) (N := 21) hx hb hg inX5 hown hK hP 0 rfl rfl 19 (by decide) (hg _ k_576) (fun _ h9 => h9) rfl dX5_holds_43 ?_
      refine lv_iload_n hx hb dX5_holds_46 rfl (lv_at hl 1 rfl) ?_
      refine va_ialdN hx hb hK hP 3 0 rfl rfl (by omega) (by omega) dX5_holds_47 ?_
      rw [show (upd qm (64 + th) (nI ct)) (64 + th) = nI ct from pk_us]
      refine lv_icmp_geN (tgt := 79) hx hb (by omega) (by omega) dX5_holds_48 (by decide) (fun c_48 => absurd c_48 (by omega)) (fun c_48 => ?_)
      refine lv_aload_n hx hb dX5_holds_51 rfl (lv_at hl 2 rfl) ?_
      refine va_get (D := D) (ci := 5) (v := .ref mk) (C := "FindLogModel") (T := TX5) (N := 21) hx hb hg inX5 hown hK hP 0 rfl rfl 20 (by decide) (hg _ k_577) (fun _ h9 => h9) rfl dX5_holds_52 ?_
      refine lv_bipush (v := nI 24) hx hb dX5_holds_55 (by decide) ?_
      refine lv_iload_n hx hb dX5_holds_57 rfl (lv_at hl 1 rfl) ?_
      refine lv_imulN hx hb dX5_holds_58 ?_
      refine lv_iload_n hx hb dX5_holds_59 rfl (lv_at hl 0 rfl) ?_
      refine lv_iaddN hx hb dX5_holds_60 ?_
      refine lv_aload_n hx hb dX5_holds_61 rfl (lv_at hl 2 rfl) ?_
      refine va_get (D := D) (ci := 5) (v := .ref ml) (C := "FindLogModel") (T := TX5) (N := 21) hx hb hg inX5 hown hK hP 0 rfl rfl 3 (by decide) (hg _ k_560) (fun _ h9 => h9) rfl dX5_holds_62 ?_
      refine lv_iload_n hx hb dX5_holds_65 rfl (lv_at hl 3 rfl) ?_
      refine lv_bipush (v := nI 6) hx hb dX5_holds_66 (by decide) ?_
      refine lv_iaddN hx hb dX5_holds_68 ?_
      refine lv_iload_n hx hb dX5_holds_69 rfl (lv_at hl 0 rfl) ?_
      refine lv_iaddN hx hb dX5_holds_70 ?_
      refine va_ialdN hx hb hK hP 1 0 rfl rfl (by omega) (by omega) dX5_holds_71 ?_
      refine va_iastN hx hb hK hP hD hS 4 0 rfl rfl (by omega) (by omega) dX5_holds_72 (fun H locs hP hD hS => ?_)
      have hP : va_P D vwC [(mm, .inr (5, [.int (nI tc), .ref mp, .int (nI mpn), .ref ml, .int (nI mb), .ref mw, .int (nI mbg), .int (nI mnx), .int (nI mak), .int (nI mbr), .int mbd, .int (nI mtn), .int (nI mus), .ref mg, .ref mf, .ref msl, .ref mwh, .ref mu, .ref md, .ref mn, .ref mk])), (ml, .inl (kI, 2500, .inl ql)), (md, .inl (kI, 96, .inl (upd qd (64 + th) (fx_nb ql (q + 1) 4).toInt32))), (mn, .inl (kI, 96, .inl (upd qm (64 + th) (nI ct)))), (mk, .inl (kI, 2304, .inl (upd (va_cpy ql qk (q + 6) (24 * (64 + th)) i) ((24 * (64 + th)) + i) (ql ((q + 6) + i)))))] H := hP
      have hD : va_D A [(mm, .inr (5, [.int (nI tc), .ref mp, .int (nI mpn), .ref ml, .int (nI mb), .ref mw, .int (nI mbg), .int (nI mnx), .int (nI mak), .int (nI mbr), .int mbd, .int (nI mtn), .int (nI mus), .ref mg, .ref mf, .ref msl, .ref mwh, .ref mu, .ref md, .ref mn, .ref mk])), (ml, .inl (kI, 2500, .inl ql)), (md, .inl (kI, 96, .inl (upd qd (64 + th) (fx_nb ql (q + 1) 4).toInt32))), (mn, .inl (kI, 96, .inl (upd qm (64 + th) (nI ct)))), (mk, .inl (kI, 2304, .inl (upd (va_cpy ql qk (q + 6) (24 * (64 + th)) i) ((24 * (64 + th)) + i) (ql ((q + 6) + i)))))] := hD
      rw [cpy_s] at hP hD
      refine lv_iincN (x := i) (j := 1) (lv' := [(3, .int (nI (i + 1))), (2, .int (nI (64 + th))), (0, .ref mm), (1, .int (nI q))]) hx hb dX5_holds_73 hl (k := 0) rfl (by decide) (by decide) rfl (fun ls hl => ?_)
      refine lv_goto (tgt := 41) hx hb dX5_holds_76 (by decide) ?_
      exact ih (i + 1) _ _ _ (by omega) hP hD hS (lv_sub hl [0, 1, 2, 3] rfl)
  exact key ct 0 _ _ _ (by omega) hP hD hS (lv_sub hl [0, 1, 2, 3] rfl)
set_option maxHeartbeats 4000000 in
set_option maxRecDepth 100000 in
theorem c_X5_write (l : Launch) (D : va_G) (sz : Nat) (kI kJ kZ : ClassId) (mm mp ml mw mg mf msl mwh mu md mn mk : Nat) (tc mpn mb mbg mnx mak mbr mtn mus : Nat) (mbd : Int32) (ql : Nat → Int32) (v : Int64) (k : Nat) (hk : mb + k ≤ 2500) (hk8 : k ≤ 8) : Met l yX5_write (Cond.code yX5_write bX5_write 5 none :: GW) (rmL 0 0 0) (va_Pc [.ref mm, .long v, .int (nI k)] (ww_P D sz [(mm, .inr (5, [.int (nI tc), .ref mp, .int (nI mpn), .ref ml, .int (nI mb), .ref mw, .int (nI mbg), .int (nI mnx), .int (nI mak), .int (nI mbr), .int mbd, .int (nI mtn), .int (nI mus), .ref mg, .ref mf, .ref msl, .ref mwh, .ref mu, .ref md, .ref mn, .ref mk])), (ml, .inl (kI, 2500, .inl ql))] [(kI, .int), (kJ, .long), (kZ, .boolean)])) (va_Qv (fun (u : Unit) => True) (fun (u : Unit) => ww_B D (va_A [(mm, .inr (5, [.int (nI tc), .ref mp, .int (nI mpn), .ref ml, .int (nI mb), .ref mw, .int (nI mbg), .int (nI mnx), .int (nI mak), .int (nI mbr), .int mbd, .int (nI mtn), .int (nI mus), .ref mg, .ref mf, .ref msl, .ref mwh, .ref mu, .ref md, .ref mn, .ref mk])), (ml, .inl (kI, 2500, .inl ql))] sz) [(mm, .inr (5, [.int (nI tc), .ref mp, .int (nI mpn), .ref ml, .int (nI (mb + k)), .ref mw, .int (nI mbg), .int (nI mnx), .int (nI mak), .int (nI mbr), .int mbd, .int (nI mtn), .int (nI mus), .ref mg, .ref mf, .ref msl, .ref mwh, .ref mu, .ref md, .ref mn, .ref mk])), (ml, .inl (kI, 2500, .inl (fx_add ql mb v k)))] [(kI, .int), (kJ, .long), (kZ, .boolean)]) (va_A [(mm, .inr (5, [.int (nI tc), .ref mp, .int (nI mpn), .ref ml, .int (nI mb), .ref mw, .int (nI mbg), .int (nI mnx), .int (nI mak), .int (nI mbr), .int mbd, .int (nI mtn), .int (nI mus), .ref mg, .ref mf, .ref msl, .ref mwh, .ref mu, .ref md, .ref mn, .ref mk])), (ml, .inl (kI, 2500, .inl ql))] sz)) 0 0 (va_A [(mm, .inr (5, [.int (nI tc), .ref mp, .int (nI mpn), .ref ml, .int (nI mb), .ref mw, .int (nI mbg), .int (nI mnx), .int (nI mak), .int (nI mbr), .int mbd, .int (nI mtn), .int (nI mus), .ref mg, .ref mf, .ref msl, .ref mwh, .ref mu, .ref md, .ref mn, .ref mk])), (ml, .inl (kI, 2500, .inl ql))] sz) := by
  refine Met.ofW (cc := bX5_write) (maxL := 5) (ret := none) (by decide) rfl ?_
  intro p e s m args below meth c s₁ B hml hv
  obtain ⟨rfl, hsz, hP, hK, hD0, hN⟩ := hv
  have hx := B.exec
  have hb := B.bytes
  have hr := B.returns
  have hg : ∀ w ∈ GW, w.before _ s = true := fun w h => atoms_spec (ws := Cond.code yX5_write bX5_write 5 none :: GW) B.pre w (List.mem_cons_of_mem _ h)
  have hown : s.vm.findClass "FindLogModel" = some m.cls := findClass_of_methodNamed B.named
  have hlocks := B.notSynchronized
  subst hsz
  have hD := hD0.self (sz := s.heap.size)
  generalize hAe : va_A [(mm, .inr (5, [.int (nI tc), .ref mp, .int (nI mpn), .ref ml, .int (nI mb), .ref mw, .int (nI mbg), .int (nI mnx), .int (nI mak), .int (nI mbr), .int mbd, .int (nI mtn), .int (nI mus), .ref mg, .ref mf, .ref msl, .ref mwh, .ref mu, .ref md, .ref mn, .ref mk])), (ml, .inl (kI, 2500, .inl ql))] s.heap.size = A at hD ⊢
  have hA : ∀ q : Nat, s.heap.size ≤ q → A q := fun q h => by rw [← hAe]; exact Or.inr h
  have hS : va_S A s.heap s.heap [] := va_S.rf
  have hl := lv_entry ([.ref mm, .long v, .int (nI k)]) (n := 5) (Nat.le_of_ble_eq_true rfl)
  rw [lg_entry_eq]
  generalize (lg_sl ([.ref mm, .long v, .int (nI k)]) ++ List.replicate (5 - (lg_sl ([.ref mm, .long v, .int (nI k)])).length) Slot.unset).toArray = ls at hl ⊢
  have hl : lv_has ls 5 [(0, .ref mm), (1, .long v), (3, .int (nI k))] := hl
  refine lv_iload_n hx hb dX5_write_0 rfl (lv_at hl 2 rfl) ?_
  refine lv_iconst (v := nI 1) hx hb dX5_write_1 (by decide) ?_
  refine lv_isub hx hb dX5_write_2 ?_
  refine lv_istore (lv' := [(4, .int ((nI k) - (nI 1))), (0, .ref mm), (1, .long v), (3, .int (nI k))]) hx hb dX5_write_3 hl (by decide) rfl (fun ls hl => ?_)
  have key : ∀ (d : Nat) (n1 : Nat) (f1 : Nat → Int32) (x4 : Int32) (H : Heap) (locs : List Loc) (ls : Array Slot), n1 + d ≤ 2500 → d ≤ 8 → n1 + d = mb + k → fx_add f1 n1 v d = fx_add ql mb v k → x4 = nI d - nI 1 → va_P D vwC [(mm, .inr (5, [.int (nI tc), .ref mp, .int (nI mpn), .ref ml, .int (nI n1), .ref mw, .int (nI mbg), .int (nI mnx), .int (nI mak), .int (nI mbr), .int mbd, .int (nI mtn), .int (nI mus), .ref mg, .ref mf, .ref msl, .ref mwh, .ref mu, .ref md, .ref mn, .ref mk])), (ml, .inl (kI, 2500, .inl f1))] H → va_D A [(mm, .inr (5, [.int (nI tc), .ref mp, .int (nI mpn), .ref ml, .int (nI n1), .ref mw, .int (nI mbg), .int (nI mnx), .int (nI mak), .int (nI mbr), .int mbd, .int (nI mtn), .int (nI mus), .ref mg, .ref mf, .ref msl, .ref mwh, .ref mu, .ref md, .ref mn, .ref mk])), (ml, .inl (kI, 2500, .inl f1))] → va_S A s.heap H locs → lv_has ls 5 [(4, .int x4), (0, .ref mm), (1, .long v), (3, .int (nI k))] → W p l e (rmL 0 0 0) s m ([.ref mm, .long v, .int (nI k)] : List Value).toArray below meth c H locs 0 0 (MQ below (va_Qv (fun (u : Unit) => True) (fun (u : Unit) => ww_B D A [(mm, .inr (5, [.int (nI tc), .ref mp, .int (nI mpn), .ref ml, .int (nI (mb + k)), .ref mw, .int (nI mbg), .int (nI mnx), .int (nI mak), .int (nI mbr), .int mbd, .int (nI mtn), .int (nI mus), .ref mg, .ref mf, .ref msl, .ref mwh, .ref mu, .ref md, .ref mn, .ref mk])), (ml, .inl (kI, 2500, .inl (fx_add ql mb v k)))] [(kI, .int), (kJ, .long), (kZ, .boolean)]) A) ([.ref mm, .long v, .int (nI k)] : List Value).toArray s 0 0 A) (F0 m 5 ls []) := by
    intro d
    induction d with
    | zero =>
      intro n1 f1 x4 H locs ls hb1 hd8 hn1 hf1 hx4 hP hD hS hl
      rw [show nI 0 - nI 1 = (-1 : Int32) from by decide] at hx4
      subst hx4
      have hl : lv_has ls 5 [(4, .int (-1)), (0, .ref mm), (1, .long v), (3, .int (nI k))] := hl
      refine lv_iload hx hb dX5_write_5 (lv_at hl 0 rfl) ?_
      refine lv_if_lt (tgt := 47) hx hb dX5_write_7 (by decide) (fun c_7 => ?_) (fun c_7 => absurd c_7 (by decide))
      rw [Nat.add_zero] at hn1
      rw [← hn1, ← hf1]
      exact W.vret hx hb hr (fun t ht hW => ⟨⟨(), rfl, trivial, by rw [ht]; exact hP, va_K.moved hW.alike hK, hD⟩, hS.F ht⟩) hS.2.2 dX5_write_47
    | succ d ih =>
      intro n1 f1 x4 H locs ls hb1 hd8 hn1 hf1 hx4 hP hD hS hl
      rw [show nI (d + 1) - nI 1 = nI d from nI_pred d] at hx4
      subst hx4
      have hl : lv_has ls 5 [(4, .int (nI d)), (0, .ref mm), (1, .long v), (3, .int (nI k))] := hl
      refine lv_iload hx hb dX5_write_5 (lv_at hl 0 rfl) ?_
      refine lv_if_ltN (tgt := 47) hx hb (by omega) dX5_write_7 (by decide) (fun c_7 => absurd c_7 id) (fun c_7 => ?_)
      refine lv_aload_n hx hb dX5_write_10 rfl (lv_at hl 1 rfl) ?_
      refine va_get (D := D) (ci := 5) (v := .ref ml) (C := "FindLogModel") (T := TX5) (N := 21) hx hb hg inX5 hown hK hP 0 rfl rfl 3 (by decide) (hg _ k_560) (fun _ h9 => h9) rfl dX5_write_11 ?_
      refine lv_aload_n hx hb dX5_write_14 rfl (lv_at hl 1 rfl) ?_
      refine va_get (D := D) (ci := 5) (v := .int (nI n1)) (C := "FindLogModel") (T := TX5) (N := 21) hx hb hg inX5 hown hK hP 0 rfl rfl 4 (by decide) (hg _ k_561) (fun _ h9 => h9) rfl dX5_write_15 ?_
      refine lv_lload_n hx hb dX5_write_18 rfl (lv_at hl 2 rfl) ?_
      refine lv_bipush (v := nI 8) hx hb dX5_write_19 (by decide) ?_
      refine lv_iload hx hb dX5_write_21 (lv_at hl 0 rfl) ?_
      refine lv_imulN hx hb dX5_write_23 ?_
      refine lv_lushr hx hb dX5_write_24 rfl ?_
      refine lv_l2i hx hb dX5_write_25 rfl ?_
      refine lv_sipush (v := nI 255) hx hb dX5_write_26 (by decide) ?_
      refine lv_iand hx hb dX5_write_29 ?_
      refine W.eq (g2 := F0 m 30 ls [.int (fx_by v d), .int (nI n1), .ref ml]) (by rw [fx_by, Nat.mul_comm]) ?_
      refine va_iastN hx hb hK hP hD hS 1 0 rfl rfl (by omega) (by omega) dX5_write_30 (fun H locs hP hD hS => ?_)
      have hP : va_P D vwC [(mm, .inr (5, [.int (nI tc), .ref mp, .int (nI mpn), .ref ml, .int (nI n1), .ref mw, .int (nI mbg), .int (nI mnx), .int (nI mak), .int (nI mbr), .int mbd, .int (nI mtn), .int (nI mus), .ref mg, .ref mf, .ref msl, .ref mwh, .ref mu, .ref md, .ref mn, .ref mk])), (ml, .inl (kI, 2500, .inl (upd f1 n1 (fx_by v d))))] H := hP
      have hD : va_D A [(mm, .inr (5, [.int (nI tc), .ref mp, .int (nI mpn), .ref ml, .int (nI n1), .ref mw, .int (nI mbg), .int (nI mnx), .int (nI mak), .int (nI mbr), .int mbd, .int (nI mtn), .int (nI mus), .ref mg, .ref mf, .ref msl, .ref mwh, .ref mu, .ref md, .ref mn, .ref mk])), (ml, .inl (kI, 2500, .inl (upd f1 n1 (fx_by v d))))] := hD
      refine lv_aload_n hx hb dX5_write_31 rfl (lv_at hl 1 rfl) ?_
      refine lv_dup hx hb dX5_write_32 rfl ?_
      refine va_get (D := D) (ci := 5) (v := .int (nI n1)) (C := "FindLogModel") (T := TX5) (N := 21) hx hb hg inX5 hown hK hP 0 rfl rfl 4 (by decide) (hg _ k_561) (fun _ h9 => h9) rfl dX5_write_33 ?_
      refine lv_iconst (v := nI 1) hx hb dX5_write_36 (by decide) ?_
      refine lv_iaddN hx hb dX5_write_37 ?_
      refine va_put (D := D) (ci := 5) (v := .int (nI (n1 + 1))) (ty := .int) (C := "FindLogModel") (T := TX5) (N := 21) hx hb hg inX5 tyX5 okX5 nmX5 hown hK hP hD hS 0 rfl rfl 4 (by decide) (hg _ k_561) (fun _ h9 => h9) rfl (by decide +kernel) rfl rfl (Nat.le_of_ble_eq_true rfl) dX5_write_38 (fun H locs hP hD hS => ?_)
      have hP : va_P D vwC [(mm, .inr (5, [.int (nI tc), .ref mp, .int (nI mpn), .ref ml, .int (nI (n1 + 1)), .ref mw, .int (nI mbg), .int (nI mnx), .int (nI mak), .int (nI mbr), .int mbd, .int (nI mtn), .int (nI mus), .ref mg, .ref mf, .ref msl, .ref mwh, .ref mu, .ref md, .ref mn, .ref mk])), (ml, .inl (kI, 2500, .inl (upd f1 n1 (fx_by v d))))] H := hP
      have hD : va_D A [(mm, .inr (5, [.int (nI tc), .ref mp, .int (nI mpn), .ref ml, .int (nI (n1 + 1)), .ref mw, .int (nI mbg), .int (nI mnx), .int (nI mak), .int (nI mbr), .int mbd, .int (nI mtn), .int (nI mus), .ref mg, .ref mf, .ref msl, .ref mwh, .ref mu, .ref md, .ref mn, .ref mk])), (ml, .inl (kI, 2500, .inl (upd f1 n1 (fx_by v d))))] := hD
      refine lv_iinc (v := nI d - nI 1) (lv' := [(4, .int (nI d - nI 1)), (0, .ref mm), (1, .long v), (3, .int (nI k))]) hx hb dX5_write_41 hl (k := 0) rfl (ix_m1 _) (by decide) rfl (fun ls hl => ?_)
      refine lv_goto (tgt := 5) hx hb dX5_write_44 (by decide) ?_
      exact ih (n1 + 1) (upd f1 n1 (fx_by v d)) (nI d - nI 1) _ _ _ (by omega) (by omega) (by omega) hf1 rfl hP hD hS (lv_sub hl [0, 1, 2, 3] rfl)
  exact key k mb ql _ _ _ _ (by omega) hk8 rfl rfl rfl hP hD hS (lv_sub hl [0, 1, 2, 3] rfl)
