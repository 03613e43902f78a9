set_option maxHeartbeats 4000000 in
set_option maxRecDepth 100000 in
theorem c_X4_rbc (l : Launch) (D : va_G) (kI : ClassId) (xx pb lb hL ra hhU hhO : Nat) (bg nx ak ab tn : Nat) (bd : Int32) (sn : Int64)  : Met l yX4_refuseBehindCut (.code yX4_refuseBehindCut bX4_refuseBehindCut 1 none :: GW) (rmL 0 0 0) (va_Pc [.ref xx] (pw_P D [(xx, .inr (4, [.ref pb, .ref lb, .ref hL, .ref ra, .ref hhU, .ref hhO, .int (nI bg), .int (nI nx), .int (nI ak), .int (nI ab), .int (nI tn), .int bd, .long sn, .int (nI 0)]))] [(kI, .int)])) pw_Qv 0 0 (fun _ => False) := by
  refine Met.ofW (cc := bX4_refuseBehindCut) (maxL := 1) (ret := none) (by decide) rfl ?_
  intro p e s m args below meth c s₁ B hml hv
  obtain ⟨rfl, hP, hK, hN⟩ := hv
  have hx := B.exec
  have hb := B.bytes
  have hr := B.returns
  have hg : ∀ w ∈ GW, w.before _ s = true := fun w h => atoms_spec (ws := Cond.code yX4_refuseBehindCut bX4_refuseBehindCut 1 none :: GW) B.pre w (List.mem_cons_of_mem _ h)
  have hown : s.vm.findClass "FindLog" = some m.cls := findClass_of_methodNamed B.named
  have hlocks := B.notSynchronized
  have hS : va_S (fun _ => False) s.heap s.heap [] := va_S.rf
  have hl := lv_entry ([.ref xx]) (n := 1) (Nat.le_of_ble_eq_true rfl)
  rw [lg_entry_eq]
  generalize (lg_sl ([.ref xx]) ++ List.replicate (1 - (lg_sl ([.ref xx])).length) Slot.unset).toArray = ls at hl ⊢
  have hl : lv_has ls 1 [(0, .ref xx)] := hl
  refine lv_aload_n hx hb dX4_refuseBehindCut_0 rfl (lv_at hl 0 rfl) ?_
  refine va_get (D := D) (ci := 4) (v := .int (nI 0)) (C := "FindLog") (T := TX4) (N := 14) hx hb hg inX4 hown hK hP 0 rfl rfl 13 (by decide) (hg _ k_146) (fun _ h9 => h9) rfl dX4_refuseBehindCut_1 ?_
  refine lv_if_eqN (tgt := 17) hx hb (by omega) dX4_refuseBehindCut_4 (by decide) (fun c_4 => ?_) (fun c_4 => absurd c_4 (by omega))
  exact W.vret hx hb hr (fun t ht hW => ⟨⟨(), rfl, trivial, trivial⟩, hS.F ht⟩) (fun q hq => (hS.2.2 q hq).elim) dX4_refuseBehindCut_17
set_option maxHeartbeats 4000000 in
set_option maxRecDepth 100000 in
theorem t_X4_rbc (l : Launch) (hst : l.stackTraces = false) (D : va_G) (kI : ClassId) (xx pb lb hL ra hhU hhO : Nat) (bg nx ak ab tn : Nat) (bd : Int32) (sn : Int64)  : vx_Met l yX4_refuseBehindCut (.code yX4_refuseBehindCut bX4_refuseBehindCut 1 none :: GW) (rmL 5 1 6) (va_Pc [.ref xx] (pz_P D [(xx, .inr (4, [.ref pb, .ref lb, .ref hL, .ref ra, .ref hhU, .ref hhO, .int (nI bg), .int (nI nx), .int (nI ak), .int (nI ab), .int (nI tn), .int bd, .long sn, .int (nI 1)]))] [(kI, .int)])) xt_Qv (xt_X tI) 1 6 (fun _ => False) := by
  refine vx_ofW (cc := bX4_refuseBehindCut) (maxL := 1) (ret := none) (by decide) rfl ?_
  intro p e s m args below meth c s₁ B hml htab hv
  obtain ⟨rfl, ⟨hP, hK, hN⟩, hZ⟩ := hv
  have hx := B.exec
  have hb := B.bytes
  have hr := B.returns
  have hg : ∀ w ∈ GW, w.before _ s = true := fun w h => atoms_spec (ws := Cond.code yX4_refuseBehindCut bX4_refuseBehindCut 1 none :: GW) B.pre w (List.mem_cons_of_mem _ h)
  have hown : s.vm.findClass "FindLog" = some m.cls := findClass_of_methodNamed B.named
  have hlocks := B.notSynchronized
  have hS : va_S (fun _ => False) s.heap s.heap [] := va_S.rf
  have hl := lv_entry ([.ref xx]) (n := 1) (Nat.le_of_ble_eq_true rfl)
  rw [lg_entry_eq]
  generalize (lg_sl ([.ref xx]) ++ List.replicate (1 - (lg_sl ([.ref xx])).length) Slot.unset).toArray = ls at hl ⊢
  have hl : lv_has ls 1 [(0, .ref xx)] := hl
  refine lv_aload_n hx hb dX4_refuseBehindCut_0 rfl (lv_at hl 0 rfl) ?_
  refine va_get (D := D) (ci := 4) (v := .int (nI 1)) (C := "FindLog") (T := TX4) (N := 14) hx hb hg inX4 hown hK hP 0 rfl rfl 13 (by decide) (hg _ k_146) (fun _ h9 => h9) rfl dX4_refuseBehindCut_1 ?_
  refine lv_if_eqN (tgt := 17) hx hb (by omega) dX4_refuseBehindCut_4 (by decide) (fun c_4 => absurd c_4 (by omega)) (fun c_4 => ?_)
  exact xt_new hx hb hst hg hown (by decide +kernel) k_193 k_31 hN.2.2.2.1 at_I bt_I hN.2.1.1 hN ot_I hZ hS (hl.1.trans hml.symm) dX4_refuseBehindCut_7 dX4_refuseBehindCut_10 dX4_refuseBehindCut_11 dX4_refuseBehindCut_13 dX4_refuseBehindCut_16 htab (Nat.le_of_ble_eq_true rfl) (Nat.le_of_ble_eq_true rfl) (Nat.le_of_ble_eq_true rfl) (Nat.le_of_ble_eq_true rfl) hlocks (Nat.le_of_ble_eq_true rfl) (Nat.le_of_ble_eq_true rfl)
set_option maxHeartbeats 4000000 in
set_option maxRecDepth 100000 in
theorem c_X4_rwc (l : Launch) (D : va_G) (kI : ClassId) (xx pb lb hL ra hhU hhO : Nat) (bg nx ak ab tn : Nat) (bd : Int32) (sn : Int64)  : Met l yX4_refuseWithoutCut (.code yX4_refuseWithoutCut bX4_refuseWithoutCut 1 none :: GW) (rmL 0 0 0) (va_Pc [.ref xx] (pw_P D [(xx, .inr (4, [.ref pb, .ref lb, .ref hL, .ref ra, .ref hhU, .ref hhO, .int (nI bg), .int (nI nx), .int (nI ak), .int (nI ab), .int (nI tn), .int bd, .long sn, .int (nI 1)]))] [(kI, .int)])) pw_Qv 0 0 (fun _ => False) := by
  refine Met.ofW (cc := bX4_refuseWithoutCut) (maxL := 1) (ret := none) (by decide) rfl ?_
  intro p e s m args below meth c s₁ B hml hv
  obtain ⟨rfl, hP, hK, hN⟩ := hv
  have hx := B.exec
  have hb := B.bytes
  have hr := B.returns
  have hg : ∀ w ∈ GW, w.before _ s = true := fun w h => atoms_spec (ws := Cond.code yX4_refuseWithoutCut bX4_refuseWithoutCut 1 none :: GW) B.pre w (List.mem_cons_of_mem _ h)
  have hown : s.vm.findClass "FindLog" = some m.cls := findClass_of_methodNamed B.named
  have hlocks := B.notSynchronized
  have hS : va_S (fun _ => False) s.heap s.heap [] := va_S.rf
  have hl := lv_entry ([.ref xx]) (n := 1) (Nat.le_of_ble_eq_true rfl)
  rw [lg_entry_eq]
  generalize (lg_sl ([.ref xx]) ++ List.replicate (1 - (lg_sl ([.ref xx])).length) Slot.unset).toArray = ls at hl ⊢
  have hl : lv_has ls 1 [(0, .ref xx)] := hl
  refine lv_aload_n hx hb dX4_refuseWithoutCut_0 rfl (lv_at hl 0 rfl) ?_
  refine va_get (D := D) (ci := 4) (v := .int (nI 1)) (C := "FindLog") (T := TX4) (N := 14) hx hb hg inX4 hown hK hP 0 rfl rfl 13 (by decide) (hg _ k_146) (fun _ h9 => h9) rfl dX4_refuseWithoutCut_1 ?_
  refine lv_if_neN (tgt := 17) hx hb (by omega) dX4_refuseWithoutCut_4 (by decide) (fun c_4 => ?_) (fun c_4 => absurd c_4 (by omega))
  exact W.vret hx hb hr (fun t ht hW => ⟨⟨(), rfl, trivial, trivial⟩, hS.F ht⟩) (fun q hq => (hS.2.2 q hq).elim) dX4_refuseWithoutCut_17
set_option maxHeartbeats 4000000 in
set_option maxRecDepth 100000 in
theorem t_X4_rwc (l : Launch) (hst : l.stackTraces = false) (D : va_G) (kI : ClassId) (xx pb lb hL ra hhU hhO : Nat) (bg nx ak ab tn : Nat) (bd : Int32) (sn : Int64)  : vx_Met l yX4_refuseWithoutCut (.code yX4_refuseWithoutCut bX4_refuseWithoutCut 1 none :: GW) (rmL 5 1 6) (va_Pc [.ref xx] (pz_P D [(xx, .inr (4, [.ref pb, .ref lb, .ref hL, .ref ra, .ref hhU, .ref hhO, .int (nI bg), .int (nI nx), .int (nI ak), .int (nI ab), .int (nI tn), .int bd, .long sn, .int (nI 0)]))] [(kI, .int)])) xt_Qv (xt_X tI) 1 6 (fun _ => False) := by
  refine vx_ofW (cc := bX4_refuseWithoutCut) (maxL := 1) (ret := none) (by decide) rfl ?_
  intro p e s m args below meth c s₁ B hml htab hv
  obtain ⟨rfl, ⟨hP, hK, hN⟩, hZ⟩ := hv
  have hx := B.exec
  have hb := B.bytes
  have hr := B.returns
  have hg : ∀ w ∈ GW, w.before _ s = true := fun w h => atoms_spec (ws := Cond.code yX4_refuseWithoutCut bX4_refuseWithoutCut 1 none :: GW) B.pre w (List.mem_cons_of_mem _ h)
  have hown : s.vm.findClass "FindLog" = some m.cls := findClass_of_methodNamed B.named
  have hlocks := B.notSynchronized
  have hS : va_S (fun _ => False) s.heap s.heap [] := va_S.rf
  have hl := lv_entry ([.ref xx]) (n := 1) (Nat.le_of_ble_eq_true rfl)
  rw [lg_entry_eq]
  generalize (lg_sl ([.ref xx]) ++ List.replicate (1 - (lg_sl ([.ref xx])).length) Slot.unset).toArray = ls at hl ⊢
  have hl : lv_has ls 1 [(0, .ref xx)] := hl
  refine lv_aload_n hx hb dX4_refuseWithoutCut_0 rfl (lv_at hl 0 rfl) ?_
  refine va_get (D := D) (ci := 4) (v := .int (nI 0)) (C := "FindLog") (T := TX4) (N := 14) hx hb hg inX4 hown hK hP 0 rfl rfl 13 (by decide) (hg _ k_146) (fun _ h9 => h9) rfl dX4_refuseWithoutCut_1 ?_
  refine lv_if_neN (tgt := 17) hx hb (by omega) dX4_refuseWithoutCut_4 (by decide) (fun c_4 => absurd c_4 (by omega)) (fun c_4 => ?_)
  exact xt_new hx hb hst hg hown (by decide +kernel) k_193 k_31 hN.2.2.2.2.2.2.2.2.2.2.2.1 at_I bt_I hN.2.1.1 hN ot_I hZ hS (hl.1.trans hml.symm) dX4_refuseWithoutCut_7 dX4_refuseWithoutCut_10 dX4_refuseWithoutCut_11 dX4_refuseWithoutCut_13 dX4_refuseWithoutCut_16 htab (Nat.le_of_ble_eq_true rfl) (Nat.le_of_ble_eq_true rfl) (Nat.le_of_ble_eq_true rfl) (Nat.le_of_ble_eq_true rfl) hlocks (Nat.le_of_ble_eq_true rfl) (Nat.le_of_ble_eq_true rfl)
set_option maxHeartbeats 4000000 in
set_option maxRecDepth 100000 in
theorem c_X4_rnb (l : Launch) (D : va_G) (kI : ClassId) (xx pb lb hL ra hhU hhO : Nat) (bg nx ak ab tn : Nat) (bd : Int32) (sn : Int64) (bc : Nat) (lr ln : Nat) (lg : Nat → Int32) (j : Nat) (hj : j < ln) (hn : ln ≤ 2432) : Met l yX4_refuseNoByte (.code yX4_refuseNoByte bX4_refuseNoByte 2 none :: GW) (rmL 1 0 0) (va_Pc [.ref xx, .int (nI j)] (pw_P D [(xx, .inr (4, [.ref pb, .ref lb, .ref hL, .ref ra, .ref hhU, .ref hhO, .int (nI bg), .int (nI nx), .int (nI ak), .int (nI ab), .int (nI tn), .int bd, .long sn, .int (nI bc)])), (lb, .inr (0, [.ref lr, .int (nI ln)])), (lr, .inl (kI, 2432, .inl lg))] [(kI, .int)])) pw_Qv 0 0 (fun _ => False) := by
  refine Met.ofW (cc := bX4_refuseNoByte) (maxL := 2) (ret := none) (by decide) rfl ?_
  intro p e s m args below meth c s₁ B hml hv
  obtain ⟨rfl, hP, hK, hN⟩ := hv
  have hx := B.exec
  have hb := B.bytes
  have hr := B.returns
  have hg : ∀ w ∈ GW, w.before _ s = true := fun w h => atoms_spec (ws := Cond.code yX4_refuseNoByte bX4_refuseNoByte 2 none :: GW) B.pre w (List.mem_cons_of_mem _ h)
  have hown : s.vm.findClass "FindLog" = some m.cls := findClass_of_methodNamed B.named
  have hlocks := B.notSynchronized
  have hS : va_S (fun _ => False) s.heap s.heap [] := va_S.rf
  have hl := lv_entry ([.ref xx, .int (nI j)]) (n := 2) (Nat.le_of_ble_eq_true rfl)
  rw [lg_entry_eq]
  generalize (lg_sl ([.ref xx, .int (nI j)]) ++ List.replicate (2 - (lg_sl ([.ref xx, .int (nI j)])).length) Slot.unset).toArray = ls at hl ⊢
  have hl : lv_has ls 2 [(0, .ref xx), (1, .int (nI j))] := hl
  refine lv_iload_n hx hb dX4_refuseNoByte_0 rfl (lv_at hl 1 rfl) ?_
  refine lv_if_ltN (tgt := 15) hx hb (by omega) dX4_refuseNoByte_1 (by decide) (fun c_1 => absurd c_1 id) (fun c_1 => ?_)
  refine lv_iload_n hx hb dX4_refuseNoByte_4 rfl (lv_at hl 1 rfl) ?_
  refine lv_aload_n hx hb dX4_refuseNoByte_5 rfl (lv_at hl 0 rfl) ?_
  refine va_get (D := D) (ci := 4) (v := .ref lb) (C := "FindLog") (T := TX4) (N := 14) hx hb hg inX4 hown hK hP 0 rfl rfl 1 (by decide) (hg _ k_134) (fun _ h9 => h9) rfl dX4_refuseNoByte_6 ?_
  refine pw_calli (va_runV (As := []) (rest := [.int (nI j)]) ⟨hx, hb, hml, hown, hg⟩ (c_X0_size l D lb lr kI 2432 ln lg) (cwV 0 hg (gw_V k_277 k_278 k_279 k_23 k_280) rfl rfl rfl (by decide +kernel) ⟨Nat.le_of_ble_eq_true rfl, Nat.le_of_ble_eq_true rfl⟩) ⟨pw_blind, va_recv hK hP (ci := 0) (q0 := 1) rfl rfl, pw_pre (hP.sub (ws' := [(lb, .inr (0, [.ref lr, .int (nI ln)])), (lr, .inl (kI, 2432, .inl lg))]) [1, 2] rfl) (hK.sub (tys' := [(kI, .int)]) [0] rfl) hN⟩ rfl rfl hl.1 rfl (lv_room (Nat.le_of_ble_eq_true rfl)) dX4_refuseNoByte_9 ⟨Nat.le_of_ble_eq_true rfl, Nat.le_of_ble_eq_true rfl⟩) hS hP (fun H locs hP hS => ?_)
  refine lv_icmp_ltN (tgt := 25) hx hb (by omega) (by omega) dX4_refuseNoByte_12 (by decide) (fun c_12 => ?_) (fun c_12 => absurd c_12 (by omega))
  exact W.vret hx hb hr (fun t ht hW => ⟨⟨(), rfl, trivial, trivial⟩, hS.F ht⟩) (fun q hq => (hS.2.2 q hq).elim) dX4_refuseNoByte_25
set_option maxHeartbeats 4000000 in
set_option maxRecDepth 100000 in
theorem t_X4_rnb (l : Launch) (hst : l.stackTraces = false) (D : va_G) (kI : ClassId) (xx pb lb hL ra hhU hhO : Nat) (bg nx ak ab tn : Nat) (bd : Int32) (sn : Int64) (bc : Nat) (lr ln : Nat) (lg : Nat → Int32) (x : Int32) (hx0 : x < 0 ∨ nI ln ≤ x) (hn : ln ≤ 2432) : vx_Met l yX4_refuseNoByte (.code yX4_refuseNoByte bX4_refuseNoByte 2 none :: GW) (rmL 5 1 6) (va_Pc [.ref xx, .int x] (pz_P D [(xx, .inr (4, [.ref pb, .ref lb, .ref hL, .ref ra, .ref hhU, .ref hhO, .int (nI bg), .int (nI nx), .int (nI ak), .int (nI ab), .int (nI tn), .int bd, .long sn, .int (nI bc)])), (lb, .inr (0, [.ref lr, .int (nI ln)])), (lr, .inl (kI, 2432, .inl lg))] [(kI, .int)])) xt_Qv (xt_X tX) 1 6 (fun _ => False) := by
  refine vx_ofW (cc := bX4_refuseNoByte) (maxL := 2) (ret := none) (by decide) rfl ?_
  intro p e s m args below meth c s₁ B hml htab hv
  obtain ⟨rfl, ⟨hP, hK, hN⟩, hZ⟩ := hv
  have hx := B.exec
  have hb := B.bytes
  have hr := B.returns
  have hg : ∀ w ∈ GW, w.before _ s = true := fun w h => atoms_spec (ws := Cond.code yX4_refuseNoByte bX4_refuseNoByte 2 none :: GW) B.pre w (List.mem_cons_of_mem _ h)
  have hown : s.vm.findClass "FindLog" = some m.cls := findClass_of_methodNamed B.named
  have hlocks := B.notSynchronized
  have hS : va_S (fun _ => False) s.heap s.heap [] := va_S.rf
  have hl := lv_entry ([.ref xx, .int x]) (n := 2) (Nat.le_of_ble_eq_true rfl)
  rw [lg_entry_eq]
  generalize (lg_sl ([.ref xx, .int x]) ++ List.replicate (2 - (lg_sl ([.ref xx, .int x])).length) Slot.unset).toArray = ls at hl ⊢
  have hl : lv_has ls 2 [(0, .ref xx), (1, .int x)] := hl
  refine lv_iload_n hx hb dX4_refuseNoByte_0 rfl (lv_at hl 1 rfl) ?_
  refine lv_if_lt (tgt := 15) hx hb dX4_refuseNoByte_1 (by decide) (fun c_1 => ?_) (fun c_1 => ?_)
  · exact xt_new hx hb hst hg hown (by decide +kernel) k_297 k_33 hN.2.2.2.2.2.2.2.2.2.2.2.2.2.1 at_X bt_X hN.2.1.2.2.1 hN ot_X hZ hS (hl.1.trans hml.symm) dX4_refuseNoByte_15 dX4_refuseNoByte_18 dX4_refuseNoByte_19 dX4_refuseNoByte_21 dX4_refuseNoByte_24 htab (Nat.le_of_ble_eq_true rfl) (Nat.le_of_ble_eq_true rfl) (Nat.le_of_ble_eq_true rfl) (Nat.le_of_ble_eq_true rfl) hlocks (Nat.le_of_ble_eq_true rfl) (Nat.le_of_ble_eq_true rfl)
  · refine lv_iload_n hx hb dX4_refuseNoByte_4 rfl (lv_at hl 1 rfl) ?_
    refine lv_aload_n hx hb dX4_refuseNoByte_5 rfl (lv_at hl 0 rfl) ?_
    refine va_get (D := D) (ci := 4) (v := .ref lb) (C := "FindLog") (T := TX4) (N := 14) hx hb hg inX4 hown hK hP 0 rfl rfl 1 (by decide) (hg _ k_134) (fun _ h9 => h9) rfl dX4_refuseNoByte_6 ?_
    refine pw_calli (va_runV (As := []) (rest := [.int x]) ⟨hx, hb, hml, hown, hg⟩ (c_X0_size l D lb lr kI 2432 ln lg) (cwV 0 hg (gw_V k_277 k_278 k_279 k_23 k_280) rfl rfl rfl (by decide +kernel) ⟨Nat.le_of_ble_eq_true rfl, Nat.le_of_ble_eq_true rfl⟩) ⟨pw_blind, va_recv hK hP (ci := 0) (q0 := 1) rfl rfl, pw_pre (hP.sub (ws' := [(lb, .inr (0, [.ref lr, .int (nI ln)])), (lr, .inl (kI, 2432, .inl lg))]) [1, 2] rfl) (hK.sub (tys' := [(kI, .int)]) [0] rfl) hN⟩ rfl rfl hl.1 rfl (lv_room (Nat.le_of_ble_eq_true rfl)) dX4_refuseNoByte_9 ⟨Nat.le_of_ble_eq_true rfl, Nat.le_of_ble_eq_true rfl⟩) hS hP (fun H locs hP hS => ?_)
    refine lv_icmp_lt (tgt := 25) hx hb dX4_refuseNoByte_12 (by decide) (fun c_12 => absurd c_12 (fun h9 => (Int32.not_lt.mpr (hx0.resolve_left c_1)) h9)) (fun c_12 => ?_)
    exact xt_new hx hb hst hg hown (by decide +kernel) k_297 k_33 hN.2.2.2.2.2.2.2.2.2.2.2.2.2.1 at_X bt_X hN.2.1.2.2.1 hN ot_X hZ hS (hl.1.trans hml.symm) dX4_refuseNoByte_15 dX4_refuseNoByte_18 dX4_refuseNoByte_19 dX4_refuseNoByte_21 dX4_refuseNoByte_24 htab (Nat.le_of_ble_eq_true rfl) (Nat.le_of_ble_eq_true rfl) (Nat.le_of_ble_eq_true rfl) (Nat.le_of_ble_eq_true rfl) hlocks (Nat.le_of_ble_eq_true rfl) (Nat.le_of_ble_eq_true rfl)
set_option maxHeartbeats 4000000 in
set_option maxRecDepth 100000 in
theorem c_X4_rnt (l : Launch) (D : va_G) (kI : ClassId) (j : Nat) (hj : j < 32) : Met l yX4_refuseNoThing (.code yX4_refuseNoThing bX4_refuseNoThing 1 none :: GW) (rmL 0 0 0) (va_Pc [.int (nI j)] (pw_P D [] [(kI, .int)])) pw_Qv 0 0 (fun _ => False) := by
  refine Met.ofW (cc := bX4_refuseNoThing) (maxL := 1) (ret := none) (by decide) rfl ?_
  intro p e s m args below meth c s₁ B hml hv
  obtain ⟨rfl, hP, hK, hN⟩ := hv
  have hx := B.exec
  have hb := B.bytes
  have hr := B.returns
  have hg : ∀ w ∈ GW, w.before _ s = true := fun w h => atoms_spec (ws := Cond.code yX4_refuseNoThing bX4_refuseNoThing 1 none :: GW) B.pre w (List.mem_cons_of_mem _ h)
  have hown : s.vm.findClass "FindLog" = some m.cls := findClass_of_methodNamed B.named
  have hlocks := B.notSynchronized
  have hS : va_S (fun _ => False) s.heap s.heap [] := va_S.rf
  have hl := lv_entry ([.int (nI j)]) (n := 1) (Nat.le_of_ble_eq_true rfl)
  rw [lg_entry_eq]
  generalize (lg_sl ([.int (nI j)]) ++ List.replicate (1 - (lg_sl ([.int (nI j)])).length) Slot.unset).toArray = ls at hl ⊢
  have hl : lv_has ls 1 [(0, .int (nI j))] := hl
  refine lv_iload_n hx hb dX4_refuseNoThing_0 rfl (lv_at hl 0 rfl) ?_
  refine lv_if_ltN (tgt := 10) hx hb (by omega) dX4_refuseNoThing_1 (by decide) (fun c_1 => absurd c_1 id) (fun c_1 => ?_)
  refine lv_iload_n hx hb dX4_refuseNoThing_4 rfl (lv_at hl 0 rfl) ?_
  refine lv_bipush (v := nI 32) hx hb dX4_refuseNoThing_5 (by decide) ?_
  refine lv_icmp_ltN (tgt := 20) hx hb (by omega) (by omega) dX4_refuseNoThing_7 (by decide) (fun c_7 => ?_) (fun c_7 => absurd c_7 (by omega))
  exact W.vret hx hb hr (fun t ht hW => ⟨⟨(), rfl, trivial, trivial⟩, hS.F ht⟩) (fun q hq => (hS.2.2 q hq).elim) dX4_refuseNoThing_20
set_option maxHeartbeats 4000000 in
set_option maxRecDepth 100000 in
theorem t_X4_rnt (l : Launch) (hst : l.stackTraces = false) (D : va_G) (kI : ClassId) (x : Int32) (hx0 : x < 0 ∨ nI 32 ≤ x) : vx_Met l yX4_refuseNoThing (.code yX4_refuseNoThing bX4_refuseNoThing 1 none :: GW) (rmL 5 1 6) (va_Pc [.int x] (pz_P D [] [(kI, .int)])) xt_Qv (xt_X tX) 1 6 (fun _ => False) := by
  refine vx_ofW (cc := bX4_refuseNoThing) (maxL := 1) (ret := none) (by decide) rfl ?_
  intro p e s m args below meth c s₁ B hml htab hv
  obtain ⟨rfl, ⟨hP, hK, hN⟩, hZ⟩ := hv
  have hx := B.exec
  have hb := B.bytes
  have hr := B.returns
  have hg : ∀ w ∈ GW, w.before _ s = true := fun w h => atoms_spec (ws := Cond.code yX4_refuseNoThing bX4_refuseNoThing 1 none :: GW) B.pre w (List.mem_cons_of_mem _ h)
  have hown : s.vm.findClass "FindLog" = some m.cls := findClass_of_methodNamed B.named
  have hlocks := B.notSynchronized
  have hS : va_S (fun _ => False) s.heap s.heap [] := va_S.rf
  have hl := lv_entry ([.int x]) (n := 1) (Nat.le_of_ble_eq_true rfl)
  rw [lg_entry_eq]
  generalize (lg_sl ([.int x]) ++ List.replicate (1 - (lg_sl ([.int x])).length) Slot.unset).toArray = ls at hl ⊢
  have hl : lv_has ls 1 [(0, .int x)] := hl
  refine lv_iload_n hx hb dX4_refuseNoThing_0 rfl (lv_at hl 0 rfl) ?_
  refine lv_if_lt (tgt := 10) hx hb dX4_refuseNoThing_1 (by decide) (fun c_1 => ?_) (fun c_1 => ?_)
  · exact xt_new hx hb hst hg hown (by decide +kernel) k_297 k_33 hN.2.2.2.2.2.2.1 at_X bt_X hN.2.1.2.2.1 hN ot_X hZ hS (hl.1.trans hml.symm) dX4_refuseNoThing_10 dX4_refuseNoThing_13 dX4_refuseNoThing_14 dX4_refuseNoThing_16 dX4_refuseNoThing_19 htab (Nat.le_of_ble_eq_true rfl) (Nat.le_of_ble_eq_true rfl) (Nat.le_of_ble_eq_true rfl) (Nat.le_of_ble_eq_true rfl) hlocks (Nat.le_of_ble_eq_true rfl) (Nat.le_of_ble_eq_true rfl)
  · refine lv_iload_n hx hb dX4_refuseNoThing_4 rfl (lv_at hl 0 rfl) ?_
    refine lv_bipush (v := nI 32) hx hb dX4_refuseNoThing_5 (by decide) ?_
    refine lv_icmp_lt (tgt := 20) hx hb dX4_refuseNoThing_7 (by decide) (fun c_7 => absurd c_7 (fun h9 => (Int32.not_lt.mpr (hx0.resolve_left c_1)) h9)) (fun c_7 => ?_)
    exact xt_new hx hb hst hg hown (by decide +kernel) k_297 k_33 hN.2.2.2.2.2.2.1 at_X bt_X hN.2.1.2.2.1 hN ot_X hZ hS (hl.1.trans hml.symm) dX4_refuseNoThing_10 dX4_refuseNoThing_13 dX4_refuseNoThing_14 dX4_refuseNoThing_16 dX4_refuseNoThing_19 htab (Nat.le_of_ble_eq_true rfl) (Nat.le_of_ble_eq_true rfl) (Nat.le_of_ble_eq_true rfl) (Nat.le_of_ble_eq_true rfl) hlocks (Nat.le_of_ble_eq_true rfl) (Nat.le_of_ble_eq_true rfl)
set_option maxHeartbeats 4000000 in
set_option maxRecDepth 100000 in
theorem c_X4_ack (l : Launch) (D : va_G) (sz : Nat) (kI : ClassId) (xx pb lb hL ra hhU hhO : Nat) (bg nx ak ab tn : Nat) (bd : Int32) (sn : Int64) (bc : Nat) (lr ln : Nat) (lg : Nat → Int32)  : Met l yX4_acknowledgeAll (.code yX4_acknowledgeAll bX4_acknowledgeAll 1 none :: GW) (rmL 1 0 0) (va_Pc [.ref xx] (ww_P D sz [(xx, .inr (4, [.ref pb, .ref lb, .ref hL, .ref ra, .ref hhU, .ref hhO, .int (nI bg), .int (nI nx), .int (nI ak), .int (nI ab), .int (nI tn), .int bd, .long sn, .int (nI bc)])), (lb, .inr (0, [.ref lr, .int (nI ln)])), (lr, .inl (kI, 2432, .inl lg))] [(kI, .int)])) (va_Qv (fun (u : Unit) => True) (fun (u : Unit) => ww_B D (va_A [(xx, .inr (4, [.ref pb, .ref lb, .ref hL, .ref ra, .ref hhU, .ref hhO, .int (nI bg), .int (nI nx), .int (nI ak), .int (nI ab), .int (nI tn), .int bd, .long sn, .int (nI bc)])), (lb, .inr (0, [.ref lr, .int (nI ln)])), (lr, .inl (kI, 2432, .inl lg))] sz) [(xx, .inr (4, [.ref pb, .ref lb, .ref hL, .ref ra, .ref hhU, .ref hhO, .int (nI bg), .int (nI nx), .int (nI nx), .int (nI ln), .int (nI tn), .int bd, .long sn, .int (nI bc)])), (lb, .inr (0, [.ref lr, .int (nI ln)])), (lr, .inl (kI, 2432, .inl lg))] [(kI, .int)]) (va_A [(xx, .inr (4, [.ref pb, .ref lb, .ref hL, .ref ra, .ref hhU, .ref hhO, .int (nI bg), .int (nI nx), .int (nI ak), .int (nI ab), .int (nI tn), .int bd, .long sn, .int (nI bc)])), (lb, .inr (0, [.ref lr, .int (nI ln)])), (lr, .inl (kI, 2432, .inl lg))] sz)) 0 0 (va_A [(xx, .inr (4, [.ref pb, .ref lb, .ref hL, .ref ra, .ref hhU, .ref hhO, .int (nI bg), .int (nI nx), .int (nI ak), .int (nI ab), .int (nI tn), .int bd, .long sn, .int (nI bc)])), (lb, .inr (0, [.ref lr, .int (nI ln)])), (lr, .inl (kI, 2432, .inl lg))] sz) := by
  refine Met.ofW (cc := bX4_acknowledgeAll) (maxL := 1) (ret := none) (by decide) rfl ?_
  intro p e s m args below meth c s₁ B hml hv
  obtain ⟨rfl, hsz, hP, hK, hD0, hN⟩ := hv
  have hx := B.exec
  have hb := B.bytes
  have hr := B.returns
  have hg : ∀ w ∈ GW, w.before _ s = true := fun w h => atoms_spec (ws := Cond.code yX4_acknowledgeAll bX4_acknowledgeAll 1 none :: GW) B.pre w (List.mem_cons_of_mem _ h)
  have hown : s.vm.findClass "FindLog" = some m.cls := findClass_of_methodNamed B.named
  have hlocks := B.notSynchronized
  subst hsz
  have hD := hD0.self (sz := s.heap.size)
  generalize hAe : va_A [(xx, .inr (4, [.ref pb, .ref lb, .ref hL, .ref ra, .ref hhU, .ref hhO, .int (nI bg), .int (nI nx), .int (nI ak), .int (nI ab), .int (nI tn), .int bd, .long sn, .int (nI bc)])), (lb, .inr (0, [.ref lr, .int (nI ln)])), (lr, .inl (kI, 2432, .inl lg))] s.heap.size = A at hD ⊢
  have hA : ∀ q : Nat, s.heap.size ≤ q → A q := fun q h => by rw [← hAe]; exact Or.inr h
  have hS : va_S A s.heap s.heap [] := va_S.rf
  have hl := lv_entry ([.ref xx]) (n := 1) (Nat.le_of_ble_eq_true rfl)
  rw [lg_entry_eq]
  generalize (lg_sl ([.ref xx]) ++ List.replicate (1 - (lg_sl ([.ref xx])).length) Slot.unset).toArray = ls at hl ⊢
  have hl : lv_has ls 1 [(0, .ref xx)] := hl
  refine lv_aload_n hx hb dX4_acknowledgeAll_0 rfl (lv_at hl 0 rfl) ?_
  refine lv_aload_n hx hb dX4_acknowledgeAll_1 rfl (lv_at hl 0 rfl) ?_
  refine va_get (D := D) (ci := 4) (v := .int (nI nx)) (C := "FindLog") (T := TX4) (N := 14) hx hb hg inX4 hown hK hP 0 rfl rfl 7 (by decide) (hg _ k_140) (fun _ h9 => h9) rfl dX4_acknowledgeAll_2 ?_
  refine va_put (D := D) (ci := 4) (v := .int (nI nx)) (ty := .int) (C := "FindLog") (T := TX4) (N := 14) hx hb hg inX4 tyX4 okX4 nmX4 hown hK hP hD hS 0 rfl rfl 8 (by decide) (hg _ k_141) (fun _ h9 => h9) rfl (by decide +kernel) rfl rfl (Nat.le_of_ble_eq_true rfl) dX4_acknowledgeAll_5 (fun H locs hP hD hS => ?_)
  have hP : va_P D vwC [(xx, .inr (4, [.ref pb, .ref lb, .ref hL, .ref ra, .ref hhU, .ref hhO, .int (nI bg), .int (nI nx), .int (nI nx), .int (nI ab), .int (nI tn), .int bd, .long sn, .int (nI bc)])), (lb, .inr (0, [.ref lr, .int (nI ln)])), (lr, .inl (kI, 2432, .inl lg))] H := hP
  have hD : va_D A [(xx, .inr (4, [.ref pb, .ref lb, .ref hL, .ref ra, .ref hhU, .ref hhO, .int (nI bg), .int (nI nx), .int (nI nx), .int (nI ab), .int (nI tn), .int bd, .long sn, .int (nI bc)])), (lb, .inr (0, [.ref lr, .int (nI ln)])), (lr, .inl (kI, 2432, .inl lg))] := hD
  refine lv_aload_n hx hb dX4_acknowledgeAll_8 rfl (lv_at hl 0 rfl) ?_
  refine lv_aload_n hx hb dX4_acknowledgeAll_9 rfl (lv_at hl 0 rfl) ?_
  refine va_get (D := D) (ci := 4) (v := .ref lb) (C := "FindLog") (T := TX4) (N := 14) hx hb hg inX4 hown hK hP 0 rfl rfl 1 (by decide) (hg _ k_134) (fun _ h9 => h9) rfl dX4_acknowledgeAll_10 ?_
  refine pw_calli (va_runV (As := []) (rest := [.ref xx]) ⟨hx, hb, hml, hown, hg⟩ (c_X0_size l D lb lr kI 2432 ln lg) (cwV 0 hg (gw_V k_277 k_278 k_279 k_23 k_280) rfl rfl rfl (by decide +kernel) ⟨Nat.le_of_ble_eq_true rfl, Nat.le_of_ble_eq_true rfl⟩) ⟨pw_blind, va_recv hK hP (ci := 0) (q0 := 1) rfl rfl, pw_pre (hP.sub (ws' := [(lb, .inr (0, [.ref lr, .int (nI ln)])), (lr, .inl (kI, 2432, .inl lg))]) [1, 2] rfl) (hK.sub (tys' := [(kI, .int)]) [0] rfl) hN⟩ rfl rfl hl.1 rfl (lv_room (Nat.le_of_ble_eq_true rfl)) dX4_acknowledgeAll_13 ⟨Nat.le_of_ble_eq_true rfl, Nat.le_of_ble_eq_true rfl⟩) hS hP (fun H locs hP hS => ?_)
  refine va_put (D := D) (ci := 4) (v := .int (nI ln)) (ty := .int) (C := "FindLog") (T := TX4) (N := 14) hx hb hg inX4 tyX4 okX4 nmX4 hown hK hP hD hS 0 rfl rfl 9 (by decide) (hg _ k_142) (fun _ h9 => h9) rfl (by decide +kernel) rfl rfl (Nat.le_of_ble_eq_true rfl) dX4_acknowledgeAll_16 (fun H locs hP hD hS => ?_)
  have hP : va_P D vwC [(xx, .inr (4, [.ref pb, .ref lb, .ref hL, .ref ra, .ref hhU, .ref hhO, .int (nI bg), .int (nI nx), .int (nI nx), .int (nI ln), .int (nI tn), .int bd, .long sn, .int (nI bc)])), (lb, .inr (0, [.ref lr, .int (nI ln)])), (lr, .inl (kI, 2432, .inl lg))] H := hP
  have hD : va_D A [(xx, .inr (4, [.ref pb, .ref lb, .ref hL, .ref ra, .ref hhU, .ref hhO, .int (nI bg), .int (nI nx), .int (nI nx), .int (nI ln), .int (nI tn), .int bd, .long sn, .int (nI bc)])), (lb, .inr (0, [.ref lr, .int (nI ln)])), (lr, .inl (kI, 2432, .inl lg))] := hD
  exact W.vret hx hb hr (fun t ht hW => ⟨⟨(), rfl, trivial, by rw [ht]; exact hP, va_K.moved hW.alike hK, hD⟩, hS.F ht⟩) hS.2.2 dX4_acknowledgeAll_19
set_option maxHeartbeats 4000000 in
set_option maxRecDepth 100000 in
theorem c_X4_swap (l : Launch) (D : va_G) (sz : Nat) (kI : ClassId) (xx pb lb hL ra hhU hhO : Nat) (bg nx ak ab tn : Nat) (bd : Int32) (sn : Int64) (bc : Nat)  : Met l yX4_swapHeads (.code yX4_swapHeads bX4_swapHeads 2 none :: GW) (rmL 0 0 0) (va_Pc [.ref xx] (ww_P D sz [(xx, .inr (4, [.ref pb, .ref lb, .ref hL, .ref ra, .ref hhU, .ref hhO, .int (nI bg), .int (nI nx), .int (nI ak), .int (nI ab), .int (nI tn), .int bd, .long sn, .int (nI bc)]))] [(kI, .int)])) (va_Qv (fun (u : Unit) => True) (fun (u : Unit) => ww_B D (va_A [(xx, .inr (4, [.ref pb, .ref lb, .ref hL, .ref ra, .ref hhU, .ref hhO, .int (nI bg), .int (nI nx), .int (nI ak), .int (nI ab), .int (nI tn), .int bd, .long sn, .int (nI bc)]))] sz) [(xx, .inr (4, [.ref pb, .ref lb, .ref hL, .ref ra, .ref hhO, .ref hhU, .int (nI bg), .int (nI nx), .int (nI ak), .int (nI ab), .int (nI tn), .int bd, .long sn, .int (nI bc)]))] [(kI, .int)]) (va_A [(xx, .inr (4, [.ref pb, .ref lb, .ref hL, .ref ra, .ref hhU, .ref hhO, .int (nI bg), .int (nI nx), .int (nI ak), .int (nI ab), .int (nI tn), .int bd, .long sn, .int (nI bc)]))] sz)) 0 0 (va_A [(xx, .inr (4, [.ref pb, .ref lb, .ref hL, .ref ra, .ref hhU, .ref hhO, .int (nI bg), .int (nI nx), .int (nI ak), .int (nI ab), .int (nI tn), .int bd, .long sn, .int (nI bc)]))] sz) := by
  refine Met.ofW (cc := bX4_swapHeads) (maxL := 2) (ret := none) (by decide) rfl ?_
  intro p e s m args below meth c s₁ B hml hv
  obtain ⟨rfl, hsz, hP, hK, hD0, hN⟩ := hv
  have hx := B.exec
  have hb := B.bytes
  have hr := B.returns
  have hg : ∀ w ∈ GW, w.before _ s = true := fun w h => atoms_spec (ws := Cond.code yX4_swapHeads bX4_swapHeads 2 none :: GW) B.pre w (List.mem_cons_of_mem _ h)
  have hown : s.vm.findClass "FindLog" = some m.cls := findClass_of_methodNamed B.named
  have hlocks := B.notSynchronized
  subst hsz
  have hD := hD0.self (sz := s.heap.size)
  generalize hAe : va_A [(xx, .inr (4, [.ref pb, .ref lb, .ref hL, .ref ra, .ref hhU, .ref hhO, .int (nI bg), .int (nI nx), .int (nI ak), .int (nI ab), .int (nI tn), .int bd, .long sn, .int (nI bc)]))] s.heap.size = A at hD ⊢
  have hA : ∀ q : Nat, s.heap.size ≤ q → A q := fun q h => by rw [← hAe]; exact Or.inr h
  have hS : va_S A s.heap s.heap [] := va_S.rf
  have hl := lv_entry ([.ref xx]) (n := 2) (Nat.le_of_ble_eq_true rfl)
  rw [lg_entry_eq]
  generalize (lg_sl ([.ref xx]) ++ List.replicate (2 - (lg_sl ([.ref xx])).length) Slot.unset).toArray = ls at hl ⊢
  have hl : lv_has ls 2 [(0, .ref xx)] := hl
  refine lv_aload_n hx hb dX4_swapHeads_0 rfl (lv_at hl 0 rfl) ?_
  refine va_get (D := D) (ci := 4) (v := .ref hhU) (C := "FindLog") (T := TX4) (N := 14) hx hb hg inX4 hown hK hP 0 rfl rfl 4 (by decide) (hg _ k_137) (fun _ h9 => h9) rfl dX4_swapHeads_1 ?_
  refine lv_astore_n (lv' := [(1, .ref hhU), (0, .ref xx)]) hx hb dX4_swapHeads_4 rfl hl (by decide) rfl (fun ls hl => ?_)
  refine lv_aload_n hx hb dX4_swapHeads_5 rfl (lv_at hl 1 rfl) ?_
  refine lv_aload_n hx hb dX4_swapHeads_6 rfl (lv_at hl 1 rfl) ?_
  refine va_get (D := D) (ci := 4) (v := .ref hhO) (C := "FindLog") (T := TX4) (N := 14) hx hb hg inX4 hown hK hP 0 rfl rfl 5 (by decide) (hg _ k_138) (fun _ h9 => h9) rfl dX4_swapHeads_7 ?_
  refine va_put (D := D) (ci := 4) (v := .ref hhO) (ty := (.object "FindLog$Head")) (C := "FindLog") (T := TX4) (N := 14) hx hb hg inX4 tyX4 okX4 nmX4 hown hK hP hD hS 0 rfl rfl 4 (by decide) (hg _ k_137) (fun _ h9 => h9) rfl (by decide +kernel) rfl rfl (Nat.le_of_ble_eq_true rfl) dX4_swapHeads_10 (fun H locs hP hD hS => ?_)
  have hP : va_P D vwC [(xx, .inr (4, [.ref pb, .ref lb, .ref hL, .ref ra, .ref hhO, .ref hhO, .int (nI bg), .int (nI nx), .int (nI ak), .int (nI ab), .int (nI tn), .int bd, .long sn, .int (nI bc)]))] H := hP
  have hD : va_D A [(xx, .inr (4, [.ref pb, .ref lb, .ref hL, .ref ra, .ref hhO, .ref hhO, .int (nI bg), .int (nI nx), .int (nI ak), .int (nI ab), .int (nI tn), .int bd, .long sn, .int (nI bc)]))] := hD
  refine lv_aload_n hx hb dX4_swapHeads_13 rfl (lv_at hl 1 rfl) ?_
  refine lv_aload_n hx hb dX4_swapHeads_14 rfl (lv_at hl 0 rfl) ?_
  refine va_put (D := D) (ci := 4) (v := .ref hhU) (ty := (.object "FindLog$Head")) (C := "FindLog") (T := TX4) (N := 14) hx hb hg inX4 tyX4 okX4 nmX4 hown hK hP hD hS 0 rfl rfl 5 (by decide) (hg _ k_138) (fun _ h9 => h9) rfl (by decide +kernel) rfl rfl (Nat.le_of_ble_eq_true rfl) dX4_swapHeads_15 (fun H locs hP hD hS => ?_)
  have hP : va_P D vwC [(xx, .inr (4, [.ref pb, .ref lb, .ref hL, .ref ra, .ref hhO, .ref hhU, .int (nI bg), .int (nI nx), .int (nI ak), .int (nI ab), .int (nI tn), .int bd, .long sn, .int (nI bc)]))] H := hP
  have hD : va_D A [(xx, .inr (4, [.ref pb, .ref lb, .ref hL, .ref ra, .ref hhO, .ref hhU, .int (nI bg), .int (nI nx), .int (nI ak), .int (nI ab), .int (nI tn), .int bd, .long sn, .int (nI bc)]))] := hD
  exact W.vret hx hb hr (fun t ht hW => ⟨⟨(), rfl, trivial, by rw [ht]; exact hP, va_K.moved hW.alike hK, hD⟩, hS.F ht⟩) hS.2.2 dX4_swapHeads_18
