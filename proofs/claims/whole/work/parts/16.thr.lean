set_option maxHeartbeats 4000000 in
set_option maxRecDepth 100000 in
theorem t_X4_feed_cut (l : Launch) (hst : l.stackTraces = false) (D : va_G) (kI : ClassId) (xx pb lb hL ra hhU hhO : Nat) (bg nx ak ab tn : Nat) (bd : Int32) (sn : Int64) (pr pn : Nat) (pf : Nat → Int32) (lr ln : Nat) (lg : Nat → Int32) (daL caL yaL : Nat) (fdL fcL fyL : Nat → Int32) (x0 x1 x2 : Int32) (x3 : Int64) (hfU huU daU caU yaU : Nat) (ggU fiU faU whU : Nat) (slU : Int64) (uuU : Nat → Nat) (fdU fcU fyU : Nat → Int32) (hfO huO daO caO yaO : Nat) (ggO fiO faO whO : Nat) (slO : Int64) (uuO : Nat → Nat) (fdO fcO fyO : Nat → Int32) (x : Int32) : vx_Met l yX4_feed (.code yX4_feed bX4_feed 2 (some .int) :: GW) (rmL 6 1 6) (va_Pc [.ref xx, .int x] (pz_P D [(xx, .inr (4, [.ref pb, .ref lb, .ref hL, .ref ra, .ref hhU, .ref hhO, .int (nI bg), .int (nI nx), .int (nI ak), .int (nI ab), .int (nI tn), .int bd, .long sn, .int (nI 1)])), (pb, .inr (0, [.ref pr, .int (nI pn)])), (pr, .inl (kI, 24, .inl pf)), (lb, .inr (0, [.ref lr, .int (nI ln)])), (lr, .inl (kI, 2432, .inl lg)), (hL, .inr (1, [.ref daL, .ref caL, .ref yaL])), (daL, .inl (kI, 32, .inl fdL)), (caL, .inl (kI, 32, .inl fcL)), (yaL, .inl (kI, 768, .inl fyL)), (ra, .inr (3, [.int x0, .int x1, .int x2, .long x3])), (hhU, .inr (2, [.ref hfU, .ref huU, .int (nI ggU), .int (nI fiU), .int (nI faU), .long slU, .int (nI whU)])), (huU, .inl (kI, 4, .inl (fun j => nI (uuU j)))), (hfU, .inr (1, [.ref daU, .ref caU, .ref yaU])), (daU, .inl (kI, 32, .inl fdU)), (caU, .inl (kI, 32, .inl fcU)), (yaU, .inl (kI, 768, .inl fyU)), (hhO, .inr (2, [.ref hfO, .ref huO, .int (nI ggO), .int (nI fiO), .int (nI faO), .long slO, .int (nI whO)])), (huO, .inl (kI, 4, .inl (fun j => nI (uuO j)))), (hfO, .inr (1, [.ref daO, .ref caO, .ref yaO])), (daO, .inl (kI, 32, .inl fdO)), (caO, .inl (kI, 32, .inl fcO)), (yaO, .inl (kI, 768, .inl fyO))] [(kI, .int)])) xt_Qi (xt_X tI) 1 6 (fun _ => False) := by
  refine vx_ofW (cc := bX4_feed) (maxL := 2) (ret := (some .int)) (by decide) rfl ?_
  intro p e s m args below meth c s₁ B hml htab hv
  obtain ⟨rfl, ⟨hP, hK, hN⟩, hZ⟩ := hv
  have hx := B.exec
  have hb := B.bytes
  have hr := B.returns
  have hg : ∀ w ∈ GW, w.before _ s = true := fun w h => atoms_spec (ws := Cond.code yX4_feed bX4_feed 2 (some .int) :: GW) B.pre w (List.mem_cons_of_mem _ h)
  have hown : s.vm.findClass "FindLog" = some m.cls := findClass_of_methodNamed B.named
  have hlocks := B.notSynchronized
  have hS : va_S (fun _ => False) s.heap s.heap [] := va_S.rf
  have hl := lv_entry ([.ref xx, .int x]) (n := 2) (Nat.le_of_ble_eq_true rfl)
  rw [lg_entry_eq]
  generalize (lg_sl ([.ref xx, .int x]) ++ List.replicate (2 - (lg_sl ([.ref xx, .int x])).length) Slot.unset).toArray = ls at hl ⊢
  have hl : lv_has ls 2 [(0, .ref xx), (1, .int x)] := hl
  refine lv_aload_n hx hb dX4_feed_0 rfl (lv_at hl 0 rfl) ?_
  exact vx_callv (vx_runV (As := []) (rest := []) ⟨hx, hb, hml, hown, hg⟩ (t_X4_rbc l hst D kI xx pb lb hL ra hhU hhO bg nx ak ab tn bd sn) (cwV 0 hg (gw_V k_189 k_191 k_0 k_22 k_192) rfl rfl rfl (by decide +kernel) ⟨Nat.le_of_ble_eq_true rfl, Nat.le_of_ble_eq_true rfl⟩) ⟨pz_blind, va_recv hK hP (ci := 4) (q0 := 0) rfl rfl, pz_pre (hP.sub (ws' := [(xx, .inr (4, [.ref pb, .ref lb, .ref hL, .ref ra, .ref hhU, .ref hhO, .int (nI bg), .int (nI nx), .int (nI ak), .int (nI ab), .int (nI tn), .int bd, .long sn, .int (nI 1)]))]) [0] rfl) (hK.sub (tys' := [(kI, .int)]) [0] rfl) hN hZ hS⟩ rfl rfl hl.1 rfl (lv_room (Nat.le_of_ble_eq_true rfl)) dX4_feed_1 ⟨Nat.le_of_ble_eq_true rfl, Nat.le_of_ble_eq_true rfl⟩) hS (fun _ _ h => h.elim) (fun _ h => h.elim) (fun _ _ h => h.elim) (fun E9 ce q9 u9 t9 H1 locs1 ht hvm hp hE hz hk hS hce hcv hcl => xt_pass hE htab hlocks hce hcv hcl hS (Nat.le_of_ble_eq_true rfl) (Nat.le_of_ble_eq_true rfl)) (fun u9 t9 H1 locs1 ht hvm hp => hp.elim)
set_option maxHeartbeats 4000000 in
set_option maxRecDepth 100000 in
theorem t_X4_act_cut (l : Launch) (hst : l.stackTraces = false) (D : va_G) (kI : ClassId) (xx pb lb hL ra hhU hhO : Nat) (bg nx ak ab tn : Nat) (bd : Int32) (sn : Int64) (pr pn : Nat) (pf : Nat → Int32) (lr ln : Nat) (lg : Nat → Int32) (daL caL yaL : Nat) (fdL fcL fyL : Nat → Int32) (x0 x1 x2 : Int32) (x3 : Int64) (hfU huU daU caU yaU : Nat) (ggU fiU faU whU : Nat) (slU : Int64) (uuU : Nat → Nat) (fdU fcU fyU : Nat → Int32) (hfO huO daO caO yaO : Nat) (ggO fiO faO whO : Nat) (slO : Int64) (uuO : Nat → Nat) (fdO fcO fyO : Nat → Int32) (x y : Int32) : vx_Met l yX4_act (.code yX4_act bX4_act 4 (some .int) :: GW) (rmL 6 1 6) (va_Pc [.ref xx, .int x, .int y] (pz_P D [(xx, .inr (4, [.ref pb, .ref lb, .ref hL, .ref ra, .ref hhU, .ref hhO, .int (nI bg), .int (nI nx), .int (nI ak), .int (nI ab), .int (nI tn), .int bd, .long sn, .int (nI 1)])), (pb, .inr (0, [.ref pr, .int (nI pn)])), (pr, .inl (kI, 24, .inl pf)), (lb, .inr (0, [.ref lr, .int (nI ln)])), (lr, .inl (kI, 2432, .inl lg)), (hL, .inr (1, [.ref daL, .ref caL, .ref yaL])), (daL, .inl (kI, 32, .inl fdL)), (caL, .inl (kI, 32, .inl fcL)), (yaL, .inl (kI, 768, .inl fyL)), (ra, .inr (3, [.int x0, .int x1, .int x2, .long x3])), (hhU, .inr (2, [.ref hfU, .ref huU, .int (nI ggU), .int (nI fiU), .int (nI faU), .long slU, .int (nI whU)])), (huU, .inl (kI, 4, .inl (fun j => nI (uuU j)))), (hfU, .inr (1, [.ref daU, .ref caU, .ref yaU])), (daU, .inl (kI, 32, .inl fdU)), (caU, .inl (kI, 32, .inl fcU)), (yaU, .inl (kI, 768, .inl fyU)), (hhO, .inr (2, [.ref hfO, .ref huO, .int (nI ggO), .int (nI fiO), .int (nI faO), .long slO, .int (nI whO)])), (huO, .inl (kI, 4, .inl (fun j => nI (uuO j)))), (hfO, .inr (1, [.ref daO, .ref caO, .ref yaO])), (daO, .inl (kI, 32, .inl fdO)), (caO, .inl (kI, 32, .inl fcO)), (yaO, .inl (kI, 768, .inl fyO))] [(kI, .int)])) xt_Qi (xt_X tI) 1 6 (fun _ => False) := by
  refine vx_ofW (cc := bX4_act) (maxL := 4) (ret := (some .int)) (by decide) rfl ?_
  intro p e s m args below meth c s₁ B hml htab hv
  obtain ⟨rfl, ⟨hP, hK, hN⟩, hZ⟩ := hv
  have hx := B.exec
  have hb := B.bytes
  have hr := B.returns
  have hg : ∀ w ∈ GW, w.before _ s = true := fun w h => atoms_spec (ws := Cond.code yX4_act bX4_act 4 (some .int) :: GW) B.pre w (List.mem_cons_of_mem _ h)
  have hown : s.vm.findClass "FindLog" = some m.cls := findClass_of_methodNamed B.named
  have hlocks := B.notSynchronized
  have hS : va_S (fun _ => False) s.heap s.heap [] := va_S.rf
  have hl := lv_entry ([.ref xx, .int x, .int y]) (n := 4) (Nat.le_of_ble_eq_true rfl)
  rw [lg_entry_eq]
  generalize (lg_sl ([.ref xx, .int x, .int y]) ++ List.replicate (4 - (lg_sl ([.ref xx, .int x, .int y])).length) Slot.unset).toArray = ls at hl ⊢
  have hl : lv_has ls 4 [(0, .ref xx), (1, .int x), (2, .int y)] := hl
  refine lv_aload_n hx hb dX4_act_0 rfl (lv_at hl 0 rfl) ?_
  exact vx_callv (vx_runV (As := []) (rest := []) ⟨hx, hb, hml, hown, hg⟩ (t_X4_rbc l hst D kI xx pb lb hL ra hhU hhO bg nx ak ab tn bd sn) (cwV 0 hg (gw_V k_189 k_191 k_0 k_22 k_192) rfl rfl rfl (by decide +kernel) ⟨Nat.le_of_ble_eq_true rfl, Nat.le_of_ble_eq_true rfl⟩) ⟨pz_blind, va_recv hK hP (ci := 4) (q0 := 0) rfl rfl, pz_pre (hP.sub (ws' := [(xx, .inr (4, [.ref pb, .ref lb, .ref hL, .ref ra, .ref hhU, .ref hhO, .int (nI bg), .int (nI nx), .int (nI ak), .int (nI ab), .int (nI tn), .int bd, .long sn, .int (nI 1)]))]) [0] rfl) (hK.sub (tys' := [(kI, .int)]) [0] rfl) hN hZ hS⟩ rfl rfl hl.1 rfl (lv_room (Nat.le_of_ble_eq_true rfl)) dX4_act_1 ⟨Nat.le_of_ble_eq_true rfl, Nat.le_of_ble_eq_true rfl⟩) hS (fun _ _ h => h.elim) (fun _ h => h.elim) (fun _ _ h => h.elim) (fun E9 ce q9 u9 t9 H1 locs1 ht hvm hp hE hz hk hS hce hcv hcl => xt_pass hE htab hlocks hce hcv hcl hS (Nat.le_of_ble_eq_true rfl) (Nat.le_of_ble_eq_true rfl)) (fun u9 t9 H1 locs1 ht hvm hp => hp.elim)
set_option maxHeartbeats 4000000 in
set_option maxRecDepth 100000 in
theorem t_X4_flush_cut (l : Launch) (hst : l.stackTraces = false) (D : va_G) (kI : ClassId) (xx pb lb hL ra hhU hhO : Nat) (bg nx ak ab tn : Nat) (bd : Int32) (sn : Int64) (pr pn : Nat) (pf : Nat → Int32) (lr ln : Nat) (lg : Nat → Int32) (daL caL yaL : Nat) (fdL fcL fyL : Nat → Int32) (x0 x1 x2 : Int32) (x3 : Int64) (hfU huU daU caU yaU : Nat) (ggU fiU faU whU : Nat) (slU : Int64) (uuU : Nat → Nat) (fdU fcU fyU : Nat → Int32) (hfO huO daO caO yaO : Nat) (ggO fiO faO whO : Nat) (slO : Int64) (uuO : Nat → Nat) (fdO fcO fyO : Nat → Int32)  : vx_Met l yX4_flush (.code yX4_flush bX4_flush 2 (some .int) :: GW) (rmL 6 1 6) (va_Pc [.ref xx] (pz_P D [(xx, .inr (4, [.ref pb, .ref lb, .ref hL, .ref ra, .ref hhU, .ref hhO, .int (nI bg), .int (nI nx), .int (nI ak), .int (nI ab), .int (nI tn), .int bd, .long sn, .int (nI 1)])), (pb, .inr (0, [.ref pr, .int (nI pn)])), (pr, .inl (kI, 24, .inl pf)), (lb, .inr (0, [.ref lr, .int (nI ln)])), (lr, .inl (kI, 2432, .inl lg)), (hL, .inr (1, [.ref daL, .ref caL, .ref yaL])), (daL, .inl (kI, 32, .inl fdL)), (caL, .inl (kI, 32, .inl fcL)), (yaL, .inl (kI, 768, .inl fyL)), (ra, .inr (3, [.int x0, .int x1, .int x2, .long x3])), (hhU, .inr (2, [.ref hfU, .ref huU, .int (nI ggU), .int (nI fiU), .int (nI faU), .long slU, .int (nI whU)])), (huU, .inl (kI, 4, .inl (fun j => nI (uuU j)))), (hfU, .inr (1, [.ref daU, .ref caU, .ref yaU])), (daU, .inl (kI, 32, .inl fdU)), (caU, .inl (kI, 32, .inl fcU)), (yaU, .inl (kI, 768, .inl fyU)), (hhO, .inr (2, [.ref hfO, .ref huO, .int (nI ggO), .int (nI fiO), .int (nI faO), .long slO, .int (nI whO)])), (huO, .inl (kI, 4, .inl (fun j => nI (uuO j)))), (hfO, .inr (1, [.ref daO, .ref caO, .ref yaO])), (daO, .inl (kI, 32, .inl fdO)), (caO, .inl (kI, 32, .inl fcO)), (yaO, .inl (kI, 768, .inl fyO))] [(kI, .int)])) xt_Qi (xt_X tI) 1 6 (fun _ => False) := by
  refine vx_ofW (cc := bX4_flush) (maxL := 2) (ret := (some .int)) (by decide) rfl ?_
  intro p e s m args below meth c s₁ B hml htab hv
  obtain ⟨rfl, ⟨hP, hK, hN⟩, hZ⟩ := hv
  have hx := B.exec
  have hb := B.bytes
  have hr := B.returns
  have hg : ∀ w ∈ GW, w.before _ s = true := fun w h => atoms_spec (ws := Cond.code yX4_flush bX4_flush 2 (some .int) :: GW) B.pre w (List.mem_cons_of_mem _ h)
  have hown : s.vm.findClass "FindLog" = some m.cls := findClass_of_methodNamed B.named
  have hlocks := B.notSynchronized
  have hS : va_S (fun _ => False) s.heap s.heap [] := va_S.rf
  have hl := lv_entry ([.ref xx]) (n := 2) (Nat.le_of_ble_eq_true rfl)
  rw [lg_entry_eq]
  generalize (lg_sl ([.ref xx]) ++ List.replicate (2 - (lg_sl ([.ref xx])).length) Slot.unset).toArray = ls at hl ⊢
  have hl : lv_has ls 2 [(0, .ref xx)] := hl
  refine lv_aload_n hx hb dX4_flush_0 rfl (lv_at hl 0 rfl) ?_
  exact vx_callv (vx_runV (As := []) (rest := []) ⟨hx, hb, hml, hown, hg⟩ (t_X4_rbc l hst D kI xx pb lb hL ra hhU hhO bg nx ak ab tn bd sn) (cwV 0 hg (gw_V k_189 k_191 k_0 k_22 k_192) rfl rfl rfl (by decide +kernel) ⟨Nat.le_of_ble_eq_true rfl, Nat.le_of_ble_eq_true rfl⟩) ⟨pz_blind, va_recv hK hP (ci := 4) (q0 := 0) rfl rfl, pz_pre (hP.sub (ws' := [(xx, .inr (4, [.ref pb, .ref lb, .ref hL, .ref ra, .ref hhU, .ref hhO, .int (nI bg), .int (nI nx), .int (nI ak), .int (nI ab), .int (nI tn), .int bd, .long sn, .int (nI 1)]))]) [0] rfl) (hK.sub (tys' := [(kI, .int)]) [0] rfl) hN hZ hS⟩ rfl rfl hl.1 rfl (lv_room (Nat.le_of_ble_eq_true rfl)) dX4_flush_1 ⟨Nat.le_of_ble_eq_true rfl, Nat.le_of_ble_eq_true rfl⟩) hS (fun _ _ h => h.elim) (fun _ h => h.elim) (fun _ _ h => h.elim) (fun E9 ce q9 u9 t9 H1 locs1 ht hvm hp hE hz hk hS hce hcv hcl => xt_pass hE htab hlocks hce hcv hcl hS (Nat.le_of_ble_eq_true rfl) (Nat.le_of_ble_eq_true rfl)) (fun u9 t9 H1 locs1 ht hvm hp => hp.elim)
set_option maxHeartbeats 4000000 in
set_option maxRecDepth 100000 in
theorem t_X4_part_cut (l : Launch) (hst : l.stackTraces = false) (D : va_G) (kI : ClassId) (xx pb lb hL ra hhU hhO : Nat) (bg nx ak ab tn : Nat) (bd : Int32) (sn : Int64) (pr pn : Nat) (pf : Nat → Int32) (lr ln : Nat) (lg : Nat → Int32) (daL caL yaL : Nat) (fdL fcL fyL : Nat → Int32) (x0 x1 x2 : Int32) (x3 : Int64) (hfU huU daU caU yaU : Nat) (ggU fiU faU whU : Nat) (slU : Int64) (uuU : Nat → Nat) (fdU fcU fyU : Nat → Int32) (hfO huO daO caO yaO : Nat) (ggO fiO faO whO : Nat) (slO : Int64) (uuO : Nat → Nat) (fdO fcO fyO : Nat → Int32)  : vx_Met l yX4_part (.code yX4_part bX4_part 2 (some .int) :: GW) (rmL 6 1 6) (va_Pc [.ref xx] (pz_P D [(xx, .inr (4, [.ref pb, .ref lb, .ref hL, .ref ra, .ref hhU, .ref hhO, .int (nI bg), .int (nI nx), .int (nI ak), .int (nI ab), .int (nI tn), .int bd, .long sn, .int (nI 1)])), (pb, .inr (0, [.ref pr, .int (nI pn)])), (pr, .inl (kI, 24, .inl pf)), (lb, .inr (0, [.ref lr, .int (nI ln)])), (lr, .inl (kI, 2432, .inl lg)), (hL, .inr (1, [.ref daL, .ref caL, .ref yaL])), (daL, .inl (kI, 32, .inl fdL)), (caL, .inl (kI, 32, .inl fcL)), (yaL, .inl (kI, 768, .inl fyL)), (ra, .inr (3, [.int x0, .int x1, .int x2, .long x3])), (hhU, .inr (2, [.ref hfU, .ref huU, .int (nI ggU), .int (nI fiU), .int (nI faU), .long slU, .int (nI whU)])), (huU, .inl (kI, 4, .inl (fun j => nI (uuU j)))), (hfU, .inr (1, [.ref daU, .ref caU, .ref yaU])), (daU, .inl (kI, 32, .inl fdU)), (caU, .inl (kI, 32, .inl fcU)), (yaU, .inl (kI, 768, .inl fyU)), (hhO, .inr (2, [.ref hfO, .ref huO, .int (nI ggO), .int (nI fiO), .int (nI faO), .long slO, .int (nI whO)])), (huO, .inl (kI, 4, .inl (fun j => nI (uuO j)))), (hfO, .inr (1, [.ref daO, .ref caO, .ref yaO])), (daO, .inl (kI, 32, .inl fdO)), (caO, .inl (kI, 32, .inl fcO)), (yaO, .inl (kI, 768, .inl fyO))] [(kI, .int)])) xt_Qi (xt_X tI) 1 6 (fun _ => False) := by
  refine vx_ofW (cc := bX4_part) (maxL := 2) (ret := (some .int)) (by decide) rfl ?_
  intro p e s m args below meth c s₁ B hml htab hv
  obtain ⟨rfl, ⟨hP, hK, hN⟩, hZ⟩ := hv
  have hx := B.exec
  have hb := B.bytes
  have hr := B.returns
  have hg : ∀ w ∈ GW, w.before _ s = true := fun w h => atoms_spec (ws := Cond.code yX4_part bX4_part 2 (some .int) :: GW) B.pre w (List.mem_cons_of_mem _ h)
  have hown : s.vm.findClass "FindLog" = some m.cls := findClass_of_methodNamed B.named
  have hlocks := B.notSynchronized
  have hS : va_S (fun _ => False) s.heap s.heap [] := va_S.rf
  have hl := lv_entry ([.ref xx]) (n := 2) (Nat.le_of_ble_eq_true rfl)
  rw [lg_entry_eq]
  generalize (lg_sl ([.ref xx]) ++ List.replicate (2 - (lg_sl ([.ref xx])).length) Slot.unset).toArray = ls at hl ⊢
  have hl : lv_has ls 2 [(0, .ref xx)] := hl
  refine lv_aload_n hx hb dX4_part_0 rfl (lv_at hl 0 rfl) ?_
  exact vx_callv (vx_runV (As := []) (rest := []) ⟨hx, hb, hml, hown, hg⟩ (t_X4_rbc l hst D kI xx pb lb hL ra hhU hhO bg nx ak ab tn bd sn) (cwV 0 hg (gw_V k_189 k_191 k_0 k_22 k_192) rfl rfl rfl (by decide +kernel) ⟨Nat.le_of_ble_eq_true rfl, Nat.le_of_ble_eq_true rfl⟩) ⟨pz_blind, va_recv hK hP (ci := 4) (q0 := 0) rfl rfl, pz_pre (hP.sub (ws' := [(xx, .inr (4, [.ref pb, .ref lb, .ref hL, .ref ra, .ref hhU, .ref hhO, .int (nI bg), .int (nI nx), .int (nI ak), .int (nI ab), .int (nI tn), .int bd, .long sn, .int (nI 1)]))]) [0] rfl) (hK.sub (tys' := [(kI, .int)]) [0] rfl) hN hZ hS⟩ rfl rfl hl.1 rfl (lv_room (Nat.le_of_ble_eq_true rfl)) dX4_part_1 ⟨Nat.le_of_ble_eq_true rfl, Nat.le_of_ble_eq_true rfl⟩) hS (fun _ _ h => h.elim) (fun _ h => h.elim) (fun _ _ h => h.elim) (fun E9 ce q9 u9 t9 H1 locs1 ht hvm hp hE hz hk hS hce hcv hcl => xt_pass hE htab hlocks hce hcv hcl hS (Nat.le_of_ble_eq_true rfl) (Nat.le_of_ble_eq_true rfl)) (fun u9 t9 H1 locs1 ht hvm hp => hp.elim)
set_option maxHeartbeats 4000000 in
set_option maxRecDepth 100000 in
theorem t_X4_cut_cut (l : Launch) (hst : l.stackTraces = false) (D : va_G) (kI : ClassId) (xx pb lb hL ra hhU hhO : Nat) (bg nx ak ab tn : Nat) (bd : Int32) (sn : Int64) (pr pn : Nat) (pf : Nat → Int32) (lr ln : Nat) (lg : Nat → Int32) (daL caL yaL : Nat) (fdL fcL fyL : Nat → Int32) (x0 x1 x2 : Int32) (x3 : Int64) (hfU huU daU caU yaU : Nat) (ggU fiU faU whU : Nat) (slU : Int64) (uuU : Nat → Nat) (fdU fcU fyU : Nat → Int32) (hfO huO daO caO yaO : Nat) (ggO fiO faO whO : Nat) (slO : Int64) (uuO : Nat → Nat) (fdO fcO fyO : Nat → Int32)  : vx_Met l yX4_cut (.code yX4_cut bX4_cut 6 (some .int) :: GW) (rmL 6 1 6) (va_Pc [.ref xx] (pz_P D [(xx, .inr (4, [.ref pb, .ref lb, .ref hL, .ref ra, .ref hhU, .ref hhO, .int (nI bg), .int (nI nx), .int (nI ak), .int (nI ab), .int (nI tn), .int bd, .long sn, .int (nI 1)])), (pb, .inr (0, [.ref pr, .int (nI pn)])), (pr, .inl (kI, 24, .inl pf)), (lb, .inr (0, [.ref lr, .int (nI ln)])), (lr, .inl (kI, 2432, .inl lg)), (hL, .inr (1, [.ref daL, .ref caL, .ref yaL])), (daL, .inl (kI, 32, .inl fdL)), (caL, .inl (kI, 32, .inl fcL)), (yaL, .inl (kI, 768, .inl fyL)), (ra, .inr (3, [.int x0, .int x1, .int x2, .long x3])), (hhU, .inr (2, [.ref hfU, .ref huU, .int (nI ggU), .int (nI fiU), .int (nI faU), .long slU, .int (nI whU)])), (huU, .inl (kI, 4, .inl (fun j => nI (uuU j)))), (hfU, .inr (1, [.ref daU, .ref caU, .ref yaU])), (daU, .inl (kI, 32, .inl fdU)), (caU, .inl (kI, 32, .inl fcU)), (yaU, .inl (kI, 768, .inl fyU)), (hhO, .inr (2, [.ref hfO, .ref huO, .int (nI ggO), .int (nI fiO), .int (nI faO), .long slO, .int (nI whO)])), (huO, .inl (kI, 4, .inl (fun j => nI (uuO j)))), (hfO, .inr (1, [.ref daO, .ref caO, .ref yaO])), (daO, .inl (kI, 32, .inl fdO)), (caO, .inl (kI, 32, .inl fcO)), (yaO, .inl (kI, 768, .inl fyO))] [(kI, .int)])) xt_Qi (xt_X tI) 1 6 (fun _ => False) := by
  refine vx_ofW (cc := bX4_cut) (maxL := 6) (ret := (some .int)) (by decide) rfl ?_
  intro p e s m args below meth c s₁ B hml htab hv
  obtain ⟨rfl, ⟨hP, hK, hN⟩, hZ⟩ := hv
  have hx := B.exec
  have hb := B.bytes
  have hr := B.returns
  have hg : ∀ w ∈ GW, w.before _ s = true := fun w h => atoms_spec (ws := Cond.code yX4_cut bX4_cut 6 (some .int) :: GW) B.pre w (List.mem_cons_of_mem _ h)
  have hown : s.vm.findClass "FindLog" = some m.cls := findClass_of_methodNamed B.named
  have hlocks := B.notSynchronized
  have hS : va_S (fun _ => False) s.heap s.heap [] := va_S.rf
  have hl := lv_entry ([.ref xx]) (n := 6) (Nat.le_of_ble_eq_true rfl)
  rw [lg_entry_eq]
  generalize (lg_sl ([.ref xx]) ++ List.replicate (6 - (lg_sl ([.ref xx])).length) Slot.unset).toArray = ls at hl ⊢
  have hl : lv_has ls 6 [(0, .ref xx)] := hl
  refine lv_aload_n hx hb dX4_cut_0 rfl (lv_at hl 0 rfl) ?_
  exact vx_callv (vx_runV (As := []) (rest := []) ⟨hx, hb, hml, hown, hg⟩ (t_X4_rbc l hst D kI xx pb lb hL ra hhU hhO bg nx ak ab tn bd sn) (cwV 0 hg (gw_V k_189 k_191 k_0 k_22 k_192) rfl rfl rfl (by decide +kernel) ⟨Nat.le_of_ble_eq_true rfl, Nat.le_of_ble_eq_true rfl⟩) ⟨pz_blind, va_recv hK hP (ci := 4) (q0 := 0) rfl rfl, pz_pre (hP.sub (ws' := [(xx, .inr (4, [.ref pb, .ref lb, .ref hL, .ref ra, .ref hhU, .ref hhO, .int (nI bg), .int (nI nx), .int (nI ak), .int (nI ab), .int (nI tn), .int bd, .long sn, .int (nI 1)]))]) [0] rfl) (hK.sub (tys' := [(kI, .int)]) [0] rfl) hN hZ hS⟩ rfl rfl hl.1 rfl (lv_room (Nat.le_of_ble_eq_true rfl)) dX4_cut_1 ⟨Nat.le_of_ble_eq_true rfl, Nat.le_of_ble_eq_true rfl⟩) hS (fun _ _ h => h.elim) (fun _ h => h.elim) (fun _ _ h => h.elim) (fun E9 ce q9 u9 t9 H1 locs1 ht hvm hp hE hz hk hS hce hcv hcl => xt_pass hE htab hlocks hce hcv hcl hS (Nat.le_of_ble_eq_true rfl) (Nat.le_of_ble_eq_true rfl)) (fun u9 t9 H1 locs1 ht hvm hp => hp.elim)
set_option maxHeartbeats 4000000 in
set_option maxRecDepth 100000 in
theorem t_X4_find_cut (l : Launch) (hst : l.stackTraces = false) (D : va_G) (kI : ClassId) (xx pb lb hL ra hhU hhO : Nat) (bg nx ak ab tn : Nat) (bd : Int32) (sn : Int64) (pr pn : Nat) (pf : Nat → Int32) (lr ln : Nat) (lg : Nat → Int32) (daL caL yaL : Nat) (fdL fcL fyL : Nat → Int32) (x0 x1 x2 : Int32) (x3 : Int64) (hfU huU daU caU yaU : Nat) (ggU fiU faU whU : Nat) (slU : Int64) (uuU : Nat → Nat) (fdU fcU fyU : Nat → Int32) (hfO huO daO caO yaO : Nat) (ggO fiO faO whO : Nat) (slO : Int64) (uuO : Nat → Nat) (fdO fcO fyO : Nat → Int32) (x y : Int32) : vx_Met l yX4_find (.code yX4_find bX4_find 4 (some .int) :: GW) (rmL 6 1 6) (va_Pc [.ref xx, .int x, .int y] (pz_P D [(xx, .inr (4, [.ref pb, .ref lb, .ref hL, .ref ra, .ref hhU, .ref hhO, .int (nI bg), .int (nI nx), .int (nI ak), .int (nI ab), .int (nI tn), .int bd, .long sn, .int (nI 1)])), (pb, .inr (0, [.ref pr, .int (nI pn)])), (pr, .inl (kI, 24, .inl pf)), (lb, .inr (0, [.ref lr, .int (nI ln)])), (lr, .inl (kI, 2432, .inl lg)), (hL, .inr (1, [.ref daL, .ref caL, .ref yaL])), (daL, .inl (kI, 32, .inl fdL)), (caL, .inl (kI, 32, .inl fcL)), (yaL, .inl (kI, 768, .inl fyL)), (ra, .inr (3, [.int x0, .int x1, .int x2, .long x3])), (hhU, .inr (2, [.ref hfU, .ref huU, .int (nI ggU), .int (nI fiU), .int (nI faU), .long slU, .int (nI whU)])), (huU, .inl (kI, 4, .inl (fun j => nI (uuU j)))), (hfU, .inr (1, [.ref daU, .ref caU, .ref yaU])), (daU, .inl (kI, 32, .inl fdU)), (caU, .inl (kI, 32, .inl fcU)), (yaU, .inl (kI, 768, .inl fyU)), (hhO, .inr (2, [.ref hfO, .ref huO, .int (nI ggO), .int (nI fiO), .int (nI faO), .long slO, .int (nI whO)])), (huO, .inl (kI, 4, .inl (fun j => nI (uuO j)))), (hfO, .inr (1, [.ref daO, .ref caO, .ref yaO])), (daO, .inl (kI, 32, .inl fdO)), (caO, .inl (kI, 32, .inl fcO)), (yaO, .inl (kI, 768, .inl fyO))] [(kI, .int)])) xt_Qi (xt_X tI) 1 6 (fun _ => False) := by
  refine vx_ofW (cc := bX4_find) (maxL := 4) (ret := (some .int)) (by decide) rfl ?_
  intro p e s m args below meth c s₁ B hml htab hv
  obtain ⟨rfl, ⟨hP, hK, hN⟩, hZ⟩ := hv
  have hx := B.exec
  have hb := B.bytes
  have hr := B.returns
  have hg : ∀ w ∈ GW, w.before _ s = true := fun w h => atoms_spec (ws := Cond.code yX4_find bX4_find 4 (some .int) :: GW) B.pre w (List.mem_cons_of_mem _ h)
  have hown : s.vm.findClass "FindLog" = some m.cls := findClass_of_methodNamed B.named
  have hlocks := B.notSynchronized
  have hS : va_S (fun _ => False) s.heap s.heap [] := va_S.rf
  have hl := lv_entry ([.ref xx, .int x, .int y]) (n := 4) (Nat.le_of_ble_eq_true rfl)
  rw [lg_entry_eq]
  generalize (lg_sl ([.ref xx, .int x, .int y]) ++ List.replicate (4 - (lg_sl ([.ref xx, .int x, .int y])).length) Slot.unset).toArray = ls at hl ⊢
  have hl : lv_has ls 4 [(0, .ref xx), (1, .int x), (2, .int y)] := hl
  refine lv_aload_n hx hb dX4_find_0 rfl (lv_at hl 0 rfl) ?_
  exact vx_callv (vx_runV (As := []) (rest := []) ⟨hx, hb, hml, hown, hg⟩ (t_X4_rbc l hst D kI xx pb lb hL ra hhU hhO bg nx ak ab tn bd sn) (cwV 0 hg (gw_V k_189 k_191 k_0 k_22 k_192) rfl rfl rfl (by decide +kernel) ⟨Nat.le_of_ble_eq_true rfl, Nat.le_of_ble_eq_true rfl⟩) ⟨pz_blind, va_recv hK hP (ci := 4) (q0 := 0) rfl rfl, pz_pre (hP.sub (ws' := [(xx, .inr (4, [.ref pb, .ref lb, .ref hL, .ref ra, .ref hhU, .ref hhO, .int (nI bg), .int (nI nx), .int (nI ak), .int (nI ab), .int (nI tn), .int bd, .long sn, .int (nI 1)]))]) [0] rfl) (hK.sub (tys' := [(kI, .int)]) [0] rfl) hN hZ hS⟩ rfl rfl hl.1 rfl (lv_room (Nat.le_of_ble_eq_true rfl)) dX4_find_1 ⟨Nat.le_of_ble_eq_true rfl, Nat.le_of_ble_eq_true rfl⟩) hS (fun _ _ h => h.elim) (fun _ h => h.elim) (fun _ _ h => h.elim) (fun E9 ce q9 u9 t9 H1 locs1 ht hvm hp hE hz hk hS hce hcv hcl => xt_pass hE htab hlocks hce hcv hcl hS (Nat.le_of_ble_eq_true rfl) (Nat.le_of_ble_eq_true rfl)) (fun u9 t9 H1 locs1 ht hvm hp => hp.elim)
set_option maxHeartbeats 4000000 in
set_option maxRecDepth 100000 in
theorem t_X4_day_cut (l : Launch) (hst : l.stackTraces = false) (D : va_G) (kI : ClassId) (xx pb lb hL ra hhU hhO : Nat) (bg nx ak ab tn : Nat) (bd : Int32) (sn : Int64) (pr pn : Nat) (pf : Nat → Int32) (lr ln : Nat) (lg : Nat → Int32) (daL caL yaL : Nat) (fdL fcL fyL : Nat → Int32) (x0 x1 x2 : Int32) (x3 : Int64) (hfU huU daU caU yaU : Nat) (ggU fiU faU whU : Nat) (slU : Int64) (uuU : Nat → Nat) (fdU fcU fyU : Nat → Int32) (hfO huO daO caO yaO : Nat) (ggO fiO faO whO : Nat) (slO : Int64) (uuO : Nat → Nat) (fdO fcO fyO : Nat → Int32) (x : Int32) : vx_Met l yX4_day (.code yX4_day bX4_day 2 (some .int) :: GW) (rmL 6 1 6) (va_Pc [.ref xx, .int x] (pz_P D [(xx, .inr (4, [.ref pb, .ref lb, .ref hL, .ref ra, .ref hhU, .ref hhO, .int (nI bg), .int (nI nx), .int (nI ak), .int (nI ab), .int (nI tn), .int bd, .long sn, .int (nI 1)])), (pb, .inr (0, [.ref pr, .int (nI pn)])), (pr, .inl (kI, 24, .inl pf)), (lb, .inr (0, [.ref lr, .int (nI ln)])), (lr, .inl (kI, 2432, .inl lg)), (hL, .inr (1, [.ref daL, .ref caL, .ref yaL])), (daL, .inl (kI, 32, .inl fdL)), (caL, .inl (kI, 32, .inl fcL)), (yaL, .inl (kI, 768, .inl fyL)), (ra, .inr (3, [.int x0, .int x1, .int x2, .long x3])), (hhU, .inr (2, [.ref hfU, .ref huU, .int (nI ggU), .int (nI fiU), .int (nI faU), .long slU, .int (nI whU)])), (huU, .inl (kI, 4, .inl (fun j => nI (uuU j)))), (hfU, .inr (1, [.ref daU, .ref caU, .ref yaU])), (daU, .inl (kI, 32, .inl fdU)), (caU, .inl (kI, 32, .inl fcU)), (yaU, .inl (kI, 768, .inl fyU)), (hhO, .inr (2, [.ref hfO, .ref huO, .int (nI ggO), .int (nI fiO), .int (nI faO), .long slO, .int (nI whO)])), (huO, .inl (kI, 4, .inl (fun j => nI (uuO j)))), (hfO, .inr (1, [.ref daO, .ref caO, .ref yaO])), (daO, .inl (kI, 32, .inl fdO)), (caO, .inl (kI, 32, .inl fcO)), (yaO, .inl (kI, 768, .inl fyO))] [(kI, .int)])) xt_Qi (xt_X tI) 1 6 (fun _ => False) := by
  refine vx_ofW (cc := bX4_day) (maxL := 2) (ret := (some .int)) (by decide) rfl ?_
  intro p e s m args below meth c s₁ B hml htab hv
  obtain ⟨rfl, ⟨hP, hK, hN⟩, hZ⟩ := hv
  have hx := B.exec
  have hb := B.bytes
  have hr := B.returns
  have hg : ∀ w ∈ GW, w.before _ s = true := fun w h => atoms_spec (ws := Cond.code yX4_day bX4_day 2 (some .int) :: GW) B.pre w (List.mem_cons_of_mem _ h)
  have hown : s.vm.findClass "FindLog" = some m.cls := findClass_of_methodNamed B.named
  have hlocks := B.notSynchronized
  have hS : va_S (fun _ => False) s.heap s.heap [] := va_S.rf
  have hl := lv_entry ([.ref xx, .int x]) (n := 2) (Nat.le_of_ble_eq_true rfl)
  rw [lg_entry_eq]
  generalize (lg_sl ([.ref xx, .int x]) ++ List.replicate (2 - (lg_sl ([.ref xx, .int x])).length) Slot.unset).toArray = ls at hl ⊢
  have hl : lv_has ls 2 [(0, .ref xx), (1, .int x)] := hl
  refine lv_aload_n hx hb dX4_day_0 rfl (lv_at hl 0 rfl) ?_
  exact vx_callv (vx_runV (As := []) (rest := []) ⟨hx, hb, hml, hown, hg⟩ (t_X4_rbc l hst D kI xx pb lb hL ra hhU hhO bg nx ak ab tn bd sn) (cwV 0 hg (gw_V k_189 k_191 k_0 k_22 k_192) rfl rfl rfl (by decide +kernel) ⟨Nat.le_of_ble_eq_true rfl, Nat.le_of_ble_eq_true rfl⟩) ⟨pz_blind, va_recv hK hP (ci := 4) (q0 := 0) rfl rfl, pz_pre (hP.sub (ws' := [(xx, .inr (4, [.ref pb, .ref lb, .ref hL, .ref ra, .ref hhU, .ref hhO, .int (nI bg), .int (nI nx), .int (nI ak), .int (nI ab), .int (nI tn), .int bd, .long sn, .int (nI 1)]))]) [0] rfl) (hK.sub (tys' := [(kI, .int)]) [0] rfl) hN hZ hS⟩ rfl rfl hl.1 rfl (lv_room (Nat.le_of_ble_eq_true rfl)) dX4_day_1 ⟨Nat.le_of_ble_eq_true rfl, Nat.le_of_ble_eq_true rfl⟩) hS (fun _ _ h => h.elim) (fun _ h => h.elim) (fun _ _ h => h.elim) (fun E9 ce q9 u9 t9 H1 locs1 ht hvm hp hE hz hk hS hce hcv hcl => xt_pass hE htab hlocks hce hcv hcl hS (Nat.le_of_ble_eq_true rfl) (Nat.le_of_ble_eq_true rfl)) (fun u9 t9 H1 locs1 ht hvm hp => hp.elim)
set_option maxHeartbeats 4000000 in
set_option maxRecDepth 100000 in
theorem t_X4_seal_cut (l : Launch) (hst : l.stackTraces = false) (D : va_G) (kI : ClassId) (xx pb lb hL ra hhU hhO : Nat) (bg nx ak ab tn : Nat) (bd : Int32) (sn : Int64) (pr pn : Nat) (pf : Nat → Int32) (lr ln : Nat) (lg : Nat → Int32) (daL caL yaL : Nat) (fdL fcL fyL : Nat → Int32) (x0 x1 x2 : Int32) (x3 : Int64) (hfU huU daU caU yaU : Nat) (ggU fiU faU whU : Nat) (slU : Int64) (uuU : Nat → Nat) (fdU fcU fyU : Nat → Int32) (hfO huO daO caO yaO : Nat) (ggO fiO faO whO : Nat) (slO : Int64) (uuO : Nat → Nat) (fdO fcO fyO : Nat → Int32)  : vx_Met l yX4_seal (.code yX4_seal bX4_seal 1 (some .long) :: GW) (rmL 6 1 6) (va_Pc [.ref xx] (pz_P D [(xx, .inr (4, [.ref pb, .ref lb, .ref hL, .ref ra, .ref hhU, .ref hhO, .int (nI bg), .int (nI nx), .int (nI ak), .int (nI ab), .int (nI tn), .int bd, .long sn, .int (nI 1)])), (pb, .inr (0, [.ref pr, .int (nI pn)])), (pr, .inl (kI, 24, .inl pf)), (lb, .inr (0, [.ref lr, .int (nI ln)])), (lr, .inl (kI, 2432, .inl lg)), (hL, .inr (1, [.ref daL, .ref caL, .ref yaL])), (daL, .inl (kI, 32, .inl fdL)), (caL, .inl (kI, 32, .inl fcL)), (yaL, .inl (kI, 768, .inl fyL)), (ra, .inr (3, [.int x0, .int x1, .int x2, .long x3])), (hhU, .inr (2, [.ref hfU, .ref huU, .int (nI ggU), .int (nI fiU), .int (nI faU), .long slU, .int (nI whU)])), (huU, .inl (kI, 4, .inl (fun j => nI (uuU j)))), (hfU, .inr (1, [.ref daU, .ref caU, .ref yaU])), (daU, .inl (kI, 32, .inl fdU)), (caU, .inl (kI, 32, .inl fcU)), (yaU, .inl (kI, 768, .inl fyU)), (hhO, .inr (2, [.ref hfO, .ref huO, .int (nI ggO), .int (nI fiO), .int (nI faO), .long slO, .int (nI whO)])), (huO, .inl (kI, 4, .inl (fun j => nI (uuO j)))), (hfO, .inr (1, [.ref daO, .ref caO, .ref yaO])), (daO, .inl (kI, 32, .inl fdO)), (caO, .inl (kI, 32, .inl fcO)), (yaO, .inl (kI, 768, .inl fyO))] [(kI, .int)])) xt_Ql (xt_X tI) 1 6 (fun _ => False) := by
  refine vx_ofW (cc := bX4_seal) (maxL := 1) (ret := (some .long)) (by decide) rfl ?_
  intro p e s m args below meth c s₁ B hml htab hv
  obtain ⟨rfl, ⟨hP, hK, hN⟩, hZ⟩ := hv
  have hx := B.exec
  have hb := B.bytes
  have hr := B.returns
  have hg : ∀ w ∈ GW, w.before _ s = true := fun w h => atoms_spec (ws := Cond.code yX4_seal bX4_seal 1 (some .long) :: GW) B.pre w (List.mem_cons_of_mem _ h)
  have hown : s.vm.findClass "FindLog" = some m.cls := findClass_of_methodNamed B.named
  have hlocks := B.notSynchronized
  have hS : va_S (fun _ => False) s.heap s.heap [] := va_S.rf
  have hl := lv_entry ([.ref xx]) (n := 1) (Nat.le_of_ble_eq_true rfl)
  rw [lg_entry_eq]
  generalize (lg_sl ([.ref xx]) ++ List.replicate (1 - (lg_sl ([.ref xx])).length) Slot.unset).toArray = ls at hl ⊢
  have hl : lv_has ls 1 [(0, .ref xx)] := hl
  refine lv_aload_n hx hb dX4_seal_0 rfl (lv_at hl 0 rfl) ?_
  exact vx_callv (vx_runV (As := []) (rest := []) ⟨hx, hb, hml, hown, hg⟩ (t_X4_rbc l hst D kI xx pb lb hL ra hhU hhO bg nx ak ab tn bd sn) (cwV 0 hg (gw_V k_189 k_191 k_0 k_22 k_192) rfl rfl rfl (by decide +kernel) ⟨Nat.le_of_ble_eq_true rfl, Nat.le_of_ble_eq_true rfl⟩) ⟨pz_blind, va_recv hK hP (ci := 4) (q0 := 0) rfl rfl, pz_pre (hP.sub (ws' := [(xx, .inr (4, [.ref pb, .ref lb, .ref hL, .ref ra, .ref hhU, .ref hhO, .int (nI bg), .int (nI nx), .int (nI ak), .int (nI ab), .int (nI tn), .int bd, .long sn, .int (nI 1)]))]) [0] rfl) (hK.sub (tys' := [(kI, .int)]) [0] rfl) hN hZ hS⟩ rfl rfl hl.1 rfl (lv_room (Nat.le_of_ble_eq_true rfl)) dX4_seal_1 ⟨Nat.le_of_ble_eq_true rfl, Nat.le_of_ble_eq_true rfl⟩) hS (fun _ _ h => h.elim) (fun _ h => h.elim) (fun _ _ h => h.elim) (fun E9 ce q9 u9 t9 H1 locs1 ht hvm hp hE hz hk hS hce hcv hcl => xt_pass hE htab hlocks hce hcv hcl hS (Nat.le_of_ble_eq_true rfl) (Nat.le_of_ble_eq_true rfl)) (fun u9 t9 H1 locs1 ht hvm hp => hp.elim)
set_option maxHeartbeats 4000000 in
set_option maxRecDepth 100000 in
theorem t_X4_crash_cut (l : Launch) (hst : l.stackTraces = false) (D : va_G) (kI : ClassId) (xx pb lb hL ra hhU hhO : Nat) (bg nx ak ab tn : Nat) (bd : Int32) (sn : Int64) (pr pn : Nat) (pf : Nat → Int32) (lr ln : Nat) (lg : Nat → Int32) (daL caL yaL : Nat) (fdL fcL fyL : Nat → Int32) (x0 x1 x2 : Int32) (x3 : Int64) (hfU huU daU caU yaU : Nat) (ggU fiU faU whU : Nat) (slU : Int64) (uuU : Nat → Nat) (fdU fcU fyU : Nat → Int32) (hfO huO daO caO yaO : Nat) (ggO fiO faO whO : Nat) (slO : Int64) (uuO : Nat → Nat) (fdO fcO fyO : Nat → Int32) (x : Int32) : vx_Met l yX4_crash (.code yX4_crash bX4_crash 2 (some .int) :: GW) (rmL 6 1 6) (va_Pc [.ref xx, .int x] (pz_P D [(xx, .inr (4, [.ref pb, .ref lb, .ref hL, .ref ra, .ref hhU, .ref hhO, .int (nI bg), .int (nI nx), .int (nI ak), .int (nI ab), .int (nI tn), .int bd, .long sn, .int (nI 1)])), (pb, .inr (0, [.ref pr, .int (nI pn)])), (pr, .inl (kI, 24, .inl pf)), (lb, .inr (0, [.ref lr, .int (nI ln)])), (lr, .inl (kI, 2432, .inl lg)), (hL, .inr (1, [.ref daL, .ref caL, .ref yaL])), (daL, .inl (kI, 32, .inl fdL)), (caL, .inl (kI, 32, .inl fcL)), (yaL, .inl (kI, 768, .inl fyL)), (ra, .inr (3, [.int x0, .int x1, .int x2, .long x3])), (hhU, .inr (2, [.ref hfU, .ref huU, .int (nI ggU), .int (nI fiU), .int (nI faU), .long slU, .int (nI whU)])), (huU, .inl (kI, 4, .inl (fun j => nI (uuU j)))), (hfU, .inr (1, [.ref daU, .ref caU, .ref yaU])), (daU, .inl (kI, 32, .inl fdU)), (caU, .inl (kI, 32, .inl fcU)), (yaU, .inl (kI, 768, .inl fyU)), (hhO, .inr (2, [.ref hfO, .ref huO, .int (nI ggO), .int (nI fiO), .int (nI faO), .long slO, .int (nI whO)])), (huO, .inl (kI, 4, .inl (fun j => nI (uuO j)))), (hfO, .inr (1, [.ref daO, .ref caO, .ref yaO])), (daO, .inl (kI, 32, .inl fdO)), (caO, .inl (kI, 32, .inl fcO)), (yaO, .inl (kI, 768, .inl fyO))] [(kI, .int)])) xt_Qi (xt_X tI) 1 6 (fun _ => False) := by
  refine vx_ofW (cc := bX4_crash) (maxL := 2) (ret := (some .int)) (by decide) rfl ?_
  intro p e s m args below meth c s₁ B hml htab hv
  obtain ⟨rfl, ⟨hP, hK, hN⟩, hZ⟩ := hv
  have hx := B.exec
  have hb := B.bytes
  have hr := B.returns
  have hg : ∀ w ∈ GW, w.before _ s = true := fun w h => atoms_spec (ws := Cond.code yX4_crash bX4_crash 2 (some .int) :: GW) B.pre w (List.mem_cons_of_mem _ h)
  have hown : s.vm.findClass "FindLog" = some m.cls := findClass_of_methodNamed B.named
  have hlocks := B.notSynchronized
  have hS : va_S (fun _ => False) s.heap s.heap [] := va_S.rf
  have hl := lv_entry ([.ref xx, .int x]) (n := 2) (Nat.le_of_ble_eq_true rfl)
  rw [lg_entry_eq]
  generalize (lg_sl ([.ref xx, .int x]) ++ List.replicate (2 - (lg_sl ([.ref xx, .int x])).length) Slot.unset).toArray = ls at hl ⊢
  have hl : lv_has ls 2 [(0, .ref xx), (1, .int x)] := hl
  refine lv_aload_n hx hb dX4_crash_0 rfl (lv_at hl 0 rfl) ?_
  exact vx_callv (vx_runV (As := []) (rest := []) ⟨hx, hb, hml, hown, hg⟩ (t_X4_rbc l hst D kI xx pb lb hL ra hhU hhO bg nx ak ab tn bd sn) (cwV 0 hg (gw_V k_189 k_191 k_0 k_22 k_192) rfl rfl rfl (by decide +kernel) ⟨Nat.le_of_ble_eq_true rfl, Nat.le_of_ble_eq_true rfl⟩) ⟨pz_blind, va_recv hK hP (ci := 4) (q0 := 0) rfl rfl, pz_pre (hP.sub (ws' := [(xx, .inr (4, [.ref pb, .ref lb, .ref hL, .ref ra, .ref hhU, .ref hhO, .int (nI bg), .int (nI nx), .int (nI ak), .int (nI ab), .int (nI tn), .int bd, .long sn, .int (nI 1)]))]) [0] rfl) (hK.sub (tys' := [(kI, .int)]) [0] rfl) hN hZ hS⟩ rfl rfl hl.1 rfl (lv_room (Nat.le_of_ble_eq_true rfl)) dX4_crash_1 ⟨Nat.le_of_ble_eq_true rfl, Nat.le_of_ble_eq_true rfl⟩) hS (fun _ _ h => h.elim) (fun _ h => h.elim) (fun _ _ h => h.elim) (fun E9 ce q9 u9 t9 H1 locs1 ht hvm hp hE hz hk hS hce hcv hcl => xt_pass hE htab hlocks hce hcv hcl hS (Nat.le_of_ble_eq_true rfl) (Nat.le_of_ble_eq_true rfl)) (fun u9 t9 H1 locs1 ht hvm hp => hp.elim)
set_option maxHeartbeats 4000000 in
set_option maxRecDepth 100000 in
theorem t_X4_tear_cut (l : Launch) (hst : l.stackTraces = false) (D : va_G) (kI : ClassId) (xx pb lb hL ra hhU hhO : Nat) (bg nx ak ab tn : Nat) (bd : Int32) (sn : Int64) (pr pn : Nat) (pf : Nat → Int32) (lr ln : Nat) (lg : Nat → Int32) (daL caL yaL : Nat) (fdL fcL fyL : Nat → Int32) (x0 x1 x2 : Int32) (x3 : Int64) (hfU huU daU caU yaU : Nat) (ggU fiU faU whU : Nat) (slU : Int64) (uuU : Nat → Nat) (fdU fcU fyU : Nat → Int32) (hfO huO daO caO yaO : Nat) (ggO fiO faO whO : Nat) (slO : Int64) (uuO : Nat → Nat) (fdO fcO fyO : Nat → Int32)  : vx_Met l yX4_tear (.code yX4_tear bX4_tear 2 (some .int) :: GW) (rmL 6 1 6) (va_Pc [.ref xx] (pz_P D [(xx, .inr (4, [.ref pb, .ref lb, .ref hL, .ref ra, .ref hhU, .ref hhO, .int (nI bg), .int (nI nx), .int (nI ak), .int (nI ab), .int (nI tn), .int bd, .long sn, .int (nI 0)])), (pb, .inr (0, [.ref pr, .int (nI pn)])), (pr, .inl (kI, 24, .inl pf)), (lb, .inr (0, [.ref lr, .int (nI ln)])), (lr, .inl (kI, 2432, .inl lg)), (hL, .inr (1, [.ref daL, .ref caL, .ref yaL])), (daL, .inl (kI, 32, .inl fdL)), (caL, .inl (kI, 32, .inl fcL)), (yaL, .inl (kI, 768, .inl fyL)), (ra, .inr (3, [.int x0, .int x1, .int x2, .long x3])), (hhU, .inr (2, [.ref hfU, .ref huU, .int (nI ggU), .int (nI fiU), .int (nI faU), .long slU, .int (nI whU)])), (huU, .inl (kI, 4, .inl (fun j => nI (uuU j)))), (hfU, .inr (1, [.ref daU, .ref caU, .ref yaU])), (daU, .inl (kI, 32, .inl fdU)), (caU, .inl (kI, 32, .inl fcU)), (yaU, .inl (kI, 768, .inl fyU)), (hhO, .inr (2, [.ref hfO, .ref huO, .int (nI ggO), .int (nI fiO), .int (nI faO), .long slO, .int (nI whO)])), (huO, .inl (kI, 4, .inl (fun j => nI (uuO j)))), (hfO, .inr (1, [.ref daO, .ref caO, .ref yaO])), (daO, .inl (kI, 32, .inl fdO)), (caO, .inl (kI, 32, .inl fcO)), (yaO, .inl (kI, 768, .inl fyO))] [(kI, .int)])) xt_Qi (xt_X tI) 1 6 (fun _ => False) := by
  refine vx_ofW (cc := bX4_tear) (maxL := 2) (ret := (some .int)) (by decide) rfl ?_
  intro p e s m args below meth c s₁ B hml htab hv
  obtain ⟨rfl, ⟨hP, hK, hN⟩, hZ⟩ := hv
  have hx := B.exec
  have hb := B.bytes
  have hr := B.returns
  have hg : ∀ w ∈ GW, w.before _ s = true := fun w h => atoms_spec (ws := Cond.code yX4_tear bX4_tear 2 (some .int) :: GW) B.pre w (List.mem_cons_of_mem _ h)
  have hown : s.vm.findClass "FindLog" = some m.cls := findClass_of_methodNamed B.named
  have hlocks := B.notSynchronized
  have hS : va_S (fun _ => False) s.heap s.heap [] := va_S.rf
  have hl := lv_entry ([.ref xx]) (n := 2) (Nat.le_of_ble_eq_true rfl)
  rw [lg_entry_eq]
  generalize (lg_sl ([.ref xx]) ++ List.replicate (2 - (lg_sl ([.ref xx])).length) Slot.unset).toArray = ls at hl ⊢
  have hl : lv_has ls 2 [(0, .ref xx)] := hl
  refine lv_aload_n hx hb dX4_tear_0 rfl (lv_at hl 0 rfl) ?_
  exact vx_callv (vx_runV (As := []) (rest := []) ⟨hx, hb, hml, hown, hg⟩ (t_X4_rwc l hst D kI xx pb lb hL ra hhU hhO bg nx ak ab tn bd sn) (cwV 0 hg (gw_V k_488 k_490 k_6 k_22 k_491) rfl rfl rfl (by decide +kernel) ⟨Nat.le_of_ble_eq_true rfl, Nat.le_of_ble_eq_true rfl⟩) ⟨pz_blind, va_recv hK hP (ci := 4) (q0 := 0) rfl rfl, pz_pre (hP.sub (ws' := [(xx, .inr (4, [.ref pb, .ref lb, .ref hL, .ref ra, .ref hhU, .ref hhO, .int (nI bg), .int (nI nx), .int (nI ak), .int (nI ab), .int (nI tn), .int bd, .long sn, .int (nI 0)]))]) [0] rfl) (hK.sub (tys' := [(kI, .int)]) [0] rfl) hN hZ hS⟩ rfl rfl hl.1 rfl (lv_room (Nat.le_of_ble_eq_true rfl)) dX4_tear_1 ⟨Nat.le_of_ble_eq_true rfl, Nat.le_of_ble_eq_true rfl⟩) hS (fun _ _ h => h.elim) (fun _ h => h.elim) (fun _ _ h => h.elim) (fun E9 ce q9 u9 t9 H1 locs1 ht hvm hp hE hz hk hS hce hcv hcl => xt_pass hE htab hlocks hce hcv hcl hS (Nat.le_of_ble_eq_true rfl) (Nat.le_of_ble_eq_true rfl)) (fun u9 t9 H1 locs1 ht hvm hp => hp.elim)
set_option maxHeartbeats 4000000 in
set_option maxRecDepth 100000 in
theorem t_X4_poke_cut (l : Launch) (hst : l.stackTraces = false) (D : va_G) (kI : ClassId) (xx pb lb hL ra hhU hhO : Nat) (bg nx ak ab tn : Nat) (bd : Int32) (sn : Int64) (pr pn : Nat) (pf : Nat → Int32) (lr ln : Nat) (lg : Nat → Int32) (daL caL yaL : Nat) (fdL fcL fyL : Nat → Int32) (x0 x1 x2 : Int32) (x3 : Int64) (hfU huU daU caU yaU : Nat) (ggU fiU faU whU : Nat) (slU : Int64) (uuU : Nat → Nat) (fdU fcU fyU : Nat → Int32) (hfO huO daO caO yaO : Nat) (ggO fiO faO whO : Nat) (slO : Int64) (uuO : Nat → Nat) (fdO fcO fyO : Nat → Int32) (x y : Int32) : vx_Met l yX4_poke (.code yX4_poke bX4_poke 4 (some .int) :: GW) (rmL 6 1 6) (va_Pc [.ref xx, .int x, .int y] (pz_P D [(xx, .inr (4, [.ref pb, .ref lb, .ref hL, .ref ra, .ref hhU, .ref hhO, .int (nI bg), .int (nI nx), .int (nI ak), .int (nI ab), .int (nI tn), .int bd, .long sn, .int (nI 0)])), (pb, .inr (0, [.ref pr, .int (nI pn)])), (pr, .inl (kI, 24, .inl pf)), (lb, .inr (0, [.ref lr, .int (nI ln)])), (lr, .inl (kI, 2432, .inl lg)), (hL, .inr (1, [.ref daL, .ref caL, .ref yaL])), (daL, .inl (kI, 32, .inl fdL)), (caL, .inl (kI, 32, .inl fcL)), (yaL, .inl (kI, 768, .inl fyL)), (ra, .inr (3, [.int x0, .int x1, .int x2, .long x3])), (hhU, .inr (2, [.ref hfU, .ref huU, .int (nI ggU), .int (nI fiU), .int (nI faU), .long slU, .int (nI whU)])), (huU, .inl (kI, 4, .inl (fun j => nI (uuU j)))), (hfU, .inr (1, [.ref daU, .ref caU, .ref yaU])), (daU, .inl (kI, 32, .inl fdU)), (caU, .inl (kI, 32, .inl fcU)), (yaU, .inl (kI, 768, .inl fyU)), (hhO, .inr (2, [.ref hfO, .ref huO, .int (nI ggO), .int (nI fiO), .int (nI faO), .long slO, .int (nI whO)])), (huO, .inl (kI, 4, .inl (fun j => nI (uuO j)))), (hfO, .inr (1, [.ref daO, .ref caO, .ref yaO])), (daO, .inl (kI, 32, .inl fdO)), (caO, .inl (kI, 32, .inl fcO)), (yaO, .inl (kI, 768, .inl fyO))] [(kI, .int)])) xt_Qi (xt_X tI) 1 6 (fun _ => False) := by
  refine vx_ofW (cc := bX4_poke) (maxL := 4) (ret := (some .int)) (by decide) rfl ?_
  intro p e s m args below meth c s₁ B hml htab hv
  obtain ⟨rfl, ⟨hP, hK, hN⟩, hZ⟩ := hv
  have hx := B.exec
  have hb := B.bytes
  have hr := B.returns
  have hg : ∀ w ∈ GW, w.before _ s = true := fun w h => atoms_spec (ws := Cond.code yX4_poke bX4_poke 4 (some .int) :: GW) B.pre w (List.mem_cons_of_mem _ h)
  have hown : s.vm.findClass "FindLog" = some m.cls := findClass_of_methodNamed B.named
  have hlocks := B.notSynchronized
  have hS : va_S (fun _ => False) s.heap s.heap [] := va_S.rf
  have hl := lv_entry ([.ref xx, .int x, .int y]) (n := 4) (Nat.le_of_ble_eq_true rfl)
  rw [lg_entry_eq]
  generalize (lg_sl ([.ref xx, .int x, .int y]) ++ List.replicate (4 - (lg_sl ([.ref xx, .int x, .int y])).length) Slot.unset).toArray = ls at hl ⊢
  have hl : lv_has ls 4 [(0, .ref xx), (1, .int x), (2, .int y)] := hl
  refine lv_aload_n hx hb dX4_poke_0 rfl (lv_at hl 0 rfl) ?_
  exact vx_callv (vx_runV (As := []) (rest := []) ⟨hx, hb, hml, hown, hg⟩ (t_X4_rwc l hst D kI xx pb lb hL ra hhU hhO bg nx ak ab tn bd sn) (cwV 0 hg (gw_V k_488 k_490 k_6 k_22 k_491) rfl rfl rfl (by decide +kernel) ⟨Nat.le_of_ble_eq_true rfl, Nat.le_of_ble_eq_true rfl⟩) ⟨pz_blind, va_recv hK hP (ci := 4) (q0 := 0) rfl rfl, pz_pre (hP.sub (ws' := [(xx, .inr (4, [.ref pb, .ref lb, .ref hL, .ref ra, .ref hhU, .ref hhO, .int (nI bg), .int (nI nx), .int (nI ak), .int (nI ab), .int (nI tn), .int bd, .long sn, .int (nI 0)]))]) [0] rfl) (hK.sub (tys' := [(kI, .int)]) [0] rfl) hN hZ hS⟩ rfl rfl hl.1 rfl (lv_room (Nat.le_of_ble_eq_true rfl)) dX4_poke_1 ⟨Nat.le_of_ble_eq_true rfl, Nat.le_of_ble_eq_true rfl⟩) hS (fun _ _ h => h.elim) (fun _ h => h.elim) (fun _ _ h => h.elim) (fun E9 ce q9 u9 t9 H1 locs1 ht hvm hp hE hz hk hS hce hcv hcl => xt_pass hE htab hlocks hce hcv hcl hS (Nat.le_of_ble_eq_true rfl) (Nat.le_of_ble_eq_true rfl)) (fun u9 t9 H1 locs1 ht hvm hp => hp.elim)
set_option maxHeartbeats 4000000 in
set_option maxRecDepth 100000 in
theorem t_X4_reopen_cut (l : Launch) (hst : l.stackTraces = false) (D : va_G) (kI : ClassId) (xx pb lb hL ra hhU hhO : Nat) (bg nx ak ab tn : Nat) (bd : Int32) (sn : Int64) (pr pn : Nat) (pf : Nat → Int32) (lr ln : Nat) (lg : Nat → Int32) (daL caL yaL : Nat) (fdL fcL fyL : Nat → Int32) (x0 x1 x2 : Int32) (x3 : Int64) (hfU huU daU caU yaU : Nat) (ggU fiU faU whU : Nat) (slU : Int64) (uuU : Nat → Nat) (fdU fcU fyU : Nat → Int32) (hfO huO daO caO yaO : Nat) (ggO fiO faO whO : Nat) (slO : Int64) (uuO : Nat → Nat) (fdO fcO fyO : Nat → Int32)  : vx_Met l yX4_reopen (.code yX4_reopen bX4_reopen 2 (some .int) :: GW) (rmL 6 1 6) (va_Pc [.ref xx] (pz_P D [(xx, .inr (4, [.ref pb, .ref lb, .ref hL, .ref ra, .ref hhU, .ref hhO, .int (nI bg), .int (nI nx), .int (nI ak), .int (nI ab), .int (nI tn), .int bd, .long sn, .int (nI 0)])), (pb, .inr (0, [.ref pr, .int (nI pn)])), (pr, .inl (kI, 24, .inl pf)), (lb, .inr (0, [.ref lr, .int (nI ln)])), (lr, .inl (kI, 2432, .inl lg)), (hL, .inr (1, [.ref daL, .ref caL, .ref yaL])), (daL, .inl (kI, 32, .inl fdL)), (caL, .inl (kI, 32, .inl fcL)), (yaL, .inl (kI, 768, .inl fyL)), (ra, .inr (3, [.int x0, .int x1, .int x2, .long x3])), (hhU, .inr (2, [.ref hfU, .ref huU, .int (nI ggU), .int (nI fiU), .int (nI faU), .long slU, .int (nI whU)])), (huU, .inl (kI, 4, .inl (fun j => nI (uuU j)))), (hfU, .inr (1, [.ref daU, .ref caU, .ref yaU])), (daU, .inl (kI, 32, .inl fdU)), (caU, .inl (kI, 32, .inl fcU)), (yaU, .inl (kI, 768, .inl fyU)), (hhO, .inr (2, [.ref hfO, .ref huO, .int (nI ggO), .int (nI fiO), .int (nI faO), .long slO, .int (nI whO)])), (huO, .inl (kI, 4, .inl (fun j => nI (uuO j)))), (hfO, .inr (1, [.ref daO, .ref caO, .ref yaO])), (daO, .inl (kI, 32, .inl fdO)), (caO, .inl (kI, 32, .inl fcO)), (yaO, .inl (kI, 768, .inl fyO))] [(kI, .int)])) xt_Qi (xt_X tI) 1 6 (fun _ => False) := by
  refine vx_ofW (cc := bX4_reopen) (maxL := 2) (ret := (some .int)) (by decide) rfl ?_
  intro p e s m args below meth c s₁ B hml htab hv
  obtain ⟨rfl, ⟨hP, hK, hN⟩, hZ⟩ := hv
  have hx := B.exec
  have hb := B.bytes
  have hr := B.returns
  have hg : ∀ w ∈ GW, w.before _ s = true := fun w h => atoms_spec (ws := Cond.code yX4_reopen bX4_reopen 2 (some .int) :: GW) B.pre w (List.mem_cons_of_mem _ h)
  have hown : s.vm.findClass "FindLog" = some m.cls := findClass_of_methodNamed B.named
  have hlocks := B.notSynchronized
  have hS : va_S (fun _ => False) s.heap s.heap [] := va_S.rf
  have hl := lv_entry ([.ref xx]) (n := 2) (Nat.le_of_ble_eq_true rfl)
  rw [lg_entry_eq]
  generalize (lg_sl ([.ref xx]) ++ List.replicate (2 - (lg_sl ([.ref xx])).length) Slot.unset).toArray = ls at hl ⊢
  have hl : lv_has ls 2 [(0, .ref xx)] := hl
  refine lv_aload_n hx hb dX4_reopen_0 rfl (lv_at hl 0 rfl) ?_
  exact vx_callv (vx_runV (As := []) (rest := []) ⟨hx, hb, hml, hown, hg⟩ (t_X4_rwc l hst D kI xx pb lb hL ra hhU hhO bg nx ak ab tn bd sn) (cwV 0 hg (gw_V k_488 k_490 k_6 k_22 k_491) rfl rfl rfl (by decide +kernel) ⟨Nat.le_of_ble_eq_true rfl, Nat.le_of_ble_eq_true rfl⟩) ⟨pz_blind, va_recv hK hP (ci := 4) (q0 := 0) rfl rfl, pz_pre (hP.sub (ws' := [(xx, .inr (4, [.ref pb, .ref lb, .ref hL, .ref ra, .ref hhU, .ref hhO, .int (nI bg), .int (nI nx), .int (nI ak), .int (nI ab), .int (nI tn), .int bd, .long sn, .int (nI 0)]))]) [0] rfl) (hK.sub (tys' := [(kI, .int)]) [0] rfl) hN hZ hS⟩ rfl rfl hl.1 rfl (lv_room (Nat.le_of_ble_eq_true rfl)) dX4_reopen_1 ⟨Nat.le_of_ble_eq_true rfl, Nat.le_of_ble_eq_true rfl⟩) hS (fun _ _ h => h.elim) (fun _ h => h.elim) (fun _ _ h => h.elim) (fun E9 ce q9 u9 t9 H1 locs1 ht hvm hp hE hz hk hS hce hcv hcl => xt_pass hE htab hlocks hce hcv hcl hS (Nat.le_of_ble_eq_true rfl) (Nat.le_of_ble_eq_true rfl)) (fun u9 t9 H1 locs1 ht hvm hp => hp.elim)
set_option maxHeartbeats 4000000 in
set_option maxRecDepth 100000 in
theorem t_X4_feed_A (l : Launch) (hst : l.stackTraces = false) (D : va_G) (kI : ClassId) (xx pb lb hL ra hhU hhO : Nat) (bg nx ak ab tn : Nat) (bd : Int32) (sn : Int64) (pr pn : Nat) (pf : Nat → Int32) (lr ln : Nat) (lg : Nat → Int32) (daL caL yaL : Nat) (fdL fcL fyL : Nat → Int32) (x0 x1 x2 : Int32) (x3 : Int64) (hfU huU daU caU yaU : Nat) (ggU fiU faU whU : Nat) (slU : Int64) (uuU : Nat → Nat) (fdU fcU fyU : Nat → Int32) (hfO huO daO caO yaO : Nat) (ggO fiO faO whO : Nat) (slO : Int64) (uuO : Nat → Nat) (fdO fcO fyO : Nat → Int32) (x : Int32) (hx0 : x < 0 ∨ nI 255 < x) : vx_Met l yX4_feed (.code yX4_feed bX4_feed 2 (some .int) :: GW) (rmL 6 1 6) (va_Pc [.ref xx, .int x] (pz_P D [(xx, .inr (4, [.ref pb, .ref lb, .ref hL, .ref ra, .ref hhU, .ref hhO, .int (nI bg), .int (nI nx), .int (nI ak), .int (nI ab), .int (nI tn), .int bd, .long sn, .int (nI 0)])), (pb, .inr (0, [.ref pr, .int (nI pn)])), (pr, .inl (kI, 24, .inl pf)), (lb, .inr (0, [.ref lr, .int (nI ln)])), (lr, .inl (kI, 2432, .inl lg)), (hL, .inr (1, [.ref daL, .ref caL, .ref yaL])), (daL, .inl (kI, 32, .inl fdL)), (caL, .inl (kI, 32, .inl fcL)), (yaL, .inl (kI, 768, .inl fyL)), (ra, .inr (3, [.int x0, .int x1, .int x2, .long x3])), (hhU, .inr (2, [.ref hfU, .ref huU, .int (nI ggU), .int (nI fiU), .int (nI faU), .long slU, .int (nI whU)])), (huU, .inl (kI, 4, .inl (fun j => nI (uuU j)))), (hfU, .inr (1, [.ref daU, .ref caU, .ref yaU])), (daU, .inl (kI, 32, .inl fdU)), (caU, .inl (kI, 32, .inl fcU)), (yaU, .inl (kI, 768, .inl fyU)), (hhO, .inr (2, [.ref hfO, .ref huO, .int (nI ggO), .int (nI fiO), .int (nI faO), .long slO, .int (nI whO)])), (huO, .inl (kI, 4, .inl (fun j => nI (uuO j)))), (hfO, .inr (1, [.ref daO, .ref caO, .ref yaO])), (daO, .inl (kI, 32, .inl fdO)), (caO, .inl (kI, 32, .inl fcO)), (yaO, .inl (kI, 768, .inl fyO))] [(kI, .int)])) xt_Qi (xt_X tA) 1 6 (fun _ => False) := by
  refine vx_ofW (cc := bX4_feed) (maxL := 2) (ret := (some .int)) (by decide) rfl ?_
  intro p e s m args below meth c s₁ B hml htab hv
  obtain ⟨rfl, ⟨hP, hK, hN⟩, hZ⟩ := hv
  have hx := B.exec
  have hb := B.bytes
  have hr := B.returns
  have hg : ∀ w ∈ GW, w.before _ s = true := fun w h => atoms_spec (ws := Cond.code yX4_feed bX4_feed 2 (some .int) :: GW) B.pre w (List.mem_cons_of_mem _ h)
  have hown : s.vm.findClass "FindLog" = some m.cls := findClass_of_methodNamed B.named
  have hlocks := B.notSynchronized
  have hS : va_S (fun _ => False) s.heap s.heap [] := va_S.rf
  have hl := lv_entry ([.ref xx, .int x]) (n := 2) (Nat.le_of_ble_eq_true rfl)
  rw [lg_entry_eq]
  generalize (lg_sl ([.ref xx, .int x]) ++ List.replicate (2 - (lg_sl ([.ref xx, .int x])).length) Slot.unset).toArray = ls at hl ⊢
  have hl : lv_has ls 2 [(0, .ref xx), (1, .int x)] := hl
  refine lv_aload_n hx hb dX4_feed_0 rfl (lv_at hl 0 rfl) ?_
  refine pw_callv (va_runV (As := []) (rest := []) ⟨hx, hb, hml, hown, hg⟩ (c_X4_rbc l D kI xx pb lb hL ra hhU hhO bg nx ak ab tn bd sn) (cwV 0 hg (gw_V k_189 k_191 k_0 k_22 k_192) rfl rfl rfl (by decide +kernel) ⟨Nat.le_of_ble_eq_true rfl, Nat.le_of_ble_eq_true rfl⟩) ⟨pw_blind, va_recv hK hP (ci := 4) (q0 := 0) rfl rfl, pw_pre (hP.sub (ws' := [(xx, .inr (4, [.ref pb, .ref lb, .ref hL, .ref ra, .ref hhU, .ref hhO, .int (nI bg), .int (nI nx), .int (nI ak), .int (nI ab), .int (nI tn), .int bd, .long sn, .int (nI 0)]))]) [0] rfl) (hK.sub (tys' := [(kI, .int)]) [0] rfl) hN⟩ rfl rfl hl.1 rfl (lv_room (Nat.le_of_ble_eq_true rfl)) dX4_feed_1 ⟨Nat.le_of_ble_eq_true rfl, Nat.le_of_ble_eq_true rfl⟩) hS hP (fun H locs hP hS => ?_)
  refine lv_iload_n hx hb dX4_feed_4 rfl (lv_at hl 1 rfl) ?_
  refine lv_if_lt (tgt := 15) hx hb dX4_feed_5 (by decide) (fun c_5 => ?_) (fun c_5 => ?_)
  · exact xt_new hx hb hst hg hown (by decide +kernel) k_261 k_32 hN.2.2.2.2.1 at_A bt_A hN.2.1.2.1 hN ot_A hZ hS (hl.1.trans hml.symm) dX4_feed_15 dX4_feed_18 dX4_feed_19 dX4_feed_21 dX4_feed_24 htab (Nat.le_of_ble_eq_true rfl) (Nat.le_of_ble_eq_true rfl) (Nat.le_of_ble_eq_true rfl) (Nat.le_of_ble_eq_true rfl) hlocks (Nat.le_of_ble_eq_true rfl) (Nat.le_of_ble_eq_true rfl)
  · refine lv_iload_n hx hb dX4_feed_8 rfl (lv_at hl 1 rfl) ?_
    refine lv_sipush (v := nI 255) hx hb dX4_feed_9 (by decide) ?_
    refine lv_icmp_le (tgt := 25) hx hb dX4_feed_12 (by decide) (fun c_12 => absurd c_12 (fun h9 => (Int32.not_le.mpr (hx0.resolve_left c_5)) h9)) (fun c_12 => ?_)
    exact xt_new hx hb hst hg hown (by decide +kernel) k_261 k_32 hN.2.2.2.2.1 at_A bt_A hN.2.1.2.1 hN ot_A hZ hS (hl.1.trans hml.symm) dX4_feed_15 dX4_feed_18 dX4_feed_19 dX4_feed_21 dX4_feed_24 htab (Nat.le_of_ble_eq_true rfl) (Nat.le_of_ble_eq_true rfl) (Nat.le_of_ble_eq_true rfl) (Nat.le_of_ble_eq_true rfl) hlocks (Nat.le_of_ble_eq_true rfl) (Nat.le_of_ble_eq_true rfl)
set_option maxHeartbeats 4000000 in
set_option maxRecDepth 100000 in
theorem t_X4_feed_I (l : Launch) (hst : l.stackTraces = false) (D : va_G) (kI : ClassId) (xx pb lb hL ra hhU hhO : Nat) (bg nx ak ab tn : Nat) (bd : Int32) (sn : Int64) (pr pn : Nat) (pf : Nat → Int32) (lr ln : Nat) (lg : Nat → Int32) (daL caL yaL : Nat) (fdL fcL fyL : Nat → Int32) (x0 x1 x2 : Int32) (x3 : Int64) (hfU huU daU caU yaU : Nat) (ggU fiU faU whU : Nat) (slU : Int64) (uuU : Nat → Nat) (fdU fcU fyU : Nat → Int32) (hfO huO daO caO yaO : Nat) (ggO fiO faO whO : Nat) (slO : Int64) (uuO : Nat → Nat) (fdO fcO fyO : Nat → Int32) (b : Nat) (hb0 : b < 256) (hp : 24 ≤ pn) (hp2 : pn < 2 ^ 31) : vx_Met l yX4_feed (.code yX4_feed bX4_feed 2 (some .int) :: GW) (rmL 6 1 6) (va_Pc [.ref xx, .int (nI b)] (pz_P D [(xx, .inr (4, [.ref pb, .ref lb, .ref hL, .ref ra, .ref hhU, .ref hhO, .int (nI bg), .int (nI nx), .int (nI ak), .int (nI ab), .int (nI tn), .int bd, .long sn, .int (nI 0)])), (pb, .inr (0, [.ref pr, .int (nI pn)])), (pr, .inl (kI, 24, .inl pf)), (lb, .inr (0, [.ref lr, .int (nI ln)])), (lr, .inl (kI, 2432, .inl lg)), (hL, .inr (1, [.ref daL, .ref caL, .ref yaL])), (daL, .inl (kI, 32, .inl fdL)), (caL, .inl (kI, 32, .inl fcL)), (yaL, .inl (kI, 768, .inl fyL)), (ra, .inr (3, [.int x0, .int x1, .int x2, .long x3])), (hhU, .inr (2, [.ref hfU, .ref huU, .int (nI ggU), .int (nI fiU), .int (nI faU), .long slU, .int (nI whU)])), (huU, .inl (kI, 4, .inl (fun j => nI (uuU j)))), (hfU, .inr (1, [.ref daU, .ref caU, .ref yaU])), (daU, .inl (kI, 32, .inl fdU)), (caU, .inl (kI, 32, .inl fcU)), (yaU, .inl (kI, 768, .inl fyU)), (hhO, .inr (2, [.ref hfO, .ref huO, .int (nI ggO), .int (nI fiO), .int (nI faO), .long slO, .int (nI whO)])), (huO, .inl (kI, 4, .inl (fun j => nI (uuO j)))), (hfO, .inr (1, [.ref daO, .ref caO, .ref yaO])), (daO, .inl (kI, 32, .inl fdO)), (caO, .inl (kI, 32, .inl fcO)), (yaO, .inl (kI, 768, .inl fyO))] [(kI, .int)])) xt_Qi (xt_X tI) 1 6 (fun _ => False) := by
  refine vx_ofW (cc := bX4_feed) (maxL := 2) (ret := (some .int)) (by decide) rfl ?_
  intro p e s m args below meth c s₁ B hml htab hv
  obtain ⟨rfl, ⟨hP, hK, hN⟩, hZ⟩ := hv
  have hx := B.exec
  have hb := B.bytes
  have hr := B.returns
  have hg : ∀ w ∈ GW, w.before _ s = true := fun w h => atoms_spec (ws := Cond.code yX4_feed bX4_feed 2 (some .int) :: GW) B.pre w (List.mem_cons_of_mem _ h)
  have hown : s.vm.findClass "FindLog" = some m.cls := findClass_of_methodNamed B.named
  have hlocks := B.notSynchronized
  have hS : va_S (fun _ => False) s.heap s.heap [] := va_S.rf
  have hl := lv_entry ([.ref xx, .int (nI b)]) (n := 2) (Nat.le_of_ble_eq_true rfl)
  rw [lg_entry_eq]
  generalize (lg_sl ([.ref xx, .int (nI b)]) ++ List.replicate (2 - (lg_sl ([.ref xx, .int (nI b)])).length) Slot.unset).toArray = ls at hl ⊢
  have hl : lv_has ls 2 [(0, .ref xx), (1, .int (nI b))] := hl
  refine lv_aload_n hx hb dX4_feed_0 rfl (lv_at hl 0 rfl) ?_
  refine pw_callv (va_runV (As := []) (rest := []) ⟨hx, hb, hml, hown, hg⟩ (c_X4_rbc l D kI xx pb lb hL ra hhU hhO bg nx ak ab tn bd sn) (cwV 0 hg (gw_V k_189 k_191 k_0 k_22 k_192) rfl rfl rfl (by decide +kernel) ⟨Nat.le_of_ble_eq_true rfl, Nat.le_of_ble_eq_true rfl⟩) ⟨pw_blind, va_recv hK hP (ci := 4) (q0 := 0) rfl rfl, pw_pre (hP.sub (ws' := [(xx, .inr (4, [.ref pb, .ref lb, .ref hL, .ref ra, .ref hhU, .ref hhO, .int (nI bg), .int (nI nx), .int (nI ak), .int (nI ab), .int (nI tn), .int bd, .long sn, .int (nI 0)]))]) [0] rfl) (hK.sub (tys' := [(kI, .int)]) [0] rfl) hN⟩ rfl rfl hl.1 rfl (lv_room (Nat.le_of_ble_eq_true rfl)) dX4_feed_1 ⟨Nat.le_of_ble_eq_true rfl, Nat.le_of_ble_eq_true rfl⟩) hS hP (fun H locs hP hS => ?_)
  refine lv_iload_n hx hb dX4_feed_4 rfl (lv_at hl 1 rfl) ?_
  refine lv_if_ltN (tgt := 15) hx hb (by omega) dX4_feed_5 (by decide) (fun c_5 => absurd c_5 id) (fun c_5 => ?_)
  refine lv_iload_n hx hb dX4_feed_8 rfl (lv_at hl 1 rfl) ?_
  refine lv_sipush (v := nI 255) hx hb dX4_feed_9 (by decide) ?_
  refine lv_icmp_leN (tgt := 25) hx hb (by omega) (by omega) dX4_feed_12 (by decide) (fun c_12 => ?_) (fun c_12 => absurd c_12 (by omega))
  refine lv_aload_n hx hb dX4_feed_25 rfl (lv_at hl 0 rfl) ?_
  refine va_get (D := D) (ci := 4) (v := .ref pb) (C := "FindLog") (T := TX4) (N := 14) hx hb hg inX4 hown hK hP 0 rfl rfl 0 (by decide) (hg _ k_133) (fun _ h9 => h9) rfl dX4_feed_26 ?_
  refine pw_calli (va_runV (As := []) (rest := []) ⟨hx, hb, hml, hown, hg⟩ (c_X0_size l D pb pr kI 24 pn pf) (cwV 0 hg (gw_V k_277 k_278 k_279 k_23 k_280) rfl rfl rfl (by decide +kernel) ⟨Nat.le_of_ble_eq_true rfl, Nat.le_of_ble_eq_true rfl⟩) ⟨pw_blind, va_recv hK hP (ci := 0) (q0 := 1) rfl rfl, pw_pre (hP.sub (ws' := [(pb, .inr (0, [.ref pr, .int (nI pn)])), (pr, .inl (kI, 24, .inl pf))]) [1, 2] rfl) (hK.sub (tys' := [(kI, .int)]) [0] rfl) hN⟩ rfl rfl hl.1 rfl (lv_room (Nat.le_of_ble_eq_true rfl)) dX4_feed_29 ⟨Nat.le_of_ble_eq_true rfl, Nat.le_of_ble_eq_true rfl⟩) hS hP (fun H locs hP hS => ?_)
  refine lv_bipush (v := nI 24) hx hb dX4_feed_32 (by decide) ?_
  refine lv_icmp_ltN (tgt := 47) hx hb (by omega) (by omega) dX4_feed_34 (by decide) (fun c_34 => absurd c_34 (by omega)) (fun c_34 => ?_)
  exact xt_new hx hb hst hg hown (by decide +kernel) k_193 k_31 hN.2.2.2.2.2.1 at_I bt_I hN.2.1.1 hN ot_I hZ hS (hl.1.trans hml.symm) dX4_feed_37 dX4_feed_40 dX4_feed_41 dX4_feed_43 dX4_feed_46 htab (Nat.le_of_ble_eq_true rfl) (Nat.le_of_ble_eq_true rfl) (Nat.le_of_ble_eq_true rfl) (Nat.le_of_ble_eq_true rfl) hlocks (Nat.le_of_ble_eq_true rfl) (Nat.le_of_ble_eq_true rfl)
set_option maxHeartbeats 4000000 in
set_option maxRecDepth 100000 in
theorem t_X4_act_X (l : Launch) (hst : l.stackTraces = false) (D : va_G) (kI : ClassId) (xx pb lb hL ra hhU hhO : Nat) (bg nx ak ab tn : Nat) (bd : Int32) (sn : Int64) (pr pn : Nat) (pf : Nat → Int32) (lr ln : Nat) (lg : Nat → Int32) (daL caL yaL : Nat) (fdL fcL fyL : Nat → Int32) (x0 x1 x2 : Int32) (x3 : Int64) (hfU huU daU caU yaU : Nat) (ggU fiU faU whU : Nat) (slU : Int64) (uuU : Nat → Nat) (fdU fcU fyU : Nat → Int32) (hfO huO daO caO yaO : Nat) (ggO fiO faO whO : Nat) (slO : Int64) (uuO : Nat → Nat) (fdO fcO fyO : Nat → Int32) (x y : Int32) (hx0 : x < 0 ∨ nI 32 ≤ x) : vx_Met l yX4_act (.code yX4_act bX4_act 4 (some .int) :: GW) (rmL 6 1 6) (va_Pc [.ref xx, .int x, .int y] (pz_P D [(xx, .inr (4, [.ref pb, .ref lb, .ref hL, .ref ra, .ref hhU, .ref hhO, .int (nI bg), .int (nI nx), .int (nI ak), .int (nI ab), .int (nI tn), .int bd, .long sn, .int (nI 0)])), (pb, .inr (0, [.ref pr, .int (nI pn)])), (pr, .inl (kI, 24, .inl pf)), (lb, .inr (0, [.ref lr, .int (nI ln)])), (lr, .inl (kI, 2432, .inl lg)), (hL, .inr (1, [.ref daL, .ref caL, .ref yaL])), (daL, .inl (kI, 32, .inl fdL)), (caL, .inl (kI, 32, .inl fcL)), (yaL, .inl (kI, 768, .inl fyL)), (ra, .inr (3, [.int x0, .int x1, .int x2, .long x3])), (hhU, .inr (2, [.ref hfU, .ref huU, .int (nI ggU), .int (nI fiU), .int (nI faU), .long slU, .int (nI whU)])), (huU, .inl (kI, 4, .inl (fun j => nI (uuU j)))), (hfU, .inr (1, [.ref daU, .ref caU, .ref yaU])), (daU, .inl (kI, 32, .inl fdU)), (caU, .inl (kI, 32, .inl fcU)), (yaU, .inl (kI, 768, .inl fyU)), (hhO, .inr (2, [.ref hfO, .ref huO, .int (nI ggO), .int (nI fiO), .int (nI faO), .long slO, .int (nI whO)])), (huO, .inl (kI, 4, .inl (fun j => nI (uuO j)))), (hfO, .inr (1, [.ref daO, .ref caO, .ref yaO])), (daO, .inl (kI, 32, .inl fdO)), (caO, .inl (kI, 32, .inl fcO)), (yaO, .inl (kI, 768, .inl fyO))] [(kI, .int)])) xt_Qi (xt_X tX) 1 6 (fun _ => False) := by
  refine vx_ofW (cc := bX4_act) (maxL := 4) (ret := (some .int)) (by decide) rfl ?_
  intro p e s m args below meth c s₁ B hml htab hv
  obtain ⟨rfl, ⟨hP, hK, hN⟩, hZ⟩ := hv
  have hx := B.exec
  have hb := B.bytes
  have hr := B.returns
  have hg : ∀ w ∈ GW, w.before _ s = true := fun w h => atoms_spec (ws := Cond.code yX4_act bX4_act 4 (some .int) :: GW) B.pre w (List.mem_cons_of_mem _ h)
  have hown : s.vm.findClass "FindLog" = some m.cls := findClass_of_methodNamed B.named
  have hlocks := B.notSynchronized
  have hS : va_S (fun _ => False) s.heap s.heap [] := va_S.rf
  have hl := lv_entry ([.ref xx, .int x, .int y]) (n := 4) (Nat.le_of_ble_eq_true rfl)
  rw [lg_entry_eq]
  generalize (lg_sl ([.ref xx, .int x, .int y]) ++ List.replicate (4 - (lg_sl ([.ref xx, .int x, .int y])).length) Slot.unset).toArray = ls at hl ⊢
  have hl : lv_has ls 4 [(0, .ref xx), (1, .int x), (2, .int y)] := hl
  refine lv_aload_n hx hb dX4_act_0 rfl (lv_at hl 0 rfl) ?_
  refine pw_callv (va_runV (As := []) (rest := []) ⟨hx, hb, hml, hown, hg⟩ (c_X4_rbc l D kI xx pb lb hL ra hhU hhO bg nx ak ab tn bd sn) (cwV 0 hg (gw_V k_189 k_191 k_0 k_22 k_192) rfl rfl rfl (by decide +kernel) ⟨Nat.le_of_ble_eq_true rfl, Nat.le_of_ble_eq_true rfl⟩) ⟨pw_blind, va_recv hK hP (ci := 4) (q0 := 0) rfl rfl, pw_pre (hP.sub (ws' := [(xx, .inr (4, [.ref pb, .ref lb, .ref hL, .ref ra, .ref hhU, .ref hhO, .int (nI bg), .int (nI nx), .int (nI ak), .int (nI ab), .int (nI tn), .int bd, .long sn, .int (nI 0)]))]) [0] rfl) (hK.sub (tys' := [(kI, .int)]) [0] rfl) hN⟩ rfl rfl hl.1 rfl (lv_room (Nat.le_of_ble_eq_true rfl)) dX4_act_1 ⟨Nat.le_of_ble_eq_true rfl, Nat.le_of_ble_eq_true rfl⟩) hS hP (fun H locs hP hS => ?_)
  refine lv_iload_n hx hb dX4_act_4 rfl (lv_at hl 1 rfl) ?_
  exact vx_callv (vx_runS (As := [.int x]) (rest := []) ⟨hx, hb, hml, hown, hg⟩ (t_X4_rnt l hst D kI x hx0) (va_cwS 1 hg (gw_S k_294 k_295 k_22 k_296) rfl rfl rfl (by decide +kernel) ⟨Nat.le_of_ble_eq_true rfl, Nat.le_of_ble_eq_true rfl⟩) ⟨pz_blind, pz_pre (hP.sub (ws' := []) [] rfl) (hK.sub (tys' := [(kI, .int)]) [0] rfl) hN hZ hS⟩ rfl rfl hl.1 rfl (lv_room (Nat.le_of_ble_eq_true rfl)) dX4_act_5 ⟨Nat.le_of_ble_eq_true rfl, Nat.le_of_ble_eq_true rfl⟩) hS (fun _ _ h => h.elim) (fun _ h => h.elim) (fun _ _ h => h.elim) (fun E9 ce q9 u9 t9 H1 locs1 ht hvm hp hE hz hk hS hce hcv hcl => xt_pass hE htab hlocks hce hcv hcl hS (Nat.le_of_ble_eq_true rfl) (Nat.le_of_ble_eq_true rfl)) (fun u9 t9 H1 locs1 ht hvm hp => hp.elim)
set_option maxHeartbeats 4000000 in
set_option maxRecDepth 100000 in
theorem t_X4_act_A (l : Launch) (hst : l.stackTraces = false) (D : va_G) (kI : ClassId) (xx pb lb hL ra hhU hhO : Nat) (bg nx ak ab tn : Nat) (bd : Int32) (sn : Int64) (pr pn : Nat) (pf : Nat → Int32) (lr ln : Nat) (lg : Nat → Int32) (daL caL yaL : Nat) (fdL fcL fyL : Nat → Int32) (x0 x1 x2 : Int32) (x3 : Int64) (hfU huU daU caU yaU : Nat) (ggU fiU faU whU : Nat) (slU : Int64) (uuU : Nat → Nat) (fdU fcU fyU : Nat → Int32) (hfO huO daO caO yaO : Nat) (ggO fiO faO whO : Nat) (slO : Int64) (uuO : Nat → Nat) (fdO fcO fyO : Nat → Int32) (th : Nat) (ht : th < 32) (y : Int32) (hy : y < 0 ∨ nI 36500 < y) : vx_Met l yX4_act (.code yX4_act bX4_act 4 (some .int) :: GW) (rmL 6 1 6) (va_Pc [.ref xx, .int (nI th), .int y] (pz_P D [(xx, .inr (4, [.ref pb, .ref lb, .ref hL, .ref ra, .ref hhU, .ref hhO, .int (nI bg), .int (nI nx), .int (nI ak), .int (nI ab), .int (nI tn), .int bd, .long sn, .int (nI 0)])), (pb, .inr (0, [.ref pr, .int (nI pn)])), (pr, .inl (kI, 24, .inl pf)), (lb, .inr (0, [.ref lr, .int (nI ln)])), (lr, .inl (kI, 2432, .inl lg)), (hL, .inr (1, [.ref daL, .ref caL, .ref yaL])), (daL, .inl (kI, 32, .inl fdL)), (caL, .inl (kI, 32, .inl fcL)), (yaL, .inl (kI, 768, .inl fyL)), (ra, .inr (3, [.int x0, .int x1, .int x2, .long x3])), (hhU, .inr (2, [.ref hfU, .ref huU, .int (nI ggU), .int (nI fiU), .int (nI faU), .long slU, .int (nI whU)])), (huU, .inl (kI, 4, .inl (fun j => nI (uuU j)))), (hfU, .inr (1, [.ref daU, .ref caU, .ref yaU])), (daU, .inl (kI, 32, .inl fdU)), (caU, .inl (kI, 32, .inl fcU)), (yaU, .inl (kI, 768, .inl fyU)), (hhO, .inr (2, [.ref hfO, .ref huO, .int (nI ggO), .int (nI fiO), .int (nI faO), .long slO, .int (nI whO)])), (huO, .inl (kI, 4, .inl (fun j => nI (uuO j)))), (hfO, .inr (1, [.ref daO, .ref caO, .ref yaO])), (daO, .inl (kI, 32, .inl fdO)), (caO, .inl (kI, 32, .inl fcO)), (yaO, .inl (kI, 768, .inl fyO))] [(kI, .int)])) xt_Qi (xt_X tA) 1 6 (fun _ => False) := by
  refine vx_ofW (cc := bX4_act) (maxL := 4) (ret := (some .int)) (by decide) rfl ?_
  intro p e s m args below meth c s₁ B hml htab hv
  obtain ⟨rfl, ⟨hP, hK, hN⟩, hZ⟩ := hv
  have hx := B.exec
  have hb := B.bytes
  have hr := B.returns
  have hg : ∀ w ∈ GW, w.before _ s = true := fun w h => atoms_spec (ws := Cond.code yX4_act bX4_act 4 (some .int) :: GW) B.pre w (List.mem_cons_of_mem _ h)
  have hown : s.vm.findClass "FindLog" = some m.cls := findClass_of_methodNamed B.named
  have hlocks := B.notSynchronized
  have hS : va_S (fun _ => False) s.heap s.heap [] := va_S.rf
  have hl := lv_entry ([.ref xx, .int (nI th), .int y]) (n := 4) (Nat.le_of_ble_eq_true rfl)
  rw [lg_entry_eq]
  generalize (lg_sl ([.ref xx, .int (nI th), .int y]) ++ List.replicate (4 - (lg_sl ([.ref xx, .int (nI th), .int y])).length) Slot.unset).toArray = ls at hl ⊢
  have hl : lv_has ls 4 [(0, .ref xx), (1, .int (nI th)), (2, .int y)] := hl
  refine lv_aload_n hx hb dX4_act_0 rfl (lv_at hl 0 rfl) ?_
  refine pw_callv (va_runV (As := []) (rest := []) ⟨hx, hb, hml, hown, hg⟩ (c_X4_rbc l D kI xx pb lb hL ra hhU hhO bg nx ak ab tn bd sn) (cwV 0 hg (gw_V k_189 k_191 k_0 k_22 k_192) rfl rfl rfl (by decide +kernel) ⟨Nat.le_of_ble_eq_true rfl, Nat.le_of_ble_eq_true rfl⟩) ⟨pw_blind, va_recv hK hP (ci := 4) (q0 := 0) rfl rfl, pw_pre (hP.sub (ws' := [(xx, .inr (4, [.ref pb, .ref lb, .ref hL, .ref ra, .ref hhU, .ref hhO, .int (nI bg), .int (nI nx), .int (nI ak), .int (nI ab), .int (nI tn), .int bd, .long sn, .int (nI 0)]))]) [0] rfl) (hK.sub (tys' := [(kI, .int)]) [0] rfl) hN⟩ rfl rfl hl.1 rfl (lv_room (Nat.le_of_ble_eq_true rfl)) dX4_act_1 ⟨Nat.le_of_ble_eq_true rfl, Nat.le_of_ble_eq_true rfl⟩) hS hP (fun H locs hP hS => ?_)
  refine lv_iload_n hx hb dX4_act_4 rfl (lv_at hl 1 rfl) ?_
  refine pw_callv (va_runS (As := [.int (nI th)]) (rest := []) ⟨hx, hb, hml, hown, hg⟩ (c_X4_rnt l D kI th ht) (va_cwS 1 hg (gw_S k_294 k_295 k_22 k_296) rfl rfl rfl (by decide +kernel) ⟨Nat.le_of_ble_eq_true rfl, Nat.le_of_ble_eq_true rfl⟩) ⟨pw_blind, pw_pre (hP.sub (ws' := []) [] rfl) (hK.sub (tys' := [(kI, .int)]) [0] rfl) hN⟩ rfl rfl hl.1 rfl (lv_room (Nat.le_of_ble_eq_true rfl)) dX4_act_5 ⟨Nat.le_of_ble_eq_true rfl, Nat.le_of_ble_eq_true rfl⟩) hS hP (fun H locs hP hS => ?_)
  refine lv_iload_n hx hb dX4_act_8 rfl (lv_at hl 2 rfl) ?_
  refine lv_if_lt (tgt := 18) hx hb dX4_act_9 (by decide) (fun c_9 => ?_) (fun c_9 => ?_)
  · exact xt_new hx hb hst hg hown (by decide +kernel) k_261 k_32 hN.2.2.2.2.2.2.2.1 at_A bt_A hN.2.1.2.1 hN ot_A hZ hS (hl.1.trans hml.symm) dX4_act_18 dX4_act_21 dX4_act_22 dX4_act_24 dX4_act_27 htab (Nat.le_of_ble_eq_true rfl) (Nat.le_of_ble_eq_true rfl) (Nat.le_of_ble_eq_true rfl) (Nat.le_of_ble_eq_true rfl) hlocks (Nat.le_of_ble_eq_true rfl) (Nat.le_of_ble_eq_true rfl)
  · refine lv_iload_n hx hb dX4_act_12 rfl (lv_at hl 2 rfl) ?_
    refine lv_ldc (v := nI 36500) hx hb hown (hg _ k_313) dX4_act_13 ?_
    refine lv_icmp_le (tgt := 28) hx hb dX4_act_15 (by decide) (fun c_15 => absurd c_15 (fun h9 => (Int32.not_le.mpr (hy.resolve_left c_9)) h9)) (fun c_15 => ?_)
    exact xt_new hx hb hst hg hown (by decide +kernel) k_261 k_32 hN.2.2.2.2.2.2.2.1 at_A bt_A hN.2.1.2.1 hN ot_A hZ hS (hl.1.trans hml.symm) dX4_act_18 dX4_act_21 dX4_act_22 dX4_act_24 dX4_act_27 htab (Nat.le_of_ble_eq_true rfl) (Nat.le_of_ble_eq_true rfl) (Nat.le_of_ble_eq_true rfl) (Nat.le_of_ble_eq_true rfl) hlocks (Nat.le_of_ble_eq_true rfl) (Nat.le_of_ble_eq_true rfl)
set_option maxHeartbeats 4000000 in
set_option maxRecDepth 100000 in
theorem t_X4_act_I (l : Launch) (hst : l.stackTraces = false) (D : va_G) (kI : ClassId) (xx pb lb hL ra hhU hhO : Nat) (bg nx ak ab tn : Nat) (bd : Int32) (sn : Int64) (pr pn : Nat) (pf : Nat → Int32) (lr ln : Nat) (lg : Nat → Int32) (daL caL yaL : Nat) (fdL fcL fyL : Nat → Int32) (x0 x1 x2 : Int32) (x3 : Int64) (hfU huU daU caU yaU : Nat) (ggU fiU faU whU : Nat) (slU : Int64) (uuU : Nat → Nat) (fdU fcU fyU : Nat → Int32) (hfO huO daO caO yaO : Nat) (ggO fiO faO whO : Nat) (slO : Int64) (uuO : Nat → Nat) (fdO fcO fyO : Nat → Int32) (th dy : Nat) (ht : th < 32) (hd : dy ≤ 36500) (hb1 : bg ≤ nx) (hb2 : 64 ≤ nx - bg) (hx1 : nx < 2 ^ 30) : vx_Met l yX4_act (.code yX4_act bX4_act 4 (some .int) :: GW) (rmL 6 1 6) (va_Pc [.ref xx, .int (nI th), .int (nI dy)] (pz_P D [(xx, .inr (4, [.ref pb, .ref lb, .ref hL, .ref ra, .ref hhU, .ref hhO, .int (nI bg), .int (nI nx), .int (nI ak), .int (nI ab), .int (nI tn), .int bd, .long sn, .int (nI 0)])), (pb, .inr (0, [.ref pr, .int (nI pn)])), (pr, .inl (kI, 24, .inl pf)), (lb, .inr (0, [.ref lr, .int (nI ln)])), (lr, .inl (kI, 2432, .inl lg)), (hL, .inr (1, [.ref daL, .ref caL, .ref yaL])), (daL, .inl (kI, 32, .inl fdL)), (caL, .inl (kI, 32, .inl fcL)), (yaL, .inl (kI, 768, .inl fyL)), (ra, .inr (3, [.int x0, .int x1, .int x2, .long x3])), (hhU, .inr (2, [.ref hfU, .ref huU, .int (nI ggU), .int (nI fiU), .int (nI faU), .long slU, .int (nI whU)])), (huU, .inl (kI, 4, .inl (fun j => nI (uuU j)))), (hfU, .inr (1, [.ref daU, .ref caU, .ref yaU])), (daU, .inl (kI, 32, .inl fdU)), (caU, .inl (kI, 32, .inl fcU)), (yaU, .inl (kI, 768, .inl fyU)), (hhO, .inr (2, [.ref hfO, .ref huO, .int (nI ggO), .int (nI fiO), .int (nI faO), .long slO, .int (nI whO)])), (huO, .inl (kI, 4, .inl (fun j => nI (uuO j)))), (hfO, .inr (1, [.ref daO, .ref caO, .ref yaO])), (daO, .inl (kI, 32, .inl fdO)), (caO, .inl (kI, 32, .inl fcO)), (yaO, .inl (kI, 768, .inl fyO))] [(kI, .int)])) xt_Qi (xt_X tI) 1 6 (fun _ => False) := by
  refine vx_ofW (cc := bX4_act) (maxL := 4) (ret := (some .int)) (by decide) rfl ?_
  intro p e s m args below meth c s₁ B hml htab hv
  obtain ⟨rfl, ⟨hP, hK, hN⟩, hZ⟩ := hv
  have hx := B.exec
  have hb := B.bytes
  have hr := B.returns
  have hg : ∀ w ∈ GW, w.before _ s = true := fun w h => atoms_spec (ws := Cond.code yX4_act bX4_act 4 (some .int) :: GW) B.pre w (List.mem_cons_of_mem _ h)
  have hown : s.vm.findClass "FindLog" = some m.cls := findClass_of_methodNamed B.named
  have hlocks := B.notSynchronized
  have hS : va_S (fun _ => False) s.heap s.heap [] := va_S.rf
  have hl := lv_entry ([.ref xx, .int (nI th), .int (nI dy)]) (n := 4) (Nat.le_of_ble_eq_true rfl)
  rw [lg_entry_eq]
  generalize (lg_sl ([.ref xx, .int (nI th), .int (nI dy)]) ++ List.replicate (4 - (lg_sl ([.ref xx, .int (nI th), .int (nI dy)])).length) Slot.unset).toArray = ls at hl ⊢
  have hl : lv_has ls 4 [(0, .ref xx), (1, .int (nI th)), (2, .int (nI dy))] := hl
  refine lv_aload_n hx hb dX4_act_0 rfl (lv_at hl 0 rfl) ?_
  refine pw_callv (va_runV (As := []) (rest := []) ⟨hx, hb, hml, hown, hg⟩ (c_X4_rbc l D kI xx pb lb hL ra hhU hhO bg nx ak ab tn bd sn) (cwV 0 hg (gw_V k_189 k_191 k_0 k_22 k_192) rfl rfl rfl (by decide +kernel) ⟨Nat.le_of_ble_eq_true rfl, Nat.le_of_ble_eq_true rfl⟩) ⟨pw_blind, va_recv hK hP (ci := 4) (q0 := 0) rfl rfl, pw_pre (hP.sub (ws' := [(xx, .inr (4, [.ref pb, .ref lb, .ref hL, .ref ra, .ref hhU, .ref hhO, .int (nI bg), .int (nI nx), .int (nI ak), .int (nI ab), .int (nI tn), .int bd, .long sn, .int (nI 0)]))]) [0] rfl) (hK.sub (tys' := [(kI, .int)]) [0] rfl) hN⟩ rfl rfl hl.1 rfl (lv_room (Nat.le_of_ble_eq_true rfl)) dX4_act_1 ⟨Nat.le_of_ble_eq_true rfl, Nat.le_of_ble_eq_true rfl⟩) hS hP (fun H locs hP hS => ?_)
  refine lv_iload_n hx hb dX4_act_4 rfl (lv_at hl 1 rfl) ?_
  refine pw_callv (va_runS (As := [.int (nI th)]) (rest := []) ⟨hx, hb, hml, hown, hg⟩ (c_X4_rnt l D kI th ht) (va_cwS 1 hg (gw_S k_294 k_295 k_22 k_296) rfl rfl rfl (by decide +kernel) ⟨Nat.le_of_ble_eq_true rfl, Nat.le_of_ble_eq_true rfl⟩) ⟨pw_blind, pw_pre (hP.sub (ws' := []) [] rfl) (hK.sub (tys' := [(kI, .int)]) [0] rfl) hN⟩ rfl rfl hl.1 rfl (lv_room (Nat.le_of_ble_eq_true rfl)) dX4_act_5 ⟨Nat.le_of_ble_eq_true rfl, Nat.le_of_ble_eq_true rfl⟩) hS hP (fun H locs hP hS => ?_)
  refine lv_iload_n hx hb dX4_act_8 rfl (lv_at hl 2 rfl) ?_
  refine lv_if_ltN (tgt := 18) hx hb (by omega) dX4_act_9 (by decide) (fun c_9 => absurd c_9 id) (fun c_9 => ?_)
  refine lv_iload_n hx hb dX4_act_12 rfl (lv_at hl 2 rfl) ?_
  refine lv_ldc (v := nI 36500) hx hb hown (hg _ k_313) dX4_act_13 ?_
  refine lv_icmp_leN (tgt := 28) hx hb (by omega) (by omega) dX4_act_15 (by decide) (fun c_15 => ?_) (fun c_15 => absurd c_15 (by omega))
  refine lv_aload_n hx hb dX4_act_28 rfl (lv_at hl 0 rfl) ?_
  refine va_get (D := D) (ci := 4) (v := .int (nI nx)) (C := "FindLog") (T := TX4) (N := 14) hx hb hg inX4 hown hK hP 0 rfl rfl 7 (by decide) (hg _ k_140) (fun _ h9 => h9) rfl dX4_act_29 ?_
  refine lv_aload_n hx hb dX4_act_32 rfl (lv_at hl 0 rfl) ?_
  refine va_get (D := D) (ci := 4) (v := .int (nI bg)) (C := "FindLog") (T := TX4) (N := 14) hx hb hg inX4 hown hK hP 0 rfl rfl 6 (by decide) (hg _ k_139) (fun _ h9 => h9) rfl dX4_act_33 ?_
  refine lv_isubN hx hb (by omega) dX4_act_36 ?_
  refine lv_bipush (v := nI 64) hx hb dX4_act_37 (by decide) ?_
  refine lv_icmp_ltN (tgt := 52) hx hb (by omega) (by omega) dX4_act_39 (by decide) (fun c_39 => absurd c_39 (by omega)) (fun c_39 => ?_)
  exact xt_new hx hb hst hg hown (by decide +kernel) k_193 k_31 hN.2.2.2.2.2.2.2.2.1 at_I bt_I hN.2.1.1 hN ot_I hZ hS (hl.1.trans hml.symm) dX4_act_42 dX4_act_45 dX4_act_46 dX4_act_48 dX4_act_51 htab (Nat.le_of_ble_eq_true rfl) (Nat.le_of_ble_eq_true rfl) (Nat.le_of_ble_eq_true rfl) (Nat.le_of_ble_eq_true rfl) hlocks (Nat.le_of_ble_eq_true rfl) (Nat.le_of_ble_eq_true rfl)
set_option maxHeartbeats 4000000 in
set_option maxRecDepth 100000 in
theorem t_X4_find_X (l : Launch) (hst : l.stackTraces = false) (D : va_G) (kI : ClassId) (xx pb lb hL ra hhU hhO : Nat) (bg nx ak ab tn : Nat) (bd : Int32) (sn : Int64) (pr pn : Nat) (pf : Nat → Int32) (lr ln : Nat) (lg : Nat → Int32) (daL caL yaL : Nat) (fdL fcL fyL : Nat → Int32) (x0 x1 x2 : Int32) (x3 : Int64) (hfU huU daU caU yaU : Nat) (ggU fiU faU whU : Nat) (slU : Int64) (uuU : Nat → Nat) (fdU fcU fyU : Nat → Int32) (hfO huO daO caO yaO : Nat) (ggO fiO faO whO : Nat) (slO : Int64) (uuO : Nat → Nat) (fdO fcO fyO : Nat → Int32) (x y : Int32) (hx0 : x < 0 ∨ nI 32 ≤ x) : vx_Met l yX4_find (.code yX4_find bX4_find 4 (some .int) :: GW) (rmL 6 1 6) (va_Pc [.ref xx, .int x, .int y] (pz_P D [(xx, .inr (4, [.ref pb, .ref lb, .ref hL, .ref ra, .ref hhU, .ref hhO, .int (nI bg), .int (nI nx), .int (nI ak), .int (nI ab), .int (nI tn), .int bd, .long sn, .int (nI 0)])), (pb, .inr (0, [.ref pr, .int (nI pn)])), (pr, .inl (kI, 24, .inl pf)), (lb, .inr (0, [.ref lr, .int (nI ln)])), (lr, .inl (kI, 2432, .inl lg)), (hL, .inr (1, [.ref daL, .ref caL, .ref yaL])), (daL, .inl (kI, 32, .inl fdL)), (caL, .inl (kI, 32, .inl fcL)), (yaL, .inl (kI, 768, .inl fyL)), (ra, .inr (3, [.int x0, .int x1, .int x2, .long x3])), (hhU, .inr (2, [.ref hfU, .ref huU, .int (nI ggU), .int (nI fiU), .int (nI faU), .long slU, .int (nI whU)])), (huU, .inl (kI, 4, .inl (fun j => nI (uuU j)))), (hfU, .inr (1, [.ref daU, .ref caU, .ref yaU])), (daU, .inl (kI, 32, .inl fdU)), (caU, .inl (kI, 32, .inl fcU)), (yaU, .inl (kI, 768, .inl fyU)), (hhO, .inr (2, [.ref hfO, .ref huO, .int (nI ggO), .int (nI fiO), .int (nI faO), .long slO, .int (nI whO)])), (huO, .inl (kI, 4, .inl (fun j => nI (uuO j)))), (hfO, .inr (1, [.ref daO, .ref caO, .ref yaO])), (daO, .inl (kI, 32, .inl fdO)), (caO, .inl (kI, 32, .inl fcO)), (yaO, .inl (kI, 768, .inl fyO))] [(kI, .int)])) xt_Qi (xt_X tX) 1 6 (fun _ => False) := by
  refine vx_ofW (cc := bX4_find) (maxL := 4) (ret := (some .int)) (by decide) rfl ?_
  intro p e s m args below meth c s₁ B hml htab hv
  obtain ⟨rfl, ⟨hP, hK, hN⟩, hZ⟩ := hv
  have hx := B.exec
  have hb := B.bytes
  have hr := B.returns
  have hg : ∀ w ∈ GW, w.before _ s = true := fun w h => atoms_spec (ws := Cond.code yX4_find bX4_find 4 (some .int) :: GW) B.pre w (List.mem_cons_of_mem _ h)
  have hown : s.vm.findClass "FindLog" = some m.cls := findClass_of_methodNamed B.named
  have hlocks := B.notSynchronized
  have hS : va_S (fun _ => False) s.heap s.heap [] := va_S.rf
  have hl := lv_entry ([.ref xx, .int x, .int y]) (n := 4) (Nat.le_of_ble_eq_true rfl)
  rw [lg_entry_eq]
  generalize (lg_sl ([.ref xx, .int x, .int y]) ++ List.replicate (4 - (lg_sl ([.ref xx, .int x, .int y])).length) Slot.unset).toArray = ls at hl ⊢
  have hl : lv_has ls 4 [(0, .ref xx), (1, .int x), (2, .int y)] := hl
  refine lv_aload_n hx hb dX4_find_0 rfl (lv_at hl 0 rfl) ?_
  refine pw_callv (va_runV (As := []) (rest := []) ⟨hx, hb, hml, hown, hg⟩ (c_X4_rbc l D kI xx pb lb hL ra hhU hhO bg nx ak ab tn bd sn) (cwV 0 hg (gw_V k_189 k_191 k_0 k_22 k_192) rfl rfl rfl (by decide +kernel) ⟨Nat.le_of_ble_eq_true rfl, Nat.le_of_ble_eq_true rfl⟩) ⟨pw_blind, va_recv hK hP (ci := 4) (q0 := 0) rfl rfl, pw_pre (hP.sub (ws' := [(xx, .inr (4, [.ref pb, .ref lb, .ref hL, .ref ra, .ref hhU, .ref hhO, .int (nI bg), .int (nI nx), .int (nI ak), .int (nI ab), .int (nI tn), .int bd, .long sn, .int (nI 0)]))]) [0] rfl) (hK.sub (tys' := [(kI, .int)]) [0] rfl) hN⟩ rfl rfl hl.1 rfl (lv_room (Nat.le_of_ble_eq_true rfl)) dX4_find_1 ⟨Nat.le_of_ble_eq_true rfl, Nat.le_of_ble_eq_true rfl⟩) hS hP (fun H locs hP hS => ?_)
  refine lv_iload_n hx hb dX4_find_4 rfl (lv_at hl 1 rfl) ?_
  exact vx_callv (vx_runS (As := [.int x]) (rest := []) ⟨hx, hb, hml, hown, hg⟩ (t_X4_rnt l hst D kI x hx0) (va_cwS 1 hg (gw_S k_294 k_295 k_22 k_296) rfl rfl rfl (by decide +kernel) ⟨Nat.le_of_ble_eq_true rfl, Nat.le_of_ble_eq_true rfl⟩) ⟨pz_blind, pz_pre (hP.sub (ws' := []) [] rfl) (hK.sub (tys' := [(kI, .int)]) [0] rfl) hN hZ hS⟩ rfl rfl hl.1 rfl (lv_room (Nat.le_of_ble_eq_true rfl)) dX4_find_5 ⟨Nat.le_of_ble_eq_true rfl, Nat.le_of_ble_eq_true rfl⟩) hS (fun _ _ h => h.elim) (fun _ h => h.elim) (fun _ _ h => h.elim) (fun E9 ce q9 u9 t9 H1 locs1 ht hvm hp hE hz hk hS hce hcv hcl => xt_pass hE htab hlocks hce hcv hcl hS (Nat.le_of_ble_eq_true rfl) (Nat.le_of_ble_eq_true rfl)) (fun u9 t9 H1 locs1 ht hvm hp => hp.elim)
set_option maxHeartbeats 4000000 in
set_option maxRecDepth 100000 in
theorem t_X4_day_X (l : Launch) (hst : l.stackTraces = false) (D : va_G) (kI : ClassId) (xx pb lb hL ra hhU hhO : Nat) (bg nx ak ab tn : Nat) (bd : Int32) (sn : Int64) (pr pn : Nat) (pf : Nat → Int32) (lr ln : Nat) (lg : Nat → Int32) (daL caL yaL : Nat) (fdL fcL fyL : Nat → Int32) (x0 x1 x2 : Int32) (x3 : Int64) (hfU huU daU caU yaU : Nat) (ggU fiU faU whU : Nat) (slU : Int64) (uuU : Nat → Nat) (fdU fcU fyU : Nat → Int32) (hfO huO daO caO yaO : Nat) (ggO fiO faO whO : Nat) (slO : Int64) (uuO : Nat → Nat) (fdO fcO fyO : Nat → Int32) (x : Int32) (hx0 : x < 0 ∨ nI 32 ≤ x) : vx_Met l yX4_day (.code yX4_day bX4_day 2 (some .int) :: GW) (rmL 6 1 6) (va_Pc [.ref xx, .int x] (pz_P D [(xx, .inr (4, [.ref pb, .ref lb, .ref hL, .ref ra, .ref hhU, .ref hhO, .int (nI bg), .int (nI nx), .int (nI ak), .int (nI ab), .int (nI tn), .int bd, .long sn, .int (nI 0)])), (pb, .inr (0, [.ref pr, .int (nI pn)])), (pr, .inl (kI, 24, .inl pf)), (lb, .inr (0, [.ref lr, .int (nI ln)])), (lr, .inl (kI, 2432, .inl lg)), (hL, .inr (1, [.ref daL, .ref caL, .ref yaL])), (daL, .inl (kI, 32, .inl fdL)), (caL, .inl (kI, 32, .inl fcL)), (yaL, .inl (kI, 768, .inl fyL)), (ra, .inr (3, [.int x0, .int x1, .int x2, .long x3])), (hhU, .inr (2, [.ref hfU, .ref huU, .int (nI ggU), .int (nI fiU), .int (nI faU), .long slU, .int (nI whU)])), (huU, .inl (kI, 4, .inl (fun j => nI (uuU j)))), (hfU, .inr (1, [.ref daU, .ref caU, .ref yaU])), (daU, .inl (kI, 32, .inl fdU)), (caU, .inl (kI, 32, .inl fcU)), (yaU, .inl (kI, 768, .inl fyU)), (hhO, .inr (2, [.ref hfO, .ref huO, .int (nI ggO), .int (nI fiO), .int (nI faO), .long slO, .int (nI whO)])), (huO, .inl (kI, 4, .inl (fun j => nI (uuO j)))), (hfO, .inr (1, [.ref daO, .ref caO, .ref yaO])), (daO, .inl (kI, 32, .inl fdO)), (caO, .inl (kI, 32, .inl fcO)), (yaO, .inl (kI, 768, .inl fyO))] [(kI, .int)])) xt_Qi (xt_X tX) 1 6 (fun _ => False) := by
  refine vx_ofW (cc := bX4_day) (maxL := 2) (ret := (some .int)) (by decide) rfl ?_
  intro p e s m args below meth c s₁ B hml htab hv
  obtain ⟨rfl, ⟨hP, hK, hN⟩, hZ⟩ := hv
  have hx := B.exec
  have hb := B.bytes
  have hr := B.returns
  have hg : ∀ w ∈ GW, w.before _ s = true := fun w h => atoms_spec (ws := Cond.code yX4_day bX4_day 2 (some .int) :: GW) B.pre w (List.mem_cons_of_mem _ h)
  have hown : s.vm.findClass "FindLog" = some m.cls := findClass_of_methodNamed B.named
  have hlocks := B.notSynchronized
  have hS : va_S (fun _ => False) s.heap s.heap [] := va_S.rf
  have hl := lv_entry ([.ref xx, .int x]) (n := 2) (Nat.le_of_ble_eq_true rfl)
  rw [lg_entry_eq]
  generalize (lg_sl ([.ref xx, .int x]) ++ List.replicate (2 - (lg_sl ([.ref xx, .int x])).length) Slot.unset).toArray = ls at hl ⊢
  have hl : lv_has ls 2 [(0, .ref xx), (1, .int x)] := hl
  refine lv_aload_n hx hb dX4_day_0 rfl (lv_at hl 0 rfl) ?_
  refine pw_callv (va_runV (As := []) (rest := []) ⟨hx, hb, hml, hown, hg⟩ (c_X4_rbc l D kI xx pb lb hL ra hhU hhO bg nx ak ab tn bd sn) (cwV 0 hg (gw_V k_189 k_191 k_0 k_22 k_192) rfl rfl rfl (by decide +kernel) ⟨Nat.le_of_ble_eq_true rfl, Nat.le_of_ble_eq_true rfl⟩) ⟨pw_blind, va_recv hK hP (ci := 4) (q0 := 0) rfl rfl, pw_pre (hP.sub (ws' := [(xx, .inr (4, [.ref pb, .ref lb, .ref hL, .ref ra, .ref hhU, .ref hhO, .int (nI bg), .int (nI nx), .int (nI ak), .int (nI ab), .int (nI tn), .int bd, .long sn, .int (nI 0)]))]) [0] rfl) (hK.sub (tys' := [(kI, .int)]) [0] rfl) hN⟩ rfl rfl hl.1 rfl (lv_room (Nat.le_of_ble_eq_true rfl)) dX4_day_1 ⟨Nat.le_of_ble_eq_true rfl, Nat.le_of_ble_eq_true rfl⟩) hS hP (fun H locs hP hS => ?_)
  refine lv_iload_n hx hb dX4_day_4 rfl (lv_at hl 1 rfl) ?_
  exact vx_callv (vx_runS (As := [.int x]) (rest := []) ⟨hx, hb, hml, hown, hg⟩ (t_X4_rnt l hst D kI x hx0) (va_cwS 1 hg (gw_S k_294 k_295 k_22 k_296) rfl rfl rfl (by decide +kernel) ⟨Nat.le_of_ble_eq_true rfl, Nat.le_of_ble_eq_true rfl⟩) ⟨pz_blind, pz_pre (hP.sub (ws' := []) [] rfl) (hK.sub (tys' := [(kI, .int)]) [0] rfl) hN hZ hS⟩ rfl rfl hl.1 rfl (lv_room (Nat.le_of_ble_eq_true rfl)) dX4_day_5 ⟨Nat.le_of_ble_eq_true rfl, Nat.le_of_ble_eq_true rfl⟩) hS (fun _ _ h => h.elim) (fun _ h => h.elim) (fun _ _ h => h.elim) (fun E9 ce q9 u9 t9 H1 locs1 ht hvm hp hE hz hk hS hce hcv hcl => xt_pass hE htab hlocks hce hcv hcl hS (Nat.le_of_ble_eq_true rfl) (Nat.le_of_ble_eq_true rfl)) (fun u9 t9 H1 locs1 ht hvm hp => hp.elim)
set_option maxHeartbeats 4000000 in
set_option maxRecDepth 100000 in
theorem t_X4_find_Y (l : Launch) (hst : l.stackTraces = false) (D : va_G) (kI : ClassId) (xx pb lb hL ra hhU hhO : Nat) (bg nx ak ab tn : Nat) (bd : Int32) (sn : Int64) (pr pn : Nat) (pf : Nat → Int32) (lr ln : Nat) (lg : Nat → Int32) (daL caL yaL : Nat) (fdL fcL fyL : Nat → Int32) (x0 x1 x2 : Int32) (x3 : Int64) (hfU huU daU caU yaU : Nat) (ggU fiU faU whU : Nat) (slU : Int64) (uuU : Nat → Nat) (fdU fcU fyU : Nat → Int32) (hfO huO daO caO yaO : Nat) (ggO fiO faO whO : Nat) (slO : Int64) (uuO : Nat → Nat) (fdO fcO fyO : Nat → Int32) (th : Nat) (ht : th < 32) (y : Int32) (hy1 : y ≠ -1) (hy : y < 0 ∨ fcL th ≤ y) : vx_Met l yX4_find (.code yX4_find bX4_find 4 (some .int) :: GW) (rmL 6 1 6) (va_Pc [.ref xx, .int (nI th), .int y] (pz_P D [(xx, .inr (4, [.ref pb, .ref lb, .ref hL, .ref ra, .ref hhU, .ref hhO, .int (nI bg), .int (nI nx), .int (nI ak), .int (nI ab), .int (nI tn), .int bd, .long sn, .int (nI 0)])), (pb, .inr (0, [.ref pr, .int (nI pn)])), (pr, .inl (kI, 24, .inl pf)), (lb, .inr (0, [.ref lr, .int (nI ln)])), (lr, .inl (kI, 2432, .inl lg)), (hL, .inr (1, [.ref daL, .ref caL, .ref yaL])), (daL, .inl (kI, 32, .inl fdL)), (caL, .inl (kI, 32, .inl fcL)), (yaL, .inl (kI, 768, .inl fyL)), (ra, .inr (3, [.int x0, .int x1, .int x2, .long x3])), (hhU, .inr (2, [.ref hfU, .ref huU, .int (nI ggU), .int (nI fiU), .int (nI faU), .long slU, .int (nI whU)])), (huU, .inl (kI, 4, .inl (fun j => nI (uuU j)))), (hfU, .inr (1, [.ref daU, .ref caU, .ref yaU])), (daU, .inl (kI, 32, .inl fdU)), (caU, .inl (kI, 32, .inl fcU)), (yaU, .inl (kI, 768, .inl fyU)), (hhO, .inr (2, [.ref hfO, .ref huO, .int (nI ggO), .int (nI fiO), .int (nI faO), .long slO, .int (nI whO)])), (huO, .inl (kI, 4, .inl (fun j => nI (uuO j)))), (hfO, .inr (1, [.ref daO, .ref caO, .ref yaO])), (daO, .inl (kI, 32, .inl fdO)), (caO, .inl (kI, 32, .inl fcO)), (yaO, .inl (kI, 768, .inl fyO))] [(kI, .int)])) xt_Qi (xt_X tX) 1 6 (fun _ => False) := by
  refine vx_ofW (cc := bX4_find) (maxL := 4) (ret := (some .int)) (by decide) rfl ?_
  intro p e s m args below meth c s₁ B hml htab hv
  obtain ⟨rfl, ⟨hP, hK, hN⟩, hZ⟩ := hv
  have hx := B.exec
  have hb := B.bytes
  have hr := B.returns
  have hg : ∀ w ∈ GW, w.before _ s = true := fun w h => atoms_spec (ws := Cond.code yX4_find bX4_find 4 (some .int) :: GW) B.pre w (List.mem_cons_of_mem _ h)
  have hown : s.vm.findClass "FindLog" = some m.cls := findClass_of_methodNamed B.named
  have hlocks := B.notSynchronized
  have hS : va_S (fun _ => False) s.heap s.heap [] := va_S.rf
  have hl := lv_entry ([.ref xx, .int (nI th), .int y]) (n := 4) (Nat.le_of_ble_eq_true rfl)
  rw [lg_entry_eq]
  generalize (lg_sl ([.ref xx, .int (nI th), .int y]) ++ List.replicate (4 - (lg_sl ([.ref xx, .int (nI th), .int y])).length) Slot.unset).toArray = ls at hl ⊢
  have hl : lv_has ls 4 [(0, .ref xx), (1, .int (nI th)), (2, .int y)] := hl
  refine lv_aload_n hx hb dX4_find_0 rfl (lv_at hl 0 rfl) ?_
  refine pw_callv (va_runV (As := []) (rest := []) ⟨hx, hb, hml, hown, hg⟩ (c_X4_rbc l D kI xx pb lb hL ra hhU hhO bg nx ak ab tn bd sn) (cwV 0 hg (gw_V k_189 k_191 k_0 k_22 k_192) rfl rfl rfl (by decide +kernel) ⟨Nat.le_of_ble_eq_true rfl, Nat.le_of_ble_eq_true rfl⟩) ⟨pw_blind, va_recv hK hP (ci := 4) (q0 := 0) rfl rfl, pw_pre (hP.sub (ws' := [(xx, .inr (4, [.ref pb, .ref lb, .ref hL, .ref ra, .ref hhU, .ref hhO, .int (nI bg), .int (nI nx), .int (nI ak), .int (nI ab), .int (nI tn), .int bd, .long sn, .int (nI 0)]))]) [0] rfl) (hK.sub (tys' := [(kI, .int)]) [0] rfl) hN⟩ rfl rfl hl.1 rfl (lv_room (Nat.le_of_ble_eq_true rfl)) dX4_find_1 ⟨Nat.le_of_ble_eq_true rfl, Nat.le_of_ble_eq_true rfl⟩) hS hP (fun H locs hP hS => ?_)
  refine lv_iload_n hx hb dX4_find_4 rfl (lv_at hl 1 rfl) ?_
  refine pw_callv (va_runS (As := [.int (nI th)]) (rest := []) ⟨hx, hb, hml, hown, hg⟩ (c_X4_rnt l D kI th ht) (va_cwS 1 hg (gw_S k_294 k_295 k_22 k_296) rfl rfl rfl (by decide +kernel) ⟨Nat.le_of_ble_eq_true rfl, Nat.le_of_ble_eq_true rfl⟩) ⟨pw_blind, pw_pre (hP.sub (ws' := []) [] rfl) (hK.sub (tys' := [(kI, .int)]) [0] rfl) hN⟩ rfl rfl hl.1 rfl (lv_room (Nat.le_of_ble_eq_true rfl)) dX4_find_5 ⟨Nat.le_of_ble_eq_true rfl, Nat.le_of_ble_eq_true rfl⟩) hS hP (fun H locs hP hS => ?_)
  refine lv_aload_n hx hb dX4_find_8 rfl (lv_at hl 0 rfl) ?_
  refine va_get (D := D) (ci := 4) (v := .ref hL) (C := "FindLog") (T := TX4) (N := 14) hx hb hg inX4 hown hK hP 0 rfl rfl 2 (by decide) (hg _ k_135) (fun _ h9 => h9) rfl dX4_find_9 ?_
  refine lv_iload_n hx hb dX4_find_12 rfl (lv_at hl 1 rfl) ?_
  refine pw_calli (va_runV (As := [.int (nI th)]) (rest := []) ⟨hx, hb, hml, hown, hg⟩ (c_X1_countOf l D kI hL daL caL yaL fdL fcL fyL th ht) (cwV 1 hg (gw_V k_446 k_447 k_448 k_24 k_449) rfl rfl rfl (by decide +kernel) ⟨Nat.le_of_ble_eq_true rfl, Nat.le_of_ble_eq_true rfl⟩) ⟨pw_blind, va_recv hK hP (ci := 1) (q0 := 5) rfl rfl, pw_pre (hP.sub (ws' := [(hL, .inr (1, [.ref daL, .ref caL, .ref yaL])), (daL, .inl (kI, 32, .inl fdL)), (caL, .inl (kI, 32, .inl fcL)), (yaL, .inl (kI, 768, .inl fyL))]) [5, 6, 7, 8] rfl) (hK.sub (tys' := [(kI, .int)]) [0] rfl) hN⟩ rfl rfl hl.1 rfl (lv_room (Nat.le_of_ble_eq_true rfl)) dX4_find_13 ⟨Nat.le_of_ble_eq_true rfl, Nat.le_of_ble_eq_true rfl⟩) hS hP (fun H locs hP hS => ?_)
  refine lv_istore_n (lv' := [(3, .int (fcL th)), (0, .ref xx), (1, .int (nI th)), (2, .int y)]) hx hb dX4_find_16 rfl hl (by decide) rfl (fun ls hl => ?_)
  refine lv_iload_n hx hb dX4_find_17 rfl (lv_at hl 3 rfl) ?_
  refine lv_iconst (v := (-1)) hx hb dX4_find_18 (by decide) ?_
  refine lv_icmp_ne (tgt := 24) hx hb dX4_find_19 (by decide) (fun c_19 => ?_) (fun c_19 => absurd c_19 (fun h9 => hy1 h9))
  refine lv_iload_n hx hb dX4_find_24 rfl (lv_at hl 3 rfl) ?_
  refine lv_if_lt (tgt := 33) hx hb dX4_find_25 (by decide) (fun c_25 => ?_) (fun c_25 => ?_)
  · exact xt_new hx hb hst hg hown (by decide +kernel) k_297 k_33 hN.2.2.2.2.2.2.2.2.2.1 at_X bt_X hN.2.1.2.2.1 hN ot_X hZ hS (hl.1.trans hml.symm) dX4_find_33 dX4_find_36 dX4_find_37 dX4_find_39 dX4_find_42 htab (Nat.le_of_ble_eq_true rfl) (Nat.le_of_ble_eq_true rfl) (Nat.le_of_ble_eq_true rfl) (Nat.le_of_ble_eq_true rfl) hlocks (Nat.le_of_ble_eq_true rfl) (Nat.le_of_ble_eq_true rfl)
  · refine lv_iload_n hx hb dX4_find_28 rfl (lv_at hl 3 rfl) ?_
    refine lv_iload_n hx hb dX4_find_29 rfl (lv_at hl 0 rfl) ?_
    refine lv_icmp_lt (tgt := 43) hx hb dX4_find_30 (by decide) (fun c_30 => absurd c_30 (fun h9 => (Int32.not_lt.mpr (hy.resolve_left c_25)) h9)) (fun c_30 => ?_)
    exact xt_new hx hb hst hg hown (by decide +kernel) k_297 k_33 hN.2.2.2.2.2.2.2.2.2.1 at_X bt_X hN.2.1.2.2.1 hN ot_X hZ hS (hl.1.trans hml.symm) dX4_find_33 dX4_find_36 dX4_find_37 dX4_find_39 dX4_find_42 htab (Nat.le_of_ble_eq_true rfl) (Nat.le_of_ble_eq_true rfl) (Nat.le_of_ble_eq_true rfl) (Nat.le_of_ble_eq_true rfl) hlocks (Nat.le_of_ble_eq_true rfl) (Nat.le_of_ble_eq_true rfl)
set_option maxHeartbeats 4000000 in
set_option maxRecDepth 100000 in
theorem t_X4_crash_A (l : Launch) (hst : l.stackTraces = false) (D : va_G) (kI : ClassId) (xx pb lb hL ra hhU hhO : Nat) (bg nx ak ab tn : Nat) (bd : Int32) (sn : Int64) (pr pn : Nat) (pf : Nat → Int32) (lr ln : Nat) (lg : Nat → Int32) (daL caL yaL : Nat) (fdL fcL fyL : Nat → Int32) (x0 x1 x2 : Int32) (x3 : Int64) (hfU huU daU caU yaU : Nat) (ggU fiU faU whU : Nat) (slU : Int64) (uuU : Nat → Nat) (fdU fcU fyU : Nat → Int32) (hfO huO daO caO yaO : Nat) (ggO fiO faO whO : Nat) (slO : Int64) (uuO : Nat → Nat) (fdO fcO fyO : Nat → Int32) (x : Int32) (hab : ab ≤ ln) (h2 : ln ≤ 2432) (hx0 : x < 0 ∨ nI (ln - ab) < x) : vx_Met l yX4_crash (.code yX4_crash bX4_crash 2 (some .int) :: GW) (rmL 6 1 6) (va_Pc [.ref xx, .int x] (pz_P D [(xx, .inr (4, [.ref pb, .ref lb, .ref hL, .ref ra, .ref hhU, .ref hhO, .int (nI bg), .int (nI nx), .int (nI ak), .int (nI ab), .int (nI tn), .int bd, .long sn, .int (nI 0)])), (pb, .inr (0, [.ref pr, .int (nI pn)])), (pr, .inl (kI, 24, .inl pf)), (lb, .inr (0, [.ref lr, .int (nI ln)])), (lr, .inl (kI, 2432, .inl lg)), (hL, .inr (1, [.ref daL, .ref caL, .ref yaL])), (daL, .inl (kI, 32, .inl fdL)), (caL, .inl (kI, 32, .inl fcL)), (yaL, .inl (kI, 768, .inl fyL)), (ra, .inr (3, [.int x0, .int x1, .int x2, .long x3])), (hhU, .inr (2, [.ref hfU, .ref huU, .int (nI ggU), .int (nI fiU), .int (nI faU), .long slU, .int (nI whU)])), (huU, .inl (kI, 4, .inl (fun j => nI (uuU j)))), (hfU, .inr (1, [.ref daU, .ref caU, .ref yaU])), (daU, .inl (kI, 32, .inl fdU)), (caU, .inl (kI, 32, .inl fcU)), (yaU, .inl (kI, 768, .inl fyU)), (hhO, .inr (2, [.ref hfO, .ref huO, .int (nI ggO), .int (nI fiO), .int (nI faO), .long slO, .int (nI whO)])), (huO, .inl (kI, 4, .inl (fun j => nI (uuO j)))), (hfO, .inr (1, [.ref daO, .ref caO, .ref yaO])), (daO, .inl (kI, 32, .inl fdO)), (caO, .inl (kI, 32, .inl fcO)), (yaO, .inl (kI, 768, .inl fyO))] [(kI, .int)])) xt_Qi (xt_X tA) 1 6 (fun _ => False) := by
  refine vx_ofW (cc := bX4_crash) (maxL := 2) (ret := (some .int)) (by decide) rfl ?_
  intro p e s m args below meth c s₁ B hml htab hv
  obtain ⟨rfl, ⟨hP, hK, hN⟩, hZ⟩ := hv
  have hx := B.exec
  have hb := B.bytes
  have hr := B.returns
  have hg : ∀ w ∈ GW, w.before _ s = true := fun w h => atoms_spec (ws := Cond.code yX4_crash bX4_crash 2 (some .int) :: GW) B.pre w (List.mem_cons_of_mem _ h)
  have hown : s.vm.findClass "FindLog" = some m.cls := findClass_of_methodNamed B.named
  have hlocks := B.notSynchronized
  have hS : va_S (fun _ => False) s.heap s.heap [] := va_S.rf
  have hl := lv_entry ([.ref xx, .int x]) (n := 2) (Nat.le_of_ble_eq_true rfl)
  rw [lg_entry_eq]
  generalize (lg_sl ([.ref xx, .int x]) ++ List.replicate (2 - (lg_sl ([.ref xx, .int x])).length) Slot.unset).toArray = ls at hl ⊢
  have hl : lv_has ls 2 [(0, .ref xx), (1, .int x)] := hl
  refine lv_aload_n hx hb dX4_crash_0 rfl (lv_at hl 0 rfl) ?_
  refine pw_callv (va_runV (As := []) (rest := []) ⟨hx, hb, hml, hown, hg⟩ (c_X4_rbc l D kI xx pb lb hL ra hhU hhO bg nx ak ab tn bd sn) (cwV 0 hg (gw_V k_189 k_191 k_0 k_22 k_192) rfl rfl rfl (by decide +kernel) ⟨Nat.le_of_ble_eq_true rfl, Nat.le_of_ble_eq_true rfl⟩) ⟨pw_blind, va_recv hK hP (ci := 4) (q0 := 0) rfl rfl, pw_pre (hP.sub (ws' := [(xx, .inr (4, [.ref pb, .ref lb, .ref hL, .ref ra, .ref hhU, .ref hhO, .int (nI bg), .int (nI nx), .int (nI ak), .int (nI ab), .int (nI tn), .int bd, .long sn, .int (nI 0)]))]) [0] rfl) (hK.sub (tys' := [(kI, .int)]) [0] rfl) hN⟩ rfl rfl hl.1 rfl (lv_room (Nat.le_of_ble_eq_true rfl)) dX4_crash_1 ⟨Nat.le_of_ble_eq_true rfl, Nat.le_of_ble_eq_true rfl⟩) hS hP (fun H locs hP hS => ?_)
  refine lv_iload_n hx hb dX4_crash_4 rfl (lv_at hl 1 rfl) ?_
  refine lv_if_lt (tgt := 24) hx hb dX4_crash_5 (by decide) (fun c_5 => ?_) (fun c_5 => ?_)
  · exact xt_new hx hb hst hg hown (by decide +kernel) k_261 k_32 hN.2.2.2.2.2.2.2.2.2.2.1 at_A bt_A hN.2.1.2.1 hN ot_A hZ hS (hl.1.trans hml.symm) dX4_crash_24 dX4_crash_27 dX4_crash_28 dX4_crash_30 dX4_crash_33 htab (Nat.le_of_ble_eq_true rfl) (Nat.le_of_ble_eq_true rfl) (Nat.le_of_ble_eq_true rfl) (Nat.le_of_ble_eq_true rfl) hlocks (Nat.le_of_ble_eq_true rfl) (Nat.le_of_ble_eq_true rfl)
  · refine lv_iload_n hx hb dX4_crash_8 rfl (lv_at hl 1 rfl) ?_
    refine lv_aload_n hx hb dX4_crash_9 rfl (lv_at hl 0 rfl) ?_
    refine va_get (D := D) (ci := 4) (v := .ref lb) (C := "FindLog") (T := TX4) (N := 14) hx hb hg inX4 hown hK hP 0 rfl rfl 1 (by decide) (hg _ k_134) (fun _ h9 => h9) rfl dX4_crash_10 ?_
    refine pw_calli (va_runV (As := []) (rest := [.int x]) ⟨hx, hb, hml, hown, hg⟩ (c_X0_size l D lb lr kI 2432 ln lg) (cwV 0 hg (gw_V k_277 k_278 k_279 k_23 k_280) rfl rfl rfl (by decide +kernel) ⟨Nat.le_of_ble_eq_true rfl, Nat.le_of_ble_eq_true rfl⟩) ⟨pw_blind, va_recv hK hP (ci := 0) (q0 := 3) rfl rfl, pw_pre (hP.sub (ws' := [(lb, .inr (0, [.ref lr, .int (nI ln)])), (lr, .inl (kI, 2432, .inl lg))]) [3, 4] rfl) (hK.sub (tys' := [(kI, .int)]) [0] rfl) hN⟩ rfl rfl hl.1 rfl (lv_room (Nat.le_of_ble_eq_true rfl)) dX4_crash_13 ⟨Nat.le_of_ble_eq_true rfl, Nat.le_of_ble_eq_true rfl⟩) hS hP (fun H locs hP hS => ?_)
    refine lv_aload_n hx hb dX4_crash_16 rfl (lv_at hl 0 rfl) ?_
    refine va_get (D := D) (ci := 4) (v := .int (nI ab)) (C := "FindLog") (T := TX4) (N := 14) hx hb hg inX4 hown hK hP 0 rfl rfl 9 (by decide) (hg _ k_142) (fun _ h9 => h9) rfl dX4_crash_17 ?_
    refine lv_isubN hx hb (by omega) dX4_crash_20 ?_
    refine lv_icmp_le (tgt := 34) hx hb dX4_crash_21 (by decide) (fun c_21 => absurd c_21 (fun h9 => (Int32.not_le.mpr (hx0.resolve_left c_5)) h9)) (fun c_21 => ?_)
    exact xt_new hx hb hst hg hown (by decide +kernel) k_261 k_32 hN.2.2.2.2.2.2.2.2.2.2.1 at_A bt_A hN.2.1.2.1 hN ot_A hZ hS (hl.1.trans hml.symm) dX4_crash_24 dX4_crash_27 dX4_crash_28 dX4_crash_30 dX4_crash_33 htab (Nat.le_of_ble_eq_true rfl) (Nat.le_of_ble_eq_true rfl) (Nat.le_of_ble_eq_true rfl) (Nat.le_of_ble_eq_true rfl) hlocks (Nat.le_of_ble_eq_true rfl) (Nat.le_of_ble_eq_true rfl)
set_option maxHeartbeats 4000000 in
set_option maxRecDepth 100000 in
theorem t_X4_tear_I (l : Launch) (hst : l.stackTraces = false) (D : va_G) (kI : ClassId) (xx pb lb hL ra hhU hhO : Nat) (bg nx ak ab tn : Nat) (bd : Int32) (sn : Int64) (pr pn : Nat) (pf : Nat → Int32) (lr ln : Nat) (lg : Nat → Int32) (daL caL yaL : Nat) (fdL fcL fyL : Nat → Int32) (x0 x1 x2 : Int32) (x3 : Int64) (hfU huU daU caU yaU : Nat) (ggU fiU faU whU : Nat) (slU : Int64) (uuU : Nat → Nat) (fdU fcU fyU : Nat → Int32) (hfO huO daO caO yaO : Nat) (ggO fiO faO whO : Nat) (slO : Int64) (uuO : Nat → Nat) (fdO fcO fyO : Nat → Int32) (hw0 : whU = 0 ∨ whO = 0) (bw1 : whU ≤ 1) (bw2 : whO ≤ 1) : vx_Met l yX4_tear (.code yX4_tear bX4_tear 2 (some .int) :: GW) (rmL 6 1 6) (va_Pc [.ref xx] (pz_P D [(xx, .inr (4, [.ref pb, .ref lb, .ref hL, .ref ra, .ref hhU, .ref hhO, .int (nI bg), .int (nI nx), .int (nI ak), .int (nI ab), .int (nI tn), .int bd, .long sn, .int (nI 1)])), (pb, .inr (0, [.ref pr, .int (nI pn)])), (pr, .inl (kI, 24, .inl pf)), (lb, .inr (0, [.ref lr, .int (nI ln)])), (lr, .inl (kI, 2432, .inl lg)), (hL, .inr (1, [.ref daL, .ref caL, .ref yaL])), (daL, .inl (kI, 32, .inl fdL)), (caL, .inl (kI, 32, .inl fcL)), (yaL, .inl (kI, 768, .inl fyL)), (ra, .inr (3, [.int x0, .int x1, .int x2, .long x3])), (hhU, .inr (2, [.ref hfU, .ref huU, .int (nI ggU), .int (nI fiU), .int (nI faU), .long slU, .int (nI whU)])), (huU, .inl (kI, 4, .inl (fun j => nI (uuU j)))), (hfU, .inr (1, [.ref daU, .ref caU, .ref yaU])), (daU, .inl (kI, 32, .inl fdU)), (caU, .inl (kI, 32, .inl fcU)), (yaU, .inl (kI, 768, .inl fyU)), (hhO, .inr (2, [.ref hfO, .ref huO, .int (nI ggO), .int (nI fiO), .int (nI faO), .long slO, .int (nI whO)])), (huO, .inl (kI, 4, .inl (fun j => nI (uuO j)))), (hfO, .inr (1, [.ref daO, .ref caO, .ref yaO])), (daO, .inl (kI, 32, .inl fdO)), (caO, .inl (kI, 32, .inl fcO)), (yaO, .inl (kI, 768, .inl fyO))] [(kI, .int)])) xt_Qi (xt_X tI) 1 6 (fun _ => False) := by
  refine vx_ofW (cc := bX4_tear) (maxL := 2) (ret := (some .int)) (by decide) rfl ?_
  intro p e s m args below meth c s₁ B hml htab hv
  obtain ⟨rfl, ⟨hP, hK, hN⟩, hZ⟩ := hv
  have hx := B.exec
  have hb := B.bytes
  have hr := B.returns
  have hg : ∀ w ∈ GW, w.before _ s = true := fun w h => atoms_spec (ws := Cond.code yX4_tear bX4_tear 2 (some .int) :: GW) B.pre w (List.mem_cons_of_mem _ h)
  have hown : s.vm.findClass "FindLog" = some m.cls := findClass_of_methodNamed B.named
  have hlocks := B.notSynchronized
  have hS : va_S (fun _ => False) s.heap s.heap [] := va_S.rf
  have hl := lv_entry ([.ref xx]) (n := 2) (Nat.le_of_ble_eq_true rfl)
  rw [lg_entry_eq]
  generalize (lg_sl ([.ref xx]) ++ List.replicate (2 - (lg_sl ([.ref xx])).length) Slot.unset).toArray = ls at hl ⊢
  have hl : lv_has ls 2 [(0, .ref xx)] := hl
  refine lv_aload_n hx hb dX4_tear_0 rfl (lv_at hl 0 rfl) ?_
  refine pw_callv (va_runV (As := []) (rest := []) ⟨hx, hb, hml, hown, hg⟩ (c_X4_rwc l D kI xx pb lb hL ra hhU hhO bg nx ak ab tn bd sn) (cwV 0 hg (gw_V k_488 k_490 k_6 k_22 k_491) rfl rfl rfl (by decide +kernel) ⟨Nat.le_of_ble_eq_true rfl, Nat.le_of_ble_eq_true rfl⟩) ⟨pw_blind, va_recv hK hP (ci := 4) (q0 := 0) rfl rfl, pw_pre (hP.sub (ws' := [(xx, .inr (4, [.ref pb, .ref lb, .ref hL, .ref ra, .ref hhU, .ref hhO, .int (nI bg), .int (nI nx), .int (nI ak), .int (nI ab), .int (nI tn), .int bd, .long sn, .int (nI 1)]))]) [0] rfl) (hK.sub (tys' := [(kI, .int)]) [0] rfl) hN⟩ rfl rfl hl.1 rfl (lv_room (Nat.le_of_ble_eq_true rfl)) dX4_tear_1 ⟨Nat.le_of_ble_eq_true rfl, Nat.le_of_ble_eq_true rfl⟩) hS hP (fun H locs hP hS => ?_)
  refine lv_aload_n hx hb dX4_tear_4 rfl (lv_at hl 0 rfl) ?_
  refine va_get (D := D) (ci := 4) (v := .ref hhU) (C := "FindLog") (T := TX4) (N := 14) hx hb hg inX4 hown hK hP 0 rfl rfl 4 (by decide) (hg _ k_137) (fun _ h9 => h9) rfl dX4_tear_5 ?_
  refine va_get (D := D) (ci := 2) (v := .int (nI whU)) (C := "FindLog$Head") (T := TX2) (N := 7) hx hb hg inX2 hown hK hP 10 rfl rfl 6 (by decide) (hg _ k_117) (fun _ h9 => h9) rfl dX4_tear_8 ?_
  refine lv_if_eqN (tgt := 24) hx hb (by omega) dX4_tear_11 (by decide) (fun c_11 => ?_) (fun c_11 => ?_)
  · exact xt_new hx hb hst hg hown (by decide +kernel) k_193 k_31 hN.2.2.2.2.2.2.2.2.2.2.2.2.1 at_I bt_I hN.2.1.1 hN ot_I hZ hS (hl.1.trans hml.symm) dX4_tear_24 dX4_tear_27 dX4_tear_28 dX4_tear_30 dX4_tear_33 htab (Nat.le_of_ble_eq_true rfl) (Nat.le_of_ble_eq_true rfl) (Nat.le_of_ble_eq_true rfl) (Nat.le_of_ble_eq_true rfl) hlocks (Nat.le_of_ble_eq_true rfl) (Nat.le_of_ble_eq_true rfl)
  · refine lv_aload_n hx hb dX4_tear_14 rfl (lv_at hl 0 rfl) ?_
    refine va_get (D := D) (ci := 4) (v := .ref hhO) (C := "FindLog") (T := TX4) (N := 14) hx hb hg inX4 hown hK hP 0 rfl rfl 5 (by decide) (hg _ k_138) (fun _ h9 => h9) rfl dX4_tear_15 ?_
    refine va_get (D := D) (ci := 2) (v := .int (nI whO)) (C := "FindLog$Head") (T := TX2) (N := 7) hx hb hg inX2 hown hK hP 16 rfl rfl 6 (by decide) (hg _ k_117) (fun _ h9 => h9) rfl dX4_tear_18 ?_
    refine lv_if_neN (tgt := 34) hx hb (by omega) dX4_tear_21 (by decide) (fun c_21 => absurd c_21 (by omega)) (fun c_21 => ?_)
    exact xt_new hx hb hst hg hown (by decide +kernel) k_193 k_31 hN.2.2.2.2.2.2.2.2.2.2.2.2.1 at_I bt_I hN.2.1.1 hN ot_I hZ hS (hl.1.trans hml.symm) dX4_tear_24 dX4_tear_27 dX4_tear_28 dX4_tear_30 dX4_tear_33 htab (Nat.le_of_ble_eq_true rfl) (Nat.le_of_ble_eq_true rfl) (Nat.le_of_ble_eq_true rfl) (Nat.le_of_ble_eq_true rfl) hlocks (Nat.le_of_ble_eq_true rfl) (Nat.le_of_ble_eq_true rfl)
set_option maxHeartbeats 4000000 in
set_option maxRecDepth 100000 in
theorem t_X4_poke_X (l : Launch) (hst : l.stackTraces = false) (D : va_G) (kI : ClassId) (xx pb lb hL ra hhU hhO : Nat) (bg nx ak ab tn : Nat) (bd : Int32) (sn : Int64) (pr pn : Nat) (pf : Nat → Int32) (lr ln : Nat) (lg : Nat → Int32) (daL caL yaL : Nat) (fdL fcL fyL : Nat → Int32) (x0 x1 x2 : Int32) (x3 : Int64) (hfU huU daU caU yaU : Nat) (ggU fiU faU whU : Nat) (slU : Int64) (uuU : Nat → Nat) (fdU fcU fyU : Nat → Int32) (hfO huO daO caO yaO : Nat) (ggO fiO faO whO : Nat) (slO : Int64) (uuO : Nat → Nat) (fdO fcO fyO : Nat → Int32) (x y : Int32) (h2 : ln ≤ 2432) (hx0 : x < 0 ∨ nI ln ≤ x) : vx_Met l yX4_poke (.code yX4_poke bX4_poke 4 (some .int) :: GW) (rmL 6 1 6) (va_Pc [.ref xx, .int x, .int y] (pz_P D [(xx, .inr (4, [.ref pb, .ref lb, .ref hL, .ref ra, .ref hhU, .ref hhO, .int (nI bg), .int (nI nx), .int (nI ak), .int (nI ab), .int (nI tn), .int bd, .long sn, .int (nI 1)])), (pb, .inr (0, [.ref pr, .int (nI pn)])), (pr, .inl (kI, 24, .inl pf)), (lb, .inr (0, [.ref lr, .int (nI ln)])), (lr, .inl (kI, 2432, .inl lg)), (hL, .inr (1, [.ref daL, .ref caL, .ref yaL])), (daL, .inl (kI, 32, .inl fdL)), (caL, .inl (kI, 32, .inl fcL)), (yaL, .inl (kI, 768, .inl fyL)), (ra, .inr (3, [.int x0, .int x1, .int x2, .long x3])), (hhU, .inr (2, [.ref hfU, .ref huU, .int (nI ggU), .int (nI fiU), .int (nI faU), .long slU, .int (nI whU)])), (huU, .inl (kI, 4, .inl (fun j => nI (uuU j)))), (hfU, .inr (1, [.ref daU, .ref caU, .ref yaU])), (daU, .inl (kI, 32, .inl fdU)), (caU, .inl (kI, 32, .inl fcU)), (yaU, .inl (kI, 768, .inl fyU)), (hhO, .inr (2, [.ref hfO, .ref huO, .int (nI ggO), .int (nI fiO), .int (nI faO), .long slO, .int (nI whO)])), (huO, .inl (kI, 4, .inl (fun j => nI (uuO j)))), (hfO, .inr (1, [.ref daO, .ref caO, .ref yaO])), (daO, .inl (kI, 32, .inl fdO)), (caO, .inl (kI, 32, .inl fcO)), (yaO, .inl (kI, 768, .inl fyO))] [(kI, .int)])) xt_Qi (xt_X tX) 1 6 (fun _ => False) := by
  refine vx_ofW (cc := bX4_poke) (maxL := 4) (ret := (some .int)) (by decide) rfl ?_
  intro p e s m args below meth c s₁ B hml htab hv
  obtain ⟨rfl, ⟨hP, hK, hN⟩, hZ⟩ := hv
  have hx := B.exec
  have hb := B.bytes
  have hr := B.returns
  have hg : ∀ w ∈ GW, w.before _ s = true := fun w h => atoms_spec (ws := Cond.code yX4_poke bX4_poke 4 (some .int) :: GW) B.pre w (List.mem_cons_of_mem _ h)
  have hown : s.vm.findClass "FindLog" = some m.cls := findClass_of_methodNamed B.named
  have hlocks := B.notSynchronized
  have hS : va_S (fun _ => False) s.heap s.heap [] := va_S.rf
  have hl := lv_entry ([.ref xx, .int x, .int y]) (n := 4) (Nat.le_of_ble_eq_true rfl)
  rw [lg_entry_eq]
  generalize (lg_sl ([.ref xx, .int x, .int y]) ++ List.replicate (4 - (lg_sl ([.ref xx, .int x, .int y])).length) Slot.unset).toArray = ls at hl ⊢
  have hl : lv_has ls 4 [(0, .ref xx), (1, .int x), (2, .int y)] := hl
  refine lv_aload_n hx hb dX4_poke_0 rfl (lv_at hl 0 rfl) ?_
  refine pw_callv (va_runV (As := []) (rest := []) ⟨hx, hb, hml, hown, hg⟩ (c_X4_rwc l D kI xx pb lb hL ra hhU hhO bg nx ak ab tn bd sn) (cwV 0 hg (gw_V k_488 k_490 k_6 k_22 k_491) rfl rfl rfl (by decide +kernel) ⟨Nat.le_of_ble_eq_true rfl, Nat.le_of_ble_eq_true rfl⟩) ⟨pw_blind, va_recv hK hP (ci := 4) (q0 := 0) rfl rfl, pw_pre (hP.sub (ws' := [(xx, .inr (4, [.ref pb, .ref lb, .ref hL, .ref ra, .ref hhU, .ref hhO, .int (nI bg), .int (nI nx), .int (nI ak), .int (nI ab), .int (nI tn), .int bd, .long sn, .int (nI 1)]))]) [0] rfl) (hK.sub (tys' := [(kI, .int)]) [0] rfl) hN⟩ rfl rfl hl.1 rfl (lv_room (Nat.le_of_ble_eq_true rfl)) dX4_poke_1 ⟨Nat.le_of_ble_eq_true rfl, Nat.le_of_ble_eq_true rfl⟩) hS hP (fun H locs hP hS => ?_)
  refine lv_aload_n hx hb dX4_poke_4 rfl (lv_at hl 0 rfl) ?_
  refine lv_iload_n hx hb dX4_poke_5 rfl (lv_at hl 1 rfl) ?_
  exact vx_callv (vx_runV (As := [.int x]) (rest := []) ⟨hx, hb, hml, hown, hg⟩ (t_X4_rnb l hst D kI xx pb lb hL ra hhU hhO bg nx ak ab tn bd sn 1 lr ln lg x hx0 h2) (cwV 1 hg (gw_V k_501 k_503 k_7 k_22 k_504) rfl rfl rfl (by decide +kernel) ⟨Nat.le_of_ble_eq_true rfl, Nat.le_of_ble_eq_true rfl⟩) ⟨pz_blind, va_recv hK hP (ci := 4) (q0 := 0) rfl rfl, pz_pre (hP.sub (ws' := [(xx, .inr (4, [.ref pb, .ref lb, .ref hL, .ref ra, .ref hhU, .ref hhO, .int (nI bg), .int (nI nx), .int (nI ak), .int (nI ab), .int (nI tn), .int bd, .long sn, .int (nI 1)])), (lb, .inr (0, [.ref lr, .int (nI ln)])), (lr, .inl (kI, 2432, .inl lg))]) [0, 3, 4] rfl) (hK.sub (tys' := [(kI, .int)]) [0] rfl) hN hZ hS⟩ rfl rfl hl.1 rfl (lv_room (Nat.le_of_ble_eq_true rfl)) dX4_poke_6 ⟨Nat.le_of_ble_eq_true rfl, Nat.le_of_ble_eq_true rfl⟩) hS (fun _ _ h => h.elim) (fun _ h => h.elim) (fun _ _ h => h.elim) (fun E9 ce q9 u9 t9 H1 locs1 ht hvm hp hE hz hk hS hce hcv hcl => xt_pass hE htab hlocks hce hcv hcl hS (Nat.le_of_ble_eq_true rfl) (Nat.le_of_ble_eq_true rfl)) (fun u9 t9 H1 locs1 ht hvm hp => hp.elim)
set_option maxHeartbeats 4000000 in
set_option maxRecDepth 100000 in
theorem t_X4_poke_A (l : Launch) (hst : l.stackTraces = false) (D : va_G) (kI : ClassId) (xx pb lb hL ra hhU hhO : Nat) (bg nx ak ab tn : Nat) (bd : Int32) (sn : Int64) (pr pn : Nat) (pf : Nat → Int32) (lr ln : Nat) (lg : Nat → Int32) (daL caL yaL : Nat) (fdL fcL fyL : Nat → Int32) (x0 x1 x2 : Int32) (x3 : Int64) (hfU huU daU caU yaU : Nat) (ggU fiU faU whU : Nat) (slU : Int64) (uuU : Nat → Nat) (fdU fcU fyU : Nat → Int32) (hfO huO daO caO yaO : Nat) (ggO fiO faO whO : Nat) (slO : Int64) (uuO : Nat → Nat) (fdO fcO fyO : Nat → Int32) (j : Nat) (hj : j < ln) (h2 : ln ≤ 2432) (y : Int32) (hy : y < nI 1 ∨ nI 255 < y) : vx_Met l yX4_poke (.code yX4_poke bX4_poke 4 (some .int) :: GW) (rmL 6 1 6) (va_Pc [.ref xx, .int (nI j), .int y] (pz_P D [(xx, .inr (4, [.ref pb, .ref lb, .ref hL, .ref ra, .ref hhU, .ref hhO, .int (nI bg), .int (nI nx), .int (nI ak), .int (nI ab), .int (nI tn), .int bd, .long sn, .int (nI 1)])), (pb, .inr (0, [.ref pr, .int (nI pn)])), (pr, .inl (kI, 24, .inl pf)), (lb, .inr (0, [.ref lr, .int (nI ln)])), (lr, .inl (kI, 2432, .inl lg)), (hL, .inr (1, [.ref daL, .ref caL, .ref yaL])), (daL, .inl (kI, 32, .inl fdL)), (caL, .inl (kI, 32, .inl fcL)), (yaL, .inl (kI, 768, .inl fyL)), (ra, .inr (3, [.int x0, .int x1, .int x2, .long x3])), (hhU, .inr (2, [.ref hfU, .ref huU, .int (nI ggU), .int (nI fiU), .int (nI faU), .long slU, .int (nI whU)])), (huU, .inl (kI, 4, .inl (fun j => nI (uuU j)))), (hfU, .inr (1, [.ref daU, .ref caU, .ref yaU])), (daU, .inl (kI, 32, .inl fdU)), (caU, .inl (kI, 32, .inl fcU)), (yaU, .inl (kI, 768, .inl fyU)), (hhO, .inr (2, [.ref hfO, .ref huO, .int (nI ggO), .int (nI fiO), .int (nI faO), .long slO, .int (nI whO)])), (huO, .inl (kI, 4, .inl (fun j => nI (uuO j)))), (hfO, .inr (1, [.ref daO, .ref caO, .ref yaO])), (daO, .inl (kI, 32, .inl fdO)), (caO, .inl (kI, 32, .inl fcO)), (yaO, .inl (kI, 768, .inl fyO))] [(kI, .int)])) xt_Qi (xt_X tA) 1 6 (fun _ => False) := by
  refine vx_ofW (cc := bX4_poke) (maxL := 4) (ret := (some .int)) (by decide) rfl ?_
  intro p e s m args below meth c s₁ B hml htab hv
  obtain ⟨rfl, ⟨hP, hK, hN⟩, hZ⟩ := hv
  have hx := B.exec
  have hb := B.bytes
  have hr := B.returns
  have hg : ∀ w ∈ GW, w.before _ s = true := fun w h => atoms_spec (ws := Cond.code yX4_poke bX4_poke 4 (some .int) :: GW) B.pre w (List.mem_cons_of_mem _ h)
  have hown : s.vm.findClass "FindLog" = some m.cls := findClass_of_methodNamed B.named
  have hlocks := B.notSynchronized
  have hS : va_S (fun _ => False) s.heap s.heap [] := va_S.rf
  have hl := lv_entry ([.ref xx, .int (nI j), .int y]) (n := 4) (Nat.le_of_ble_eq_true rfl)
  rw [lg_entry_eq]
  generalize (lg_sl ([.ref xx, .int (nI j), .int y]) ++ List.replicate (4 - (lg_sl ([.ref xx, .int (nI j), .int y])).length) Slot.unset).toArray = ls at hl ⊢
  have hl : lv_has ls 4 [(0, .ref xx), (1, .int (nI j)), (2, .int y)] := hl
  refine lv_aload_n hx hb dX4_poke_0 rfl (lv_at hl 0 rfl) ?_
  refine pw_callv (va_runV (As := []) (rest := []) ⟨hx, hb, hml, hown, hg⟩ (c_X4_rwc l D kI xx pb lb hL ra hhU hhO bg nx ak ab tn bd sn) (cwV 0 hg (gw_V k_488 k_490 k_6 k_22 k_491) rfl rfl rfl (by decide +kernel) ⟨Nat.le_of_ble_eq_true rfl, Nat.le_of_ble_eq_true rfl⟩) ⟨pw_blind, va_recv hK hP (ci := 4) (q0 := 0) rfl rfl, pw_pre (hP.sub (ws' := [(xx, .inr (4, [.ref pb, .ref lb, .ref hL, .ref ra, .ref hhU, .ref hhO, .int (nI bg), .int (nI nx), .int (nI ak), .int (nI ab), .int (nI tn), .int bd, .long sn, .int (nI 1)]))]) [0] rfl) (hK.sub (tys' := [(kI, .int)]) [0] rfl) hN⟩ rfl rfl hl.1 rfl (lv_room (Nat.le_of_ble_eq_true rfl)) dX4_poke_1 ⟨Nat.le_of_ble_eq_true rfl, Nat.le_of_ble_eq_true rfl⟩) hS hP (fun H locs hP hS => ?_)
  refine lv_aload_n hx hb dX4_poke_4 rfl (lv_at hl 0 rfl) ?_
  refine lv_iload_n hx hb dX4_poke_5 rfl (lv_at hl 1 rfl) ?_
  refine pw_callv (va_runV (As := [.int (nI j)]) (rest := []) ⟨hx, hb, hml, hown, hg⟩ (c_X4_rnb l D kI xx pb lb hL ra hhU hhO bg nx ak ab tn bd sn 1 lr ln lg j hj h2) (cwV 1 hg (gw_V k_501 k_503 k_7 k_22 k_504) rfl rfl rfl (by decide +kernel) ⟨Nat.le_of_ble_eq_true rfl, Nat.le_of_ble_eq_true rfl⟩) ⟨pw_blind, va_recv hK hP (ci := 4) (q0 := 0) rfl rfl, pw_pre (hP.sub (ws' := [(xx, .inr (4, [.ref pb, .ref lb, .ref hL, .ref ra, .ref hhU, .ref hhO, .int (nI bg), .int (nI nx), .int (nI ak), .int (nI ab), .int (nI tn), .int bd, .long sn, .int (nI 1)])), (lb, .inr (0, [.ref lr, .int (nI ln)])), (lr, .inl (kI, 2432, .inl lg))]) [0, 3, 4] rfl) (hK.sub (tys' := [(kI, .int)]) [0] rfl) hN⟩ rfl rfl hl.1 rfl (lv_room (Nat.le_of_ble_eq_true rfl)) dX4_poke_6 ⟨Nat.le_of_ble_eq_true rfl, Nat.le_of_ble_eq_true rfl⟩) hS hP (fun H locs hP hS => ?_)
  refine lv_iload_n hx hb dX4_poke_9 rfl (lv_at hl 2 rfl) ?_
  refine lv_iconst (v := nI 1) hx hb dX4_poke_10 (by decide) ?_
  refine lv_icmp_lt (tgt := 21) hx hb dX4_poke_11 (by decide) (fun c_11 => ?_) (fun c_11 => ?_)
  · exact xt_new hx hb hst hg hown (by decide +kernel) k_261 k_32 hN.2.2.2.2.2.2.2.2.2.2.2.2.2.2.1 at_A bt_A hN.2.1.2.1 hN ot_A hZ hS (hl.1.trans hml.symm) dX4_poke_21 dX4_poke_24 dX4_poke_25 dX4_poke_27 dX4_poke_30 htab (Nat.le_of_ble_eq_true rfl) (Nat.le_of_ble_eq_true rfl) (Nat.le_of_ble_eq_true rfl) (Nat.le_of_ble_eq_true rfl) hlocks (Nat.le_of_ble_eq_true rfl) (Nat.le_of_ble_eq_true rfl)
  · refine lv_iload_n hx hb dX4_poke_14 rfl (lv_at hl 2 rfl) ?_
    refine lv_sipush (v := nI 255) hx hb dX4_poke_15 (by decide) ?_
    refine lv_icmp_le (tgt := 31) hx hb dX4_poke_18 (by decide) (fun c_18 => absurd c_18 (fun h9 => (Int32.not_le.mpr (hy.resolve_left c_11)) h9)) (fun c_18 => ?_)
    exact xt_new hx hb hst hg hown (by decide +kernel) k_261 k_32 hN.2.2.2.2.2.2.2.2.2.2.2.2.2.2.1 at_A bt_A hN.2.1.2.1 hN ot_A hZ hS (hl.1.trans hml.symm) dX4_poke_21 dX4_poke_24 dX4_poke_25 dX4_poke_27 dX4_poke_30 htab (Nat.le_of_ble_eq_true rfl) (Nat.le_of_ble_eq_true rfl) (Nat.le_of_ble_eq_true rfl) (Nat.le_of_ble_eq_true rfl) hlocks (Nat.le_of_ble_eq_true rfl) (Nat.le_of_ble_eq_true rfl)
set_option maxHeartbeats 4000000 in
set_option maxRecDepth 100000 in
theorem t_X4_stored_X (l : Launch) (hst : l.stackTraces = false) (D : va_G) (kI : ClassId) (xx pb lb hL ra hhU hhO : Nat) (bg nx ak ab tn : Nat) (bd : Int32) (sn : Int64) (pr pn : Nat) (pf : Nat → Int32) (lr ln : Nat) (lg : Nat → Int32) (daL caL yaL : Nat) (fdL fcL fyL : Nat → Int32) (x0 x1 x2 : Int32) (x3 : Int64) (hfU huU daU caU yaU : Nat) (ggU fiU faU whU : Nat) (slU : Int64) (uuU : Nat → Nat) (fdU fcU fyU : Nat → Int32) (hfO huO daO caO yaO : Nat) (ggO fiO faO whO : Nat) (slO : Int64) (uuO : Nat → Nat) (fdO fcO fyO : Nat → Int32) (bc : Nat) (x : Int32) (h2 : ln ≤ 2432) (hx0 : x < 0 ∨ nI ln ≤ x) : vx_Met l yX4_stored (.code yX4_stored bX4_stored 2 (some .int) :: GW) (rmL 6 1 6) (va_Pc [.ref xx, .int x] (pz_P D [(xx, .inr (4, [.ref pb, .ref lb, .ref hL, .ref ra, .ref hhU, .ref hhO, .int (nI bg), .int (nI nx), .int (nI ak), .int (nI ab), .int (nI tn), .int bd, .long sn, .int (nI bc)])), (pb, .inr (0, [.ref pr, .int (nI pn)])), (pr, .inl (kI, 24, .inl pf)), (lb, .inr (0, [.ref lr, .int (nI ln)])), (lr, .inl (kI, 2432, .inl lg)), (hL, .inr (1, [.ref daL, .ref caL, .ref yaL])), (daL, .inl (kI, 32, .inl fdL)), (caL, .inl (kI, 32, .inl fcL)), (yaL, .inl (kI, 768, .inl fyL)), (ra, .inr (3, [.int x0, .int x1, .int x2, .long x3])), (hhU, .inr (2, [.ref hfU, .ref huU, .int (nI ggU), .int (nI fiU), .int (nI faU), .long slU, .int (nI whU)])), (huU, .inl (kI, 4, .inl (fun j => nI (uuU j)))), (hfU, .inr (1, [.ref daU, .ref caU, .ref yaU])), (daU, .inl (kI, 32, .inl fdU)), (caU, .inl (kI, 32, .inl fcU)), (yaU, .inl (kI, 768, .inl fyU)), (hhO, .inr (2, [.ref hfO, .ref huO, .int (nI ggO), .int (nI fiO), .int (nI faO), .long slO, .int (nI whO)])), (huO, .inl (kI, 4, .inl (fun j => nI (uuO j)))), (hfO, .inr (1, [.ref daO, .ref caO, .ref yaO])), (daO, .inl (kI, 32, .inl fdO)), (caO, .inl (kI, 32, .inl fcO)), (yaO, .inl (kI, 768, .inl fyO))] [(kI, .int)])) xt_Qi (xt_X tX) 1 6 (fun _ => False) := by
  refine vx_ofW (cc := bX4_stored) (maxL := 2) (ret := (some .int)) (by decide) rfl ?_
  intro p e s m args below meth c s₁ B hml htab hv
  obtain ⟨rfl, ⟨hP, hK, hN⟩, hZ⟩ := hv
  have hx := B.exec
  have hb := B.bytes
  have hr := B.returns
  have hg : ∀ w ∈ GW, w.before _ s = true := fun w h => atoms_spec (ws := Cond.code yX4_stored bX4_stored 2 (some .int) :: GW) B.pre w (List.mem_cons_of_mem _ h)
  have hown : s.vm.findClass "FindLog" = some m.cls := findClass_of_methodNamed B.named
  have hlocks := B.notSynchronized
  have hS : va_S (fun _ => False) s.heap s.heap [] := va_S.rf
  have hl := lv_entry ([.ref xx, .int x]) (n := 2) (Nat.le_of_ble_eq_true rfl)
  rw [lg_entry_eq]
  generalize (lg_sl ([.ref xx, .int x]) ++ List.replicate (2 - (lg_sl ([.ref xx, .int x])).length) Slot.unset).toArray = ls at hl ⊢
  have hl : lv_has ls 2 [(0, .ref xx), (1, .int x)] := hl
  refine lv_aload_n hx hb dX4_stored_0 rfl (lv_at hl 0 rfl) ?_
  refine lv_iload_n hx hb dX4_stored_1 rfl (lv_at hl 1 rfl) ?_
  exact vx_callv (vx_runV (As := [.int x]) (rest := []) ⟨hx, hb, hml, hown, hg⟩ (t_X4_rnb l hst D kI xx pb lb hL ra hhU hhO bg nx ak ab tn bd sn bc lr ln lg x hx0 h2) (cwV 1 hg (gw_V k_501 k_503 k_7 k_22 k_504) rfl rfl rfl (by decide +kernel) ⟨Nat.le_of_ble_eq_true rfl, Nat.le_of_ble_eq_true rfl⟩) ⟨pz_blind, va_recv hK hP (ci := 4) (q0 := 0) rfl rfl, pz_pre (hP.sub (ws' := [(xx, .inr (4, [.ref pb, .ref lb, .ref hL, .ref ra, .ref hhU, .ref hhO, .int (nI bg), .int (nI nx), .int (nI ak), .int (nI ab), .int (nI tn), .int bd, .long sn, .int (nI bc)])), (lb, .inr (0, [.ref lr, .int (nI ln)])), (lr, .inl (kI, 2432, .inl lg))]) [0, 3, 4] rfl) (hK.sub (tys' := [(kI, .int)]) [0] rfl) hN hZ hS⟩ rfl rfl hl.1 rfl (lv_room (Nat.le_of_ble_eq_true rfl)) dX4_stored_2 ⟨Nat.le_of_ble_eq_true rfl, Nat.le_of_ble_eq_true rfl⟩) hS (fun _ _ h => h.elim) (fun _ h => h.elim) (fun _ _ h => h.elim) (fun E9 ce q9 u9 t9 H1 locs1 ht hvm hp hE hz hk hS hce hcv hcl => xt_pass hE htab hlocks hce hcv hcl hS (Nat.le_of_ble_eq_true rfl) (Nat.le_of_ble_eq_true rfl)) (fun u9 t9 H1 locs1 ht hvm hp => hp.elim)
set_option maxHeartbeats 4000000 in
set_option maxRecDepth 100000 in
theorem t_X4_head_X (l : Launch) (hst : l.stackTraces = false) (D : va_G) (kI : ClassId) (xx pb lb hL ra hhU hhO : Nat) (bg nx ak ab tn : Nat) (bd : Int32) (sn : Int64) (pr pn : Nat) (pf : Nat → Int32) (lr ln : Nat) (lg : Nat → Int32) (daL caL yaL : Nat) (fdL fcL fyL : Nat → Int32) (x0 x1 x2 : Int32) (x3 : Int64) (hfU huU daU caU yaU : Nat) (ggU fiU faU whU : Nat) (slU : Int64) (uuU : Nat → Nat) (fdU fcU fyU : Nat → Int32) (hfO huO daO caO yaO : Nat) (ggO fiO faO whO : Nat) (slO : Int64) (uuO : Nat → Nat) (fdO fcO fyO : Nat → Int32) (bc : Nat) (x : Int32) (hx0 : x < 0 ∨ nI 8 ≤ x) : vx_Met l yX4_head (.code yX4_head bX4_head 2 (some .int) :: GW) (rmL 6 1 6) (va_Pc [.ref xx, .int x] (pz_P D [(xx, .inr (4, [.ref pb, .ref lb, .ref hL, .ref ra, .ref hhU, .ref hhO, .int (nI bg), .int (nI nx), .int (nI ak), .int (nI ab), .int (nI tn), .int bd, .long sn, .int (nI bc)])), (pb, .inr (0, [.ref pr, .int (nI pn)])), (pr, .inl (kI, 24, .inl pf)), (lb, .inr (0, [.ref lr, .int (nI ln)])), (lr, .inl (kI, 2432, .inl lg)), (hL, .inr (1, [.ref daL, .ref caL, .ref yaL])), (daL, .inl (kI, 32, .inl fdL)), (caL, .inl (kI, 32, .inl fcL)), (yaL, .inl (kI, 768, .inl fyL)), (ra, .inr (3, [.int x0, .int x1, .int x2, .long x3])), (hhU, .inr (2, [.ref hfU, .ref huU, .int (nI ggU), .int (nI fiU), .int (nI faU), .long slU, .int (nI whU)])), (huU, .inl (kI, 4, .inl (fun j => nI (uuU j)))), (hfU, .inr (1, [.ref daU, .ref caU, .ref yaU])), (daU, .inl (kI, 32, .inl fdU)), (caU, .inl (kI, 32, .inl fcU)), (yaU, .inl (kI, 768, .inl fyU)), (hhO, .inr (2, [.ref hfO, .ref huO, .int (nI ggO), .int (nI fiO), .int (nI faO), .long slO, .int (nI whO)])), (huO, .inl (kI, 4, .inl (fun j => nI (uuO j)))), (hfO, .inr (1, [.ref daO, .ref caO, .ref yaO])), (daO, .inl (kI, 32, .inl fdO)), (caO, .inl (kI, 32, .inl fcO)), (yaO, .inl (kI, 768, .inl fyO))] [(kI, .int)])) xt_Qi (xt_X tX) 1 6 (fun _ => False) := by
  refine vx_ofW (cc := bX4_head) (maxL := 2) (ret := (some .int)) (by decide) rfl ?_
  intro p e s m args below meth c s₁ B hml htab hv
  obtain ⟨rfl, ⟨hP, hK, hN⟩, hZ⟩ := hv
  have hx := B.exec
  have hb := B.bytes
  have hr := B.returns
  have hg : ∀ w ∈ GW, w.before _ s = true := fun w h => atoms_spec (ws := Cond.code yX4_head bX4_head 2 (some .int) :: GW) B.pre w (List.mem_cons_of_mem _ h)
  have hown : s.vm.findClass "FindLog" = some m.cls := findClass_of_methodNamed B.named
  have hlocks := B.notSynchronized
  have hS : va_S (fun _ => False) s.heap s.heap [] := va_S.rf
  have hl := lv_entry ([.ref xx, .int x]) (n := 2) (Nat.le_of_ble_eq_true rfl)
  rw [lg_entry_eq]
  generalize (lg_sl ([.ref xx, .int x]) ++ List.replicate (2 - (lg_sl ([.ref xx, .int x])).length) Slot.unset).toArray = ls at hl ⊢
  have hl : lv_has ls 2 [(0, .ref xx), (1, .int x)] := hl
  refine lv_iload_n hx hb dX4_head_0 rfl (lv_at hl 1 rfl) ?_
  refine lv_tableOut (tgt := 100) hx hb dX4_head_1 (hx0.elim (fun h9 => Or.inl (by simpa using Int32.lt_iff_toInt_lt.mp h9)) (fun h9 => Or.inr (by have h8 := Int32.le_iff_toInt_le.mp h9; rw [nI_toInt (by decide)] at h8; omega))) (by decide) ?_
  exact xt_new hx hb hst hg hown (by decide +kernel) k_297 k_33 hN.2.2.2.2.2.2.2.2.2.2.2.2.2.2.2 at_X bt_X hN.2.1.2.2.1 hN ot_X hZ hS (hl.1.trans hml.symm) dX4_head_100 dX4_head_103 dX4_head_104 dX4_head_106 dX4_head_109 htab (Nat.le_of_ble_eq_true rfl) (Nat.le_of_ble_eq_true rfl) (Nat.le_of_ble_eq_true rfl) (Nat.le_of_ble_eq_true rfl) hlocks (Nat.le_of_ble_eq_true rfl) (Nat.le_of_ble_eq_true rfl)
