-- ===== heads =====
def fx_gu (u : Nat → Nat) : Nat → Nat
  | 0 => 0
  | k + 1 => if fx_gu u k < u k then u k else fx_gu u k
theorem fx_gu_lt {u : Nat → Nat} {b : Nat} (h0 : 0 < b) (h : ∀ j, j < 4 → u j < b) : ∀ k, k ≤ 4 → fx_gu u k < b
  | 0, _ => h0
  | k + 1, hk => by
    rw [fx_gu]
    by_cases h1 : fx_gu u k < u k
    · rw [if_pos h1]; exact h k (by omega)
    · rw [if_neg h1]; exact fx_gu_lt h0 h k (by omega)
theorem mx_nI {a b : Nat} (ha : a < 2 ^ 31) (hb : b < 2 ^ 31) : (if nI a < nI b then nI b else nI a) = nI (if a < b then b else a) := by
  by_cases h : a < b
  · rw [if_pos h, if_pos ((nI_ltI ha hb).mpr h)]
  · rw [if_neg h, if_neg (fun z => h ((nI_ltI ha hb).mp z))]
theorem cpy_u {u v : Nat → Nat} : ∀ j, j < 4 → va_cpy (fun j => nI (u j)) (fun j => nI (v j)) 0 0 4 j = (fun j => nI (u j)) j := fun j hj => by
  simp [va_cpy, hj]
theorem bl_nar {w : Nat} (h : w ≤ 1) : narrow .boolean (.int (nI w)) = .int (nI w) := by
  rcases (show w = 0 ∨ w = 1 by omega) with rfl | rfl <;> decide
theorem bl_fit {w : Nat} (h : w ≤ 1) : fits .boolean (.int (nI w)) = true := by
  rcases (show w = 0 ∨ w = 1 by omega) with rfl | rfl <;> decide
set_option maxHeartbeats 4000000 in
set_option maxRecDepth 100000 in
/-- is the act in the snapshot of its part -/
theorem c_X2_has (l : Launch) (D : va_G) (kI : ClassId) (hh hf hu da ca ya : Nat) (gg fi fa wh : Nat) (sl : Int64) (uu : Nat → Nat) (fd fc fy : Nat → Int32) (tt num : Nat) (ht : tt < 32) (hm : num < 2 ^ 31) (hu4 : ∀ j, j < 4 → uu j < 2 ^ 31) : Met l yX2_hasInSnapshot (.code yX2_hasInSnapshot bX2_hasInSnapshot 3 (some .boolean) :: GW) (rmL 0 0 0) (va_Pc [.ref hh, .int (nI tt), .int (nI num)] (pw_P D [(hh, .inr (2, [.ref hf, .ref hu, .int (nI gg), .int (nI fi), .int (nI fa), .long sl, .int (nI wh)])), (hu, .inl (kI, 4, .inl (fun j => nI (uu j)))), (hf, .inr (1, [.ref da, .ref ca, .ref ya])), (da, .inl (kI, 32, .inl fd)), (ca, .inl (kI, 32, .inl fc)), (ya, .inl (kI, 768, .inl fy))] [(kI, .int)])) (pw_Qi (if num < uu (tt % 4) then nI 1 else nI 0)) 0 0 (fun _ => False) := by
  refine Met.ofW (cc := bX2_hasInSnapshot) (maxL := 3) (ret := (some .boolean)) (by decide) rfl ?_
  intro p e s m args below meth c s₁ B hml hv
  obtain ⟨rfl, hP, hK, hN⟩ := hv
  have hx := B.exec
  have hb := B.bytes
  have hr := B.returns
  have hg : ∀ w ∈ GW, w.before _ s = true := fun w h => atoms_spec (ws := Cond.code yX2_hasInSnapshot bX2_hasInSnapshot 3 (some .boolean) :: GW) B.pre w (List.mem_cons_of_mem _ h)
  have hown : s.vm.findClass "FindLog$Head" = some m.cls := findClass_of_methodNamed B.named
  have hlocks := B.notSynchronized
  have hS : va_S (fun _ => False) s.heap s.heap [] := va_S.rf
  have hl := lv_entry ([.ref hh, .int (nI tt), .int (nI num)]) (n := 3) (Nat.le_of_ble_eq_true rfl)
  rw [lg_entry_eq]
  generalize (lg_sl ([.ref hh, .int (nI tt), .int (nI num)]) ++ List.replicate (3 - (lg_sl ([.ref hh, .int (nI tt), .int (nI num)])).length) Slot.unset).toArray = ls at hl ⊢
  have hl : lv_has ls 3 [(0, .ref hh), (1, .int (nI tt)), (2, .int (nI num))] := hl
  refine lv_iload_n hx hb dX2_hasInSnapshot_0 rfl (lv_at hl 1 rfl) ?_
  refine lv_if_ltN (tgt := 20) hx hb (by omega) dX2_hasInSnapshot_1 (by decide) (fun c_1 => absurd c_1 id) (fun c_1 => ?_)
  refine lv_iload_n hx hb dX2_hasInSnapshot_4 rfl (lv_at hl 2 rfl) ?_
  refine lv_aload_n hx hb dX2_hasInSnapshot_5 rfl (lv_at hl 0 rfl) ?_
  refine va_get (D := D) (ci := 2) (v := .ref hu) (C := "FindLog$Head") (T := TX2) (N := 7) hx hb hg inX2 hown hK hP 0 rfl rfl 1 (by decide) (hg _ k_107) (fun _ h9 => h9) rfl dX2_hasInSnapshot_6 ?_
  refine lv_iload_n hx hb dX2_hasInSnapshot_9 rfl (lv_at hl 1 rfl) ?_
  refine lv_iconst (v := nI 4) hx hb dX2_hasInSnapshot_10 (by decide) ?_
  refine lv_iremN hx hb (by omega) (by decide) (by decide) dX2_hasInSnapshot_11 ?_
  refine va_ialdN hx hb hK hP 1 0 rfl rfl (Nat.mod_lt _ (by decide)) (by omega) dX2_hasInSnapshot_12 ?_
  refine W.eq (g2 := F0 m 13 ls [.int (nI (uu (tt % 4))), .int (nI num)]) rfl ?_
  refine lv_icmp_geN (tgt := 20) hx hb (by omega) (hu4 _ (Nat.mod_lt _ (by decide))) dX2_hasInSnapshot_13 (by decide) (fun c_13 => ?_) (fun c_13 => ?_)
  · refine lv_iconst (v := nI 0) hx hb dX2_hasInSnapshot_20 (by decide) ?_
    exact W.zret (v := (nI 0)) hx hb hr (by decide) (fun t ht hW => ⟨⟨(nI 0), (), rfl, (if_neg (by omega)).symm, trivial⟩, hS.F ht⟩) (fun q hq => (hS.2.2 q hq).elim) dX2_hasInSnapshot_21
  · refine lv_iconst (v := nI 1) hx hb dX2_hasInSnapshot_16 (by decide) ?_
    refine lv_goto (tgt := 21) hx hb dX2_hasInSnapshot_17 (by decide) ?_
    exact W.zret (v := (nI 1)) hx hb hr (by decide) (fun t ht hW => ⟨⟨(nI 1), (), rfl, (if_pos c_13).symm, trivial⟩, hS.F ht⟩) (fun q hq => (hS.2.2 q hq).elim) dX2_hasInSnapshot_21
set_option maxHeartbeats 4000000 in
set_option maxRecDepth 100000 in
/-- the greatest up to -/
theorem c_X2_great (l : Launch) (D : va_G) (kI : ClassId) (hh hf hu da ca ya : Nat) (gg fi fa wh : Nat) (sl : Int64) (uu : Nat → Nat) (fd fc fy : Nat → Int32) (hu4 : ∀ j, j < 4 → uu j < 2 ^ 31) : Met l yX2_greatestUpTo (.code yX2_greatestUpTo bX2_greatestUpTo 3 (some .int) :: GW) (rmL 1 0 0) (va_Pc [.ref hh] (pw_P D [(hh, .inr (2, [.ref hf, .ref hu, .int (nI gg), .int (nI fi), .int (nI fa), .long sl, .int (nI wh)])), (hu, .inl (kI, 4, .inl (fun j => nI (uu j)))), (hf, .inr (1, [.ref da, .ref ca, .ref ya])), (da, .inl (kI, 32, .inl fd)), (ca, .inl (kI, 32, .inl fc)), (ya, .inl (kI, 768, .inl fy))] [(kI, .int)])) (pw_Qi (nI (fx_gu uu 4))) 0 0 (fun _ => False) := by
  refine Met.ofW (cc := bX2_greatestUpTo) (maxL := 3) (ret := (some .int)) (by decide) rfl ?_
  intro p e s m args below meth c s₁ B hml hv
  obtain ⟨rfl, hP, hK, hN⟩ := hv
  have hx := B.exec
  have hb := B.bytes
  have hr := B.returns
  have hg : ∀ w ∈ GW, w.before _ s = true := fun w h => atoms_spec (ws := Cond.code yX2_greatestUpTo bX2_greatestUpTo 3 (some .int) :: GW) B.pre w (List.mem_cons_of_mem _ h)
  have hown : s.vm.findClass "FindLog$Head" = some m.cls := findClass_of_methodNamed B.named
  have hlocks := B.notSynchronized
  have hS : va_S (fun _ => False) s.heap s.heap [] := va_S.rf
  have hl := lv_entry ([.ref hh]) (n := 3) (Nat.le_of_ble_eq_true rfl)
  rw [lg_entry_eq]
  generalize (lg_sl ([.ref hh]) ++ List.replicate (3 - (lg_sl ([.ref hh])).length) Slot.unset).toArray = ls at hl ⊢
  have hl : lv_has ls 3 [(0, .ref hh)] := hl
  refine lv_iconst (v := nI 0) hx hb dX2_greatestUpTo_0 (by decide) ?_
  refine lv_istore_n (lv' := [(1, .int (nI 0)), (0, .ref hh)]) hx hb dX2_greatestUpTo_1 rfl hl (by decide) rfl (fun ls hl => ?_)
  refine lv_iconst (v := nI 0) hx hb dX2_greatestUpTo_2 (by decide) ?_
  refine lv_istore_n (lv' := [(2, .int (nI 0)), (1, .int (nI 0)), (0, .ref hh)]) hx hb dX2_greatestUpTo_3 rfl hl (by decide) rfl (fun ls hl => ?_)
  have key : ∀ (e9 : Nat) (i : Nat) (H : Heap) (locs : List Loc) (ls : Array Slot), i + e9 = 4 → va_P D vwC [(hh, .inr (2, [.ref hf, .ref hu, .int (nI gg), .int (nI fi), .int (nI fa), .long sl, .int (nI wh)])), (hu, .inl (kI, 4, .inl (fun j => nI (uu j)))), (hf, .inr (1, [.ref da, .ref ca, .ref ya])), (da, .inl (kI, 32, .inl fd)), (ca, .inl (kI, 32, .inl fc)), (ya, .inl (kI, 768, .inl fy))] H → va_S (fun _ => False) s.heap H locs → lv_has ls 3 [(2, .int (nI i)), (1, .int (nI (fx_gu uu i))), (0, .ref hh)] → W p l e (rmL 1 0 0) s m ([.ref hh] : List Value).toArray below meth c H locs 0 0 (MQ below (pw_Qi (nI (fx_gu uu 4))) ([.ref hh] : List Value).toArray s 0 0 (fun _ => False)) (F0 m 4 ls []) := by
    intro e9
    induction e9 with
    | zero =>
      intro i H locs ls hd hP hS hl
      refine lv_iload_n hx hb dX2_greatestUpTo_4 rfl (lv_at hl 0 rfl) ?_
      refine lv_iconst (v := nI 4) hx hb dX2_greatestUpTo_5 (by decide) ?_
      refine lv_icmp_geN (tgt := 26) hx hb (by omega) (by omega) dX2_greatestUpTo_6 (by decide) (fun c_6 => ?_) (fun c_6 => absurd c_6 (by omega))
      refine lv_iload_n hx hb dX2_greatestUpTo_26 rfl (lv_at hl 1 rfl) ?_
      obtain rfl : i = 4 := by omega
      exact W.iret (v := (nI (fx_gu uu 4))) hx hb hr (fun t ht hW => ⟨⟨(nI (fx_gu uu 4)), (), rfl, rfl, trivial⟩, hS.F ht⟩) (fun q hq => (hS.2.2 q hq).elim) dX2_greatestUpTo_27
    | succ e9 ih =>
      intro i H locs ls hd hP hS hl
      refine lv_iload_n hx hb dX2_greatestUpTo_4 rfl (lv_at hl 0 rfl) ?_
      refine lv_iconst (v := nI 4) hx hb dX2_greatestUpTo_5 (by decide) ?_
      refine lv_icmp_geN (tgt := 26) hx hb (by omega) (by omega) dX2_greatestUpTo_6 (by decide) (fun c_6 => absurd c_6 (by omega)) (fun c_6 => ?_)
      refine lv_iload_n hx hb dX2_greatestUpTo_9 rfl (lv_at hl 1 rfl) ?_
      refine lv_aload_n hx hb dX2_greatestUpTo_10 rfl (lv_at hl 2 rfl) ?_
      refine va_get (D := D) (ci := 2) (v := .ref hu) (C := "FindLog$Head") (T := TX2) (N := 7) hx hb hg inX2 hown hK hP 0 rfl rfl 1 (by decide) (hg _ k_107) (fun _ h9 => h9) rfl dX2_greatestUpTo_11 ?_
      refine lv_iload_n hx hb dX2_greatestUpTo_14 rfl (lv_at hl 0 rfl) ?_
      refine va_ialdN hx hb hK hP 1 0 rfl rfl (by omega) (by omega) dX2_greatestUpTo_15 ?_
      refine W.eq (g2 := F0 m 16 ls [.int (nI (uu i)), .int (nI (fx_gu uu i))]) rfl ?_
      refine va_mmax hx hb (hml.trans hl.1.symm) hown (hg _ k_531) (hg _ k_532) (hg _ k_35) (hg _ k_533) (Nat.le_of_ble_eq_true rfl) (Nat.le_of_ble_eq_true rfl) (Nat.le_of_ble_eq_true rfl) (Nat.le_of_ble_eq_true rfl) dX2_greatestUpTo_16 ?_
      rw [mx_nI (fx_gu_lt (by decide) hu4 i (by omega)) (hu4 i (by omega))]
      refine W.eq (g2 := F0 m 19 ls [.int (nI (fx_gu uu (i + 1)))]) rfl ?_
      refine lv_istore_n (lv' := [(1, .int (nI (fx_gu uu (i + 1)))), (2, .int (nI i)), (0, .ref hh)]) hx hb dX2_greatestUpTo_19 rfl hl (by decide) rfl (fun ls hl => ?_)
      refine lv_iincN (x := i) (j := 1) (lv' := [(2, .int (nI (i + 1))), (1, .int (nI (fx_gu uu (i + 1)))), (0, .ref hh)]) hx hb dX2_greatestUpTo_20 hl (k := 1) rfl (by decide) (by decide) rfl (fun ls hl => ?_)
      refine lv_goto (tgt := 4) hx hb dX2_greatestUpTo_23 (by decide) ?_
      exact ih (i + 1) _ _ _ (by omega) hP hS (lv_sub hl [0, 1, 2] rfl)
  exact key 4 0 _ _ _ (by omega) hP hS (lv_sub hl [0, 1, 2] rfl)
set_option maxHeartbeats 4000000 in
set_option maxRecDepth 100000 in
/-- from where it is read -/
theorem c_X2_start (l : Launch) (D : va_G) (sz : Nat) (kI : ClassId) (hh hf hu da ca ya : Nat) (gg fi fa wh : Nat) (sl : Int64) (uu : Nat → Nat) (fd fc fy : Nat → Int32) (n1 n2 : Nat) (z : Int64) : Met l yX2_startFrom (.code yX2_startFrom bX2_startFrom 5 none :: GW) (rmL 0 0 0) (va_Pc [.ref hh, .int (nI n1), .int (nI n2), .long z] (ww_P D sz [(hh, .inr (2, [.ref hf, .ref hu, .int (nI gg), .int (nI fi), .int (nI fa), .long sl, .int (nI wh)])), (hu, .inl (kI, 4, .inl (fun j => nI (uu j)))), (hf, .inr (1, [.ref da, .ref ca, .ref ya])), (da, .inl (kI, 32, .inl fd)), (ca, .inl (kI, 32, .inl fc)), (ya, .inl (kI, 768, .inl fy))] [(kI, .int)])) (va_Qv (fun (u : Unit) => True) (fun (u : Unit) => ww_B D (va_A [(hh, .inr (2, [.ref hf, .ref hu, .int (nI gg), .int (nI fi), .int (nI fa), .long sl, .int (nI wh)])), (hu, .inl (kI, 4, .inl (fun j => nI (uu j)))), (hf, .inr (1, [.ref da, .ref ca, .ref ya])), (da, .inl (kI, 32, .inl fd)), (ca, .inl (kI, 32, .inl fc)), (ya, .inl (kI, 768, .inl fy))] sz) [(hh, .inr (2, [.ref hf, .ref hu, .int (nI gg), .int (nI n1), .int (nI n2), .long z, .int (nI wh)])), (hu, .inl (kI, 4, .inl (fun j => nI (uu j)))), (hf, .inr (1, [.ref da, .ref ca, .ref ya])), (da, .inl (kI, 32, .inl fd)), (ca, .inl (kI, 32, .inl fc)), (ya, .inl (kI, 768, .inl fy))] [(kI, .int)]) (va_A [(hh, .inr (2, [.ref hf, .ref hu, .int (nI gg), .int (nI fi), .int (nI fa), .long sl, .int (nI wh)])), (hu, .inl (kI, 4, .inl (fun j => nI (uu j)))), (hf, .inr (1, [.ref da, .ref ca, .ref ya])), (da, .inl (kI, 32, .inl fd)), (ca, .inl (kI, 32, .inl fc)), (ya, .inl (kI, 768, .inl fy))] sz)) 0 0 (va_A [(hh, .inr (2, [.ref hf, .ref hu, .int (nI gg), .int (nI fi), .int (nI fa), .long sl, .int (nI wh)])), (hu, .inl (kI, 4, .inl (fun j => nI (uu j)))), (hf, .inr (1, [.ref da, .ref ca, .ref ya])), (da, .inl (kI, 32, .inl fd)), (ca, .inl (kI, 32, .inl fc)), (ya, .inl (kI, 768, .inl fy))] sz) := by
  refine Met.ofW (cc := bX2_startFrom) (maxL := 5) (ret := none) (by decide) rfl ?_
  intro p e s m args below meth c s₁ B hml hv
  obtain ⟨rfl, hsz, hP, hK, hD0, hN⟩ := hv
  have hx := B.exec
  have hb := B.bytes
  have hr := B.returns
  have hg : ∀ w ∈ GW, w.before _ s = true := fun w h => atoms_spec (ws := Cond.code yX2_startFrom bX2_startFrom 5 none :: GW) B.pre w (List.mem_cons_of_mem _ h)
  have hown : s.vm.findClass "FindLog$Head" = some m.cls := findClass_of_methodNamed B.named
  have hlocks := B.notSynchronized
  subst hsz
  have hD := hD0.self (sz := s.heap.size)
  generalize hAe : va_A [(hh, .inr (2, [.ref hf, .ref hu, .int (nI gg), .int (nI fi), .int (nI fa), .long sl, .int (nI wh)])), (hu, .inl (kI, 4, .inl (fun j => nI (uu j)))), (hf, .inr (1, [.ref da, .ref ca, .ref ya])), (da, .inl (kI, 32, .inl fd)), (ca, .inl (kI, 32, .inl fc)), (ya, .inl (kI, 768, .inl fy))] s.heap.size = A at hD ⊢
  have hA : ∀ q : Nat, s.heap.size ≤ q → A q := fun q h => by rw [← hAe]; exact Or.inr h
  have hS : va_S A s.heap s.heap [] := va_S.rf
  have hl := lv_entry ([.ref hh, .int (nI n1), .int (nI n2), .long z]) (n := 5) (Nat.le_of_ble_eq_true rfl)
  rw [lg_entry_eq]
  generalize (lg_sl ([.ref hh, .int (nI n1), .int (nI n2), .long z]) ++ List.replicate (5 - (lg_sl ([.ref hh, .int (nI n1), .int (nI n2), .long z])).length) Slot.unset).toArray = ls at hl ⊢
  have hl : lv_has ls 5 [(0, .ref hh), (1, .int (nI n1)), (2, .int (nI n2)), (3, .long z)] := hl
  refine lv_aload_n hx hb dX2_startFrom_0 rfl (lv_at hl 0 rfl) ?_
  refine lv_iload_n hx hb dX2_startFrom_1 rfl (lv_at hl 1 rfl) ?_
  refine va_put (D := D) (ci := 2) (v := .int (nI n1)) (ty := .int) (C := "FindLog$Head") (T := TX2) (N := 7) hx hb hg inX2 tyX2 okX2 nmX2 hown hK hP hD hS 0 rfl rfl 3 (by decide) (hg _ k_110) (fun _ h9 => h9) rfl (by decide +kernel) rfl rfl (Nat.le_of_ble_eq_true rfl) dX2_startFrom_2 (fun H locs hP hD hS => ?_)
  have hP : va_P D vwC [(hh, .inr (2, [.ref hf, .ref hu, .int (nI gg), .int (nI n1), .int (nI fa), .long sl, .int (nI wh)])), (hu, .inl (kI, 4, .inl (fun j => nI (uu j)))), (hf, .inr (1, [.ref da, .ref ca, .ref ya])), (da, .inl (kI, 32, .inl fd)), (ca, .inl (kI, 32, .inl fc)), (ya, .inl (kI, 768, .inl fy))] H := hP
  have hD : va_D A [(hh, .inr (2, [.ref hf, .ref hu, .int (nI gg), .int (nI n1), .int (nI fa), .long sl, .int (nI wh)])), (hu, .inl (kI, 4, .inl (fun j => nI (uu j)))), (hf, .inr (1, [.ref da, .ref ca, .ref ya])), (da, .inl (kI, 32, .inl fd)), (ca, .inl (kI, 32, .inl fc)), (ya, .inl (kI, 768, .inl fy))] := hD
  refine lv_aload_n hx hb dX2_startFrom_5 rfl (lv_at hl 0 rfl) ?_
  refine lv_iload_n hx hb dX2_startFrom_6 rfl (lv_at hl 2 rfl) ?_
  refine va_put (D := D) (ci := 2) (v := .int (nI n2)) (ty := .int) (C := "FindLog$Head") (T := TX2) (N := 7) hx hb hg inX2 tyX2 okX2 nmX2 hown hK hP hD hS 0 rfl rfl 4 (by decide) (hg _ k_112) (fun _ h9 => h9) rfl (by decide +kernel) rfl rfl (Nat.le_of_ble_eq_true rfl) dX2_startFrom_7 (fun H locs hP hD hS => ?_)
  have hP : va_P D vwC [(hh, .inr (2, [.ref hf, .ref hu, .int (nI gg), .int (nI n1), .int (nI n2), .long sl, .int (nI wh)])), (hu, .inl (kI, 4, .inl (fun j => nI (uu j)))), (hf, .inr (1, [.ref da, .ref ca, .ref ya])), (da, .inl (kI, 32, .inl fd)), (ca, .inl (kI, 32, .inl fc)), (ya, .inl (kI, 768, .inl fy))] H := hP
  have hD : va_D A [(hh, .inr (2, [.ref hf, .ref hu, .int (nI gg), .int (nI n1), .int (nI n2), .long sl, .int (nI wh)])), (hu, .inl (kI, 4, .inl (fun j => nI (uu j)))), (hf, .inr (1, [.ref da, .ref ca, .ref ya])), (da, .inl (kI, 32, .inl fd)), (ca, .inl (kI, 32, .inl fc)), (ya, .inl (kI, 768, .inl fy))] := hD
  refine lv_aload_n hx hb dX2_startFrom_10 rfl (lv_at hl 0 rfl) ?_
  refine lv_lload_n hx hb dX2_startFrom_11 rfl (lv_at hl 3 rfl) ?_
  refine va_put (D := D) (ci := 2) (v := .long z) (ty := .long) (C := "FindLog$Head") (T := TX2) (N := 7) hx hb hg inX2 tyX2 okX2 nmX2 hown hK hP hD hS 0 rfl rfl 5 (by decide) (hg _ k_114) (fun _ h9 => h9) rfl (by decide +kernel) rfl rfl (Nat.le_of_ble_eq_true rfl) dX2_startFrom_12 (fun H locs hP hD hS => ?_)
  have hP : va_P D vwC [(hh, .inr (2, [.ref hf, .ref hu, .int (nI gg), .int (nI n1), .int (nI n2), .long z, .int (nI wh)])), (hu, .inl (kI, 4, .inl (fun j => nI (uu j)))), (hf, .inr (1, [.ref da, .ref ca, .ref ya])), (da, .inl (kI, 32, .inl fd)), (ca, .inl (kI, 32, .inl fc)), (ya, .inl (kI, 768, .inl fy))] H := hP
  have hD : va_D A [(hh, .inr (2, [.ref hf, .ref hu, .int (nI gg), .int (nI n1), .int (nI n2), .long z, .int (nI wh)])), (hu, .inl (kI, 4, .inl (fun j => nI (uu j)))), (hf, .inr (1, [.ref da, .ref ca, .ref ya])), (da, .inl (kI, 32, .inl fd)), (ca, .inl (kI, 32, .inl fc)), (ya, .inl (kI, 768, .inl fy))] := hD
  exact W.vret hx hb hr (fun t ht hW => ⟨⟨(), rfl, trivial, by rw [ht]; exact hP, va_K.moved hW.alike hK, hD⟩, hS.F ht⟩) hS.2.2 dX2_startFrom_15
set_option maxHeartbeats 4000000 in
set_option maxRecDepth 100000 in
/-- a new snapshot of a part -/
theorem c_X2_snap (l : Launch) (D : va_G) (sz : Nat) (kI : ClassId) (hh hf hu da ca ya : Nat) (gg fi fa wh : Nat) (sl : Int64) (uu : Nat → Nat) (fd fc fy : Nat → Int32) (h2 d2 c2 y2 : Nat) (gd gc gy : Nat → Int32) (p0 num : Nat) (hp : p0 < 4) : Met l yX2_takeSnapshot (.code yX2_takeSnapshot bX2_takeSnapshot 4 none :: GW) (rmL 1 0 0) (va_Pc [.ref hh, .int (nI p0), .ref h2, .int (nI num)] (ww_P D sz [(hh, .inr (2, [.ref hf, .ref hu, .int (nI gg), .int (nI fi), .int (nI fa), .long sl, .int (nI wh)])), (hu, .inl (kI, 4, .inl (fun j => nI (uu j)))), (hf, .inr (1, [.ref da, .ref ca, .ref ya])), (da, .inl (kI, 32, .inl fd)), (ca, .inl (kI, 32, .inl fc)), (ya, .inl (kI, 768, .inl fy)), (h2, .inr (1, [.ref d2, .ref c2, .ref y2])), (d2, .inl (kI, 32, .inl gd)), (c2, .inl (kI, 32, .inl gc)), (y2, .inl (kI, 768, .inl gy))] [(kI, .int)])) (va_Qv (fun (u : Unit) => True) (fun (u : Unit) => ww_B D (va_A [(hh, .inr (2, [.ref hf, .ref hu, .int (nI gg), .int (nI fi), .int (nI fa), .long sl, .int (nI wh)])), (hu, .inl (kI, 4, .inl (fun j => nI (uu j)))), (hf, .inr (1, [.ref da, .ref ca, .ref ya])), (da, .inl (kI, 32, .inl fd)), (ca, .inl (kI, 32, .inl fc)), (ya, .inl (kI, 768, .inl fy)), (h2, .inr (1, [.ref d2, .ref c2, .ref y2])), (d2, .inl (kI, 32, .inl gd)), (c2, .inl (kI, 32, .inl gc)), (y2, .inl (kI, 768, .inl gy))] sz) [(hh, .inr (2, [.ref hf, .ref hu, .int (nI gg), .int (nI fi), .int (nI fa), .long sl, .int (nI wh)])), (hu, .inl (kI, 4, .inl (fun j => nI ((uN uu p0 num) j)))), (hf, .inr (1, [.ref da, .ref ca, .ref ya])), (da, .inl (kI, 32, .inl (pt_d gd fd p0))), (ca, .inl (kI, 32, .inl (pt_d gc fc p0))), (ya, .inl (kI, 768, .inl (pt_y gy fy p0))), (h2, .inr (1, [.ref d2, .ref c2, .ref y2])), (d2, .inl (kI, 32, .inl gd)), (c2, .inl (kI, 32, .inl gc)), (y2, .inl (kI, 768, .inl gy))] [(kI, .int)]) (va_A [(hh, .inr (2, [.ref hf, .ref hu, .int (nI gg), .int (nI fi), .int (nI fa), .long sl, .int (nI wh)])), (hu, .inl (kI, 4, .inl (fun j => nI (uu j)))), (hf, .inr (1, [.ref da, .ref ca, .ref ya])), (da, .inl (kI, 32, .inl fd)), (ca, .inl (kI, 32, .inl fc)), (ya, .inl (kI, 768, .inl fy)), (h2, .inr (1, [.ref d2, .ref c2, .ref y2])), (d2, .inl (kI, 32, .inl gd)), (c2, .inl (kI, 32, .inl gc)), (y2, .inl (kI, 768, .inl gy))] sz)) 0 0 (va_A [(hh, .inr (2, [.ref hf, .ref hu, .int (nI gg), .int (nI fi), .int (nI fa), .long sl, .int (nI wh)])), (hu, .inl (kI, 4, .inl (fun j => nI (uu j)))), (hf, .inr (1, [.ref da, .ref ca, .ref ya])), (da, .inl (kI, 32, .inl fd)), (ca, .inl (kI, 32, .inl fc)), (ya, .inl (kI, 768, .inl fy)), (h2, .inr (1, [.ref d2, .ref c2, .ref y2])), (d2, .inl (kI, 32, .inl gd)), (c2, .inl (kI, 32, .inl gc)), (y2, .inl (kI, 768, .inl gy))] sz) := by
  refine Met.ofW (cc := bX2_takeSnapshot) (maxL := 4) (ret := none) (by decide) rfl ?_
  intro p e s m args below meth c s₁ B hml hv
  obtain ⟨rfl, hsz, hP, hK, hD0, hN⟩ := hv
  have hx := B.exec
  have hb := B.bytes
  have hr := B.returns
  have hg : ∀ w ∈ GW, w.before _ s = true := fun w h => atoms_spec (ws := Cond.code yX2_takeSnapshot bX2_takeSnapshot 4 none :: GW) B.pre w (List.mem_cons_of_mem _ h)
  have hown : s.vm.findClass "FindLog$Head" = some m.cls := findClass_of_methodNamed B.named
  have hlocks := B.notSynchronized
  subst hsz
  have hD := hD0.self (sz := s.heap.size)
  generalize hAe : va_A [(hh, .inr (2, [.ref hf, .ref hu, .int (nI gg), .int (nI fi), .int (nI fa), .long sl, .int (nI wh)])), (hu, .inl (kI, 4, .inl (fun j => nI (uu j)))), (hf, .inr (1, [.ref da, .ref ca, .ref ya])), (da, .inl (kI, 32, .inl fd)), (ca, .inl (kI, 32, .inl fc)), (ya, .inl (kI, 768, .inl fy)), (h2, .inr (1, [.ref d2, .ref c2, .ref y2])), (d2, .inl (kI, 32, .inl gd)), (c2, .inl (kI, 32, .inl gc)), (y2, .inl (kI, 768, .inl gy))] s.heap.size = A at hD ⊢
  have hA : ∀ q : Nat, s.heap.size ≤ q → A q := fun q h => by rw [← hAe]; exact Or.inr h
  have hS : va_S A s.heap s.heap [] := va_S.rf
  have hl := lv_entry ([.ref hh, .int (nI p0), .ref h2, .int (nI num)]) (n := 4) (Nat.le_of_ble_eq_true rfl)
  rw [lg_entry_eq]
  generalize (lg_sl ([.ref hh, .int (nI p0), .ref h2, .int (nI num)]) ++ List.replicate (4 - (lg_sl ([.ref hh, .int (nI p0), .ref h2, .int (nI num)])).length) Slot.unset).toArray = ls at hl ⊢
  have hl : lv_has ls 4 [(0, .ref hh), (1, .int (nI p0)), (2, .ref h2), (3, .int (nI num))] := hl
  refine lv_iload_n hx hb dX2_takeSnapshot_0 rfl (lv_at hl 1 rfl) ?_
  refine lv_if_ltN (tgt := 9) hx hb (by omega) dX2_takeSnapshot_1 (by decide) (fun c_1 => absurd c_1 id) (fun c_1 => ?_)
  refine lv_iload_n hx hb dX2_takeSnapshot_4 rfl (lv_at hl 1 rfl) ?_
  refine lv_iconst (v := nI 4) hx hb dX2_takeSnapshot_5 (by decide) ?_
  refine lv_icmp_ltN (tgt := 10) hx hb (by omega) (by omega) dX2_takeSnapshot_6 (by decide) (fun c_6 => ?_) (fun c_6 => absurd c_6 (by omega))
  refine lv_aload_n hx hb dX2_takeSnapshot_10 rfl (lv_at hl 0 rfl) ?_
  refine va_get (D := D) (ci := 2) (v := .ref hf) (C := "FindLog$Head") (T := TX2) (N := 7) hx hb hg inX2 hown hK hP 0 rfl rfl 0 (by decide) (hg _ k_105) (fun _ h9 => h9) rfl dX2_takeSnapshot_11 ?_
  refine lv_aload_n hx hb dX2_takeSnapshot_14 rfl (lv_at hl 2 rfl) ?_
  refine lv_iload_n hx hb dX2_takeSnapshot_15 rfl (lv_at hl 1 rfl) ?_
  refine ww_callv (wr := [(hh, .inr (2, [.ref hf, .ref hu, .int (nI gg), .int (nI fi), .int (nI fa), .long sl, .int (nI wh)])), (hu, .inl (kI, 4, .inl (fun j => nI (uu j))))]) (va_runV (As := [.ref h2, .int (nI p0)]) (rest := []) ⟨hx, hb, hml, hown, hg⟩ (c_X1_takePart l D _ kI hf da ca ya fd fc fy h2 d2 c2 y2 gd gc gy p0 hp) (cwV 2 hg (gw_V k_390 k_391 k_392 k_24 k_393) rfl rfl rfl (by decide +kernel) ⟨Nat.le_of_ble_eq_true rfl, Nat.le_of_ble_eq_true rfl⟩) ⟨ww_blind, va_recv hK hP (ci := 1) (q0 := 2) rfl rfl, ww_pre (hP.sub (ws' := [(hf, .inr (1, [.ref da, .ref ca, .ref ya])), (da, .inl (kI, 32, .inl fd)), (ca, .inl (kI, 32, .inl fc)), (ya, .inl (kI, 768, .inl fy)), (h2, .inr (1, [.ref d2, .ref c2, .ref y2])), (d2, .inl (kI, 32, .inl gd)), (c2, .inl (kI, 32, .inl gc)), (y2, .inl (kI, 768, .inl gy))]) [2, 3, 4, 5, 6, 7, 8, 9] rfl) (hD.sub (ws' := [(hf, .inr (1, [.ref da, .ref ca, .ref ya])), (da, .inl (kI, 32, .inl fd)), (ca, .inl (kI, 32, .inl fc)), (ya, .inl (kI, 768, .inl fy)), (h2, .inr (1, [.ref d2, .ref c2, .ref y2])), (d2, .inl (kI, 32, .inl gd)), (c2, .inl (kI, 32, .inl gc)), (y2, .inl (kI, 768, .inl gy))]) [2, 3, 4, 5, 6, 7, 8, 9] (by decide) rfl) (hK.sub (tys' := [(kI, .int)]) [0] rfl) hN⟩ rfl rfl hl.1 rfl (lv_room (Nat.le_of_ble_eq_true rfl)) dX2_takeSnapshot_16 ⟨Nat.le_of_ble_eq_true rfl, Nat.le_of_ble_eq_true rfl⟩) hS hA hP hD [2, 3, 4, 5, 6, 7, 8, 9] [0, 1] rfl rfl (by decide) (by decide) (fun u_ H locs hw hK' hP hD hS => ?_)
  have hP : va_P D vwC [(hh, .inr (2, [.ref hf, .ref hu, .int (nI gg), .int (nI fi), .int (nI fa), .long sl, .int (nI wh)])), (hu, .inl (kI, 4, .inl (fun j => nI (uu j)))), (hf, .inr (1, [.ref da, .ref ca, .ref ya])), (da, .inl (kI, 32, .inl (pt_d gd fd p0))), (ca, .inl (kI, 32, .inl (pt_d gc fc p0))), (ya, .inl (kI, 768, .inl (pt_y gy fy p0))), (h2, .inr (1, [.ref d2, .ref c2, .ref y2])), (d2, .inl (kI, 32, .inl gd)), (c2, .inl (kI, 32, .inl gc)), (y2, .inl (kI, 768, .inl gy))] H := hP.sub [0, 1, 2, 3, 4, 5, 6, 7, 8, 9] rfl
  have hD : va_D A [(hh, .inr (2, [.ref hf, .ref hu, .int (nI gg), .int (nI fi), .int (nI fa), .long sl, .int (nI wh)])), (hu, .inl (kI, 4, .inl (fun j => nI (uu j)))), (hf, .inr (1, [.ref da, .ref ca, .ref ya])), (da, .inl (kI, 32, .inl (pt_d gd fd p0))), (ca, .inl (kI, 32, .inl (pt_d gc fc p0))), (ya, .inl (kI, 768, .inl (pt_y gy fy p0))), (h2, .inr (1, [.ref d2, .ref c2, .ref y2])), (d2, .inl (kI, 32, .inl gd)), (c2, .inl (kI, 32, .inl gc)), (y2, .inl (kI, 768, .inl gy))] := hD.sub [0, 1, 2, 3, 4, 5, 6, 7, 8, 9] (by decide) rfl
  refine lv_aload_n hx hb dX2_takeSnapshot_19 rfl (lv_at hl 0 rfl) ?_
  refine va_get (D := D) (ci := 2) (v := .ref hu) (C := "FindLog$Head") (T := TX2) (N := 7) hx hb hg inX2 hown hK hP 0 rfl rfl 1 (by decide) (hg _ k_107) (fun _ h9 => h9) rfl dX2_takeSnapshot_20 ?_
  refine lv_iload_n hx hb dX2_takeSnapshot_23 rfl (lv_at hl 1 rfl) ?_
  refine lv_iload_n hx hb dX2_takeSnapshot_24 rfl (lv_at hl 3 rfl) ?_
  refine va_iastN hx hb hK hP hD hS 1 0 rfl rfl (by omega) (by omega) dX2_takeSnapshot_25 (fun H locs hP hD hS => ?_)
  have hP : va_P D vwC [(hh, .inr (2, [.ref hf, .ref hu, .int (nI gg), .int (nI fi), .int (nI fa), .long sl, .int (nI wh)])), (hu, .inl (kI, 4, .inl (upd (fun j => nI (uu j)) p0 (nI num)))), (hf, .inr (1, [.ref da, .ref ca, .ref ya])), (da, .inl (kI, 32, .inl (pt_d gd fd p0))), (ca, .inl (kI, 32, .inl (pt_d gc fc p0))), (ya, .inl (kI, 768, .inl (pt_y gy fy p0))), (h2, .inr (1, [.ref d2, .ref c2, .ref y2])), (d2, .inl (kI, 32, .inl gd)), (c2, .inl (kI, 32, .inl gc)), (y2, .inl (kI, 768, .inl gy))] H := hP
  have hD : va_D A [(hh, .inr (2, [.ref hf, .ref hu, .int (nI gg), .int (nI fi), .int (nI fa), .long sl, .int (nI wh)])), (hu, .inl (kI, 4, .inl (upd (fun j => nI (uu j)) p0 (nI num)))), (hf, .inr (1, [.ref da, .ref ca, .ref ya])), (da, .inl (kI, 32, .inl (pt_d gd fd p0))), (ca, .inl (kI, 32, .inl (pt_d gc fc p0))), (ya, .inl (kI, 768, .inl (pt_y gy fy p0))), (h2, .inr (1, [.ref d2, .ref c2, .ref y2])), (d2, .inl (kI, 32, .inl gd)), (c2, .inl (kI, 32, .inl gc)), (y2, .inl (kI, 768, .inl gy))] := hD
  rw [upd_nI] at hP hD
  exact W.vret hx hb hr (fun t ht hW => ⟨⟨(), rfl, trivial, by rw [ht]; exact hP, va_K.moved hW.alike hK, hD⟩, hS.F ht⟩) hS.2.2 dX2_takeSnapshot_26
set_option maxHeartbeats 4000000 in
set_option maxRecDepth 100000 in
/-- all as another head -/
theorem c_X2_copy (l : Launch) (D : va_G) (sz : Nat) (kI : ClassId) (hh hf hu da ca ya : Nat) (gg fi fa wh : Nat) (sl : Int64) (uu : Nat → Nat) (fd fc fy : Nat → Int32) (hh2 hf2 hu2 da2 ca2 ya2 : Nat) (gg2 fi2 fa2 wh2 : Nat) (sl2 : Int64) (uu2 : Nat → Nat) (fd2 fc2 fy2 : Nat → Int32) (hwh : wh2 ≤ 1) : Met l yX2_copy (.code yX2_copy bX2_copy 2 none :: GW) (rmL 1 0 0) (va_Pc [.ref hh, .ref hh2] (ww_P D sz [(hh, .inr (2, [.ref hf, .ref hu, .int (nI gg), .int (nI fi), .int (nI fa), .long sl, .int (nI wh)])), (hu, .inl (kI, 4, .inl (fun j => nI (uu j)))), (hf, .inr (1, [.ref da, .ref ca, .ref ya])), (da, .inl (kI, 32, .inl fd)), (ca, .inl (kI, 32, .inl fc)), (ya, .inl (kI, 768, .inl fy)), (hh2, .inr (2, [.ref hf2, .ref hu2, .int (nI gg2), .int (nI fi2), .int (nI fa2), .long sl2, .int (nI wh2)])), (hu2, .inl (kI, 4, .inl (fun j => nI (uu2 j)))), (hf2, .inr (1, [.ref da2, .ref ca2, .ref ya2])), (da2, .inl (kI, 32, .inl fd2)), (ca2, .inl (kI, 32, .inl fc2)), (ya2, .inl (kI, 768, .inl fy2))] [(kI, .int)])) (va_Qv (fun (u : Unit) => True) (fun (u : Unit) => ww_B D (va_A [(hh, .inr (2, [.ref hf, .ref hu, .int (nI gg), .int (nI fi), .int (nI fa), .long sl, .int (nI wh)])), (hu, .inl (kI, 4, .inl (fun j => nI (uu j)))), (hf, .inr (1, [.ref da, .ref ca, .ref ya])), (da, .inl (kI, 32, .inl fd)), (ca, .inl (kI, 32, .inl fc)), (ya, .inl (kI, 768, .inl fy)), (hh2, .inr (2, [.ref hf2, .ref hu2, .int (nI gg2), .int (nI fi2), .int (nI fa2), .long sl2, .int (nI wh2)])), (hu2, .inl (kI, 4, .inl (fun j => nI (uu2 j)))), (hf2, .inr (1, [.ref da2, .ref ca2, .ref ya2])), (da2, .inl (kI, 32, .inl fd2)), (ca2, .inl (kI, 32, .inl fc2)), (ya2, .inl (kI, 768, .inl fy2))] sz) [(hh, .inr (2, [.ref hf, .ref hu, .int (nI gg2), .int (nI fi2), .int (nI fa2), .long sl2, .int (nI wh2)])), (hu, .inl (kI, 4, .inl (fun j => nI (uu2 j)))), (hf, .inr (1, [.ref da, .ref ca, .ref ya])), (da, .inl (kI, 32, .inl fd2)), (ca, .inl (kI, 32, .inl fc2)), (ya, .inl (kI, 768, .inl fy2)), (hh2, .inr (2, [.ref hf2, .ref hu2, .int (nI gg2), .int (nI fi2), .int (nI fa2), .long sl2, .int (nI wh2)])), (hu2, .inl (kI, 4, .inl (fun j => nI (uu2 j)))), (hf2, .inr (1, [.ref da2, .ref ca2, .ref ya2])), (da2, .inl (kI, 32, .inl fd2)), (ca2, .inl (kI, 32, .inl fc2)), (ya2, .inl (kI, 768, .inl fy2))] [(kI, .int)]) (va_A [(hh, .inr (2, [.ref hf, .ref hu, .int (nI gg), .int (nI fi), .int (nI fa), .long sl, .int (nI wh)])), (hu, .inl (kI, 4, .inl (fun j => nI (uu j)))), (hf, .inr (1, [.ref da, .ref ca, .ref ya])), (da, .inl (kI, 32, .inl fd)), (ca, .inl (kI, 32, .inl fc)), (ya, .inl (kI, 768, .inl fy)), (hh2, .inr (2, [.ref hf2, .ref hu2, .int (nI gg2), .int (nI fi2), .int (nI fa2), .long sl2, .int (nI wh2)])), (hu2, .inl (kI, 4, .inl (fun j => nI (uu2 j)))), (hf2, .inr (1, [.ref da2, .ref ca2, .ref ya2])), (da2, .inl (kI, 32, .inl fd2)), (ca2, .inl (kI, 32, .inl fc2)), (ya2, .inl (kI, 768, .inl fy2))] sz)) 0 0 (va_A [(hh, .inr (2, [.ref hf, .ref hu, .int (nI gg), .int (nI fi), .int (nI fa), .long sl, .int (nI wh)])), (hu, .inl (kI, 4, .inl (fun j => nI (uu j)))), (hf, .inr (1, [.ref da, .ref ca, .ref ya])), (da, .inl (kI, 32, .inl fd)), (ca, .inl (kI, 32, .inl fc)), (ya, .inl (kI, 768, .inl fy)), (hh2, .inr (2, [.ref hf2, .ref hu2, .int (nI gg2), .int (nI fi2), .int (nI fa2), .long sl2, .int (nI wh2)])), (hu2, .inl (kI, 4, .inl (fun j => nI (uu2 j)))), (hf2, .inr (1, [.ref da2, .ref ca2, .ref ya2])), (da2, .inl (kI, 32, .inl fd2)), (ca2, .inl (kI, 32, .inl fc2)), (ya2, .inl (kI, 768, .inl fy2))] sz) := by
  refine Met.ofW (cc := bX2_copy) (maxL := 2) (ret := none) (by decide) rfl ?_
  intro p e s m args below meth c s₁ B hml hv
  obtain ⟨rfl, hsz, hP, hK, hD0, hN⟩ := hv
  have hx := B.exec
  have hb := B.bytes
  have hr := B.returns
  have hg : ∀ w ∈ GW, w.before _ s = true := fun w h => atoms_spec (ws := Cond.code yX2_copy bX2_copy 2 none :: GW) B.pre w (List.mem_cons_of_mem _ h)
  have hown : s.vm.findClass "FindLog$Head" = some m.cls := findClass_of_methodNamed B.named
  have hlocks := B.notSynchronized
  subst hsz
  have hD := hD0.self (sz := s.heap.size)
  generalize hAe : va_A [(hh, .inr (2, [.ref hf, .ref hu, .int (nI gg), .int (nI fi), .int (nI fa), .long sl, .int (nI wh)])), (hu, .inl (kI, 4, .inl (fun j => nI (uu j)))), (hf, .inr (1, [.ref da, .ref ca, .ref ya])), (da, .inl (kI, 32, .inl fd)), (ca, .inl (kI, 32, .inl fc)), (ya, .inl (kI, 768, .inl fy)), (hh2, .inr (2, [.ref hf2, .ref hu2, .int (nI gg2), .int (nI fi2), .int (nI fa2), .long sl2, .int (nI wh2)])), (hu2, .inl (kI, 4, .inl (fun j => nI (uu2 j)))), (hf2, .inr (1, [.ref da2, .ref ca2, .ref ya2])), (da2, .inl (kI, 32, .inl fd2)), (ca2, .inl (kI, 32, .inl fc2)), (ya2, .inl (kI, 768, .inl fy2))] s.heap.size = A at hD ⊢
  have hA : ∀ q : Nat, s.heap.size ≤ q → A q := fun q h => by rw [← hAe]; exact Or.inr h
  have hS : va_S A s.heap s.heap [] := va_S.rf
  have hl := lv_entry ([.ref hh, .ref hh2]) (n := 2) (Nat.le_of_ble_eq_true rfl)
  rw [lg_entry_eq]
  generalize (lg_sl ([.ref hh, .ref hh2]) ++ List.replicate (2 - (lg_sl ([.ref hh, .ref hh2])).length) Slot.unset).toArray = ls at hl ⊢
  have hl : lv_has ls 2 [(0, .ref hh), (1, .ref hh2)] := hl
  refine lv_aload_n hx hb dX2_copy_0 rfl (lv_at hl 0 rfl) ?_
  refine lv_aload_n hx hb dX2_copy_1 rfl (lv_at hl 1 rfl) ?_
  refine va_get (D := D) (ci := 2) (v := .int (nI gg2)) (C := "FindLog$Head") (T := TX2) (N := 7) hx hb hg inX2 hown hK hP 6 rfl rfl 2 (by decide) (hg _ k_108) (fun _ h9 => h9) rfl dX2_copy_2 ?_
  refine va_put (D := D) (ci := 2) (v := .int (nI gg2)) (ty := .int) (C := "FindLog$Head") (T := TX2) (N := 7) hx hb hg inX2 tyX2 okX2 nmX2 hown hK hP hD hS 0 rfl rfl 2 (by decide) (hg _ k_108) (fun _ h9 => h9) rfl (by decide +kernel) rfl rfl (Nat.le_of_ble_eq_true rfl) dX2_copy_5 (fun H locs hP hD hS => ?_)
  have hP : va_P D vwC [(hh, .inr (2, [.ref hf, .ref hu, .int (nI gg2), .int (nI fi), .int (nI fa), .long sl, .int (nI wh)])), (hu, .inl (kI, 4, .inl (fun j => nI (uu j)))), (hf, .inr (1, [.ref da, .ref ca, .ref ya])), (da, .inl (kI, 32, .inl fd)), (ca, .inl (kI, 32, .inl fc)), (ya, .inl (kI, 768, .inl fy)), (hh2, .inr (2, [.ref hf2, .ref hu2, .int (nI gg2), .int (nI fi2), .int (nI fa2), .long sl2, .int (nI wh2)])), (hu2, .inl (kI, 4, .inl (fun j => nI (uu2 j)))), (hf2, .inr (1, [.ref da2, .ref ca2, .ref ya2])), (da2, .inl (kI, 32, .inl fd2)), (ca2, .inl (kI, 32, .inl fc2)), (ya2, .inl (kI, 768, .inl fy2))] H := hP
  have hD : va_D A [(hh, .inr (2, [.ref hf, .ref hu, .int (nI gg2), .int (nI fi), .int (nI fa), .long sl, .int (nI wh)])), (hu, .inl (kI, 4, .inl (fun j => nI (uu j)))), (hf, .inr (1, [.ref da, .ref ca, .ref ya])), (da, .inl (kI, 32, .inl fd)), (ca, .inl (kI, 32, .inl fc)), (ya, .inl (kI, 768, .inl fy)), (hh2, .inr (2, [.ref hf2, .ref hu2, .int (nI gg2), .int (nI fi2), .int (nI fa2), .long sl2, .int (nI wh2)])), (hu2, .inl (kI, 4, .inl (fun j => nI (uu2 j)))), (hf2, .inr (1, [.ref da2, .ref ca2, .ref ya2])), (da2, .inl (kI, 32, .inl fd2)), (ca2, .inl (kI, 32, .inl fc2)), (ya2, .inl (kI, 768, .inl fy2))] := hD
  refine lv_aload_n hx hb dX2_copy_8 rfl (lv_at hl 0 rfl) ?_
  refine lv_aload_n hx hb dX2_copy_9 rfl (lv_at hl 1 rfl) ?_
  refine va_get (D := D) (ci := 2) (v := .int (nI fi2)) (C := "FindLog$Head") (T := TX2) (N := 7) hx hb hg inX2 hown hK hP 6 rfl rfl 3 (by decide) (hg _ k_110) (fun _ h9 => h9) rfl dX2_copy_10 ?_
  refine lv_aload_n hx hb dX2_copy_13 rfl (lv_at hl 1 rfl) ?_
  refine va_get (D := D) (ci := 2) (v := .int (nI fa2)) (C := "FindLog$Head") (T := TX2) (N := 7) hx hb hg inX2 hown hK hP 6 rfl rfl 4 (by decide) (hg _ k_112) (fun _ h9 => h9) rfl dX2_copy_14 ?_
  refine lv_aload_n hx hb dX2_copy_17 rfl (lv_at hl 1 rfl) ?_
  refine va_get (D := D) (ci := 2) (v := .long sl2) (C := "FindLog$Head") (T := TX2) (N := 7) hx hb hg inX2 hown hK hP 6 rfl rfl 5 (by decide) (hg _ k_114) (fun _ h9 => h9) rfl dX2_copy_18 ?_
  refine ww_callv (wr := [(hh2, .inr (2, [.ref hf2, .ref hu2, .int (nI gg2), .int (nI fi2), .int (nI fa2), .long sl2, .int (nI wh2)])), (hu2, .inl (kI, 4, .inl (fun j => nI (uu2 j)))), (hf2, .inr (1, [.ref da2, .ref ca2, .ref ya2])), (da2, .inl (kI, 32, .inl fd2)), (ca2, .inl (kI, 32, .inl fc2)), (ya2, .inl (kI, 768, .inl fy2))]) (va_runV (As := [.int (nI fi2), .int (nI fa2), .long sl2]) (rest := []) ⟨hx, hb, hml, hown, hg⟩ (c_X2_start l D _ kI hh hf hu da ca ya gg2 fi fa wh sl uu fd fc fy fi2 fa2 sl2) (cwV 3 hg (gw_V k_374 k_375 k_376 k_26 k_377) rfl rfl rfl (by decide +kernel) ⟨Nat.le_of_ble_eq_true rfl, Nat.le_of_ble_eq_true rfl⟩) ⟨ww_blind, va_recv hK hP (ci := 2) (q0 := 0) rfl rfl, ww_pre (hP.sub (ws' := [(hh, .inr (2, [.ref hf, .ref hu, .int (nI gg2), .int (nI fi), .int (nI fa), .long sl, .int (nI wh)])), (hu, .inl (kI, 4, .inl (fun j => nI (uu j)))), (hf, .inr (1, [.ref da, .ref ca, .ref ya])), (da, .inl (kI, 32, .inl fd)), (ca, .inl (kI, 32, .inl fc)), (ya, .inl (kI, 768, .inl fy))]) [0, 1, 2, 3, 4, 5] rfl) (hD.sub (ws' := [(hh, .inr (2, [.ref hf, .ref hu, .int (nI gg2), .int (nI fi), .int (nI fa), .long sl, .int (nI wh)])), (hu, .inl (kI, 4, .inl (fun j => nI (uu j)))), (hf, .inr (1, [.ref da, .ref ca, .ref ya])), (da, .inl (kI, 32, .inl fd)), (ca, .inl (kI, 32, .inl fc)), (ya, .inl (kI, 768, .inl fy))]) [0, 1, 2, 3, 4, 5] (by decide) rfl) (hK.sub (tys' := [(kI, .int)]) [0] rfl) hN⟩ rfl rfl hl.1 rfl (lv_room (Nat.le_of_ble_eq_true rfl)) dX2_copy_21 ⟨Nat.le_of_ble_eq_true rfl, Nat.le_of_ble_eq_true rfl⟩) hS hA hP hD [0, 1, 2, 3, 4, 5] [6, 7, 8, 9, 10, 11] rfl rfl (by decide) (by decide) (fun u_ H locs hw hK' hP hD hS => ?_)
  have hP : va_P D vwC [(hh, .inr (2, [.ref hf, .ref hu, .int (nI gg2), .int (nI fi2), .int (nI fa2), .long sl2, .int (nI wh)])), (hu, .inl (kI, 4, .inl (fun j => nI (uu j)))), (hf, .inr (1, [.ref da, .ref ca, .ref ya])), (da, .inl (kI, 32, .inl fd)), (ca, .inl (kI, 32, .inl fc)), (ya, .inl (kI, 768, .inl fy)), (hh2, .inr (2, [.ref hf2, .ref hu2, .int (nI gg2), .int (nI fi2), .int (nI fa2), .long sl2, .int (nI wh2)])), (hu2, .inl (kI, 4, .inl (fun j => nI (uu2 j)))), (hf2, .inr (1, [.ref da2, .ref ca2, .ref ya2])), (da2, .inl (kI, 32, .inl fd2)), (ca2, .inl (kI, 32, .inl fc2)), (ya2, .inl (kI, 768, .inl fy2))] H := hP.sub [6, 7, 8, 9, 10, 11, 0, 1, 2, 3, 4, 5] rfl
  have hD : va_D A [(hh, .inr (2, [.ref hf, .ref hu, .int (nI gg2), .int (nI fi2), .int (nI fa2), .long sl2, .int (nI wh)])), (hu, .inl (kI, 4, .inl (fun j => nI (uu j)))), (hf, .inr (1, [.ref da, .ref ca, .ref ya])), (da, .inl (kI, 32, .inl fd)), (ca, .inl (kI, 32, .inl fc)), (ya, .inl (kI, 768, .inl fy)), (hh2, .inr (2, [.ref hf2, .ref hu2, .int (nI gg2), .int (nI fi2), .int (nI fa2), .long sl2, .int (nI wh2)])), (hu2, .inl (kI, 4, .inl (fun j => nI (uu2 j)))), (hf2, .inr (1, [.ref da2, .ref ca2, .ref ya2])), (da2, .inl (kI, 32, .inl fd2)), (ca2, .inl (kI, 32, .inl fc2)), (ya2, .inl (kI, 768, .inl fy2))] := hD.sub [6, 7, 8, 9, 10, 11, 0, 1, 2, 3, 4, 5] (by decide) rfl
  refine lv_aload_n hx hb dX2_copy_24 rfl (lv_at hl 1 rfl) ?_
  refine va_get (D := D) (ci := 2) (v := .ref hu2) (C := "FindLog$Head") (T := TX2) (N := 7) hx hb hg inX2 hown hK hP 6 rfl rfl 1 (by decide) (hg _ k_107) (fun _ h9 => h9) rfl dX2_copy_25 ?_
  refine lv_iconst (v := nI 0) hx hb dX2_copy_28 (by decide) ?_
  refine lv_aload_n hx hb dX2_copy_29 rfl (lv_at hl 0 rfl) ?_
  refine va_get (D := D) (ci := 2) (v := .ref hu) (C := "FindLog$Head") (T := TX2) (N := 7) hx hb hg inX2 hown hK hP 0 rfl rfl 1 (by decide) (hg _ k_107) (fun _ h9 => h9) rfl dX2_copy_30 ?_
  refine lv_iconst (v := nI 0) hx hb dX2_copy_33 (by decide) ?_
  refine lv_iconst (v := nI 4) hx hb dX2_copy_34 (by decide) ?_
  refine va_copyiN (sp := 0) (dp := 0) (n := 4) hx hb (hml.trans hl.1.symm) hown (hg _ k_378) (hg _ k_380) (hg _ k_379) (hg _ k_34) hK hP hD hS 7 1 0 0 rfl rfl rfl rfl (by omega) (by omega) (by omega) (by omega) (Nat.le_of_ble_eq_true rfl) (Nat.le_of_ble_eq_true rfl) dX2_copy_35 (fun H locs hP hD hS => ?_)
  have hP : va_P D vwC [(hh, .inr (2, [.ref hf, .ref hu, .int (nI gg2), .int (nI fi2), .int (nI fa2), .long sl2, .int (nI wh)])), (hu, .inl (kI, 4, .inl (va_cpy (fun j => nI (uu2 j)) (fun j => nI (uu j)) 0 0 4))), (hf, .inr (1, [.ref da, .ref ca, .ref ya])), (da, .inl (kI, 32, .inl fd)), (ca, .inl (kI, 32, .inl fc)), (ya, .inl (kI, 768, .inl fy)), (hh2, .inr (2, [.ref hf2, .ref hu2, .int (nI gg2), .int (nI fi2), .int (nI fa2), .long sl2, .int (nI wh2)])), (hu2, .inl (kI, 4, .inl (fun j => nI (uu2 j)))), (hf2, .inr (1, [.ref da2, .ref ca2, .ref ya2])), (da2, .inl (kI, 32, .inl fd2)), (ca2, .inl (kI, 32, .inl fc2)), (ya2, .inl (kI, 768, .inl fy2))] H := hP
  have hD : va_D A [(hh, .inr (2, [.ref hf, .ref hu, .int (nI gg2), .int (nI fi2), .int (nI fa2), .long sl2, .int (nI wh)])), (hu, .inl (kI, 4, .inl (va_cpy (fun j => nI (uu2 j)) (fun j => nI (uu j)) 0 0 4))), (hf, .inr (1, [.ref da, .ref ca, .ref ya])), (da, .inl (kI, 32, .inl fd)), (ca, .inl (kI, 32, .inl fc)), (ya, .inl (kI, 768, .inl fy)), (hh2, .inr (2, [.ref hf2, .ref hu2, .int (nI gg2), .int (nI fi2), .int (nI fa2), .long sl2, .int (nI wh2)])), (hu2, .inl (kI, 4, .inl (fun j => nI (uu2 j)))), (hf2, .inr (1, [.ref da2, .ref ca2, .ref ya2])), (da2, .inl (kI, 32, .inl fd2)), (ca2, .inl (kI, 32, .inl fc2)), (ya2, .inl (kI, 768, .inl fy2))] := hD
  have hP := hP.ext (g := fun j => nI (uu2 j)) 1 rfl cpy_u
  have hD := hD.set (e := .inl (kI, 4, .inl (fun j => nI (uu2 j)))) (p := 1) rfl
  have hP : va_P D vwC [(hh, .inr (2, [.ref hf, .ref hu, .int (nI gg2), .int (nI fi2), .int (nI fa2), .long sl2, .int (nI wh)])), (hu, .inl (kI, 4, .inl (fun j => nI (uu2 j)))), (hf, .inr (1, [.ref da, .ref ca, .ref ya])), (da, .inl (kI, 32, .inl fd)), (ca, .inl (kI, 32, .inl fc)), (ya, .inl (kI, 768, .inl fy)), (hh2, .inr (2, [.ref hf2, .ref hu2, .int (nI gg2), .int (nI fi2), .int (nI fa2), .long sl2, .int (nI wh2)])), (hu2, .inl (kI, 4, .inl (fun j => nI (uu2 j)))), (hf2, .inr (1, [.ref da2, .ref ca2, .ref ya2])), (da2, .inl (kI, 32, .inl fd2)), (ca2, .inl (kI, 32, .inl fc2)), (ya2, .inl (kI, 768, .inl fy2))] H := hP
  have hD : va_D A [(hh, .inr (2, [.ref hf, .ref hu, .int (nI gg2), .int (nI fi2), .int (nI fa2), .long sl2, .int (nI wh)])), (hu, .inl (kI, 4, .inl (fun j => nI (uu2 j)))), (hf, .inr (1, [.ref da, .ref ca, .ref ya])), (da, .inl (kI, 32, .inl fd)), (ca, .inl (kI, 32, .inl fc)), (ya, .inl (kI, 768, .inl fy)), (hh2, .inr (2, [.ref hf2, .ref hu2, .int (nI gg2), .int (nI fi2), .int (nI fa2), .long sl2, .int (nI wh2)])), (hu2, .inl (kI, 4, .inl (fun j => nI (uu2 j)))), (hf2, .inr (1, [.ref da2, .ref ca2, .ref ya2])), (da2, .inl (kI, 32, .inl fd2)), (ca2, .inl (kI, 32, .inl fc2)), (ya2, .inl (kI, 768, .inl fy2))] := hD
  refine lv_aload_n hx hb dX2_copy_38 rfl (lv_at hl 0 rfl) ?_
  refine va_get (D := D) (ci := 2) (v := .ref hf) (C := "FindLog$Head") (T := TX2) (N := 7) hx hb hg inX2 hown hK hP 0 rfl rfl 0 (by decide) (hg _ k_105) (fun _ h9 => h9) rfl dX2_copy_39 ?_
  refine lv_aload_n hx hb dX2_copy_42 rfl (lv_at hl 1 rfl) ?_
  refine va_get (D := D) (ci := 2) (v := .ref hf2) (C := "FindLog$Head") (T := TX2) (N := 7) hx hb hg inX2 hown hK hP 6 rfl rfl 0 (by decide) (hg _ k_105) (fun _ h9 => h9) rfl dX2_copy_43 ?_
  refine ww_callv (wr := [(hh, .inr (2, [.ref hf, .ref hu, .int (nI gg2), .int (nI fi2), .int (nI fa2), .long sl2, .int (nI wh)])), (hu, .inl (kI, 4, .inl (fun j => nI (uu2 j)))), (hh2, .inr (2, [.ref hf2, .ref hu2, .int (nI gg2), .int (nI fi2), .int (nI fa2), .long sl2, .int (nI wh2)])), (hu2, .inl (kI, 4, .inl (fun j => nI (uu2 j))))]) (va_runV (As := [.ref hf2]) (rest := []) ⟨hx, hb, hml, hown, hg⟩ (c_X1_takeAll l D _ kI hf da ca ya fd fc fy hf2 da2 ca2 ya2 fd2 fc2 fy2) (cwV 1 hg (gw_V k_381 k_382 k_383 k_24 k_384) rfl rfl rfl (by decide +kernel) ⟨Nat.le_of_ble_eq_true rfl, Nat.le_of_ble_eq_true rfl⟩) ⟨ww_blind, va_recv hK hP (ci := 1) (q0 := 2) rfl rfl, ww_pre (hP.sub (ws' := [(hf, .inr (1, [.ref da, .ref ca, .ref ya])), (da, .inl (kI, 32, .inl fd)), (ca, .inl (kI, 32, .inl fc)), (ya, .inl (kI, 768, .inl fy)), (hf2, .inr (1, [.ref da2, .ref ca2, .ref ya2])), (da2, .inl (kI, 32, .inl fd2)), (ca2, .inl (kI, 32, .inl fc2)), (ya2, .inl (kI, 768, .inl fy2))]) [2, 3, 4, 5, 8, 9, 10, 11] rfl) (hD.sub (ws' := [(hf, .inr (1, [.ref da, .ref ca, .ref ya])), (da, .inl (kI, 32, .inl fd)), (ca, .inl (kI, 32, .inl fc)), (ya, .inl (kI, 768, .inl fy)), (hf2, .inr (1, [.ref da2, .ref ca2, .ref ya2])), (da2, .inl (kI, 32, .inl fd2)), (ca2, .inl (kI, 32, .inl fc2)), (ya2, .inl (kI, 768, .inl fy2))]) [2, 3, 4, 5, 8, 9, 10, 11] (by decide) rfl) (hK.sub (tys' := [(kI, .int)]) [0] rfl) hN⟩ rfl rfl hl.1 rfl (lv_room (Nat.le_of_ble_eq_true rfl)) dX2_copy_46 ⟨Nat.le_of_ble_eq_true rfl, Nat.le_of_ble_eq_true rfl⟩) hS hA hP hD [2, 3, 4, 5, 8, 9, 10, 11] [0, 1, 6, 7] rfl rfl (by decide) (by decide) (fun u_ H locs hw hK' hP hD hS => ?_)
  have hP : va_P D vwC [(hh, .inr (2, [.ref hf, .ref hu, .int (nI gg2), .int (nI fi2), .int (nI fa2), .long sl2, .int (nI wh)])), (hu, .inl (kI, 4, .inl (fun j => nI (uu2 j)))), (hf, .inr (1, [.ref da, .ref ca, .ref ya])), (da, .inl (kI, 32, .inl fd2)), (ca, .inl (kI, 32, .inl fc2)), (ya, .inl (kI, 768, .inl fy2)), (hh2, .inr (2, [.ref hf2, .ref hu2, .int (nI gg2), .int (nI fi2), .int (nI fa2), .long sl2, .int (nI wh2)])), (hu2, .inl (kI, 4, .inl (fun j => nI (uu2 j)))), (hf2, .inr (1, [.ref da2, .ref ca2, .ref ya2])), (da2, .inl (kI, 32, .inl fd2)), (ca2, .inl (kI, 32, .inl fc2)), (ya2, .inl (kI, 768, .inl fy2))] H := hP.sub [0, 1, 4, 5, 6, 7, 2, 3, 8, 9, 10, 11] rfl
  have hD : va_D A [(hh, .inr (2, [.ref hf, .ref hu, .int (nI gg2), .int (nI fi2), .int (nI fa2), .long sl2, .int (nI wh)])), (hu, .inl (kI, 4, .inl (fun j => nI (uu2 j)))), (hf, .inr (1, [.ref da, .ref ca, .ref ya])), (da, .inl (kI, 32, .inl fd2)), (ca, .inl (kI, 32, .inl fc2)), (ya, .inl (kI, 768, .inl fy2)), (hh2, .inr (2, [.ref hf2, .ref hu2, .int (nI gg2), .int (nI fi2), .int (nI fa2), .long sl2, .int (nI wh2)])), (hu2, .inl (kI, 4, .inl (fun j => nI (uu2 j)))), (hf2, .inr (1, [.ref da2, .ref ca2, .ref ya2])), (da2, .inl (kI, 32, .inl fd2)), (ca2, .inl (kI, 32, .inl fc2)), (ya2, .inl (kI, 768, .inl fy2))] := hD.sub [0, 1, 4, 5, 6, 7, 2, 3, 8, 9, 10, 11] (by decide) rfl
  refine lv_aload_n hx hb dX2_copy_49 rfl (lv_at hl 0 rfl) ?_
  refine lv_aload_n hx hb dX2_copy_50 rfl (lv_at hl 1 rfl) ?_
  refine va_get (D := D) (ci := 2) (v := .int (nI wh2)) (C := "FindLog$Head") (T := TX2) (N := 7) hx hb hg inX2 hown hK hP 6 rfl rfl 6 (by decide) (hg _ k_116) (fun _ h9 => h9) rfl dX2_copy_51 ?_
  refine va_put (D := D) (ci := 2) (v := .int (nI wh2)) (ty := .boolean) (C := "FindLog$Head") (T := TX2) (N := 7) hx hb hg inX2 tyX2 okX2 nmX2 hown hK hP hD hS 0 rfl rfl 6 (by decide) (hg _ k_116) (fun _ h9 => h9) rfl (by decide +kernel) (bl_nar hwh) (bl_fit hwh) (Nat.le_of_ble_eq_true rfl) dX2_copy_54 (fun H locs hP hD hS => ?_)
  have hP : va_P D vwC [(hh, .inr (2, [.ref hf, .ref hu, .int (nI gg2), .int (nI fi2), .int (nI fa2), .long sl2, .int (nI wh2)])), (hu, .inl (kI, 4, .inl (fun j => nI (uu2 j)))), (hf, .inr (1, [.ref da, .ref ca, .ref ya])), (da, .inl (kI, 32, .inl fd2)), (ca, .inl (kI, 32, .inl fc2)), (ya, .inl (kI, 768, .inl fy2)), (hh2, .inr (2, [.ref hf2, .ref hu2, .int (nI gg2), .int (nI fi2), .int (nI fa2), .long sl2, .int (nI wh2)])), (hu2, .inl (kI, 4, .inl (fun j => nI (uu2 j)))), (hf2, .inr (1, [.ref da2, .ref ca2, .ref ya2])), (da2, .inl (kI, 32, .inl fd2)), (ca2, .inl (kI, 32, .inl fc2)), (ya2, .inl (kI, 768, .inl fy2))] H := hP
  have hD : va_D A [(hh, .inr (2, [.ref hf, .ref hu, .int (nI gg2), .int (nI fi2), .int (nI fa2), .long sl2, .int (nI wh2)])), (hu, .inl (kI, 4, .inl (fun j => nI (uu2 j)))), (hf, .inr (1, [.ref da, .ref ca, .ref ya])), (da, .inl (kI, 32, .inl fd2)), (ca, .inl (kI, 32, .inl fc2)), (ya, .inl (kI, 768, .inl fy2)), (hh2, .inr (2, [.ref hf2, .ref hu2, .int (nI gg2), .int (nI fi2), .int (nI fa2), .long sl2, .int (nI wh2)])), (hu2, .inl (kI, 4, .inl (fun j => nI (uu2 j)))), (hf2, .inr (1, [.ref da2, .ref ca2, .ref ya2])), (da2, .inl (kI, 32, .inl fd2)), (ca2, .inl (kI, 32, .inl fc2)), (ya2, .inl (kI, 768, .inl fy2))] := hD
  exact W.vret hx hb hr (fun t ht hW => ⟨⟨(), rfl, trivial, by rw [ht]; exact hP, va_K.moved hW.alike hK, hD⟩, hS.F ht⟩) hS.2.2 dX2_copy_57
set_option maxHeartbeats 4000000 in
set_option maxRecDepth 100000 in
/-- as another head, of the next generation -/
theorem c_X2_follow (l : Launch) (D : va_G) (sz : Nat) (kI : ClassId) (hh hf hu da ca ya : Nat) (gg fi fa wh : Nat) (sl : Int64) (uu : Nat → Nat) (fd fc fy : Nat → Int32) (hh2 hf2 hu2 da2 ca2 ya2 : Nat) (gg2 fi2 fa2 wh2 : Nat) (sl2 : Int64) (uu2 : Nat → Nat) (fd2 fc2 fy2 : Nat → Int32) (hwh : wh2 ≤ 1) : Met l yX2_follow (.code yX2_follow bX2_follow 2 none :: GW) (rmL 2 0 0) (va_Pc [.ref hh, .ref hh2] (ww_P D sz [(hh, .inr (2, [.ref hf, .ref hu, .int (nI gg), .int (nI fi), .int (nI fa), .long sl, .int (nI wh)])), (hu, .inl (kI, 4, .inl (fun j => nI (uu j)))), (hf, .inr (1, [.ref da, .ref ca, .ref ya])), (da, .inl (kI, 32, .inl fd)), (ca, .inl (kI, 32, .inl fc)), (ya, .inl (kI, 768, .inl fy)), (hh2, .inr (2, [.ref hf2, .ref hu2, .int (nI gg2), .int (nI fi2), .int (nI fa2), .long sl2, .int (nI wh2)])), (hu2, .inl (kI, 4, .inl (fun j => nI (uu2 j)))), (hf2, .inr (1, [.ref da2, .ref ca2, .ref ya2])), (da2, .inl (kI, 32, .inl fd2)), (ca2, .inl (kI, 32, .inl fc2)), (ya2, .inl (kI, 768, .inl fy2))] [(kI, .int)])) (va_Qv (fun (u : Unit) => True) (fun (u : Unit) => ww_B D (va_A [(hh, .inr (2, [.ref hf, .ref hu, .int (nI gg), .int (nI fi), .int (nI fa), .long sl, .int (nI wh)])), (hu, .inl (kI, 4, .inl (fun j => nI (uu j)))), (hf, .inr (1, [.ref da, .ref ca, .ref ya])), (da, .inl (kI, 32, .inl fd)), (ca, .inl (kI, 32, .inl fc)), (ya, .inl (kI, 768, .inl fy)), (hh2, .inr (2, [.ref hf2, .ref hu2, .int (nI gg2), .int (nI fi2), .int (nI fa2), .long sl2, .int (nI wh2)])), (hu2, .inl (kI, 4, .inl (fun j => nI (uu2 j)))), (hf2, .inr (1, [.ref da2, .ref ca2, .ref ya2])), (da2, .inl (kI, 32, .inl fd2)), (ca2, .inl (kI, 32, .inl fc2)), (ya2, .inl (kI, 768, .inl fy2))] sz) [(hh, .inr (2, [.ref hf, .ref hu, .int (nI (gg2 + 1)), .int (nI fi2), .int (nI fa2), .long sl2, .int (nI wh2)])), (hu, .inl (kI, 4, .inl (fun j => nI (uu2 j)))), (hf, .inr (1, [.ref da, .ref ca, .ref ya])), (da, .inl (kI, 32, .inl fd2)), (ca, .inl (kI, 32, .inl fc2)), (ya, .inl (kI, 768, .inl fy2)), (hh2, .inr (2, [.ref hf2, .ref hu2, .int (nI gg2), .int (nI fi2), .int (nI fa2), .long sl2, .int (nI wh2)])), (hu2, .inl (kI, 4, .inl (fun j => nI (uu2 j)))), (hf2, .inr (1, [.ref da2, .ref ca2, .ref ya2])), (da2, .inl (kI, 32, .inl fd2)), (ca2, .inl (kI, 32, .inl fc2)), (ya2, .inl (kI, 768, .inl fy2))] [(kI, .int)]) (va_A [(hh, .inr (2, [.ref hf, .ref hu, .int (nI gg), .int (nI fi), .int (nI fa), .long sl, .int (nI wh)])), (hu, .inl (kI, 4, .inl (fun j => nI (uu j)))), (hf, .inr (1, [.ref da, .ref ca, .ref ya])), (da, .inl (kI, 32, .inl fd)), (ca, .inl (kI, 32, .inl fc)), (ya, .inl (kI, 768, .inl fy)), (hh2, .inr (2, [.ref hf2, .ref hu2, .int (nI gg2), .int (nI fi2), .int (nI fa2), .long sl2, .int (nI wh2)])), (hu2, .inl (kI, 4, .inl (fun j => nI (uu2 j)))), (hf2, .inr (1, [.ref da2, .ref ca2, .ref ya2])), (da2, .inl (kI, 32, .inl fd2)), (ca2, .inl (kI, 32, .inl fc2)), (ya2, .inl (kI, 768, .inl fy2))] sz)) 0 0 (va_A [(hh, .inr (2, [.ref hf, .ref hu, .int (nI gg), .int (nI fi), .int (nI fa), .long sl, .int (nI wh)])), (hu, .inl (kI, 4, .inl (fun j => nI (uu j)))), (hf, .inr (1, [.ref da, .ref ca, .ref ya])), (da, .inl (kI, 32, .inl fd)), (ca, .inl (kI, 32, .inl fc)), (ya, .inl (kI, 768, .inl fy)), (hh2, .inr (2, [.ref hf2, .ref hu2, .int (nI gg2), .int (nI fi2), .int (nI fa2), .long sl2, .int (nI wh2)])), (hu2, .inl (kI, 4, .inl (fun j => nI (uu2 j)))), (hf2, .inr (1, [.ref da2, .ref ca2, .ref ya2])), (da2, .inl (kI, 32, .inl fd2)), (ca2, .inl (kI, 32, .inl fc2)), (ya2, .inl (kI, 768, .inl fy2))] sz) := by
  refine Met.ofW (cc := bX2_follow) (maxL := 2) (ret := none) (by decide) rfl ?_
  intro p e s m args below meth c s₁ B hml hv
  obtain ⟨rfl, hsz, hP, hK, hD0, hN⟩ := hv
  have hx := B.exec
  have hb := B.bytes
  have hr := B.returns
  have hg : ∀ w ∈ GW, w.before _ s = true := fun w h => atoms_spec (ws := Cond.code yX2_follow bX2_follow 2 none :: GW) B.pre w (List.mem_cons_of_mem _ h)
  have hown : s.vm.findClass "FindLog$Head" = some m.cls := findClass_of_methodNamed B.named
  have hlocks := B.notSynchronized
  subst hsz
  have hD := hD0.self (sz := s.heap.size)
  generalize hAe : va_A [(hh, .inr (2, [.ref hf, .ref hu, .int (nI gg), .int (nI fi), .int (nI fa), .long sl, .int (nI wh)])), (hu, .inl (kI, 4, .inl (fun j => nI (uu j)))), (hf, .inr (1, [.ref da, .ref ca, .ref ya])), (da, .inl (kI, 32, .inl fd)), (ca, .inl (kI, 32, .inl fc)), (ya, .inl (kI, 768, .inl fy)), (hh2, .inr (2, [.ref hf2, .ref hu2, .int (nI gg2), .int (nI fi2), .int (nI fa2), .long sl2, .int (nI wh2)])), (hu2, .inl (kI, 4, .inl (fun j => nI (uu2 j)))), (hf2, .inr (1, [.ref da2, .ref ca2, .ref ya2])), (da2, .inl (kI, 32, .inl fd2)), (ca2, .inl (kI, 32, .inl fc2)), (ya2, .inl (kI, 768, .inl fy2))] s.heap.size = A at hD ⊢
  have hA : ∀ q : Nat, s.heap.size ≤ q → A q := fun q h => by rw [← hAe]; exact Or.inr h
  have hS : va_S A s.heap s.heap [] := va_S.rf
  have hl := lv_entry ([.ref hh, .ref hh2]) (n := 2) (Nat.le_of_ble_eq_true rfl)
  rw [lg_entry_eq]
  generalize (lg_sl ([.ref hh, .ref hh2]) ++ List.replicate (2 - (lg_sl ([.ref hh, .ref hh2])).length) Slot.unset).toArray = ls at hl ⊢
  have hl : lv_has ls 2 [(0, .ref hh), (1, .ref hh2)] := hl
  refine lv_aload_n hx hb dX2_follow_0 rfl (lv_at hl 0 rfl) ?_
  refine lv_aload_n hx hb dX2_follow_1 rfl (lv_at hl 1 rfl) ?_
  refine ww_callv (wr := []) (va_runV (As := [.ref hh2]) (rest := []) ⟨hx, hb, hml, hown, hg⟩ (c_X2_copy l D _ kI hh hf hu da ca ya gg fi fa wh sl uu fd fc fy hh2 hf2 hu2 da2 ca2 ya2 gg2 fi2 fa2 wh2 sl2 uu2 fd2 fc2 fy2 hwh) (cwV 1 hg (gw_V k_370 k_371 k_372 k_26 k_373) rfl rfl rfl (by decide +kernel) ⟨Nat.le_of_ble_eq_true rfl, Nat.le_of_ble_eq_true rfl⟩) ⟨ww_blind, va_recv hK hP (ci := 2) (q0 := 0) rfl rfl, ww_pre (hP.sub (ws' := [(hh, .inr (2, [.ref hf, .ref hu, .int (nI gg), .int (nI fi), .int (nI fa), .long sl, .int (nI wh)])), (hu, .inl (kI, 4, .inl (fun j => nI (uu j)))), (hf, .inr (1, [.ref da, .ref ca, .ref ya])), (da, .inl (kI, 32, .inl fd)), (ca, .inl (kI, 32, .inl fc)), (ya, .inl (kI, 768, .inl fy)), (hh2, .inr (2, [.ref hf2, .ref hu2, .int (nI gg2), .int (nI fi2), .int (nI fa2), .long sl2, .int (nI wh2)])), (hu2, .inl (kI, 4, .inl (fun j => nI (uu2 j)))), (hf2, .inr (1, [.ref da2, .ref ca2, .ref ya2])), (da2, .inl (kI, 32, .inl fd2)), (ca2, .inl (kI, 32, .inl fc2)), (ya2, .inl (kI, 768, .inl fy2))]) [0, 1, 2, 3, 4, 5, 6, 7, 8, 9, 10, 11] rfl) (hD.sub (ws' := [(hh, .inr (2, [.ref hf, .ref hu, .int (nI gg), .int (nI fi), .int (nI fa), .long sl, .int (nI wh)])), (hu, .inl (kI, 4, .inl (fun j => nI (uu j)))), (hf, .inr (1, [.ref da, .ref ca, .ref ya])), (da, .inl (kI, 32, .inl fd)), (ca, .inl (kI, 32, .inl fc)), (ya, .inl (kI, 768, .inl fy)), (hh2, .inr (2, [.ref hf2, .ref hu2, .int (nI gg2), .int (nI fi2), .int (nI fa2), .long sl2, .int (nI wh2)])), (hu2, .inl (kI, 4, .inl (fun j => nI (uu2 j)))), (hf2, .inr (1, [.ref da2, .ref ca2, .ref ya2])), (da2, .inl (kI, 32, .inl fd2)), (ca2, .inl (kI, 32, .inl fc2)), (ya2, .inl (kI, 768, .inl fy2))]) [0, 1, 2, 3, 4, 5, 6, 7, 8, 9, 10, 11] (by decide) rfl) (hK.sub (tys' := [(kI, .int)]) [0] rfl) hN⟩ rfl rfl hl.1 rfl (lv_room (Nat.le_of_ble_eq_true rfl)) dX2_follow_2 ⟨Nat.le_of_ble_eq_true rfl, Nat.le_of_ble_eq_true rfl⟩) hS hA hP hD [0, 1, 2, 3, 4, 5, 6, 7, 8, 9, 10, 11] [] rfl rfl (by decide) (by decide) (fun u_ H locs hw hK' hP hD hS => ?_)
  have hP : va_P D vwC [(hh, .inr (2, [.ref hf, .ref hu, .int (nI gg2), .int (nI fi2), .int (nI fa2), .long sl2, .int (nI wh2)])), (hu, .inl (kI, 4, .inl (fun j => nI (uu2 j)))), (hf, .inr (1, [.ref da, .ref ca, .ref ya])), (da, .inl (kI, 32, .inl fd2)), (ca, .inl (kI, 32, .inl fc2)), (ya, .inl (kI, 768, .inl fy2)), (hh2, .inr (2, [.ref hf2, .ref hu2, .int (nI gg2), .int (nI fi2), .int (nI fa2), .long sl2, .int (nI wh2)])), (hu2, .inl (kI, 4, .inl (fun j => nI (uu2 j)))), (hf2, .inr (1, [.ref da2, .ref ca2, .ref ya2])), (da2, .inl (kI, 32, .inl fd2)), (ca2, .inl (kI, 32, .inl fc2)), (ya2, .inl (kI, 768, .inl fy2))] H := hP.sub [0, 1, 2, 3, 4, 5, 6, 7, 8, 9, 10, 11] rfl
  have hD : va_D A [(hh, .inr (2, [.ref hf, .ref hu, .int (nI gg2), .int (nI fi2), .int (nI fa2), .long sl2, .int (nI wh2)])), (hu, .inl (kI, 4, .inl (fun j => nI (uu2 j)))), (hf, .inr (1, [.ref da, .ref ca, .ref ya])), (da, .inl (kI, 32, .inl fd2)), (ca, .inl (kI, 32, .inl fc2)), (ya, .inl (kI, 768, .inl fy2)), (hh2, .inr (2, [.ref hf2, .ref hu2, .int (nI gg2), .int (nI fi2), .int (nI fa2), .long sl2, .int (nI wh2)])), (hu2, .inl (kI, 4, .inl (fun j => nI (uu2 j)))), (hf2, .inr (1, [.ref da2, .ref ca2, .ref ya2])), (da2, .inl (kI, 32, .inl fd2)), (ca2, .inl (kI, 32, .inl fc2)), (ya2, .inl (kI, 768, .inl fy2))] := hD.sub [0, 1, 2, 3, 4, 5, 6, 7, 8, 9, 10, 11] (by decide) rfl
  refine lv_aload_n hx hb dX2_follow_5 rfl (lv_at hl 0 rfl) ?_
  refine lv_dup hx hb dX2_follow_6 rfl ?_
  refine va_get (D := D) (ci := 2) (v := .int (nI gg2)) (C := "FindLog$Head") (T := TX2) (N := 7) hx hb hg inX2 hown hK hP 0 rfl rfl 2 (by decide) (hg _ k_108) (fun _ h9 => h9) rfl dX2_follow_7 ?_
  refine lv_iconst (v := nI 1) hx hb dX2_follow_10 (by decide) ?_
  refine lv_iaddN hx hb dX2_follow_11 ?_
  refine va_put (D := D) (ci := 2) (v := .int (nI (gg2 + 1))) (ty := .int) (C := "FindLog$Head") (T := TX2) (N := 7) hx hb hg inX2 tyX2 okX2 nmX2 hown hK hP hD hS 0 rfl rfl 2 (by decide) (hg _ k_108) (fun _ h9 => h9) rfl (by decide +kernel) rfl rfl (Nat.le_of_ble_eq_true rfl) dX2_follow_12 (fun H locs hP hD hS => ?_)
  have hP : va_P D vwC [(hh, .inr (2, [.ref hf, .ref hu, .int (nI (gg2 + 1)), .int (nI fi2), .int (nI fa2), .long sl2, .int (nI wh2)])), (hu, .inl (kI, 4, .inl (fun j => nI (uu2 j)))), (hf, .inr (1, [.ref da, .ref ca, .ref ya])), (da, .inl (kI, 32, .inl fd2)), (ca, .inl (kI, 32, .inl fc2)), (ya, .inl (kI, 768, .inl fy2)), (hh2, .inr (2, [.ref hf2, .ref hu2, .int (nI gg2), .int (nI fi2), .int (nI fa2), .long sl2, .int (nI wh2)])), (hu2, .inl (kI, 4, .inl (fun j => nI (uu2 j)))), (hf2, .inr (1, [.ref da2, .ref ca2, .ref ya2])), (da2, .inl (kI, 32, .inl fd2)), (ca2, .inl (kI, 32, .inl fc2)), (ya2, .inl (kI, 768, .inl fy2))] H := hP
  have hD : va_D A [(hh, .inr (2, [.ref hf, .ref hu, .int (nI (gg2 + 1)), .int (nI fi2), .int (nI fa2), .long sl2, .int (nI wh2)])), (hu, .inl (kI, 4, .inl (fun j => nI (uu2 j)))), (hf, .inr (1, [.ref da, .ref ca, .ref ya])), (da, .inl (kI, 32, .inl fd2)), (ca, .inl (kI, 32, .inl fc2)), (ya, .inl (kI, 768, .inl fy2)), (hh2, .inr (2, [.ref hf2, .ref hu2, .int (nI gg2), .int (nI fi2), .int (nI fa2), .long sl2, .int (nI wh2)])), (hu2, .inl (kI, 4, .inl (fun j => nI (uu2 j)))), (hf2, .inr (1, [.ref da2, .ref ca2, .ref ya2])), (da2, .inl (kI, 32, .inl fd2)), (ca2, .inl (kI, 32, .inl fc2)), (ya2, .inl (kI, 768, .inl fy2))] := hD
  exact W.vret hx hb hr (fun t ht hW => ⟨⟨(), rfl, trivial, by rw [ht]; exact hP, va_K.moved hW.alike hK, hD⟩, hS.F ht⟩) hS.2.2 dX2_follow_15
set_option maxHeartbeats 4000000 in
set_option maxRecDepth 100000 in
/-- Head() -/
theorem c_X2_init (l : Launch) (D : va_G) (sz : Nat) (kI : ClassId) (hh : Nat) : Met l yX2_init (.code yX2_init bX2_init 1 none :: GW) (rmL 1 5 839) (va_Pc [.ref hh] (ww_P D sz [(hh, .inr (2, [.null, .null, .int 0, .int 0, .int 0, .long 0, .int 0]))] [(kI, .int)])) (va_Qv (fun (u_ : Nat × Nat × Nat × Nat × Nat) => match u_ with | (hf, hu, da, ca, ya) => True) (fun (u_ : Nat × Nat × Nat × Nat × Nat) => match u_ with | (hf, hu, da, ca, ya) => ww_B D (va_A [(hh, .inr (2, [.null, .null, .int 0, .int 0, .int 0, .long 0, .int 0]))] sz) [(hh, .inr (2, [.ref hf, .ref hu, .int (nI 0), .int (nI 0), .int (nI 0), .long 0, .int (nI 1)])), (hu, .inl (kI, 4, .inl (fun j => nI ((fun _ => 0) j)))), (hf, .inr (1, [.ref da, .ref ca, .ref ya])), (da, .inl (kI, 32, .inl (fx_m1 32))), (ca, .inl (kI, 32, .inl (fx_m1 32))), (ya, .inl (kI, 768, .inl (fun _ => 0)))] [(kI, .int)]) (va_A [(hh, .inr (2, [.null, .null, .int 0, .int 0, .int 0, .long 0, .int 0]))] sz)) 5 839 (va_A [(hh, .inr (2, [.null, .null, .int 0, .int 0, .int 0, .long 0, .int 0]))] sz) := by
  refine Met.ofW (cc := bX2_init) (maxL := 1) (ret := none) (by decide) rfl ?_
  intro p e s m args below meth c s₁ B hml hv
  obtain ⟨rfl, hsz, hP, hK, hD0, hN⟩ := hv
  have hx := B.exec
  have hb := B.bytes
  have hr := B.returns
  have hg : ∀ w ∈ GW, w.before _ s = true := fun w h => atoms_spec (ws := Cond.code yX2_init bX2_init 1 none :: GW) B.pre w (List.mem_cons_of_mem _ h)
  have hown : s.vm.findClass "FindLog$Head" = some m.cls := findClass_of_methodNamed B.named
  have hlocks := B.notSynchronized
  have hin : meth.name = "<init>" := (name_of_methodNamed B.named B.method).1
  subst hsz
  have hD := hD0.self (sz := s.heap.size)
  generalize hAe : va_A [(hh, .inr (2, [.null, .null, .int 0, .int 0, .int 0, .long 0, .int 0]))] s.heap.size = A at hD ⊢
  have hA : ∀ q : Nat, s.heap.size ≤ q → A q := fun q h => by rw [← hAe]; exact Or.inr h
  have hS : va_S A s.heap s.heap [] := va_S.rf
  have hl := lv_entry ([.ref hh]) (n := 1) (Nat.le_of_ble_eq_true rfl)
  rw [lg_entry_eq]
  generalize (lg_sl ([.ref hh]) ++ List.replicate (1 - (lg_sl ([.ref hh])).length) Slot.unset).toArray = ls at hl ⊢
  have hl : lv_has ls 1 [(0, .ref hh)] := hl
  refine lv_aload_n hx hb dX2_init_0 rfl (lv_at hl 0 rfl) ?_
  refine W.objInit hx hb hown (hg _ k_102) (hg _ k_42) (hg _ k_43) rfl (by rw [hml]; exact hl.1) rfl dX2_init_1 (Nat.le_of_ble_eq_true rfl) (Nat.le_of_ble_eq_true rfl) ?_
  refine W.eq (g2 := F0 m 4 ls []) rfl ?_
  refine lv_aload_n hx hb dX2_init_4 rfl (lv_at hl 0 rfl) ?_
  refine va_new (ci := 1) (fs := [.null, .null, .null]) (C := "FindLog$Finds") (T := TX1) (N := 3) hx hb hg inX1 tyX1 okX1 hown (hg _ k_103) (hg _ k_59) (hg _ k_24) hK hP hD hS hA rfl (fun j hj => by rcases (show j = 0 ∨ j = 1 ∨ j = 2 by omega) with rfl | rfl | rfl <;> rfl) (Nat.le_of_ble_eq_true rfl) (Nat.le_of_ble_eq_true rfl) dX2_init_5 (fun hf H hP hD hS => ?_)
  have hP : va_P D vwC [(hh, .inr (2, [.null, .null, .int 0, .int 0, .int 0, .long 0, .int 0])), (hf, .inr (1, [.null, .null, .null]))] H := hP
  have hD : va_D A [(hh, .inr (2, [.null, .null, .int 0, .int 0, .int 0, .long 0, .int 0])), (hf, .inr (1, [.null, .null, .null]))] := hD
  refine W.widen (k := 1) (n := 3) (by omega) (by omega) ?_
  refine lv_dup hx hb dX2_init_8 rfl ?_
  refine ww_callv (wr := [(hh, .inr (2, [.null, .null, .int 0, .int 0, .int 0, .long 0, .int 0]))]) (va_runI (As := []) (rest := [.ref hf, .ref hh]) ⟨hx, hb, hml, hown, hg⟩ (c_X1_init l D _ kI hf) (cwI 0 hg (gw_G (gw_c k_62)) rfl rfl rfl (hg _ k_24) (hg _ k_104) (hg _ k_61) rfl (by decide +kernel) ⟨Nat.le_of_ble_eq_true rfl, Nat.le_of_ble_eq_true rfl⟩) ⟨ww_blind, ww_pre (hP.sub (ws' := [(hf, .inr (1, [.null, .null, .null]))]) [1] rfl) (hD.sub (ws' := [(hf, .inr (1, [.null, .null, .null]))]) [1] (by decide) rfl) (hK.sub (tys' := [(kI, .int)]) [0] rfl) hN⟩ rfl rfl hl.1 rfl (lv_room (Nat.le_of_ble_eq_true rfl)) dX2_init_9 ⟨Nat.le_of_ble_eq_true rfl, Nat.le_of_ble_eq_true rfl⟩) hS hA hP hD [1] [0] rfl rfl (by decide) (by decide) (fun u_ H locs hw hK' hP hD hS => ?_)
  obtain ⟨da, ca, ya⟩ := u_
  have hP : va_P D vwC [(hh, .inr (2, [.null, .null, .int 0, .int 0, .int 0, .long 0, .int 0])), (hf, .inr (1, [.ref da, .ref ca, .ref ya])), (da, .inl (kI, 32, .inl (fx_m1 32))), (ca, .inl (kI, 32, .inl (fx_m1 32))), (ya, .inl (kI, 768, .inl (fun _ => 0)))] H := hP.sub [0, 1, 2, 3, 4] rfl
  have hD : va_D A [(hh, .inr (2, [.null, .null, .int 0, .int 0, .int 0, .long 0, .int 0])), (hf, .inr (1, [.ref da, .ref ca, .ref ya])), (da, .inl (kI, 32, .inl (fx_m1 32))), (ca, .inl (kI, 32, .inl (fx_m1 32))), (ya, .inl (kI, 768, .inl (fun _ => 0)))] := hD.sub [0, 1, 2, 3, 4] (by decide) rfl
  refine W.widen (k := 4) (n := 835) (by omega) (by omega) ?_
  refine va_putF (D := D) (ci := 2) (v := .ref hf) (ty := (.object "FindLog$Finds")) (C := "FindLog$Head") (T := TX2) (N := 7) hx hb hg inX2 tyX2 okX2 nmX2 hown hK hP hD hS 0 rfl rfl 0 (by decide) (hg _ k_105) (fun _ h9 => h9) rfl hin rfl (by decide +kernel) rfl rfl (Nat.le_of_ble_eq_true rfl) dX2_init_12 (fun H locs hP hD hS => ?_)
  have hP : va_P D vwC [(hh, .inr (2, [.ref hf, .null, .int 0, .int 0, .int 0, .long 0, .int 0])), (hf, .inr (1, [.ref da, .ref ca, .ref ya])), (da, .inl (kI, 32, .inl (fx_m1 32))), (ca, .inl (kI, 32, .inl (fx_m1 32))), (ya, .inl (kI, 768, .inl (fun _ => 0)))] H := hP
  have hD : va_D A [(hh, .inr (2, [.ref hf, .null, .int 0, .int 0, .int 0, .long 0, .int 0])), (hf, .inr (1, [.ref da, .ref ca, .ref ya])), (da, .inl (kI, 32, .inl (fx_m1 32))), (ca, .inl (kI, 32, .inl (fx_m1 32))), (ya, .inl (kI, 768, .inl (fun _ => 0)))] := hD
  refine lv_aload_n hx hb dX2_init_15 rfl (lv_at hl 0 rfl) ?_
  refine lv_iconst (v := nI 4) hx hb dX2_init_16 (by decide) ?_
  refine va_newa (atype := .int) (ty := .int) (N' := 4) (a0 := (4, .inl (fun _ => 0))) hx hb (hg _ k_57) rfl hK hP hD hS hA (fun _ => rfl) (nI_pos (by omega)) (nI_clamp (by omega)) (by show 4 * 4 ≤ 536870912; omega) (Nat.le_of_ble_eq_true rfl) (Nat.le_of_ble_eq_true rfl) dX2_init_17 (fun hu c9 H hK9 hP hD hS => ?_)
  have e9 : c9 = kI := kk_int hK9 0 1 rfl rfl (fun _ h => nomatch h)
  rw [e9] at hP hD
  have hP : va_P D vwC [(hh, .inr (2, [.ref hf, .null, .int 0, .int 0, .int 0, .long 0, .int 0])), (hf, .inr (1, [.ref da, .ref ca, .ref ya])), (da, .inl (kI, 32, .inl (fx_m1 32))), (ca, .inl (kI, 32, .inl (fx_m1 32))), (ya, .inl (kI, 768, .inl (fun _ => 0))), (hu, .inl (kI, 4, .inl (fun _ => 0)))] H := hP
  have hD : va_D A [(hh, .inr (2, [.ref hf, .null, .int 0, .int 0, .int 0, .long 0, .int 0])), (hf, .inr (1, [.ref da, .ref ca, .ref ya])), (da, .inl (kI, 32, .inl (fx_m1 32))), (ca, .inl (kI, 32, .inl (fx_m1 32))), (ya, .inl (kI, 768, .inl (fun _ => 0))), (hu, .inl (kI, 4, .inl (fun _ => 0)))] := hD
  refine W.widen (k := 5) (n := 839) (by omega) (by omega) ?_
  refine va_putF (D := D) (ci := 2) (v := .ref hu) (ty := (.array .int)) (C := "FindLog$Head") (T := TX2) (N := 7) hx hb hg inX2 tyX2 okX2 nmX2 hown hK hP hD hS 0 rfl rfl 1 (by decide) (hg _ k_107) (fun _ h9 => h9) rfl hin rfl (by decide +kernel) rfl rfl (Nat.le_of_ble_eq_true rfl) dX2_init_19 (fun H locs hP hD hS => ?_)
  have hP : va_P D vwC [(hh, .inr (2, [.ref hf, .ref hu, .int 0, .int 0, .int 0, .long 0, .int 0])), (hf, .inr (1, [.ref da, .ref ca, .ref ya])), (da, .inl (kI, 32, .inl (fx_m1 32))), (ca, .inl (kI, 32, .inl (fx_m1 32))), (ya, .inl (kI, 768, .inl (fun _ => 0))), (hu, .inl (kI, 4, .inl (fun _ => 0)))] H := hP
  have hD : va_D A [(hh, .inr (2, [.ref hf, .ref hu, .int 0, .int 0, .int 0, .long 0, .int 0])), (hf, .inr (1, [.ref da, .ref ca, .ref ya])), (da, .inl (kI, 32, .inl (fx_m1 32))), (ca, .inl (kI, 32, .inl (fx_m1 32))), (ya, .inl (kI, 768, .inl (fun _ => 0))), (hu, .inl (kI, 4, .inl (fun _ => 0)))] := hD
  refine lv_aload_n hx hb dX2_init_22 rfl (lv_at hl 0 rfl) ?_
  refine lv_iconst (v := nI 1) hx hb dX2_init_23 (by decide) ?_
  refine va_put (D := D) (ci := 2) (v := .int (nI 1)) (ty := .boolean) (C := "FindLog$Head") (T := TX2) (N := 7) hx hb hg inX2 tyX2 okX2 nmX2 hown hK hP hD hS 0 rfl rfl 6 (by decide) (hg _ k_116) (fun _ h9 => h9) rfl (by decide +kernel) rfl rfl (Nat.le_of_ble_eq_true rfl) dX2_init_24 (fun H locs hP hD hS => ?_)
  have hP : va_P D vwC [(hh, .inr (2, [.ref hf, .ref hu, .int 0, .int 0, .int 0, .long 0, .int (nI 1)])), (hf, .inr (1, [.ref da, .ref ca, .ref ya])), (da, .inl (kI, 32, .inl (fx_m1 32))), (ca, .inl (kI, 32, .inl (fx_m1 32))), (ya, .inl (kI, 768, .inl (fun _ => 0))), (hu, .inl (kI, 4, .inl (fun _ => 0)))] H := hP
  have hD : va_D A [(hh, .inr (2, [.ref hf, .ref hu, .int 0, .int 0, .int 0, .long 0, .int (nI 1)])), (hf, .inr (1, [.ref da, .ref ca, .ref ya])), (da, .inl (kI, 32, .inl (fx_m1 32))), (ca, .inl (kI, 32, .inl (fx_m1 32))), (ya, .inl (kI, 768, .inl (fun _ => 0))), (hu, .inl (kI, 4, .inl (fun _ => 0)))] := hD
  have hP : va_P D vwC [(hh, .inr (2, [.ref hf, .ref hu, .int (nI 0), .int (nI 0), .int (nI 0), .long 0, .int (nI 1)])), (hu, .inl (kI, 4, .inl (fun j => nI ((fun _ => 0) j)))), (hf, .inr (1, [.ref da, .ref ca, .ref ya])), (da, .inl (kI, 32, .inl (fx_m1 32))), (ca, .inl (kI, 32, .inl (fx_m1 32))), (ya, .inl (kI, 768, .inl (fun _ => 0)))] H := hP.sub [0, 5, 1, 2, 3, 4] rfl
  have hD : va_D A [(hh, .inr (2, [.ref hf, .ref hu, .int (nI 0), .int (nI 0), .int (nI 0), .long 0, .int (nI 1)])), (hu, .inl (kI, 4, .inl (fun j => nI ((fun _ => 0) j)))), (hf, .inr (1, [.ref da, .ref ca, .ref ya])), (da, .inl (kI, 32, .inl (fx_m1 32))), (ca, .inl (kI, 32, .inl (fx_m1 32))), (ya, .inl (kI, 768, .inl (fun _ => 0)))] := hD.sub [0, 5, 1, 2, 3, 4] (by decide) rfl
  exact W.vret hx hb hr (fun t ht hW => ⟨⟨(hf, hu, da, ca, ya), rfl, trivial, by rw [ht]; exact hP, va_K.moved hW.alike hK, hD⟩, hS.F ht⟩) hS.2.2 dX2_init_27
