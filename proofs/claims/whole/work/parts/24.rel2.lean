theorem md_low (lg : Nat → Int32) (q0 fi : Nat) (u : Nat → Nat) (g : Nat → Int32) : ∀ k j, j < 64 → md_d lg q0 fi u g k j = g j
  | 0, _, _ => rfl
  | k + 1, j, hj => by
    rw [md_d]
    by_cases h : fi + k < u (nv (lg (rd_q lg q0 k)) % 4)
    · rw [if_pos h]; exact md_low lg q0 fi u g k j hj
    · rw [if_neg h, pk_un (by omega)]; exact md_low lg q0 fi u g k j hj
theorem mm_low (lg : Nat → Int32) (q0 fi : Nat) (u : Nat → Nat) (g : Nat → Int32) : ∀ k j, j < 64 → md_m lg q0 fi u g k j = g j
  | 0, _, _ => rfl
  | k + 1, j, hj => by
    rw [md_m]
    by_cases h : fi + k < u (nv (lg (rd_q lg q0 k)) % 4)
    · rw [if_pos h]; exact mm_low lg q0 fi u g k j hj
    · rw [if_neg h, pk_un (by omega)]; exact mm_low lg q0 fi u g k j hj
theorem mk_low (lg : Nat → Int32) (q0 fi : Nat) (u : Nat → Nat) (g : Nat → Int32) : ∀ k j, j < 1536 → md_k lg q0 fi u g k j = g j
  | 0, _, _ => rfl
  | k + 1, j, hj => by
    rw [md_k]
    by_cases h : fi + k < u (nv (lg (rd_q lg q0 k)) % 4)
    · rw [if_pos h]; exact mk_low lg q0 fi u g k j hj
    · rw [if_neg h, va_cpy, if_neg (by omega)]; exact mk_low lg q0 fi u g k j hj
theorem day_pos {f : Nat → Int32} {n q : Nat} (hB : fx_B f n) (hq : q + 4 ≤ n) (h : fx_nb f q 4 ≤ 36500) : ¬ (fx_nb f q 4).toInt32 < 0 := by
  obtain ⟨a, ha, e0⟩ := hB q (by omega)
  obtain ⟨b, hb, e1⟩ := hB (q + 1) (by omega)
  obtain ⟨c, hc, e2⟩ := hB (q + 2) (by omega)
  obtain ⟨d, hd, e3⟩ := hB (q + 3) (by omega)
  have st1 : ∀ (x y : Nat), x * 256 + y < 2 ^ 64 → y < 256 → (lN x <<< ((nI 8 : Int32).toInt64 &&& 63)) ||| (nI y).toInt64 = lN (x * 256 + y) := fun x y h1 h2 => by
    rw [wb_shl _ (by decide), nI_l (by omega), show (2 : Nat) ^ 8 = 256 from rfl, g_or (k := 8) (p := 256) rfl h2 h1]
  have e : fx_nb f q 4 = lN (((a * 256 + b) * 256 + c) * 256 + d) := by
    rw [fx_nb, fx_nb, fx_nb, fx_nb, fx_nb, Nat.add_zero, e0, e1, e2, e3, show (0 : Int64) = lN 0 from rfl, st1 0 a (by omega) ha, Nat.zero_mul, Nat.zero_add, st1 a b (by omega) hb, st1 _ c (by omega) hc, st1 _ d (by omega) hd]
  rw [e] at h ⊢
  have hX : ((a * 256 + b) * 256 + c) * 256 + d < 2 ^ 32 := by omega
  generalize ((a * 256 + b) * 256 + c) * 256 + d = X at h hX
  have hX2 : X ≤ 36500 := by
    rw [Int64.le_iff_toInt_le, show (lN X).toInt = (X : Int) from by rw [lN, Int64.toInt_ofNat_of_lt (by omega)], show (36500 : Int64).toInt = 36500 from by decide] at h
    omega
  rw [lN_i]
  exact nI_pos (by omega)
theorem rl_F.read {fd fc fy g m kq lg : Nat → Int32} {ln q0 fi : Nat} {uu u : Nat → Nat} (hB : fx_B lg ln) (h : rl_F fd fc fy g m kq 64) (hu : ∀ p, p < 4 → u p = uu p) : ∀ k, (∀ i, i < k → fx_ok lg ln (rd_q lg q0 i)) → rl_F (rd_d lg q0 fi uu fd k) (rd_c lg q0 fi uu fc k) (rd_y lg q0 fi uu fy k) (md_d lg q0 fi u g k) (md_m lg q0 fi u m k) (md_k lg q0 fi u kq k) 64
  | 0, _ => h
  | k + 1, hok => by
    have ih := rl_F.read (fi := fi) hB h hu k (fun i hi => hok i (by omega))
    obtain ⟨th, ct, e1, e2, e3, e4, e5, e6, e7⟩ := hok k (Nat.lt_succ_self k)
    have n1 : nv (lg (rd_q lg q0 k)) = th := by rw [e1]; exact nv_nI (by omega)
    have n2 : nv (lg (rd_q lg q0 k + 5)) = ct := by rw [e2]; exact nv_nI (by omega)
    rw [rd_d, rd_c, rd_y, md_d, md_m, md_k, n1, n2, hu (th % 4) (Nat.mod_lt _ (by decide))]
    by_cases hc : fi + k < uu (th % 4)
    · rw [if_pos hc, if_pos hc, if_pos hc, if_pos hc, if_pos hc, if_pos hc]; exact ih
    · rw [if_neg hc, if_neg hc, if_neg hc, if_neg hc, if_neg hc, if_neg hc]
      exact ih.keep e4 e6 (day_pos hB (by omega) e5) (fun i hi => rfl)
set_option maxRecDepth 100000 in
theorem cp64 {fd fc fy qd qm qk : Nat → Int32} {us : Nat} (hu : us ≤ 1) (h : rl_F fd fc fy qd qm qk (32 * us)) : rl_F fd fc fy (va_cpy qd qd (32 * us) 64 32) (va_cpy qm qm (32 * us) 64 32) (va_cpy qk qk (24 * (32 * us)) (24 * 64) (24 * 32)) 64 := by
  refine h.same (fun t ht => ?_) (fun t ht => ?_) (fun j hj => ?_)
  · rw [va_cpy, if_pos (by omega)]; congr 1; omega
  · rw [va_cpy, if_pos (by omega)]; congr 1; omega
  · rw [va_cpy, if_pos (by omega)]; congr 1; omega
set_option maxRecDepth 100000 in
theorem cpB {fd fc fy qd qm qk : Nat → Int32} (x : Nat) (hx : x ≤ 1) (h : rl_F fd fc fy qd qm qk 64) : rl_F fd fc fy (va_cpy qd qd 64 (32 * x) 32) (va_cpy qm qm 64 (32 * x) 32) (va_cpy qk qk (24 * 64) (24 * (32 * x)) (24 * 32)) (32 * x) ∧ rl_F fd fc fy (va_cpy qd qd 64 (32 * x) 32) (va_cpy qm qm 64 (32 * x) 32) (va_cpy qk qk (24 * 64) (24 * (32 * x)) (24 * 32)) 64 := by
  constructor
  · refine h.same (fun t ht => ?_) (fun t ht => ?_) (fun j hj => ?_)
    · rw [va_cpy, if_pos (by omega)]; congr 1; omega
    · rw [va_cpy, if_pos (by omega)]; congr 1; omega
    · rw [va_cpy, if_pos (by omega)]; congr 1; omega
  · refine h.same (fun t ht => ?_) (fun t ht => ?_) (fun j hj => ?_)
    · rw [va_cpy, if_neg (by omega)]
    · rw [va_cpy, if_neg (by omega)]
    · rw [va_cpy, if_neg (by omega)]
set_option maxRecDepth 100000 in
theorem cpBo {fd fc fy qd qm qk : Nat → Int32} (h : rl_F fd fc fy qd qm qk (32 * 0)) : rl_F fd fc fy (va_cpy qd qd 64 (32 * 1) 32) (va_cpy qm qm 64 (32 * 1) 32) (va_cpy qk qk (24 * 64) (24 * (32 * 1)) (24 * 32)) (32 * 0) := by
  refine h.same (fun t ht => ?_) (fun t ht => ?_) (fun j hj => ?_)
  · rw [va_cpy, if_neg (by omega)]
  · rw [va_cpy, if_neg (by omega)]
  · rw [va_cpy, if_neg (by omega)]
set_option maxRecDepth 100000 in
theorem cpB2 {fd fc fy qd qm qk : Nat → Int32} (h : rl_F fd fc fy qd qm qk 64) : ∀ x, x = 32 * 0 ∨ x = 32 * 1 ∨ x = 64 → rl_F fd fc fy (va_cpy (va_cpy qd qd 64 (32 * 0) 32) (va_cpy qd qd 64 (32 * 0) 32) 64 (32 * 1) 32) (va_cpy (va_cpy qm qm 64 (32 * 0) 32) (va_cpy qm qm 64 (32 * 0) 32) 64 (32 * 1) 32) (va_cpy (va_cpy qk qk (24 * 64) (24 * (32 * 0)) (24 * 32)) (va_cpy qk qk (24 * 64) (24 * (32 * 0)) (24 * 32)) (24 * 64) (24 * (32 * 1)) (24 * 32)) x := fun x hx => by
  have a := cpB 0 (by decide) h
  have b := cpB 1 (by decide) a.2
  rcases hx with rfl | rfl | rfl
  · exact cpBo a.1
  · exact b.1
  · exact b.2
theorem rl_reG {n : Nat} {bg : Nat} {nx : Nat} {ak : Nat} {ab : Nat} {tn : Nat} {ln : Nat} {lg : Nat → Int32} {ggA : Nat} {fiA : Nat} {faA : Nat} {whA : Nat} {slA : Int64} {uuA : Nat → Nat} {fdA : Nat → Int32} {fcA : Nat → Int32} {fyA : Nat → Int32} {ggB : Nat} {fiB : Nat} {faB : Nat} {whB : Nat} {slB : Int64} {uuB : Nat → Nat} {fdB : Nat → Int32} {fcB : Nat → Int32} {fyB : Nat → Int32} {us : Nat} {qw : Nat → Nat} {qg : Nat → Nat} {qf : Nat → Nat} {qs : Nat → Int64} {qh : Nat → Nat} {qu : Nat → Nat} {qd : Nat → Int32} {qm : Nat → Int32} {qk : Nat → Int32} (us1 : us ≤ 1) (dA : rl_D ggA fiA whA slA uuA fdA fcA fyA qg qf qs qh qu qd qm qk us) (dB : rl_D ggB fiB whB slB uuB fdB fcB fyB qg qf qs qh qu qd qm qk (1 - us)) (pA : rl_P fiA faA bg ak ab qw) (pB : whB = 1 → rl_P fiB faB bg ak ab qw ∧ ggB ≤ ggA ∧ fiB ≤ fiA) (wA : whA = 1) (wB : whB ≤ 1) (pf : Nat → Int32) (Bl : fx_B lg ln) (tn4 : tn < 4) (an : ak ≤ nx) (nb : nx - bg ≤ 64) (abln : ab ≤ ln) (bgA : ggA ≤ n) (bgB : ggB ≤ n) (bfA : fiA ≤ 65 * n) (bfB : fiB ≤ 65 * n) (buA : ∀ p, p < 4 → uuA p ≤ 65 * n) (buB : ∀ p, p < 4 → uuB p ≤ 65 * n) (kk : Nat) (hk : kk ≤ 64) (hr1 : ∀ i, i < kk → rd_ok lg ln faA fiA bg i)  (hgood : ln ≤ rd_q lg faA kk) : rl_R (n + 1) bg (fiA + kk) (fiA + kk) ln tn (rd_s lg faA slA kk) 0 0 pf ln lg (rd_d lg faA fiA uuA fdA kk) (rd_c lg faA fiA uuA fcA kk) (rd_y lg faA fiA uuA fyA kk) ggA fiA faA whA slA uuA fdA fcA fyA ggB fiB faB whB slB uuB fdB fcB fyB us (md_w lg faA (qf us - bg) qw kk) qg qf qs qh qu (md_d lg faA (qf us) (fun p9 => qu (4 * us + p9)) (va_cpy qd qd (32 * us) 64 32) kk) (md_m lg faA (qf us) (fun p9 => qu (4 * us + p9)) (va_cpy qm qm (32 * us) 64 32) kk) (md_k lg faA (qf us) (fun p9 => qu (4 * us + p9)) (va_cpy qk qk (24 * (32 * us)) (24 * 64) (24 * 32)) kk) := by
  obtain ⟨u1, u2, u3, u4, u5, u6⟩ := dA
  obtain ⟨q1, q2, q3, q4, q5⟩ := pA
  have hF := rl_F.read (fi := fiA) (q0 := faA) (uu := uuA) (u := (fun p9 => qu (4 * us + p9))) Bl (cp64 us1 u6) u5 kk (fun i hi => (hr1 i hi).2.2)
  have hkb : fiA + kk - bg ≤ 64 := by
    rcases Nat.eq_zero_or_pos kk with h9 | h9
    · omega
    · have h8 := (hr1 (kk - 1) (by omega)).2.1
      omega
  have h38 := rdq_38 kk (fun i hi => (hr1 i hi).2.2)
  have hle := rd_le (lg := lg) (q0 := faA) (by omega) kk hr1
  have low1 : ∀ j, j < 64 → (md_d lg faA (qf us) (fun p9 => qu (4 * us + p9)) (va_cpy qd qd (32 * us) 64 32) kk) j = qd j := fun j hj => by rw [md_low _ _ _ _ _ kk j hj, va_cpy, if_neg (by omega)]
  have low2 : ∀ j, j < 64 → (md_m lg faA (qf us) (fun p9 => qu (4 * us + p9)) (va_cpy qm qm (32 * us) 64 32) kk) j = qm j := fun j hj => by rw [mm_low _ _ _ _ _ kk j hj, va_cpy, if_neg (by omega)]
  have low3 : ∀ j, j < 1536 → (md_k lg faA (qf us) (fun p9 => qu (4 * us + p9)) (va_cpy qk qk (24 * (32 * us)) (24 * 64) (24 * 32)) kk) j = qk j := fun j hj => by rw [mk_low _ _ _ _ _ kk j hj, va_cpy, if_neg (by omega)]
  have hw : ∀ i, i ≤ kk → (md_w lg faA (qf us - bg) qw kk) (fiA - bg + i) = rd_q lg faA i := fun i hi => by
    rw [md_w_at, u2]
    rcases Nat.eq_zero_or_pos i with h9 | h9
    · rw [if_neg (by omega), h9, Nat.add_zero]; exact q3
    · rw [if_pos (by omega)]; congr 1; omega
  have he : rd_q lg faA kk = ln := Nat.le_antisymm hle hgood
  refine ⟨rl_D.low ⟨u1, u2, u3, u4, u5, u6⟩ us1 low1 low2 low3, dB.low (by omega) low1 low2 low3, by rw [u2]; exact hF, fun _ => ⟨q1, by omega, hw 0 (by omega), q4, by omega⟩, fun h => ?_, us1, by omega, wB, Or.inl wA, fun _ h => (pB h).2, by omega, fun j hj => absurd hj (Nat.not_lt_zero _), by omega, Bl, tn4, by omega, Nat.le_refl _, hkb, by omega, Nat.le_refl _, by omega, by omega, by omega, by omega, by omega, fun p hp => Nat.le_trans (buA p hp) (by omega), fun p hp => Nat.le_trans (buB p hp) (by omega), fun _ => ⟨wA, by omega, fun i hi => (hr1 i (by omega)).2.2, fun i hi => hw i (by omega), by rw [Nat.add_sub_cancel_left]; exact he, by rw [Nat.add_sub_cancel_left], by have h9 := hw kk (Nat.le_refl _); rw [he, show fiA - bg + kk = fiA + kk - bg by omega] at h9; exact h9⟩⟩
  obtain ⟨⟨b1, b2, b3, b4, b5⟩, b6, b7⟩ := pB h
  exact ⟨b1, by omega, by rw [md_w_at, u2, if_neg (by omega)]; exact b3, b4, by omega⟩
theorem rl_reB {n : Nat} {bg : Nat} {nx : Nat} {ak : Nat} {ab : Nat} {tn : Nat} {ln : Nat} {lg : Nat → Int32} {ggA : Nat} {fiA : Nat} {faA : Nat} {whA : Nat} {slA : Int64} {uuA : Nat → Nat} {fdA : Nat → Int32} {fcA : Nat → Int32} {fyA : Nat → Int32} {ggB : Nat} {fiB : Nat} {faB : Nat} {whB : Nat} {slB : Int64} {uuB : Nat → Nat} {fdB : Nat → Int32} {fcB : Nat → Int32} {fyB : Nat → Int32} {us : Nat} {qw : Nat → Nat} {qg : Nat → Nat} {qf : Nat → Nat} {qs : Nat → Int64} {qh : Nat → Nat} {qu : Nat → Nat} {qd : Nat → Int32} {qm : Nat → Int32} {qk : Nat → Int32} (us1 : us ≤ 1) (dA : rl_D ggA fiA whA slA uuA fdA fcA fyA qg qf qs qh qu qd qm qk us) (dB : rl_D ggB fiB whB slB uuB fdB fcB fyB qg qf qs qh qu qd qm qk (1 - us)) (pA : rl_P fiA faA bg ak ab qw) (pB : whB = 1 → rl_P fiB faB bg ak ab qw ∧ ggB ≤ ggA ∧ fiB ≤ fiA) (wA : whA = 1) (wB : whB ≤ 1) (pf : Nat → Int32) (Bl : fx_B lg ln) (tn4 : tn < 4) (an : ak ≤ nx) (nb : nx - bg ≤ 64) (abln : ab ≤ ln) (bgA : ggA ≤ n) (bgB : ggB ≤ n) (bfA : fiA ≤ 65 * n) (bfB : fiB ≤ 65 * n) (buA : ∀ p, p < 4 → uuA p ≤ 65 * n) (buB : ∀ p, p < 4 → uuB p ≤ 65 * n) (kk : Nat) (hk : kk ≤ 64) (hr1 : ∀ i, i < kk → rd_ok lg ln faA fiA bg i)  (nn : Nat) (hnn : nn = if fiA + kk < fx_gu uuA 4 then fx_gu uuA 4 else fiA + kk) : rl_R (n + 1) nn nn nn 0 tn (rd_s lg faA slA kk) 0 0 pf 0 lg (rd_d lg faA fiA uuA fdA kk) (rd_c lg faA fiA uuA fcA kk) (rd_y lg faA fiA uuA fyA kk) (ggA + 1) nn 0 whA (rd_s lg faA slA kk) (fun _ => nn) (rd_d lg faA fiA uuA fdA kk) (rd_c lg faA fiA uuA fcA kk) (rd_y lg faA fiA uuA fyA kk) (ggA + 1) nn 0 whA (rd_s lg faA slA kk) (fun _ => nn) (rd_d lg faA fiA uuA fdA kk) (rd_c lg faA fiA uuA fcA kk) (rd_y lg faA fiA uuA fyA kk) us (uN (md_w lg faA (qf us - bg) qw kk) 0 0) (fun _ => qg us + 1) (fun _ => nn) (fun _ => rd_s lg faA (qs us) kk) (fun _ => 1) (fun _ => nn) (va_cpy (va_cpy (md_d lg faA (qf us) (fun p9 => qu (4 * us + p9)) (va_cpy qd qd (32 * us) 64 32) kk) (md_d lg faA (qf us) (fun p9 => qu (4 * us + p9)) (va_cpy qd qd (32 * us) 64 32) kk) 64 (32 * 0) 32) (va_cpy (md_d lg faA (qf us) (fun p9 => qu (4 * us + p9)) (va_cpy qd qd (32 * us) 64 32) kk) (md_d lg faA (qf us) (fun p9 => qu (4 * us + p9)) (va_cpy qd qd (32 * us) 64 32) kk) 64 (32 * 0) 32) 64 (32 * 1) 32) (va_cpy (va_cpy (md_m lg faA (qf us) (fun p9 => qu (4 * us + p9)) (va_cpy qm qm (32 * us) 64 32) kk) (md_m lg faA (qf us) (fun p9 => qu (4 * us + p9)) (va_cpy qm qm (32 * us) 64 32) kk) 64 (32 * 0) 32) (va_cpy (md_m lg faA (qf us) (fun p9 => qu (4 * us + p9)) (va_cpy qm qm (32 * us) 64 32) kk) (md_m lg faA (qf us) (fun p9 => qu (4 * us + p9)) (va_cpy qm qm (32 * us) 64 32) kk) 64 (32 * 0) 32) 64 (32 * 1) 32) (va_cpy (va_cpy (md_k lg faA (qf us) (fun p9 => qu (4 * us + p9)) (va_cpy qk qk (24 * (32 * us)) (24 * 64) (24 * 32)) kk) (md_k lg faA (qf us) (fun p9 => qu (4 * us + p9)) (va_cpy qk qk (24 * (32 * us)) (24 * 64) (24 * 32)) kk) (24 * 64) (24 * (32 * 0)) (24 * 32)) (va_cpy (md_k lg faA (qf us) (fun p9 => qu (4 * us + p9)) (va_cpy qk qk (24 * (32 * us)) (24 * 64) (24 * 32)) kk) (md_k lg faA (qf us) (fun p9 => qu (4 * us + p9)) (va_cpy qk qk (24 * (32 * us)) (24 * 64) (24 * 32)) kk) (24 * 64) (24 * (32 * 0)) (24 * 32)) (24 * 64) (24 * (32 * 1)) (24 * 32)) := by
  obtain ⟨u1, u2, u3, u4, u5, u6⟩ := dA
  obtain ⟨q1, q2, q3, q4, q5⟩ := pA
  have hF := rl_F.read (fi := fiA) (q0 := faA) (uu := uuA) (u := (fun p9 => qu (4 * us + p9))) Bl (cp64 us1 u6) u5 kk (fun i hi => (hr1 i hi).2.2)
  have hkb : fiA + kk - bg ≤ 64 := by
    rcases Nat.eq_zero_or_pos kk with h9 | h9
    · omega
    · have h8 := (hr1 (kk - 1) (by omega)).2.1
      omega
  have h38 := rdq_38 kk (fun i hi => (hr1 i hi).2.2)
  have hle := rd_le (lg := lg) (q0 := faA) (by omega) kk hr1
  have hb := fx_gu_lt (u := uuA) (b := 65 * n + 1) (by omega) (fun j hj => Nat.lt_succ_of_le (buA j hj)) 4 (Nat.le_refl _)
  have hnb : nn ≤ 65 * (n + 1) := by
    rw [hnn]
    by_cases h9 : fiA + kk < fx_gu uuA 4
    · rw [if_pos h9]; omega
    · rw [if_neg h9]; omega
  rw [← u2] at hF
  have hG := cpB2 hF
  have hd : ∀ i, i ≤ 1 → rl_D (ggA + 1) nn whA (rd_s lg faA slA kk) (fun _ => nn) (rd_d lg faA fiA uuA fdA kk) (rd_c lg faA fiA uuA fcA kk) (rd_y lg faA fiA uuA fyA kk) (fun _ => qg us + 1) (fun _ => nn) (fun _ => rd_s lg faA (qs us) kk) (fun _ => 1) (fun _ => nn) (va_cpy (va_cpy (md_d lg faA (qf us) (fun p9 => qu (4 * us + p9)) (va_cpy qd qd (32 * us) 64 32) kk) (md_d lg faA (qf us) (fun p9 => qu (4 * us + p9)) (va_cpy qd qd (32 * us) 64 32) kk) 64 (32 * 0) 32) (va_cpy (md_d lg faA (qf us) (fun p9 => qu (4 * us + p9)) (va_cpy qd qd (32 * us) 64 32) kk) (md_d lg faA (qf us) (fun p9 => qu (4 * us + p9)) (va_cpy qd qd (32 * us) 64 32) kk) 64 (32 * 0) 32) 64 (32 * 1) 32) (va_cpy (va_cpy (md_m lg faA (qf us) (fun p9 => qu (4 * us + p9)) (va_cpy qm qm (32 * us) 64 32) kk) (md_m lg faA (qf us) (fun p9 => qu (4 * us + p9)) (va_cpy qm qm (32 * us) 64 32) kk) 64 (32 * 0) 32) (va_cpy (md_m lg faA (qf us) (fun p9 => qu (4 * us + p9)) (va_cpy qm qm (32 * us) 64 32) kk) (md_m lg faA (qf us) (fun p9 => qu (4 * us + p9)) (va_cpy qm qm (32 * us) 64 32) kk) 64 (32 * 0) 32) 64 (32 * 1) 32) (va_cpy (va_cpy (md_k lg faA (qf us) (fun p9 => qu (4 * us + p9)) (va_cpy qk qk (24 * (32 * us)) (24 * 64) (24 * 32)) kk) (md_k lg faA (qf us) (fun p9 => qu (4 * us + p9)) (va_cpy qk qk (24 * (32 * us)) (24 * 64) (24 * 32)) kk) (24 * 64) (24 * (32 * 0)) (24 * 32)) (va_cpy (md_k lg faA (qf us) (fun p9 => qu (4 * us + p9)) (va_cpy qk qk (24 * (32 * us)) (24 * 64) (24 * 32)) kk) (md_k lg faA (qf us) (fun p9 => qu (4 * us + p9)) (va_cpy qk qk (24 * (32 * us)) (24 * 64) (24 * 32)) kk) (24 * 64) (24 * (32 * 0)) (24 * 32)) (24 * 64) (24 * (32 * 1)) (24 * 32)) i := fun i hi => ⟨by rw [u1], rfl, by rw [u3], wA.symm, fun _ _ => rfl, by rw [← u2]; exact hG _ (by omega)⟩
  have hp : rl_P nn 0 nn nn 0 (uN (md_w lg faA (qf us - bg) qw kk) 0 0) := ⟨Nat.le_refl _, Nat.le_refl _, by rw [Nat.sub_self]; exact uN_s _ _ _, by omega, Nat.le_refl _⟩
  exact ⟨hd us us1, hd _ (by omega), by rw [← u2]; exact hG 64 (Or.inr (Or.inr rfl)), fun _ => hp, fun _ => hp, us1, by omega, by omega, Or.inl wA, fun _ _ => ⟨Nat.le_refl _, Nat.le_refl _⟩, by omega, fun j hj => absurd hj (Nat.not_lt_zero _), by omega, fun j hj => absurd hj (Nat.not_lt_zero _), tn4, Nat.le_refl _, Nat.le_refl _, by omega, by omega, Nat.le_refl _, hnb, by omega, by omega, hnb, hnb, fun _ _ => hnb, fun _ _ => hnb, fun _ => ⟨wA, Nat.le_refl _, fun i hi => absurd hi (by omega), fun i hi => by rw [show i = 0 by omega, Nat.sub_self]; exact uN_s _ _ _, by rw [Nat.sub_self]; rfl, by rw [Nat.sub_self]; rfl, by rw [Nat.sub_self]; exact uN_s _ _ _⟩⟩
