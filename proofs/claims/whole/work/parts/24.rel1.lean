-- ===== the relation =====
def rl_F (fd fc fy qd qm qk : Nat → Int32) (off : Nat) : Prop := (∀ t, t < 32 → qd (off + t) = fd t) ∧ (∀ t, t < 32 → ∃ ct : Nat, ct ≤ 24 ∧ qm (off + t) = nI ct ∧ ((fd t < 0 ∧ fc t = -1) ∨ (¬ fd t < 0 ∧ fc t = nI ct))) ∧ (∀ j, j < 768 → qk (24 * off + j) = fy j)
def rl_D (gg fi wh : Nat) (sl : Int64) (uu : Nat → Nat) (fd fc fy : Nat → Int32) (qg qf : Nat → Nat) (qs : Nat → Int64) (qh qu : Nat → Nat) (qd qm qk : Nat → Int32) (i : Nat) : Prop := qg i = gg ∧ qf i = fi ∧ qs i = sl ∧ qh i = wh ∧ (∀ p, p < 4 → qu (4 * i + p) = uu p) ∧ rl_F fd fc fy qd qm qk (32 * i)
def rl_P (fi fa bg ak ab : Nat) (qw : Nat → Nat) : Prop := bg ≤ fi ∧ fi ≤ ak ∧ qw (fi - bg) = fa ∧ fa ≤ 38 * (fi - bg) ∧ fa ≤ ab
def rl_N (bg nx ak ab : Nat) (sn : Int64) (ln : Nat) (lg : Nat → Int32) (fi fa : Nat) (sl : Int64) (qw : Nat → Nat) : Prop := fi ≤ nx ∧ (∀ i, fi + i < nx → fx_ok lg ln (rd_q lg fa i)) ∧ (∀ i, fi + i ≤ nx → qw (fi - bg + i) = rd_q lg fa i) ∧ rd_q lg fa (nx - fi) = ln ∧ sn = rd_s lg fa sl (nx - fi) ∧ qw (ak - bg) = ab
def rl_R (n : Nat) (bg : Nat) (nx : Nat) (ak : Nat) (ab : Nat) (tn : Nat) (sn : Int64) (bc : Nat) (pn : Nat) (pf : Nat → Int32) (ln : Nat) (lg : Nat → Int32) (fdL : Nat → Int32) (fcL : Nat → Int32) (fyL : Nat → Int32) (ggU : Nat) (fiU : Nat) (faU : Nat) (whU : Nat) (slU : Int64) (uuU : Nat → Nat) (fdU : Nat → Int32) (fcU : Nat → Int32) (fyU : Nat → Int32) (ggO : Nat) (fiO : Nat) (faO : Nat) (whO : Nat) (slO : Int64) (uuO : Nat → Nat) (fdO : Nat → Int32) (fcO : Nat → Int32) (fyO : Nat → Int32) (mus : Nat) (qw : Nat → Nat) (qg : Nat → Nat) (qf : Nat → Nat) (qs : Nat → Int64) (qh : Nat → Nat) (qu : Nat → Nat) (qd : Nat → Int32) (qm : Nat → Int32) (qk : Nat → Int32) : Prop := rl_D ggU fiU whU slU uuU fdU fcU fyU qg qf qs qh qu qd qm qk mus ∧ rl_D ggO fiO whO slO uuO fdO fcO fyO qg qf qs qh qu qd qm qk (1 - mus) ∧ rl_F fdL fcL fyL qd qm qk 64 ∧ (whU = 1 → rl_P fiU faU bg ak ab qw) ∧ (whO = 1 → rl_P fiO faO bg ak ab qw) ∧ mus ≤ 1 ∧ whU ≤ 1 ∧ whO ≤ 1 ∧ (whU = 1 ∨ whO = 1) ∧ (whU = 1 → whO = 1 → ggO ≤ ggU ∧ fiO ≤ fiU) ∧ bc ≤ 1 ∧ fx_B pf pn ∧ pn ≤ 24 ∧ fx_B lg ln ∧ tn < 4 ∧ bg ≤ ak ∧ ak ≤ nx ∧ nx - bg ≤ 64 ∧ ln ≤ 38 * (nx - bg) ∧ ab ≤ ln ∧ nx ≤ 65 * n ∧ ggU ≤ n ∧ ggO ≤ n ∧ fiU ≤ 65 * n ∧ fiO ≤ 65 * n ∧ (∀ p, p < 4 → uuU p ≤ 65 * n) ∧ (∀ p, p < 4 → uuO p ≤ 65 * n) ∧ (bc = 0 → whU = 1 ∧ rl_N bg nx ak ab sn ln lg fiU faU slU qw)
theorem rl_F.same {fd fc fy qd qm qk qd' qm' qk' : Nat → Int32} {off off' : Nat} (h : rl_F fd fc fy qd qm qk off) (h1 : ∀ t, t < 32 → qd' (off' + t) = qd (off + t)) (h2 : ∀ t, t < 32 → qm' (off' + t) = qm (off + t)) (h3 : ∀ j, j < 768 → qk' (24 * off' + j) = qk (24 * off + j)) : rl_F fd fc fy qd' qm' qk' off' :=
  ⟨fun t ht => (h1 t ht).trans (h.1 t ht), fun t ht => by rw [h2 t ht]; exact h.2.1 t ht, fun j hj => (h3 j hj).trans (h.2.2 j hj)⟩
theorem rl_D.low {gg fi wh : Nat} {sl : Int64} {uu : Nat → Nat} {fd fc fy : Nat → Int32} {qg qf : Nat → Nat} {qs : Nat → Int64} {qh qu : Nat → Nat} {qd qm qk qd' qm' qk' : Nat → Int32} {i : Nat} (h : rl_D gg fi wh sl uu fd fc fy qg qf qs qh qu qd qm qk i) (hi : i ≤ 1) (h1 : ∀ j, j < 64 → qd' j = qd j) (h2 : ∀ j, j < 64 → qm' j = qm j) (h3 : ∀ j, j < 1536 → qk' j = qk j) : rl_D gg fi wh sl uu fd fc fy qg qf qs qh qu qd' qm' qk' i :=
  ⟨h.1, h.2.1, h.2.2.1, h.2.2.2.1, h.2.2.2.2.1, h.2.2.2.2.2.same (fun t ht => h1 _ (by omega)) (fun t ht => h2 _ (by omega)) (fun j hj => h3 _ (by omega))⟩
theorem rl_P.w {fi fa bg ak ab : Nat} {qw qw' : Nat → Nat} (h : rl_P fi fa bg ak ab qw) (e : qw' (fi - bg) = qw (fi - bg)) : rl_P fi fa bg ak ab qw' := ⟨h.1, h.2.1, e.trans h.2.2.1, h.2.2.2.1, h.2.2.2.2⟩
/-- a thing's act is held -/
theorem rl_F.keep {fd fc fy qd qm qk g h : Nat → Int32} {th ct q a : Nat} {dv : Int32} (hF : rl_F fd fc fy qd qm qk 64) (ht : th < 32) (hc : ct ≤ 24) (hv : ¬ dv < 0) (he : ∀ i, i < ct → g (q + i) = h (a + i)) : rl_F (upd fd th dv) (upd fc th (nI ct)) (va_cpy h fy a (th * 24) ct) (upd qd (64 + th) dv) (upd qm (64 + th) (nI ct)) (va_cpy g qk q (24 * (64 + th)) ct) 64 := by
  refine ⟨fun t htt => ?_, fun t htt => ?_, fun j hj => ?_⟩
  · by_cases h1 : t = th
    · rw [h1, pk_us, pk_us]
    · rw [pk_un h1, pk_un (by omega)]; exact hF.1 t htt
  · by_cases h1 : t = th
    · rw [h1, pk_us, pk_us, pk_us]; exact ⟨ct, hc, rfl, Or.inr ⟨hv, rfl⟩⟩
    · rw [pk_un h1, pk_un h1, pk_un (by omega)]; exact hF.2.1 t htt
  · by_cases h1 : th * 24 ≤ j ∧ j < th * 24 + ct
    · rw [va_cpy, if_pos (by omega), va_cpy, if_pos h1, show 24 * 64 + j - 24 * (64 + th) = j - th * 24 by omega]
      exact he _ (by omega)
    · rw [va_cpy, if_neg (by omega), va_cpy, if_neg h1]; exact hF.2.2 j hj
theorem B_upd {f : Nat → Int32} {n b : Nat} (h : fx_B f n) (hb : b < 256) : fx_B (upd f n (nI b)) (n + 1) := fun j hj => by
  by_cases e : j = n
  · rw [e, pk_us]; exact ⟨b, hb, rfl⟩
  · rw [pk_un e]; exact h j (by omega)
theorem B_set {f : Nat → Int32} {n q b : Nat} (h : fx_B f n) (hb : b < 256) : fx_B (upd f q (nI b)) n := fun j hj => by
  by_cases e : j = q
  · rw [e, pk_us]; exact ⟨b, hb, rfl⟩
  · rw [pk_un e]; exact h j hj
/-- the log's beginning is dropped, and it is read from kk acts on -/
theorem dr_all {bg nx ak ab ln fi fa : Nat} {sn sl : Int64} {lg : Nat → Int32} {qw : Nat → Nat} (kk n0 : Nat) (hN : rl_N bg nx ak ab sn ln lg fi fa sl qw) (hbg : bg ≤ fi) (hn0 : n0 = fi - bg) (hk : fi + kk ≤ nx) : rl_N fi nx nx (ln - fa) sn (ln - fa) (va_cpy lg lg fa 0 (ln - fa)) (fi + kk) (rd_q lg fa kk - fa) (rd_s lg fa sl kk) (wh_f qw n0 (nx - bg + 1 - n0)) := by
  obtain ⟨h1, hok, hw, he, hs, ha⟩ := hN
  have hfl : fa ≤ ln := by rw [← he]; exact rd_ge _ _ _
  have hfg : ∀ j, j < ln - fa → va_cpy lg lg fa 0 (ln - fa) j = lg (j + fa) := fun j hj => by
    rw [va_cpy, if_pos (by omega)]
    congr 1
    omega
  generalize va_cpy lg lg fa 0 (ln - fa) = g at hfg
  have ek : rd_q lg fa kk - fa + fa = rd_q lg fa kk := Nat.sub_add_cancel (rd_ge _ _ _)
  have hok' : ∀ i, fi + kk + i < nx → fx_ok lg (ln - fa + fa) (rd_q lg (rd_q lg fa kk - fa + fa) i) := fun i hi => by
    rw [ek, rdq_add, Nat.sub_add_cancel hfl]
    exact hok _ (by omega)
  have hq : ∀ i, fi + kk + i ≤ nx → rd_q g (rd_q lg fa kk - fa) i + fa = rd_q lg fa (kk + i) := fun i hi => by
    rw [rdq_sh hfg i (fun j hj => hok' j (by omega)), ek, rdq_add]
  have hw2 : ∀ i, fi + kk + i ≤ nx → wh_f qw n0 (nx - bg + 1 - n0) (fi + kk - fi + i) = rd_q g (rd_q lg fa kk - fa) i := fun i hi => by
    have a1 := hw 0 (by omega)
    have a2 := hw (kk + i) (by omega)
    have a3 := hq i hi
    rw [wh_f, if_pos (by omega), show fi + kk - fi + i + n0 = fi - bg + (kk + i) by omega, a2, hn0, show qw (fi - bg) = fa from a1]
    omega
  have hend : rd_q g (rd_q lg fa kk - fa) (nx - (fi + kk)) = ln - fa := by
    have a3 := hq (nx - (fi + kk)) (by omega)
    rw [show kk + (nx - (fi + kk)) = nx - fi by omega, he] at a3
    omega
  refine ⟨hk, fun i hi => ok_sh hfg (Nat.le_refl _) (fun j hj => hok' j (by omega)), hw2, hend, ?_, ?_⟩
  · rw [hs, rds_sh hfg _ (fun j hj => hok' j (by omega)), ek, rds_add]
    congr 1
    omega
  · have a4 := hw2 (nx - (fi + kk)) (by omega)
    rw [hend, show fi + kk - fi + (nx - (fi + kk)) = nx - fi by omega] at a4
    exact a4
section NHS
variable {gg fi wh mus : Nat} {sl : Int64} {uu : Nat → Nat} {fd fc fy : Nat → Int32} {qg qf : Nat → Nat} {qs : Nat → Int64} {qh qu : Nat → Nat} {qd qm qk : Nat → Int32}
theorem nh_F (hus : mus ≤ 1) (h : rl_F fd fc fy qd qm qk (32 * mus)) : rl_F fd fc fy (va_cpy qd qd (32 * mus) (32 * (1 - mus)) 32) (va_cpy qm qm (32 * mus) (32 * (1 - mus)) 32) (va_cpy qk qk (24 * (32 * mus)) (24 * (32 * (1 - mus))) (24 * 32)) (32 * (1 - mus)) := by
  refine h.same (fun t ht => ?_) (fun t ht => ?_) (fun j hj => ?_)
  · rw [va_cpy, if_pos (by omega)]; congr 1; omega
  · rw [va_cpy, if_pos (by omega)]; congr 1; omega
  · rw [va_cpy, if_pos (by omega)]; congr 1; omega
theorem nh_Fo {off : Nat} (hus : mus ≤ 1) (ho : off = 32 * mus ∨ off = 64) (h : rl_F fd fc fy qd qm qk off) : rl_F fd fc fy (va_cpy qd qd (32 * mus) (32 * (1 - mus)) 32) (va_cpy qm qm (32 * mus) (32 * (1 - mus)) 32) (va_cpy qk qk (24 * (32 * mus)) (24 * (32 * (1 - mus))) (24 * 32)) off := by
  refine h.same (fun t ht => ?_) (fun t ht => ?_) (fun j hj => ?_)
  · rw [va_cpy, if_neg (by omega)]
  · rw [va_cpy, if_neg (by omega)]
  · rw [va_cpy, if_neg (by omega)]
theorem nh_u (hus : mus ≤ 1) {p : Nat} (hp : p < 4) : va_cpy qu qu (4 * mus) (4 * (1 - mus)) 4 (4 * (1 - mus) + p) = qu (4 * mus + p) := by
  rw [va_cpy, if_pos (by omega)]; congr 1; omega
theorem nh_uo (hus : mus ≤ 1) {p : Nat} (hp : p < 4) : va_cpy qu qu (4 * mus) (4 * (1 - mus)) 4 (4 * mus + p) = qu (4 * mus + p) := by
  rw [va_cpy, if_neg (by omega)]
end NHS
theorem pt_new {fd fc fy fdL fcL fyL g m k : Nat → Int32} {b p : Nat} (hp : p < 4) (hb : b + 32 ≤ 64) (h : rl_F fd fc fy g m k b) (hL : rl_F fdL fcL fyL g m k 64) : rl_F (pt_d fdL fd p) (pt_d fcL fc p) (pt_y fyL fy p) (fx_pd g b p 8) (fx_pd m b p 8) (fx_pk k b p 8) b := by
  refine ⟨fun t ht => ?_, fun t ht => ?_, fun j hj => ?_⟩
  · rw [fx_pd_at g b p hp, pt_d]
    by_cases h1 : t % 4 = p
    · rw [if_pos (by omega), if_pos h1, show b + t - b = t by omega]; exact hL.1 t ht
    · rw [if_neg (by omega), if_neg h1]; exact h.1 t ht
  · rw [fx_pd_at m b p hp, pt_d, pt_d]
    by_cases h1 : t % 4 = p
    · rw [if_pos (by omega), if_pos h1, if_pos h1, show b + t - b = t by omega]; exact hL.2.1 t ht
    · rw [if_neg (by omega), if_neg h1, if_neg h1]; exact h.2.1 t ht
  · rw [fx_pk_at k b p hp hb 8 (Nat.le_refl _), pt_y]
    by_cases h1 : j / 24 % 4 = p
    · rw [if_pos (by rw [show 24 * b + j - 24 * b = j by omega]; omega), if_pos h1, show 24 * b + j - 24 * b = j by omega]; exact hL.2.2 j hj
    · rw [if_neg (by rw [show 24 * b + j - 24 * b = j by omega]; omega), if_neg h1]; exact h.2.2 j hj
theorem pt_old {fd fc fy g m k : Nat → Int32} {b p off : Nat} (hp : p < 4) (hb : b + 32 ≤ 64) (ho : off + 32 ≤ b ∨ b + 32 ≤ off) (h : rl_F fd fc fy g m k off) : rl_F fd fc fy (fx_pd g b p 8) (fx_pd m b p 8) (fx_pk k b p 8) off := by
  refine h.same (fun t ht => ?_) (fun t ht => ?_) (fun j hj => ?_)
  · rw [fx_pd_at g b p hp, if_neg (by omega)]
  · rw [fx_pd_at m b p hp, if_neg (by omega)]
  · rw [fx_pk_at k b p hp hb 8 (Nat.le_refl _), if_neg (by omega)]
theorem rl_next {n : Nat} {bg : Nat} {nx : Nat} {ak : Nat} {ab : Nat} {tn : Nat} {sn : Int64} {bc : Nat} {pn : Nat} {pf : Nat → Int32} {ln : Nat} {lg : Nat → Int32} {fdL : Nat → Int32} {fcL : Nat → Int32} {fyL : Nat → Int32} {ggU : Nat} {fiU : Nat} {faU : Nat} {whU : Nat} {slU : Int64} {uuU : Nat → Nat} {fdU : Nat → Int32} {fcU : Nat → Int32} {fyU : Nat → Int32} {ggO : Nat} {fiO : Nat} {faO : Nat} {whO : Nat} {slO : Int64} {uuO : Nat → Nat} {fdO : Nat → Int32} {fcO : Nat → Int32} {fyO : Nat → Int32} {mus : Nat} {qw : Nat → Nat} {qg : Nat → Nat} {qf : Nat → Nat} {qs : Nat → Int64} {qh : Nat → Nat} {qu : Nat → Nat} {qd : Nat → Int32} {qm : Nat → Int32} {qk : Nat → Int32}  (hr : rl_R n bg nx ak ab tn sn bc pn pf ln lg fdL fcL fyL ggU fiU faU whU slU uuU fdU fcU fyU ggO fiO faO whO slO uuO fdO fcO fyO mus qw qg qf qs qh qu qd qm qk)  : rl_R (n + 1) bg nx ak ab tn sn bc pn pf ln lg fdL fcL fyL ggU fiU faU whU slU uuU fdU fcU fyU ggO fiO faO whO slO uuO fdO fcO fyO mus qw qg qf qs qh qu qd qm qk := by
  obtain ⟨dU, dO, lat, pU, pO, us1, wU, wO, w1, both, bc1, Bp, pn24, Bl, tn4, ba, an, nb, ln38, abln, bnx, bgU, bgO, bfU, bfO, buU, buO, nbk⟩ := hr
  exact ⟨dU, dO, lat, pU, pO, us1, wU, wO, w1, both, bc1, Bp, pn24, Bl, tn4, ba, an, nb, ln38, abln, (by omega), (by omega), (by omega), (by omega), (by omega), (fun p hp => Nat.le_trans (buU p hp) (by omega)), (fun p hp => Nat.le_trans (buO p hp) (by omega)), nbk⟩
theorem rl_feed {n : Nat} {bg : Nat} {nx : Nat} {ak : Nat} {ab : Nat} {tn : Nat} {sn : Int64} {bc : Nat} {pn : Nat} {pf : Nat → Int32} {ln : Nat} {lg : Nat → Int32} {fdL : Nat → Int32} {fcL : Nat → Int32} {fyL : Nat → Int32} {ggU : Nat} {fiU : Nat} {faU : Nat} {whU : Nat} {slU : Int64} {uuU : Nat → Nat} {fdU : Nat → Int32} {fcU : Nat → Int32} {fyU : Nat → Int32} {ggO : Nat} {fiO : Nat} {faO : Nat} {whO : Nat} {slO : Int64} {uuO : Nat → Nat} {fdO : Nat → Int32} {fcO : Nat → Int32} {fyO : Nat → Int32} {mus : Nat} {qw : Nat → Nat} {qg : Nat → Nat} {qf : Nat → Nat} {qs : Nat → Int64} {qh : Nat → Nat} {qu : Nat → Nat} {qd : Nat → Int32} {qm : Nat → Int32} {qk : Nat → Int32}  (hr : rl_R n bg nx ak ab tn sn bc pn pf ln lg fdL fcL fyL ggU fiU faU whU slU uuU fdU fcU fyU ggO fiO faO whO slO uuO fdO fcO fyO mus qw qg qf qs qh qu qd qm qk) (b : Nat) (hb : b < 256) (hp : pn < 24) : rl_R (n + 1) bg nx ak ab tn sn bc (pn + 1) (upd pf pn (nI b)) ln lg fdL fcL fyL ggU fiU faU whU slU uuU fdU fcU fyU ggO fiO faO whO slO uuO fdO fcO fyO mus qw qg qf qs qh qu qd qm qk := by
  obtain ⟨dU, dO, lat, pU, pO, us1, wU, wO, w1, both, bc1, Bp, pn24, Bl, tn4, ba, an, nb, ln38, abln, bnx, bgU, bgO, bfU, bfO, buU, buO, nbk⟩ := hr
  exact ⟨dU, dO, lat, pU, pO, us1, wU, wO, w1, both, bc1, (B_upd Bp hb), (by omega), Bl, tn4, ba, an, nb, ln38, abln, (by omega), (by omega), (by omega), (by omega), (by omega), (fun p hp => Nat.le_trans (buU p hp) (by omega)), (fun p hp => Nat.le_trans (buO p hp) (by omega)), nbk⟩
theorem rl_act {n : Nat} {bg : Nat} {nx : Nat} {ak : Nat} {ab : Nat} {tn : Nat} {sn : Int64} {bc : Nat} {pn : Nat} {pf : Nat → Int32} {ln : Nat} {lg : Nat → Int32} {fdL : Nat → Int32} {fcL : Nat → Int32} {fyL : Nat → Int32} {ggU : Nat} {fiU : Nat} {faU : Nat} {whU : Nat} {slU : Int64} {uuU : Nat → Nat} {fdU : Nat → Int32} {fcU : Nat → Int32} {fyU : Nat → Int32} {ggO : Nat} {fiO : Nat} {faO : Nat} {whO : Nat} {slO : Int64} {uuO : Nat → Nat} {fdO : Nat → Int32} {fcO : Nat → Int32} {fyO : Nat → Int32} {mus : Nat} {qw : Nat → Nat} {qg : Nat → Nat} {qf : Nat → Nat} {qs : Nat → Int64} {qh : Nat → Nat} {qu : Nat → Nat} {qd : Nat → Int32} {qm : Nat → Int32} {qk : Nat → Int32}  (hr : rl_R n bg nx ak ab tn sn bc pn pf ln lg fdL fcL fyL ggU fiU faU whU slU uuU fdU fcU fyU ggO fiO faO whO slO uuO fdO fcO fyO mus qw qg qf qs qh qu qd qm qk) (th dy : Nat) (hbc : bc = 0) (ht : th < 32) (hd : dy ≤ 36500) (hb2 : nx - bg < 64) : rl_R (n + 1) bg (nx + 1) ak ab tn (fx_g sn (st_s lg ln th dy pf pn)) bc 0 pf (ln + (14 + pn)) (st_g lg ln th dy pf pn) (upd fdL th (nI dy)) (upd fcL th (nI pn)) (va_cpy pf fyL 0 (th * 24) pn) ggU fiU faU whU slU uuU fdU fcU fyU ggO fiO faO whO slO uuO fdO fcO fyO mus (uN qw (nx + 1 - bg) (ln + (14 + pn))) qg qf qs qh qu (upd qd (64 + th) (nI dy)) (upd qm (64 + th) (nI pn)) (va_cpy (st_g lg ln th dy pf pn) qk (ln + 6) (24 * (64 + th)) pn) := by
  obtain ⟨dU, dO, lat, pU, pO, us1, wU, wO, w1, both, bc1, Bp, pn24, Bl, tn4, ba, an, nb, ln38, abln, bnx, bgU, bgO, bfU, bfO, buU, buO, nbk⟩ := hr
  obtain ⟨wu1, hfn, hok, hw, he, hs, ha⟩ := nbk hbc
  have q1 := (pU wu1).1
  have hfg : ∀ j, j < ln → st_g lg ln th dy pf pn j = lg (j + 0) := fun j hj => st_lo hj
  have hq : ∀ k, fiU + k ≤ nx → rd_q (st_g lg ln th dy pf pn) faU k = rd_q lg faU k := fun k hk => rdq_sh (s := 0) hfg k (fun i hi => hok i (by omega))
  have hqe : rd_q (st_g lg ln th dy pf pn) faU (nx - fiU) = ln := (hq _ (by omega)).trans he
  have hn5 : nv (st_g lg ln th dy pf pn (ln + 5)) = pn := by rw [st_ct]; exact nv_nI (by omega)
  have hqs : rd_q (st_g lg ln th dy pf pn) faU (nx - fiU + 1) = ln + (14 + pn) := by rw [rd_q, hqe, hn5]
  have hss : rd_s (st_g lg ln th dy pf pn) faU slU (nx - fiU) = sn := (rds_sh (s := 0) hfg _ (fun i hi => hok i (by omega))).trans hs.symm
  exact ⟨(dU.low us1 (fun j hj => pk_un (by omega)) (fun j hj => pk_un (by omega)) (fun j hj => if_neg (by omega))), (dO.low (by omega) (fun j hj => pk_un (by omega)) (fun j hj => pk_un (by omega)) (fun j hj => if_neg (by omega))), (lat.keep ht pn24 (nI_pos (by omega)) (fun i hi => by rw [st_pd hi, Nat.zero_add])), (fun h => (pU h).w (uN_n _ _ (by obtain ⟨a1, a2, -⟩ := pU h; omega))), (fun h => (pO h).w (uN_n _ _ (by obtain ⟨a1, a2, -⟩ := pO h; omega))), us1, wU, wO, w1, both, bc1, (fun j hj => absurd hj (Nat.not_lt_zero _)), (by omega), (st_B Bl Bp ht pn24), tn4, ba, (by omega), (by omega), (by omega), (by omega), (by omega), (by omega), (by omega), (by omega), (by omega), (fun p hp => Nat.le_trans (buU p hp) (by omega)), (fun p hp => Nat.le_trans (buO p hp) (by omega)), (fun _ => ⟨wu1, by omega, fun i hi => by
      by_cases h9 : fiU + i < nx
      · exact ok_sh (s := 0) hfg (by omega) (fun j hj => hok j (by omega))
      · rw [show i = nx - fiU by omega, hqe]; exact ⟨th, pn, st_okc ht hd pn24⟩, fun i hi => by
      by_cases h9 : fiU + i ≤ nx
      · rw [uN_n _ _ (by omega), hq i h9]; exact hw i h9
      · rw [show i = nx - fiU + 1 by omega, hqs, show fiU - bg + (nx - fiU + 1) = nx + 1 - bg by omega, uN_s], by rw [show nx + 1 - fiU = nx - fiU + 1 by omega]; exact hqs, by rw [show nx + 1 - fiU = nx - fiU + 1 by omega, rd_s, hqe, hn5, hss, st_nb8], by rw [uN_n _ _ (by omega)]; exact ha⟩)⟩
theorem rl_flush {n : Nat} {bg : Nat} {nx : Nat} {ak : Nat} {ab : Nat} {tn : Nat} {sn : Int64} {bc : Nat} {pn : Nat} {pf : Nat → Int32} {ln : Nat} {lg : Nat → Int32} {fdL : Nat → Int32} {fcL : Nat → Int32} {fyL : Nat → Int32} {ggU : Nat} {fiU : Nat} {faU : Nat} {whU : Nat} {slU : Int64} {uuU : Nat → Nat} {fdU : Nat → Int32} {fcU : Nat → Int32} {fyU : Nat → Int32} {ggO : Nat} {fiO : Nat} {faO : Nat} {whO : Nat} {slO : Int64} {uuO : Nat → Nat} {fdO : Nat → Int32} {fcO : Nat → Int32} {fyO : Nat → Int32} {mus : Nat} {qw : Nat → Nat} {qg : Nat → Nat} {qf : Nat → Nat} {qs : Nat → Int64} {qh : Nat → Nat} {qu : Nat → Nat} {qd : Nat → Int32} {qm : Nat → Int32} {qk : Nat → Int32}  (hr : rl_R n bg nx ak ab tn sn bc pn pf ln lg fdL fcL fyL ggU fiU faU whU slU uuU fdU fcU fyU ggO fiO faO whO slO uuO fdO fcO fyO mus qw qg qf qs qh qu qd qm qk) (hbc : bc = 0) : rl_R (n + 1) bg nx nx ln tn sn bc pn pf ln lg fdL fcL fyL ggU fiU faU whU slU uuU fdU fcU fyU ggO fiO faO whO slO uuO fdO fcO fyO mus qw qg qf qs qh qu qd qm qk := by
  obtain ⟨dU, dO, lat, pU, pO, us1, wU, wO, w1, both, bc1, Bp, pn24, Bl, tn4, ba, an, nb, ln38, abln, bnx, bgU, bgO, bfU, bfO, buU, buO, nbk⟩ := hr
  obtain ⟨wu1, hfn, hok, hw, he, hs, ha⟩ := nbk hbc
  exact ⟨dU, dO, lat, (fun h => ⟨(pU h).1, by have := (pU h).2.1; omega, (pU h).2.2.1, (pU h).2.2.2.1, by have := (pU h).2.2.2.2; omega⟩), (fun h => ⟨(pO h).1, by have := (pO h).2.1; omega, (pO h).2.2.1, (pO h).2.2.2.1, by have := (pO h).2.2.2.2; omega⟩), us1, wU, wO, w1, both, bc1, Bp, pn24, Bl, tn4, (by omega), (Nat.le_refl _), nb, ln38, (Nat.le_refl _), (by omega), (by omega), (by omega), (by omega), (by omega), (fun p hp => Nat.le_trans (buU p hp) (by omega)), (fun p hp => Nat.le_trans (buO p hp) (by omega)), (fun _ => ⟨wu1, hfn, hok, hw, he, hs, by have h9 := hw (nx - fiU) (by omega); have h8 := (pU wu1).1; rw [he, show fiU - bg + (nx - fiU) = nx - bg by omega] at h9; exact h9⟩)⟩
theorem rl_part {n : Nat} {bg : Nat} {nx : Nat} {ak : Nat} {ab : Nat} {tn : Nat} {sn : Int64} {bc : Nat} {pn : Nat} {pf : Nat → Int32} {ln : Nat} {lg : Nat → Int32} {fdL : Nat → Int32} {fcL : Nat → Int32} {fyL : Nat → Int32} {ggU : Nat} {fiU : Nat} {faU : Nat} {whU : Nat} {slU : Int64} {uuU : Nat → Nat} {fdU : Nat → Int32} {fcU : Nat → Int32} {fyU : Nat → Int32} {ggO : Nat} {fiO : Nat} {faO : Nat} {whO : Nat} {slO : Int64} {uuO : Nat → Nat} {fdO : Nat → Int32} {fcO : Nat → Int32} {fyO : Nat → Int32} {mus : Nat} {qw : Nat → Nat} {qg : Nat → Nat} {qf : Nat → Nat} {qs : Nat → Int64} {qh : Nat → Nat} {qu : Nat → Nat} {qd : Nat → Int32} {qm : Nat → Int32} {qk : Nat → Int32}  (hr : rl_R n bg nx ak ab tn sn bc pn pf ln lg fdL fcL fyL ggU fiU faU whU slU uuU fdU fcU fyU ggO fiO faO whO slO uuO fdO fcO fyO mus qw qg qf qs qh qu qd qm qk) (n0 : Nat) (hn0 : n0 = fiU - bg) (hbc : bc = 0) (t9 : Nat) (ht9 : t9 < 4) : rl_R (n + 1) fiU nx nx (ln - faU) t9 sn bc pn pf (ln - faU) (va_cpy lg lg faU 0 (ln - faU)) fdL fcL fyL (ggU + 1) fiU 0 whU slU (uN uuU tn nx) (pt_d fdL fdU tn) (pt_d fcL fcU tn) (pt_y fyL fyU tn) ggU fiU 0 whU slU uuU fdU fcU fyU (1 - mus) (wh_f qw n0 (nx - bg + 1 - n0)) (uN qg (1 - mus) (qg mus + 1)) (uN qf (1 - mus) (qf mus)) (vp_updL qs (1 - mus) (qs mus)) (uN qh (1 - mus) 1) (uN (va_cpy qu qu (4 * mus) (4 * (1 - mus)) 4) (4 * (1 - mus) + tn) nx) (fx_pd (va_cpy qd qd (32 * mus) (32 * (1 - mus)) 32) (32 * (1 - mus)) tn 8) (fx_pd (va_cpy qm qm (32 * mus) (32 * (1 - mus)) 32) (32 * (1 - mus)) tn 8) (fx_pk (va_cpy qk qk (24 * (32 * mus)) (24 * (32 * (1 - mus))) (24 * 32)) (32 * (1 - mus)) tn 8) := by
  obtain ⟨dU, dO, lat, pU, pO, us1, wU, wO, w1, both, bc1, Bp, pn24, Bl, tn4, ba, an, nb, ln38, abln, bnx, bgU, bgO, bfU, bfO, buU, buO, nbk⟩ := hr
  obtain ⟨wu1, hfn, hok, hw, he, hs, ha⟩ := nbk hbc
  obtain ⟨q1, q2, q3, q4, q5⟩ := pU wu1
  obtain ⟨u1, u2, u3, u4, u5, u6⟩ := dU
  have hD := dr_all 0 n0 ⟨hfn, hok, hw, he, hs, ha⟩ q1 hn0 (by omega)
  have hfl : faU ≤ ln := by rw [← he]; exact rd_ge _ _ _
  have h38 := rdq_38 (nx - fiU) (fun i hi => hok i (by omega))
  rw [he] at h38
  have hm1 : 1 - (1 - mus) = mus := by omega
  have hw0 : wh_f qw n0 (nx - bg + 1 - n0) 0 = 0 := by rw [wh_f, if_pos (by omega), Nat.zero_add, Nat.sub_self]
  have hpu : ∀ p, p < 4 → uN (va_cpy qu qu (4 * mus) (4 * (1 - mus)) 4) (4 * (1 - mus) + tn) nx (4 * (1 - mus) + p) = uN uuU tn nx p := fun p hp => by
    by_cases h9 : p = tn
    · rw [h9, uN_s, uN_s]
    · rw [uN_n _ _ (by omega), uN_n _ _ h9, nh_u us1 hp, u5 p hp]
  have hbu : ∀ p, p < 4 → uN uuU tn nx p ≤ 65 * (n + 1) := fun p hp => by
    by_cases h9 : p = tn
    · rw [h9, uN_s]; omega
    · rw [uN_n _ _ h9]; exact Nat.le_trans (buU p hp) (by omega)
  exact ⟨⟨by rw [uN_s, u1], by rw [uN_s, u2], by rw [pk_uLs, u3], by rw [uN_s, wu1], hpu, pt_new tn4 (by omega) (nh_F us1 u6) (nh_Fo us1 (Or.inr rfl) lat)⟩, (by rw [hm1]; exact ⟨by rw [uN_n _ _ (by omega), u1], by rw [uN_n _ _ (by omega), u2], by rw [pk_uLn (by omega), u3], by rw [uN_n _ _ (by omega), u4], fun p hp => by rw [uN_n _ _ (by omega), nh_uo us1 hp, u5 p hp], pt_old tn4 (by omega) (by omega) (nh_Fo us1 (Or.inl rfl) u6)⟩), (pt_old tn4 (by omega) (by omega) (nh_Fo us1 (Or.inr rfl) lat)), (fun _ => ⟨Nat.le_refl _, hfn, by rw [Nat.sub_self]; exact hw0, by omega, by omega⟩), (fun _ => ⟨Nat.le_refl _, hfn, by rw [Nat.sub_self]; exact hw0, by omega, by omega⟩), (by omega), wU, wU, (Or.inl wu1), (fun _ _ => ⟨by omega, Nat.le_refl _⟩), bc1, Bp, pn24, (fun j hj => by rw [va_cpy, if_pos (by omega)]; exact Bl _ (by omega)), ht9, (by omega), (Nat.le_refl _), (by omega), (by omega), (Nat.le_refl _), (by omega), (by omega), (by omega), (by omega), (by omega), hbu, (fun p hp => Nat.le_trans (buU p hp) (by omega)), (fun _ => ⟨wu1, by have h9 := hD; rw [show rd_q lg faU 0 - faU = 0 from Nat.sub_self _] at h9; exact h9⟩)⟩
theorem rl_cut {n : Nat} {bg : Nat} {nx : Nat} {ak : Nat} {ab : Nat} {tn : Nat} {sn : Int64} {bc : Nat} {pn : Nat} {pf : Nat → Int32} {ln : Nat} {lg : Nat → Int32} {fdL : Nat → Int32} {fcL : Nat → Int32} {fyL : Nat → Int32} {ggU : Nat} {fiU : Nat} {faU : Nat} {whU : Nat} {slU : Int64} {uuU : Nat → Nat} {fdU : Nat → Int32} {fcU : Nat → Int32} {fyU : Nat → Int32} {ggO : Nat} {fiO : Nat} {faO : Nat} {whO : Nat} {slO : Int64} {uuO : Nat → Nat} {fdO : Nat → Int32} {fcO : Nat → Int32} {fyO : Nat → Int32} {mus : Nat} {qw : Nat → Nat} {qg : Nat → Nat} {qf : Nat → Nat} {qs : Nat → Int64} {qh : Nat → Nat} {qu : Nat → Nat} {qd : Nat → Int32} {qm : Nat → Int32} {qk : Nat → Int32}  (hr : rl_R n bg nx ak ab tn sn bc pn pf ln lg fdL fcL fyL ggU fiU faU whU slU uuU fdU fcU fyU ggO fiO faO whO slO uuO fdO fcO fyO mus qw qg qf qs qh qu qd qm qk) (n0 kk : Nat) (hn0 : n0 = fiU - bg) (hbc : bc = 0) (hk : fiU + kk ≤ nx) : rl_R (n + 1) fiU nx nx (ln - faU) tn sn bc pn pf (ln - faU) (va_cpy lg lg faU 0 (ln - faU)) fdL fcL fyL (ggU + 1) (fiU + kk) (rd_q lg faU kk - faU) whU (rd_s lg faU slU kk) uuU fdU fcU fyU ggU fiU 0 whU slU uuU fdU fcU fyU (1 - mus) (wh_f qw n0 (nx - bg + 1 - n0)) (uN qg (1 - mus) (qg mus + 1)) (uN qf (1 - mus) (qf mus + kk)) (vp_updL qs (1 - mus) (rd_s lg faU (qs mus) kk)) (uN qh (1 - mus) 1) (va_cpy qu qu (4 * mus) (4 * (1 - mus)) 4) (va_cpy qd qd (32 * mus) (32 * (1 - mus)) 32) (va_cpy qm qm (32 * mus) (32 * (1 - mus)) 32) (va_cpy qk qk (24 * (32 * mus)) (24 * (32 * (1 - mus))) (24 * 32)) := by
  obtain ⟨dU, dO, lat, pU, pO, us1, wU, wO, w1, both, bc1, Bp, pn24, Bl, tn4, ba, an, nb, ln38, abln, bnx, bgU, bgO, bfU, bfO, buU, buO, nbk⟩ := hr
  obtain ⟨wu1, hfn, hok, hw, he, hs, ha⟩ := nbk hbc
  obtain ⟨q1, q2, q3, q4, q5⟩ := pU wu1
  obtain ⟨u1, u2, u3, u4, u5, u6⟩ := dU
  have hD := dr_all kk n0 ⟨hfn, hok, hw, he, hs, ha⟩ q1 hn0 hk
  have hfl : faU ≤ ln := by rw [← he]; exact rd_ge _ _ _
  have h38 := rdq_38 (nx - fiU) (fun i hi => hok i (by omega))
  rw [he] at h38
  have hm1 : 1 - (1 - mus) = mus := by omega
  have hw0 : wh_f qw n0 (nx - bg + 1 - n0) 0 = 0 := by rw [wh_f, if_pos (by omega), Nat.zero_add, Nat.sub_self]
  have hk38 := rdq_38 kk (fun i hi => hok i (by omega))
  have hkl : rd_q lg faU kk ≤ ln := by rw [← he]; exact rdq_mono _ _ (by omega)
  exact ⟨⟨by rw [uN_s, u1], by rw [uN_s, u2], by rw [pk_uLs, u3], by rw [uN_s, wu1], fun p hp => (nh_u us1 hp).trans (u5 p hp), nh_F us1 u6⟩, (by rw [hm1]; exact ⟨by rw [uN_n _ _ (by omega), u1], by rw [uN_n _ _ (by omega), u2], by rw [pk_uLn (by omega), u3], by rw [uN_n _ _ (by omega), u4], fun p hp => (nh_uo us1 hp).trans (u5 p hp), nh_Fo us1 (Or.inl rfl) u6⟩), (nh_Fo us1 (Or.inr rfl) lat), (fun _ => ⟨by omega, hk, hD.2.2.1 0 hk, by omega, by omega⟩), (fun _ => ⟨Nat.le_refl _, hfn, by rw [Nat.sub_self]; exact hw0, by omega, by omega⟩), (by omega), wU, wU, (Or.inl wu1), (fun _ _ => ⟨by omega, by omega⟩), bc1, Bp, pn24, (fun j hj => by rw [va_cpy, if_pos (by omega)]; exact Bl _ (by omega)), tn4, (by omega), (Nat.le_refl _), (by omega), (by omega), (Nat.le_refl _), (by omega), (by omega), (by omega), (by omega), (by omega), (fun p hp => Nat.le_trans (buU p hp) (by omega)), (fun p hp => Nat.le_trans (buU p hp) (by omega)), (fun _ => ⟨wu1, hD⟩)⟩
theorem rl_crash {n : Nat} {bg : Nat} {nx : Nat} {ak : Nat} {ab : Nat} {tn : Nat} {sn : Int64} {bc : Nat} {pn : Nat} {pf : Nat → Int32} {ln : Nat} {lg : Nat → Int32} {fdL : Nat → Int32} {fcL : Nat → Int32} {fyL : Nat → Int32} {ggU : Nat} {fiU : Nat} {faU : Nat} {whU : Nat} {slU : Int64} {uuU : Nat → Nat} {fdU : Nat → Int32} {fcU : Nat → Int32} {fyU : Nat → Int32} {ggO : Nat} {fiO : Nat} {faO : Nat} {whO : Nat} {slO : Int64} {uuO : Nat → Nat} {fdO : Nat → Int32} {fcO : Nat → Int32} {fyO : Nat → Int32} {mus : Nat} {qw : Nat → Nat} {qg : Nat → Nat} {qf : Nat → Nat} {qs : Nat → Int64} {qh : Nat → Nat} {qu : Nat → Nat} {qd : Nat → Int32} {qm : Nat → Int32} {qk : Nat → Int32}  (hr : rl_R n bg nx ak ab tn sn bc pn pf ln lg fdL fcL fyL ggU fiU faU whU slU uuU fdU fcU fyU ggO fiO faO whO slO uuO fdO fcO fyO mus qw qg qf qs qh qu qd qm qk) (k : Nat) (hbc : bc = 0) (hk : ab + k ≤ ln) : rl_R (n + 1) bg nx ak ab tn sn 1 pn pf (ab + k) lg fdL fcL fyL ggU fiU faU whU slU uuU fdU fcU fyU ggO fiO faO whO slO uuO fdO fcO fyO mus qw qg qf qs qh qu qd qm qk := by
  obtain ⟨dU, dO, lat, pU, pO, us1, wU, wO, w1, both, bc1, Bp, pn24, Bl, tn4, ba, an, nb, ln38, abln, bnx, bgU, bgO, bfU, bfO, buU, buO, nbk⟩ := hr
  exact ⟨dU, dO, lat, pU, pO, us1, wU, wO, w1, both, (Nat.le_refl _), Bp, pn24, (fun j hj => Bl j (by omega)), tn4, ba, an, nb, (by omega), (by omega), (by omega), (by omega), (by omega), (by omega), (by omega), (fun p hp => Nat.le_trans (buU p hp) (by omega)), (fun p hp => Nat.le_trans (buO p hp) (by omega)), (fun h => absurd h (by decide))⟩
theorem rl_tearU {n : Nat} {bg : Nat} {nx : Nat} {ak : Nat} {ab : Nat} {tn : Nat} {sn : Int64} {bc : Nat} {pn : Nat} {pf : Nat → Int32} {ln : Nat} {lg : Nat → Int32} {fdL : Nat → Int32} {fcL : Nat → Int32} {fyL : Nat → Int32} {ggU : Nat} {fiU : Nat} {faU : Nat} {whU : Nat} {slU : Int64} {uuU : Nat → Nat} {fdU : Nat → Int32} {fcU : Nat → Int32} {fyU : Nat → Int32} {ggO : Nat} {fiO : Nat} {faO : Nat} {whO : Nat} {slO : Int64} {uuO : Nat → Nat} {fdO : Nat → Int32} {fcO : Nat → Int32} {fyO : Nat → Int32} {mus : Nat} {qw : Nat → Nat} {qg : Nat → Nat} {qf : Nat → Nat} {qs : Nat → Int64} {qh : Nat → Nat} {qu : Nat → Nat} {qd : Nat → Int32} {qm : Nat → Int32} {qk : Nat → Int32}  (hr : rl_R n bg nx ak ab tn sn bc pn pf ln lg fdL fcL fyL ggU fiU faU whU slU uuU fdU fcU fyU ggO fiO faO whO slO uuO fdO fcO fyO mus qw qg qf qs qh qu qd qm qk) (hbc : bc = 1) (h0 : whO = 1) : rl_R (n + 1) bg nx ak ab tn sn bc pn pf ln lg fdL fcL fyL ggU fiU faU 0 slU uuU fdU fcU fyU ggO fiO faO whO slO uuO fdO fcO fyO mus qw qg qf qs (uN qh mus 0) qu qd qm qk := by
  obtain ⟨dU, dO, lat, pU, pO, us1, wU, wO, w1, both, bc1, Bp, pn24, Bl, tn4, ba, an, nb, ln38, abln, bnx, bgU, bgO, bfU, bfO, buU, buO, nbk⟩ := hr
  exact ⟨⟨dU.1, dU.2.1, dU.2.2.1, uN_s _ _ _, dU.2.2.2.2⟩, ⟨dO.1, dO.2.1, dO.2.2.1, (uN_n _ _ (by omega)).trans dO.2.2.2.1, dO.2.2.2.2⟩, lat, (fun h => absurd h (by decide)), pO, us1, (by omega), wO, (Or.inr h0), (fun h => absurd h (by decide)), bc1, Bp, pn24, Bl, tn4, ba, an, nb, ln38, abln, (by omega), (by omega), (by omega), (by omega), (by omega), (fun p hp => Nat.le_trans (buU p hp) (by omega)), (fun p hp => Nat.le_trans (buO p hp) (by omega)), (fun h => absurd h (by omega))⟩
theorem rl_tearO {n : Nat} {bg : Nat} {nx : Nat} {ak : Nat} {ab : Nat} {tn : Nat} {sn : Int64} {bc : Nat} {pn : Nat} {pf : Nat → Int32} {ln : Nat} {lg : Nat → Int32} {fdL : Nat → Int32} {fcL : Nat → Int32} {fyL : Nat → Int32} {ggU : Nat} {fiU : Nat} {faU : Nat} {whU : Nat} {slU : Int64} {uuU : Nat → Nat} {fdU : Nat → Int32} {fcU : Nat → Int32} {fyU : Nat → Int32} {ggO : Nat} {fiO : Nat} {faO : Nat} {whO : Nat} {slO : Int64} {uuO : Nat → Nat} {fdO : Nat → Int32} {fcO : Nat → Int32} {fyO : Nat → Int32} {mus : Nat} {qw : Nat → Nat} {qg : Nat → Nat} {qf : Nat → Nat} {qs : Nat → Int64} {qh : Nat → Nat} {qu : Nat → Nat} {qd : Nat → Int32} {qm : Nat → Int32} {qk : Nat → Int32}  (hr : rl_R n bg nx ak ab tn sn bc pn pf ln lg fdL fcL fyL ggU fiU faU whU slU uuU fdU fcU fyU ggO fiO faO whO slO uuO fdO fcO fyO mus qw qg qf qs qh qu qd qm qk) (hbc : bc = 1) (h0 : whU = 1) : rl_R (n + 1) bg nx ak ab tn sn bc pn pf ln lg fdL fcL fyL ggU fiU faU whU slU uuU fdU fcU fyU ggO fiO faO 0 slO uuO fdO fcO fyO mus qw qg qf qs (uN qh (1 - mus) 0) qu qd qm qk := by
  obtain ⟨dU, dO, lat, pU, pO, us1, wU, wO, w1, both, bc1, Bp, pn24, Bl, tn4, ba, an, nb, ln38, abln, bnx, bgU, bgO, bfU, bfO, buU, buO, nbk⟩ := hr
  exact ⟨⟨dU.1, dU.2.1, dU.2.2.1, (uN_n _ _ (by omega)).trans dU.2.2.2.1, dU.2.2.2.2⟩, ⟨dO.1, dO.2.1, dO.2.2.1, uN_s _ _ _, dO.2.2.2.2⟩, lat, pU, (fun h => absurd h (by decide)), us1, wU, (by omega), (Or.inl h0), (fun _ h => absurd h (by decide)), bc1, Bp, pn24, Bl, tn4, ba, an, nb, ln38, abln, (by omega), (by omega), (by omega), (by omega), (by omega), (fun p hp => Nat.le_trans (buU p hp) (by omega)), (fun p hp => Nat.le_trans (buO p hp) (by omega)), (fun h => absurd h (by omega))⟩
theorem rl_poke {n : Nat} {bg : Nat} {nx : Nat} {ak : Nat} {ab : Nat} {tn : Nat} {sn : Int64} {bc : Nat} {pn : Nat} {pf : Nat → Int32} {ln : Nat} {lg : Nat → Int32} {fdL : Nat → Int32} {fcL : Nat → Int32} {fyL : Nat → Int32} {ggU : Nat} {fiU : Nat} {faU : Nat} {whU : Nat} {slU : Int64} {uuU : Nat → Nat} {fdU : Nat → Int32} {fcU : Nat → Int32} {fyU : Nat → Int32} {ggO : Nat} {fiO : Nat} {faO : Nat} {whO : Nat} {slO : Int64} {uuO : Nat → Nat} {fdO : Nat → Int32} {fcO : Nat → Int32} {fyO : Nat → Int32} {mus : Nat} {qw : Nat → Nat} {qg : Nat → Nat} {qf : Nat → Nat} {qs : Nat → Int64} {qh : Nat → Nat} {qu : Nat → Nat} {qd : Nat → Int32} {qm : Nat → Int32} {qk : Nat → Int32}  (hr : rl_R n bg nx ak ab tn sn bc pn pf ln lg fdL fcL fyL ggU fiU faU whU slU uuU fdU fcU fyU ggO fiO faO whO slO uuO fdO fcO fyO mus qw qg qf qs qh qu qd qm qk) (j k : Nat) (hbc : bc = 1) (hj : j < ln) (hk : k < 256) : rl_R (n + 1) bg nx ak ab tn sn bc pn pf ln (upd lg j (lg j ^^^ nI k)) fdL fcL fyL ggU fiU faU whU slU uuU fdU fcU fyU ggO fiO faO whO slO uuO fdO fcO fyO mus qw qg qf qs qh qu qd qm qk := by
  obtain ⟨dU, dO, lat, pU, pO, us1, wU, wO, w1, both, bc1, Bp, pn24, Bl, tn4, ba, an, nb, ln38, abln, bnx, bgU, bgO, bfU, bfO, buU, buO, nbk⟩ := hr
  obtain ⟨x9, hx9, e9⟩ := Bl j hj
  have hB : fx_B (upd lg j (lg j ^^^ nI k)) ln := by
    rw [e9, nI_xor (by omega) (by omega)]
    exact B_set Bl (Nat.xor_lt_two_pow (n := 8) hx9 hk)
  exact ⟨dU, dO, lat, pU, pO, us1, wU, wO, w1, both, bc1, Bp, pn24, hB, tn4, ba, an, nb, ln38, abln, (by omega), (by omega), (by omega), (by omega), (by omega), (fun p hp => Nat.le_trans (buU p hp) (by omega)), (fun p hp => Nat.le_trans (buO p hp) (by omega)), (fun h => absurd h (by omega))⟩
