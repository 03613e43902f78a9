-- ===== agreement of logs: the same bytes, moved =====
theorem nb_sh {f g : Nat → Int32} {q s : Nat} : ∀ k, (∀ i, i < k → g (q + i) = f (q + s + i)) → fx_nb g q k = fx_nb f (q + s) k
  | 0, _ => rfl
  | k + 1, h => by
    rw [fx_nb, fx_nb, nb_sh k (fun i hi => h i (by omega)), h k (by omega)]
theorem sm_sh {f g : Nat → Int32} {q s : Nat} : ∀ k, (∀ i, i < k → g (q + i) = f (q + s + i)) → fx_sm g q k = fx_sm f (q + s) k
  | 0, _ => rfl
  | k + 1, h => by
    rw [fx_sm, fx_sm, sm_sh k (fun i hi => h i (by omega)), h k (by omega)]
theorem okc_sh {f g : Nat → Int32} {n n' s q th ct : Nat} (hfg : ∀ j, j < n → g j = f (j + s)) (hn : n ≤ n') (h : fx_okc f (n + s) (q + s) th ct) : fx_okc g n' q th ct := by
  obtain ⟨e1, e2, e3, e4, e5, e6, e7⟩ := h
  refine ⟨?_, ?_, by omega, e4, ?_, e6, ?_⟩
  · rw [hfg q (by omega), e1]
  · rw [hfg (q + 5) (by omega), ← e2]
    congr 1
    omega
  · rw [nb_sh (s := s) 4 (fun i hi => by rw [hfg _ (by omega)]; congr 1; omega), ← show q + s + 1 = q + 1 + s by omega]
    exact e5
  · rw [nb_sh (s := s) 8 (fun i hi => by rw [hfg _ (by omega)]; congr 1; omega), sm_sh (s := s) (6 + ct) (fun i hi => by rw [hfg _ (by omega)]; congr 1; omega), ← e7]
    congr 1
    omega
theorem rdq_sh {f g : Nat → Int32} {n s q0 : Nat} (hfg : ∀ j, j < n → g j = f (j + s)) : ∀ k, (∀ i, i < k → fx_ok f (n + s) (rd_q f (q0 + s) i)) → rd_q g q0 k + s = rd_q f (q0 + s) k
  | 0, _ => rfl
  | k + 1, h => by
    have e := rdq_sh hfg k (fun i hi => h i (by omega))
    obtain ⟨th, ct, e1, e2, e3, e4, e5, e6, e7⟩ := h k (Nat.lt_succ_self k)
    have e8 : g (rd_q g q0 k + 5) = f (rd_q f (q0 + s) k + 5) := by
      rw [hfg _ (by omega), ← e]
      congr 1
      omega
    rw [rd_q, rd_q, e8]
    omega
theorem rds_sh {f g : Nat → Int32} {n s q0 : Nat} {s0 : Int64} (hfg : ∀ j, j < n → g j = f (j + s)) : ∀ k, (∀ i, i < k → fx_ok f (n + s) (rd_q f (q0 + s) i)) → rd_s g q0 s0 k = rd_s f (q0 + s) s0 k
  | 0, _ => rfl
  | k + 1, h => by
    have e := rdq_sh hfg k (fun i hi => h i (by omega))
    obtain ⟨th, ct, e1, e2, e3, e4, e5, e6, e7⟩ := h k (Nat.lt_succ_self k)
    have e8 : g (rd_q g q0 k + 5) = f (rd_q f (q0 + s) k + 5) := by
      rw [hfg _ (by omega), ← e]
      congr 1
      omega
    have e9 : nv (f (rd_q f (q0 + s) k + 5)) = ct := by rw [e2]; exact nv_nI (by omega)
    rw [rd_s, rd_s, rds_sh hfg k (fun i hi => h i (by omega)), e8, e9, nb_sh (s := s) 8 (fun i hi => by rw [hfg _ (by omega)]; congr 1; omega)]
    congr 2
    omega
theorem ok_sh {f g : Nat → Int32} {n n' s q0 k : Nat} (hfg : ∀ j, j < n → g j = f (j + s)) (hn : n ≤ n') (h : ∀ i, i ≤ k → fx_ok f (n + s) (rd_q f (q0 + s) i)) : fx_ok g n' (rd_q g q0 k) := by
  obtain ⟨th, ct, ho⟩ := h k (Nat.le_refl _)
  rw [← rdq_sh hfg k (fun i hi => h i (by omega))] at ho
  exact ⟨th, ct, okc_sh hfg hn ho⟩
theorem rdq_add (f : Nat → Int32) (q0 k : Nat) : ∀ i, rd_q f (rd_q f q0 k) i = rd_q f q0 (k + i)
  | 0 => rfl
  | i + 1 => by
    rw [rd_q, rdq_add f q0 k i]
    rfl
theorem rds_add (f : Nat → Int32) (q0 : Nat) (s0 : Int64) (k : Nat) : ∀ i, rd_s f (rd_q f q0 k) (rd_s f q0 s0 k) i = rd_s f q0 s0 (k + i)
  | 0 => rfl
  | i + 1 => by
    rw [rd_s, rds_add f q0 s0 k i, rdq_add]
    rfl
theorem rdq_38 {f : Nat → Int32} {n q0 : Nat} : ∀ k, (∀ i, i < k → fx_ok f n (rd_q f q0 i)) → rd_q f q0 k ≤ q0 + 38 * k
  | 0, _ => Nat.le_refl _
  | k + 1, h => by
    have e := rdq_38 k (fun i hi => h i (by omega))
    obtain ⟨th, ct, e1, e2, e3, e4, e5, e6, e7⟩ := h k (Nat.lt_succ_self k)
    have e9 : nv (f (rd_q f q0 k + 5)) = ct := by rw [e2]; exact nv_nI (by omega)
    rw [rd_q, e9]
    omega
theorem rdq_mono (f : Nat → Int32) (q0 : Nat) {i k : Nat} (h : i ≤ k) : rd_q f q0 i ≤ rd_q f q0 k := by
  obtain ⟨d, rfl⟩ : ∃ d, k = i + d := ⟨k - i, by omega⟩
  rw [← rdq_add]
  exact rd_ge _ _ _
theorem fx_ok.mono {f : Nat → Int32} {n n' q : Nat} (h : fx_ok f n q) (hn : n ≤ n') : fx_ok f n' q := by
  obtain ⟨th, ct, e1, e2, e3, e4, e5, e6, e7⟩ := h
  exact ⟨th, ct, e1, e2, by omega, e4, e5, e6, e7⟩
theorem nI_xor {x y : Nat} (hx : x < 2 ^ 32) (hy : y < 2 ^ 32) : nI x ^^^ nI y = nI (x ^^^ y) := by
  apply Int32.toBitVec_inj.mp
  apply BitVec.eq_of_toNat_eq
  rw [Int32.toBitVec_xor, BitVec.toNat_xor, pk_tn hx, pk_tn hy, pk_tn (Nat.xor_lt_two_pow hx hy)]
/-- the least place where a property fails -/
theorem least_no (P : Nat → Prop) : ∀ N, (∀ k, N ≤ k → ¬ P k) → ∃ kk, kk ≤ N ∧ (∀ i, i < kk → P i) ∧ ¬ P kk
  | 0, h => ⟨0, Nat.le_refl _, fun i hi => absurd hi (Nat.not_lt_zero _), h 0 (Nat.le_refl _)⟩
  | N + 1, h => by
    by_cases h0 : P 0
    · obtain ⟨kk, h1, h2, h3⟩ := least_no (fun k => P (k + 1)) N (fun k hk => h (k + 1) (by omega))
      refine ⟨kk + 1, by omega, fun i hi => ?_, h3⟩
      rcases Nat.eq_zero_or_pos i with rfl | hp
      · exact h0
      · have h4 := h2 (i - 1) (by omega)
        rwa [Nat.sub_add_cancel hp] at h4
    · exact ⟨0, by omega, fun i hi => absurd hi (Nat.not_lt_zero _), h0⟩
-- ===== closed forms of the reference's copies =====
theorem fx_pd_at (g : Nat → Int32) (b p : Nat) (hp : p < 4) : ∀ k j, fx_pd g b p k j = if b ≤ j ∧ (j - b) % 4 = p ∧ j - b < 4 * k then g (64 + (j - b)) else g j
  | 0, j => by
    rw [fx_pd, if_neg (by omega)]
  | k + 1, j => by
    rw [fx_pd]
    by_cases h : j = b + (p + 4 * k)
    · rw [h, pk_us, if_pos (by omega)]
      congr 1
      omega
    · rw [pk_un h, fx_pd_at g b p hp k j]
      by_cases h2 : b ≤ j ∧ (j - b) % 4 = p ∧ j - b < 4 * k
      · rw [if_pos h2, if_pos (by omega)]
      · rw [if_neg h2, if_neg (by omega)]
theorem fx_pk_at (g : Nat → Int32) (b p : Nat) (hp : p < 4) (hb : b + 32 ≤ 64) : ∀ k, k ≤ 8 → ∀ j, fx_pk g b p k j = if 24 * b ≤ j ∧ (j - 24 * b) / 24 % 4 = p ∧ (j - 24 * b) / 24 < 4 * k then g (24 * 64 + (j - 24 * b)) else g j
  | 0, _, j => by
    rw [fx_pk, if_neg (by omega)]
  | k + 1, hk, j => by
    rw [fx_pk]
    by_cases h : 24 * (b + (p + 4 * k)) ≤ j ∧ j < 24 * (b + (p + 4 * k)) + 24
    · rw [va_cpy, if_pos h, fx_pk_at g b p hp hb k (by omega), if_neg (by omega), if_pos (by omega)]
      congr 1
      omega
    · rw [va_cpy, if_neg h, fx_pk_at g b p hp hb k (by omega)]
      by_cases h2 : 24 * b ≤ j ∧ (j - 24 * b) / 24 % 4 = p ∧ (j - 24 * b) / 24 < 4 * k
      · rw [if_pos h2, if_pos (by omega)]
      · rw [if_neg h2, if_neg (by omega)]
theorem md_w_at (lg : Nat → Int32) (q0 a : Nat) (qw : Nat → Nat) : ∀ k j, md_w lg q0 a qw k j = if a < j ∧ j ≤ a + k then rd_q lg q0 (j - a) else qw j
  | 0, j => by
    rw [md_w, if_neg (by omega)]
  | k + 1, j => by
    rw [md_w]
    by_cases h : j = a + (k + 1)
    · rw [h, uN_s, if_pos (by omega)]
      congr 1
      omega
    · rw [uN_n _ _ h, md_w_at lg q0 a qw k j]
      by_cases h2 : a < j ∧ j ≤ a + k
      · rw [if_pos h2, if_pos (by omega)]
      · rw [if_neg h2, if_neg (by omega)]
theorem fx_gu_c {u v : Nat → Nat} : ∀ k, (∀ j, j < k → u j = v j) → fx_gu u k = fx_gu v k
  | 0, _ => rfl
  | k + 1, h => by
    rw [fx_gu, fx_gu, fx_gu_c k (fun j hj => h j (by omega)), h k (by omega)]
