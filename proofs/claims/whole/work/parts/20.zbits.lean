theorem wb_tb (n : Nat) : (lN n).toBitVec = BitVec.ofNat 64 n := rfl
theorem wb_inj {a b : Int64} (h : a.toBitVec = b.toBitVec) : a = b := Int64.toBitVec_inj.mp h
theorem wb_tn {n : Nat} (h : n < 2 ^ 64) : (lN n).toBitVec.toNat = n := by rw [wb_tb, BitVec.toNat_ofNat, Nat.mod_eq_of_lt h]
theorem wb_of (x : Int64) : ∃ n, n < 2 ^ 64 ∧ x = lN n := ⟨x.toBitVec.toNat, x.toBitVec.isLt, wb_inj (by rw [wb_tb]; simp)⟩
theorem wb_of32 (x : Int32) : ∃ n, n < 2 ^ 32 ∧ x = nI n := ⟨x.toBitVec.toNat, x.toBitVec.isLt, Int32.toBitVec_inj.mp (by show _ = BitVec.ofNat 32 _; simp)⟩
theorem wb_c : ∀ k, k < 64 → ((nI k).toInt64 &&& 63) = lN k := by decide +kernel
theorem wb_cu : ∀ k, k < 64 → ((nI k).toInt64.toUInt64 &&& Int64.toUInt64 63) = UInt64.ofNat k := by decide +kernel
theorem wb_sm : ∀ k, k < 64 → (BitVec.ofNat 64 k).smod 64 = BitVec.ofNat 64 k := by decide +kernel
theorem wb_pw {a b : Nat} (h : a ≤ b) : 2 ^ b = 2 ^ a * 2 ^ (b - a) := by rw [← Nat.pow_add]; congr 1; omega
theorem wb_lt2 {a b : Nat} (h : a < b) : 2 ^ a < 2 ^ b := Nat.pow_lt_pow_right (by decide) h
theorem wb_mod (n : Nat) : lN n = lN (n % 2 ^ 64) := wb_inj (by rw [wb_tb, wb_tb]; apply BitVec.eq_of_toNat_eq; rw [BitVec.toNat_ofNat, BitVec.toNat_ofNat, Nat.mod_mod])
theorem wb_shr {n k : Nat} (hn : n < 2 ^ 64) (hk : k < 64) : ((lN n).toUInt64 >>> ((nI k).toInt64.toUInt64 &&& Int64.toUInt64 63)).toInt64 = lN (n / 2 ^ k) := by
  rw [wb_cu k hk]
  apply wb_inj
  apply BitVec.eq_of_toNat_eq
  show ((lN n).toUInt64 >>> UInt64.ofNat k).toNat = (BitVec.ofNat 64 _).toNat
  have h1 : (UInt64.ofNat k).toNat = k := by
    show (BitVec.ofNat 64 k).toNat = k
    rw [BitVec.toNat_ofNat, Nat.mod_eq_of_lt (by omega)]
  have h2 : (lN n).toUInt64.toNat = n := wb_tn hn
  rw [UInt64.toNat_shiftRight, h1, h2, Nat.mod_eq_of_lt hk, Nat.shiftRight_eq_div_pow, BitVec.toNat_ofNat, Nat.mod_eq_of_lt (Nat.lt_of_le_of_lt (Nat.div_le_self _ _) hn)]
theorem wb_shl (n : Nat) {k : Nat} (hk : k < 64) : lN n <<< ((nI k).toInt64 &&& 63) = lN (n * 2 ^ k) := by
  rw [wb_c k hk]
  apply wb_inj
  rw [Int64.toBitVec_shiftLeft, wb_tb, wb_tb, wb_tb, wb_sm k hk]
  apply BitVec.eq_of_toNat_eq
  rw [BitVec.shiftLeft_eq', BitVec.toNat_shiftLeft, BitVec.toNat_ofNat, BitVec.toNat_ofNat, BitVec.toNat_ofNat, Nat.mod_eq_of_lt (show k < 2 ^ 64 by omega), Nat.shiftLeft_eq, Nat.mul_mod, Nat.mod_mod, ← Nat.mul_mod]
theorem u_tn {n : Nat} (h : n < 2 ^ 64) : (UInt64.ofNat n).toNat = n := Nat.mod_eq_of_lt h
theorem g_or {k p a b : Nat} (hp : 2 ^ k = p) (ha : a < p) (h : b * p + a < 2 ^ 64) : lN (b * p) ||| lN a = lN (b * p + a) := by
  subst hp
  have h1 : b * 2 ^ k ||| a = b * 2 ^ k + a := by rw [← Nat.shiftLeft_eq, Nat.shiftLeft_add_eq_or_of_lt ha]
  have h3 : UInt64.ofNat (b * 2 ^ k) ||| UInt64.ofNat a = UInt64.ofNat (b * 2 ^ k + a) := UInt64.toNat_inj.mp (by rw [UInt64.toNat_or, u_tn (by omega), u_tn (by omega), u_tn h, h1])
  have h2 := congrArg UInt64.toInt64 h3
  exact h2
theorem by_N {V i : Nat} (hV : V < 2 ^ 64) (hi : i < 8) : fx_by (lN V) i = nI (V / 256 ^ i % 256) := by
  rw [fx_by, wb_shr hV (by omega), lN_i, pk_and _ 8 (by decide)]
  have e : 256 ^ i = 2 ^ (i * 8) := by rw [show 256 = 2 ^ 8 from rfl, ← Nat.pow_mul, Nat.mul_comm]
  rw [e, show (nI (V / 2 ^ (i * 8))).toBitVec.toNat = V / 2 ^ (i * 8) % 2 ^ 32 from rfl]
  generalize V / 2 ^ (i * 8) = x
  congr 1
  omega
theorem by_E (v : Int64) (i : Nat) : ∃ x : Nat, x < 256 ∧ fx_by v i = nI x := by
  rw [fx_by]
  exact pk_andE _ 8 (by decide)
theorem nb_rt {f : Nat → Int32} {q V n : Nat} (hn : n ≤ 8) (hV : V < 256 ^ n) (hf : ∀ i, i < n → f (q + i) = fx_by (lN V) (n - 1 - i)) : ∀ k, k ≤ n → fx_nb f q k = lN (V / 256 ^ (n - k))
  | 0, _ => by
    rw [fx_nb, Nat.sub_zero, Nat.div_eq_of_lt hV]
    rfl
  | k + 1, hk => by
    have h8 : 256 ^ n ≤ 256 ^ 8 := Nat.pow_le_pow_right (by decide) hn
    have hV64 : V < 2 ^ 64 := Nat.lt_of_lt_of_le hV h8
    rw [fx_nb, nb_rt hn hV hf k (by omega), hf k (by omega), by_N hV64 (by omega), wb_shl _ (by decide), nI_l (Nat.lt_trans (Nat.mod_lt _ (by decide)) (by decide))]
    have e2 : V / 256 ^ (n - k) = V / 256 ^ (n - 1 - k) / 256 := by
      rw [Nat.div_div_eq_div_mul, ← Nat.pow_succ]
      congr 2
      omega
    rw [e2, show n - (k + 1) = n - 1 - k from by omega]
    have hX : V / 256 ^ (n - 1 - k) ≤ V := Nat.div_le_self _ _
    generalize V / 256 ^ (n - 1 - k) = X at hX
    rw [show (2 : Nat) ^ 8 = 256 from rfl, g_or (k := 8) (p := 256) rfl (Nat.mod_lt _ (by decide)) (by omega)]
    congr 1
    omega
theorem nb_all {f : Nat → Int32} {q V n : Nat} (hn : n ≤ 8) (hV : V < 256 ^ n) (hf : ∀ i, i < n → f (q + i) = fx_by (lN V) (n - 1 - i)) : fx_nb f q n = lN V := by
  rw [nb_rt hn hV hf n (Nat.le_refl _), Nat.sub_self, Nat.pow_zero, Nat.div_one]
theorem add_at (v : Int64) : ∀ (k : Nat) (f : Nat → Int32) (n j : Nat), fx_add f n v k j = if n ≤ j ∧ j < n + k then fx_by v (n + k - 1 - j) else f j
  | 0, f, n, j => by
    rw [fx_add, if_neg (by omega)]
  | k + 1, f, n, j => by
    rw [fx_add, add_at v k]
    by_cases h : n + 1 ≤ j ∧ j < n + 1 + k
    · rw [if_pos h, if_pos (by omega)]
      congr 1
      omega
    · rw [if_neg h]
      by_cases h2 : j = n
      · subst h2
        rw [pk_us, if_pos (by omega)]
        congr 1
        omega
      · rw [pk_un h2, if_neg (by omega)]
theorem add1 {f : Nat → Int32} {n x : Nat} (hx : x < 256) : fx_add f n (nI x).toInt64 1 = upd f n (nI x) := by
  show upd f n (fx_by (nI x).toInt64 0) = _
  rw [nI_l (by omega), by_N (by omega) (by decide), Nat.pow_zero, Nat.div_one, Nat.mod_eq_of_lt hx]
theorem sm_c {f g : Nat → Int32} {q : Nat} : ∀ k, (∀ i, i < k → g (q + i) = f (q + i)) → fx_sm g q k = fx_sm f q k
  | 0, _ => rfl
  | k + 1, h => by
    rw [fx_sm, fx_sm, sm_c k (fun i hi => h i (by omega)), h k (by omega)]
section ST
variable {lg : Nat → Int32} {ln th dy : Nat} {pf : Nat → Int32} {pn : Nat}
theorem st_gf {j : Nat} (h : j < ln + (6 + pn)) : st_g lg ln th dy pf pn j = st_f lg ln th dy pf pn j := by
  rw [st_g, add_at, if_neg (by omega)]
theorem st_lo {j : Nat} (h : j < ln) : st_g lg ln th dy pf pn j = lg j := by
  rw [st_gf (by omega), st_f, va_cpy, if_neg (by omega), pk_un (by omega), add_at, if_neg (by omega), pk_un (by omega)]
theorem st_th : st_g lg ln th dy pf pn ln = nI th := by
  rw [st_gf (by omega), st_f, va_cpy, if_neg (by omega), pk_un (by omega), add_at, if_neg (by omega), pk_us]
theorem st_dy {i : Nat} (h : i < 4) : st_g lg ln th dy pf pn (ln + 1 + i) = fx_by (nI dy).toInt64 (4 - 1 - i) := by
  rw [st_gf (by omega), st_f, va_cpy, if_neg (by omega), pk_un (by omega), add_at, if_pos (by omega)]
  congr 1
  omega
theorem st_ct : st_g lg ln th dy pf pn (ln + 5) = nI pn := by
  rw [st_gf (by omega), st_f, va_cpy, if_neg (by omega), pk_us]
theorem st_pd {i : Nat} (h : i < pn) : st_g lg ln th dy pf pn (ln + 6 + i) = pf i := by
  rw [st_gf (by omega), st_f, va_cpy, if_pos (by omega)]
  congr 1
  omega
theorem st_su {i : Nat} (h : i < 8) : st_g lg ln th dy pf pn (ln + 6 + pn + i) = fx_by (st_s lg ln th dy pf pn) (8 - 1 - i) := by
  rw [st_g, add_at, if_pos (by omega)]
  congr 1
  omega
theorem st_ss : fx_sm (st_g lg ln th dy pf pn) ln (6 + pn) = st_s lg ln th dy pf pn := sm_c _ (fun i hi => st_gf (by omega))
theorem st_nb8 : fx_nb (st_g lg ln th dy pf pn) (ln + 6 + pn) 8 = st_s lg ln th dy pf pn := by
  obtain ⟨V, hV, e⟩ := wb_of (st_s lg ln th dy pf pn)
  rw [e]
  refine nb_all (Nat.le_refl _) hV (fun i hi => ?_)
  rw [st_su hi, e]
theorem st_nb4 (hd : dy ≤ 36500) : fx_nb (st_g lg ln th dy pf pn) (ln + 1) 4 = lN dy := by
  refine nb_all (by decide) (by omega) (fun i hi => ?_)
  rw [st_dy hi, nI_l (by omega)]
theorem st_day (hd : dy ≤ 36500) : (fx_nb (st_g lg ln th dy pf pn) (ln + 1) 4).toInt32 = nI dy := by
  rw [st_nb4 hd, lN_i]
theorem st_okc (ht : th < 32) (hd : dy ≤ 36500) (hp : pn ≤ 24) : fx_okc (st_g lg ln th dy pf pn) (ln + (14 + pn)) ln th pn := by
  refine ⟨st_th, st_ct, Nat.le_refl _, ht, ?_, hp, ?_⟩
  · rw [st_nb4 hd]
    exact (lN_le (a := dy) (b := 36500) (by omega) (by decide)).mpr hd
  · rw [st_nb8, st_ss]
theorem st_B (hB : fx_B lg ln) (hP : fx_B pf pn) (ht : th < 32) (hp : pn ≤ 24) : fx_B (st_g lg ln th dy pf pn) (ln + (14 + pn)) := fun j hj => by
  by_cases h1 : j < ln
  · rw [st_lo h1]; exact hB j h1
  · by_cases h2 : j = ln
    · subst h2; rw [st_th]; exact ⟨th, by omega, rfl⟩
    · by_cases h3 : j < ln + 5
      · obtain ⟨i, rfl⟩ : ∃ i, j = ln + 1 + i := ⟨j - ln - 1, by omega⟩
        rw [st_dy (by omega)]; exact by_E _ _
      · by_cases h4 : j = ln + 5
        · subst h4; rw [st_ct]; exact ⟨pn, by omega, rfl⟩
        · by_cases h5 : j < ln + 6 + pn
          · obtain ⟨i, rfl⟩ : ∃ i, j = ln + 6 + i := ⟨j - ln - 6, by omega⟩
            rw [st_pd (by omega)]; exact hP i (by omega)
          · obtain ⟨i, rfl⟩ : ∃ i, j = ln + 6 + pn + i := ⟨j - ln - 6 - pn, by omega⟩
            rw [st_su (by omega)]; exact by_E _ _
end ST
