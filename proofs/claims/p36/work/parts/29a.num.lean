/-! ===== the reference's sheet ===== -/
theorem zs_small {a b : Int32} (h1 : -1000000000 ≤ a.toInt + b.toInt) (h2 : a.toInt + b.toInt ≤ 1000000000) : (a + b).toInt = a.toInt + b.toInt := by
  rw [Int32.toInt_add]; exact Int.bmod_eq_of_le (by omega) (by omega)
theorem zs_smallS {a b : Int32} (h1 : -1000000000 ≤ a.toInt - b.toInt) (h2 : a.toInt - b.toInt ≤ 1000000000) : (a - b).toInt = a.toInt - b.toInt := by
  rw [Int32.toInt_sub]; exact Int.bmod_eq_of_le (by omega) (by omega)
theorem zs_rem_nn {x : Int32} {n : Nat} (h0 : 0 < n) (hn : n < 2 ^ 31) (hx : 0 ≤ x.toInt) : (zs_rem x (nI n)).toInt = x.toInt % (n : Int) := by
  rw [zs_rem_toInt h0 hn, Int.tmod_eq_emod_of_nonneg hx]
theorem zs_sw_toInt {a b : Int32} (ha : zv_in a 0 359) (hb : zv_in b 0 359) : (zs_sw a b).toInt = if (b.toInt - a.toInt) % 360 ≤ 180 then (b.toInt - a.toInt) % 360 else (b.toInt - a.toInt) % 360 - 360 := by
  unfold zv_in at ha hb
  have e1 : (b - a).toInt = b.toInt - a.toInt := zs_smallS (by omega) (by omega)
  have e2 : (zs_fmod (b - a) (nI 360)).toInt = (b.toInt - a.toInt) % 360 := by rw [zs_fmod_toInt (by decide) (by decide), e1]; rfl
  have e3 : (nI 180).toInt = 180 := by rw [nI_toInt (by decide)]; rfl
  have e4 : (nI 360).toInt = 360 := by rw [nI_toInt (by decide)]; rfl
  unfold zs_sw
  by_cases h : zs_fmod (b - a) (nI 360) ≤ nI 180
  · rw [if_pos h]
    rw [zs_le, e2, e3] at h
    rw [if_pos h, e2]
  · rw [if_neg h]
    rw [zs_le, e2, e3] at h
    rw [if_neg h, zs_smallS (by omega) (by omega), e2, e4]
theorem zs_frac {w : Int32} {p q : Nat} (hw : -180 ≤ w.toInt ∧ w.toInt ≤ 180) (hpq : p ≤ q) (hq : q ≤ 48) : -180 ≤ (w * nI p / nI q).toInt ∧ (w * nI p / nI q).toInt ≤ 180 := by
  have hpi : (nI p).toInt = (p : Int) := nI_toInt (by omega)
  have hdp : (w.toInt * (p : Int)).natAbs ≤ 180 * 48 := by
    rw [Int.natAbs_mul]
    exact Nat.mul_le_mul (by omega) (by omega)
  have e2 : (w * nI p).toInt = w.toInt * (p : Int) := by
    rw [Int32.toInt_mul, hpi]
    exact Int.bmod_eq_of_le (by omega) (by omega)
  have e3 : (w * nI p / nI q).toInt = (w.toInt * (p : Int)).tdiv (q : Int) := by rw [zs_div_toInt (by omega), e2]
  rw [e3]
  have h1 : ((w.toInt * (p : Int)).tdiv (q : Int)).natAbs = (w.toInt * (p : Int)).natAbs / q := Int.natAbs_tdiv _ _
  have h2 : (w.toInt * (p : Int)).natAbs ≤ 180 * q := by
    rw [Int.natAbs_mul]
    exact Nat.mul_le_mul (by omega) (by omega)
  have h3 : (w.toInt * (p : Int)).natAbs / q ≤ 180 := Nat.div_le_of_le_mul (by rw [Nat.mul_comm]; exact h2)
  omega
theorem zs_mixR_eq {a b : Int32} {p q : Nat} (ha : zv_in a 0 359) (hb : zv_in b 0 359) (hpq : p ≤ q) (hq : q ≤ 48) :
    zs_rem (a + (if zs_rem (b - a + nI 360) (nI 360) ≤ nI 180 then zs_rem (b - a + nI 360) (nI 360) else zs_rem (b - a + nI 360) (nI 360) - nI 360) * nI p / nI q + nI 360) (nI 360) = zs_mixR a b (nI p) (nI q) := by
  have hsw := zs_sw_toInt ha hb
  unfold zv_in at ha hb
  have e1 : (b - a).toInt = b.toInt - a.toInt := zs_smallS (by omega) (by omega)
  have e3 : (nI 180).toInt = 180 := by rw [nI_toInt (by decide)]; rfl
  have e4 : (nI 360).toInt = 360 := by rw [nI_toInt (by decide)]; rfl
  have e5 : (b - a + nI 360).toInt = b.toInt - a.toInt + 360 := by rw [zs_small (by omega) (by omega), e1, e4]
  have e6 : (zs_rem (b - a + nI 360) (nI 360)).toInt = (b.toInt - a.toInt + 360) % 360 := by rw [zs_rem_nn (by decide) (by decide) (by omega), e5]; rfl
  have e7 : (if zs_rem (b - a + nI 360) (nI 360) ≤ nI 180 then zs_rem (b - a + nI 360) (nI 360) else zs_rem (b - a + nI 360) (nI 360) - nI 360) = zs_sw a b := by
    rw [zs_eq, hsw]
    by_cases h : zs_rem (b - a + nI 360) (nI 360) ≤ nI 180
    · rw [if_pos h]
      rw [zs_le, e6, e3] at h
      rw [if_pos (by omega), e6]; omega
    · rw [if_neg h]
      rw [zs_le, e6, e3] at h
      rw [if_neg (by omega), zs_smallS (by omega) (by omega), e6, e4]; omega
  rw [e7]
  have hw : -180 ≤ (zs_sw a b).toInt ∧ (zs_sw a b).toInt ≤ 180 := by rw [hsw]; split <;> omega
  have hf := zs_frac hw hpq hq
  unfold zs_mixR
  generalize zs_sw a b * nI p / nI q = t at *
  have e8 : (a + t).toInt = a.toInt + t.toInt := zs_small (by omega) (by omega)
  rw [zs_eq, zs_fmod_toInt (by decide) (by decide), zs_rem_nn (by decide) (by decide) (by rw [zs_small (by omega) (by omega), e8, e4]; omega), zs_small (by omega) (by omega), e8, e4]
  show (a.toInt + t.toInt + 360) % 360 = (a.toInt + t.toInt) % 360
  omega
theorem zs_short_eq {a b : Int32} (ha : zv_in a 0 359) (hb : zv_in b 0 359) : (if (if a ≤ b then b - a else a - b) ≤ nI 180 then (if a ≤ b then b - a else a - b) else nI 360 - (if a ≤ b then b - a else a - b)) = zs_abs (zs_sw a b) := by
  have hsw := zs_sw_toInt ha hb
  unfold zv_in at ha hb
  have e1 : (b - a).toInt = b.toInt - a.toInt := zs_smallS (by omega) (by omega)
  have e2 : (a - b).toInt = a.toInt - b.toInt := zs_smallS (by omega) (by omega)
  have e3 : (nI 180).toInt = 180 := by rw [nI_toInt (by decide)]; rfl
  have e4 : (nI 360).toInt = 360 := by rw [nI_toInt (by decide)]; rfl
  have hw : (if a ≤ b then b - a else a - b).toInt = if a.toInt ≤ b.toInt then b.toInt - a.toInt else a.toInt - b.toInt := by
    by_cases h : a ≤ b
    · rw [if_pos h, if_pos (zs_le.mp h), e1]
    · rw [if_neg h, if_neg (fun q => h (zs_le.mpr q)), e2]
  generalize (if a ≤ b then b - a else a - b) = w at *
  have h0 : ∀ z : Int32, 0 ≤ z ↔ 0 ≤ z.toInt := fun z => by rw [zs_le, Int32.toInt_zero]
  have hab : (zs_abs (zs_sw a b)).toInt = if 0 ≤ (zs_sw a b).toInt then (zs_sw a b).toInt else - (zs_sw a b).toInt := by
    unfold zs_abs
    by_cases h : 0 ≤ zs_sw a b
    · rw [if_pos h, if_pos ((h0 _).mp h)]
    · rw [if_neg h, if_neg (fun q => h ((h0 _).mpr q)), zs_smallS (by rw [Int32.toInt_zero, hsw]; split <;> omega) (by rw [Int32.toInt_zero, hsw]; split <;> omega), Int32.toInt_zero]; omega
  rw [zs_eq, hab, hsw]
  by_cases h : w ≤ nI 180
  · rw [if_pos h]
    rw [zs_le, hw, e3] at h
    rw [hw]
    split at h <;> (split <;> split <;> omega)
  · rw [if_neg h]
    rw [zs_le, hw, e3] at h
    rw [zs_smallS (by rw [hw, e4]; split <;> omega) (by rw [hw, e4]; split <;> omega), hw, e4]
    split at h <;> (split <;> split <;> omega)
theorem zs_sum_in {f : Nat → Int32} {n : Nat} : ∀ k, k ≤ n → n ≤ 12 → (∀ q, q < n → zv_in (f q) 1 24) → 0 ≤ (zs_sum f k).toInt ∧ (zs_sum f k).toInt ≤ 24 * k
  | 0, _, _, _ => by
    show 0 ≤ (0 : Int32).toInt ∧ (0 : Int32).toInt ≤ 24 * ((0 : Nat) : Int)
    rw [Int32.toInt_zero]; omega
  | k + 1, hk, hn, h => by
    have ih := zs_sum_in (f := f) k (by omega) hn h
    have h1 := h k (by omega)
    unfold zv_in at h1
    show 0 ≤ (zs_sum f k + f k).toInt ∧ (zs_sum f k + f k).toInt ≤ _
    rw [zs_small (by omega) (by omega)]
    omega
theorem zs_up_fst {g : Nat → Prop} [DecidablePred g] {n : Nat} (h : ∀ a b, a < n → b < n → g a → g b → a = b) : zs_up g n = zs_fst g nI n 0 := by
  rcases zs_up_cases g n with ⟨hu, hn⟩ | ⟨p, hp, hg, hu, -⟩ <;> rcases zs_fst_cases g nI n 0 with ⟨hv, hm⟩ | ⟨q, -, hq, hgq, hv, -⟩
  · rw [hu, hv]
  · exact absurd hgq (hn q (by omega))
  · exact absurd hg (hm p (by omega) (by omega))
  · rw [hu, hv, h p q hp (by omega) hg hgq]
theorem zs_cs_in (o : Nat → Int32) : ∀ k, ((zs_cs o k).1 = -1 ∨ (zs_cs o k).1 = 0 ∨ (zs_cs o k).1 = 1) ∧ ((zs_cs o k).2 = 0 ∨ ((zs_cs o k).2 = 1 ∧ ¬ (zs_cs o k).1 = 0))
  | 0 => ⟨Or.inr (Or.inl rfl), Or.inl rfl⟩
  | k + 1 => by
    obtain ⟨h1, h2⟩ := zs_cs_in o k
    have hc : zs_cmp (o (k + 1)) (o k) = -1 ∨ zs_cmp (o (k + 1)) (o k) = 0 ∨ zs_cmp (o (k + 1)) (o k) = 1 := by
      unfold zs_cmp
      split
      · split
        · exact Or.inr (Or.inl rfl)
        · exact Or.inr (Or.inr rfl)
      · exact Or.inl rfl
    unfold zs_cs
    by_cases h0 : zs_cmp (o (k + 1)) (o k) = 0
    · rw [if_pos h0]; exact ⟨h1, h2⟩
    · rw [if_neg h0]
      refine ⟨hc, ?_⟩
      show (if ¬ (zs_cs o k).2 = 0 then (1 : Int32) else if 0 ≤ (zs_cs o k).1 * zs_cmp (o (k + 1)) (o k) then 0 else 1) = 0 ∨ _
      by_cases h3 : ¬ (zs_cs o k).2 = 0
      · exact Or.inr ⟨if_pos h3, h0⟩
      · by_cases h4 : 0 ≤ (zs_cs o k).1 * zs_cmp (o (k + 1)) (o k)
        · exact Or.inl ((if_neg h3).trans (if_pos h4))
        · exact Or.inr ⟨(if_neg h3).trans (if_neg h4), h0⟩
theorem zs_cmp_of {x y : Int32} (hx : zv_in x (-999) 999) (hy : zv_in y (-999) 999) : zs_cmp x y = if 0 < x - y then 1 else if x - y < 0 then -1 else 0 := by
  unfold zv_in at hx hy
  have e : (x - y).toInt = x.toInt - y.toInt := zs_smallS (by omega) (by omega)
  unfold zs_cmp
  by_cases h1 : y ≤ x
  · rw [if_pos h1]
    rw [zs_le] at h1
    by_cases h2 : x = y
    · rw [if_pos h2, if_neg (by rw [zs_lt, e, Int32.toInt_zero, h2]; omega), if_neg (by rw [zs_lt, e, Int32.toInt_zero, h2]; omega)]
    · rw [if_neg h2, if_pos (by rw [zs_lt, e, Int32.toInt_zero]; rw [zs_eq] at h2; omega)]
  · rw [if_neg h1]
    rw [zs_le] at h1
    rw [if_neg (by rw [zs_lt, e, Int32.toInt_zero]; omega), if_pos (by rw [zs_lt, e, Int32.toInt_zero]; omega)]
