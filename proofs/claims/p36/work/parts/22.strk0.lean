/-! ===== a frame is struck ===== -/
theorem zR_setc {S : zS} {sh : zm_Sh} {mi : zm_Mi} {mr : zm_Mr} (hW : zW S) (hR : zR S sh mi mr) {l k r c : Nat} {x : Int32} (h0 : zR_code l k r c) (hr : zs_str r) : zR (zm_u2 S r c x) sh (zm_u2 mi l k x) mr := by
  have hn : (∀ v, v ≤ zv_nv S → ¬ 300 + 3 * v + 2 = l) ∧ (∀ i, i < zv_ns S → (∀ a, a < 19 → ¬ 1000 + 100 * i + 20 + a = l) ∧ ∀ a, a < 3 → ¬ 1000 + 100 * i + 2 + a = l) := by
    have n2 := hW.2.1.2.1
    have n3 := hW.2.2.1.2.1
    have h1 := h0
    unfold zR_code at h1
    rcases h1 with ⟨-, h1⟩ | ⟨-, h1⟩
    · exact h1.elim
    rcases h1 with h | h | h | ⟨p, hp, h⟩ | ⟨p, hp, h⟩ | ⟨p, hp, h | h | h | ⟨hk, j, hj, h⟩⟩ <;> refine ⟨fun v hv => ?_, fun i hi => ⟨fun a ha => ?_, fun a ha => ?_⟩⟩ <;> omega
  refine zR_keep hR (fun q hq => zm_u2r (fun e => hq (e ▸ hr))) (fun l1 k1 r1 c1 h1 => zu_eq ((zR_out hR).2.1 _ _ _ _ h1) (zR_code_inj (zR_at_code hW h1) h0)) (fun v hv => zm_u2r (hn.1 v hv)) (fun i hi => ⟨fun a ha => zm_u2r ((hn.2 i hi).1 a ha), fun a ha => zm_u2r ((hn.2 i hi).2 a ha)⟩) (fun i hi => (hW.1.2.2.1 _ (hW.2.2.1.2.2.1 i hi).2.1).2.2)
theorem zR_cf (l k r c i j : Nat) (hi : i < 8) (hk : k < 48) (hj : j < 6) (h : (c = 48 * i + k ∧ ((l = 1000 + 100 * i + 7 ∧ r = 23) ∨ (l = 1000 + 100 * i + 8 ∧ r = 25) ∨ (l = 1000 + 100 * i + 9 ∧ r = 26) ∨ (l = 1000 + 100 * i + 10 ∧ r = 27) ∨ (l = 1000 + 100 * i + 11 ∧ r = 24))) ∨ (l = 1000 + 100 * i + 40 + j ∧ r = 22 ∧ c = 48 * (6 * i + j) + k)) : zR_code l k r c := by
  refine Or.inr ⟨by omega, Or.inr (Or.inr (Or.inr (Or.inr (Or.inr ⟨i, hi, ?_⟩))))⟩
  rcases h with h | ⟨h1, h2, h3⟩
  · exact Or.inr (Or.inr (Or.inl ⟨hk, h.1, h.2⟩))
  · exact Or.inr (Or.inr (Or.inr ⟨hk, j, hj, h1, h2, h3⟩))
/-- what the frame that is told next has, by its places -/
def zR_nw (S : zS) (i l r c : Nat) : Prop := (c = 48 * i + zv_sk S i ∧ ((l = 1000 + 100 * i + 7 ∧ r = 23) ∨ (l = 1000 + 100 * i + 8 ∧ r = 25) ∨ (l = 1000 + 100 * i + 9 ∧ r = 26) ∨ (l = 1000 + 100 * i + 10 ∧ r = 27) ∨ (l = 1000 + 100 * i + 11 ∧ r = 24))) ∨ ∃ j, j < zv_jn S (zv_pu S i) ∧ l = 1000 + 100 * i + 40 + j ∧ r = 22 ∧ c = 48 * (6 * i + j) + zv_sk S i
theorem zR_count {S : zS} {sh : zm_Sh} {mi : zm_Mi} {mr : zm_Mr} (hW : zW S) (hR : zR S sh mi mr) {i : Nat} (hi : i < zv_ns S) (hk : zv_sk S i < zv_fr S i) (hnew : ∀ l r c, zR_nw S i l r c → mi l (zv_sk S i) = S r c) : zR (zm_u2 S 15 i (nI (zv_sk S i + 1))) sh (zm_u2 mi (1000 + 100 * i + 5) 6 (nI (zv_sk S i + 1))) mr := by
  obtain ⟨h1, h2, h3, h4⟩ := zR_out hR
  have n2 := hW.2.1.2.1
  have n3 := hW.2.2.1.2.1
  obtain ⟨b1, b2, b3, b4, b5, b6, b7, b8, b9, b10, b11, b12, b13⟩ := hW.2.2.1.2.2.1 i hi
  have hj6 := (hW.1.2.2.1 _ b2).2.2
  have hc0 : zR_code (1000 + 100 * i + 5) 6 15 i := zR_at_code hW (Or.inr (Or.inr (Or.inr (Or.inl ⟨i, hi, Or.inr ⟨rfl, rfl, rfl, rfl⟩⟩))))
  have hs : ∀ r, r ≠ 15 → zm_u2 S 15 i (nI (zv_sk S i + 1)) r = S r := fun r h => zm_u2r h
  have hsk : ∀ a, (a ≠ i → zv_sk (zm_u2 S 15 i (nI (zv_sk S i + 1))) a = zv_sk S a) ∧ (a = i → zv_sk (zm_u2 S 15 i (nI (zv_sk S i + 1))) a = zv_sk S i + 1) := fun a => by
    refine ⟨fun e => ?_, fun e => ?_⟩
    · show zn (zm_u2 S 15 i (nI (zv_sk S i + 1)) 15 a) = _; rw [zm_u2k e]
    · rw [e]; show zn (zm_u2 S 15 i (nI (zv_sk S i + 1)) 15 i) = _; rw [zm_u2s]; exact nI_clamp (n := zv_sk S i + 1) (by omega)
  have hu : ∀ {l q r c}, mi l q = S r c → zR_code l q r c → zm_u2 mi (1000 + 100 * i + 5) 6 (nI (zv_sk S i + 1)) l q = zm_u2 S 15 i (nI (zv_sk S i + 1)) r c := fun e c => zu_eq e (zR_code_inj c hc0)
  generalize hS' : zm_u2 S 15 i (nI (zv_sk S i + 1)) = S' at hs hsk hu
  have e0 := hs 0 (by decide)
  have e1 := hs 1 (by decide)
  have e5 := hs 5 (by decide)
  have e6 := hs 6 (by decide)
  have e8 := hs 8 (by decide)
  have e9 := hs 9 (by decide)
  have e10 := hs 10 (by decide)
  have e11 := hs 11 (by decide)
  have e18 := hs 18 (by decide)
  have e19 := hs 19 (by decide)
  have e28 := hs 28 (by decide)
  have e29 := hs 29 (by decide)
  have hv : ∀ l q r c, zR_at S' l q r c → mi l q = S r c ∧ zR_code l q r c := by
    intro l q r c H
    have old : zR_at S l q r c → mi l q = S r c ∧ zR_code l q r c := fun z => ⟨h2 _ _ _ _ z, zR_at_code hW z⟩
    unfold zR_at zR_at1 zR_at2 zR_at3 zR_at4 at H
    simp only [zv_np, zv_jn, zv_nv, zv_sc, zv_ns, zv_pu, zv_nf, zv_fl, e0, e1, e5, e6, e9, e10, e11, e28, e29] at H
    rcases H with H | H | H | H | ⟨a, ha, hq, H⟩
    · exact old (Or.inl H)
    · exact old (Or.inr (Or.inl H))
    · exact old (Or.inr (Or.inr (Or.inl H)))
    · exact old (Or.inr (Or.inr (Or.inr (Or.inl H))))
    · have ha2 : a < zn (S' 9 0) := ha
      rw [e9] at ha2
      simp only [zv_jn, zv_pu, e1, e10] at H
      by_cases e : q < zv_sk S a
      · exact old (Or.inr (Or.inr (Or.inr (Or.inr ⟨a, ha2, e, H⟩))))
      · have hai : a = i := Classical.byContradiction fun z => e (by rw [← (hsk a).1 z]; exact hq)
        have hq1 := (hsk a).2 hai
        have hq2 : q = zv_sk S i := by rw [hai] at e hq hq1; omega
        rw [hai, hq2] at H
        rw [hq2]
        refine ⟨hnew l r c H, ?_⟩
        rcases H with H | ⟨j, hj, H⟩
        · exact zR_cf l _ r c i 0 (by omega) (by omega) (by decide) (Or.inl H)
        · have hj9 : j < zv_jn S (zv_pu S i) := hj
          exact zR_cf l _ r c i j (by omega) (by omega) (by omega) (Or.inr H)
  refine zR_in ?_ (fun l q r c H => ?_) ?_ ?_
  · unfold zR_hs zR_free
    simp only [zv_np, zv_jn, zv_nv, zv_sc, zv_ns, zv_pu, zv_fr, zv_st, zv_nf, zv_fl, e0, e1, e5, e6, e9, e10, e11]
    exact h1
  · exact hu (hv l q r c H).1 (hv l q r c H).2
  · unfold zR_en
    simp only [zv_nv, zv_sc, e5, e6, e8]
    intro v hv k hk9
    have hv' : v ≤ zv_nv S := hv
    rw [zm_u2l (by omega)]
    exact h3 v hv k hk9
  · simp only [zv_ns, e9]
    intro a ha
    obtain ⟨g1, g2, g3, g4⟩ := h4 a ha
    have hj6 : zn (S 1 (zn (S 10 a))) ≤ 6 := (hW.1.2.2.1 _ (hW.2.2.1.2.2.1 a ha).2.1).2.2
    unfold zR_k
    simp only [zv_jn, zv_pu, zv_fr, e1, e10, e11, e18, e19]
    refine ⟨fun j hj => ?_, fun j f hj hf => ?_, ?_, fun f hf => ?_⟩
    · rw [zm_u2l (by omega)]
      exact g1 j hj
    · rw [zm_u2l (by omega), zm_u2l (by omega)]
      exact g2 j f hj hf
    · rw [zm_u2l (by omega)]
      exact g3
    · rw [zm_u2l (by omega), zm_u2l (by omega)]
      exact g4 f hf
/-! numbers: the rest by 360 -/
theorem zs_nm1 {n : Nat} (h : n < 2 ^ 31) : ¬ nI n = -1 := fun q => by
  have e := congrArg Int32.toInt q
  rw [nI_toInt h] at e
  have e2 : (-1 : Int32).toInt = -1 := by decide
  omega
theorem zs_div_toInt {x : Int32} {n : Nat} (hn : n < 2 ^ 31) : (x / nI n).toInt = x.toInt.tdiv (n : Int) := by
  rw [Int32.toInt_div_of_ne_right _ _ (zs_nm1 hn), nI_toInt hn]
theorem zs_rem_toInt {x : Int32} {n : Nat} (h0 : 0 < n) (hn : n < 2 ^ 31) : (zs_rem x (nI n)).toInt = x.toInt.tmod (n : Int) := by
  have h1 := Int32.le_toInt x
  have h2 := Int32.toInt_lt x
  unfold zs_rem
  rw [Int32.toInt_sub, Int32.toInt_mul, zs_div_toInt hn, nI_toInt hn]
  have e := Int.tmod_def x.toInt (n : Int)
  have e2 : x.toInt.tdiv (n : Int) * (n : Int) = x.toInt - x.toInt.tmod (n : Int) := by rw [Int.mul_comm]; omega
  have h3 : (x.toInt.tmod (n : Int)).natAbs ≤ x.toInt.natAbs := by
    rw [Int.natAbs_tmod]
    exact Nat.mod_le _ _
  have h4 : 0 ≤ x.toInt → 0 ≤ x.toInt.tmod (n : Int) := fun h => Int.tmod_nonneg _ h
  have h5 : x.toInt ≤ 0 → x.toInt.tmod (n : Int) ≤ 0 := fun h => by
    have := Int.tmod_nonneg (a := - x.toInt) (n : Int) (by omega)
    rw [Int.neg_tmod] at this
    omega
  rw [e2, Int.bmod_eq_of_le (n := x.toInt - x.toInt.tmod (n : Int)) (by omega) (by omega), show x.toInt - (x.toInt - x.toInt.tmod (n : Int)) = x.toInt.tmod (n : Int) by omega]
  exact Int.bmod_eq_of_le (by omega) (by omega)
theorem zs_xor_nn {x : Int32} {n : Nat} (hn : n < 2 ^ 31) : 0 ≤ x ^^^ nI n ↔ 0 ≤ x.toInt := by
  rw [zs_le, Int32.toInt_zero]
  have e : ∀ z : Int32, 0 ≤ z.toInt ↔ z.toBitVec.msb = false := fun z => by
    rw [BitVec.msb_eq_toInt]
    show 0 ≤ z.toBitVec.toInt ↔ _
    rw [decide_eq_false_iff_not]
    omega
  have hm : (nI n).toBitVec.msb = false := (e _).mp (by rw [nI_toInt hn]; omega)
  rw [e, e, Int32.toBitVec_xor, BitVec.msb_xor, hm, Bool.xor_false]
theorem zs_fmod_toInt {x : Int32} {n : Nat} (h0 : 0 < n) (hn : n < 2 ^ 30) : (zs_fmod x (nI n)).toInt = x.toInt % (n : Int) := by
  have hr := zs_rem_toInt (x := x) h0 (by omega : n < 2 ^ 31)
  have h1 := Int32.le_toInt x
  have h2 := Int32.toInt_lt x
  have hem := Int.emod_def x.toInt (n : Int)
  unfold zs_fmod
  by_cases h : 0 ≤ x.toInt
  · rw [if_pos ((zs_xor_nn (by omega)).mpr h), hr, Int.tmod_eq_emod_of_nonneg h]
  · rw [if_neg (fun q => h ((zs_xor_nn (by omega)).mp q))]
    have hb : (x.toInt.tmod (n : Int)).natAbs < n := by
      rw [Int.natAbs_tmod]
      exact Nat.mod_lt _ (by omega)
    have hs : x.toInt.tmod (n : Int) ≤ 0 := by
      have := Int.tmod_nonneg (a := - x.toInt) (n : Int) (by omega)
      rw [Int.neg_tmod] at this
      omega
    have hq : ∃ q : Int, x.toInt = n * q + x.toInt.tmod (n : Int) := ⟨x.toInt.tdiv n, by have := Int.tmod_def x.toInt (n : Int); omega⟩
    obtain ⟨q, hq⟩ := hq
    have hz : zs_rem x (nI n) = 0 ↔ x.toInt.tmod (n : Int) = 0 := by rw [zs_eq, hr, Int32.toInt_zero]
    by_cases hd : x.toInt.tmod (n : Int) = 0
    · rw [if_pos (hz.mpr hd), hr, hd]
      rw [hd] at hq
      rw [hq, Int.add_zero, Int.mul_emod_right]
    · rw [if_neg (fun z => hd (hz.mp z)), Int32.toInt_add, hr, nI_toInt (by omega)]
      rw [Int.bmod_eq_of_le (by omega) (by omega)]
      have e2 : x.toInt = (x.toInt.tmod (n : Int) + n) + n * (q - 1) := by rw [Int.mul_sub]; omega
      generalize x.toInt.tmod (n : Int) = r at *
      rw [e2, Int.add_mul_emod_self_left, Int.emod_eq_of_lt (by omega) (by omega)]
theorem zs_fmod_in {x : Int32} : zv_in (zs_fmod x (nI 360)) 0 359 := by
  have h := zs_fmod_toInt (x := x) (n := 360) (by decide) (by decide)
  unfold zv_in
  rw [h]
  omega
theorem zs_val_in {mix : Int32 → Int32 → Int32 → Int32 → Int32} {K : Nat → Int32} {E : Int32} {P : Int32 → Prop} {f n : Nat} (hP : P 0) (hK : ∀ x, ¬ K x = E → P (K x)) (hm : ∀ a b p q, P a → P b → p ≤ q → q ≤ 48 → P (mix a b (nI p) (nI q))) (hf : f < n) (hn : n ≤ 48) :
    P (zs_val mix K (zs_up (fun x => ¬ K x = E) (f + 1)) (zs_fst (fun x => ¬ K x = E) nI (n - f) f) (nI f)) := by
  rcases zs_up_cases (fun x => ¬ K x = E) (f + 1) with ⟨hu, -⟩ | ⟨i, hi, hg, hu, -⟩ <;> rcases zs_fst_cases (fun x => ¬ K x = E) nI (n - f) f with ⟨hv, -⟩ | ⟨j, hj1, hj2, hgj, hv, -⟩
  · rw [hu, hv]; exact hP
  · rw [hu, hv]
    unfold zs_val
    rw [if_pos rfl, if_neg (zs_nm1 (by omega)), nI_clamp (by omega)]
    exact hK _ hgj
  · rw [hu, hv]
    unfold zs_val
    rw [if_neg (zs_nm1 (by omega)), if_pos (by rw [zs_le, nI_toInt (by omega)]; show (-1 : Int) ≤ i; omega), nI_clamp (by omega)]
    exact hK _ hg
  · rw [hu, hv]
    unfold zs_val
    rw [if_neg (zs_nm1 (by omega)), nI_clamp (by omega), nI_clamp (by omega)]
    by_cases h : nI j ≤ nI i
    · rw [if_pos h]; exact hK _ hg
    · rw [if_neg h, pk_sub (by omega), pk_sub (by omega)]
      exact hm _ _ _ _ (hK _ hg) (hK _ hgj) (by omega) (by omega)

theorem zp_deg_in {S : zS} (hW : zW S) (i j f : Nat) (hf : f < 48) : zv_in (zp_deg S i j f) 0 359 := by
  have hp := zs_pf_le (zv_st S i) f
  have h0 : zv_in 0 0 359 := by unfold zv_in; rw [Int32.toInt_zero]; omega
  exact zs_val_in (P := fun x => zv_in x 0 359) (E := -1) h0 (fun x hx => (hW.2.2.2.1.1 (48 * (6 * i + j) + x)).resolve_left hx) (fun _ _ _ _ _ _ _ _ => zs_fmod_in) (by omega) (Nat.le_refl _)
theorem zs_mixC_in {a b : Int32} {p q : Nat} (ha : zv_in a (-999) 999) (hb : zv_in b (-999) 999) (hpq : p ≤ q) (hq : q ≤ 48) : zv_in (zs_mixC a b (nI p) (nI q)) (-999) 999 := by
  unfold zv_in at *
  unfold zs_mixC
  have e1 : (b - a).toInt = b.toInt - a.toInt := by rw [Int32.toInt_sub]; exact Int.bmod_eq_of_le (by omega) (by omega)
  generalize hd : b.toInt - a.toInt = d at e1
  have hpi : (nI p).toInt = (p : Int) := nI_toInt (by omega)
  have hdp : (d * (p : Int)).natAbs ≤ 2000 * 48 := by
    rw [Int.natAbs_mul]
    exact Nat.mul_le_mul (by omega) (by omega)
  have e2 : ((b - a) * nI p).toInt = d * (p : Int) := by
    rw [Int32.toInt_mul, e1, hpi]
    exact Int.bmod_eq_of_le (by omega) (by omega)
  have e3 : ((b - a) * nI p / nI q).toInt = (d * (p : Int)).tdiv (q : Int) := by rw [zs_div_toInt (by omega), e2]
  have hb9 : 0 ≤ d → 0 ≤ (d * (p : Int)).tdiv (q : Int) ∧ (d * (p : Int)).tdiv (q : Int) ≤ d := fun h => by
    have h1 : 0 ≤ d * (p : Int) := Int.mul_nonneg h (by omega)
    refine ⟨Int.tdiv_nonneg h1 (by omega), ?_⟩
    rw [Int.tdiv_eq_ediv_of_nonneg h1]
    by_cases hq0 : q = 0
    · rw [hq0]; show d * (p : Int) / 0 ≤ d; rw [Int.ediv_zero]; exact h
    · exact Int.ediv_le_of_le_mul (by omega) (Int.mul_le_mul_of_nonneg_left (by omega) h)
  have hb8 : d ≤ 0 → (d * (p : Int)).tdiv (q : Int) ≤ 0 ∧ d ≤ (d * (p : Int)).tdiv (q : Int) := fun h => by
    have h1 : 0 ≤ -d * (p : Int) := Int.mul_nonneg (by omega) (by omega)
    have h2 : (d * (p : Int)).tdiv (q : Int) = - ((-d * (p : Int)).tdiv (q : Int)) := by rw [Int.neg_mul, Int.neg_tdiv, Int.neg_neg]
    rw [h2]
    have h3 : (-d * (p : Int)).tdiv (q : Int) ≤ -d := by
      rw [Int.tdiv_eq_ediv_of_nonneg h1]
      by_cases hq0 : q = 0
      · rw [hq0]; show -d * (p : Int) / 0 ≤ -d; rw [Int.ediv_zero]; omega
      · exact Int.ediv_le_of_le_mul (by omega) (Int.mul_le_mul_of_nonneg_left (by omega) (by omega))
    have h4 : 0 ≤ (-d * (p : Int)).tdiv (q : Int) := Int.tdiv_nonneg h1 (by omega)
    omega
  generalize (d * (p : Int)).tdiv (q : Int) = t at e3 hb9 hb8
  have e4 : (a + (b - a) * nI p / nI q).toInt = a.toInt + t := by
    rw [Int32.toInt_add, e3]
    exact Int.bmod_eq_of_le (by omega) (by omega)
  rw [e4]
  omega
theorem zp_place_in {S : zS} (hW : zW S) (i f : Nat) (hf : f < 48) : zv_in (zp_place S i f) (-999) 999 := by
  have h0 : zv_in 0 (-999) 999 := by unfold zv_in; rw [Int32.toInt_zero]; omega
  exact zs_val_in (P := fun x => zv_in x (-999) 999) (E := 100000) h0 (fun x hx => (hW.2.2.2.1.2.2.2.1 (48 * i + x)).resolve_left hx) (fun _ _ _ _ h1 h2 h3 h4 => zs_mixC_in h1 h2 h3 h4) hf (Nat.le_refl _)
theorem zp_light_in (S : zS) : zv_in (zp_light S) 500 1000000000 := by
  have h1 := Int32.le_toInt (S 21 0)
  have h2 := Int32.toInt_lt (S 21 0)
  have e1 : (S 21 0 / nI 3).toInt = (S 21 0).toInt.tdiv 3 := zs_div_toInt (n := 3) (by decide)
  have h7 : ((S 21 0).toInt.tdiv 3).natAbs = (S 21 0).toInt.natAbs / 3 := Int.natAbs_tdiv _ _
  generalize (S 21 0).toInt.tdiv 3 = t at e1 h7
  have h5 : (500 : Int) = (nI 500).toInt := by rw [nI_toInt (by decide)]; rfl
  have h6 : (nI 1000).toInt = 1000 := by rw [nI_toInt (by decide)]; rfl
  have e2 : (nI 1000 - S 21 0 / nI 3).toInt = 1000 - t := by
    rw [Int32.toInt_sub, e1, h6]
    exact Int.bmod_eq_of_le (by omega) (by omega)
  unfold zp_light zv_in
  by_cases h : nI 500 < nI 1000 - S 21 0 / nI 3
  · rw [if_pos h, e2]
    rw [zs_lt, e2, ← h5] at h
    omega
  · rw [if_neg h, ← h5]
    omega

/-! the states on the way -/
def zt_pj (S : zS) (p i j f : Nat) (d : Int32) : zS := zm_u2 (zm_u2 (zm_u2 S 3 (6 * p + j) (S 3 (6 * p + j) + zs_abs (zs_sw (S 2 (6 * p + j)) d))) 2 (6 * p + j) d) 22 (48 * (6 * i + j) + f) d
def zt_pose (S : zS) (p i f : Nat) : Nat → zS
  | 0 => S
  | j + 1 => zt_pj (zt_pose S p i f j) p i j f (zp_deg S i j f)
theorem zt_pose_r (S : zS) (p i f : Nat) {r : Nat} (h2 : r ≠ 2) (h3 : r ≠ 3) (h22 : r ≠ 22) : ∀ j, zt_pose S p i f j r = S r
  | 0 => rfl
  | j + 1 => (zm_u2r h22).trans ((zm_u2r h2).trans ((zm_u2r h3).trans (zt_pose_r S p i f h2 h3 h22 j)))
def zt_pz (S : zS) (i : Nat) : zS := zt_pose (zm_u2 S 23 (48 * i + zv_sk S i) (zp_mouth S i (zv_sk S i))) (zv_pu S i) i (zv_sk S i) (zv_jn S (zv_pu S i))
def zt_want (S : zS) (i : Nat) : zS := if zp_want S i (zv_sk S i) = -1 then S else zm_u2 S 4 (10 * zv_pu S i + zn (zp_want S i (zv_sk S i))) (S 4 (10 * zv_pu S i + zn (zp_want S i (zv_sk S i))) - nI 1)
def zt_hj (S : zS) (i f : Nat) : Nat → zS
  | 0 => zm_u2 S 23 (48 * i + f) (S 23 (48 * i + (f - 1)))
  | j + 1 => zm_u2 (zt_hj S i f j) 22 (48 * (6 * i + j) + f) (S 22 (48 * (6 * i + j) + (f - 1)))
theorem zt_hj_r (S : zS) (i f : Nat) {r : Nat} (h22 : r ≠ 22) (h23 : r ≠ 23) : ∀ j, zt_hj S i f j r = S r
  | 0 => zm_u2r h23
  | j + 1 => (zm_u2r h22).trans (zt_hj_r S i f h22 h23 j)
def zt_hold (S : zS) (i : Nat) : zS := zt_hj S i (zv_sk S i) (zv_jn S (zv_pu S i))
def zt_kp (S : zS) (i : Nat) (a b c d : Int32) : zS := zm_u2 (zm_u2 (zm_u2 (zm_u2 S 24 (48 * i + zv_sk S i) a) 25 (48 * i + zv_sk S i) b) 26 (48 * i + zv_sk S i) c) 27 (48 * i + zv_sk S i) d
def zt_keep (S : zS) (i : Nat) : zS := zm_u2 (zm_u2 (zt_kp S i (zp_place S i (zv_sk S i)) (zs_cam (fun k => zm_u2 S 24 (48 * i + zv_sk S i) (zp_place S i (zv_sk S i)) 24 (48 * i + k)) (zv_sk S i) (S 20 0)) (zp_light S) (S 16 i)) 15 i (nI (zv_sk S i + 1))) 21 0 (S 21 0 + nI 1)
def zt_strike (S : zS) (i : Nat) : zS := zt_keep (if zp_held S i (zv_sk S i) then zt_hold S i else zt_pz (zt_want S i) i) i
/-! what is told of the next frame stays -/
theorem zu_eq' {mi : zm_Mi} {S : zS} {l0 k0 r0 c0 l k r c : Nat} {x : Int32} (h : ¬ (l = l0 ∧ k = k0) → mi l k = S r c) (hi : (l = l0 ∧ k = k0) ↔ (r = r0 ∧ c = c0)) : zm_u2 mi l0 k0 x l k = zm_u2 S r0 c0 x r c := by
  unfold zm_u2
  by_cases q : l = l0 ∧ k = k0
  · rw [if_pos q, if_pos (hi.mp q)]
  · rw [if_neg q, if_neg (fun z => q (hi.mpr z)), h q]
theorem zR_nw_code {S : zS} (hW : zW S) {i l r c : Nat} (hi : i < zv_ns S) (hk : zv_sk S i < zv_fr S i) (h : zR_nw S i l r c) : zR_code l (zv_sk S i) r c := by
  obtain ⟨b1, b2, b3, b4, b5, b6, b7, b8, b9, b10, b11, b12, b13⟩ := hW.2.2.1.2.2.1 i hi
  have hj6 := (hW.1.2.2.1 _ b2).2.2
  have n3 := hW.2.2.1.2.1
  rcases h with h | ⟨j, hj, h⟩
  · exact zR_cf l _ r c i 0 (by omega) (by omega) (by decide) (Or.inl h)
  · exact zR_cf l _ r c i j (by omega) (by omega) (by omega) (Or.inr h)
def zR_nf (S : zS) (mi : zm_Mi) (i : Nat) (R : Nat → Prop) : Prop := ∀ l r c, zR_nw S i l r c → R l → mi l (zv_sk S i) = S r c
theorem zR_nf_set {S : zS} {mi : zm_Mi} {i : Nat} {R : Nat → Prop} (hW : zW S) (hi : i < zv_ns S) (hk : zv_sk S i < zv_fr S i) (h : zR_nf S mi i R) {l0 k0 r0 c0 : Nat} {x : Int32} (h0 : zR_code l0 k0 r0 c0) (h1 : r0 ≠ 1) (h10 : r0 ≠ 10) (h15 : r0 ≠ 15) : zR_nf (zm_u2 S r0 c0 x) (zm_u2 mi l0 k0 x) i (fun l => (l = l0 ∧ k0 = zv_sk S i) ∨ R l) := by
  have e1 : zm_u2 S r0 c0 x 1 = S 1 := zm_u2r h1.symm
  have e10 : zm_u2 S r0 c0 x 10 = S 10 := zm_u2r h10.symm
  have e15 : zm_u2 S r0 c0 x 15 = S 15 := zm_u2r h15.symm
  unfold zR_nf
  intro l r c H hl
  unfold zR_nw at H
  simp only [zv_sk, zv_jn, zv_pu, e1, e10, e15] at H ⊢
  have H' : zR_nw S i l r c := H
  exact zu_eq' (fun q => h l r c H' (hl.resolve_left fun e => q ⟨e.1, e.2.symm⟩)) (zR_code_inj (zR_nw_code hW hi hk H') h0)
theorem zR_nf.to {S : zS} {mi : zm_Mi} {i : Nat} {R R' : Nat → Prop} (h : zR_nf S mi i R) (hr : ∀ l, R' l → R l) : zR_nf S mi i R' := fun l r c H hl => h l r c H (hr l hl)
theorem zt_pj_ok {S : zS} {sh : zm_Sh} {mi : zm_Mi} {mr : zm_Mr} (hW : zW S) (hR : zR S sh mi mr) {p i j f : Nat} {d : Int32} {R : Nat → Prop} (hi : i < zv_ns S) (hk : zv_sk S i < zv_fr S i) (hp : p < zv_np S) (hj : j < zv_jn S p) (hf : f = zv_sk S i) (hd : zv_in d 0 359) (hN : zR_nf S mi i R) :
    zW (zt_pj S p i j f d) ∧ zR (zt_pj S p i j f d) sh (zm_u2 (zm_u2 (zm_u2 mi (200 + 4 * p + 2) j (mi (200 + 4 * p + 2) j + zs_abs (zs_sw (mi (200 + 4 * p + 1) j) d))) (200 + 4 * p + 1) j d) (1000 + 100 * i + 40 + j) f d) mr ∧ zR_nf (zt_pj S p i j f d) (zm_u2 (zm_u2 (zm_u2 mi (200 + 4 * p + 2) j (mi (200 + 4 * p + 2) j + zs_abs (zs_sw (mi (200 + 4 * p + 1) j) d))) (200 + 4 * p + 1) j d) (1000 + 100 * i + 40 + j) f d) i (fun l => l = 1000 + 100 * i + 40 + j ∨ R l) := by
  obtain ⟨q1, q2, q3, q4, q5, q6⟩ := hR.2.1 p hp
  have h5 := hW.1.2.1
  have h6 := (hW.1.2.2.1 p hp).2.2
  have h8 := hW.2.2.1.2.1
  have hfr := (hW.2.2.1.2.2.1 i hi).2.2.2.2.1
  rw [q4 j hj, q5 j hj]
  unfold zt_pj
  generalize S 3 (6 * p + j) + zs_abs (zs_sw (S 2 (6 * p + j)) d) = x
  have c1 : zR_code (200 + 4 * p + 2) j 3 (6 * p + j) := Or.inr ⟨by omega, Or.inr (Or.inr (Or.inr (Or.inl ⟨p, by omega, by omega⟩)))⟩
  have c2 : zR_code (200 + 4 * p + 1) j 2 (6 * p + j) := Or.inr ⟨by omega, Or.inr (Or.inr (Or.inr (Or.inl ⟨p, by omega, by omega⟩)))⟩
  have c3 : zR_code (1000 + 100 * i + 40 + j) f 22 (48 * (6 * i + j) + f) := zR_cf _ _ _ _ i j (by omega) (by omega) (by omega) (Or.inr ⟨rfl, rfl, rfl⟩)
  have w1 : zW (zm_u2 S 3 (6 * p + j) x) := zW_set hW (by unfold zs_str; omega) (fun h => by omega) (fun _ => by omega) (fun h => by omega) (fun h => by omega) (fun h => by omega) (fun h => by omega) (by omega) (fun h => by omega)
  have r1 := zR_setc hW hR (x := x) c1 (by unfold zs_str; omega)
  have f1 := zR_nf_set (x := x) hW hi hk hN c1 (by decide) (by decide) (by decide)
  have g1 : ∀ r, r ≠ 3 → zm_u2 S 3 (6 * p + j) x r = S r := fun r h => zm_u2r h
  have hf1 : f = zv_sk (zm_u2 S 3 (6 * p + j) x) i := by show f = zn (zm_u2 S 3 (6 * p + j) x 15 i); rw [g1 15 (by decide)]; exact hf
  have hi1 : i < zv_ns (zm_u2 S 3 (6 * p + j) x) := by show i < zn (zm_u2 S 3 (6 * p + j) x 9 0); rw [g1 9 (by decide)]; exact hi
  have hk1 : zv_sk (zm_u2 S 3 (6 * p + j) x) i < zv_fr (zm_u2 S 3 (6 * p + j) x) i := by show zn (zm_u2 S 3 (6 * p + j) x 15 i) < zn (zm_u2 S 3 (6 * p + j) x 11 i); rw [g1 15 (by decide), g1 11 (by decide)]; exact hk
  have hn1 : 6 * p + j < 6 * zv_np (zm_u2 S 3 (6 * p + j) x) := by
    show 6 * p + j < 6 * zn (zm_u2 S 3 (6 * p + j) x 0 0)
    rw [g1 0 (by decide)]
    have : 6 * p + j < 6 * zv_np S := by omega
    exact this
  generalize zm_u2 S 3 (6 * p + j) x = S1 at *
  generalize zm_u2 mi (200 + 4 * p + 2) j x = m1 at *
  have w2 : zW (zm_u2 S1 2 (6 * p + j) d) := zW_set w1 (by unfold zs_str; omega) (fun h => ⟨hd, hn1⟩) (fun h => by omega) (fun h => by omega) (fun h => by omega) (fun h => by omega) (fun h => by omega) (by omega) (fun h => by omega)
  have r2 := zR_setc w1 r1 (x := d) c2 (by unfold zs_str; omega)
  have f2 := zR_nf_set (x := d) w1 hi1 hk1 f1 c2 (by decide) (by decide) (by decide)
  have g2 : ∀ r, r ≠ 2 → zm_u2 S1 2 (6 * p + j) d r = S1 r := fun r h => zm_u2r h
  have hf2 : f = zv_sk (zm_u2 S1 2 (6 * p + j) d) i := by show f = zn (zm_u2 S1 2 (6 * p + j) d 15 i); rw [g2 15 (by decide)]; exact hf1
  have hi2 : i < zv_ns (zm_u2 S1 2 (6 * p + j) d) := by show i < zn (zm_u2 S1 2 (6 * p + j) d 9 0); rw [g2 9 (by decide)]; exact hi1
  have hk2 : zv_sk (zm_u2 S1 2 (6 * p + j) d) i < zv_fr (zm_u2 S1 2 (6 * p + j) d) i := by show zn (zm_u2 S1 2 (6 * p + j) d 15 i) < zn (zm_u2 S1 2 (6 * p + j) d 11 i); rw [g2 15 (by decide), g2 11 (by decide)]; exact hk1
  generalize zm_u2 S1 2 (6 * p + j) d = S2 at *
  generalize zm_u2 m1 (200 + 4 * p + 1) j d = m2 at *
  refine ⟨zW_set w2 (by unfold zs_str; omega) (fun h => by omega) (fun h => by omega) (fun h => by omega) (fun h => by omega) (fun h => by omega) (fun h => by omega) (by omega) (fun h => by omega), zR_setc w2 r2 c3 (by unfold zs_str; omega), ?_⟩
  exact (zR_nf_set (x := d) w2 hi2 hk2 f2 c3 (by decide) (by decide) (by decide)).to (fun l hl => hl.elim (fun e => Or.inl ⟨e, hf2⟩) (fun e => Or.inr (Or.inr (Or.inr e))))
/-- the state's order with what is told of the next frame -/
theorem zW_nf {S : zS} (hW : zW S) {i r : Nat} {x : Int32} (hi : i < zv_ns S) (hk : zv_sk S i < zv_fr S i) (hr : 22 < r ∧ r < 28) : zW (zm_u2 S r (48 * i + zv_sk S i) x) := by
  have E : ∀ q, q ≠ r → zm_u2 S r (48 * i + zv_sk S i) x q = S q := fun q hq => zm_u2r hq
  have U : ∀ a f, a < zv_ns S → f < zv_sk S a → ∀ q, zm_u2 S r (48 * i + zv_sk S i) x q (48 * a + f) = S q (48 * a + f) := fun a f ha hf q => by
    refine if_neg (fun h => ?_)
    have hb := (hW.2.2.1.2.2.1 i hi).2.2.2.2.1
    have hb2 := (hW.2.2.1.2.2.1 a ha).2.2.2.2
    by_cases e : a = i
    · rw [e] at hf h; omega
    · omega
  obtain ⟨⟨p0, p1, p2, p3, p4, p5⟩, hWv, hWs, hWk, hWr, hWf⟩ := hW
  have e0 := E 0 (by omega)
  have e1 := E 1 (by omega)
  have e2 := E 2 (by omega)
  have e3 := E 3 (by omega)
  have e4 := E 4 (by omega)
  have e5 := E 5 (by omega)
  have e6 := E 6 (by omega)
  have e7 := E 7 (by omega)
  have e8 := E 8 (by omega)
  have e9 := E 9 (by omega)
  have e10 := E 10 (by omega)
  have e11 := E 11 (by omega)
  have e12 := E 12 (by omega)
  have e13 := E 13 (by omega)
  have e14 := E 14 (by omega)
  have e15 := E 15 (by omega)
  have e16 := E 16 (by omega)
  have e17 := E 17 (by omega)
  have e18 := E 18 (by omega)
  have e19 := E 19 (by omega)
  have e28 := E 28 (by omega)
  have e29 := E 29 (by omega)
  generalize zm_u2 S r (48 * i + zv_sk S i) x = S' at *
  refine ⟨?_, ?_, ?_, ?_, ?_, ?_⟩
  · unfold zW_p
    simp only [zv_np, zv_jn, e0, e1, e2, e3, e4]
    exact ⟨p0, p1, p2, p3, p4, p5⟩
  · unfold zW_v
    simp only [zv_nv, zv_sc, e5, e6, e7, e8]
    exact hWv
  · unfold zW_s
    simp only [zv_np, zv_nv, zv_ns, zv_pu, zv_fr, zv_st, zv_sk, e0, e5, e9, e10, e11, e12, e13, e14, e15, e16]
    exact hWs
  · unfold zW_k
    simp only [zv_ns, zv_fr, e9, e11, e18, e19]
    exact hWk
  · intro a f ha hf
    simp only [zv_ns, zv_sk, e9, e15] at ha hf
    rw [U a f ha hf, U a f ha hf]
    exact hWr a f ha hf
  · unfold zW_f
    simp only [zv_ns, zv_nf, zv_fl, e9, e17, e28, e29]
    exact hWf
theorem zW_count {S : zS} (hW : zW S) {i : Nat} (hi : i < zv_ns S) (hk : zv_sk S i < zv_fr S i) (ha : zs_ix (S 14 i) 5) (h24 : zv_in (S 24 (48 * i + zv_sk S i)) (-999) 999) (h26 : zv_in (S 26 (48 * i + zv_sk S i)) 500 1000000000) : zW (zm_u2 S 15 i (nI (zv_sk S i + 1))) := by
  have E : ∀ q, q ≠ 15 → zm_u2 S 15 i (nI (zv_sk S i + 1)) q = S q := fun q hq => zm_u2r hq
  have hfr := (hW.2.2.1.2.2.1 i hi).2.2.2.2.1
  have hsk : ∀ a, (a ≠ i → zm_u2 S 15 i (nI (zv_sk S i + 1)) 15 a = S 15 a) ∧ (a = i → zm_u2 S 15 i (nI (zv_sk S i + 1)) 15 a = nI (zv_sk S i + 1)) := fun a => ⟨fun e => zm_u2k e, fun e => by rw [e]; exact zm_u2s⟩
  obtain ⟨hWp, hWv, ⟨s0, s1, s2, s3⟩, hWk, hWr, hWf⟩ := hW
  have e0 := E 0 (by omega)
  have e1 := E 1 (by omega)
  have e2 := E 2 (by omega)
  have e3 := E 3 (by omega)
  have e4 := E 4 (by omega)
  have e5 := E 5 (by omega)
  have e6 := E 6 (by omega)
  have e7 := E 7 (by omega)
  have e8 := E 8 (by omega)
  have e9 := E 9 (by omega)
  have e10 := E 10 (by omega)
  have e11 := E 11 (by omega)
  have e12 := E 12 (by omega)
  have e13 := E 13 (by omega)
  have e14 := E 14 (by omega)
  have e16 := E 16 (by omega)
  have e17 := E 17 (by omega)
  have e18 := E 18 (by omega)
  have e19 := E 19 (by omega)
  have e24 := E 24 (by omega)
  have e26 := E 26 (by omega)
  have e28 := E 28 (by omega)
  have e29 := E 29 (by omega)
  generalize zm_u2 S 15 i (nI (zv_sk S i + 1)) = S' at *
  have hzn : zn (nI (zv_sk S i + 1)) = zv_sk S i + 1 := nI_clamp (n := zv_sk S i + 1) (by omega)
  refine ⟨?_, ?_, ?_, ?_, ?_, ?_⟩
  · unfold zW_p
    simp only [zv_np, zv_jn, e0, e1, e2, e3, e4]
    exact hWp
  · unfold zW_v
    simp only [zv_nv, zv_sc, e5, e6, e7, e8]
    exact hWv
  · unfold zW_s
    simp only [zv_np, zv_nv, zv_ns, zv_pu, zv_fr, zv_st, zv_sk, e0, e5, e9, e10, e11, e12, e13, e14, e16]
    refine ⟨s0, s1, fun a h => ?_, fun a h => ?_⟩
    · obtain ⟨b1, b2, b3, b4, b5, b6, b7, b8, b9, b10, b11, b12, b13⟩ := s2 a h
      by_cases e : a = i
      · rw [(hsk a).2 e, hzn]
        refine ⟨b1, b2, b3, b4, b5, b6, b7, b8, b9, b10, rfl, ?_, fun _ => ?_⟩
        · rw [e]; exact hk
        · rw [e]; exact ha
      · rw [(hsk a).1 e]
        exact ⟨b1, b2, b3, b4, b5, b6, b7, b8, b9, b10, b11, b12, b13⟩
    · have hi2 : i < zn (S 9 0) := hi
      rw [(hsk a).1 (by omega)]
      exact s3 a h
  · unfold zW_k
    simp only [zv_ns, zv_fr, e9, e11, e18, e19]
    exact hWk
  · intro a f ha2 hf
    simp only [zv_ns, e9] at ha2
    rw [e24, e26]
    by_cases e : a = i
    · have hf2 : f < zn (S' 15 a) := hf
      rw [(hsk a).2 e, hzn] at hf2
      by_cases e3 : f = zv_sk S i
      · rw [e, e3]; exact ⟨h24, h26⟩
      · exact hWr a f ha2 (by rw [e]; omega)
    · have hf2 : f < zn (S' 15 a) := hf
      rw [(hsk a).1 e] at hf2
      exact hWr a f ha2 hf2
  · unfold zW_f
    simp only [zv_ns, zv_nf, zv_fl, e9, e17, e28, e29]
    exact hWf
theorem zR_step {S : zS} {sh : zm_Sh} {mi : zm_Mi} {mr : zm_Mr} (hW : zW S) (hR : zR S sh mi mr) {i f l r : Nat} {x : Int32} {R : Nat → Prop} (hi : i < zv_ns S) (hf : f = zv_sk S i) (hk : f < zv_fr S i) (hN : zR_nf S mi i R) (hl : (l = 1000 + 100 * i + 7 ∧ r = 23) ∨ (l = 1000 + 100 * i + 8 ∧ r = 25) ∨ (l = 1000 + 100 * i + 9 ∧ r = 26) ∨ (l = 1000 + 100 * i + 10 ∧ r = 27) ∨ (l = 1000 + 100 * i + 11 ∧ r = 24)) :
    (zW (zm_u2 S r (48 * i + f) x) ∧ zR (zm_u2 S r (48 * i + f) x) sh (zm_u2 mi l f x) mr ∧ zR_nf (zm_u2 S r (48 * i + f) x) (zm_u2 mi l f x) i (fun q => q = l ∨ R q)) ∧ i < zv_ns (zm_u2 S r (48 * i + f) x) ∧ f = zv_sk (zm_u2 S r (48 * i + f) x) i ∧ f < zv_fr (zm_u2 S r (48 * i + f) x) i := by
  subst hf
  have hc := zR_nw_code (l := l) (r := r) hW hi hk (Or.inl ⟨rfl, hl⟩)
  have hE : ∀ q, q ≠ r → zm_u2 S r (48 * i + zv_sk S i) x q = S q := fun q hq => zm_u2r hq
  have h1 := zW_nf (x := x) hW hi hk (r := r) (by omega)
  have h2 := zR_setc hW hR (x := x) hc (by unfold zs_str; omega)
  have h3 := zR_nf_set (x := x) hW hi hk hN hc (by omega) (by omega) (by omega)
  have g1 : zv_sk S i = zv_sk (zm_u2 S r (48 * i + zv_sk S i) x) i := by show _ = zn (zm_u2 S r (48 * i + zv_sk S i) x 15 i); rw [hE 15 (by omega)]
  have g2 : i < zv_ns (zm_u2 S r (48 * i + zv_sk S i) x) := by show i < zn (zm_u2 S r (48 * i + zv_sk S i) x 9 0); rw [hE 9 (by omega)]; exact hi
  have g3 : zv_sk S i < zv_fr (zm_u2 S r (48 * i + zv_sk S i) x) i := by show zv_sk S i < zn (zm_u2 S r (48 * i + zv_sk S i) x 11 i); rw [hE 11 (by omega)]; exact hk
  exact ⟨⟨h1, h2, h3.to (fun q hq => hq.elim (fun e => Or.inl ⟨e, g1.symm ▸ rfl⟩) (fun e => Or.inr e))⟩, g2, g1, g3⟩
theorem zs_cs_congr {o o' : Nat → Int32} : ∀ k, (∀ j, j ≤ k → o j = o' j) → zs_cs o k = zs_cs o' k
  | 0, _ => rfl
  | k + 1, h => by
    unfold zs_cs
    rw [zs_cs_congr k (fun j hj => h j (by omega)), h (k + 1) (Nat.le_refl _), h k (by omega)]
theorem zs_cam_congr {o o' : Nat → Int32} {k : Nat} {p : Int32} (h : ∀ j, j ≤ k → o j = o' j) : zs_cam o k p = zs_cam o' k p := by
  unfold zs_cam
  rw [zs_cs_congr k h, h k (Nat.le_refl _)]
theorem zt_keep_ok {S : zS} {sh : zm_Sh} {mi : zm_Mi} {mr : zm_Mr} (hW : zW S) (hR : zR S sh mi mr) {i : Nat} (hi : i < zv_ns S) (hk : zv_sk S i < zv_fr S i) (ha : zs_ix (S 14 i) 5) (hN : zR_nf S mi i (fun l => l = 1000 + 100 * i + 7 ∨ (1000 + 100 * i + 40 ≤ l ∧ l < 1000 + 100 * i + 40 + zv_jn S (zv_pu S i)))) :
    zW (zt_keep S i) ∧ zR (zt_keep S i) sh (zm_u2 (zm_u2 (zm_u2 (zm_u2 (zm_u2 (zm_u2 mi (1000 + 100 * i + 11) (zv_sk S i) (zp_place S i (zv_sk S i))) (1000 + 100 * i + 8) (zv_sk S i) (zs_cam (zm_u2 mi (1000 + 100 * i + 11) (zv_sk S i) (zp_place S i (zv_sk S i)) (1000 + 100 * i + 11)) (zv_sk S i) (S 20 0))) (1000 + 100 * i + 9) (zv_sk S i) (zp_light S)) (1000 + 100 * i + 10) (zv_sk S i) (S 16 i)) (1000 + 100 * i + 5) 6 (nI (zv_sk S i + 1))) 2 11 (S 21 0 + nI 1)) mr := by
  have hfr := (hW.2.2.1.2.2.1 i hi).2.2.2.2.1
  have hcam : zs_cam (zm_u2 mi (1000 + 100 * i + 11) (zv_sk S i) (zp_place S i (zv_sk S i)) (1000 + 100 * i + 11)) (zv_sk S i) (S 20 0) = zs_cam (fun k => zm_u2 S 24 (48 * i + zv_sk S i) (zp_place S i (zv_sk S i)) 24 (48 * i + k)) (zv_sk S i) (S 20 0) := by
    refine zs_cam_congr (fun j hj => ?_)
    by_cases e : j = zv_sk S i
    · rw [e, zm_u2s, zm_u2s]
    · rw [zm_u2k e, zm_u2k (by omega)]
      exact ((hR.2.2.2.1 i hi).2.2.2.2.2.2.2.2.2 j (by omega)).2.2.2.2.1
  rw [hcam]
  have hpl := zp_place_in hW i (zv_sk S i) (by omega)
  have hli := zp_light_in S
  unfold zt_keep zt_kp
  generalize zs_cam (fun k => zm_u2 S 24 (48 * i + zv_sk S i) (zp_place S i (zv_sk S i)) 24 (48 * i + k)) (zv_sk S i) (S 20 0) = cam
  generalize zp_place S i (zv_sk S i) = told at *
  generalize zp_light S = light at *
  have x16 : ∃ t, S 16 i = t := ⟨_, rfl⟩
  obtain ⟨tab, x16⟩ := x16
  rw [x16]
  generalize hf : zv_sk S i = f at *
  have hjn : ∃ jn, zv_jn S (zv_pu S i) = jn := ⟨_, rfl⟩
  obtain ⟨jn, hjn⟩ := hjn
  rw [hjn] at hN
  have hjn2 : zn (S 1 (zn (S 10 i))) = jn := hjn
  obtain ⟨⟨w1, r1, n1⟩, i1, f1, k1⟩ := zR_step (l := 1000 + 100 * i + 11) (r := 24) (x := told) hW hR hi hf.symm hk hN (by omega)
  obtain ⟨⟨w2, r2, n2⟩, i2, f2, k2⟩ := zR_step (l := 1000 + 100 * i + 8) (r := 25) (x := cam) w1 r1 i1 f1 k1 n1 (by omega)
  obtain ⟨⟨w3, r3, n3⟩, i3, f3, k3⟩ := zR_step (l := 1000 + 100 * i + 9) (r := 26) (x := light) w2 r2 i2 f2 k2 n2 (by omega)
  obtain ⟨⟨w4, r4, n4⟩, i4, f4, k4⟩ := zR_step (l := 1000 + 100 * i + 10) (r := 27) (x := tab) w3 r3 i3 f3 k3 n3 (by omega)
  have E : ∀ q, ¬ (24 ≤ q ∧ q ≤ 27) → zm_u2 (zm_u2 (zm_u2 (zm_u2 S 24 (48 * i + f) told) 25 (48 * i + f) cam) 26 (48 * i + f) light) 27 (48 * i + f) tab q = S q := fun q hq => (zm_u2r (by omega)).trans ((zm_u2r (by omega)).trans ((zm_u2r (by omega)).trans (zm_u2r (by omega))))
  have E24 : zm_u2 (zm_u2 (zm_u2 (zm_u2 S 24 (48 * i + f) told) 25 (48 * i + f) cam) 26 (48 * i + f) light) 27 (48 * i + f) tab 24 (48 * i + f) = told := by rw [zm_u2l (by decide), zm_u2l (by decide), zm_u2l (by decide), zm_u2s]
  have E26 : zm_u2 (zm_u2 (zm_u2 (zm_u2 S 24 (48 * i + f) told) 25 (48 * i + f) cam) 26 (48 * i + f) light) 27 (48 * i + f) tab 26 (48 * i + f) = light := by rw [zm_u2l (by decide), zm_u2s]
  generalize zm_u2 (zm_u2 (zm_u2 (zm_u2 S 24 (48 * i + f) told) 25 (48 * i + f) cam) 26 (48 * i + f) light) 27 (48 * i + f) tab = T at *
  generalize zm_u2 (zm_u2 (zm_u2 (zm_u2 mi (1000 + 100 * i + 11) f told) (1000 + 100 * i + 8) f cam) (1000 + 100 * i + 9) f light) (1000 + 100 * i + 10) f tab = mT at *
  have E1 := E 1 (by omega)
  have E10 := E 10 (by omega)
  have E14 := E 14 (by omega)
  have w5 := zW_count w4 i4 (by rw [← f4]; exact k4) (by rw [E14]; exact ha) (by rw [← f4, E24]; exact hpl) (by rw [← f4, E26]; exact hli)
  have r5 := zR_count w4 r4 i4 (by rw [← f4]; exact k4) (fun l r c H => n4 l r c H (by
    unfold zR_nw at H
    simp only [zv_jn, zv_pu, E1, E10, hjn2] at H
    rcases H with H | ⟨j, hj, H⟩ <;> omega))
  rw [← f4] at w5 r5
  have c6 : zR_code 2 11 21 0 := Or.inr ⟨by omega, Or.inl ⟨rfl, rfl, by omega⟩⟩
  exact ⟨zW_set w5 (by unfold zs_str; omega) (fun h => by omega) (fun h => by omega) (fun h => by omega) (fun h => by omega) (fun h => by omega) (fun h => by omega) (by omega) (fun h => by omega), zR_setc w5 r5 c6 (by unfold zs_str; omega)⟩
theorem zt_hold_ok {S : zS} {sh : zm_Sh} {mi : zm_Mi} {mr : zm_Mr} (hW : zW S) (hR : zR S sh mi mr) {i f : Nat} (hi : i < zv_ns S) (hf : f = zv_sk S i) (h0 : 0 < f) (hk : f < zv_fr S i) : ∀ j, j ≤ zv_jn S (zv_pu S i) →
    (zW (zt_hj S i f j) ∧ zR (zt_hj S i f j) sh (zs_cpm (zm_u2 mi (1000 + 100 * i + 7) f (mi (1000 + 100 * i + 7) (f - 1))) (1000 + 100 * i + 40) j f) mr ∧ zR_nf (zt_hj S i f j) (zs_cpm (zm_u2 mi (1000 + 100 * i + 7) f (mi (1000 + 100 * i + 7) (f - 1))) (1000 + 100 * i + 40) j f) i (fun l => l = 1000 + 100 * i + 7 ∨ (1000 + 100 * i + 40 ≤ l ∧ l < 1000 + 100 * i + 40 + j)))
  | 0, _ => by
    have hq := (hR.2.2.2.1 i hi).2.2.2.2.2.2.2.2.2 (f - 1) (by omega)
    rw [zs_cpm_0, hq.1]
    obtain ⟨⟨w1, r1, n1⟩, -⟩ := zR_step (l := 1000 + 100 * i + 7) (r := 23) (x := S 23 (48 * i + (f - 1))) (R := fun _ => False) hW hR hi hf hk (fun _ _ _ _ h => h.elim) (by omega)
    exact ⟨w1, r1, n1.to (fun l hl => Or.inl (by omega))⟩
  | j + 1, hj => by
    obtain ⟨w1, r1, n1⟩ := zt_hold_ok hW hR hi hf h0 hk j (by omega)
    have hq := (hR.2.2.2.1 i hi).2.2.2.2.2.2.2.2.2 (f - 1) (by omega)
    have hE : ∀ q, q ≠ 22 → q ≠ 23 → zt_hj S i f j q = S q := fun q h1 h2 => zt_hj_r S i f h1 h2 j
    have hj6 := (hW.1.2.2.1 _ (hW.2.2.1.2.2.1 i hi).2.1).2.2
    have hfr := (hW.2.2.1.2.2.1 i hi).2.2.2.2.1
    have n3 := hW.2.2.1.2.1
    rw [← zs_cpm_s h0, zm_u2l (show 1000 + 100 * i + 40 + j ≠ 1000 + 100 * i + 7 by omega), hq.2.2.2.2.2 j (by omega)]
    show zW (zm_u2 (zt_hj S i f j) 22 (48 * (6 * i + j) + f) (S 22 (48 * (6 * i + j) + (f - 1)))) ∧ zR (zm_u2 (zt_hj S i f j) 22 (48 * (6 * i + j) + f) (S 22 (48 * (6 * i + j) + (f - 1)))) sh _ mr ∧ zR_nf (zm_u2 (zt_hj S i f j) 22 (48 * (6 * i + j) + f) (S 22 (48 * (6 * i + j) + (f - 1)))) _ i _
    have e15 := hE 15 (by decide) (by decide)
    have e9 := hE 9 (by decide) (by decide)
    have e11 := hE 11 (by decide) (by decide)
    generalize zt_hj S i f j = T at *
    generalize zs_cpm (zm_u2 mi (1000 + 100 * i + 7) f (mi (1000 + 100 * i + 7) (f - 1))) (1000 + 100 * i + 40) j f = m at *
    have c3 : zR_code (1000 + 100 * i + 40 + j) f 22 (48 * (6 * i + j) + f) := zR_cf _ _ _ _ i j (by omega) (by omega) (by omega) (Or.inr ⟨rfl, rfl, rfl⟩)
    have hfT : f = zv_sk T i := by show f = zn (T 15 i); rw [e15]; exact hf
    have hiT : i < zv_ns T := by show i < zn (T 9 0); rw [e9]; exact hi
    have hkT : zv_sk T i < zv_fr T i := by rw [← hfT]; show f < zn (T 11 i); rw [e11]; exact hk
    refine ⟨zW_set w1 (by unfold zs_str; omega) (fun h => by omega) (fun h => by omega) (fun h => by omega) (fun h => by omega) (fun h => by omega) (fun h => by omega) (by omega) (fun h => by omega), zR_setc w1 r1 c3 (by unfold zs_str; omega), ?_⟩
    exact (zR_nf_set w1 hiT hkT n1 c3 (by decide) (by decide) (by decide)).to (fun l hl => by
      by_cases e : l = 1000 + 100 * i + 40 + j
      · exact Or.inl ⟨e, hfT⟩
      · exact Or.inr (by omega))
