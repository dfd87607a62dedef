/-! ===== the law's arrays over the state's changes ===== -/
section ZL7
variable {n : Nat} {S S' : zS} {sh : zm_Sh} {mi mi' : zm_Mi} {mr : zm_Mr}
theorem ql_p_c (h : ql_p S mi) (e0 : S' 0 = S 0) (e1 : S' 1 = S 1) (el : mi' 100 = mi 100) : ql_p S' mi' := by
  unfold ql_p zv_np at *; rw [e0, e1, el]; exact h
theorem ql_j_c (h : ql_j S mi) (e2 : S' 2 = S 2) (e3 : S' 3 = S 3) (el : mi' 101 = mi 101) : ql_j S' mi' := by
  unfold ql_j at *; rw [e2, e3, el]; exact h
theorem ql_m_c (h : ql_m S mi) (e4 : S' 4 = S 4) (el : mi' 102 = mi 102) : ql_m S' mi' := by
  unfold ql_m at *; rw [e4, el]; exact h
theorem ql_v_c (h : ql_v S mi) (e6 : S' 6 = S 6) (e7 : S' 7 = S 7) (e8 : S' 8 = S 8) (el : mi' 103 = mi 103) : ql_v S' mi' := by
  unfold ql_v at *; rw [e6, e7, e8, el]; exact h
theorem ql_hw_c {i : Nat} (e : ∀ r, 10 ≤ r → r ≤ 15 → S' r = S r) : ql_hw S' i = ql_hw S i := by
  unfold ql_hw zv_pu zv_fr zv_st zv_sk
  rw [e 10 (by decide) (by decide), e 11 (by decide) (by decide), e 12 (by decide) (by decide), e 13 (by decide) (by decide), e 14 (by decide) (by decide), e 15 (by decide) (by decide)]
theorem ql_h_c (h : ql_h S mi) (e : ∀ r, 9 ≤ r → r ≤ 15 → S' r = S r) (el : mi' 104 = mi 104) : ql_h S' mi' := by
  intro i hi
  unfold zv_ns at hi
  rw [e 9 (by decide) (by decide)] at hi
  rw [ql_hw_c (fun r h1 h2 => e r (by omega) h2), el]; exact h i hi
theorem ql_k_c (h : ql_k S mi) (e : S' 18 = S 18) (el : mi' 105 = mi 105) : ql_k S' mi' := by
  unfold ql_k at *; rw [e, el]; exact h
theorem ql_c_c (h : ql_c S mi) (e : S' 19 = S 19) (el : mi' 106 = mi 106) : ql_c S' mi' := by
  unfold ql_c at *; rw [e, el]; exact h
theorem ql_o_c (h : ql_o S mi) (e1 : S' 1 = S 1) (e9 : S' 9 = S 9) (e10 : S' 10 = S 10) (e15 : S' 15 = S 15) (e22 : S' 22 = S 22) (el : mi' 107 = mi 107) : ql_o S' mi' := by
  unfold ql_o zv_ns zv_jn zv_pu zv_sk at *; rw [e1, e9, e10, e15, e22, el]; exact h
theorem ql_e_c (h : ql_e S mi) (e9 : S' 9 = S 9) (e : ∀ r, (r = 15 ∨ r = 16 ∨ (23 ≤ r ∧ r ≤ 27)) → S' r = S r) (el : mi' 108 = mi 108) : ql_e S' mi' := by
  unfold ql_e zv_ns zv_sk at *
  rw [e9, e 15 (by decide), e 16 (by decide), e 23 (by decide), e 24 (by decide), e 25 (by decide), e 26 (by decide), e 27 (by decide), el]; exact h
theorem ql_dw_c (e : S' 29 = S 29) : ∀ k q, ql_dw S' k q = ql_dw S k q
  | 0, _ => rfl
  | k + 1, q => by
    show (zn (S' 29 q) + 1) + 10 * ql_dw S' k (q + 1) = (zn (S 29 q) + 1) + 10 * ql_dw S k (q + 1)
    rw [e, ql_dw_c e k (q + 1)]
theorem ql_g_c (h : ql_g S mi) (e : ∀ r, (r = 0 ∨ r = 5 ∨ r = 9 ∨ r = 17 ∨ r = 20 ∨ r = 21 ∨ r = 28 ∨ r = 29) → S' r = S r) (el : mi' 109 = mi 109) : ql_g S' mi' := by
  unfold ql_g ql_iw zv_nf at *
  rw [e 0 (by decide), e 5 (by decide), e 9 (by decide), e 17 (by decide), e 20 (by decide), e 21 (by decide), e 28 (by decide), ql_dw_c (e 29 (by decide)), el]; exact h
/-- writing where the law keeps nothing -/
def ql_gar (l k : Nat) : Prop := (l = 102 ∧ k = 20) ∨ (l = 104 ∧ k = 3) ∨ (l = 105 ∧ k = 54) ∨ (l = 106 ∧ k = 18) ∨ (l = 108 ∧ k = 57) ∨ (l = 101 ∧ k = 6)
theorem ql_N_g (h : ql_N S sh mi) (hn : zv_ns S ≤ 3) (hs : ∀ i, i < zv_ns S → zv_sk S i ≤ 6) {l k : Nat} {x : Int32} (hg : ql_gar l k) : ql_N S sh (zm_u2 mi l k x) := by
  obtain ⟨h0, h1, h2, h3, h4, h5, h6, h7, h8, h9, h10⟩ := h
  unfold ql_gar at hg
  have u : ∀ a b, ¬ (a = l ∧ b = k) → zm_u2 mi l k x a b = mi a b := fun a b q => if_neg q
  refine ⟨h0, ?_, ?_, ?_, ?_, ?_, ?_, ?_, ?_, ?_, ?_⟩
  · intro p hp; rw [u _ _ (by omega)]; exact h1 p hp
  · intro p j hp hj; rw [u _ _ (by omega)]; exact h2 p j hp hj
  · intro p j hp hj; rw [u _ _ (by omega)]; exact h3 p j hp hj
  · exact ⟨fun w hw => by rw [u _ _ (by omega)]; exact h4.1 w hw, fun w q hw hq => by rw [u _ _ (by omega)]; exact h4.2 w q hw hq⟩
  · intro i hi; rw [u _ _ (by omega)]; exact h5 i hi
  · intro i j f hi hj hf; rw [u _ _ (by omega)]; exact h6 i j f hi hj hf
  · intro i f hi hf; rw [u _ _ (by omega)]; exact h7 i f hi hf
  · intro i j f hi hj hf; rw [u _ _ (by omega)]; exact h8 i j f hi hj hf
  · refine ⟨fun i f hi hf => ?_, fun i hi => by rw [u _ _ (by omega)]; exact h9.2 i hi⟩
    have h6 := hs i hi
    rw [u _ _ (by omega), u _ _ (by omega), u _ _ (by omega)]; exact h9.1 i f hi hf
  · unfold ql_g at *
    rw [u _ _ (by omega), u _ _ (by omega), u _ _ (by omega), u _ _ (by omega), u _ _ (by omega), u _ _ (by omega), u _ _ (by omega)]; exact h10
theorem ql_I_g (h : ql_I n S sh mi) {l k : Nat} {x : Int32} (hg : ql_gar l k) : ql_I n S sh (zm_u2 mi l k x) :=
  ⟨h.1, h.2.1, h.2.2.1, ql_N_g h.2.2.2 (ql_num h).2.2.1 (fun i hi => by obtain ⟨q1, q2, q3, q4, q5, q6, q7, q8, q9, q10, q11, q12⟩ := ql_shot h hi; omega) hg⟩
/-- mouths -/
theorem ql_N_m (h : ql_N S sh mi) {p s : Nat} {x : Int32} (hp : p < 2) (hs : s < 10) : ql_N (zm_u2 S 4 (10 * p + s) x) sh (zm_u2 mi 102 (10 * p + s) x) := by
  obtain ⟨h0, h1, h2, h3, h4, h5, h6, h7, h8, h9, h10⟩ := h
  have E : ∀ r, r ≠ 4 → zm_u2 S 4 (10 * p + s) x r = S r := fun r hr => zm_u2r hr
  have L : ∀ l, l ≠ 102 → zm_u2 mi 102 (10 * p + s) x l = mi l := fun l hl => zm_u2r hl
  refine ⟨h0, ql_p_c h1 (E 0 (by decide)) (E 1 (by decide)) (L 100 (by decide)), ql_j_c h2 (E 2 (by decide)) (E 3 (by decide)) (L 101 (by decide)), fun a b ha hb => ?_, ql_v_c h4 (E 6 (by decide)) (E 7 (by decide)) (E 8 (by decide)) (L 103 (by decide)), ql_h_c h5 (fun r h1 h2 => E r (by omega)) (L 104 (by decide)), ql_k_c h6 (E 18 (by decide)) (L 105 (by decide)), ql_c_c h7 (E 19 (by decide)) (L 106 (by decide)), ql_o_c h8 (E 1 (by decide)) (E 9 (by decide)) (E 10 (by decide)) (E 15 (by decide)) (E 22 (by decide)) (L 107 (by decide)), ql_e_c h9 (E 9 (by decide)) (fun r hr => E r (by omega)) (L 108 (by decide)), ql_g_c h10 (fun r hr => E r (by omega)) (L 109 (by decide))⟩
  by_cases e : 10 * a + b = 10 * p + s
  · rw [e, zm_u2s, zm_u2s]
  · rw [zm_u2k e, zm_u2k e]; exact h3 a b ha hb
/-- a row that the law's arrays don't tell at this place: the frame that is being struck -/
theorem ql_N_f (h : ql_N S sh mi) {i : Nat} {r c : Nat} {x : Int32} (hr : (23 ≤ r ∧ r ≤ 27 ∧ c = 48 * i + zv_sk S i) ∨ (r = 22 ∧ ∃ j, j < 6 ∧ c = 48 * (6 * i + j) + zv_sk S i)) (h48 : ∀ a, a < zv_ns S → zv_sk S a ≤ 48) (hj6 : ∀ a, a < zv_ns S → zv_jn S (zv_pu S a) ≤ 6) (hi : zv_sk S i < 48) : ql_N (zm_u2 S r c x) sh mi := by
  obtain ⟨h0, h1, h2, h3, h4, h5, h6, h7, h8, h9, h10⟩ := h
  have E : ∀ q, q ≠ r → zm_u2 S r c x q = S q := fun q hq => zm_u2r hq
  have hr2 : 22 ≤ r ∧ r ≤ 27 := by rcases hr with hr | hr <;> omega
  refine ⟨h0, ql_p_c h1 (E 0 (by omega)) (E 1 (by omega)) rfl, ql_j_c h2 (E 2 (by omega)) (E 3 (by omega)) rfl, ql_m_c h3 (E 4 (by omega)) rfl, ql_v_c h4 (E 6 (by omega)) (E 7 (by omega)) (E 8 (by omega)) rfl, ql_h_c h5 (fun r h1 h2 => E r (by omega)) rfl, ql_k_c h6 (E 18 (by omega)) rfl, ql_c_c h7 (E 19 (by omega)) rfl, ?_, ?_, ql_g_c h10 (fun r hr => E r (by omega)) rfl⟩
  · unfold ql_o zv_ns zv_jn zv_pu zv_sk
    rw [E 1 (by omega), E 9 (by omega), E 10 (by omega), E 15 (by omega)]
    intro a b f ha hb hf
    have hb6 := hj6 a ha
    have hb2 : b < zv_jn S (zv_pu S a) := hb
    have hf2 : f < zv_sk S a := hf
    have h4a := h48 a ha
    rw [h8 a b f ha hb hf]
    refine (if_neg (fun q => ?_)).symm
    rcases hr with hr | ⟨h22, j, hj, hc⟩
    · omega
    · have h9 := q.2
      rw [hc] at h9
      have : a = i := by omega
      rw [this] at hf2
      omega
  · unfold ql_e zv_ns zv_sk
    rw [E 9 (by omega), E 15 (by omega), E 16 (by omega)]
    refine ⟨fun a f ha hf => ?_, h9.2⟩
    have hf2 : f < zv_sk S a := hf
    have h4a := h48 a ha
    have u : ∀ q, 23 ≤ q → zm_u2 S r c x q (48 * a + f) = S q (48 * a + f) := fun q hq => if_neg (fun z => by
      rcases hr with ⟨h23, h27, hc⟩ | ⟨h22, -⟩
      · have h9 := z.2
        rw [hc] at h9
        have : a = i := by omega
        rw [this] at hf2
        omega
      · omega)
    rw [u 23 (by decide), u 24 (by decide), u 25 (by decide), u 26 (by decide), u 27 (by decide)]
    exact h9.1 a f ha hf
/-- what is written of the frame that is being struck is not seen yet -/
theorem ql_N_fm (h : ql_N S sh mi) {i l k : Nat} {x : Int32} (hn : zv_ns S ≤ 3) (hi : i < 3) (hs : ∀ a, a < zv_ns S → zv_sk S a ≤ 6) (hsi : zv_sk S i < 6) (hj3 : ∀ a, a < zv_ns S → zv_jn S (zv_pu S a) ≤ 3) (hk : (l = 107 ∧ ∃ j, j < 3 ∧ k = 18 * i + 6 * j + zv_sk S i) ∨ (l = 108 ∧ (k = 6 * i + zv_sk S i ∨ k = 18 + (6 * i + zv_sk S i) ∨ k = 36 + (6 * i + zv_sk S i)))) : ql_N S sh (zm_u2 mi l k x) := by
  obtain ⟨h0, h1, h2, h3, h4, h5, h6, h7, h8, h9, h10⟩ := h
  have L : ∀ q, q ≠ l → zm_u2 mi l k x q = mi q := fun q hq => zm_u2r hq
  have hl : l = 107 ∨ l = 108 := by rcases hk with hk | hk <;> omega
  refine ⟨h0, ql_p_c h1 rfl rfl (L 100 (by omega)), ql_j_c h2 rfl rfl (L 101 (by omega)), ql_m_c h3 rfl (L 102 (by omega)), ql_v_c h4 rfl rfl rfl (L 103 (by omega)), ql_h_c h5 (fun r h1 h2 => rfl) (L 104 (by omega)), ql_k_c h6 rfl (L 105 (by omega)), ql_c_c h7 rfl (L 106 (by omega)), ?_, ?_, ql_g_c h10 (fun r hr => rfl) (L 109 (by omega))⟩
  · intro a b f ha hb hf
    have hb3 := hj3 a ha
    have h6a := hs a ha
    refine (if_neg (fun q => ?_)).trans (h8 a b f ha hb hf)
    rcases hk with ⟨h17, j, hj, hc⟩ | ⟨h18, hc⟩
    · have h9 := q.2
      rw [hc] at h9
      have : a = i := by omega
      rw [this] at hf
      omega
    · omega
  · refine ⟨fun a f ha hf => ?_, fun a ha => (if_neg (fun q => ?_)).trans (h9.2 a ha)⟩
    · have h6a := hs a ha
      have key : ∀ z, (z = 6 * a + f ∨ z = 18 + (6 * a + f) ∨ z = 36 + (6 * a + f)) → zm_u2 mi l k x 108 z = mi 108 z := fun z hz => if_neg (fun q => by
        rcases hk with ⟨h17, j, hj, hc⟩ | ⟨h18, hc⟩
        · omega
        · have : a = i := by omega
          rw [this] at hf hz
          omega)
      rw [key _ (Or.inl rfl), key _ (Or.inr (Or.inl rfl)), key _ (Or.inr (Or.inr rfl))]
      exact h9.1 a f ha hf
    · rcases hk with ⟨h17, -⟩ | ⟨h18, hc⟩ <;> omega
/-- a joint is turned -/
theorem ql_jw {a b d w : Int32} (ha : zv_in a 0 100000) (hb : zv_in b 0 359) (hd : zv_in d 0 359) (hw : zv_in w 0 180) : (a * nI 360 + b) + (nI 360 * w + d - b) = (a + w) * nI 360 + d := by
  have e1 := zs_jt ha hb
  unfold zv_in at *
  have e2 : (nI 360 * w).toInt = 360 * w.toInt := by rw [zs_Nmul (n := 360) (by decide) (by omega) (by omega)]; rfl
  have e3 : (nI 360 * w + d).toInt = 360 * w.toInt + d.toInt := by rw [zs_small (by omega) (by omega), e2]
  have e4 : (nI 360 * w + d - b).toInt = 360 * w.toInt + d.toInt - b.toInt := by rw [zs_smallS (by omega) (by omega), e3]
  have e5 : (a + w).toInt = a.toInt + w.toInt := zs_small (by omega) (by omega)
  have e6 : ((a + w) * nI 360).toInt = (a.toInt + w.toInt) * 360 := by rw [zs_mulN (n := 360) (by decide) (by omega) (by omega), e5]; rfl
  rw [zs_eq, zs_small (a := a * nI 360 + b) (b := nI 360 * w + d - b) (by omega) (by omega), zs_small (a := (a + w) * nI 360) (b := d) (by omega) (by omega), e1, e4, e6]
  omega
theorem ql_N_j (h : ql_N S sh mi) {p j : Nat} {a b : Int32} (hp : p < 2) (hj : j < 3) : ql_N (zm_u2 (zm_u2 S 3 (6 * p + j) a) 2 (6 * p + j) b) sh (zm_u2 mi 101 (3 * p + j) (a * nI 360 + b)) := by
  obtain ⟨h0, h1, h2, h3, h4, h5, h6, h7, h8, h9, h10⟩ := h
  have E : ∀ r, r ≠ 2 → r ≠ 3 → zm_u2 (zm_u2 S 3 (6 * p + j) a) 2 (6 * p + j) b r = S r := fun r h2 h3 => (zm_u2r h2).trans (zm_u2r h3)
  have L : ∀ l, l ≠ 101 → zm_u2 mi 101 (3 * p + j) (a * nI 360 + b) l = mi l := fun l hl => zm_u2r hl
  refine ⟨h0, ql_p_c h1 (E 0 (by decide) (by decide)) (E 1 (by decide) (by decide)) (L 100 (by decide)), fun q k hq hk => ?_, ql_m_c h3 (E 4 (by decide) (by decide)) (L 102 (by decide)), ql_v_c h4 (E 6 (by decide) (by decide)) (E 7 (by decide) (by decide)) (E 8 (by decide) (by decide)) (L 103 (by decide)), ql_h_c h5 (fun r h1 h2 => E r (by omega) (by omega)) (L 104 (by decide)), ql_k_c h6 (E 18 (by decide) (by decide)) (L 105 (by decide)), ql_c_c h7 (E 19 (by decide) (by decide)) (L 106 (by decide)), ql_o_c h8 (E 1 (by decide) (by decide)) (E 9 (by decide) (by decide)) (E 10 (by decide) (by decide)) (E 15 (by decide) (by decide)) (E 22 (by decide) (by decide)) (L 107 (by decide)), ql_e_c h9 (E 9 (by decide) (by decide)) (fun r hr => E r (by omega) (by omega)) (L 108 (by decide)), ql_g_c h10 (fun r hr => E r (by omega) (by omega)) (L 109 (by decide))⟩
  by_cases e : 3 * q + k = 3 * p + j
  · have e1 : q = p := by omega
    have e2 : k = j := by omega
    have eA : zm_u2 (zm_u2 S 3 (6 * p + j) a) 2 (6 * p + j) b 3 (6 * p + j) = a := (zm_u2l (by decide)).trans zm_u2s
    have eB : zm_u2 (zm_u2 S 3 (6 * p + j) a) 2 (6 * p + j) b 2 (6 * p + j) = b := zm_u2s
    rw [e1, e2, eA, eB]; exact zm_u2s
  · have eA : zm_u2 (zm_u2 S 3 (6 * p + j) a) 2 (6 * p + j) b 3 (6 * q + k) = S 3 (6 * q + k) := (zm_u2l (by decide)).trans (zm_u2k (by omega))
    have eB : zm_u2 (zm_u2 S 3 (6 * p + j) a) 2 (6 * p + j) b 2 (6 * q + k) = S 2 (6 * q + k) := (zm_u2k (by omega)).trans (zm_u2l (by decide))
    rw [eA, eB]; exact (zm_u2k e).trans (h2 q k hq hk)
/-! bounds -/
theorem ql_B_mono {m : Nat} (h : ql_B n S) (hm : n ≤ m) : ql_B m S := by
  obtain ⟨b1, b2, b3, ⟨b4, b5⟩, b6, b7, b8⟩ := h
  unfold zv_in at b5
  refine ⟨b1, b2, b3, ⟨b4, ?_⟩, fun a => ?_, b7, b8⟩
  · unfold zv_in; omega
  · have h6 := b6 a
    unfold zv_in at *
    omega
theorem ql_I_mono {m : Nat} (h : ql_I n S sh mi) (hm : n ≤ m) (h64 : m ≤ 64) : ql_I m S sh mi := ⟨h64, h.2.1, ql_B_mono h.2.2.1 hm, h.2.2.2⟩
end ZL7
