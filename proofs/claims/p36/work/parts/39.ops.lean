/-! ===== the law's arrays behind each call ===== -/
section ZLA
variable {n : Nat} {S : zS} {sh : zm_Sh} {mi : zm_Mi} {mr : zm_Mr}
theorem ql_sk15 {i f a c : Nat} (hf : f < zv_sk S i) (h48 : zv_sk S i ≤ 48) (hc : c < zv_sk (zm_u2 S 15 i (nI f)) a) : c < zv_sk S a := by
  unfold zv_sk at hc
  by_cases e : a = i
  · rw [e, zm_u2s] at hc
    have z : zn (nI f) = f := nI_clamp (n := f) (by omega)
    rw [z] at hc
    rw [e]; omega
  · rw [zm_u2k e] at hc; exact hc
theorem ql_N_k (h : ql_N S sh mi) {i j f : Nat} {d : Int32} (hi : i < 3) (hj : j < 3) (hf : f < 6) : ql_N (zm_u2 S 18 (48 * (6 * i + j) + f) d) sh (zm_u2 mi 105 (18 * i + 6 * j + f) (d + nI 1)) := by
  obtain ⟨h0, h1, h2, h3, h4, h5, h6, h7, h8, h9, h10⟩ := h
  have E : ∀ r, ¬ (r = 18) → (zm_u2 S 18 (48 * (6 * i + j) + f) d) r = S r := fun r hr => zm_u2r (by omega)
  have L : ∀ l, ¬ (l = 105) → (zm_u2 mi 105 (18 * i + 6 * j + f) (d + nI 1)) l = mi l := fun l hl => zm_u2r (by omega)
  refine ⟨h0, ql_p_c h1 (E 0 (by decide)) (E 1 (by decide)) (L 100 (by decide)), ql_j_c h2 (E 2 (by decide)) (E 3 (by decide)) (L 101 (by decide)), ql_m_c h3 (E 4 (by decide)) (L 102 (by decide)), ql_v_c h4 (E 6 (by decide)) (E 7 (by decide)) (E 8 (by decide)) (L 103 (by decide)), ql_h_c h5 (fun r g1 g2 => E r (by omega)) (L 104 (by decide)), ?_, ql_c_c h7 (E 19 (by decide)) (L 106 (by decide)), ql_o_c h8 (E 1 (by decide)) (E 9 (by decide)) (E 10 (by decide)) (E 15 (by decide)) (E 22 (by decide)) (L 107 (by decide)), ql_e_c h9 (E 9 (by decide)) (fun r hr => E r (by omega)) (L 108 (by decide)), ql_g_c h10 (fun r hr => E r (by omega)) (L 109 (by decide))⟩
  intro a b c ha hb hc
  by_cases e : 18 * a + 6 * b + c = 18 * i + 6 * j + f
  · have e2 : 48 * (6 * a + b) + c = 48 * (6 * i + j) + f := by omega
    rw [e, e2, zm_u2s, zm_u2s]
  · rw [zm_u2k e, zm_u2k (by omega)]; exact h6 a b c ha hb hc
theorem ql_N_c (h : ql_N S sh mi) {i f : Nat} {x : Int32} (hi : i < 3) (hf : f < 6) {w : Int32} (hw : w = ql_cw x) : ql_N (zm_u2 S 19 (48 * i + f) x) sh (zm_u2 mi 106 (6 * i + f) w) := by
  obtain ⟨h0, h1, h2, h3, h4, h5, h6, h7, h8, h9, h10⟩ := h
  have E : ∀ r, ¬ (r = 19) → (zm_u2 S 19 (48 * i + f) x) r = S r := fun r hr => zm_u2r (by omega)
  have L : ∀ l, ¬ (l = 106) → (zm_u2 mi 106 (6 * i + f) w) l = mi l := fun l hl => zm_u2r (by omega)
  refine ⟨h0, ql_p_c h1 (E 0 (by decide)) (E 1 (by decide)) (L 100 (by decide)), ql_j_c h2 (E 2 (by decide)) (E 3 (by decide)) (L 101 (by decide)), ql_m_c h3 (E 4 (by decide)) (L 102 (by decide)), ql_v_c h4 (E 6 (by decide)) (E 7 (by decide)) (E 8 (by decide)) (L 103 (by decide)), ql_h_c h5 (fun r g1 g2 => E r (by omega)) (L 104 (by decide)), ql_k_c h6 (E 18 (by decide)) (L 105 (by decide)), ?_, ql_o_c h8 (E 1 (by decide)) (E 9 (by decide)) (E 10 (by decide)) (E 15 (by decide)) (E 22 (by decide)) (L 107 (by decide)), ql_e_c h9 (E 9 (by decide)) (fun r hr => E r (by omega)) (L 108 (by decide)), ql_g_c h10 (fun r hr => E r (by omega)) (L 109 (by decide))⟩
  intro a c ha hc
  by_cases e : 6 * a + c = 6 * i + f
  · have e2 : 48 * a + c = 48 * i + f := by omega
    rw [e, e2, zm_u2s, zm_u2s]; exact hw
  · rw [zm_u2k e, zm_u2k (by omega)]; exact h7 a c ha hc
theorem ql_N_t (h : ql_N S sh mi) {i : Nat} {x : Int32} (hi : i < 3) (hs : ∀ a, a < zv_ns S → zv_sk S a ≤ 6) (hn : zv_ns S ≤ 3) : ql_N (zm_u2 S 16 i x) sh (zm_u2 mi 108 (54 + i) x) := by
  obtain ⟨h0, h1, h2, h3, h4, h5, h6, h7, h8, h9, h10⟩ := h
  have E : ∀ r, ¬ (r = 16) → (zm_u2 S 16 i x) r = S r := fun r hr => zm_u2r (by omega)
  have L : ∀ l, ¬ (l = 108) → (zm_u2 mi 108 (54 + i) x) l = mi l := fun l hl => zm_u2r (by omega)
  refine ⟨h0, ql_p_c h1 (E 0 (by decide)) (E 1 (by decide)) (L 100 (by decide)), ql_j_c h2 (E 2 (by decide)) (E 3 (by decide)) (L 101 (by decide)), ql_m_c h3 (E 4 (by decide)) (L 102 (by decide)), ql_v_c h4 (E 6 (by decide)) (E 7 (by decide)) (E 8 (by decide)) (L 103 (by decide)), ql_h_c h5 (fun r g1 g2 => E r (by omega)) (L 104 (by decide)), ql_k_c h6 (E 18 (by decide)) (L 105 (by decide)), ql_c_c h7 (E 19 (by decide)) (L 106 (by decide)), ql_o_c h8 (E 1 (by decide)) (E 9 (by decide)) (E 10 (by decide)) (E 15 (by decide)) (E 22 (by decide)) (L 107 (by decide)), ?_, ql_g_c h10 (fun r hr => E r (by omega)) (L 109 (by decide))⟩
  unfold ql_e zv_ns zv_sk
  rw [E 9 (by decide), E 15 (by decide), E 23 (by decide), E 24 (by decide), E 25 (by decide), E 26 (by decide), E 27 (by decide)]
  refine ⟨fun a f ha hf => ?_, fun a ha => ?_⟩
  · have hf2 : f < zv_sk S a := hf
    have hs2 := hs a ha
    have ha2 : a < zv_ns S := ha
    rw [zm_u2k (by omega), zm_u2k (by omega), zm_u2k (by omega)]; exact h9.1 a f ha hf
  · by_cases e : a = i
    · rw [e, zm_u2s, zm_u2s]
    · rw [zm_u2k (by omega), zm_u2k e]; exact h9.2 a ha
theorem ql_N_3 (h : ql_N S sh mi) {p j : Nat} {a w : Int32} (hp : p < 2) (hj : j < 3) (hw : w = a * nI 360 + S 2 (6 * p + j)) : ql_N (zm_u2 S 3 (6 * p + j) a) sh (zm_u2 mi 101 (3 * p + j) w) := by
  obtain ⟨h0, h1, h2, h3, h4, h5, h6, h7, h8, h9, h10⟩ := h
  have E : ∀ r, ¬ (r = 3) → (zm_u2 S 3 (6 * p + j) a) r = S r := fun r hr => zm_u2r (by omega)
  have L : ∀ l, ¬ (l = 101) → (zm_u2 mi 101 (3 * p + j) w) l = mi l := fun l hl => zm_u2r (by omega)
  refine ⟨h0, ql_p_c h1 (E 0 (by decide)) (E 1 (by decide)) (L 100 (by decide)), ?_, ql_m_c h3 (E 4 (by decide)) (L 102 (by decide)), ql_v_c h4 (E 6 (by decide)) (E 7 (by decide)) (E 8 (by decide)) (L 103 (by decide)), ql_h_c h5 (fun r g1 g2 => E r (by omega)) (L 104 (by decide)), ql_k_c h6 (E 18 (by decide)) (L 105 (by decide)), ql_c_c h7 (E 19 (by decide)) (L 106 (by decide)), ql_o_c h8 (E 1 (by decide)) (E 9 (by decide)) (E 10 (by decide)) (E 15 (by decide)) (E 22 (by decide)) (L 107 (by decide)), ql_e_c h9 (E 9 (by decide)) (fun r hr => E r (by omega)) (L 108 (by decide)), ql_g_c h10 (fun r hr => E r (by omega)) (L 109 (by decide))⟩
  intro q k hq hk
  rw [E 2 (by decide)]
  by_cases e : 3 * q + k = 3 * p + j
  · have e1 : q = p := by omega
    have e2 : k = j := by omega
    rw [e1, e2, zm_u2s, zm_u2s]; exact hw
  · rw [zm_u2k e, zm_u2k (by omega)]; exact h2 q k hq hk
theorem ql_N_dub (h : ql_N S sh mi) {i : Nat} {x : Int32} {w : Nat} (hw : w = ql_hw (zm_u2 S 13 i x) i) : ql_N (zm_u2 S 13 i x) sh (zm_u2 mi 104 i (nI w)) := by
  obtain ⟨h0, h1, h2, h3, h4, h5, h6, h7, h8, h9, h10⟩ := h
  have E : ∀ r, ¬ (r = 13) → (zm_u2 S 13 i x) r = S r := fun r hr => zm_u2r (by omega)
  have L : ∀ l, ¬ (l = 104) → (zm_u2 mi 104 i (nI w)) l = mi l := fun l hl => zm_u2r (by omega)
  refine ⟨h0, ql_p_c h1 (E 0 (by decide)) (E 1 (by decide)) (L 100 (by decide)), ql_j_c h2 (E 2 (by decide)) (E 3 (by decide)) (L 101 (by decide)), ql_m_c h3 (E 4 (by decide)) (L 102 (by decide)), ql_v_c h4 (E 6 (by decide)) (E 7 (by decide)) (E 8 (by decide)) (L 103 (by decide)), ?_, ql_k_c h6 (E 18 (by decide)) (L 105 (by decide)), ql_c_c h7 (E 19 (by decide)) (L 106 (by decide)), ql_o_c h8 (E 1 (by decide)) (E 9 (by decide)) (E 10 (by decide)) (E 15 (by decide)) (E 22 (by decide)) (L 107 (by decide)), ql_e_c h9 (E 9 (by decide)) (fun r hr => E r (by omega)) (L 108 (by decide)), ql_g_c h10 (fun r hr => E r (by omega)) (L 109 (by decide))⟩
  intro a ha
  unfold zv_ns at ha
  rw [E 9 (by decide)] at ha
  by_cases e : a = i
  · rw [e, zm_u2s, hw]
  · have e9 : ql_hw (zm_u2 S 13 i x) a = ql_hw S a := by
      unfold ql_hw zv_pu zv_fr zv_st zv_sk
      rw [E 10 (by decide), E 11 (by decide), E 12 (by decide), E 14 (by decide), E 15 (by decide), zm_u2k e]
    rw [zm_u2k e, e9]; exact h5 a ha
theorem ql_N_assign (h : ql_N S sh mi) {i : Nat} {x : Int32} {w : Nat} (hw : w = ql_hw (zm_u2 S 14 i x) i) : ql_N (zm_u2 S 14 i x) sh (zm_u2 mi 104 i (nI w)) := by
  obtain ⟨h0, h1, h2, h3, h4, h5, h6, h7, h8, h9, h10⟩ := h
  have E : ∀ r, ¬ (r = 14) → (zm_u2 S 14 i x) r = S r := fun r hr => zm_u2r (by omega)
  have L : ∀ l, ¬ (l = 104) → (zm_u2 mi 104 i (nI w)) l = mi l := fun l hl => zm_u2r (by omega)
  refine ⟨h0, ql_p_c h1 (E 0 (by decide)) (E 1 (by decide)) (L 100 (by decide)), ql_j_c h2 (E 2 (by decide)) (E 3 (by decide)) (L 101 (by decide)), ql_m_c h3 (E 4 (by decide)) (L 102 (by decide)), ql_v_c h4 (E 6 (by decide)) (E 7 (by decide)) (E 8 (by decide)) (L 103 (by decide)), ?_, ql_k_c h6 (E 18 (by decide)) (L 105 (by decide)), ql_c_c h7 (E 19 (by decide)) (L 106 (by decide)), ql_o_c h8 (E 1 (by decide)) (E 9 (by decide)) (E 10 (by decide)) (E 15 (by decide)) (E 22 (by decide)) (L 107 (by decide)), ql_e_c h9 (E 9 (by decide)) (fun r hr => E r (by omega)) (L 108 (by decide)), ql_g_c h10 (fun r hr => E r (by omega)) (L 109 (by decide))⟩
  intro a ha
  unfold zv_ns at ha
  rw [E 9 (by decide)] at ha
  by_cases e : a = i
  · rw [e, zm_u2s, hw]
  · have e9 : ql_hw (zm_u2 S 14 i x) a = ql_hw S a := by
      unfold ql_hw zv_pu zv_fr zv_st zv_sk
      rw [E 10 (by decide), E 11 (by decide), E 12 (by decide), E 13 (by decide), E 15 (by decide), zm_u2k e]
    rw [zm_u2k e, e9]; exact h5 a ha
theorem ql_N_anew (h : ql_N S sh mi) {i f : Nat} {w : Nat} (hf : f < zv_sk S i) (h48 : zv_sk S i ≤ 48) (hw : w = ql_hw (zm_u2 S 15 i (nI f)) i) : ql_N (zm_u2 S 15 i (nI f)) sh (zm_u2 mi 104 i (nI w)) := by
  obtain ⟨h0, h1, h2, h3, h4, h5, h6, h7, h8, h9, h10⟩ := h
  have E : ∀ r, ¬ (r = 15) → (zm_u2 S 15 i (nI f)) r = S r := fun r hr => zm_u2r (by omega)
  have L : ∀ l, ¬ (l = 104) → (zm_u2 mi 104 i (nI w)) l = mi l := fun l hl => zm_u2r (by omega)
  refine ⟨h0, ql_p_c h1 (E 0 (by decide)) (E 1 (by decide)) (L 100 (by decide)), ql_j_c h2 (E 2 (by decide)) (E 3 (by decide)) (L 101 (by decide)), ql_m_c h3 (E 4 (by decide)) (L 102 (by decide)), ql_v_c h4 (E 6 (by decide)) (E 7 (by decide)) (E 8 (by decide)) (L 103 (by decide)), ?_, ql_k_c h6 (E 18 (by decide)) (L 105 (by decide)), ql_c_c h7 (E 19 (by decide)) (L 106 (by decide)), ?_, ?_, ql_g_c h10 (fun r hr => E r (by omega)) (L 109 (by decide))⟩
  · intro a ha
    unfold zv_ns at ha
    rw [E 9 (by decide)] at ha
    by_cases e : a = i
    · rw [e, zm_u2s, hw]
    · have e9 : ql_hw (zm_u2 S 15 i (nI f)) a = ql_hw S a := by
        unfold ql_hw zv_pu zv_fr zv_st zv_sk
        rw [E 10 (by decide), E 11 (by decide), E 12 (by decide), E 13 (by decide), E 14 (by decide), zm_u2k e]
      rw [zm_u2k e, e9]; exact h5 a ha
  · intro a b c ha hb hc
    unfold zv_ns at ha
    unfold zv_jn zv_pu at hb
    rw [E 9 (by decide)] at ha
    rw [E 1 (by decide), E 10 (by decide)] at hb
    rw [L 107 (by decide), E 22 (by decide)]
    exact h8 a b c ha hb (ql_sk15 hf h48 hc)
  · unfold ql_e zv_ns
    rw [E 9 (by decide), E 16 (by decide), E 23 (by decide), E 24 (by decide), E 25 (by decide), E 26 (by decide), E 27 (by decide), L 108 (by decide)]
    exact ⟨fun a c ha hc => h9.1 a c ha (ql_sk15 hf h48 hc), h9.2⟩
theorem ql_N_play (h : ql_N S sh mi) {x : Int32} : ql_N (zm_u2 S 20 0 x) sh (zm_u2 mi 109 3 x) := by
  obtain ⟨h0, h1, h2, h3, h4, h5, h6, h7, h8, h9, h10⟩ := h
  have E : ∀ r, ¬ (r = 20) → (zm_u2 S 20 0 x) r = S r := fun r hr => zm_u2r (by omega)
  have L : ∀ l, ¬ (l = 109) → (zm_u2 mi 109 3 x) l = mi l := fun l hl => zm_u2r (by omega)
  refine ⟨h0, ql_p_c h1 (E 0 (by decide)) (E 1 (by decide)) (L 100 (by decide)), ql_j_c h2 (E 2 (by decide)) (E 3 (by decide)) (L 101 (by decide)), ql_m_c h3 (E 4 (by decide)) (L 102 (by decide)), ql_v_c h4 (E 6 (by decide)) (E 7 (by decide)) (E 8 (by decide)) (L 103 (by decide)), ql_h_c h5 (fun r g1 g2 => E r (by omega)) (L 104 (by decide)), ql_k_c h6 (E 18 (by decide)) (L 105 (by decide)), ql_c_c h7 (E 19 (by decide)) (L 106 (by decide)), ql_o_c h8 (E 1 (by decide)) (E 9 (by decide)) (E 10 (by decide)) (E 15 (by decide)) (E 22 (by decide)) (L 107 (by decide)), ql_e_c h9 (E 9 (by decide)) (fun r hr => E r (by omega)) (L 108 (by decide)), ?_⟩
  unfold ql_g at h10 ⊢
  obtain ⟨k0, k1, k2, k3, k4, k5, k6⟩ := h10
  refine ⟨(zm_u2k (by decide)).trans (k0.trans (congrFun (E 0 (by decide)) 0).symm), (zm_u2k (by decide)).trans (k1.trans (congrFun (E 5 (by decide)) 0).symm), (zm_u2k (by decide)).trans (k2.trans (congrFun (E 9 (by decide)) 0).symm), ?_, (zm_u2k (by decide)).trans (k4.trans (congrFun (E 21 (by decide)) 0).symm), (zm_u2k (by decide)).trans (k5.trans (congrArg nI (show ql_iw S = _ by unfold ql_iw; rw [E 17 (by decide)]))), (zm_u2k (by decide)).trans (k6.trans (congrArg nI (show ql_dw S (zv_nf S) 0 = _ by unfold zv_nf; rw [E 28 (by decide), ql_dw_c (E 29 (by decide))])))⟩
  rw [zm_u2s, zm_u2s]
theorem ql_N_lamp (h : ql_N S sh mi)  : ql_N (zm_u2 S 21 0 0) sh (zm_u2 mi 109 4 0) := by
  obtain ⟨h0, h1, h2, h3, h4, h5, h6, h7, h8, h9, h10⟩ := h
  have E : ∀ r, ¬ (r = 21) → (zm_u2 S 21 0 0) r = S r := fun r hr => zm_u2r (by omega)
  have L : ∀ l, ¬ (l = 109) → (zm_u2 mi 109 4 0) l = mi l := fun l hl => zm_u2r (by omega)
  refine ⟨h0, ql_p_c h1 (E 0 (by decide)) (E 1 (by decide)) (L 100 (by decide)), ql_j_c h2 (E 2 (by decide)) (E 3 (by decide)) (L 101 (by decide)), ql_m_c h3 (E 4 (by decide)) (L 102 (by decide)), ql_v_c h4 (E 6 (by decide)) (E 7 (by decide)) (E 8 (by decide)) (L 103 (by decide)), ql_h_c h5 (fun r g1 g2 => E r (by omega)) (L 104 (by decide)), ql_k_c h6 (E 18 (by decide)) (L 105 (by decide)), ql_c_c h7 (E 19 (by decide)) (L 106 (by decide)), ql_o_c h8 (E 1 (by decide)) (E 9 (by decide)) (E 10 (by decide)) (E 15 (by decide)) (E 22 (by decide)) (L 107 (by decide)), ql_e_c h9 (E 9 (by decide)) (fun r hr => E r (by omega)) (L 108 (by decide)), ?_⟩
  unfold ql_g at h10 ⊢
  obtain ⟨k0, k1, k2, k3, k4, k5, k6⟩ := h10
  refine ⟨(zm_u2k (by decide)).trans (k0.trans (congrFun (E 0 (by decide)) 0).symm), (zm_u2k (by decide)).trans (k1.trans (congrFun (E 5 (by decide)) 0).symm), (zm_u2k (by decide)).trans (k2.trans (congrFun (E 9 (by decide)) 0).symm), (zm_u2k (by decide)).trans (k3.trans (congrFun (E 20 (by decide)) 0).symm), ?_, (zm_u2k (by decide)).trans (k5.trans (congrArg nI (show ql_iw S = _ by unfold ql_iw; rw [E 17 (by decide)]))), (zm_u2k (by decide)).trans (k6.trans (congrArg nI (show ql_dw S (zv_nf S) 0 = _ by unfold zv_nf; rw [E 28 (by decide), ql_dw_c (E 29 (by decide))])))⟩
  rw [zm_u2s, zm_u2s]
theorem ql_N_ill (h : ql_N S sh mi) {a : Nat} {x : Int32} {w : Nat} (hw : w = ql_iw (zm_u2 S 17 a x)) : ql_N (zm_u2 S 17 a x) sh (zm_u2 mi 109 5 (nI w)) := by
  obtain ⟨h0, h1, h2, h3, h4, h5, h6, h7, h8, h9, h10⟩ := h
  have E : ∀ r, ¬ (r = 17) → (zm_u2 S 17 a x) r = S r := fun r hr => zm_u2r (by omega)
  have L : ∀ l, ¬ (l = 109) → (zm_u2 mi 109 5 (nI w)) l = mi l := fun l hl => zm_u2r (by omega)
  refine ⟨h0, ql_p_c h1 (E 0 (by decide)) (E 1 (by decide)) (L 100 (by decide)), ql_j_c h2 (E 2 (by decide)) (E 3 (by decide)) (L 101 (by decide)), ql_m_c h3 (E 4 (by decide)) (L 102 (by decide)), ql_v_c h4 (E 6 (by decide)) (E 7 (by decide)) (E 8 (by decide)) (L 103 (by decide)), ql_h_c h5 (fun r g1 g2 => E r (by omega)) (L 104 (by decide)), ql_k_c h6 (E 18 (by decide)) (L 105 (by decide)), ql_c_c h7 (E 19 (by decide)) (L 106 (by decide)), ql_o_c h8 (E 1 (by decide)) (E 9 (by decide)) (E 10 (by decide)) (E 15 (by decide)) (E 22 (by decide)) (L 107 (by decide)), ql_e_c h9 (E 9 (by decide)) (fun r hr => E r (by omega)) (L 108 (by decide)), ?_⟩
  unfold ql_g at h10 ⊢
  obtain ⟨k0, k1, k2, k3, k4, k5, k6⟩ := h10
  refine ⟨(zm_u2k (by decide)).trans (k0.trans (congrFun (E 0 (by decide)) 0).symm), (zm_u2k (by decide)).trans (k1.trans (congrFun (E 5 (by decide)) 0).symm), (zm_u2k (by decide)).trans (k2.trans (congrFun (E 9 (by decide)) 0).symm), (zm_u2k (by decide)).trans (k3.trans (congrFun (E 20 (by decide)) 0).symm), (zm_u2k (by decide)).trans (k4.trans (congrFun (E 21 (by decide)) 0).symm), ?_, (zm_u2k (by decide)).trans (k6.trans (congrArg nI (show ql_dw S (zv_nf S) 0 = _ by unfold zv_nf; rw [E 28 (by decide), ql_dw_c (E 29 (by decide))])))⟩
  rw [zm_u2s, hw]
theorem ql_N_voice (h : ql_N S sh mi) {x : Int32} : ql_N (zm_u2 S 5 0 x) sh (zm_u2 mi 109 1 x) := by
  obtain ⟨h0, h1, h2, h3, h4, h5, h6, h7, h8, h9, h10⟩ := h
  have E : ∀ r, ¬ (r = 5) → (zm_u2 S 5 0 x) r = S r := fun r hr => zm_u2r (by omega)
  have L : ∀ l, ¬ (l = 109) → (zm_u2 mi 109 1 x) l = mi l := fun l hl => zm_u2r (by omega)
  refine ⟨h0, ql_p_c h1 (E 0 (by decide)) (E 1 (by decide)) (L 100 (by decide)), ql_j_c h2 (E 2 (by decide)) (E 3 (by decide)) (L 101 (by decide)), ql_m_c h3 (E 4 (by decide)) (L 102 (by decide)), ql_v_c h4 (E 6 (by decide)) (E 7 (by decide)) (E 8 (by decide)) (L 103 (by decide)), ql_h_c h5 (fun r g1 g2 => E r (by omega)) (L 104 (by decide)), ql_k_c h6 (E 18 (by decide)) (L 105 (by decide)), ql_c_c h7 (E 19 (by decide)) (L 106 (by decide)), ql_o_c h8 (E 1 (by decide)) (E 9 (by decide)) (E 10 (by decide)) (E 15 (by decide)) (E 22 (by decide)) (L 107 (by decide)), ql_e_c h9 (E 9 (by decide)) (fun r hr => E r (by omega)) (L 108 (by decide)), ?_⟩
  unfold ql_g at h10 ⊢
  obtain ⟨k0, k1, k2, k3, k4, k5, k6⟩ := h10
  refine ⟨(zm_u2k (by decide)).trans (k0.trans (congrFun (E 0 (by decide)) 0).symm), ?_, (zm_u2k (by decide)).trans (k2.trans (congrFun (E 9 (by decide)) 0).symm), (zm_u2k (by decide)).trans (k3.trans (congrFun (E 20 (by decide)) 0).symm), (zm_u2k (by decide)).trans (k4.trans (congrFun (E 21 (by decide)) 0).symm), (zm_u2k (by decide)).trans (k5.trans (congrArg nI (show ql_iw S = _ by unfold ql_iw; rw [E 17 (by decide)]))), (zm_u2k (by decide)).trans (k6.trans (congrArg nI (show ql_dw S (zv_nf S) 0 = _ by unfold zv_nf; rw [E 28 (by decide), ql_dw_c (E 29 (by decide))])))⟩
  rw [zm_u2s, zm_u2s]
theorem ql_N_cut (h : ql_N S sh mi) {T : zS} {w : Nat} (eT : ∀ r, r ≠ 28 → r ≠ 29 → T r = S r) (hw : w = ql_dw T (zv_nf T) 0) : ql_N T sh (zm_u2 mi 109 6 (nI w)) := by
  obtain ⟨h0, h1, h2, h3, h4, h5, h6, h7, h8, h9, h10⟩ := h
  have E : ∀ r, ¬ (r = 28 ∨ r = 29) → T r = S r := fun r hr => eT r (by omega) (by omega)
  have L : ∀ l, ¬ (l = 109) → (zm_u2 mi 109 6 (nI w)) l = mi l := fun l hl => zm_u2r (by omega)
  refine ⟨h0, ql_p_c h1 (E 0 (by decide)) (E 1 (by decide)) (L 100 (by decide)), ql_j_c h2 (E 2 (by decide)) (E 3 (by decide)) (L 101 (by decide)), ql_m_c h3 (E 4 (by decide)) (L 102 (by decide)), ql_v_c h4 (E 6 (by decide)) (E 7 (by decide)) (E 8 (by decide)) (L 103 (by decide)), ql_h_c h5 (fun r g1 g2 => E r (by omega)) (L 104 (by decide)), ql_k_c h6 (E 18 (by decide)) (L 105 (by decide)), ql_c_c h7 (E 19 (by decide)) (L 106 (by decide)), ql_o_c h8 (E 1 (by decide)) (E 9 (by decide)) (E 10 (by decide)) (E 15 (by decide)) (E 22 (by decide)) (L 107 (by decide)), ql_e_c h9 (E 9 (by decide)) (fun r hr => E r (by omega)) (L 108 (by decide)), ?_⟩
  unfold ql_g at h10 ⊢
  obtain ⟨k0, k1, k2, k3, k4, k5, k6⟩ := h10
  refine ⟨(zm_u2k (by decide)).trans (k0.trans (congrFun (E 0 (by decide)) 0).symm), (zm_u2k (by decide)).trans (k1.trans (congrFun (E 5 (by decide)) 0).symm), (zm_u2k (by decide)).trans (k2.trans (congrFun (E 9 (by decide)) 0).symm), (zm_u2k (by decide)).trans (k3.trans (congrFun (E 20 (by decide)) 0).symm), (zm_u2k (by decide)).trans (k4.trans (congrFun (E 21 (by decide)) 0).symm), (zm_u2k (by decide)).trans (k5.trans (congrArg nI (show ql_iw S = _ by unfold ql_iw; rw [E 17 (by decide)]))), ?_⟩
  rw [zm_u2s, hw]
theorem ql_N_puppet (h : ql_N S sh mi) {x : Int32} (hn : zv_np S ≤ 1) (hpu : ∀ a, a < zv_ns S → zv_pu S a < zv_np S) : ql_N (zt_puppet S x) sh (zm_u2 (zm_u2 mi 100 (zv_np S) x) 109 0 (nI (zv_np S + 1))) := by
  obtain ⟨h0, h1, h2, h3, h4, h5, h6, h7, h8, h9, h10⟩ := h
  have E : ∀ r, ¬ (r = 0 ∨ r = 1) → zt_puppet S x r = S r := fun r hr => (zm_u2r (by omega)).trans (zm_u2r (by omega))
  have L : ∀ l, ¬ (l = 100 ∨ l = 109) → zm_u2 (zm_u2 mi 100 (zv_np S) x) 109 0 (nI (zv_np S + 1)) l = mi l := fun l hl => (zm_u2r (by omega)).trans (zm_u2r (by omega))
  have x1 : ∀ a, zt_puppet S x 1 a = if a = zv_np S then x else S 1 a := fun a => by
    unfold zt_puppet
    rw [zm_u2l (by decide)]
    by_cases e : a = zv_np S
    · rw [if_pos e, e, zm_u2s]
    · rw [if_neg e, zm_u2k e]
  have x0 : zt_puppet S x 0 0 = nI (zv_np S + 1) := zm_u2s
  have xn : zv_np (zt_puppet S x) = zv_np S + 1 := by
    unfold zv_np
    rw [x0]; exact nI_clamp (n := zv_np S + 1) (by omega)
  refine ⟨h0, ?_, ql_j_c h2 (E 2 (by decide)) (E 3 (by decide)) (L 101 (by decide)), ql_m_c h3 (E 4 (by decide)) (L 102 (by decide)), ql_v_c h4 (E 6 (by decide)) (E 7 (by decide)) (E 8 (by decide)) (L 103 (by decide)), ql_h_c h5 (fun r g1 g2 => E r (by omega)) (L 104 (by decide)), ql_k_c h6 (E 18 (by decide)) (L 105 (by decide)), ql_c_c h7 (E 19 (by decide)) (L 106 (by decide)), ?_, ql_e_c h9 (E 9 (by decide)) (fun r hr => E r (by omega)) (L 108 (by decide)), ?_⟩
  · intro p hp
    rw [xn] at hp
    rw [x1, zm_u2l (by decide)]
    by_cases e : p = zv_np S
    · rw [if_pos e, e, zm_u2s]
    · rw [if_neg e, zm_u2k e]; exact h1 p (by omega)
  · intro a b c ha hb hc
    unfold zv_ns at ha
    rw [E 9 (by decide)] at ha
    have hne := hpu a ha
    unfold zv_jn zv_pu at hb
    rw [E 10 (by decide), x1, if_neg (fun q => by have q2 : zv_pu S a = zv_np S := q; omega)] at hb
    unfold zv_sk at hc
    rw [E 15 (by decide)] at hc
    rw [L 107 (by decide), E 22 (by decide)]
    exact h8 a b c ha hb hc
  · unfold ql_g at h10 ⊢
    obtain ⟨k0, k1, k2, k3, k4, k5, k6⟩ := h10
    have M : ∀ c, c ≠ 0 → zm_u2 (zm_u2 mi 100 (zv_np S) x) 109 0 (nI (zv_np S + 1)) 109 c = mi 109 c := fun c hc => (zm_u2k hc).trans (zm_u2l (by decide))
    refine ⟨zm_u2s.trans x0.symm, (M 1 (by decide)).trans (k1.trans (congrFun (E 5 (by decide)) 0).symm), (M 2 (by decide)).trans (k2.trans (congrFun (E 9 (by decide)) 0).symm), (M 3 (by decide)).trans (k3.trans (congrFun (E 20 (by decide)) 0).symm), (M 4 (by decide)).trans (k4.trans (congrFun (E 21 (by decide)) 0).symm), (M 5 (by decide)).trans (k5.trans (congrArg nI (show ql_iw S = _ by unfold ql_iw; rw [E 17 (by decide)]))), (M 6 (by decide)).trans (k6.trans (congrArg nI (show ql_dw S (zv_nf S) 0 = _ by unfold zv_nf; rw [E 28 (by decide), ql_dw_c (E 29 (by decide))])))⟩
theorem ql_N_sound (h : ql_N S sh mi) {x f : Int32} (hv : zv_nv S < 3) (hc : zv_sc S (zv_nv S) < 6) : ql_N (zt_sound S x f) sh (zm_u2 (zm_u2 mi 103 (6 * zv_nv S + zv_sc S (zv_nv S)) (x + nI 16 * f)) 103 (18 + zv_nv S) (nI (zv_sc S (zv_nv S) + 1))) := by
  obtain ⟨h0, h1, h2, h3, h4, h5, h6, h7, h8, h9, h10⟩ := h
  have E : ∀ r, ¬ (r = 6 ∨ r = 7 ∨ r = 8) → zt_sound S x f r = S r := fun r hr => zt_sound_r (by omega) (by omega) (by omega)
  have L : ∀ l, ¬ (l = 103) → zm_u2 (zm_u2 mi 103 (6 * zv_nv S + zv_sc S (zv_nv S)) (x + nI 16 * f)) 103 (18 + zv_nv S) (nI (zv_sc S (zv_nv S) + 1)) l = mi l := fun l hl => (zm_u2r (by omega)).trans (zm_u2r (by omega))
  refine ⟨h0, ql_p_c h1 (E 0 (by decide)) (E 1 (by decide)) (L 100 (by decide)), ql_j_c h2 (E 2 (by decide)) (E 3 (by decide)) (L 101 (by decide)), ql_m_c h3 (E 4 (by decide)) (L 102 (by decide)), ?_, ql_h_c h5 (fun r g1 g2 => E r (by omega)) (L 104 (by decide)), ql_k_c h6 (E 18 (by decide)) (L 105 (by decide)), ql_c_c h7 (E 19 (by decide)) (L 106 (by decide)), ql_o_c h8 (E 1 (by decide)) (E 9 (by decide)) (E 10 (by decide)) (E 15 (by decide)) (E 22 (by decide)) (L 107 (by decide)), ql_e_c h9 (E 9 (by decide)) (fun r hr => E r (by omega)) (L 108 (by decide)), ql_g_c h10 (fun r hr => E r (by omega)) (L 109 (by decide))⟩
  refine ⟨fun w hw => ?_, fun w q hw hq => ?_⟩
  · rw [zt_sound_6]
    by_cases e : w = zv_nv S
    · rw [if_pos e, e, zm_u2s]
    · rw [if_neg e, zm_u2k (by omega), zm_u2k (by omega)]; exact h4.1 w hw
  · rw [zt_sound_7, zt_sound_8, zm_u2k (by omega)]
    by_cases e : 6 * w + q = 6 * zv_nv S + zv_sc S (zv_nv S)
    · have e2 : 12 * w + q = 12 * zv_nv S + zv_sc S (zv_nv S) := by omega
      rw [e, zm_u2s, if_pos e2, if_pos e2]
    · have e2 : ¬ 12 * w + q = 12 * zv_nv S + zv_sc S (zv_nv S) := fun z => e (by omega)
      rw [zm_u2k e, if_neg e2, if_neg e2]; exact h4.2 w q hw hq
theorem ql_N_shot (h : ql_N S sh mi) (hW : zW S) {p x y : Nat} {v : Int32} {w : Nat} (hn : zv_ns S ≤ 2) (hp : p < 5) (hx : x < 50) (hy : y < 3) (hw : zn (v + 1) = w) : ql_N (zt_shot S (nI p) (nI x) (nI y) v) sh (zm_u2 (zm_u2 mi 104 (zv_ns S) (nI (p + 4 * x + 32 * y + 128 * w))) 109 2 (nI (zv_ns S + 1))) := by
  obtain ⟨h0, h1, h2, h3, h4, h5, h6, h7, h8, h9, h10⟩ := h
  have E : ∀ r, ¬ (9 ≤ r ∧ r ≤ 14) → zt_shot S (nI p) (nI x) (nI y) v r = S r := fun r hr => (zm_u2r (by omega)).trans ((zm_u2r (by omega)).trans ((zm_u2r (by omega)).trans ((zm_u2r (by omega)).trans ((zm_u2r (by omega)).trans (zm_u2r (by omega))))))
  have L : ∀ l, ¬ (l = 104 ∨ l = 109) → zm_u2 (zm_u2 mi 104 (zv_ns S) (nI (p + 4 * x + 32 * y + 128 * w))) 109 2 (nI (zv_ns S + 1)) l = mi l := fun l hl => (zm_u2r (by omega)).trans (zm_u2r (by omega))
  have x9 : zt_shot S (nI p) (nI x) (nI y) v 9 0 = nI (zv_ns S + 1) := zm_u2s
  have xo : ∀ a, a ≠ zv_ns S → ∀ r, r ≠ 9 → zt_shot S (nI p) (nI x) (nI y) v r a = S r a := fun a ha r hr => by
    unfold zt_shot
    rw [zm_u2l hr, zm_u2k ha, zm_u2k ha, zm_u2k ha, zm_u2k ha, zm_u2k ha]
  have e10 : zt_shot S (nI p) (nI x) (nI y) v 10 (zv_ns S) = nI p := by
    unfold zt_shot
    rw [zm_u2l (by decide), zm_u2l (by decide), zm_u2l (by decide), zm_u2l (by decide), zm_u2l (by decide), zm_u2s]
  have e11 : zt_shot S (nI p) (nI x) (nI y) v 11 (zv_ns S) = nI x := by
    unfold zt_shot
    rw [zm_u2l (by decide), zm_u2l (by decide), zm_u2l (by decide), zm_u2l (by decide), zm_u2s]
  have e12 : zt_shot S (nI p) (nI x) (nI y) v 12 (zv_ns S) = nI y := by
    unfold zt_shot
    rw [zm_u2l (by decide), zm_u2l (by decide), zm_u2l (by decide), zm_u2s]
  have e13 : zt_shot S (nI p) (nI x) (nI y) v 13 (zv_ns S) = v := by
    unfold zt_shot
    rw [zm_u2l (by decide), zm_u2l (by decide), zm_u2s]
  have e14 : zt_shot S (nI p) (nI x) (nI y) v 14 (zv_ns S) = -1 := by
    unfold zt_shot
    rw [zm_u2l (by decide), zm_u2s]
  have xn : zv_ns (zt_shot S (nI p) (nI x) (nI y) v) = zv_ns S + 1 := by
    unfold zv_ns
    rw [x9]; exact nI_clamp (n := zv_ns S + 1) (by omega)
  have xsk : ∀ a, zv_sk (zt_shot S (nI p) (nI x) (nI y) v) a = zv_sk S a := fun a => by unfold zv_sk; rw [E 15 (by decide)]
  have s0 := fun a ha => ((hW.2.2.1.2.2.2 a ha).1 : S 15 a = 0)
  have sk0 : zv_sk S (zv_ns S) = 0 := by unfold zv_sk; rw [s0 (zv_ns S) (Nat.le_refl _)]; decide
  have zp : zn (nI p) = p := nI_clamp (n := p) (by omega)
  have zx : zn (nI x) = x := nI_clamp (n := x) (by omega)
  have zy : zn (nI y) = y := nI_clamp (n := y) (by omega)
  generalize zt_shot S (nI p) (nI x) (nI y) v = T at *
  have E1 : T 1 = S 1 := E 1 (by omega)
  refine ⟨h0, ql_p_c h1 (E 0 (by omega)) E1 (L 100 (by decide)), ql_j_c h2 (E 2 (by omega)) (E 3 (by omega)) (L 101 (by decide)), ql_m_c h3 (E 4 (by omega)) (L 102 (by decide)), ql_v_c h4 (E 6 (by omega)) (E 7 (by omega)) (E 8 (by omega)) (L 103 (by decide)), ?_, ql_k_c h6 (E 18 (by omega)) (L 105 (by decide)), ql_c_c h7 (E 19 (by omega)) (L 106 (by decide)), ?_, ?_, ?_⟩
  · intro a ha
    rw [xn] at ha
    rw [zm_u2l (by decide)]
    by_cases e : a = zv_ns S
    · rw [e, zm_u2s]
      unfold ql_hw
      rw [xsk, sk0]
      unfold zv_pu zv_fr zv_st
      rw [e10, e11, e12, e13, e14, zp, zx, zy, hw]
      exact congrArg nI (by have z : zn ((-1 : Int32) + 1) = 0 := by decide
                            omega)
    · rw [zm_u2k e]
      have e9 : ql_hw T a = ql_hw S a := by
        unfold ql_hw
        rw [xsk]
        unfold zv_pu zv_fr zv_st
        rw [xo a e 10 (by decide), xo a e 11 (by decide), xo a e 12 (by decide), xo a e 13 (by decide), xo a e 14 (by decide)]
      rw [e9]; exact h5 a (by omega)
  · intro a b c ha hb hc
    rw [xn] at ha
    rw [xsk] at hc
    by_cases e : a = zv_ns S
    · rw [e, sk0] at hc; omega
    · unfold zv_jn zv_pu at hb
      rw [E1, xo a e 10 (by decide)] at hb
      rw [L 107 (by decide), E 22 (by omega)]
      exact h8 a b c (by omega) hb hc
  · refine ⟨fun a c ha hc => ?_, fun a ha => by rw [L 108 (by decide), E 16 (by omega)]; exact h9.2 a ha⟩
    rw [xn] at ha
    rw [xsk] at hc
    by_cases e : a = zv_ns S
    · rw [e, sk0] at hc; omega
    · rw [L 108 (by decide), E 23 (by omega), E 24 (by omega), E 25 (by omega), E 26 (by omega), E 27 (by omega)]
      exact h9.1 a c (by omega) hc
  · unfold ql_g at h10 ⊢
    obtain ⟨k0, k1, k2, k3, k4, k5, k6⟩ := h10
    have M : ∀ c, c ≠ 2 → zm_u2 (zm_u2 mi 104 (zv_ns S) (nI (p + 4 * x + 32 * y + 128 * w))) 109 2 (nI (zv_ns S + 1)) 109 c = mi 109 c := fun c hc => (zm_u2k hc).trans (zm_u2l (by decide))
    refine ⟨(M 0 (by decide)).trans (k0.trans (congrFun (E 0 (by omega)) 0).symm), (M 1 (by decide)).trans (k1.trans (congrFun (E 5 (by omega)) 0).symm), zm_u2s.trans x9.symm, (M 3 (by decide)).trans (k3.trans (congrFun (E 20 (by omega)) 0).symm), (M 4 (by decide)).trans (k4.trans (congrFun (E 21 (by omega)) 0).symm), (M 5 (by decide)).trans (k5.trans (congrArg nI (show ql_iw S = _ by unfold ql_iw; rw [E 17 (by omega)]))), (M 6 (by decide)).trans (k6.trans (congrArg nI (show ql_dw S (zv_nf S) 0 = _ by unfold zv_nf; rw [E 28 (by omega), ql_dw_c (E 29 (by omega))])))⟩
end ZLA
