/-! ===== a frame is kept ===== -/
section ZL9
variable {n m : Nat} {S : zS} {sh : zm_Sh} {mi : zm_Mi} {mr : zm_Mr}
theorem zt_keep_u {i : Nat} : ∀ r, ¬ (r = 15 ∨ r = 21 ∨ (24 ≤ r ∧ r ≤ 27)) → zt_keep S i r = S r := fun r hr => (zm_u2r (by omega)).trans ((zm_u2r (by omega)).trans ((zm_u2r (by omega)).trans ((zm_u2r (by omega)).trans ((zm_u2r (by omega)).trans (zm_u2r (by omega))))))
theorem zt_keep_15 {i c : Nat} : zt_keep S i 15 c = if c = i then nI (zv_sk S i + 1) else S 15 c := by
  unfold zt_keep zt_kp
  rw [zm_u2l (by decide)]
  by_cases e : c = i
  · rw [if_pos e, e, zm_u2s]
  · rw [if_neg e, zm_u2k e, zm_u2l (by decide), zm_u2l (by decide), zm_u2l (by decide), zm_u2l (by decide)]
theorem zt_keep_21 {i : Nat} : zt_keep S i 21 0 = S 21 0 + nI 1 := zm_u2s
theorem zt_keep_24 {i c : Nat} : zt_keep S i 24 c = if c = 48 * i + zv_sk S i then zp_place S i (zv_sk S i) else S 24 c := by
  unfold zt_keep zt_kp
  rw [zm_u2l (by decide), zm_u2l (by decide), zm_u2l (by decide), zm_u2l (by decide), zm_u2l (by decide)]
  by_cases e : c = 48 * i + zv_sk S i
  · rw [if_pos e, e, zm_u2s]
  · rw [if_neg e, zm_u2k e]
theorem zt_keep_25 {i c : Nat} : zt_keep S i 25 c = if c = 48 * i + zv_sk S i then zs_cam (fun k => zm_u2 S 24 (48 * i + zv_sk S i) (zp_place S i (zv_sk S i)) 24 (48 * i + k)) (zv_sk S i) (S 20 0) else S 25 c := by
  unfold zt_keep zt_kp
  rw [zm_u2l (by decide), zm_u2l (by decide), zm_u2l (by decide), zm_u2l (by decide)]
  by_cases e : c = 48 * i + zv_sk S i
  · rw [if_pos e, e, zm_u2s]
  · rw [if_neg e, zm_u2k e, zm_u2l (by decide)]
theorem zt_keep_26 {i c : Nat} : zt_keep S i 26 c = if c = 48 * i + zv_sk S i then zp_light S else S 26 c := by
  unfold zt_keep zt_kp
  rw [zm_u2l (by decide), zm_u2l (by decide), zm_u2l (by decide)]
  by_cases e : c = 48 * i + zv_sk S i
  · rw [if_pos e, e, zm_u2s]
  · rw [if_neg e, zm_u2k e, zm_u2l (by decide), zm_u2l (by decide)]
theorem zt_keep_27 {i c : Nat} : zt_keep S i 27 c = if c = 48 * i + zv_sk S i then S 16 i else S 27 c := by
  unfold zt_keep zt_kp
  rw [zm_u2l (by decide), zm_u2l (by decide)]
  by_cases e : c = 48 * i + zv_sk S i
  · rw [if_pos e, e, zm_u2s]
  · rw [if_neg e, zm_u2k e, zm_u2l (by decide), zm_u2l (by decide), zm_u2l (by decide)]
theorem zt_keep_sk {i a : Nat} (h : zv_sk S i < 1000) : zv_sk (zt_keep S i) a = if a = i then zv_sk S i + 1 else zv_sk S a := by
  show zn (zt_keep S i 15 a) = _
  rw [zt_keep_15]
  by_cases e : a = i
  · rw [if_pos e, if_pos e]; exact nI_clamp (n := zv_sk S i + 1) (by omega)
  · rw [if_neg e, if_neg e]
theorem ql_keep (h : ql_I n S sh mi) {i : Nat} (hi : i < zv_ns S) (hk : zv_sk S i < zv_fr S i) {a cam : Int32} (ha : S 23 (48 * i + zv_sk S i) = a) (ho : ∀ j, j < zv_jn S (zv_pu S i) → mi 107 (18 * i + 6 * j + zv_sk S i) = S 22 (48 * (6 * i + j) + zv_sk S i))
    (hcam : cam = zs_cam (fun k => zm_u2 S 24 (48 * i + zv_sk S i) (zp_place S i (zv_sk S i)) 24 (48 * i + k)) (zv_sk S i) (S 20 0)) :
    ql_N (zt_keep S i) sh (zm_u2 (zm_u2 (zm_u2 (zm_u2 (zm_u2 mi 108 (36 + (6 * i + zv_sk S i)) (zp_place S i (zv_sk S i))) 108 (6 * i + zv_sk S i) (ql_ew a cam (zp_light S))) 108 (18 + (6 * i + zv_sk S i)) (S 16 i)) 109 4 (S 21 0 + nI 1)) 104 i (nI (ql_hw S i + 8192))) := by
  obtain ⟨s1, s2, s3, s4⟩ := ql_small h
  obtain ⟨q1, q2, q3, q4, q5, q6, q7, q8, q9, q10, q11, q12⟩ := ql_shot h hi
  obtain ⟨h0, h1, h2, h3, h4, h5, h6, h7, h8, h9, h10⟩ := h.2.2.2
  have E := zt_keep_u (S := S) (i := i)
  have K := fun a => zt_keep_sk (S := S) (i := i) (a := a) (by omega)
  have x24 := fun c => zt_keep_24 (S := S) (i := i) (c := c)
  have x25 := fun c => zt_keep_25 (S := S) (i := i) (c := c)
  have x26 := fun c => zt_keep_26 (S := S) (i := i) (c := c)
  have x27 := fun c => zt_keep_27 (S := S) (i := i) (c := c)
  have x21 := zt_keep_21 (S := S) (i := i)
  rw [← hcam] at x25
  have L : ∀ l, l ≠ 104 → l ≠ 108 → l ≠ 109 → zm_u2 (zm_u2 (zm_u2 (zm_u2 (zm_u2 mi 108 (36 + (6 * i + zv_sk S i)) (zp_place S i (zv_sk S i))) 108 (6 * i + zv_sk S i) (ql_ew a cam (zp_light S))) 108 (18 + (6 * i + zv_sk S i)) (S 16 i)) 109 4 (S 21 0 + nI 1)) 104 i (nI (ql_hw S i + 8192)) l = mi l := fun l g1 g2 g3 => (zm_u2r g1).trans ((zm_u2r g3).trans ((zm_u2r g2).trans ((zm_u2r g2).trans (zm_u2r g2))))
  have L4 : ∀ c, zm_u2 (zm_u2 (zm_u2 (zm_u2 (zm_u2 mi 108 (36 + (6 * i + zv_sk S i)) (zp_place S i (zv_sk S i))) 108 (6 * i + zv_sk S i) (ql_ew a cam (zp_light S))) 108 (18 + (6 * i + zv_sk S i)) (S 16 i)) 109 4 (S 21 0 + nI 1)) 104 i (nI (ql_hw S i + 8192)) 104 c = if c = i then nI (ql_hw S i + 8192) else mi 104 c := fun c => by
    by_cases e : c = i
    · rw [if_pos e, e, zm_u2s]
    · rw [if_neg e, zm_u2k e, zm_u2l (by decide), zm_u2l (by decide), zm_u2l (by decide), zm_u2l (by decide)]
  have L8 : ∀ c, zm_u2 (zm_u2 (zm_u2 (zm_u2 (zm_u2 mi 108 (36 + (6 * i + zv_sk S i)) (zp_place S i (zv_sk S i))) 108 (6 * i + zv_sk S i) (ql_ew a cam (zp_light S))) 108 (18 + (6 * i + zv_sk S i)) (S 16 i)) 109 4 (S 21 0 + nI 1)) 104 i (nI (ql_hw S i + 8192)) 108 c = if c = 18 + (6 * i + zv_sk S i) then S 16 i else if c = 6 * i + zv_sk S i then ql_ew a cam (zp_light S) else if c = 36 + (6 * i + zv_sk S i) then zp_place S i (zv_sk S i) else mi 108 c := fun c => by
    rw [zm_u2l (by decide), zm_u2l (by decide)]
    by_cases e : c = 18 + (6 * i + zv_sk S i)
    · rw [if_pos e, e, zm_u2s]
    · rw [if_neg e, zm_u2k e]
      by_cases e2 : c = 6 * i + zv_sk S i
      · rw [if_pos e2, e2, zm_u2s]
      · rw [if_neg e2, zm_u2k e2]
        by_cases e3 : c = 36 + (6 * i + zv_sk S i)
        · rw [if_pos e3, e3, zm_u2s]
        · rw [if_neg e3, zm_u2k e3]
  have L9 : ∀ c, zm_u2 (zm_u2 (zm_u2 (zm_u2 (zm_u2 mi 108 (36 + (6 * i + zv_sk S i)) (zp_place S i (zv_sk S i))) 108 (6 * i + zv_sk S i) (ql_ew a cam (zp_light S))) 108 (18 + (6 * i + zv_sk S i)) (S 16 i)) 109 4 (S 21 0 + nI 1)) 104 i (nI (ql_hw S i + 8192)) 109 c = if c = 4 then S 21 0 + nI 1 else mi 109 c := fun c => by
    rw [zm_u2l (by decide)]
    by_cases e : c = 4
    · rw [if_pos e, e, zm_u2s]
    · rw [if_neg e, zm_u2k e, zm_u2l (by decide), zm_u2l (by decide), zm_u2l (by decide)]
  generalize zm_u2 (zm_u2 (zm_u2 (zm_u2 (zm_u2 mi 108 (36 + (6 * i + zv_sk S i)) (zp_place S i (zv_sk S i))) 108 (6 * i + zv_sk S i) (ql_ew a cam (zp_light S))) 108 (18 + (6 * i + zv_sk S i)) (S 16 i)) 109 4 (S 21 0 + nI 1)) 104 i (nI (ql_hw S i + 8192)) = M at *
  generalize zt_keep S i = T at *
  have ens : zv_ns T = zv_ns S := by unfold zv_ns; rw [E 9 (by decide)]
  have epu : ∀ a, zv_pu T a = zv_pu S a := fun a => by unfold zv_pu; rw [E 10 (by decide)]
  have ejn : ∀ a, zv_jn T a = zv_jn S a := fun a => by unfold zv_jn; rw [E 1 (by decide)]
  refine ⟨h0, ql_p_c h1 (E 0 (by decide)) (E 1 (by decide)) (L 100 (by decide) (by decide) (by decide)), ql_j_c h2 (E 2 (by decide)) (E 3 (by decide)) (L 101 (by decide) (by decide) (by decide)), ql_m_c h3 (E 4 (by decide)) (L 102 (by decide) (by decide) (by decide)), ql_v_c h4 (E 6 (by decide)) (E 7 (by decide)) (E 8 (by decide)) (L 103 (by decide) (by decide) (by decide)), ?_, ql_k_c h6 (E 18 (by decide)) (L 105 (by decide) (by decide) (by decide)), ql_c_c h7 (E 19 (by decide)) (L 106 (by decide) (by decide) (by decide)), ?_, ?_, ?_⟩
  · intro b hb
    rw [ens] at hb
    have ehw : ql_hw T b = if b = i then ql_hw S i + 8192 else ql_hw S b := by
      unfold ql_hw
      rw [K b]
      unfold zv_pu zv_fr zv_st
      rw [E 10 (by decide), E 11 (by decide), E 12 (by decide), E 13 (by decide), E 14 (by decide)]
      by_cases e : b = i
      · rw [if_pos e, if_pos e, e]; omega
      · rw [if_neg e, if_neg e]
    rw [L4, ehw]
    by_cases e : b = i
    · rw [if_pos e, if_pos e]
    · rw [if_neg e, if_neg e]; exact h5 b hb
  · intro b j f hb hj hf
    rw [ens] at hb
    rw [epu, ejn] at hj
    rw [K b] at hf
    rw [L 107 (by decide) (by decide) (by decide), E 22 (by decide)]
    by_cases e : b = i
    · rw [if_pos e] at hf
      by_cases e2 : f = zv_sk S i
      · rw [e, e2]; rw [e] at hj; exact ho j hj
      · exact h8 b j f hb hj (by rw [e]; omega)
    · rw [if_neg e] at hf; exact h8 b j f hb hj hf
  · refine ⟨fun b f hb hf => ?_, fun b hb => ?_⟩
    · rw [ens] at hb
      have hb3 : b < 3 := (ql_shot h hb).1
      have hs1 := s1 b hb
      rw [K b] at hf
      rw [E 23 (by decide), x25, x26, x27, x24, L8, L8, L8]
      by_cases e : b = i ∧ f = zv_sk S i
      · obtain ⟨e1, e2⟩ := e
        rw [e1, e2, if_pos rfl, if_pos rfl, if_pos rfl, if_pos rfl, if_neg (by omega), if_pos rfl, if_pos rfl, if_neg (by omega), if_neg (by omega), if_pos rfl, ha]
        exact ⟨rfl, rfl, rfl⟩
      · have hf2 : f < zv_sk S b := by
          by_cases e1 : b = i
          · rw [if_pos e1] at hf; rw [e1]; have : ¬ f = zv_sk S i := fun z => e ⟨e1, z⟩; omega
          · rw [if_neg e1] at hf; exact hf
        have ne : ¬ 48 * b + f = 48 * i + zv_sk S i := fun z => e ⟨by omega, by omega⟩
        have ne2 : ¬ 6 * b + f = 6 * i + zv_sk S i := fun z => e ⟨by omega, by omega⟩
        rw [if_neg ne, if_neg ne, if_neg ne, if_neg ne, if_neg (by omega), if_neg ne2, if_neg (by omega), if_neg (by omega), if_neg (by omega), if_neg (by omega), if_neg (by omega), if_neg (by omega), if_neg (by omega)]
        exact h9.1 b f hb hf2
    · rw [L8, if_neg (by omega), if_neg (by omega), if_neg (by omega), E 16 (by decide)]; exact h9.2 b hb
  · unfold ql_g ql_iw zv_nf at *
    rw [L9, L9, L9, L9, L9, L9, L9, if_neg (by decide), if_neg (by decide), if_neg (by decide), if_neg (by decide), if_pos rfl, if_neg (by decide), if_neg (by decide), E 0 (by decide), E 5 (by decide), E 9 (by decide), E 20 (by decide), x21, E 17 (by decide), E 28 (by decide), ql_dw_c (E 29 (by decide))]
    exact ⟨h10.1, h10.2.1, h10.2.2.1, h10.2.2.2.1, rfl, h10.2.2.2.2.2.1, h10.2.2.2.2.2.2⟩
theorem ql_cam_in {O : Nat → Int32} {k : Nat} {pl : Int32} (ho : zv_in (O k) (-999) 999) (hp : zv_in pl 0 20) : zv_in (zs_cam O k pl) (-1019) 1019 := by
  unfold zv_in zs_cam at *
  split
  · omega
  · split
    · rw [zs_small (by omega) (by omega)]; omega
    · rw [zs_smallS (by omega) (by omega)]; omega
theorem ql_light_in {k : Nat} (h : zv_in (S 21 0) 0 k) (hn : k ≤ 64) : zv_in (zp_light S) 500 1000 := by
  rw [← (ql_light h hn).1]
  unfold zv_in at *
  have t10 : (nI 1000).toInt = 1000 := nI_toInt (by decide)
  have e1 : (S 21 0 / nI 3).toInt = (S 21 0).toInt / 3 := by rw [zs_div_nn (by decide) (by omega)]; rfl
  rw [zs_smallS (by omega) (by omega), t10, e1]; omega
theorem ql_keep_B (h : ql_I n S sh mi) {i : Nat} (hi : i < zv_ns S) (hk : zv_sk S i < zv_fr S i) (h23 : zv_in (S 23 (48 * i + zv_sk S i)) (-1) 9) (h21 : (S 21 0).toInt ≤ n - 1) : ql_B n (zt_keep S i) := by
  obtain ⟨s1, s2, s3, s4⟩ := ql_small h
  obtain ⟨q1, q2, q3, q4, q5, q6, q7, q8, q9, q10, q11, q12⟩ := ql_shot h hi
  obtain ⟨b1, b2, b3, ⟨b4, b4'⟩, b5, b6, b7⟩ := ql_BB h
  have hn64 := h.1
  have hpl := zp_place_in (ql_W h) i (zv_sk S i) (by omega)
  have hcm : zv_in (zs_cam (fun k => zm_u2 S 24 (48 * i + zv_sk S i) (zp_place S i (zv_sk S i)) 24 (48 * i + k)) (zv_sk S i) (S 20 0)) (-1019) 1019 := ql_cam_in (by rw [zm_u2s]; exact hpl) b4
  have hli := ql_light_in b4' hn64
  have E := zt_keep_u (S := S) (i := i)
  have K := fun a => zt_keep_sk (S := S) (i := i) (a := a) (by omega)
  have x25 := fun c => zt_keep_25 (S := S) (i := i) (c := c)
  have x26 := fun c => zt_keep_26 (S := S) (i := i) (c := c)
  have x21 := zt_keep_21 (S := S) (i := i)
  generalize zt_keep S i = T at *
  refine ⟨?_, ?_, ?_, ⟨?_, ?_⟩, ?_, ?_, ?_⟩
  · unfold ql_Bp zv_np zv_jn at b1 ⊢; rw [E 0 (by decide), E 1 (by decide)]; exact b1
  · unfold ql_Bv zv_nv zv_sc at b2 ⊢; rw [E 5 (by decide), E 6 (by decide)]; exact b2
  · unfold ql_Bs zv_ns zv_fr at b3 ⊢; rw [E 9 (by decide), E 11 (by decide)]; exact b3
  · rw [E 20 (by decide)]; exact b4
  · rw [x21]
    unfold zv_in at b4' ⊢
    have t1 : (nI 1).toInt = 1 := nI_toInt (by decide)
    rw [zs_small (by omega) (by omega), t1]; omega
  · unfold ql_Bj at b5 ⊢; rw [E 3 (by decide)]; exact b5
  · unfold ql_Bm at b6 ⊢; rw [E 4 (by decide)]; exact b6
  · intro b f hb hf
    have hb2 : b < zv_ns S := by unfold zv_ns at hb ⊢; rw [E 9 (by decide)] at hb; exact hb
    have hs1 := s1 b hb2
    rw [K b] at hf
    rw [E 23 (by decide), x25, x26]
    by_cases e : b = i ∧ f = zv_sk S i
    · obtain ⟨e1, e2⟩ := e
      rw [e1, e2, if_pos rfl, if_pos rfl]
      exact ⟨h23, hcm, hli⟩
    · have hf2 : f < zv_sk S b := by
        by_cases e1 : b = i
        · rw [if_pos e1] at hf; rw [e1]; have : ¬ f = zv_sk S i := fun z => e ⟨e1, z⟩; omega
        · rw [if_neg e1] at hf; exact hf
      have ne : ¬ 48 * b + f = 48 * i + zv_sk S i := fun z => e ⟨by omega, by omega⟩
      rw [if_neg ne, if_neg ne]
      exact b7 b f hb2 hf2
/-- a held frame: what it has is not seen before it is counted -/
theorem ql_I_hj (h : ql_I n S sh mi) {i f : Nat} (hi : i < zv_ns S) (hk : zv_sk S i < zv_fr S i) (hf : f = zv_sk S i) : ∀ j, j ≤ 6 → ql_I n (zt_hj S i f j) sh mi
  | 0, _ => ql_I_f h hi hk (Or.inl ⟨by decide, by decide, by rw [hf]⟩) (zt_hj_w (ql_W h) hi hf (by omega) 0)
  | j + 1, hj => by
    have ih := ql_I_hj h hi hk hf j (by omega)
    have E : ∀ r, r ≠ 22 → r ≠ 23 → zt_hj S i f j r = S r := fun r h22 h23 => zt_hj_r S i f h22 h23 j
    obtain ⟨g1, g2, g3, g4, g5, -⟩ := zv_same (S := S) (i := i) (E 1 (by decide) (by decide)) (E 9 (by decide) (by decide)) (E 10 (by decide) (by decide)) (E 11 (by decide) (by decide)) (E 14 (by decide) (by decide)) (E 15 (by decide) (by decide))
    exact ql_I_f ih (by rw [g1]; exact hi) (by rw [g2, g3]; exact hk) (Or.inr ⟨rfl, j, by omega, by rw [g2, hf]⟩) (zt_hj_w (ql_W h) hi hf (by omega) (j + 1))
end ZL9
