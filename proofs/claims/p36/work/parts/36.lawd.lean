/-! ===== a frame is struck: the law's arrays ===== -/
theorem zt_pose_hi {S : zS} {p i f : Nat} : ∀ (j : Nat) {c : Nat}, 6 * p + j ≤ c → zt_pose S p i f j 3 c = S 3 c ∧ zt_pose S p i f j 2 c = S 2 c
  | 0, _, _ => ⟨rfl, rfl⟩
  | j + 1, c, h => by
    have ih := zt_pose_hi (S := S) (p := p) (i := i) (f := f) j (c := c) (by omega)
    show zt_pj (zt_pose S p i f j) p i j f (zp_deg S i j f) 3 c = _ ∧ zt_pj (zt_pose S p i f j) p i j f (zp_deg S i j f) 2 c = _
    unfold zt_pj
    rw [zm_u2l (by decide), zm_u2l (by decide), zm_u2k (by omega), zm_u2l (by decide), zm_u2k (by omega), zm_u2l (by decide)]
    exact ih
theorem zt_pose_22 {S : zS} {p i f : Nat} : ∀ (j : Nat) {k : Nat}, k < j → j ≤ 6 → zt_pose S p i f j 22 (48 * (6 * i + k) + f) = zp_deg S i k f
  | 0, _, h, _ => absurd h (Nat.not_lt_zero _)
  | j + 1, k, h, h6 => by
    show zt_pj (zt_pose S p i f j) p i j f (zp_deg S i j f) 22 (48 * (6 * i + k) + f) = _
    unfold zt_pj
    by_cases e : k = j
    · rw [e, zm_u2s]
    · rw [zm_u2k (by omega), zm_u2l (by decide), zm_u2l (by decide)]
      exact zt_pose_22 j (by omega) (by omega)
theorem zt_hj_22 {S : zS} {i f : Nat} (hf : 0 < f) (hf48 : f < 48) : ∀ (j : Nat) {k : Nat}, k < 6 → j ≤ 6 → zt_hj S i f j 22 (48 * (6 * i + k) + (f - 1)) = S 22 (48 * (6 * i + k) + (f - 1)) ∧ (k < j → zt_hj S i f j 22 (48 * (6 * i + k) + f) = S 22 (48 * (6 * i + k) + (f - 1)))
  | 0, k, _, _ => ⟨zm_u2l (by decide), fun h => absurd h (Nat.not_lt_zero _)⟩
  | j + 1, k, hk, hj => by
    have ih := zt_hj_22 (S := S) (i := i) hf hf48 j (k := k) hk (by omega)
    refine ⟨(zm_u2k (by omega)).trans ih.1, fun h => ?_⟩
    by_cases e : k = j
    · rw [e]; exact zm_u2s
    · exact (zm_u2k (by omega)).trans (ih.2 (by omega))
theorem zt_hj_23 {S : zS} {i f : Nat} : ∀ j, zt_hj S i f j 23 (48 * i + f) = S 23 (48 * i + (f - 1))
  | 0 => zm_u2s
  | j + 1 => (zm_u2l (by decide)).trans (zt_hj_23 j)
theorem zt_pose_23 {S : zS} {p i f : Nat} : ∀ j, zt_pose S p i f j 23 = S 23 := fun j => zt_pose_r S p i f (by decide) (by decide) (by decide) j
theorem zs_abs_sw {a b : Int32} (ha : zv_in a 0 359) (hb : zv_in b 0 359) : zv_in (zs_abs (zs_sw a b)) 0 180 := by
  have hsw := zs_sw_toInt ha hb
  have h0 : ∀ z : Int32, 0 ≤ z ↔ 0 ≤ z.toInt := fun z => by rw [zs_le, Int32.toInt_zero]
  have hr : -179 ≤ (zs_sw a b).toInt ∧ (zs_sw a b).toInt ≤ 180 := by rw [hsw]; split <;> omega
  unfold zs_abs zv_in
  by_cases h : 0 ≤ zs_sw a b
  · rw [if_pos h]; have := (h0 _).mp h; omega
  · rw [if_neg h]; have hz : ¬ 0 ≤ (zs_sw a b).toInt := fun q => h ((h0 _).mpr q)
    rw [zs_smallS (by rw [Int32.toInt_zero]; omega) (by rw [Int32.toInt_zero]; omega), Int32.toInt_zero]; omega
section ZL8
variable {n : Nat} {S : zS} {sh : zm_Sh} {mi : zm_Mi} {mr : zm_Mr}
/-- rows that stand -/
theorem ql_B_c {T : zS} (h : ql_B n S) (e : ∀ r, (r = 0 ∨ r = 1 ∨ r = 3 ∨ r = 4 ∨ r = 5 ∨ r = 6 ∨ r = 9 ∨ r = 11 ∨ r = 15 ∨ r = 20 ∨ r = 21 ∨ r = 23 ∨ r = 25 ∨ r = 26) → T r = S r) : ql_B n T := by
  unfold ql_B ql_Bp ql_Bv ql_Bs ql_Bg ql_Bj ql_Bm ql_Be zv_np zv_jn zv_nv zv_sc zv_ns zv_fr zv_sk at *
  rw [e 0 (by decide), e 1 (by decide), e 3 (by decide), e 4 (by decide), e 5 (by decide), e 6 (by decide), e 9 (by decide), e 11 (by decide), e 15 (by decide), e 20 (by decide), e 21 (by decide), e 23 (by decide), e 25 (by decide), e 26 (by decide)]
  exact h
/-- the row of the frame that is being struck is outside the bounds -/
theorem ql_B_f (h : ql_B n S) {i r c : Nat} {x : Int32} (hr : (23 ≤ r ∧ r ≤ 27 ∧ c = 48 * i + zv_sk S i) ∨ r = 22) (h48 : ∀ a, a < zv_ns S → zv_sk S a ≤ 48) (hi : zv_sk S i < 48) : ql_B n (zm_u2 S r c x) := by
  obtain ⟨b1, b2, b3, b4, b5, b6, b7⟩ := h
  have hr2 : 22 ≤ r ∧ r ≤ 27 := by rcases hr with hr | hr <;> omega
  have E : ∀ q, q ≠ r → zm_u2 S r c x q = S q := fun q hq => zm_u2r hq
  refine ⟨?_, ?_, ?_, ?_, ?_, ?_, ?_⟩
  · unfold ql_Bp zv_np zv_jn at b1 ⊢; rw [E 0 (by omega), E 1 (by omega)]; exact b1
  · unfold ql_Bv zv_nv zv_sc at b2 ⊢; rw [E 5 (by omega), E 6 (by omega)]; exact b2
  · unfold ql_Bs zv_ns zv_fr at b3 ⊢; rw [E 9 (by omega), E 11 (by omega)]; exact b3
  · unfold ql_Bg at b4 ⊢; rw [E 20 (by omega), E 21 (by omega)]; exact b4
  · unfold ql_Bj at b5 ⊢; rw [E 3 (by omega)]; exact b5
  · unfold ql_Bm at b6 ⊢; rw [E 4 (by omega)]; exact b6
  · unfold ql_Be zv_ns zv_sk at b7 ⊢
    rw [E 9 (by omega), E 15 (by omega)]
    intro a f ha hf
    have hf2 : f < zv_sk S a := hf
    have h4a := h48 a ha
    have u : ∀ q, 23 ≤ q → zm_u2 S r c x q (48 * a + f) = S q (48 * a + f) := fun q hq => if_neg (fun z => by
      rcases hr with ⟨h23, h27, hc⟩ | h22
      · have h9 := z.2
        rw [hc] at h9
        have : a = i := by omega
        rw [this] at hf2
        omega
      · omega)
    rw [u 23 (by decide), u 25 (by decide), u 26 (by decide)]
    exact b7 a f ha hf
theorem ql_small (h : ql_I n S sh mi) : (∀ a, a < zv_ns S → zv_sk S a ≤ 6) ∧ (∀ a, a < zv_ns S → zv_sk S a ≤ 48) ∧ (∀ a, a < zv_ns S → zv_jn S (zv_pu S a) ≤ 3) ∧ (∀ a, a < zv_ns S → zv_jn S (zv_pu S a) ≤ 6) := by
  refine ⟨fun a ha => ?_, fun a ha => ?_, fun a ha => ?_, fun a ha => ?_⟩ <;> (obtain ⟨q1, q2, q3, q4, q5, q6, q7, q8, q9, q10, q11, q12⟩ := ql_shot h ha; omega)
/-- a row of the frame that is being struck -/
theorem ql_I_f (h : ql_I n S sh mi) {i r c : Nat} {x : Int32} (hi : i < zv_ns S) (hk : zv_sk S i < zv_fr S i) (hr : (23 ≤ r ∧ r ≤ 27 ∧ c = 48 * i + zv_sk S i) ∨ (r = 22 ∧ ∃ j, j < 6 ∧ c = 48 * (6 * i + j) + zv_sk S i)) (hW : zW (zm_u2 S r c x)) : ql_I n (zm_u2 S r c x) sh mi := by
  obtain ⟨s1, s2, s3, s4⟩ := ql_small h
  have h6 := s1 i hi
  exact ⟨h.1, hW, ql_B_f h.2.2.1 (hr.elim Or.inl (fun q => Or.inr q.1)) s2 (by omega), ql_N_f h.2.2.2 hr s2 s4 (by omega)⟩
theorem ql_I_fm (h : ql_I n S sh mi) {i l k : Nat} {x : Int32} (hi : i < zv_ns S) (hk : zv_sk S i < zv_fr S i) (hq : (l = 107 ∧ ∃ j, j < 3 ∧ k = 18 * i + 6 * j + zv_sk S i) ∨ (l = 108 ∧ (k = 6 * i + zv_sk S i ∨ k = 18 + (6 * i + zv_sk S i) ∨ k = 36 + (6 * i + zv_sk S i)))) : ql_I n S sh (zm_u2 mi l k x) := by
  obtain ⟨s1, s2, s3, s4⟩ := ql_small h
  obtain ⟨q1, q2, q3, q4, q5, q6, q7, q8, q9, q10, q11, q12⟩ := ql_shot h hi
  exact ⟨h.1, h.2.1, h.2.2.1, ql_N_fm h.2.2.2 (ql_num h).2.2.1 q1 s1 (by omega) s3 hq⟩
/-- one joint posed -/
theorem ql_I_pj (h : ql_I n S sh mi) {i p j f : Nat} {d : Int32} (hi : i < zv_ns S) (hk : zv_sk S i < zv_fr S i) (hp : p = zv_pu S i) (hj : j < zv_jn S p) (hf : f = zv_sk S i) (hd : zv_in d 0 359) (h3 : (S 3 (6 * p + j)).toInt ≤ 180 * n - 180) :
    ql_I n (zt_pj S p i j f d) sh (zm_u2 (zm_u2 mi 107 (18 * i + 6 * j + f) d) 101 (3 * p + j) ((S 3 (6 * p + j) + zs_abs (zs_sw (S 2 (6 * p + j)) d)) * nI 360 + d)) := by
  obtain ⟨q1, q2, q3, q4, q5, q6, q7, q8, q9, q10, q11, q12⟩ := ql_shot h hi
  obtain ⟨s1, s2, s3, s4⟩ := ql_small h
  subst hf; subst hp
  have hab := zs_abs_sw (ql_S2 h (6 * zv_pu S i + j)) hd
  have h4 := (ql_BB h).2.2.2.2.1 (6 * zv_pu S i + j)
  unfold zv_in at h4 hab
  have hwt : zW (zt_pj S (zv_pu S i) i j (zv_sk S i) d) := zt_pj_w (ql_W h) q2 (by omega) hd
  have n1 := ql_N_fm h.2.2.2 (x := d) (ql_num h).2.2.1 q1 s1 (by omega) s3 (Or.inl ⟨rfl, j, by omega, rfl⟩)
  have n2 := ql_N_j n1 (p := zv_pu S i) (j := j) (a := S 3 (6 * zv_pu S i + j) + zs_abs (zs_sw (S 2 (6 * zv_pu S i + j)) d)) (b := d) q3 (by omega)
  have hB : ql_B n (zm_u2 (zm_u2 S 3 (6 * zv_pu S i + j) (S 3 (6 * zv_pu S i + j) + zs_abs (zs_sw (S 2 (6 * zv_pu S i + j)) d))) 2 (6 * zv_pu S i + j) d) := by
    obtain ⟨b1, b2, b3, b4, b5, b6, b7⟩ := ql_BB h
    refine ql_B_c (S := zm_u2 S 3 (6 * zv_pu S i + j) (S 3 (6 * zv_pu S i + j) + zs_abs (zs_sw (S 2 (6 * zv_pu S i + j)) d))) ⟨b1, b2, b3, b4, fun a => ?_, b6, b7⟩ (fun r hr => zm_u2r (by omega))
    by_cases e : a = 6 * zv_pu S i + j
    · rw [e, zm_u2s]
      unfold zv_in
      have hn64 := h.1
      rw [zs_small (by omega) (by omega)]
      omega
    · rw [zm_u2k e]; exact b5 a
  have e9 : ∀ q, q ≠ 2 → q ≠ 3 → zm_u2 (zm_u2 S 3 (6 * zv_pu S i + j) (S 3 (6 * zv_pu S i + j) + zs_abs (zs_sw (S 2 (6 * zv_pu S i + j)) d))) 2 (6 * zv_pu S i + j) d q = S q := fun q h2 h3 => (zm_u2r h2).trans (zm_u2r h3)
  obtain ⟨g1, g2, g3, g4, g5, -⟩ := zv_same (S := S) (i := i) (e9 1 (by decide) (by decide)) (e9 9 (by decide) (by decide)) (e9 10 (by decide) (by decide)) (e9 11 (by decide) (by decide)) (e9 14 (by decide) (by decide)) (e9 15 (by decide) (by decide))
  have g15 := e9 15 (by decide) (by decide)
  have g10 := e9 10 (by decide) (by decide)
  unfold zt_pj at hwt ⊢
  generalize zm_u2 (zm_u2 S 3 (6 * zv_pu S i + j) (S 3 (6 * zv_pu S i + j) + zs_abs (zs_sw (S 2 (6 * zv_pu S i + j)) d))) 2 (6 * zv_pu S i + j) d = T at *
  have t2 : ∀ a, a < zv_ns T → zv_sk T a ≤ 48 := fun a ha => by unfold zv_sk; rw [g15]; exact s2 a (by omega)
  have t4 : ∀ a, a < zv_ns T → zv_jn T (zv_pu T a) ≤ 6 := fun a ha => by rw [g5]; unfold zv_pu; rw [g10]; exact s4 a (by omega)
  have hr : (23 ≤ 22 ∧ 22 ≤ 27 ∧ 48 * (6 * i + j) + zv_sk S i = 48 * i + zv_sk T i) ∨ (22 = 22 ∧ ∃ j', j' < 6 ∧ 48 * (6 * i + j) + zv_sk S i = 48 * (6 * i + j') + zv_sk T i) := Or.inr ⟨rfl, j, by omega, by rw [g2]⟩
  exact ⟨h.1, hwt, ql_B_f hB (Or.inr rfl) t2 (by rw [g2]; omega), ql_N_f n2 hr t2 t4 (by rw [g2]; omega)⟩
/-! the camera's way -/
def ql_cd (a b : Nat) (c : Int32 × Int32) : Prop := ((a = 0 ∧ c.1 = 0) ∨ (a = 1 ∧ c.1 = 1) ∨ (a = 2 ∧ c.1 = -1)) ∧ (b = 0 ↔ c.2 = 0) ∧ b ≤ 6
theorem ql_cd0 (O : Nat → Int32) : ql_cd 0 0 (zs_cs O 0) := ⟨Or.inl ⟨rfl, rfl⟩, ⟨fun _ => rfl, fun _ => rfl⟩, by decide⟩
theorem ql_cd_s {O : Nat → Int32} {q a b a' b' : Nat} (h : ql_cd a b (zs_cs O q)) (hb5 : b ≤ 5) (ha' : (O q < O (q + 1) ∧ a' = 1) ∨ (O (q + 1) < O q ∧ a' = 2) ∨ (O (q + 1) = O q ∧ a' = a)) (hb' : (0 < a ∧ ¬ a' = a ∧ b' = b + 1) ∨ ((a = 0 ∨ a' = a) ∧ b' = b)) : ql_cd a' b' (zs_cs O (q + 1)) := by
  obtain ⟨h1, h2, h3⟩ := h
  have hdef : zs_cs O (q + 1) = if zs_cmp (O (q + 1)) (O q) = 0 then zs_cs O q else (zs_cmp (O (q + 1)) (O q), if ¬ (zs_cs O q).2 = 0 then 1 else if 0 ≤ (zs_cs O q).1 * zs_cmp (O (q + 1)) (O q) then 0 else 1) := rfl
  rw [hdef]
  have hne : O q < O (q + 1) ∨ O (q + 1) < O q → ¬ O (q + 1) = O q := fun hh e => by
    rw [e] at hh
    rcases hh with hh | hh <;> exact absurd hh Int32.lt_irrefl
  generalize zs_cs O q = c at *
  obtain ⟨c1, c2⟩ := c
  simp only at h1 h2
  rcases ha' with ⟨hlt, rfl⟩ | ⟨hlt, rfl⟩ | ⟨heq, rfl⟩
  · have hx : zs_cmp (O (q + 1)) (O q) = 1 := by
      unfold zs_cmp
      rw [if_pos (by rw [zs_le]; rw [zs_lt] at hlt; omega), if_neg (hne (Or.inl hlt))]
    rw [hx]
    refine ⟨Or.inr (Or.inl ⟨rfl, rfl⟩), ?_, by omega⟩
    show b' = 0 ↔ (if ¬ c2 = 0 then (1 : Int32) else if 0 ≤ c1 * 1 then 0 else 1) = 0
    by_cases e : c2 = 0
    · rw [if_neg (fun z => z e)]
      have hb0 := h2.mpr e
      rcases h1 with ⟨rfl, rfl⟩ | ⟨rfl, rfl⟩ | ⟨rfl, rfl⟩
      · rw [if_pos (by decide)]; exact ⟨fun _ => rfl, fun _ => by omega⟩
      · rw [if_pos (by decide)]; exact ⟨fun _ => rfl, fun _ => by omega⟩
      · rw [if_neg (by decide)]; exact ⟨fun z => by omega, fun z => absurd z (by decide)⟩
    · rw [if_pos e]
      have hb0 : ¬ b = 0 := fun z => e (h2.mp z)
      exact ⟨fun z => by omega, fun z => absurd z (by decide)⟩
  · have hx : zs_cmp (O (q + 1)) (O q) = -1 := by
      unfold zs_cmp
      rw [if_neg (by rw [zs_le]; rw [zs_lt] at hlt; omega)]
    rw [hx]
    refine ⟨Or.inr (Or.inr ⟨rfl, rfl⟩), ?_, by omega⟩
    show b' = 0 ↔ (if ¬ c2 = 0 then (1 : Int32) else if 0 ≤ c1 * (-1) then 0 else 1) = 0
    by_cases e : c2 = 0
    · rw [if_neg (fun z => z e)]
      have hb0 := h2.mpr e
      rcases h1 with ⟨rfl, rfl⟩ | ⟨rfl, rfl⟩ | ⟨rfl, rfl⟩
      · rw [if_pos (by decide)]; exact ⟨fun _ => rfl, fun _ => by omega⟩
      · rw [if_neg (by decide)]; exact ⟨fun z => by omega, fun z => absurd z (by decide)⟩
      · rw [if_pos (by decide)]; exact ⟨fun _ => rfl, fun _ => by omega⟩
    · rw [if_pos e]
      have hb0 : ¬ b = 0 := fun z => e (h2.mp z)
      exact ⟨fun z => by omega, fun z => absurd z (by decide)⟩
  · have hx : zs_cmp (O (q + 1)) (O q) = 0 := by
      unfold zs_cmp
      rw [if_pos (by rw [heq, zs_le]; omega), if_pos heq]
    rw [hx, if_pos rfl]
    exact ⟨h1, by rw [← h2]; omega, by omega⟩
/-- the camera as the law turns it -/
theorem ql_cam {O : Nat → Int32} {k a b : Nat} {pl : Int32} (h : ql_cd a b (zs_cs O k)) : zs_cam O k pl = if b = 0 then O k + nI 0 else if a = 1 then O k + -pl else O k + pl := by
  obtain ⟨h1, h2, h3⟩ := h
  unfold zs_cam
  have cs := (zs_cs_in O k).2
  generalize zs_cs O k = c at *
  obtain ⟨c1, c2⟩ := c
  simp only at h1 h2 cs ⊢
  by_cases e : b = 0
  · rw [if_pos e, if_pos (h2.mp e), nI_0, Int32.add_zero]
  · have e2 : ¬ c2 = 0 := fun z => e (h2.mpr z)
    rw [if_neg e, if_neg e2]
    rcases h1 with ⟨rfl, rfl⟩ | ⟨rfl, rfl⟩ | ⟨rfl, rfl⟩
    · exact absurd rfl ((cs.resolve_left e2).2)
    · rw [if_neg (by decide), if_pos rfl, Int32.sub_eq_add_neg]
    · rw [if_pos (by decide), if_neg (by decide)]
end ZL8
