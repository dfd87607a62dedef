/-! ===== the film ===== -/
theorem zs_pigeon : ∀ (n : Nat) (f : Nat → Nat), (∀ a, a < n + 1 → f a < n) → ∃ a b, a < b ∧ b < n + 1 ∧ f a = f b
  | 0, f, h => absurd (h 0 (by omega)) (by omega)
  | n + 1, f, h => by
    by_cases q : ∃ a, a < n + 1 ∧ f a = f (n + 1)
    · obtain ⟨a, h1, h2⟩ := q
      exact ⟨a, n + 1, by omega, by omega, h2⟩
    · have q' : ∀ a, a < n + 1 → ¬ f a = f (n + 1) := fun a h1 h2 => q ⟨a, h1, h2⟩
      have hv := h (n + 1) (by omega)
      obtain ⟨a, b, h1, h2, h3⟩ := zs_pigeon n (fun a => if f a < f (n + 1) then f a else f a - 1) (fun a ha => by
        have := q' a ha
        have := h a (by omega)
        by_cases c : f a < f (n + 1)
        · show (if f a < f (n + 1) then f a else f a - 1) < n
          rw [if_pos c]; omega
        · show (if f a < f (n + 1) then f a else f a - 1) < n
          rw [if_neg c]; omega)
      refine ⟨a, b, h1, by omega, ?_⟩
      have e1 := q' a (by omega)
      have e2 := q' b (by omega)
      have h3' : (if f a < f (n + 1) then f a else f a - 1) = (if f b < f (n + 1) then f b else f b - 1) := h3
      by_cases c : f a < f (n + 1) <;> by_cases d : f b < f (n + 1)
      · rw [if_pos c, if_pos d] at h3'; exact h3'
      · rw [if_pos c, if_neg d] at h3'; omega
      · rw [if_neg c, if_pos d] at h3'; omega
      · rw [if_neg c, if_neg d] at h3'; omega
theorem zp_cut_none {S : zS} (hW : zW S) {i : Nat} (hi : i < zv_ns S) (h : zp_cut S (nI i) = -1) : (∀ k, k < zv_nf S → ¬ zv_fl S k = i) ∧ zv_nf S < 8 := by
  obtain ⟨f0, f1, f2, f3, f4⟩ := hW.2.2.2.2.2
  have n3 := hW.2.2.1.2.1
  have A : ∀ k, k < zv_nf S → ¬ zv_fl S k = i := by
    rcases zs_fst_cases (fun k => S 29 k = nI i) nI (zv_nf S) 0 with ⟨-, q⟩ | ⟨j, h1, h2, h3, h4, -⟩
    · intro k hk e
      exact q k (by omega) (by omega) (by rw [(f2 k hk).1, e])
    · have e : nI j = -1 := h4.symm.trans h
      have := congrArg Int32.toInt e
      rw [nI_toInt (by omega)] at this
      exact absurd this (by show ¬ ((j : Int) = -1); omega)
  refine ⟨A, Classical.byContradiction fun c => ?_⟩
  obtain ⟨a, b, h1, h2, h3⟩ := zs_pigeon 8 (fun k => if k = 8 then i else zv_fl S k) (fun a ha => by
    by_cases e : a = 8
    · show (if a = 8 then i else zv_fl S a) < 8
      rw [if_pos e]; omega
    · show (if a = 8 then i else zv_fl S a) < 8
      rw [if_neg e]
      have := (f2 a (by omega)).2
      omega)
  have h3' : (if a = 8 then i else zv_fl S a) = (if b = 8 then i else zv_fl S b) := h3
  rw [if_neg (by omega)] at h3'
  by_cases e : b = 8
  · rw [if_pos e] at h3'
    exact A a (by omega) h3'
  · rw [if_neg e] at h3'
    have := f3 a b (by omega) (by omega) h3'
    omega
theorem zR_film {S S' : zS} {sh : zm_Sh} {mi mi' : zm_Mi} {mr : zm_Mr} (hW : zW S) (hR : zR S sh mi mr) (hs : ∀ r, r ≠ 28 → r ≠ 29 → S' r = S r) (hm : ∀ a b, ¬ (a = 2 ∧ b = 9) → a ≠ 7 → mi' a b = mi a b) (h28 : mi' 2 9 = S' 28 0) (h29 : ∀ k, k < zv_nf S' → mi' 7 k = S' 29 k) : zR S' sh mi' mr := by
  obtain ⟨h1, h2, h3, h4⟩ := zR_out hR
  have e0 := hs 0 (by decide) (by decide)
  have e1 := hs 1 (by decide) (by decide)
  have e5 := hs 5 (by decide) (by decide)
  have e6 := hs 6 (by decide) (by decide)
  have e8 := hs 8 (by decide) (by decide)
  have e9 := hs 9 (by decide) (by decide)
  have e10 := hs 10 (by decide) (by decide)
  have e11 := hs 11 (by decide) (by decide)
  have e15 := hs 15 (by decide) (by decide)
  have e18 := hs 18 (by decide) (by decide)
  have e19 := hs 19 (by decide) (by decide)
  have back : ∀ l k r c, zR_at S' l k r c → (l = 2 ∧ k = 9 ∧ r = 28 ∧ c = 0) ∨ (l = 7 ∧ k < zv_nf S' ∧ r = 29 ∧ c = k) ∨ (zR_at S l k r c ∧ ¬ (l = 2 ∧ k = 9) ∧ l ≠ 7 ∧ r ≠ 28 ∧ r ≠ 29) := by
    intro l q r c H
    unfold zR_at zR_at1 zR_at2 zR_at3 zR_at4 zR_at5 at H ⊢
    simp only [zv_np, zv_jn, zv_nv, zv_sc, zv_ns, zv_pu, zv_sk, e0, e1, e5, e6, e9, e10, e11, e15] at H ⊢
    rcases H with H | ⟨p, hp, H⟩ | ⟨p, hp, H⟩ | ⟨p, hp, H⟩ | ⟨p, hp, hq, H⟩
    · rcases H with H | H | H | H | H | H | H | H
      · exact Or.inr (Or.inr ⟨Or.inl (Or.inl H), by omega, by omega, by omega, by omega⟩)
      · exact Or.inr (Or.inr ⟨Or.inl (Or.inr (Or.inl H)), by omega, by omega, by omega, by omega⟩)
      · exact Or.inr (Or.inr ⟨Or.inl (Or.inr (Or.inr (Or.inl H))), by omega, by omega, by omega, by omega⟩)
      · exact Or.inl H
      · exact Or.inr (Or.inr ⟨Or.inl (Or.inr (Or.inr (Or.inr (Or.inr (Or.inl H))))), by omega, by omega, by omega, by omega⟩)
      · exact Or.inr (Or.inr ⟨Or.inl (Or.inr (Or.inr (Or.inr (Or.inr (Or.inr (Or.inl H)))))), by omega, by omega, by omega, by omega⟩)
      · exact Or.inr (Or.inr ⟨Or.inl (Or.inr (Or.inr (Or.inr (Or.inr (Or.inr (Or.inr (Or.inl H))))))), by omega, by omega, by omega, by omega⟩)
      · exact Or.inr (Or.inl H)
    · exact Or.inr (Or.inr ⟨Or.inr (Or.inl ⟨p, hp, H⟩), by omega, by omega, by omega, by omega⟩)
    · exact Or.inr (Or.inr ⟨Or.inr (Or.inr (Or.inl ⟨p, hp, H⟩)), by omega, by omega, by omega, by omega⟩)
    · exact Or.inr (Or.inr ⟨Or.inr (Or.inr (Or.inr (Or.inl ⟨p, hp, H⟩))), by omega, by omega, by omega, by omega⟩)
    · refine Or.inr (Or.inr ⟨Or.inr (Or.inr (Or.inr (Or.inr ⟨p, hp, hq, H⟩))), ?_⟩)
      rcases H with H | ⟨j, hj, H⟩ <;> refine ⟨?_, ?_, ?_, ?_⟩ <;> omega
  refine zR_in ?_ (fun l k r c H => ?_) ?_ ?_
  · unfold zR_hs zR_free
    simp only [zv_np, zv_jn, zv_nv, zv_sc, zv_ns, zv_pu, zv_fr, e0, e1, e5, e6, e9, e10, e11]
    exact h1
  · rcases back l k r c H with ⟨rfl, rfl, rfl, rfl⟩ | ⟨rfl, h, rfl, rfl⟩ | ⟨h, g1, g2, g3, g4⟩
    · exact h28
    · exact h29 _ h
    · rw [hm l k g1 g2, hs r g3 g4]
      exact h2 l k r c h
  · unfold zR_en
    simp only [zv_nv, zv_sc, e5, e6, e8]
    intro v hv q hq
    rw [hm _ _ (by omega) (by omega)]
    exact h3 v hv q hq
  · simp only [zv_ns, e9]
    intro a ha
    obtain ⟨g1, g2, g3, g4⟩ := h4 a ha
    unfold zR_k
    simp only [zv_jn, zv_pu, zv_fr, e1, e10, e11, e18, e19]
    refine ⟨fun j hj => ?_, fun j f hj hf => ?_, ?_, fun f hf => ?_⟩
    · rw [hm _ _ (by omega) (by omega)]
      exact g1 j hj
    · rw [hm _ _ (by omega) (by omega), hm _ _ (by omega) (by omega)]
      exact g2 j f hj hf
    · rw [hm _ _ (by omega) (by omega)]
      exact g3
    · rw [hm _ _ (by omega) (by omega), hm _ _ (by omega) (by omega)]
      exact g4 f hf
theorem zW_film {S S' : zS} (hW : zW S) (hs : ∀ r, r ≠ 28 → r ≠ 29 → S' r = S r) (hf : zW_f S') : zW S' := by
  obtain ⟨hWp, hWv, hWs, hWk, hWr, -⟩ := hW
  have e0 := hs 0 (by decide) (by decide)
  have e1 := hs 1 (by decide) (by decide)
  have e2 := hs 2 (by decide) (by decide)
  have e3 := hs 3 (by decide) (by decide)
  have e4 := hs 4 (by decide) (by decide)
  have e5 := hs 5 (by decide) (by decide)
  have e6 := hs 6 (by decide) (by decide)
  have e7 := hs 7 (by decide) (by decide)
  have e8 := hs 8 (by decide) (by decide)
  have e9 := hs 9 (by decide) (by decide)
  have e10 := hs 10 (by decide) (by decide)
  have e11 := hs 11 (by decide) (by decide)
  have e12 := hs 12 (by decide) (by decide)
  have e13 := hs 13 (by decide) (by decide)
  have e14 := hs 14 (by decide) (by decide)
  have e15 := hs 15 (by decide) (by decide)
  have e16 := hs 16 (by decide) (by decide)
  have e18 := hs 18 (by decide) (by decide)
  have e19 := hs 19 (by decide) (by decide)
  have e24 := hs 24 (by decide) (by decide)
  have e26 := hs 26 (by decide) (by decide)
  refine ⟨?_, ?_, ?_, ?_, ?_, hf⟩
  · unfold zW_p
    simp only [zv_np, zv_jn, e0, e1, e2, e3, e4]
    exact hWp
  · unfold zW_v
    simp only [zv_nv, zv_sc, e5, e6, e7, e8]
    exact hWv
  · unfold zW_s
    simp only [zv_np, zv_nv, zv_ns, zv_pu, zv_fr, zv_st, zv_sk, e0, e5, e9, e10, e11, e12, e13, e14, e15, e16]
    exact hWs
  · unfold zW_k
    simp only [zv_ns, zv_fr, e9, e11, e18, e19]
    exact hWk
  · unfold zW_r
    simp only [zv_ns, zv_sk, e9, e15, e24, e26]
    exact hWr
/-- a shot more in the film -/
abbrev zt_cut (S : zS) (i : Nat) : zS := zm_u2 (zm_u2 S 29 (zv_nf S) (nI i)) 28 0 (nI (zv_nf S + 1))
theorem zt_cut_nf {S : zS} {i : Nat} (h : zv_nf S < 8) : zv_nf (zt_cut S i) = zv_nf S + 1 := by
  show zn (zm_u2 (zm_u2 S 29 (zv_nf S) (nI i)) 28 0 (nI (zv_nf S + 1)) 28 0) = _
  rw [zm_u2s]
  exact nI_clamp (n := zv_nf S + 1) (by omega)
theorem zt_cut_29 {S : zS} {i k : Nat} : zt_cut S i 29 k = if k = zv_nf S then nI i else S 29 k := by
  show zm_u2 (zm_u2 S 29 (zv_nf S) (nI i)) 28 0 (nI (zv_nf S + 1)) 29 k = _
  rw [zm_u2l (by decide)]
  by_cases e : k = zv_nf S
  · rw [if_pos e, e, zm_u2s]
  · rw [if_neg e, zm_u2k e]
theorem zt_cut_r {S : zS} {i r : Nat} (h1 : r ≠ 28) (h2 : r ≠ 29) : zt_cut S i r = S r := (zm_u2r h1).trans (zm_u2r h2)
theorem zt_cut_fl {S : zS} {i k : Nat} (hi : i < 8) : zv_fl (zt_cut S i) k = if k = zv_nf S then i else zv_fl S k := by
  show zn (zt_cut S i 29 k) = _
  rw [zt_cut_29]
  by_cases e : k = zv_nf S
  · rw [if_pos e, if_pos e]; exact nI_clamp (n := i) (by omega)
  · rw [if_neg e, if_neg e]
theorem zW_cut {S : zS} (hW : zW S) {i : Nat} (hi : i < zv_ns S) (hA : ∀ k, k < zv_nf S → ¬ zv_fl S k = i) (hn : zv_nf S < 8) : zW (zt_cut S i) := by
  obtain ⟨f0, f1, f2, f3, f4⟩ := id hW.2.2.2.2.2
  have n3 := hW.2.2.1.2.1
  have hns : zv_ns (zt_cut S i) = zv_ns S := by show zn (zt_cut S i 9 0) = _; rw [zt_cut_r (by decide) (by decide)]
  refine zW_film hW (fun r h1 h2 => zt_cut_r h1 h2) ⟨?_, ?_, fun k hk => ?_, fun a b ha hb hab => ?_, fun a => ?_⟩
  · rw [zt_cut_nf hn]; exact zm_u2s
  · rw [zt_cut_nf hn]; omega
  · rw [zt_cut_nf hn] at hk
    rw [zt_cut_fl (by omega), zt_cut_29, hns]
    by_cases e : k = zv_nf S
    · rw [if_pos e, if_pos e]; exact ⟨rfl, hi⟩
    · rw [if_neg e, if_neg e]; exact f2 k (by omega)
  · rw [zt_cut_nf hn] at ha hb
    rw [zt_cut_fl (by omega), zt_cut_fl (by omega)] at hab
    by_cases e : a = zv_nf S <;> by_cases e' : b = zv_nf S
    · omega
    · rw [if_pos e, if_neg e'] at hab; exact absurd hab.symm (hA b (by omega))
    · rw [if_neg e, if_pos e'] at hab; exact absurd hab (hA a (by omega))
    · rw [if_neg e, if_neg e'] at hab; exact f3 a b (by omega) (by omega) hab
  · rw [zt_cut_r (by decide) (by decide)]; exact f4 a
theorem zR_cut {S : zS} {sh : zm_Sh} {mi : zm_Mi} {mr : zm_Mr} (hW : zW S) (hR : zR S sh mi mr) {i : Nat} (hn : zv_nf S < 8) : zR (zt_cut S i) sh (zm_u2 (zm_u2 mi 7 (zv_nf S) (nI i)) 2 9 (nI (zv_nf S + 1))) mr := by
  refine zR_film hW hR (fun r h1 h2 => zt_cut_r h1 h2) (fun a b h1 h2 => (if_neg h1).trans (zm_u2l h2)) (zm_u2s.trans zm_u2s.symm) (fun k hk => ?_)
  rw [zt_cut_nf hn] at hk
  rw [zt_cut_29, zm_u2l (by decide)]
  by_cases e : k = zv_nf S
  · rw [if_pos e, e, zm_u2s]
  · rw [if_neg e, zm_u2k e]
    exact hR.1.2.2.2.2.2.2.2.2.2.2.2.2.2.2.2.2.2.2.2 k (by omega)

set_option maxRecDepth 20000 in
theorem P_cut (S : zS) (sh : zm_Sh) (mi : zm_Mi) (mr : zm_Mr) (hW : zW S) (hR : zR S sh mi mr) (s : Int32) : zz_Con yX5_cut (.code yX5_cut cX5_cut 3 (some Jvm.ClassFile.FieldType.int)) 10 10 60 [.ref 2, .int s] sh mi mr (zq_ok ((zs_ix s (zv_ns S))) (True) ((zv_fr S (zn s) ≤ zv_sk S (zn s)) ∧ (zp_cut S s = -1)) (zp_film (zt_cut S (zn s))) (zt_cut S (zn s)) sh mi mr) (zq_no ((zs_ix s (zv_ns S))) (True) ((zv_fr S (zn s) ≤ zv_sk S (zn s)) ∧ (zp_cut S s = -1)) sh mi mr) := by
  refine zz_begin RX5 [(0, .ref 2), (1, .int s)] (by decide) rfl rfl (Nat.le_of_ble_eq_true rfl) rfl ?_
  intro Γ D E ad hX hr hN hT
  obtain ⟨hRm, hRp, hRv, hRs, hRf⟩ := id hR
  obtain ⟨m1, m2, m3, m4, m5, m6, m7, m8, m9, m10, m11, m12, m13, m14, m15, m16, m17, m18, m19, m20⟩ := hRm
  obtain ⟨hWp, hWv, hWs, hWk, hWr, hWf⟩ := id hW
  obtain ⟨p0, p1, p2, p3, p4, p5⟩ := hWp
  obtain ⟨v0, v1, v2, v3, v4⟩ := hWv
  obtain ⟨s0, s1, s2, s3⟩ := hWs
  obtain ⟨f0, f1, f2, f3⟩ := hWf
  refine zz_aload_n hX dX5_cut_0 0 rfl rfl ?_
  refine zz_iload_n hX dX5_cut_1 1 rfl rfl ?_
  refine zz_callV hX zf_M_X5_106 (As := [.int s]) (st := []) (K_shotAt S sh mi mr hW hR s) m1 rfl rfl rfl (by decide) (Nat.le_of_ble_eq_true rfl) (Nat.le_of_ble_eq_true rfl) (Nat.le_of_ble_eq_true rfl) dX5_cut_2 ?_ ?_
  rotate_left
  · rintro e9 s9 i9 m9 ⟨x2, rfl, rfl, rfl, rfl⟩ -; exact zz_out hX hT (Nat.le_of_ble_eq_true rfl) (Nat.le_of_ble_eq_true rfl) (by unfold zq_no; skip; exact ⟨Or.inl ⟨rfl, fun h => x2 (h)⟩, rfl, rfl, rfl⟩)
  rintro v9 s9 i9 m9 ⟨i, hi, rfl, rfl, e2, e3, e4⟩ -
  obtain rfl := e2.symm
  obtain rfl := e3.symm
  obtain rfl := e4.symm
  have z_i : zn (nI i) = i := nI_clamp (n := i) (by omega)
  obtain ⟨a1, a2, a3, a4, a5, a6, a7, a8⟩ := zR_sh hW hR hi
  obtain ⟨t1, t2, t3, t4, t5, t6, t7, t8, t9, t10⟩ := a3
  obtain ⟨r1, r2, r3, r4, r5, r6, r7, r8, r9, r10, r11, r12, r13, r14, r15⟩ := t10
  obtain ⟨u1, u2, u3, u4, u5, u6, u7, u8, u9, u10⟩ := hRs i hi
  obtain ⟨b1, b2, b3, b4, b5, b6, b7, b8, b9, b10, b11, b12, b13⟩ := s2 i hi
  refine zz_astore_n (ls' := [(0, .ref 2), (1, .int (nI i)), (2, .ref (1000 + 100 * i))]) hX dX5_cut_5 rfl (Nat.le_of_ble_eq_true rfl) rfl ?_
  refine zz_aload_n hX dX5_cut_6 2 rfl rfl ?_
  refine zz_vI (x := zz_bi (zv_fr S i ≤ zv_sk S i)) hX zf_M_X5_113 (As := []) (st := []) (K_isDone S sh mi mr hW hR i hi) t1 rfl rfl rfl (by decide) (Nat.le_of_ble_eq_true rfl) (Nat.le_of_ble_eq_true rfl) (Nat.le_of_ble_eq_true rfl) dX5_cut_7 ?_
  refine zz_if_neB hX 23 dX5_cut_10 (by decide) (fun c10 => ?_) (fun c10 => ?_)
  · skip
    refine zz_aload_n hX dX5_cut_23 0 rfl rfl ?_
    refine zz_iload_n hX dX5_cut_24 1 rfl rfl ?_
    refine zz_vI (x := zp_cut S (nI i)) hX zf_M_X5_213 (As := [.int (nI i)]) (st := []) (K_cutIndex S sh mi mr hW hR (nI i)) m1 rfl rfl rfl (by decide) (Nat.le_of_ble_eq_true rfl) (Nat.le_of_ble_eq_true rfl) (Nat.le_of_ble_eq_true rfl) dX5_cut_25 ?_
    refine zz_iconst (v := (-1)) hX dX5_cut_28 rfl ?_
    refine zz_icmp_ne hX 41 dX5_cut_29 (by decide) (fun c29 => ?_) (fun c29 => ?_)
    · skip
      refine zz_throw hX hT zf_T_X5_216 dX5_cut_41 dX5_cut_44 dX5_cut_45 dX5_cut_47 dX5_cut_50 (by decide) (Nat.le_of_ble_eq_true rfl) (Nat.le_of_ble_eq_true rfl) (Nat.le_of_ble_eq_true rfl) ?_
      unfold zq_no; (try rw [z_i]); exact ⟨Or.inr (Or.inr ⟨rfl, zs_ix_nI hi (by omega), trivial, fun h => c29 h.2⟩), rfl, rfl, rfl⟩
    · skip
      refine zz_aload_n hX dX5_cut_32 0 rfl rfl ?_
      refine zz_getI (x := nI (zv_nf S)) hX zf_F_X5_50.r m1 rfl ((m16.trans f0)) dX5_cut_33 ?_
      refine zz_bipush (v := nI 8) hX dX5_cut_36 rfl ?_
      refine zz_icmp_ltN hX (by omega) (by decide) 51 dX5_cut_38 (by decide) (fun c38 => ?_) (fun c38 => ?_)
      · skip
        refine zz_aload_n hX dX5_cut_51 0 rfl rfl ?_
        refine zz_getR (y := 7) hX zf_F_X5_46.r m1 rfl m7 dX5_cut_52 ?_
        refine zz_aload_n hX dX5_cut_55 0 rfl rfl ?_
        refine zz_getI (x := nI (zv_nf S)) hX zf_F_X5_50.r m1 rfl ((m16.trans f0)) dX5_cut_56 ?_
        refine zz_iload_n hX dX5_cut_59 1 rfl rfl ?_
        refine zz_iast hX m12 (zv_nf S) rfl (by omega) (by decide) dX5_cut_60 ?_
        refine zz_aload_n hX dX5_cut_61 0 rfl rfl ?_
        refine zz_dup hX dX5_cut_62 rfl ?_
        refine zz_getI (x := nI (zv_nf S)) hX zf_F_X5_50.r m1 rfl ((zm_u2l (by decide)).trans ((m16.trans f0))) dX5_cut_63 ?_
        refine zz_iconst (v := nI 1) hX dX5_cut_66 rfl ?_
        refine zz_iadd (z := nI ((zv_nf S) + 1)) hX dX5_cut_67 (nI_add _ _) ?_
        refine zz_putI hX zf_F_X5_50 m1 rfl rfl rfl dX5_cut_68 ?_
        refine zz_aload_n hX dX5_cut_71 0 rfl rfl ?_
        refine zz_vI (x := zp_film (zt_cut S i)) hX zf_M_X5_223 (As := []) (st := []) (K_filmLength (zt_cut S i) sh (zm_u2 (zm_u2 mi 7 (zv_nf S) (nI i)) 2 9 (nI ((zv_nf S) + 1))) mr (zW_cut hW hi (zp_cut_none hW hi c29).1 c38) (zR_cut hW hR c38)) m1 rfl rfl rfl (by decide) (Nat.le_of_ble_eq_true rfl) (Nat.le_of_ble_eq_true rfl) (Nat.le_of_ble_eq_true rfl) dX5_cut_72 ?_
        refine zz_iret hX hr rfl (Nat.le_of_ble_eq_true rfl) (Nat.le_of_ble_eq_true rfl) dX5_cut_75 ?_
        unfold zq_ok
        (try rw [z_i])
        exact ⟨⟨zs_ix_nI hi (by omega), trivial, ⟨c10, c29⟩⟩, rfl, (zR_cut hW hR c38), (zr_fr (zr_fr zr_same.rfl' (by unfold zr_out; omega)) (by unfold zr_out; omega))⟩
      · skip
        refine zz_throw hX hT zf_T_X5_216 dX5_cut_41 dX5_cut_44 dX5_cut_45 dX5_cut_47 dX5_cut_50 (by decide) (Nat.le_of_ble_eq_true rfl) (Nat.le_of_ble_eq_true rfl) (Nat.le_of_ble_eq_true rfl) ?_
        unfold zq_no; (try rw [z_i]); exact ⟨Or.inr (Or.inr ⟨rfl, zs_ix_nI hi (by omega), trivial, fun h => by have := (zp_cut_none hW hi h.2).2; omega⟩), rfl, rfl, rfl⟩
  · skip
    refine zz_throw hX hT zf_T_X5_221 dX5_cut_13 dX5_cut_16 dX5_cut_17 dX5_cut_19 dX5_cut_22 (by decide) (Nat.le_of_ble_eq_true rfl) (Nat.le_of_ble_eq_true rfl) (Nat.le_of_ble_eq_true rfl) ?_
    unfold zq_no; (try rw [z_i]); exact ⟨Or.inr (Or.inr ⟨rfl, zs_ix_nI hi (by omega), trivial, fun h => c10 h.1⟩), rfl, rfl, rfl⟩

