/-! ===== more voices, puppets, shots ===== -/
theorem zr_P_same {s s' : zm_Sh} {m m' : zm_Mr} {t jn : Nat} (h : zr_P s m t jn) (e : ∀ l, t ≤ l → l ≤ t + 3 → s' l = s l ∧ m' l = m l) : zr_P s' m' t jn := by
  obtain ⟨h1, h2, h3, h4, h5, h6, h7⟩ := h
  have a0 := e t (by omega) (by omega)
  have a1 := e (t + 1) (by omega) (by omega)
  have a2 := e (t + 2) (by omega) (by omega)
  have a3 := e (t + 3) (by omega) (by omega)
  exact ⟨a0.1.trans h1, (congrFun a0.2 _).trans h2, (congrFun a0.2 _).trans h3, (congrFun a0.2 _).trans h4, a1.1.trans h5, a2.1.trans h6, a3.1.trans h7⟩
theorem zr_V_same {s s' : zm_Sh} {m m' : zm_Mr} {t : Nat} (h : zr_V s m t) (e : ∀ l, t ≤ l → l ≤ t + 2 → s' l = s l ∧ m' l = m l) : zr_V s' m' t := by
  obtain ⟨h1, h2, h3, h4, h5⟩ := h
  have a0 := e t (by omega) (by omega)
  have a1 := e (t + 1) (by omega) (by omega)
  have a2 := e (t + 2) (by omega) (by omega)
  exact ⟨a0.1.trans h1, (congrFun a0.2 _).trans h2, (congrFun a0.2 _).trans h3, a1.1.trans h4, a2.1.trans h5⟩
theorem zr_S_same {s s' : zm_Sh} {m m' : zm_Mr} {b p jn n : Nat} (hj : jn ≤ 6) (h : zr_S s m b p jn n) (e : ∀ l, b ≤ l → l < b + 100 → s' l = s l ∧ m' l = m l) : zr_S s' m' b p jn n := by
  obtain ⟨h1, h2, h3, h4, h5, h6, h7, h8, h9, h10⟩ := h
  have a0 := e b (by omega) (by omega)
  have a1 := e (b + 1) (by omega) (by omega)
  exact ⟨a0.1.trans h1, (congrFun a0.2 _).trans h2, (congrFun a0.2 _).trans h3, (congrFun a0.2 _).trans h4, (congrFun a0.2 _).trans h5, a1.1.trans h6, fun j hj => (congrFun a1.2 _).trans (h7 j hj), fun j hj => zr_T_same (h8 j hj) (fun l p q => e l (by omega) (by omega)), zr_T_same h9 (fun l p q => e l (by omega) (by omega)), zr_R_same h10 (fun l p q => e l (by omega) (by omega))⟩
section ZRS
variable {S S' : zS} {sh s : zm_Sh} {mi i : zm_Mi} {mr m : zm_Mr}
theorem zR_p_same {p : Nat} (h : zR_p S sh mi mr p) (e : ∀ l, 200 + 4 * p ≤ l → l ≤ 200 + 4 * p + 3 → s l = sh l ∧ i l = mi l ∧ m l = mr l) (e3 : m 3 p = mr 3 p) (r1 : S' 1 p = S 1 p) (r2 : S' 2 = S 2) (r3 : S' 3 = S 3) (r4 : S' 4 = S 4) : zR_p S' s i m p := by
  obtain ⟨h1, h2, h3, h4, h5, h6⟩ := h
  have a0 := e (200 + 4 * p) (by omega) (by omega)
  have a1 := e (200 + 4 * p + 1) (by omega) (by omega)
  have a2 := e (200 + 4 * p + 2) (by omega) (by omega)
  have a3 := e (200 + 4 * p + 3) (by omega) (by omega)
  have hj : zv_jn S' p = zv_jn S p := by unfold zv_jn; rw [r1]
  unfold zR_p
  rw [hj, r1, r2, r3, r4]
  exact ⟨e3.trans h1, zr_P_same h2 (fun l p q => ⟨(e l p q).1, (e l p q).2.2⟩), (congrFun a0.2.1 _).trans h3, fun j q => (congrFun a1.2.1 _).trans (h4 j q), fun j q => (congrFun a2.2.1 _).trans (h5 j q), fun j q => (congrFun a3.2.1 _).trans (h6 j q)⟩
theorem zR_v_same {v : Nat} (h : zR_v S sh mi mr v) (e : ∀ l, 300 + 3 * v ≤ l → l ≤ 300 + 3 * v + 2 → s l = sh l ∧ i l = mi l ∧ m l = mr l) (r6 : S' 6 v = S 6 v) (r7 : S' 7 = S 7) (r8 : S' 8 = S 8) : zR_v S' s i m v := by
  obtain ⟨h1, h2, h3, h4⟩ := h
  have a0 := e (300 + 3 * v) (by omega) (by omega)
  have a1 := e (300 + 3 * v + 1) (by omega) (by omega)
  have a2 := e (300 + 3 * v + 2) (by omega) (by omega)
  have hc : zv_sc S' v = zv_sc S v := by unfold zv_sc; rw [r6]
  unfold zR_v
  rw [hc, r6, r7, r8]
  exact ⟨zr_V_same h1 (fun l p q => ⟨(e l p q).1, (e l p q).2.2⟩), (congrFun a0.2.1 _).trans h2, fun j q => (congrFun a1.2.1 _).trans (h3 j q), fun j q => (congrFun a2.2.1 _).trans (h4 j q)⟩
theorem zR_s_same {a : Nat} (hj6 : zv_jn S (zv_pu S a) ≤ 6) (h : zR_s S sh mi mr a) (e : ∀ l, 1000 + 100 * a ≤ l → l < 1000 + 100 * a + 100 → s l = sh l ∧ i l = mi l ∧ m l = mr l) (e5 : m 5 a = mr 5 a) (r10 : S' 10 a = S 10 a) (r1 : S' 1 (zv_pu S a) = S 1 (zv_pu S a)) (r11 : S' 11 a = S 11 a) (r12 : S' 12 a = S 12 a) (r13 : S' 13 a = S 13 a) (r14 : S' 14 a = S 14 a) (r15 : S' 15 a = S 15 a) (r16 : S' 16 a = S 16 a) (rr : ∀ r, (18 ≤ r ∧ r ≤ 19) ∨ (22 ≤ r ∧ r ≤ 27) → S' r = S r) : zR_s S' s i m a := by
  obtain ⟨h1, h2, h3, h4, h5, h6, h7, h8, h9, h10⟩ := h
  have a0 := e (1000 + 100 * a) (by omega) (by omega)
  have a5 := e (1000 + 100 * a + 5) (by omega) (by omega)
  have hpu : zv_pu S' a = zv_pu S a := by unfold zv_pu; rw [r10]
  have hjn : zv_jn S' (zv_pu S' a) = zv_jn S (zv_pu S a) := by rw [hpu]; unfold zv_jn; rw [r1]
  have hfr : zv_fr S' a = zv_fr S a := by unfold zv_fr; rw [r11]
  have hsk : zv_sk S' a = zv_sk S a := by unfold zv_sk; rw [r15]
  have R : ∀ l, 1000 + 100 * a ≤ l → l < 1000 + 100 * a + 100 → i l = mi l := fun l p q => (e l p q).2.1
  unfold zR_s
  rw [hjn, hpu, hfr, r11, r12, r13, r14, r15, r16]
  refine ⟨e5.trans h1, zr_S_same hj6 h2 (fun l p q => ⟨(e l p q).1, (e l p q).2.2⟩), (congrFun a0.2.1 _).trans h3, (congrFun a0.2.1 _).trans h4, (congrFun a0.2.1 _).trans h5, (congrFun a0.2.1 _).trans h6, (congrFun a0.2.1 _).trans h7, (congrFun a5.2.1 _).trans h8, ?_, ?_⟩
  · obtain ⟨g1, g2, g3, g4⟩ := h9
    unfold zR_k
    rw [hjn, hfr, rr 18 (by omega), rr 19 (by omega)]
    refine ⟨fun j hj => ?_, fun j f hj hf => ?_, ?_, fun f hf => ?_⟩
    · rw [R _ (by omega) (by omega)]; exact g1 j hj
    · rw [R _ (by omega) (by omega), R _ (by omega) (by omega)]; exact g2 j f hj hf
    · rw [R _ (by omega) (by omega)]; exact g3
    · rw [R _ (by omega) (by omega), R _ (by omega) (by omega)]; exact g4 f hf
  · unfold zR_r
    rw [hjn, hsk, rr 22 (by omega), rr 23 (by omega), rr 24 (by omega), rr 25 (by omega), rr 26 (by omega), rr 27 (by omega)]
    intro f hf
    obtain ⟨g1, g2, g3, g4, g5, g6⟩ := h10 f hf
    refine ⟨?_, ?_, ?_, ?_, ?_, fun j hj => ?_⟩
    · rw [R _ (by omega) (by omega)]; exact g1
    · rw [R _ (by omega) (by omega)]; exact g2
    · rw [R _ (by omega) (by omega)]; exact g3
    · rw [R _ (by omega) (by omega)]; exact g4
    · rw [R _ (by omega) (by omega)]; exact g5
    · rw [R _ (by omega) (by omega)]; exact g6 j hj
end ZRS
/-! the state of a new film -/
def zt_0 : zS := fun r _ => if r = 18 then -1 else if r = 19 then 100000 else 0
theorem zs_rng1 {x : Int32} {a n : Nat} (h : nI a ≤ x ∧ x ≤ nI n) (hn : n < 2 ^ 31) (ha : a < 2 ^ 31) : ∃ t : Nat, (a ≤ t ∧ t ≤ n) ∧ x = nI t := by
  have h1 := zs_le.mp h.1
  have h2 := zs_le.mp h.2
  rw [nI_toInt (by omega)] at h1 h2
  refine ⟨x.toInt.toNat, by omega, ?_⟩
  apply Int32.toInt_inj.mp
  rw [nI_toInt (by omega)]
  omega
def zt_voice (S : zS) : zS := zm_u2 S 5 0 (nI (zv_nv S + 1))
def zt_puppet (S : zS) (x : Int32) : zS := zm_u2 (zm_u2 S 1 (zv_np S) x) 0 0 (nI (zv_np S + 1))
def zt_shot (S : zS) (p n stp v : Int32) : zS := zm_u2 (zm_u2 (zm_u2 (zm_u2 (zm_u2 (zm_u2 S 10 (zv_ns S) p) 11 (zv_ns S) n) 12 (zv_ns S) stp) 13 (zv_ns S) v) 14 (zv_ns S) (-1)) 9 0 (nI (zv_ns S + 1))
theorem zR_m_cnt {S : zS} {sh : zm_Sh} {mi : zm_Mi} {mr : zm_Mr} (h : zR_m S sh mi mr) {S' : zS} {s : zm_Sh} {i : zm_Mi} {m : zm_Mr} (e : ∀ l, 2 ≤ l → l ≤ 7 → s l = sh l) (ei : ∀ l, 6 ≤ l → l ≤ 7 → i l = mi l) (em : ∀ k, k ≠ 4 → m 2 k = mr 2 k) (em4 : m 2 4 = some (300 + 3 * zv_nv S')) (r17 : S' 17 = S 17) (r28 : S' 28 = S 28) (r29 : S' 29 = S 29) (e9 : i 2 9 = mi 2 9) (e10 : i 2 10 = mi 2 10) (e11 : i 2 11 = mi 2 11) (r20 : S' 20 = S 20) (r21 : S' 21 = S 21) (i1 : i 2 1 = S' 0 0) (i3 : i 2 3 = S' 5 0) (i6 : i 2 6 = S' 9 0) : zR_m S' s i m := by
  obtain ⟨m1, m2, m3, m4, m5, m6, m7, m8, m9, m10, m11, m12, m13, m14, m15, m16, m17, m18, m19, m20⟩ := h
  have hnf : zv_nf S' = zv_nf S := by unfold zv_nf; rw [r28]
  unfold zR_m
  rw [hnf, r17, r28, r29, r20, r21]
  exact ⟨(e 2 (by omega) (by omega)).trans m1, (em 0 (by decide)).trans m2, (em 2 (by decide)).trans m3, em4, (em 5 (by decide)).trans m5, (em 7 (by decide)).trans m6, (em 8 (by decide)).trans m7, (e 3 (by omega) (by omega)).trans m8, (e 4 (by omega) (by omega)).trans m9, (e 5 (by omega) (by omega)).trans m10, (e 6 (by omega) (by omega)).trans m11, (e 7 (by omega) (by omega)).trans m12, i1, i3, i6, e9.trans m16, e10.trans m17, e11.trans m18, fun a ha => (congrFun (ei 6 (by omega) (by omega)) _).trans (m19 a ha), fun k hk => (congrFun (ei 7 (by omega) (by omega)) _).trans (m20 k hk)⟩
theorem zR_voice {S : zS} {sh s9 : zm_Sh} {mi i9 : zm_Mi} {mr m9 : zm_Mr} (hW : zW S) (hR : zR S sh mi mr) (hn : zv_nv S < 6) (h9 : zr_same (zr_ot (300 + 3 * zv_nv S + 3) (300 + 3 * zv_nv S + 3 + 2)) (zm_u1 sh (300 + 3 * zv_nv S + 3) (some (0, 4))) (zm_u1 mi (300 + 3 * zv_nv S + 3) (fun _ => 0)) (zm_u1 (zm_u2 mr 4 (zv_nv S) (some (300 + 3 * zv_nv S))) (300 + 3 * zv_nv S + 3) (fun _ => none)) s9 i9 m9) (hV : zr_V s9 m9 (300 + 3 * zv_nv S + 3)) (hc : i9 (300 + 3 * zv_nv S + 3) 2 = nI 0) :
    zR (zt_voice S) s9 (zm_u2 i9 2 3 (nI (zv_nv S + 1))) (zm_u2 m9 2 4 (some (300 + 3 * zv_nv S + 3))) := by
  obtain ⟨hm, hp, ⟨hv1, hv2⟩, hs, hf⟩ := hR
  have n1 := hW.1.2.1
  have n3 := hW.2.2.1.2.1
  have z6 := hW.2.1.2.2.2.1 (zv_nv S + 1) (by omega) (by omega)
  have hnv : zv_nv (zt_voice S) = zv_nv S + 1 := by show zn (zm_u2 S 5 0 (nI (zv_nv S + 1)) 5 0) = _; rw [zm_u2s]; exact nI_clamp (n := zv_nv S + 1) (by omega)
  have E : ∀ r, r ≠ 5 → zt_voice S r = S r := fun r h => zm_u2r h
  have e50 : zt_voice S 5 0 = nI (zv_nv S + 1) := zm_u2s
  generalize zt_voice S = S' at *
  have e0 := E 0 (by decide)
  have e1 := E 1 (by decide)
  have e9 := E 9 (by decide)
  have hnp : zv_np S' = zv_np S := by unfold zv_np; rw [e0]
  have hns : zv_ns S' = zv_ns S := by unfold zv_ns; rw [e9]
  have A : ∀ l, l < 300 + 3 * zv_nv S + 3 ∨ 300 + 3 * zv_nv S + 3 + 2 < l → l ≠ 4 → l ≠ 2 → s9 l = sh l ∧ zm_u2 i9 2 3 (nI (zv_nv S + 1)) l = mi l ∧ zm_u2 m9 2 4 (some (300 + 3 * zv_nv S + 3)) l = mr l := fun l hl h4 h2 => by
    obtain ⟨f1, f2, f3⟩ := h9 l hl
    rw [zm_u1n (by omega)] at f1 f2 f3
    exact ⟨f1, (zm_u2r h2).trans f2, (zm_u2r h2).trans (f3.trans (zm_u2r h4))⟩
  have sA : ∀ l, l < 300 + 3 * zv_nv S + 3 ∨ 300 + 3 * zv_nv S + 3 + 2 < l → s9 l = sh l := fun l hl => by
    have f1 := (h9 l hl).1
    rw [zm_u1n (by omega)] at f1
    exact f1
  have a2 := h9 2 (Or.inl (by omega))
  rw [zm_u1n (by omega), zm_u1n (by omega), zm_u1n (by omega)] at a2
  have a4 := h9 4 (Or.inl (by omega))
  rw [zm_u1n (by omega), zm_u1n (by omega), zm_u1n (by omega)] at a4
  refine ⟨zR_m_cnt hm (fun l h1 h2 => sA l (by omega)) (fun l h1 h2 => (A l (by omega) (by omega) (by omega)).2.1) (fun k hk => ?_) ?_ (E 17 (by decide)) (E 28 (by decide)) (E 29 (by decide)) ?_ ?_ ?_ (E 20 (by decide)) (E 21 (by decide)) ?_ ?_ ?_, fun p hp9 => ?_, ⟨fun v hv => ?_, fun v hv => ?_⟩, fun a ha => ?_, ?_, ?_, ?_⟩
  · rw [zm_u2k hk, a2.2.2, zm_u2l (by decide)]
  · rw [zm_u2s, hnv]; exact congrArg some (by omega)
  · rw [zm_u2k (by decide), a2.2.1]
  · rw [zm_u2k (by decide), a2.2.1]
  · rw [zm_u2k (by decide), a2.2.1]
  · rw [zm_u2k (by decide), a2.2.1, e0]; exact hm.2.2.2.2.2.2.2.2.2.2.2.2.1
  · rw [zm_u2s, e50]
  · rw [zm_u2k (by decide), a2.2.1, e9]; exact hm.2.2.2.2.2.2.2.2.2.2.2.2.2.2.1
  · rw [hnp] at hp9
    exact zR_p_same (hp p hp9) (fun l h1 h2 => A l (by omega) (by omega) (by omega)) (congrFun (A 3 (by omega) (by omega) (by omega)).2.2 _) (congrFun e1 _) (E 2 (by decide)) (E 3 (by decide)) (E 4 (by decide))
  · rw [hnv] at hv
    rw [zm_u2l (by decide), a4.2.2]
    by_cases e : v = zv_nv S
    · rw [e]; exact zm_u2s
    · rw [zm_u2k e]; exact hv1 v (by omega)
  · rw [hnv] at hv
    by_cases e : v = zv_nv S + 1
    · rw [e]
      have e3 : 300 + 3 * (zv_nv S + 1) = 300 + 3 * zv_nv S + 3 := by omega
      unfold zR_v
      rw [e3, show zv_sc S' (zv_nv S + 1) = 0 from by unfold zv_sc; rw [E 6 (by decide), z6]; decide, E 6 (by decide), z6]
      refine ⟨zr_V_same hV (fun l h1 h2 => ⟨rfl, zm_u2r (by omega)⟩), ?_, fun k hk => absurd hk (Nat.not_lt_zero _), fun k hk => absurd hk (Nat.not_lt_zero _)⟩
      rw [zm_u2l (by omega)]; exact hc
    · exact zR_v_same (hv2 v (by omega)) (fun l h1 h2 => A l (by omega) (by omega) (by omega)) (congrFun (E 6 (by decide)) _) (E 7 (by decide)) (E 8 (by decide))
  · rw [hns] at ha
    have hj6 := (hW.1.2.2.1 _ (hW.2.2.1.2.2.1 a ha).2.1).2.2
    exact zR_s_same hj6 (hs a ha) (fun l h1 h2 => A l (by omega) (by omega) (by omega)) (congrFun (A 5 (by omega) (by omega) (by omega)).2.2 _) (congrFun (E 10 (by decide)) _) (congrFun e1 _) (congrFun (E 11 (by decide)) _) (congrFun (E 12 (by decide)) _) (congrFun (E 13 (by decide)) _) (congrFun (E 14 (by decide)) _) (congrFun (E 15 (by decide)) _) (congrFun (E 16 (by decide)) _) (fun r hr => E r (by omega))
  · rw [hnp]; exact fun l h1 h2 => (sA l (by omega)).trans (hf.1 l h1 h2)
  · rw [hnv]; exact fun l h1 h2 => (sA l (by omega)).trans (hf.2.1 l (by omega) h2)
  · rw [hns]; exact fun l h1 => (sA l (by omega)).trans (hf.2.2 l h1)
theorem zR_puppet {S : zS} {sh s9 : zm_Sh} {mi i9 : zm_Mi} {mr m9 : zm_Mr} {jn : Nat} (hW : zW S) (hR : zR S sh mi mr) (hn : zv_np S < 5) (hj : 1 ≤ jn ∧ jn ≤ 6) (h9 : zr_same (zr_ot (200 + 4 * zv_np S) (200 + 4 * zv_np S + 3)) (zm_u1 sh (200 + 4 * zv_np S) (some (0, 0))) (zm_u1 mi (200 + 4 * zv_np S) (fun _ => 0)) (zm_u1 mr (200 + 4 * zv_np S) (fun _ => none)) s9 i9 m9) (hP : zr_P s9 m9 (200 + 4 * zv_np S) jn) (h0 : i9 (200 + 4 * zv_np S) 0 = nI jn) (h1 : ∀ k, i9 (200 + 4 * zv_np S + 1) k = 0) (h2 : ∀ k, i9 (200 + 4 * zv_np S + 2) k = 0) (h3 : ∀ k, i9 (200 + 4 * zv_np S + 3) k = 0) :
    zR (zt_puppet S (nI jn)) s9 (zm_u2 i9 2 1 (nI (zv_np S + 1))) (zm_u2 m9 3 (zv_np S) (some (200 + 4 * zv_np S))) := by
  obtain ⟨hm, hp, ⟨hv1, hv2⟩, hs, hf⟩ := hR
  have n2 := hW.2.1.2.1
  have n3 := hW.2.2.1.2.1
  have z2 := hW.1.2.2.2.2.1
  have z4 := hW.1.2.2.2.2.2
  have hnp : zv_np (zt_puppet S (nI jn)) = zv_np S + 1 := by show zn (zm_u2 (zm_u2 S 1 (zv_np S) (nI jn)) 0 0 (nI (zv_np S + 1)) 0 0) = _; rw [zm_u2s]; exact nI_clamp (n := zv_np S + 1) (by omega)
  have E : ∀ r, r ≠ 0 → r ≠ 1 → zt_puppet S (nI jn) r = S r := fun r h h' => (zm_u2r h).trans (zm_u2r h')
  have e00 : zt_puppet S (nI jn) 0 0 = nI (zv_np S + 1) := zm_u2s
  have e1n : zt_puppet S (nI jn) 1 (zv_np S) = nI jn := (zm_u2l (by decide)).trans zm_u2s
  have e1 : ∀ p, p ≠ zv_np S → zt_puppet S (nI jn) 1 p = S 1 p := fun p h => (zm_u2l (by decide)).trans (zm_u2k h)
  generalize zt_puppet S (nI jn) = S' at *
  have e9 := E 9 (by decide) (by decide)
  have e5 := E 5 (by decide) (by decide)
  have hnv : zv_nv S' = zv_nv S := by unfold zv_nv; rw [e5]
  have hns : zv_ns S' = zv_ns S := by unfold zv_ns; rw [e9]
  have A : ∀ l, l < 200 + 4 * zv_np S ∨ 200 + 4 * zv_np S + 3 < l → l ≠ 2 → l ≠ 3 → s9 l = sh l ∧ zm_u2 i9 2 1 (nI (zv_np S + 1)) l = mi l ∧ zm_u2 m9 3 (zv_np S) (some (200 + 4 * zv_np S)) l = mr l := fun l hl h2 h3 => by
    obtain ⟨f1, f2, f3⟩ := h9 l hl
    rw [zm_u1n (by omega)] at f1 f2 f3
    exact ⟨f1, (zm_u2r h2).trans f2, (zm_u2r h3).trans f3⟩
  have sA : ∀ l, l < 200 + 4 * zv_np S ∨ 200 + 4 * zv_np S + 3 < l → s9 l = sh l := fun l hl => by
    have f1 := (h9 l hl).1
    rw [zm_u1n (by omega)] at f1
    exact f1
  have a2 := h9 2 (Or.inl (by omega))
  rw [zm_u1n (by omega), zm_u1n (by omega), zm_u1n (by omega)] at a2
  have a3 := h9 3 (Or.inl (by omega))
  rw [zm_u1n (by omega), zm_u1n (by omega), zm_u1n (by omega)] at a3
  refine ⟨zR_m_cnt hm (fun l h1 h2 => sA l (by omega)) (fun l h1 h2 => (A l (by omega) (by omega) (by omega)).2.1) (fun k hk => ?_) ?_ (E 17 (by decide) (by decide)) (E 28 (by decide) (by decide)) (E 29 (by decide) (by decide)) ?_ ?_ ?_ (E 20 (by decide) (by decide)) (E 21 (by decide) (by decide)) ?_ ?_ ?_, fun p hp9 => ?_, ⟨fun v hv => ?_, fun v hv => ?_⟩, fun a ha => ?_, ?_, ?_, ?_⟩
  · rw [zm_u2l (by decide), a2.2.2]
  · rw [zm_u2l (by decide), a2.2.2, hnv]; exact hm.2.2.2.1
  · rw [zm_u2k (by decide), a2.2.1]
  · rw [zm_u2k (by decide), a2.2.1]
  · rw [zm_u2k (by decide), a2.2.1]
  · rw [zm_u2s, e00]
  · rw [zm_u2k (by decide), a2.2.1, e5]; exact hm.2.2.2.2.2.2.2.2.2.2.2.2.2.1
  · rw [zm_u2k (by decide), a2.2.1, e9]; exact hm.2.2.2.2.2.2.2.2.2.2.2.2.2.2.1
  · rw [hnp] at hp9
    by_cases e : p = zv_np S
    · rw [e]
      unfold zR_p
      rw [show zv_jn S' (zv_np S) = jn from by unfold zv_jn; rw [e1n]; exact nI_clamp (n := jn) (by omega), e1n]
      have i2 : ∀ l k, l ≠ 2 → zm_u2 i9 2 1 (nI (zv_np S + 1)) l k = i9 l k := fun l k h => zm_u2l h
      refine ⟨zm_u2s, zr_P_same hP (fun l p q => ⟨rfl, zm_u2r (by omega)⟩), ?_, fun j hj9 => ?_, fun j hj9 => ?_, fun j hj9 => ?_⟩
      · rw [i2 _ _ (by omega)]; exact h0
      · rw [i2 _ _ (by omega), h1, E 2 (by decide) (by decide), (z2 _ (by omega)).1]
      · rw [i2 _ _ (by omega), h2, E 3 (by decide) (by decide), (z2 _ (by omega)).2]
      · rw [i2 _ _ (by omega), h3, E 4 (by decide) (by decide), z4 _ (by omega)]
    · refine zR_p_same (hp p (by omega)) (fun l h1 h2 => A l (by omega) (by omega) (by omega)) ?_ (e1 p e) (E 2 (by decide) (by decide)) (E 3 (by decide) (by decide)) (E 4 (by decide) (by decide))
      rw [zm_u2k e, a3.2.2]
  · rw [hnv] at hv
    rw [show zm_u2 m9 3 (zv_np S) (some (200 + 4 * zv_np S)) 4 v = mr 4 v from congrFun (A 4 (by omega) (by omega) (by omega)).2.2 _]
    exact hv1 v hv
  · rw [hnv] at hv
    exact zR_v_same (hv2 v hv) (fun l h1 h2 => A l (by omega) (by omega) (by omega)) (congrFun (E 6 (by decide) (by decide)) _) (E 7 (by decide) (by decide)) (E 8 (by decide) (by decide))
  · rw [hns] at ha
    have hpu := (hW.2.2.1.2.2.1 a ha).2.1
    have hj6 := (hW.1.2.2.1 _ hpu).2.2
    exact zR_s_same hj6 (hs a ha) (fun l h1 h2 => A l (by omega) (by omega) (by omega)) (congrFun (A 5 (by omega) (by omega) (by omega)).2.2 _) (congrFun (E 10 (by decide) (by decide)) _) (e1 _ (by omega)) (congrFun (E 11 (by decide) (by decide)) _) (congrFun (E 12 (by decide) (by decide)) _) (congrFun (E 13 (by decide) (by decide)) _) (congrFun (E 14 (by decide) (by decide)) _) (congrFun (E 15 (by decide) (by decide)) _) (congrFun (E 16 (by decide) (by decide)) _) (fun r hr => E r (by omega) (by omega))
  · rw [hnp]; exact fun l h1 h2 => (sA l (by omega)).trans (hf.1 l (by omega) h2)
  · rw [hnv]; exact fun l h1 h2 => (sA l (by omega)).trans (hf.2.1 l h1 h2)
  · rw [hns]; exact fun l h1 => (sA l (by omega)).trans (hf.2.2 l h1)
theorem zR_shot {S : zS} {sh s9 : zm_Sh} {mi i9 : zm_Mi} {mr m9 : zm_Mr} {p n stp : Nat} {vo : Int32} (hW : zW S) (hR : zR S sh mi mr) (hn : zv_ns S < 8) (hp0 : p < zv_np S) (hn1 : 1 ≤ n ∧ n ≤ 48) (hst : 1 ≤ stp ∧ stp ≤ 2) (h9 : zk_pS (zm_u1 sh (1000 + 100 * zv_ns S) (some (0, 2))) (zm_u1 mi (1000 + 100 * zv_ns S) (fun _ => 0)) (zm_u1 mr (1000 + 100 * zv_ns S) (fun _ => none)) (1000 + 100 * zv_ns S) (200 + 4 * p) (zv_jn S p) n (nI stp) vo none s9 i9 m9) :
    zR (zt_shot S (nI p) (nI n) (nI stp) vo) s9 (zm_u2 i9 2 6 (nI (zv_ns S + 1))) (zm_u2 m9 5 (zv_ns S) (some (1000 + 100 * zv_ns S))) := by
  obtain ⟨hm, hp, ⟨hv1, hv2⟩, hs, hf⟩ := hR
  obtain ⟨-, kS, ⟨k1, k2, k3, k4, k5⟩, kc, kT, kg, kz, hsm⟩ := h9
  have n1 := hW.1.2.1
  have n2 := hW.2.1.2.1
  have hj6 := (hW.1.2.2.1 p hp0).2.2
  have z15 := hW.2.2.1.2.2.2 (zv_ns S) (Nat.le_refl _)
  have z18 := hW.2.2.2.1.2.1
  have z19 := hW.2.2.2.1.2.2.2.2.1
  have hns : zv_ns (zt_shot S (nI p) (nI n) (nI stp) vo) = zv_ns S + 1 := by show zn (zm_u2 _ 9 0 (nI (zv_ns S + 1)) 9 0) = _; rw [zm_u2s]; exact nI_clamp (n := zv_ns S + 1) (by omega)
  have E : ∀ r, r ≠ 9 → ¬ (10 ≤ r ∧ r ≤ 14) → zt_shot S (nI p) (nI n) (nI stp) vo r = S r := fun r h h' => (zm_u2r h).trans ((zm_u2r (by omega)).trans ((zm_u2r (by omega)).trans ((zm_u2r (by omega)).trans ((zm_u2r (by omega)).trans (zm_u2r (by omega))))))
  have e90 : zt_shot S (nI p) (nI n) (nI stp) vo 9 0 = nI (zv_ns S + 1) := zm_u2s
  have F : ∀ r a, a ≠ zv_ns S → 10 ≤ r → zt_shot S (nI p) (nI n) (nI stp) vo r a = S r a := fun r a h h' => (zm_u2l (by omega)).trans ((if_neg (by omega)).trans ((if_neg (by omega)).trans ((if_neg (by omega)).trans ((if_neg (by omega)).trans (if_neg (by omega))))))
  have g10 : zt_shot S (nI p) (nI n) (nI stp) vo 10 (zv_ns S) = nI p := (zm_u2l (by decide)).trans ((zm_u2l (by decide)).trans ((zm_u2l (by decide)).trans ((zm_u2l (by decide)).trans ((zm_u2l (by decide)).trans zm_u2s))))
  have g11 : zt_shot S (nI p) (nI n) (nI stp) vo 11 (zv_ns S) = nI n := (zm_u2l (by decide)).trans ((zm_u2l (by decide)).trans ((zm_u2l (by decide)).trans ((zm_u2l (by decide)).trans zm_u2s)))
  have g12 : zt_shot S (nI p) (nI n) (nI stp) vo 12 (zv_ns S) = nI stp := (zm_u2l (by decide)).trans ((zm_u2l (by decide)).trans ((zm_u2l (by decide)).trans zm_u2s))
  have g13 : zt_shot S (nI p) (nI n) (nI stp) vo 13 (zv_ns S) = vo := (zm_u2l (by decide)).trans ((zm_u2l (by decide)).trans zm_u2s)
  have g14 : zt_shot S (nI p) (nI n) (nI stp) vo 14 (zv_ns S) = -1 := (zm_u2l (by decide)).trans zm_u2s
  generalize zt_shot S (nI p) (nI n) (nI stp) vo = S' at *
  have e0 := E 0 (by decide) (by decide)
  have e1 := E 1 (by decide) (by decide)
  have e5 := E 5 (by decide) (by decide)
  have hnv : zv_nv S' = zv_nv S := by unfold zv_nv; rw [e5]
  have hnp : zv_np S' = zv_np S := by unfold zv_np; rw [e0]
  have A : ∀ l, l < 1000 + 100 * zv_ns S ∨ 1000 + 100 * zv_ns S + 99 < l → l ≠ 2 → l ≠ 5 → s9 l = sh l ∧ zm_u2 i9 2 6 (nI (zv_ns S + 1)) l = mi l ∧ zm_u2 m9 5 (zv_ns S) (some (1000 + 100 * zv_ns S)) l = mr l := fun l hl h2 h3 => by
    obtain ⟨f1, f2, f3⟩ := hsm l hl
    rw [zm_u1n (by omega)] at f1 f2 f3
    exact ⟨f1, (zm_u2r h2).trans f2, (zm_u2r h3).trans f3⟩
  have sA : ∀ l, l < 1000 + 100 * zv_ns S ∨ 1000 + 100 * zv_ns S + 99 < l → s9 l = sh l := fun l hl => by
    have f1 := (hsm l hl).1
    rw [zm_u1n (by omega)] at f1
    exact f1
  have a2 := hsm 2 (Or.inl (by omega))
  rw [zm_u1n (by omega), zm_u1n (by omega), zm_u1n (by omega)] at a2
  have a5 := hsm 5 (Or.inl (by omega))
  rw [zm_u1n (by omega), zm_u1n (by omega), zm_u1n (by omega)] at a5
  refine ⟨zR_m_cnt hm (fun l h1 h2 => sA l (by omega)) (fun l h1 h2 => (A l (by omega) (by omega) (by omega)).2.1) (fun k hk => ?_) ?_ (E 17 (by decide) (by decide)) (E 28 (by decide) (by decide)) (E 29 (by decide) (by decide)) ?_ ?_ ?_ (E 20 (by decide) (by decide)) (E 21 (by decide) (by decide)) ?_ ?_ ?_, fun q hp9 => ?_, ⟨fun v hv => ?_, fun v hv => ?_⟩, fun a ha => ?_, ?_, ?_, ?_⟩
  · rw [zm_u2l (by decide), a2.2.2]
  · rw [zm_u2l (by decide), a2.2.2, hnv]; exact hm.2.2.2.1
  · rw [zm_u2k (by decide), a2.2.1]
  · rw [zm_u2k (by decide), a2.2.1]
  · rw [zm_u2k (by decide), a2.2.1]
  · rw [zm_u2k (by decide), a2.2.1, e0]; exact hm.2.2.2.2.2.2.2.2.2.2.2.2.1
  · rw [zm_u2k (by decide), a2.2.1, e5]; exact hm.2.2.2.2.2.2.2.2.2.2.2.2.2.1
  · rw [zm_u2s, e90]
  · rw [hnp] at hp9
    exact zR_p_same (hp q hp9) (fun l h1 h2 => A l (by omega) (by omega) (by omega)) (congrFun (A 3 (by omega) (by omega) (by omega)).2.2 _) (congrFun e1 _) (E 2 (by decide) (by decide)) (E 3 (by decide) (by decide)) (E 4 (by decide) (by decide))
  · rw [hnv] at hv
    rw [show zm_u2 m9 5 (zv_ns S) (some (1000 + 100 * zv_ns S)) 4 v = mr 4 v from congrFun (A 4 (by omega) (by omega) (by omega)).2.2 _]
    exact hv1 v hv
  · rw [hnv] at hv
    exact zR_v_same (hv2 v hv) (fun l h1 h2 => A l (by omega) (by omega) (by omega)) (congrFun (E 6 (by decide) (by decide)) _) (E 7 (by decide) (by decide)) (E 8 (by decide) (by decide))
  · rw [hns] at ha
    by_cases e : a = zv_ns S
    · rw [e]
      have hpu : zv_pu S' (zv_ns S) = p := by unfold zv_pu; rw [g10]; exact nI_clamp (n := p) (by omega)
      have hfr : zv_fr S' (zv_ns S) = n := by unfold zv_fr; rw [g11]; exact nI_clamp (n := n) (by omega)
      have hjn : zv_jn S' p = zv_jn S p := by unfold zv_jn; rw [e1]
      have hsk : zv_sk S' (zv_ns S) = 0 := by unfold zv_sk; rw [E 15 (by decide) (by decide), z15.1]; decide
      have i2 : ∀ l k, l ≠ 2 → zm_u2 i9 2 6 (nI (zv_ns S + 1)) l k = i9 l k := fun l k h => zm_u2l h
      unfold zR_s
      rw [hpu, hfr, hjn, g11, g12, g13, g14, E 16 (by decide) (by decide), E 15 (by decide) (by decide), z15.1, z15.2]
      refine ⟨zm_u2s, zr_S_same hj6 kS (fun l p q => ⟨rfl, zm_u2r (by omega)⟩), (i2 _ _ (by omega)).trans k1, (i2 _ _ (by omega)).trans k2, (i2 _ _ (by omega)).trans k3, (i2 _ _ (by omega)).trans k4, (i2 _ _ (by omega)).trans k5, (i2 _ _ (by omega)).trans kc, ?_, ?_⟩
      · unfold zR_k
        rw [hpu, hfr, hjn, E 18 (by decide) (by decide), E 19 (by decide) (by decide)]
        refine ⟨fun j hj => (i2 _ _ (by omega)).trans (kT j hj).1, fun j f hj hf9 => ?_, (i2 _ _ (by omega)).trans kg, fun f hf9 => ?_⟩
        · rw [i2 _ _ (by omega), (kT j hj).2 f, z18 _ (by omega)]
          exact ⟨⟨fun _ => rfl, fun _ => rfl⟩, fun q => absurd rfl q⟩
        · rw [i2 _ _ (by omega), kz f, z19 _ (by omega)]
          exact ⟨⟨fun _ => rfl, fun _ => rfl⟩, fun q => absurd rfl q⟩
      · unfold zR_r
        rw [hsk]
        exact fun f hf9 => absurd hf9 (Nat.not_lt_zero _)
    · have ha2 : a < zv_ns S := by omega
      have hpu := (hW.2.2.1.2.2.1 a ha2).2.1
      have hj6 := (hW.1.2.2.1 _ hpu).2.2
      refine zR_s_same hj6 (hs a ha2) (fun l h1 h2 => A l (by omega) (by omega) (by omega)) ?_ (F 10 a e (by decide)) (congrFun e1 _) (F 11 a e (by decide)) (F 12 a e (by decide)) (F 13 a e (by decide)) (F 14 a e (by decide)) (F 15 a e (by decide)) (F 16 a e (by decide)) (fun r hr => E r (by omega) (by omega))
      rw [zm_u2k e, a5.2.2]
  · rw [hnp]; exact fun l h1 h2 => (sA l (by omega)).trans (hf.1 l h1 h2)
  · rw [hnv]; exact fun l h1 h2 => (sA l (by omega)).trans (hf.2.1 l h1 h2)
  · rw [hns]; exact fun l h1 => (sA l (by omega)).trans (hf.2.2 l (by omega))
