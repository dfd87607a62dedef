/-! ===== a sound more, a voice more ===== -/
theorem zs_sum_congr {f g : Nat → Int32} : ∀ k, (∀ q, q < k → f q = g q) → zs_sum f k = zs_sum g k
  | 0, _ => rfl
  | k + 1, h => by
    show zs_sum f k + f k = zs_sum g k + g k
    rw [zs_sum_congr k (fun q hq => h q (by omega)), h k (by omega)]
abbrev zt_sound (S : zS) (x f : Int32) : zS := zm_u2 (zm_u2 (zm_u2 S 7 (12 * zv_nv S + zv_sc S (zv_nv S)) x) 8 (12 * zv_nv S + zv_sc S (zv_nv S)) f) 6 (zv_nv S) (nI (zv_sc S (zv_nv S) + 1))
theorem zt_sound_r {S : zS} {x f : Int32} {r : Nat} (h6 : r ≠ 6) (h7 : r ≠ 7) (h8 : r ≠ 8) : zt_sound S x f r = S r := (zm_u2r h6).trans ((zm_u2r h8).trans (zm_u2r h7))
theorem zt_sound_6 {S : zS} {x f : Int32} {v : Nat} : zt_sound S x f 6 v = if v = zv_nv S then nI (zv_sc S (zv_nv S) + 1) else S 6 v := by
  by_cases e : v = zv_nv S
  · rw [if_pos e, e]; exact zm_u2s
  · rw [if_neg e]; exact (zm_u2k e).trans ((zm_u2l (by decide)).trans (zm_u2l (by decide)))
theorem zt_sound_7 {S : zS} {x f : Int32} {c : Nat} : zt_sound S x f 7 c = if c = 12 * zv_nv S + zv_sc S (zv_nv S) then x else S 7 c := by
  by_cases e : c = 12 * zv_nv S + zv_sc S (zv_nv S)
  · rw [if_pos e, e]; exact (zm_u2l (by decide)).trans ((zm_u2l (by decide)).trans zm_u2s)
  · rw [if_neg e]; exact (zm_u2l (by decide)).trans ((zm_u2l (by decide)).trans (zm_u2k e))
theorem zt_sound_8 {S : zS} {x f : Int32} {c : Nat} : zt_sound S x f 8 c = if c = 12 * zv_nv S + zv_sc S (zv_nv S) then f else S 8 c := by
  by_cases e : c = 12 * zv_nv S + zv_sc S (zv_nv S)
  · rw [if_pos e, e]; exact (zm_u2l (by decide)).trans zm_u2s
  · rw [if_neg e]; exact (zm_u2l (by decide)).trans ((zm_u2k e).trans (zm_u2l (by decide)))
theorem zt_sound_sc {S : zS} {x f : Int32} {v : Nat} (h : zv_sc S (zv_nv S) < 12) : zv_sc (zt_sound S x f) v = if v = zv_nv S then zv_sc S (zv_nv S) + 1 else zv_sc S v := by
  show zn (zt_sound S x f 6 v) = _
  rw [zt_sound_6]
  by_cases e : v = zv_nv S
  · rw [if_pos e, if_pos e]; exact nI_clamp (n := zv_sc S (zv_nv S) + 1) (by omega)
  · rw [if_neg e, if_neg e]
theorem zR_sound {S : zS} {sh : zm_Sh} {mi : zm_Mi} {mr : zm_Mr} (hW : zW S) (hR : zR S sh mi mr) (x f : Int32) (hc : zv_sc S (zv_nv S) < 12) :
    zR (zt_sound S x f) sh (zm_u2 (zm_u2 (zm_u2 mi (300 + 3 * zv_nv S + 1) (zv_sc S (zv_nv S)) x) (300 + 3 * zv_nv S + 2) (zv_sc S (zv_nv S)) (if zv_sc S (zv_nv S) = 0 then f else mi (300 + 3 * zv_nv S + 2) (zv_sc S (zv_nv S) - 1) + f)) (300 + 3 * zv_nv S) 2 (nI (zv_sc S (zv_nv S) + 1))) mr := by
  obtain ⟨h1, h2, h3, h4⟩ := zR_out hR
  have n2 := hW.2.1.2.1
  have n3 := hW.2.2.1.2.1
  have n1 := hW.1.2.1
  generalize hm' : zm_u2 (zm_u2 (zm_u2 mi (300 + 3 * zv_nv S + 1) (zv_sc S (zv_nv S)) x) (300 + 3 * zv_nv S + 2) (zv_sc S (zv_nv S)) (if zv_sc S (zv_nv S) = 0 then f else mi (300 + 3 * zv_nv S + 2) (zv_sc S (zv_nv S) - 1) + f)) (300 + 3 * zv_nv S) 2 (nI (zv_sc S (zv_nv S) + 1)) = mi'
  have hm : ∀ a b, ¬ (a = 300 + 3 * zv_nv S ∧ b = 2) → ¬ (a = 300 + 3 * zv_nv S + 1 ∧ b = zv_sc S (zv_nv S)) → ¬ (a = 300 + 3 * zv_nv S + 2 ∧ b = zv_sc S (zv_nv S)) → mi' a b = mi a b := fun a b q1 q2 q3 => by
    rw [← hm']
    exact (if_neg q1).trans ((if_neg q3).trans (if_neg q2))
  have m1 : mi' (300 + 3 * zv_nv S) 2 = nI (zv_sc S (zv_nv S) + 1) := by rw [← hm']; exact zm_u2s
  have m2 : mi' (300 + 3 * zv_nv S + 1) (zv_sc S (zv_nv S)) = x := by rw [← hm']; exact (zm_u2l (by omega)).trans ((zm_u2l (by omega)).trans zm_u2s)
  have m3 : mi' (300 + 3 * zv_nv S + 2) (zv_sc S (zv_nv S)) = (if zv_sc S (zv_nv S) = 0 then f else mi (300 + 3 * zv_nv S + 2) (zv_sc S (zv_nv S) - 1) + f) := by rw [← hm']; exact (zm_u2l (by omega)).trans zm_u2s
  have t6 := fun v => @zt_sound_6 S x f v
  have t7 := fun v => @zt_sound_7 S x f v
  have t8 := fun v => @zt_sound_8 S x f v
  have tc := fun v => @zt_sound_sc S x f v hc
  have hs : ∀ r, r ≠ 6 → r ≠ 7 → r ≠ 8 → zt_sound S x f r = S r := fun r => zt_sound_r
  generalize zt_sound S x f = S' at t6 t7 t8 tc hs
  have e0 := hs 0 (by decide) (by decide) (by decide)
  have e1 := hs 1 (by decide) (by decide) (by decide)
  have e5 := hs 5 (by decide) (by decide) (by decide)
  have e9 := hs 9 (by decide) (by decide) (by decide)
  have e10 := hs 10 (by decide) (by decide) (by decide)
  have e11 := hs 11 (by decide) (by decide) (by decide)
  have e15 := hs 15 (by decide) (by decide) (by decide)
  have e18 := hs 18 (by decide) (by decide) (by decide)
  have e19 := hs 19 (by decide) (by decide) (by decide)
  have e28 := hs 28 (by decide) (by decide) (by decide)
  have e29 := hs 29 (by decide) (by decide) (by decide)
  have hnv : zv_nv S' = zv_nv S := by show zn (S' 5 0) = _; rw [e5]
  refine zR_in ?_ (fun l k r c H => ?_) ?_ ?_
  · unfold zR_hs zR_free
    simp only [zv_np, zv_jn, zv_nv, zv_ns, zv_pu, zv_fr, e0, e1, e5, e9, e10, e11]
    exact h1
  · have keep : zR_at S l k r c → (¬ (l = 300 + 3 * zv_nv S ∧ k = 2) ∧ ¬ (l = 300 + 3 * zv_nv S + 1 ∧ k = zv_sc S (zv_nv S)) ∧ l ≠ 300 + 3 * zv_nv S + 2) → r ≠ 6 → r ≠ 7 → r ≠ 8 → mi' l k = S' r c := fun q g r6 r7 r8 => by
      rw [hm l k g.1 g.2.1 (fun z => g.2.2 z.1), hs r r6 r7 r8]
      exact h2 l k r c q
    rcases H with H | H | H | H | H
    · unfold zR_at1 at H
      simp only [zv_nf, e28] at H
      exact keep (Or.inl H) (by omega) (by omega) (by omega) (by omega)
    · obtain ⟨p, hp, H⟩ := H
      simp only [zv_np, zv_jn, e0, e1] at hp H
      have hp5 : p < zv_np S := hp
      exact keep (Or.inr (Or.inl ⟨p, hp, H⟩)) (by omega) (by omega) (by omega) (by omega)
    · obtain ⟨v, hv, H⟩ := H
      rw [hnv] at hv
      rcases H with ⟨rfl, rfl, rfl, rfl⟩ | ⟨rfl, hk, rfl, rfl⟩
      · rw [t6]
        by_cases e : c = zv_nv S
        · rw [if_pos e, e]; exact m1
        · rw [if_neg e, hm _ _ (by omega) (by omega) (by omega)]
          exact h2 _ _ _ _ (Or.inr (Or.inr (Or.inl ⟨c, hv, Or.inl ⟨rfl, rfl, rfl, rfl⟩⟩)))
      · rw [tc] at hk
        rw [t7]
        by_cases e : v = zv_nv S
        · rw [if_pos e] at hk
          by_cases e2 : k = zv_sc S (zv_nv S)
          · rw [e, e2, if_pos rfl]; exact m2
          · rw [if_neg (by omega), hm _ _ (by omega) (by omega) (by omega)]
            exact h2 _ _ _ _ (Or.inr (Or.inr (Or.inl ⟨v, hv, Or.inr ⟨rfl, by rw [e]; omega, rfl, rfl⟩⟩)))
        · rw [if_neg e] at hk
          have := (hW.2.1.2.2.1 v (by omega)).2
          rw [if_neg (by omega), hm _ _ (by omega) (by omega) (by omega)]
          exact h2 _ _ _ _ (Or.inr (Or.inr (Or.inl ⟨v, hv, Or.inr ⟨rfl, hk, rfl, rfl⟩⟩)))
    · obtain ⟨p, hp, H⟩ := H
      simp only [zv_ns, e9] at hp
      exact keep (Or.inr (Or.inr (Or.inr (Or.inl ⟨p, hp, H⟩)))) (by omega) (by omega) (by omega) (by omega)
    · obtain ⟨p, hp, hk, H⟩ := H
      simp only [zv_ns, zv_sk, zv_jn, zv_pu, e1, e9, e10, e15] at hp hk H
      refine keep (Or.inr (Or.inr (Or.inr (Or.inr ⟨p, hp, hk, H⟩)))) ?_ ?_ ?_ ?_ <;> rcases H with H | ⟨j, hj, H⟩ <;> omega
  · intro v hv k hk
    rw [hnv] at hv
    rw [tc] at hk
    by_cases e : v = zv_nv S
    · rw [if_pos e] at hk
      subst e
      have hsum : ∀ q, q ≤ zv_sc S (zv_nv S) → zs_sum (fun q => S' 8 (12 * zv_nv S + q)) q = zs_sum (fun q => S 8 (12 * zv_nv S + q)) q := fun q hq => zs_sum_congr q (fun a ha => by rw [t8, if_neg (by omega)])
      by_cases e2 : k = zv_sc S (zv_nv S)
      · subst e2
        rw [m3]
        show _ = zs_sum _ (zv_sc S (zv_nv S)) + S' 8 (12 * zv_nv S + zv_sc S (zv_nv S))
        rw [hsum _ (Nat.le_refl _), t8, if_pos rfl]
        by_cases z : zv_sc S (zv_nv S) = 0
        · rw [if_pos z, z]; show f = 0 + f; exact (Int32.zero_add f).symm
        · rw [if_neg z, h3 _ (Nat.le_refl _) _ (by omega), show zv_sc S (zv_nv S) - 1 + 1 = zv_sc S (zv_nv S) by omega]
      · rw [hm _ _ (by omega) (by omega) (by omega), hsum _ (by omega)]
        exact h3 _ (Nat.le_refl _) _ (by omega)
    · rw [if_neg e] at hk
      have := (hW.2.1.2.2.1 v (by omega)).2
      rw [hm _ _ (by omega) (by omega) (by omega), zs_sum_congr (g := fun q => S 8 (12 * v + q)) (k + 1) (fun a ha => by rw [t8, if_neg (by omega)])]
      exact h3 v hv k hk
  · simp only [zv_ns, e9]
    intro a ha
    obtain ⟨g1, g2, g3, g4⟩ := h4 a ha
    unfold zR_k
    simp only [zv_jn, zv_pu, zv_fr, e1, e10, e11, e18, e19]
    refine ⟨fun j hj => ?_, fun j f hj hf => ?_, ?_, fun f hf => ?_⟩
    · rw [hm _ _ (by omega) (by omega) (by omega)]
      exact g1 j hj
    · rw [hm _ _ (by omega) (by omega) (by omega), hm _ _ (by omega) (by omega) (by omega)]
      exact g2 j f hj hf
    · rw [hm _ _ (by omega) (by omega) (by omega)]
      exact g3
    · rw [hm _ _ (by omega) (by omega) (by omega), hm _ _ (by omega) (by omega) (by omega)]
      exact g4 f hf

set_option maxRecDepth 20000 in
theorem P_sound (S : zS) (sh : zm_Sh) (mi : zm_Mi) (mr : zm_Mr) (hW : zW S) (hR : zR S sh mi mr) (x f : Int32) : zz_Con yX5_sound (.code yX5_sound cX5_sound 3 (some Jvm.ClassFile.FieldType.int)) 10 10 60 [.ref 2, .int x, .int f] sh mi mr (zq_ok (True) ((nI 0 ≤ x ∧ x ≤ nI 9) ∧ (nI 1 ≤ f ∧ f ≤ nI 24)) ((zv_sc S (zv_nv S) < 12)) (nI (zv_sc S (zv_nv S) + 1)) (zt_sound S x f) sh mi mr) (zq_no (True) ((nI 0 ≤ x ∧ x ≤ nI 9) ∧ (nI 1 ≤ f ∧ f ≤ nI 24)) ((zv_sc S (zv_nv S) < 12)) sh mi mr) := by
  refine zz_begin RX5 [(0, .ref 2), (1, .int x), (2, .int f)] (by decide) rfl rfl (Nat.le_of_ble_eq_true rfl) rfl ?_
  intro Γ D E ad hX hr hN hT
  obtain ⟨hRm, hRp, hRv, hRs, hRf⟩ := id hR
  obtain ⟨m1, m2, m3, m4, m5, m6, m7, m8, m9, m10, m11, m12, m13, m14, m15, m16, m17, m18, m19, m20⟩ := hRm
  obtain ⟨hWp, hWv, hWs, hWk, hWr, hWf⟩ := id hW
  obtain ⟨p0, p1, p2, p3, p4, p5⟩ := hWp
  obtain ⟨v0, v1, v2, v3, v4⟩ := hWv
  obtain ⟨s0, s1, s2, s3⟩ := hWs
  obtain ⟨f0, f1, f2, f3⟩ := hWf
  have v12 := (v2 (zv_nv S) (by omega)).2
  refine zz_iload_n hX dX5_sound_0 1 rfl rfl ?_
  refine zz_sC hX zf_M_X5_77 (As := [.int x]) (st := []) (k_needSound x sh mi mr) rfl rfl (by decide) (Nat.le_of_ble_eq_true rfl) (Nat.le_of_ble_eq_true rfl) (Nat.le_of_ble_eq_true rfl) dX5_sound_1 (fun p1 => ?_) (fun x1 => zz_out hX hT (Nat.le_of_ble_eq_true rfl) (Nat.le_of_ble_eq_true rfl) (by unfold zq_no; skip; exact ⟨Or.inr (Or.inl ⟨rfl, trivial, fun h => x1 (h.1)⟩), rfl, rfl, rfl⟩))
  refine zz_iload_n hX dX5_sound_4 2 rfl rfl ?_
  refine zz_iconst (v := nI 1) hX dX5_sound_5 rfl ?_
  refine zz_bipush (v := nI 24) hX dX5_sound_6 rfl ?_
  refine zz_sC hX zf_M_X5_59 (As := [.int f, .int (nI 1), .int (nI 24)]) (st := []) (k_needRange f (nI 1) (nI 24) sh mi mr) rfl rfl (by decide) (Nat.le_of_ble_eq_true rfl) (Nat.le_of_ble_eq_true rfl) (Nat.le_of_ble_eq_true rfl) dX5_sound_8 (fun p8 => ?_) (fun x8 => zz_out hX hT (Nat.le_of_ble_eq_true rfl) (Nat.le_of_ble_eq_true rfl) (by unfold zq_no; skip; exact ⟨Or.inr (Or.inl ⟨rfl, trivial, fun h => x8 (h.2)⟩), rfl, rfl, rfl⟩))
  refine zz_aload_n hX dX5_sound_11 0 rfl rfl ?_
  refine zz_getR (y := (300 + 3 * zv_nv S)) hX zf_F_X5_29.r m1 rfl m4 dX5_sound_12 ?_
  refine zz_getI (x := nI (zv_sc S (zv_nv S))) hX zf_F_X5_85.r (hRv.2 (zv_nv S) (Nat.le_refl _)).1.1 rfl (((hRv.2 (zv_nv S) (Nat.le_refl _)).2.1.trans (v2 _ (by omega)).1)) dX5_sound_15 ?_
  refine zz_bipush (v := nI 12) hX dX5_sound_18 rfl ?_
  refine zz_icmp_ltN hX (by omega) (by decide) 33 dX5_sound_20 (by decide) (fun c20 => ?_) (fun c20 => ?_)
  · skip
    refine zz_aload_n hX dX5_sound_33 0 rfl rfl ?_
    refine zz_getR (y := (300 + 3 * zv_nv S)) hX zf_F_X5_29.r m1 rfl m4 dX5_sound_34 ?_
    refine zz_iload_n hX dX5_sound_37 1 rfl rfl ?_
    refine zz_iload_n hX dX5_sound_38 2 rfl rfl ?_
    refine zz_vN hX zf_M_X5_90 (As := [.int x, .int f]) (st := []) (k_add sh mi mr (300 + 3 * zv_nv S) (300 + 3 * zv_nv S + 1) (300 + 3 * zv_nv S + 2) (zv_sc S (zv_nv S)) (hRv.2 (zv_nv S) (Nat.le_refl _)).1.1 (hRv.2 (zv_nv S) (Nat.le_refl _)).1.2.1 (hRv.2 (zv_nv S) (Nat.le_refl _)).1.2.2.1 (hRv.2 (zv_nv S) (Nat.le_refl _)).1.2.2.2.1 (hRv.2 (zv_nv S) (Nat.le_refl _)).1.2.2.2.2 ((hRv.2 (zv_nv S) (Nat.le_refl _)).2.1.trans (v2 _ (by omega)).1) (by omega) (by omega) (by omega) (by omega) x f) (hRv.2 (zv_nv S) (Nat.le_refl _)).1.1 rfl rfl rfl (by decide) (Nat.le_of_ble_eq_true rfl) (Nat.le_of_ble_eq_true rfl) (Nat.le_of_ble_eq_true rfl) dX5_sound_39 ?_
    refine zz_aload_n hX dX5_sound_42 0 rfl rfl ?_
    refine zz_getR (y := (300 + 3 * zv_nv S)) hX zf_F_X5_29.r m1 rfl m4 dX5_sound_43 ?_
    refine zz_getI (x := nI (zv_sc S (zv_nv S) + 1)) hX zf_F_X5_85.r (hRv.2 (zv_nv S) (Nat.le_refl _)).1.1 rfl (zm_u2s) dX5_sound_46 ?_
    refine zz_iret hX hr rfl (Nat.le_of_ble_eq_true rfl) (Nat.le_of_ble_eq_true rfl) dX5_sound_49 ?_
    unfold zq_ok
    skip
    exact ⟨⟨trivial, ⟨p1, p8⟩, c20⟩, rfl, (zR_sound hW hR x f c20), (zr_fr (zr_fr (zr_fr zr_same.rfl' (by unfold zr_out; omega)) (by unfold zr_out; omega)) (by unfold zr_out; omega))⟩
  · skip
    refine zz_throw hX hT zf_T_X5_88 dX5_sound_23 dX5_sound_26 dX5_sound_27 dX5_sound_29 dX5_sound_32 (by decide) (Nat.le_of_ble_eq_true rfl) (Nat.le_of_ble_eq_true rfl) (Nat.le_of_ble_eq_true rfl) ?_
    unfold zq_no; skip; exact ⟨Or.inr (Or.inr ⟨rfl, trivial, ⟨p1, p8⟩, fun h => by omega⟩), rfl, rfl, rfl⟩

