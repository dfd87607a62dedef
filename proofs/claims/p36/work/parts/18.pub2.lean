/-! ===== fewer struck frames ===== -/
theorem zR_less {S : zS} {sh : zm_Sh} {mi : zm_Mi} {mr : zm_Mr} (hW : zW S) (hR : zR S sh mi mr) {i k : Nat} (hi : i < zv_ns S) (hk : k < zv_sk S i) : zR (zm_u2 S 15 i (nI k)) sh (zm_u2 mi (1000 + 100 * i + 5) 6 (nI k)) mr := by
  obtain ⟨h1, h2, h3, h4⟩ := zR_out hR
  have n2 := hW.2.1.2.1
  have n3 := hW.2.2.1.2.1
  obtain ⟨b1, b2, b3, b4, b5, b6, b7, b8, b9, b10, b11, b12, b13⟩ := hW.2.2.1.2.2.1 i hi
  have hs : ∀ r, r ≠ 15 → zm_u2 S 15 i (nI k) r = S r := fun r h => zm_u2r h
  have hsk : ∀ a, zv_sk (zm_u2 S 15 i (nI k)) a ≤ zv_sk S a ∧ (a = i → zv_sk (zm_u2 S 15 i (nI k)) a = k) := fun a => by
    by_cases e : a = i
    · have q : zv_sk (zm_u2 S 15 i (nI k)) a = k := by rw [e]; show zn (zm_u2 S 15 i (nI k) 15 i) = k; rw [zm_u2s]; exact nI_clamp (n := k) (by omega)
      exact ⟨by rw [q, e]; omega, fun _ => q⟩
    · have q : zv_sk (zm_u2 S 15 i (nI k)) a = zv_sk S a := by show zn (zm_u2 S 15 i (nI k) 15 a) = _; rw [zm_u2k e]
      exact ⟨by omega, fun h => absurd h e⟩
  generalize hS' : zm_u2 S 15 i (nI k) = S' at hs hsk
  have e0 := hs 0 (by decide)
  have e1 := hs 1 (by decide)
  have e5 := hs 5 (by decide)
  have e6 := hs 6 (by decide)
  have e8 := hs 8 (by decide)
  have e9 := hs 9 (by decide)
  have e10 := hs 10 (by decide)
  have e11 := hs 11 (by decide)
  have e18 := hs 18 (by decide)
  have e19 := hs 19 (by decide)
  have e28 := hs 28 (by decide)
  have e29 := hs 29 (by decide)
  have mono : ∀ l k r c, zR_at S' l k r c → zR_at S l k r c := by
    intro l q r c H
    unfold zR_at zR_at1 zR_at2 zR_at3 zR_at4 at H ⊢
    simp only [zv_np, zv_jn, zv_nv, zv_sc, zv_ns, zv_pu, zv_nf, zv_fl, e0, e1, e5, e6, e9, e10, e11, e28, e29] at H ⊢
    rcases H with H | H | H | H | ⟨a, ha, hq, H⟩
    · exact Or.inl H
    · exact Or.inr (Or.inl H)
    · exact Or.inr (Or.inr (Or.inl H))
    · exact Or.inr (Or.inr (Or.inr (Or.inl H)))
    · refine Or.inr (Or.inr (Or.inr (Or.inr ⟨a, ?_, by have := (hsk a).1; omega, ?_⟩)))
      · have ha2 : a < zn (S' 9 0) := ha
        rw [e9] at ha2
        exact ha2
      · simp only [zv_jn, zv_pu, e1, e10] at H
        exact H
  refine zR_in ?_ (fun l q r c H => ?_) ?_ ?_
  · unfold zR_hs zR_free
    simp only [zv_np, zv_jn, zv_nv, zv_sc, zv_ns, zv_pu, zv_fr, zv_st, zv_nf, zv_fl, e0, e1, e5, e6, e9, e10, e11]
    exact h1
  · have H0 := mono l q r c H
    rw [← hS']
    exact zu_eq (h2 _ _ _ _ H0) (zR_code_inj (zR_at_code hW H0) (zR_at_code (l := 1000 + 100 * i + 5) (k := 6) (r := 15) (c := i) hW (Or.inr (Or.inr (Or.inr (Or.inl ⟨i, hi, Or.inr ⟨rfl, rfl, rfl, rfl⟩⟩))))))
  · unfold zR_en
    simp only [zv_nv, zv_sc, e5, e6, e8]
    intro v hv q hq
    have hv' : v ≤ zv_nv S := hv
    rw [zm_u2l (by omega)]
    exact h3 v hv q hq
  · simp only [zv_ns, e9]
    intro a ha
    obtain ⟨g1, g2, g3, g4⟩ := h4 a ha
    have hj6 : zn (S 1 (zn (S 10 a))) ≤ 6 := (hW.1.2.2.1 _ (hW.2.2.1.2.2.1 a ha).2.1).2.2
    unfold zR_k
    simp only [zv_jn, zv_pu, zv_fr, e1, e10, e11, e18, e19]
    refine ⟨fun j hj => ?_, fun j f hj hf => ?_, ?_, fun f hf => ?_⟩
    · rw [zm_u2l (by omega)]
      exact g1 j hj
    · rw [zm_u2l (by omega), zm_u2l (by omega)]
      exact g2 j f hj hf
    · rw [zm_u2l (by omega)]
      exact g3
    · rw [zm_u2l (by omega), zm_u2l (by omega)]
      exact g4 f hf

set_option maxRecDepth 20000 in
theorem P_film (S : zS) (sh : zm_Sh) (mi : zm_Mi) (mr : zm_Mr) (hW : zW S) (hR : zR S sh mi mr) (x : Int32) : zz_Con yX5_film (.code yX5_film cX5_film 5 (some Jvm.ClassFile.FieldType.int)) 10 10 60 [.ref 2, .int x] sh mi mr (zq_ok (((0 : Int32) ≤ x)) (True) (True) (zp_atfilm S x) S sh mi mr) (zq_no (((0 : Int32) ≤ x)) (True) (True) sh mi mr) := by
  refine zz_begin RX5 [(0, .ref 2), (1, .int x)] (by decide) rfl rfl (Nat.le_of_ble_eq_true rfl) rfl ?_
  intro Γ D E ad hX hr hN hT
  obtain ⟨hRm, hRp, hRv, hRs, hRf⟩ := id hR
  obtain ⟨m1, m2, m3, m4, m5, m6, m7, m8, m9, m10, m11, m12, m13, m14, m15, m16, m17, m18, m19, m20⟩ := hRm
  obtain ⟨hWp, hWv, hWs, hWk, hWr, hWf⟩ := id hW
  obtain ⟨p0, p1, p2, p3, p4, p5⟩ := hWp
  obtain ⟨v0, v1, v2, v3, v4⟩ := hWv
  obtain ⟨s0, s1, s2, s3⟩ := hWs
  obtain ⟨f0, f1, f2, f3⟩ := hWf
  refine zz_iload_n hX dX5_film_0 1 rfl rfl ?_
  refine zz_if_ge hX 15 dX5_film_1 (by decide) (fun c1 => ?_) (fun c1 => ?_)
  · skip
    refine zz_iconst (v := nI 0) hX dX5_film_15 rfl ?_
    refine zz_istore_n (ls' := [(0, .ref 2), (1, .int x), (2, .int (nI 0))]) hX dX5_film_16 rfl (Nat.le_of_ble_eq_true rfl) rfl ?_
    refine zz_iconst (v := nI 0) hX dX5_film_17 rfl ?_
    refine zz_istore_n (ls' := [(0, .ref 2), (1, .int x), (2, .int (nI 0)), (3, .int (nI 0))]) hX dX5_film_18 rfl (Nat.le_of_ble_eq_true rfl) rfl ?_
    refine zz_lcl (ls' := [(0, .ref 2), (1, .int x), (2, .int (zs_sum (fun q => S 11 (zv_fl S q)) 0)), (3, .int (nI 0))]) (rfl) ?_
    have L19 : ∀ (k19 : Nat) (k : Nat), zv_nf S - k < k19 → (k ≤ zv_nf S) → (zp_atfilm S x = zs_fst (fun k => x - zs_sum (fun q => S 11 (zv_fl S q)) k < S 11 (zv_fl S k)) (fun k => nI 100 * S 29 k + x - zs_sum (fun q => S 11 (zv_fl S q)) k) (zv_nf S - k) k) → zz Γ (D, E, 5, ad, sh) (zz_End Γ (D, E, 5, ad, sh) (zq_ok (((0 : Int32) ≤ x)) (True) (True) (zp_atfilm S x) S sh mi mr) (zq_no (((0 : Int32) ≤ x)) (True) (True) sh mi mr) 10 60) 0 0 sh mi mr 19 [(0, .ref 2), (1, .int x), (2, .int (zs_sum (fun q => S 11 (zv_fl S q)) k)), (3, .int (nI k))] [] := by
      intro k19
      induction k19 with
      | zero => intro k hk19; exact absurd hk19 (Nat.not_lt_zero _)
      | succ k19 ih19 =>
        intro k hk19 hk9 hall
        refine zz_iload_n hX dX5_film_19 3 rfl rfl ?_
        refine zz_aload_n hX dX5_film_20 0 rfl rfl ?_
        refine zz_getI (x := nI (zv_nf S)) hX zf_F_X5_50.r m1 rfl ((m16.trans f0)) dX5_film_21 ?_
        refine zz_icmp_geN hX (by omega) (by omega) 76 dX5_film_24 (by decide) (fun c24 => ?_) (fun c24 => ?_)
        · skip
          refine zz_iconst (v := (-1)) hX dX5_film_76 rfl ?_
          refine zz_iret hX hr rfl (Nat.le_of_ble_eq_true rfl) (Nat.le_of_ble_eq_true rfl) dX5_film_77 ?_
          unfold zq_ok
          skip
          exact ⟨⟨c1, trivial, trivial⟩, by rw [hall, zs_fst_end (by omega)], hR, zr_same.rfl'⟩
        · skip
          refine zz_aload_n hX dX5_film_27 0 rfl rfl ?_
          refine zz_getR (y := 5) hX zf_F_X5_35.r m1 rfl m5 dX5_film_28 ?_
          refine zz_aload_n hX dX5_film_31 0 rfl rfl ?_
          refine zz_getR (y := 7) hX zf_F_X5_46.r m1 rfl m7 dX5_film_32 ?_
          refine zz_iload_n hX dX5_film_35 3 rfl rfl ?_
          refine zz_iald (x := S 29 k) hX m12 k rfl (by omega) (by decide) ((m20 k (by omega))) dX5_film_36 ?_
          refine zz_aald (y := (1000 + 100 * zv_fl S k)) hX m10 (by decide) (by decide) (zv_fl S k) (f2 k c24).1 (by have := (f2 k c24).2; omega) (by decide) (hRs _ (f2 k c24).2).1 dX5_film_37 ?_
          refine zz_getI (x := S 11 (zv_fl S k)) hX zf_F_X5_235 (hRs _ (f2 k c24).2).2.1.1 rfl ((hRs _ (f2 k c24).2).2.2.1) dX5_film_38 ?_
          refine zz_istore (ls' := [(0, .ref 2), (1, .int x), (2, .int (zs_sum (fun q => S 11 (zv_fl S q)) k)), (3, .int (nI k)), (4, .int (S 11 (zv_fl S k)))]) hX dX5_film_41 (Nat.le_of_ble_eq_true rfl) rfl ?_
          refine zz_iload_n hX dX5_film_43 1 rfl rfl ?_
          refine zz_iload_n hX dX5_film_44 2 rfl rfl ?_
          refine zz_isub (z := x - (zs_sum (fun q => S 11 (zv_fl S q)) k)) hX dX5_film_45 rfl ?_
          refine zz_iload hX dX5_film_46 4 rfl ?_
          refine zz_icmp_ge hX 65 dX5_film_48 (by decide) (fun c48 => ?_) (fun c48 => ?_)
          · skip
            refine zz_iload_n hX dX5_film_65 2 rfl rfl ?_
            refine zz_iload hX dX5_film_66 4 rfl ?_
            refine zz_iadd (z := (zs_sum (fun q => S 11 (zv_fl S q)) k) + (S 11 (zv_fl S k))) hX dX5_film_68 rfl ?_
            refine zz_istore_n (ls' := [(0, .ref 2), (1, .int x), (2, .int ((zs_sum (fun q => S 11 (zv_fl S q)) k) + (S 11 (zv_fl S k)))), (3, .int (nI k)), (4, .int (S 11 (zv_fl S k)))]) hX dX5_film_69 rfl (Nat.le_of_ble_eq_true rfl) rfl ?_
            refine zz_iinc (v := nI (k + 1)) (ls' := [(0, .ref 2), (1, .int x), (2, .int ((zs_sum (fun q => S 11 (zv_fl S q)) k) + (S 11 (zv_fl S k)))), (3, .int (nI (k + 1))), (4, .int (S 11 (zv_fl S k)))]) hX dX5_film_70 3 rfl (nI_1 _) (Nat.le_of_ble_eq_true rfl) rfl ?_
            refine zz_goto hX 19 dX5_film_73 (by decide) ?_
            refine zz_pick (ls' := [(0, .ref 2), (1, .int x), (2, .int ((zs_sum (fun q => S 11 (zv_fl S q)) k) + (S 11 (zv_fl S k)))), (3, .int (nI (k + 1)))]) [0, 1, 2, 3] rfl ?_
            refine zz_lcl (ls' := [(0, .ref 2), (1, .int x), (2, .int (zs_sum (fun q => S 11 (zv_fl S q)) (k + 1))), (3, .int (nI (k + 1)))]) rfl ?_
            exact ih19 (k + 1) (by omega) (by omega) (hall.trans (zs_fst_step c24 (fun h => by rw [zs_lt] at h; rw [zs_le] at c48; omega)))
          · skip
            refine zz_bipush (v := nI 100) hX dX5_film_51 rfl ?_
            refine zz_aload_n hX dX5_film_53 0 rfl rfl ?_
            refine zz_getR (y := 7) hX zf_F_X5_46.r m1 rfl m7 dX5_film_54 ?_
            refine zz_iload_n hX dX5_film_57 3 rfl rfl ?_
            refine zz_iald (x := S 29 k) hX m12 k rfl (by omega) (by decide) ((m20 k (by omega))) dX5_film_58 ?_
            refine zz_imul (z := (nI 100) * (S 29 k)) hX dX5_film_59 rfl ?_
            refine zz_iload_n hX dX5_film_60 1 rfl rfl ?_
            refine zz_iadd (z := ((nI 100) * (S 29 k)) + x) hX dX5_film_61 rfl ?_
            refine zz_iload_n hX dX5_film_62 2 rfl rfl ?_
            refine zz_isub (z := (((nI 100) * (S 29 k)) + x) - (zs_sum (fun q => S 11 (zv_fl S q)) k)) hX dX5_film_63 rfl ?_
            refine zz_iret hX hr rfl (Nat.le_of_ble_eq_true rfl) (Nat.le_of_ble_eq_true rfl) dX5_film_64 ?_
            unfold zq_ok
            skip
            exact ⟨⟨c1, trivial, trivial⟩, by rw [hall, zs_fst_hit (g := fun k => x - zs_sum (fun q => S 11 (zv_fl S q)) k < S 11 (zv_fl S k)) c24 (zs_nle c48)], hR, zr_same.rfl'⟩
    exact L19 ((zv_nf S - 0 + 1)) 0 (by omega) (Nat.zero_le _) rfl
  · skip
    refine zz_throwW hX hT zf_T_X5_273 dX5_film_4 dX5_film_7 dX5_film_8 dX5_film_11 dX5_film_14 (by decide) (Nat.le_of_ble_eq_true rfl) (Nat.le_of_ble_eq_true rfl) (Nat.le_of_ble_eq_true rfl) ?_
    unfold zq_no; skip; exact ⟨Or.inl ⟨rfl, fun h => c1 h⟩, rfl, rfl, rfl⟩

set_option maxRecDepth 20000 in
theorem P_wants (S : zS) (sh : zm_Sh) (mi : zm_Mi) (mr : zm_Mr) (hW : zW S) (hR : zR S sh mi mr) (s x : Int32) : zz_Con yX5_wants (.code yX5_wants cX5_wants 8 (some Jvm.ClassFile.FieldType.int)) 10 10 60 [.ref 2, .int s, .int x] sh mi mr (zq_ok ((zs_ix s (zv_ns S))) ((nI 0 ≤ x ∧ x ≤ nI 9)) (True) (zp_wants S (zn s) x (zv_fr S (zn s))) S sh mi mr) (zq_no ((zs_ix s (zv_ns S))) ((nI 0 ≤ x ∧ x ≤ nI 9)) (True) sh mi mr) := by
  refine zz_begin RX5 [(0, .ref 2), (1, .int s), (2, .int x)] (by decide) rfl rfl (Nat.le_of_ble_eq_true rfl) rfl ?_
  intro Γ D E ad hX hr hN hT
  obtain ⟨hRm, hRp, hRv, hRs, hRf⟩ := id hR
  obtain ⟨m1, m2, m3, m4, m5, m6, m7, m8, m9, m10, m11, m12, m13, m14, m15, m16, m17, m18, m19, m20⟩ := hRm
  obtain ⟨hWp, hWv, hWs, hWk, hWr, hWf⟩ := id hW
  obtain ⟨p0, p1, p2, p3, p4, p5⟩ := hWp
  obtain ⟨v0, v1, v2, v3, v4⟩ := hWv
  obtain ⟨s0, s1, s2, s3⟩ := hWs
  obtain ⟨f0, f1, f2, f3⟩ := hWf
  refine zz_aload_n hX dX5_wants_0 0 rfl rfl ?_
  refine zz_iload_n hX dX5_wants_1 1 rfl rfl ?_
  refine zz_callV hX zf_M_X5_106 (As := [.int s]) (st := []) (K_shotAt S sh mi mr hW hR s) m1 rfl rfl rfl (by decide) (Nat.le_of_ble_eq_true rfl) (Nat.le_of_ble_eq_true rfl) (Nat.le_of_ble_eq_true rfl) dX5_wants_2 ?_ ?_
  rotate_left
  · rintro e9 s9 i9 m9 ⟨x2, rfl, rfl, rfl, rfl⟩ -; exact zz_out hX hT (Nat.le_of_ble_eq_true rfl) (Nat.le_of_ble_eq_true rfl) (by unfold zq_no; skip; exact ⟨Or.inl ⟨rfl, fun h => x2 (h)⟩, rfl, rfl, rfl⟩)
  rintro v9 s9 i9 m9 ⟨i, hi, rfl, rfl, e2, e3, e4⟩ -
  obtain rfl := e2.symm
  obtain rfl := e3.symm
  obtain rfl := e4.symm
  have z_i : zn (nI i) = i := nI_clamp (n := i) (by omega)
  obtain ⟨a1, a2, a3, a4, a5, a6, a7, a8⟩ := zR_sh hW hR hi
  obtain ⟨t1, t2, t3, t4, t5, t6, t7, t8, t9, t10⟩ := a3
  obtain ⟨r1, r2, r3, r4, r5, r6, r7, r8, r9, r10, r11, r12, r13, r14, r15⟩ := t10
  obtain ⟨u1, u2, u3, u4, u5, u6, u7, u8, u9, u10⟩ := hRs i hi
  obtain ⟨b1, b2, b3, b4, b5, b6, b7, b8, b9, b10, b11, b12, b13⟩ := s2 i hi
  refine zz_astore_n (ls' := [(0, .ref 2), (1, .int (nI i)), (2, .int x), (3, .ref (1000 + 100 * i))]) hX dX5_wants_5 rfl (Nat.le_of_ble_eq_true rfl) rfl ?_
  refine zz_iload_n hX dX5_wants_6 2 rfl rfl ?_
  refine zz_sC hX zf_M_X5_77 (As := [.int x]) (st := []) (k_needSound x sh mi mr) rfl rfl (by decide) (Nat.le_of_ble_eq_true rfl) (Nat.le_of_ble_eq_true rfl) (Nat.le_of_ble_eq_true rfl) dX5_wants_7 (fun p7 => ?_) (fun x7 => zz_out hX hT (Nat.le_of_ble_eq_true rfl) (Nat.le_of_ble_eq_true rfl) (by unfold zq_no; (try rw [z_i]); exact ⟨Or.inr (Or.inl ⟨rfl, zs_ix_nI hi (by omega), fun h => x7 (h)⟩), rfl, rfl, rfl⟩))
  refine zz_iconst (v := nI 0) hX dX5_wants_10 rfl ?_
  refine zz_istore (ls' := [(0, .ref 2), (1, .int (nI i)), (2, .int x), (3, .ref (1000 + 100 * i)), (4, .int (nI 0))]) hX dX5_wants_11 (Nat.le_of_ble_eq_true rfl) rfl ?_
  refine zz_iconst (v := (-1)) hX dX5_wants_13 rfl ?_
  refine zz_istore (ls' := [(0, .ref 2), (1, .int (nI i)), (2, .int x), (3, .ref (1000 + 100 * i)), (4, .int (nI 0)), (5, .int (-1))]) hX dX5_wants_14 (Nat.le_of_ble_eq_true rfl) rfl ?_
  refine zz_iconst (v := nI 0) hX dX5_wants_16 rfl ?_
  refine zz_istore (ls' := [(0, .ref 2), (1, .int (nI i)), (2, .int x), (3, .ref (1000 + 100 * i)), (4, .int (nI 0)), (5, .int (-1)), (6, .int (nI 0))]) hX dX5_wants_17 (Nat.le_of_ble_eq_true rfl) rfl ?_
  refine zz_lcl (ls' := [(0, .ref 2), (1, .int (nI i)), (2, .int x), (3, .ref (1000 + 100 * i)), (4, .int (zp_wants S i x 0)), (5, .int (zp_bef S i 0)), (6, .int (nI 0))]) (rfl) ?_
  have L19 : ∀ (k19 : Nat) (k : Nat), zv_fr S i - k < k19 → (k ≤ zv_fr S i) → zz Γ (D, E, 8, ad, sh) (zz_End Γ (D, E, 8, ad, sh) (zq_ok ((zs_ix (nI i) (zv_ns S))) ((nI 0 ≤ x ∧ x ≤ nI 9)) (True) (zp_wants S (zn (nI i)) x (zv_fr S (zn (nI i)))) S sh mi mr) (zq_no ((zs_ix (nI i) (zv_ns S))) ((nI 0 ≤ x ∧ x ≤ nI 9)) (True) sh mi mr) 10 60) 2 12 sh mi mr 19 [(0, .ref 2), (1, .int (nI i)), (2, .int x), (3, .ref (1000 + 100 * i)), (4, .int (zp_wants S i x k)), (5, .int (zp_bef S i k)), (6, .int (nI k))] [] := by
    intro k19
    induction k19 with
    | zero => intro k hk19; exact absurd hk19 (Nat.not_lt_zero _)
    | succ k19 ih19 =>
      intro k hk19 hk9
      refine zz_iload hX dX5_wants_19 6 rfl ?_
      refine zz_aload_n hX dX5_wants_21 3 rfl rfl ?_
      refine zz_getI (x := nI (zv_fr S i)) hX zf_F_X5_235 t1 rfl (a4) dX5_wants_22 ?_
      refine zz_icmp_geN hX (by omega) (by omega) 63 dX5_wants_25 (by decide) (fun c25 => ?_) (fun c25 => ?_)
      · skip
        refine zz_iload hX dX5_wants_63 4 rfl ?_
        refine zz_iret hX hr rfl (Nat.le_of_ble_eq_true rfl) (Nat.le_of_ble_eq_true rfl) dX5_wants_65 ?_
        unfold zq_ok
        (try rw [z_i])
        exact ⟨⟨zs_ix_nI hi (by omega), p7, trivial⟩, by rw [show k = zv_fr S i by omega], hR, zr_same.rfl'⟩
      · skip
        refine zz_aload_n hX dX5_wants_28 0 rfl rfl ?_
        refine zz_aload_n hX dX5_wants_29 3 rfl rfl ?_
        refine zz_iload hX dX5_wants_30 6 rfl ?_
        refine zz_vI (x := zp_mouth S i k) hX zf_M_X5_231 (As := [.ref (1000 + 100 * i), .int (nI k)]) (st := []) (K_sheetMouth S sh mi mr hW hR i hi k (by omega)) m1 rfl rfl rfl (by decide) (Nat.le_of_ble_eq_true rfl) (Nat.le_of_ble_eq_true rfl) (Nat.le_of_ble_eq_true rfl) dX5_wants_32 ?_
        refine zz_istore (ls' := [(0, .ref 2), (1, .int (nI i)), (2, .int x), (3, .ref (1000 + 100 * i)), (4, .int (zp_wants S i x k)), (5, .int (zp_bef S i k)), (6, .int (nI k)), (7, .int (zp_mouth S i k))]) hX dX5_wants_35 (Nat.le_of_ble_eq_true rfl) rfl ?_
        refine zz_iload hX dX5_wants_37 7 rfl ?_
        refine zz_iload_n hX dX5_wants_39 2 rfl rfl ?_
        refine zz_icmp_ne hX 53 dX5_wants_40 (by decide) (fun c40 => ?_) (fun c40 => ?_)
        · skip
          refine zz_iload hX dX5_wants_53 7 rfl ?_
          refine zz_istore (ls' := [(0, .ref 2), (1, .int (nI i)), (2, .int x), (3, .ref (1000 + 100 * i)), (4, .int (zp_wants S i x k)), (5, .int (zp_mouth S i k)), (6, .int (nI k)), (7, .int (zp_mouth S i k))]) hX dX5_wants_55 (Nat.le_of_ble_eq_true rfl) rfl ?_
          refine zz_iinc (v := nI (k + 1)) (ls' := [(0, .ref 2), (1, .int (nI i)), (2, .int x), (3, .ref (1000 + 100 * i)), (4, .int (zp_wants S i x k)), (5, .int (zp_mouth S i k)), (6, .int (nI (k + 1))), (7, .int (zp_mouth S i k))]) hX dX5_wants_57 6 rfl (nI_1 _) (Nat.le_of_ble_eq_true rfl) rfl ?_
          refine zz_goto hX 19 dX5_wants_60 (by decide) ?_
          refine zz_pick (ls' := [(0, .ref 2), (1, .int (nI i)), (2, .int x), (3, .ref (1000 + 100 * i)), (4, .int (zp_wants S i x k)), (5, .int (zp_mouth S i k)), (6, .int (nI (k + 1)))]) [0, 1, 2, 3, 4, 5, 6] rfl ?_
          refine zz_lcl (ls' := [(0, .ref 2), (1, .int (nI i)), (2, .int x), (3, .ref (1000 + 100 * i)), (4, .int (zp_wants S i x (k + 1))), (5, .int (zp_bef S i (k + 1))), (6, .int (nI (k + 1)))]) (by rw [show zp_wants S i x (k + 1) = _ from if_neg (fun h => c40 h.1), show zp_bef S i (k + 1) = zp_mouth S i k from if_neg (by omega)]) ?_
          exact ih19 (k + 1) (by omega) (by omega)
        · skip
          refine zz_iload hX dX5_wants_43 7 rfl ?_
          refine zz_iload hX dX5_wants_45 5 rfl ?_
          refine zz_icmp_eq hX 53 dX5_wants_47 (by decide) (fun c47 => ?_) (fun c47 => ?_)
          · skip
            refine zz_iload hX dX5_wants_53 7 rfl ?_
            refine zz_istore (ls' := [(0, .ref 2), (1, .int (nI i)), (2, .int x), (3, .ref (1000 + 100 * i)), (4, .int (zp_wants S i x k)), (5, .int (zp_mouth S i k)), (6, .int (nI k)), (7, .int (zp_mouth S i k))]) hX dX5_wants_55 (Nat.le_of_ble_eq_true rfl) rfl ?_
            refine zz_iinc (v := nI (k + 1)) (ls' := [(0, .ref 2), (1, .int (nI i)), (2, .int x), (3, .ref (1000 + 100 * i)), (4, .int (zp_wants S i x k)), (5, .int (zp_mouth S i k)), (6, .int (nI (k + 1))), (7, .int (zp_mouth S i k))]) hX dX5_wants_57 6 rfl (nI_1 _) (Nat.le_of_ble_eq_true rfl) rfl ?_
            refine zz_goto hX 19 dX5_wants_60 (by decide) ?_
            refine zz_pick (ls' := [(0, .ref 2), (1, .int (nI i)), (2, .int x), (3, .ref (1000 + 100 * i)), (4, .int (zp_wants S i x k)), (5, .int (zp_mouth S i k)), (6, .int (nI (k + 1)))]) [0, 1, 2, 3, 4, 5, 6] rfl ?_
            refine zz_lcl (ls' := [(0, .ref 2), (1, .int (nI i)), (2, .int x), (3, .ref (1000 + 100 * i)), (4, .int (zp_wants S i x (k + 1))), (5, .int (zp_bef S i (k + 1))), (6, .int (nI (k + 1)))]) (by rw [show zp_wants S i x (k + 1) = _ from if_neg (fun h => h.2 c47), show zp_bef S i (k + 1) = zp_mouth S i k from if_neg (by omega)]) ?_
            exact ih19 (k + 1) (by omega) (by omega)
          · skip
            refine zz_iinc (v := zp_wants S i x k + 1) (ls' := [(0, .ref 2), (1, .int (nI i)), (2, .int x), (3, .ref (1000 + 100 * i)), (4, .int (zp_wants S i x k + 1)), (5, .int (zp_bef S i k)), (6, .int (nI k)), (7, .int (zp_mouth S i k))]) hX dX5_wants_50 4 rfl rfl (Nat.le_of_ble_eq_true rfl) rfl ?_
            refine zz_iload hX dX5_wants_53 7 rfl ?_
            refine zz_istore (ls' := [(0, .ref 2), (1, .int (nI i)), (2, .int x), (3, .ref (1000 + 100 * i)), (4, .int (zp_wants S i x k + 1)), (5, .int (zp_mouth S i k)), (6, .int (nI k)), (7, .int (zp_mouth S i k))]) hX dX5_wants_55 (Nat.le_of_ble_eq_true rfl) rfl ?_
            refine zz_iinc (v := nI (k + 1)) (ls' := [(0, .ref 2), (1, .int (nI i)), (2, .int x), (3, .ref (1000 + 100 * i)), (4, .int (zp_wants S i x k + 1)), (5, .int (zp_mouth S i k)), (6, .int (nI (k + 1))), (7, .int (zp_mouth S i k))]) hX dX5_wants_57 6 rfl (nI_1 _) (Nat.le_of_ble_eq_true rfl) rfl ?_
            refine zz_goto hX 19 dX5_wants_60 (by decide) ?_
            refine zz_pick (ls' := [(0, .ref 2), (1, .int (nI i)), (2, .int x), (3, .ref (1000 + 100 * i)), (4, .int (zp_wants S i x k + 1)), (5, .int (zp_mouth S i k)), (6, .int (nI (k + 1)))]) [0, 1, 2, 3, 4, 5, 6] rfl ?_
            refine zz_lcl (ls' := [(0, .ref 2), (1, .int (nI i)), (2, .int x), (3, .ref (1000 + 100 * i)), (4, .int (zp_wants S i x (k + 1))), (5, .int (zp_bef S i (k + 1))), (6, .int (nI (k + 1)))]) (by rw [show zp_wants S i x (k + 1) = _ from if_pos ⟨c40, c47⟩, show zp_bef S i (k + 1) = zp_mouth S i k from if_neg (by omega)]) ?_
            exact ih19 (k + 1) (by omega) (by omega)
  exact L19 ((zv_fr S i - 0 + 1)) 0 (by omega) (Nat.zero_le _)

set_option maxRecDepth 20000 in
theorem P_wears (S : zS) (sh : zm_Sh) (mi : zm_Mi) (mr : zm_Mr) (hW : zW S) (hR : zR S sh mi mr) (s jx : Int32) : zz_Con yX5_wears (.code yX5_wears cX5_wears 8 (some Jvm.ClassFile.FieldType.int)) 10 10 60 [.ref 2, .int s, .int jx] sh mi mr (zq_ok ((zs_ix s (zv_ns S)) ∧ (zs_ix jx (zv_jn S (zv_pu S (zn s))))) (True) (True) ((zp_wr S (zn s) (zn jx) (zv_fr S (zn s) - zv_sk S (zn s))).2) S sh mi mr) (zq_no ((zs_ix s (zv_ns S)) ∧ (zs_ix jx (zv_jn S (zv_pu S (zn s))))) (True) (True) sh mi mr) := by
  refine zz_begin RX5 [(0, .ref 2), (1, .int s), (2, .int jx)] (by decide) rfl rfl (Nat.le_of_ble_eq_true rfl) rfl ?_
  intro Γ D E ad hX hr hN hT
  obtain ⟨hRm, hRp, hRv, hRs, hRf⟩ := id hR
  obtain ⟨m1, m2, m3, m4, m5, m6, m7, m8, m9, m10, m11, m12, m13, m14, m15, m16, m17, m18, m19, m20⟩ := hRm
  obtain ⟨hWp, hWv, hWs, hWk, hWr, hWf⟩ := id hW
  obtain ⟨p0, p1, p2, p3, p4, p5⟩ := hWp
  obtain ⟨v0, v1, v2, v3, v4⟩ := hWv
  obtain ⟨s0, s1, s2, s3⟩ := hWs
  obtain ⟨f0, f1, f2, f3⟩ := hWf
  refine zz_aload_n hX dX5_wears_0 0 rfl rfl ?_
  refine zz_iload_n hX dX5_wears_1 1 rfl rfl ?_
  refine zz_callV hX zf_M_X5_106 (As := [.int s]) (st := []) (K_shotAt S sh mi mr hW hR s) m1 rfl rfl rfl (by decide) (Nat.le_of_ble_eq_true rfl) (Nat.le_of_ble_eq_true rfl) (Nat.le_of_ble_eq_true rfl) dX5_wears_2 ?_ ?_
  rotate_left
  · rintro e9 s9 i9 m9 ⟨x2, rfl, rfl, rfl, rfl⟩ -; exact zz_out hX hT (Nat.le_of_ble_eq_true rfl) (Nat.le_of_ble_eq_true rfl) (by unfold zq_no; skip; exact ⟨Or.inl ⟨rfl, fun h => x2 (h.1)⟩, rfl, rfl, rfl⟩)
  rintro v9 s9 i9 m9 ⟨i, hi, rfl, rfl, e2, e3, e4⟩ -
  obtain rfl := e2.symm
  obtain rfl := e3.symm
  obtain rfl := e4.symm
  have z_i : zn (nI i) = i := nI_clamp (n := i) (by omega)
  obtain ⟨a1, a2, a3, a4, a5, a6, a7, a8⟩ := zR_sh hW hR hi
  obtain ⟨t1, t2, t3, t4, t5, t6, t7, t8, t9, t10⟩ := a3
  obtain ⟨r1, r2, r3, r4, r5, r6, r7, r8, r9, r10, r11, r12, r13, r14, r15⟩ := t10
  obtain ⟨u1, u2, u3, u4, u5, u6, u7, u8, u9, u10⟩ := hRs i hi
  obtain ⟨b1, b2, b3, b4, b5, b6, b7, b8, b9, b10, b11, b12, b13⟩ := s2 i hi
  refine zz_astore_n (ls' := [(0, .ref 2), (1, .int (nI i)), (2, .int jx), (3, .ref (1000 + 100 * i))]) hX dX5_wears_5 rfl (Nat.le_of_ble_eq_true rfl) rfl ?_
  refine zz_aload_n hX dX5_wears_6 3 rfl rfl ?_
  refine zz_getR (y := (200 + 4 * zv_pu S i)) hX zf_F_X5_134 t1 rfl t2 dX5_wears_7 ?_
  refine zz_iload_n hX dX5_wears_10 2 rfl rfl ?_
  refine zz_sC hX zf_M_X5_138 (As := [.ref (200 + 4 * zv_pu S i), .int jx]) (st := []) (K_needJoint S sh mi mr hW hR (zv_pu S i) b2 jx) rfl rfl (by decide) (Nat.le_of_ble_eq_true rfl) (Nat.le_of_ble_eq_true rfl) (Nat.le_of_ble_eq_true rfl) dX5_wears_11 (fun p11 => ?_) (fun x11 => zz_out hX hT (Nat.le_of_ble_eq_true rfl) (Nat.le_of_ble_eq_true rfl) (by unfold zq_no; (try rw [z_i]); exact ⟨Or.inl ⟨rfl, fun h => x11 (h.2)⟩, rfl, rfl, rfl⟩))
  obtain ⟨j, hj, rfl⟩ := zs_ix_of p11 (by omega)
  have z_j : zn (nI j) = j := nI_clamp (n := j) (by omega)
  refine zz_aload_n hX dX5_wears_14 3 rfl rfl ?_
  refine zz_getR (y := (200 + 4 * zv_pu S i)) hX zf_F_X5_134 t1 rfl t2 dX5_wears_15 ?_
  refine zz_getR (y := (200 + 4 * zv_pu S i + 1)) hX zf_F_X5_238 (hRp (zv_pu S i) b2).2.1.1 rfl (hRp (zv_pu S i) b2).2.1.2.1 dX5_wears_18 ?_
  refine zz_iload_n hX dX5_wears_21 2 rfl rfl ?_
  refine zz_iald (x := S 2 (6 * zv_pu S i + j)) hX (hRp (zv_pu S i) b2).2.1.2.2.2.2.1 j rfl (by omega) (by omega) (((hRp (zv_pu S i) b2).2.2.2.1 j (by omega))) dX5_wears_22 ?_
  refine zz_istore (ls' := [(0, .ref 2), (1, .int (nI i)), (2, .int (nI j)), (3, .ref (1000 + 100 * i)), (4, .int (S 2 (6 * zv_pu S i + j)))]) hX dX5_wears_23 (Nat.le_of_ble_eq_true rfl) rfl ?_
  refine zz_iconst (v := nI 0) hX dX5_wears_25 rfl ?_
  refine zz_istore (ls' := [(0, .ref 2), (1, .int (nI i)), (2, .int (nI j)), (3, .ref (1000 + 100 * i)), (4, .int (S 2 (6 * zv_pu S i + j))), (5, .int (nI 0))]) hX dX5_wears_26 (Nat.le_of_ble_eq_true rfl) rfl ?_
  refine zz_aload_n hX dX5_wears_28 3 rfl rfl ?_
  refine zz_getR (y := (1000 + 100 * i + 5)) hX zf_F_X5_182 t1 rfl t5 dX5_wears_29 ?_
  refine zz_getI (x := nI (zv_sk S i)) hX zf_F_X5_186.r r1 rfl (a6) dX5_wears_32 ?_
  refine zz_istore (ls' := [(0, .ref 2), (1, .int (nI i)), (2, .int (nI j)), (3, .ref (1000 + 100 * i)), (4, .int (S 2 (6 * zv_pu S i + j))), (5, .int (nI 0)), (6, .int (nI (zv_sk S i)))]) hX dX5_wears_35 (Nat.le_of_ble_eq_true rfl) rfl ?_
  refine zz_lcl (ls' := [(0, .ref 2), (1, .int (nI i)), (2, .int (nI j)), (3, .ref (1000 + 100 * i)), (4, .int ((zp_wr S i j 0).1)), (5, .int ((zp_wr S i j 0).2)), (6, .int (nI (zv_sk S i + 0)))]) (rfl) ?_
  have L37 : ∀ (k37 : Nat) (m : Nat), zv_fr S i - zv_sk S i - m < k37 → (zv_sk S i + m ≤ zv_fr S i) → zz Γ (D, E, 8, ad, sh) (zz_End Γ (D, E, 8, ad, sh) (zq_ok ((zs_ix (nI i) (zv_ns S)) ∧ (zs_ix (nI j) (zv_jn S (zv_pu S (zn (nI i)))))) (True) (True) ((zp_wr S (zn (nI i)) (zn (nI j)) (zv_fr S (zn (nI i)) - zv_sk S (zn (nI i)))).2) S sh mi mr) (zq_no ((zs_ix (nI i) (zv_ns S)) ∧ (zs_ix (nI j) (zv_jn S (zv_pu S (zn (nI i)))))) (True) (True) sh mi mr) 10 60) 2 12 sh mi mr 37 [(0, .ref 2), (1, .int (nI i)), (2, .int (nI j)), (3, .ref (1000 + 100 * i)), (4, .int ((zp_wr S i j m).1)), (5, .int ((zp_wr S i j m).2)), (6, .int (nI (zv_sk S i + m)))] [] := by
    intro k37
    induction k37 with
    | zero => intro m hk37; exact absurd hk37 (Nat.not_lt_zero _)
    | succ k37 ih37 =>
      intro m hk37 hk9
      refine zz_iload hX dX5_wears_37 6 rfl ?_
      refine zz_aload_n hX dX5_wears_39 3 rfl rfl ?_
      refine zz_getI (x := nI (zv_fr S i)) hX zf_F_X5_235 t1 rfl (a4) dX5_wears_40 ?_
      refine zz_icmp_geN hX (by omega) (by omega) 89 dX5_wears_43 (by decide) (fun c43 => ?_) (fun c43 => ?_)
      · skip
        refine zz_iload hX dX5_wears_89 5 rfl ?_
        refine zz_iret hX hr rfl (Nat.le_of_ble_eq_true rfl) (Nat.le_of_ble_eq_true rfl) dX5_wears_91 ?_
        unfold zq_ok
        (try rw [z_i]); (try rw [z_j])
        exact ⟨⟨⟨zs_ix_nI hi (by omega), zs_ix_nI hj (by omega)⟩, trivial, trivial⟩, by rw [show m = zv_fr S i - zv_sk S i by omega], hR, zr_same.rfl'⟩
      · skip
        refine zz_aload_n hX dX5_wears_46 3 rfl rfl ?_
        refine zz_iload hX dX5_wears_47 6 rfl ?_
        refine zz_vI (x := zz_bi (zp_held S i (zv_sk S i + m))) hX zf_M_X5_149 (As := [.int (nI (zv_sk S i + m))]) (st := []) (K_isHeld S sh mi mr hW hR i hi (zv_sk S i + m) (by omega)) t1 rfl rfl rfl (by decide) (Nat.le_of_ble_eq_true rfl) (Nat.le_of_ble_eq_true rfl) (Nat.le_of_ble_eq_true rfl) dX5_wears_49 ?_
        refine zz_if_neB hX 83 dX5_wears_52 (by decide) (fun c52 => ?_) (fun c52 => ?_)
        · skip
          refine zz_iinc (v := nI ((zv_sk S i + m) + 1)) (ls' := [(0, .ref 2), (1, .int (nI i)), (2, .int (nI j)), (3, .ref (1000 + 100 * i)), (4, .int ((zp_wr S i j m).1)), (5, .int ((zp_wr S i j m).2)), (6, .int (nI ((zv_sk S i + m) + 1)))]) hX dX5_wears_83 6 rfl (nI_1 _) (Nat.le_of_ble_eq_true rfl) rfl ?_
          refine zz_goto hX 37 dX5_wears_86 (by decide) ?_
          refine zz_pick (ls' := [(0, .ref 2), (1, .int (nI i)), (2, .int (nI j)), (3, .ref (1000 + 100 * i)), (4, .int ((zp_wr S i j m).1)), (5, .int ((zp_wr S i j m).2)), (6, .int (nI ((zv_sk S i + m) + 1)))]) [0, 1, 2, 3, 4, 5, 6] rfl ?_
          refine zz_lcl (ls' := [(0, .ref 2), (1, .int (nI i)), (2, .int (nI j)), (3, .ref (1000 + 100 * i)), (4, .int ((zp_wr S i j (m + 1)).1)), (5, .int ((zp_wr S i j (m + 1)).2)), (6, .int (nI (zv_sk S i + (m + 1))))]) (by have e : zp_wr S i j (m + 1) = _ := if_pos c52; first | (rw [e]; done) | (rw [e]; rfl)) ?_
          exact ih37 (m + 1) (by omega) (by omega)
        · skip
          refine zz_aload_n hX dX5_wears_55 3 rfl rfl ?_
          refine zz_iload_n hX dX5_wears_56 2 rfl rfl ?_
          refine zz_iload hX dX5_wears_57 6 rfl ?_
          refine zz_vI (x := zp_deg S i j (zv_sk S i + m)) hX zf_M_X5_154 (As := [.int (nI j), .int (nI (zv_sk S i + m))]) (st := []) (K_sheetDegree S sh mi mr hW hR i hi j hj (zv_sk S i + m) (by omega)) t1 rfl rfl rfl (by decide) (Nat.le_of_ble_eq_true rfl) (Nat.le_of_ble_eq_true rfl) (Nat.le_of_ble_eq_true rfl) dX5_wears_59 ?_
          refine zz_istore (ls' := [(0, .ref 2), (1, .int (nI i)), (2, .int (nI j)), (3, .ref (1000 + 100 * i)), (4, .int ((zp_wr S i j m).1)), (5, .int ((zp_wr S i j m).2)), (6, .int (nI (zv_sk S i + m))), (7, .int (zp_deg S i j (zv_sk S i + m)))]) hX dX5_wears_62 (Nat.le_of_ble_eq_true rfl) rfl ?_
          refine zz_iload hX dX5_wears_64 5 rfl ?_
          refine zz_iload hX dX5_wears_66 4 rfl ?_
          refine zz_iload hX dX5_wears_68 7 rfl ?_
          refine zz_sI (x := zs_sw ((zp_wr S i j m).1) (zp_deg S i j (zv_sk S i + m))) hX zf_M_X5_241 (As := [.int ((zp_wr S i j m).1), .int (zp_deg S i j (zv_sk S i + m))]) (st := [.int ((zp_wr S i j m).2)]) (k_shorterWay ((zp_wr S i j m).1) (zp_deg S i j (zv_sk S i + m)) sh mi mr) rfl rfl (by decide) (Nat.le_of_ble_eq_true rfl) (Nat.le_of_ble_eq_true rfl) (Nat.le_of_ble_eq_true rfl) dX5_wears_70 ?_
          refine zz_abs (z := zs_abs (zs_sw ((zp_wr S i j m).1) (zp_deg S i j (zv_sk S i + m)))) hX zf_M_X5_244 zw_abss zw_mi zw_absc (by decide) (Nat.le_of_ble_eq_true rfl) (Nat.le_of_ble_eq_true rfl) (Nat.le_of_ble_eq_true rfl) rfl dX5_wears_73 ?_
          refine zz_iadd (z := ((zp_wr S i j m).2) + (zs_abs (zs_sw ((zp_wr S i j m).1) (zp_deg S i j (zv_sk S i + m))))) hX dX5_wears_76 rfl ?_
          refine zz_istore (ls' := [(0, .ref 2), (1, .int (nI i)), (2, .int (nI j)), (3, .ref (1000 + 100 * i)), (4, .int ((zp_wr S i j m).1)), (5, .int (((zp_wr S i j m).2) + (zs_abs (zs_sw ((zp_wr S i j m).1) (zp_deg S i j (zv_sk S i + m)))))), (6, .int (nI (zv_sk S i + m))), (7, .int (zp_deg S i j (zv_sk S i + m)))]) hX dX5_wears_77 (Nat.le_of_ble_eq_true rfl) rfl ?_
          refine zz_iload hX dX5_wears_79 7 rfl ?_
          refine zz_istore (ls' := [(0, .ref 2), (1, .int (nI i)), (2, .int (nI j)), (3, .ref (1000 + 100 * i)), (4, .int (zp_deg S i j (zv_sk S i + m))), (5, .int (((zp_wr S i j m).2) + (zs_abs (zs_sw ((zp_wr S i j m).1) (zp_deg S i j (zv_sk S i + m)))))), (6, .int (nI (zv_sk S i + m))), (7, .int (zp_deg S i j (zv_sk S i + m)))]) hX dX5_wears_81 (Nat.le_of_ble_eq_true rfl) rfl ?_
          refine zz_iinc (v := nI ((zv_sk S i + m) + 1)) (ls' := [(0, .ref 2), (1, .int (nI i)), (2, .int (nI j)), (3, .ref (1000 + 100 * i)), (4, .int (zp_deg S i j (zv_sk S i + m))), (5, .int (((zp_wr S i j m).2) + (zs_abs (zs_sw ((zp_wr S i j m).1) (zp_deg S i j (zv_sk S i + m)))))), (6, .int (nI ((zv_sk S i + m) + 1))), (7, .int (zp_deg S i j (zv_sk S i + m)))]) hX dX5_wears_83 6 rfl (nI_1 _) (Nat.le_of_ble_eq_true rfl) rfl ?_
          refine zz_goto hX 37 dX5_wears_86 (by decide) ?_
          refine zz_pick (ls' := [(0, .ref 2), (1, .int (nI i)), (2, .int (nI j)), (3, .ref (1000 + 100 * i)), (4, .int (zp_deg S i j (zv_sk S i + m))), (5, .int (((zp_wr S i j m).2) + (zs_abs (zs_sw ((zp_wr S i j m).1) (zp_deg S i j (zv_sk S i + m)))))), (6, .int (nI ((zv_sk S i + m) + 1)))]) [0, 1, 2, 3, 4, 5, 6] rfl ?_
          refine zz_lcl (ls' := [(0, .ref 2), (1, .int (nI i)), (2, .int (nI j)), (3, .ref (1000 + 100 * i)), (4, .int ((zp_wr S i j (m + 1)).1)), (5, .int ((zp_wr S i j (m + 1)).2)), (6, .int (nI (zv_sk S i + (m + 1))))]) (by have e : zp_wr S i j (m + 1) = _ := if_neg c52; first | (rw [e]; done) | (rw [e]; rfl)) ?_
          exact ih37 (m + 1) (by omega) (by omega)
  exact L37 ((zv_fr S i - zv_sk S i - 0 + 1)) 0 (by omega) b12

set_option maxRecDepth 20000 in
theorem P_faults (S : zS) (sh : zm_Sh) (mi : zm_Mi) (mr : zm_Mr) (hW : zW S) (hR : zR S sh mi mr) (s fx : Int32) : zz_Con yX5_faults (.code yX5_faults cX5_faults 6 (some Jvm.ClassFile.FieldType.int)) 10 10 60 [.ref 2, .int s, .int fx] sh mi mr (zq_ok ((zs_ix s (zv_ns S)) ∧ (zs_ix fx (zv_sk S (zn s)))) (True) (True) (zp_faults S (zn s) (zn fx)) S sh mi mr) (zq_no ((zs_ix s (zv_ns S)) ∧ (zs_ix fx (zv_sk S (zn s)))) (True) (True) sh mi mr) := by
  refine zz_begin RX5 [(0, .ref 2), (1, .int s), (2, .int fx)] (by decide) rfl rfl (Nat.le_of_ble_eq_true rfl) rfl ?_
  intro Γ D E ad hX hr hN hT
  obtain ⟨hRm, hRp, hRv, hRs, hRf⟩ := id hR
  obtain ⟨m1, m2, m3, m4, m5, m6, m7, m8, m9, m10, m11, m12, m13, m14, m15, m16, m17, m18, m19, m20⟩ := hRm
  obtain ⟨hWp, hWv, hWs, hWk, hWr, hWf⟩ := id hW
  obtain ⟨p0, p1, p2, p3, p4, p5⟩ := hWp
  obtain ⟨v0, v1, v2, v3, v4⟩ := hWv
  obtain ⟨s0, s1, s2, s3⟩ := hWs
  obtain ⟨f0, f1, f2, f3⟩ := hWf
  refine zz_aload_n hX dX5_faults_0 0 rfl rfl ?_
  refine zz_iload_n hX dX5_faults_1 1 rfl rfl ?_
  refine zz_callV hX zf_M_X5_106 (As := [.int s]) (st := []) (K_shotAt S sh mi mr hW hR s) m1 rfl rfl rfl (by decide) (Nat.le_of_ble_eq_true rfl) (Nat.le_of_ble_eq_true rfl) (Nat.le_of_ble_eq_true rfl) dX5_faults_2 ?_ ?_
  rotate_left
  · rintro e9 s9 i9 m9 ⟨x2, rfl, rfl, rfl, rfl⟩ -; exact zz_out hX hT (Nat.le_of_ble_eq_true rfl) (Nat.le_of_ble_eq_true rfl) (by unfold zq_no; skip; exact ⟨Or.inl ⟨rfl, fun h => x2 (h.1)⟩, rfl, rfl, rfl⟩)
  rintro v9 s9 i9 m9 ⟨i, hi, rfl, rfl, e2, e3, e4⟩ -
  obtain rfl := e2.symm
  obtain rfl := e3.symm
  obtain rfl := e4.symm
  have z_i : zn (nI i) = i := nI_clamp (n := i) (by omega)
  obtain ⟨a1, a2, a3, a4, a5, a6, a7, a8⟩ := zR_sh hW hR hi
  obtain ⟨t1, t2, t3, t4, t5, t6, t7, t8, t9, t10⟩ := a3
  obtain ⟨r1, r2, r3, r4, r5, r6, r7, r8, r9, r10, r11, r12, r13, r14, r15⟩ := t10
  obtain ⟨u1, u2, u3, u4, u5, u6, u7, u8, u9, u10⟩ := hRs i hi
  obtain ⟨b1, b2, b3, b4, b5, b6, b7, b8, b9, b10, b11, b12, b13⟩ := s2 i hi
  refine zz_astore_n (ls' := [(0, .ref 2), (1, .int (nI i)), (2, .int fx), (3, .ref (1000 + 100 * i))]) hX dX5_faults_5 rfl (Nat.le_of_ble_eq_true rfl) rfl ?_
  refine zz_aload_n hX dX5_faults_6 3 rfl rfl ?_
  refine zz_iload_n hX dX5_faults_7 2 rfl rfl ?_
  refine zz_sC hX zf_M_X5_249 (As := [.ref (1000 + 100 * i), .int fx]) (st := []) (K_needStruck S sh mi mr hW hR i hi fx) rfl rfl (by decide) (Nat.le_of_ble_eq_true rfl) (Nat.le_of_ble_eq_true rfl) (Nat.le_of_ble_eq_true rfl) dX5_faults_8 (fun p8 => ?_) (fun x8 => zz_out hX hT (Nat.le_of_ble_eq_true rfl) (Nat.le_of_ble_eq_true rfl) (by unfold zq_no; (try rw [z_i]); exact ⟨Or.inl ⟨rfl, fun h => x8 (h.2)⟩, rfl, rfl, rfl⟩))
  obtain ⟨f, hf, rfl⟩ := zs_ix_of p8 (by omega)
  have z_f : zn (nI f) = f := nI_clamp (n := f) (by omega)
  refine zz_aload_n hX dX5_faults_11 3 rfl rfl ?_
  refine zz_getR (y := (1000 + 100 * i + 5)) hX zf_F_X5_182 t1 rfl t5 dX5_faults_12 ?_
  refine zz_astore (ls' := [(0, .ref 2), (1, .int (nI i)), (2, .int (nI f)), (3, .ref (1000 + 100 * i)), (4, .ref (1000 + 100 * i + 5))]) hX dX5_faults_15 (Nat.le_of_ble_eq_true rfl) rfl ?_
  refine zz_aload_n hX dX5_faults_17 3 rfl rfl ?_
  refine zz_iload_n hX dX5_faults_18 2 rfl rfl ?_
  refine zz_vI (x := zz_bi (zs_any (fun j => ¬ S 22 (48 * (6 * i + j) + f) = zp_deg S i j f) (zv_jn S (zv_pu S i)) = false)) hX zf_M_X5_268 (As := [.int (nI f)]) (st := []) (K_posedAsSheet S sh mi mr hW hR i hi f (by omega)) t1 rfl rfl rfl (by decide) (Nat.le_of_ble_eq_true rfl) (Nat.le_of_ble_eq_true rfl) (Nat.le_of_ble_eq_true rfl) dX5_faults_19 ?_
  refine zz_if_eqB hX 29 dX5_faults_22 (by decide) (fun c22 => ?_) (fun c22 => ?_)
  · skip
    refine zz_iconst (v := nI 1) hX dX5_faults_29 rfl ?_
    refine zz_istore (ls' := [(0, .ref 2), (1, .int (nI i)), (2, .int (nI f)), (3, .ref (1000 + 100 * i)), (4, .ref (1000 + 100 * i + 5)), (5, .int (nI 1))]) hX dX5_faults_30 (Nat.le_of_ble_eq_true rfl) rfl ?_
    refine zz_aload hX dX5_faults_32 4 rfl ?_
    refine zz_getR (y := (1000 + 100 * i + 7)) hX zf_F_X5_256 r1 rfl r3 dX5_faults_34 ?_
    refine zz_iload_n hX dX5_faults_37 2 rfl rfl ?_
    refine zz_iald (x := S 23 (48 * i + f)) hX r9 f rfl (by omega) (by omega) ((u10 f (by omega)).1) dX5_faults_38 ?_
    refine zz_aload_n hX dX5_faults_39 0 rfl rfl ?_
    refine zz_aload_n hX dX5_faults_40 3 rfl rfl ?_
    refine zz_iload_n hX dX5_faults_41 2 rfl rfl ?_
    refine zz_vI (x := zp_mouth S i f) hX zf_M_X5_231 (As := [.ref (1000 + 100 * i), .int (nI f)]) (st := [.int (S 23 (48 * i + f))]) (K_sheetMouth S sh mi mr hW hR i hi f (by omega)) m1 rfl rfl rfl (by decide) (Nat.le_of_ble_eq_true rfl) (Nat.le_of_ble_eq_true rfl) (Nat.le_of_ble_eq_true rfl) dX5_faults_42 ?_
    refine zz_icmp_eq hX 54 dX5_faults_45 (by decide) (fun c45 => ?_) (fun c45 => ?_)
    · skip
      refine zz_aload hX dX5_faults_54 4 rfl ?_
      refine zz_getR (y := (1000 + 100 * i + 10)) hX zf_F_X5_265 r1 rfl r6 dX5_faults_56 ?_
      refine zz_iload_n hX dX5_faults_59 2 rfl rfl ?_
      refine zz_iald (x := S 27 (48 * i + f)) hX r12 f rfl (by omega) (by omega) ((u10 f (by omega)).2.2.2.1) dX5_faults_60 ?_
      refine zz_if_eq hX 70 dX5_faults_61 (by decide) (fun c61 => ?_) (fun c61 => ?_)
      · skip
        refine zz_iload_n hX dX5_faults_70 2 rfl rfl ?_
        refine zz_if_leN hX (by omega) 106 dX5_faults_71 (by decide) (fun c71 => ?_) (fun c71 => ?_)
        · skip
          refine zz_aload hX dX5_faults_106 4 rfl ?_
          refine zz_getR (y := (1000 + 100 * i + 8)) hX zf_F_X5_259 r1 rfl r4 dX5_faults_108 ?_
          refine zz_iload_n hX dX5_faults_111 2 rfl rfl ?_
          refine zz_iald (x := S 25 (48 * i + f)) hX r10 f rfl (by omega) (by omega) ((u10 f (by omega)).2.1) dX5_faults_112 ?_
          refine zz_aload_n hX dX5_faults_113 3 rfl rfl ?_
          refine zz_getR (y := (1000 + 100 * i + 2)) hX zf_F_X5_167 t1 rfl t4 dX5_faults_114 ?_
          refine zz_iload_n hX dX5_faults_117 2 rfl rfl ?_
          refine zz_vI (x := zp_place S i f) hX zf_M_X5_171 (As := [.int (nI f)]) (st := [.int (S 25 (48 * i + f))]) (K_placeAt S sh mi mr hW hR i hi f (by omega)) t9.1 rfl rfl rfl (by decide) (Nat.le_of_ble_eq_true rfl) (Nat.le_of_ble_eq_true rfl) (Nat.le_of_ble_eq_true rfl) dX5_faults_118 ?_
          refine zz_icmp_eq hX 131 dX5_faults_121 (by decide) (fun c121 => ?_) (fun c121 => ?_)
          · skip
            refine zz_iload hX dX5_faults_131 5 rfl ?_
            refine zz_iret hX hr rfl (Nat.le_of_ble_eq_true rfl) (Nat.le_of_ble_eq_true rfl) dX5_faults_133 ?_
            unfold zq_ok
            (try rw [z_i]); (try rw [z_f])
            exact ⟨⟨⟨zs_ix_nI hi (by omega), zs_ix_nI hf (by omega)⟩, trivial, trivial⟩, by first | (rw [show zp_faults S i f = _ from if_pos c121, show zp_f3 S i f = _ from if_neg (fun h => absurd h.1 (by omega)), show zp_f2 S i f = _ from if_pos c61, show zp_f1 S i f = _ from if_pos c45, show zp_f0 S i f = _ from if_neg c22]; done) | (rw [show zp_faults S i f = _ from if_pos c121, show zp_f3 S i f = _ from if_neg (fun h => absurd h.1 (by omega)), show zp_f2 S i f = _ from if_pos c61, show zp_f1 S i f = _ from if_pos c45, show zp_f0 S i f = _ from if_neg c22]; rfl), hR, zr_same.rfl'⟩
          · skip
            refine zz_iload hX dX5_faults_124 5 rfl ?_
            refine zz_bipush (v := nI 16) hX dX5_faults_126 rfl ?_
            refine zz_ior (z := (nI 1) ||| (nI 16)) hX dX5_faults_128 rfl ?_
            refine zz_istore (ls' := [(0, .ref 2), (1, .int (nI i)), (2, .int (nI f)), (3, .ref (1000 + 100 * i)), (4, .ref (1000 + 100 * i + 5)), (5, .int ((nI 1) ||| (nI 16)))]) hX dX5_faults_129 (Nat.le_of_ble_eq_true rfl) rfl ?_
            refine zz_iload hX dX5_faults_131 5 rfl ?_
            refine zz_iret hX hr rfl (Nat.le_of_ble_eq_true rfl) (Nat.le_of_ble_eq_true rfl) dX5_faults_133 ?_
            unfold zq_ok
            (try rw [z_i]); (try rw [z_f])
            exact ⟨⟨⟨zs_ix_nI hi (by omega), zs_ix_nI hf (by omega)⟩, trivial, trivial⟩, by first | (rw [show zp_faults S i f = _ from if_neg c121, show zp_f3 S i f = _ from if_neg (fun h => absurd h.1 (by omega)), show zp_f2 S i f = _ from if_pos c61, show zp_f1 S i f = _ from if_pos c45, show zp_f0 S i f = _ from if_neg c22]; done) | (rw [show zp_faults S i f = _ from if_neg c121, show zp_f3 S i f = _ from if_neg (fun h => absurd h.1 (by omega)), show zp_f2 S i f = _ from if_pos c61, show zp_f1 S i f = _ from if_pos c45, show zp_f0 S i f = _ from if_neg c22]; rfl), hR, zr_same.rfl'⟩
        · skip
          refine zz_aload hX dX5_faults_74 4 rfl ?_
          refine zz_getR (y := (1000 + 100 * i + 9)) hX zf_F_X5_262 r1 rfl r5 dX5_faults_76 ?_
          refine zz_iload_n hX dX5_faults_79 2 rfl rfl ?_
          refine zz_iald (x := S 26 (48 * i + f)) hX r11 f rfl (by omega) (by omega) ((u10 f (by omega)).2.2.1) dX5_faults_80 ?_
          refine zz_aload hX dX5_faults_81 4 rfl ?_
          refine zz_getR (y := (1000 + 100 * i + 9)) hX zf_F_X5_262 r1 rfl r5 dX5_faults_83 ?_
          refine zz_iload_n hX dX5_faults_86 2 rfl rfl ?_
          refine zz_iconst (v := nI 1) hX dX5_faults_87 rfl ?_
          refine zz_isub (z := nI (f - 1)) hX dX5_faults_88 (pk_sub (by omega)) ?_
          refine zz_iald (x := S 26 (48 * i + (f - 1))) hX r11 (f - 1) rfl (by omega) (by omega) ((u10 (f - 1) (by omega)).2.2.1) dX5_faults_89 ?_
          refine zz_isub (z := (S 26 (48 * i + f)) - (S 26 (48 * i + (f - 1)))) hX dX5_faults_90 rfl ?_
          refine zz_abs (z := zs_abs ((S 26 (48 * i + f)) - (S 26 (48 * i + (f - 1))))) hX zf_M_X5_244 zw_abss zw_mi zw_absc (by decide) (Nat.le_of_ble_eq_true rfl) (Nat.le_of_ble_eq_true rfl) (Nat.le_of_ble_eq_true rfl) rfl dX5_faults_91 ?_
          refine zz_bipush (v := nI 20) hX dX5_faults_94 rfl ?_
          refine zz_icmp_le hX 106 dX5_faults_96 (by decide) (fun c96 => ?_) (fun c96 => ?_)
          · skip
            refine zz_aload hX dX5_faults_106 4 rfl ?_
            refine zz_getR (y := (1000 + 100 * i + 8)) hX zf_F_X5_259 r1 rfl r4 dX5_faults_108 ?_
            refine zz_iload_n hX dX5_faults_111 2 rfl rfl ?_
            refine zz_iald (x := S 25 (48 * i + f)) hX r10 f rfl (by omega) (by omega) ((u10 f (by omega)).2.1) dX5_faults_112 ?_
            refine zz_aload_n hX dX5_faults_113 3 rfl rfl ?_
            refine zz_getR (y := (1000 + 100 * i + 2)) hX zf_F_X5_167 t1 rfl t4 dX5_faults_114 ?_
            refine zz_iload_n hX dX5_faults_117 2 rfl rfl ?_
            refine zz_vI (x := zp_place S i f) hX zf_M_X5_171 (As := [.int (nI f)]) (st := [.int (S 25 (48 * i + f))]) (K_placeAt S sh mi mr hW hR i hi f (by omega)) t9.1 rfl rfl rfl (by decide) (Nat.le_of_ble_eq_true rfl) (Nat.le_of_ble_eq_true rfl) (Nat.le_of_ble_eq_true rfl) dX5_faults_118 ?_
            refine zz_icmp_eq hX 131 dX5_faults_121 (by decide) (fun c121 => ?_) (fun c121 => ?_)
            · skip
              refine zz_iload hX dX5_faults_131 5 rfl ?_
              refine zz_iret hX hr rfl (Nat.le_of_ble_eq_true rfl) (Nat.le_of_ble_eq_true rfl) dX5_faults_133 ?_
              unfold zq_ok
              (try rw [z_i]); (try rw [z_f])
              exact ⟨⟨⟨zs_ix_nI hi (by omega), zs_ix_nI hf (by omega)⟩, trivial, trivial⟩, by first | (rw [show zp_faults S i f = _ from if_pos c121, show zp_f3 S i f = _ from if_neg (fun h => by have h2 := h.2; rw [zs_lt] at h2; rw [zs_le] at c96; omega), show zp_f2 S i f = _ from if_pos c61, show zp_f1 S i f = _ from if_pos c45, show zp_f0 S i f = _ from if_neg c22]; done) | (rw [show zp_faults S i f = _ from if_pos c121, show zp_f3 S i f = _ from if_neg (fun h => by have h2 := h.2; rw [zs_lt] at h2; rw [zs_le] at c96; omega), show zp_f2 S i f = _ from if_pos c61, show zp_f1 S i f = _ from if_pos c45, show zp_f0 S i f = _ from if_neg c22]; rfl), hR, zr_same.rfl'⟩
            · skip
              refine zz_iload hX dX5_faults_124 5 rfl ?_
              refine zz_bipush (v := nI 16) hX dX5_faults_126 rfl ?_
              refine zz_ior (z := (nI 1) ||| (nI 16)) hX dX5_faults_128 rfl ?_
              refine zz_istore (ls' := [(0, .ref 2), (1, .int (nI i)), (2, .int (nI f)), (3, .ref (1000 + 100 * i)), (4, .ref (1000 + 100 * i + 5)), (5, .int ((nI 1) ||| (nI 16)))]) hX dX5_faults_129 (Nat.le_of_ble_eq_true rfl) rfl ?_
              refine zz_iload hX dX5_faults_131 5 rfl ?_
              refine zz_iret hX hr rfl (Nat.le_of_ble_eq_true rfl) (Nat.le_of_ble_eq_true rfl) dX5_faults_133 ?_
              unfold zq_ok
              (try rw [z_i]); (try rw [z_f])
              exact ⟨⟨⟨zs_ix_nI hi (by omega), zs_ix_nI hf (by omega)⟩, trivial, trivial⟩, by first | (rw [show zp_faults S i f = _ from if_neg c121, show zp_f3 S i f = _ from if_neg (fun h => by have h2 := h.2; rw [zs_lt] at h2; rw [zs_le] at c96; omega), show zp_f2 S i f = _ from if_pos c61, show zp_f1 S i f = _ from if_pos c45, show zp_f0 S i f = _ from if_neg c22]; done) | (rw [show zp_faults S i f = _ from if_neg c121, show zp_f3 S i f = _ from if_neg (fun h => by have h2 := h.2; rw [zs_lt] at h2; rw [zs_le] at c96; omega), show zp_f2 S i f = _ from if_pos c61, show zp_f1 S i f = _ from if_pos c45, show zp_f0 S i f = _ from if_neg c22]; rfl), hR, zr_same.rfl'⟩
          · skip
            refine zz_iload hX dX5_faults_99 5 rfl ?_
            refine zz_bipush (v := nI 8) hX dX5_faults_101 rfl ?_
            refine zz_ior (z := (nI 1) ||| (nI 8)) hX dX5_faults_103 rfl ?_
            refine zz_istore (ls' := [(0, .ref 2), (1, .int (nI i)), (2, .int (nI f)), (3, .ref (1000 + 100 * i)), (4, .ref (1000 + 100 * i + 5)), (5, .int ((nI 1) ||| (nI 8)))]) hX dX5_faults_104 (Nat.le_of_ble_eq_true rfl) rfl ?_
            refine zz_aload hX dX5_faults_106 4 rfl ?_
            refine zz_getR (y := (1000 + 100 * i + 8)) hX zf_F_X5_259 r1 rfl r4 dX5_faults_108 ?_
            refine zz_iload_n hX dX5_faults_111 2 rfl rfl ?_
            refine zz_iald (x := S 25 (48 * i + f)) hX r10 f rfl (by omega) (by omega) ((u10 f (by omega)).2.1) dX5_faults_112 ?_
            refine zz_aload_n hX dX5_faults_113 3 rfl rfl ?_
            refine zz_getR (y := (1000 + 100 * i + 2)) hX zf_F_X5_167 t1 rfl t4 dX5_faults_114 ?_
            refine zz_iload_n hX dX5_faults_117 2 rfl rfl ?_
            refine zz_vI (x := zp_place S i f) hX zf_M_X5_171 (As := [.int (nI f)]) (st := [.int (S 25 (48 * i + f))]) (K_placeAt S sh mi mr hW hR i hi f (by omega)) t9.1 rfl rfl rfl (by decide) (Nat.le_of_ble_eq_true rfl) (Nat.le_of_ble_eq_true rfl) (Nat.le_of_ble_eq_true rfl) dX5_faults_118 ?_
            refine zz_icmp_eq hX 131 dX5_faults_121 (by decide) (fun c121 => ?_) (fun c121 => ?_)
            · skip
              refine zz_iload hX dX5_faults_131 5 rfl ?_
              refine zz_iret hX hr rfl (Nat.le_of_ble_eq_true rfl) (Nat.le_of_ble_eq_true rfl) dX5_faults_133 ?_
              unfold zq_ok
              (try rw [z_i]); (try rw [z_f])
              exact ⟨⟨⟨zs_ix_nI hi (by omega), zs_ix_nI hf (by omega)⟩, trivial, trivial⟩, by first | (rw [show zp_faults S i f = _ from if_pos c121, show zp_f3 S i f = _ from if_pos ⟨c71, zs_nle c96⟩, show zp_f2 S i f = _ from if_pos c61, show zp_f1 S i f = _ from if_pos c45, show zp_f0 S i f = _ from if_neg c22]; done) | (rw [show zp_faults S i f = _ from if_pos c121, show zp_f3 S i f = _ from if_pos ⟨c71, zs_nle c96⟩, show zp_f2 S i f = _ from if_pos c61, show zp_f1 S i f = _ from if_pos c45, show zp_f0 S i f = _ from if_neg c22]; rfl), hR, zr_same.rfl'⟩
            · skip
              refine zz_iload hX dX5_faults_124 5 rfl ?_
              refine zz_bipush (v := nI 16) hX dX5_faults_126 rfl ?_
              refine zz_ior (z := ((nI 1) ||| (nI 8)) ||| (nI 16)) hX dX5_faults_128 rfl ?_
              refine zz_istore (ls' := [(0, .ref 2), (1, .int (nI i)), (2, .int (nI f)), (3, .ref (1000 + 100 * i)), (4, .ref (1000 + 100 * i + 5)), (5, .int (((nI 1) ||| (nI 8)) ||| (nI 16)))]) hX dX5_faults_129 (Nat.le_of_ble_eq_true rfl) rfl ?_
              refine zz_iload hX dX5_faults_131 5 rfl ?_
              refine zz_iret hX hr rfl (Nat.le_of_ble_eq_true rfl) (Nat.le_of_ble_eq_true rfl) dX5_faults_133 ?_
              unfold zq_ok
              (try rw [z_i]); (try rw [z_f])
              exact ⟨⟨⟨zs_ix_nI hi (by omega), zs_ix_nI hf (by omega)⟩, trivial, trivial⟩, by first | (rw [show zp_faults S i f = _ from if_neg c121, show zp_f3 S i f = _ from if_pos ⟨c71, zs_nle c96⟩, show zp_f2 S i f = _ from if_pos c61, show zp_f1 S i f = _ from if_pos c45, show zp_f0 S i f = _ from if_neg c22]; done) | (rw [show zp_faults S i f = _ from if_neg c121, show zp_f3 S i f = _ from if_pos ⟨c71, zs_nle c96⟩, show zp_f2 S i f = _ from if_pos c61, show zp_f1 S i f = _ from if_pos c45, show zp_f0 S i f = _ from if_neg c22]; rfl), hR, zr_same.rfl'⟩
      · skip
        refine zz_iload hX dX5_faults_64 5 rfl ?_
        refine zz_iconst (v := nI 4) hX dX5_faults_66 rfl ?_
        refine zz_ior (z := (nI 1) ||| (nI 4)) hX dX5_faults_67 rfl ?_
        refine zz_istore (ls' := [(0, .ref 2), (1, .int (nI i)), (2, .int (nI f)), (3, .ref (1000 + 100 * i)), (4, .ref (1000 + 100 * i + 5)), (5, .int ((nI 1) ||| (nI 4)))]) hX dX5_faults_68 (Nat.le_of_ble_eq_true rfl) rfl ?_
        refine zz_iload_n hX dX5_faults_70 2 rfl rfl ?_
        refine zz_if_leN hX (by omega) 106 dX5_faults_71 (by decide) (fun c71 => ?_) (fun c71 => ?_)
        · skip
          refine zz_aload hX dX5_faults_106 4 rfl ?_
          refine zz_getR (y := (1000 + 100 * i + 8)) hX zf_F_X5_259 r1 rfl r4 dX5_faults_108 ?_
          refine zz_iload_n hX dX5_faults_111 2 rfl rfl ?_
          refine zz_iald (x := S 25 (48 * i + f)) hX r10 f rfl (by omega) (by omega) ((u10 f (by omega)).2.1) dX5_faults_112 ?_
          refine zz_aload_n hX dX5_faults_113 3 rfl rfl ?_
          refine zz_getR (y := (1000 + 100 * i + 2)) hX zf_F_X5_167 t1 rfl t4 dX5_faults_114 ?_
          refine zz_iload_n hX dX5_faults_117 2 rfl rfl ?_
          refine zz_vI (x := zp_place S i f) hX zf_M_X5_171 (As := [.int (nI f)]) (st := [.int (S 25 (48 * i + f))]) (K_placeAt S sh mi mr hW hR i hi f (by omega)) t9.1 rfl rfl rfl (by decide) (Nat.le_of_ble_eq_true rfl) (Nat.le_of_ble_eq_true rfl) (Nat.le_of_ble_eq_true rfl) dX5_faults_118 ?_
          refine zz_icmp_eq hX 131 dX5_faults_121 (by decide) (fun c121 => ?_) (fun c121 => ?_)
          · skip
            refine zz_iload hX dX5_faults_131 5 rfl ?_
            refine zz_iret hX hr rfl (Nat.le_of_ble_eq_true rfl) (Nat.le_of_ble_eq_true rfl) dX5_faults_133 ?_
            unfold zq_ok
            (try rw [z_i]); (try rw [z_f])
            exact ⟨⟨⟨zs_ix_nI hi (by omega), zs_ix_nI hf (by omega)⟩, trivial, trivial⟩, by first | (rw [show zp_faults S i f = _ from if_pos c121, show zp_f3 S i f = _ from if_neg (fun h => absurd h.1 (by omega)), show zp_f2 S i f = _ from if_neg c61, show zp_f1 S i f = _ from if_pos c45, show zp_f0 S i f = _ from if_neg c22]; done) | (rw [show zp_faults S i f = _ from if_pos c121, show zp_f3 S i f = _ from if_neg (fun h => absurd h.1 (by omega)), show zp_f2 S i f = _ from if_neg c61, show zp_f1 S i f = _ from if_pos c45, show zp_f0 S i f = _ from if_neg c22]; rfl), hR, zr_same.rfl'⟩
          · skip
            refine zz_iload hX dX5_faults_124 5 rfl ?_
            refine zz_bipush (v := nI 16) hX dX5_faults_126 rfl ?_
            refine zz_ior (z := ((nI 1) ||| (nI 4)) ||| (nI 16)) hX dX5_faults_128 rfl ?_
            refine zz_istore (ls' := [(0, .ref 2), (1, .int (nI i)), (2, .int (nI f)), (3, .ref (1000 + 100 * i)), (4, .ref (1000 + 100 * i + 5)), (5, .int (((nI 1) ||| (nI 4)) ||| (nI 16)))]) hX dX5_faults_129 (Nat.le_of_ble_eq_true rfl) rfl ?_
            refine zz_iload hX dX5_faults_131 5 rfl ?_
            refine zz_iret hX hr rfl (Nat.le_of_ble_eq_true rfl) (Nat.le_of_ble_eq_true rfl) dX5_faults_133 ?_
            unfold zq_ok
            (try rw [z_i]); (try rw [z_f])
            exact ⟨⟨⟨zs_ix_nI hi (by omega), zs_ix_nI hf (by omega)⟩, trivial, trivial⟩, by first | (rw [show zp_faults S i f = _ from if_neg c121, show zp_f3 S i f = _ from if_neg (fun h => absurd h.1 (by omega)), show zp_f2 S i f = _ from if_neg c61, show zp_f1 S i f = _ from if_pos c45, show zp_f0 S i f = _ from if_neg c22]; done) | (rw [show zp_faults S i f = _ from if_neg c121, show zp_f3 S i f = _ from if_neg (fun h => absurd h.1 (by omega)), show zp_f2 S i f = _ from if_neg c61, show zp_f1 S i f = _ from if_pos c45, show zp_f0 S i f = _ from if_neg c22]; rfl), hR, zr_same.rfl'⟩
        · skip
          refine zz_aload hX dX5_faults_74 4 rfl ?_
          refine zz_getR (y := (1000 + 100 * i + 9)) hX zf_F_X5_262 r1 rfl r5 dX5_faults_76 ?_
          refine zz_iload_n hX dX5_faults_79 2 rfl rfl ?_
          refine zz_iald (x := S 26 (48 * i + f)) hX r11 f rfl (by omega) (by omega) ((u10 f (by omega)).2.2.1) dX5_faults_80 ?_
          refine zz_aload hX dX5_faults_81 4 rfl ?_
          refine zz_getR (y := (1000 + 100 * i + 9)) hX zf_F_X5_262 r1 rfl r5 dX5_faults_83 ?_
          refine zz_iload_n hX dX5_faults_86 2 rfl rfl ?_
          refine zz_iconst (v := nI 1) hX dX5_faults_87 rfl ?_
          refine zz_isub (z := nI (f - 1)) hX dX5_faults_88 (pk_sub (by omega)) ?_
          refine zz_iald (x := S 26 (48 * i + (f - 1))) hX r11 (f - 1) rfl (by omega) (by omega) ((u10 (f - 1) (by omega)).2.2.1) dX5_faults_89 ?_
          refine zz_isub (z := (S 26 (48 * i + f)) - (S 26 (48 * i + (f - 1)))) hX dX5_faults_90 rfl ?_
          refine zz_abs (z := zs_abs ((S 26 (48 * i + f)) - (S 26 (48 * i + (f - 1))))) hX zf_M_X5_244 zw_abss zw_mi zw_absc (by decide) (Nat.le_of_ble_eq_true rfl) (Nat.le_of_ble_eq_true rfl) (Nat.le_of_ble_eq_true rfl) rfl dX5_faults_91 ?_
          refine zz_bipush (v := nI 20) hX dX5_faults_94 rfl ?_
          refine zz_icmp_le hX 106 dX5_faults_96 (by decide) (fun c96 => ?_) (fun c96 => ?_)
          · skip
            refine zz_aload hX dX5_faults_106 4 rfl ?_
            refine zz_getR (y := (1000 + 100 * i + 8)) hX zf_F_X5_259 r1 rfl r4 dX5_faults_108 ?_
            refine zz_iload_n hX dX5_faults_111 2 rfl rfl ?_
            refine zz_iald (x := S 25 (48 * i + f)) hX r10 f rfl (by omega) (by omega) ((u10 f (by omega)).2.1) dX5_faults_112 ?_
            refine zz_aload_n hX dX5_faults_113 3 rfl rfl ?_
            refine zz_getR (y := (1000 + 100 * i + 2)) hX zf_F_X5_167 t1 rfl t4 dX5_faults_114 ?_
            refine zz_iload_n hX dX5_faults_117 2 rfl rfl ?_
            refine zz_vI (x := zp_place S i f) hX zf_M_X5_171 (As := [.int (nI f)]) (st := [.int (S 25 (48 * i + f))]) (K_placeAt S sh mi mr hW hR i hi f (by omega)) t9.1 rfl rfl rfl (by decide) (Nat.le_of_ble_eq_true rfl) (Nat.le_of_ble_eq_true rfl) (Nat.le_of_ble_eq_true rfl) dX5_faults_118 ?_
            refine zz_icmp_eq hX 131 dX5_faults_121 (by decide) (fun c121 => ?_) (fun c121 => ?_)
            · skip
              refine zz_iload hX dX5_faults_131 5 rfl ?_
              refine zz_iret hX hr rfl (Nat.le_of_ble_eq_true rfl) (Nat.le_of_ble_eq_true rfl) dX5_faults_133 ?_
              unfold zq_ok
              (try rw [z_i]); (try rw [z_f])
              exact ⟨⟨⟨zs_ix_nI hi (by omega), zs_ix_nI hf (by omega)⟩, trivial, trivial⟩, by first | (rw [show zp_faults S i f = _ from if_pos c121, show zp_f3 S i f = _ from if_neg (fun h => by have h2 := h.2; rw [zs_lt] at h2; rw [zs_le] at c96; omega), show zp_f2 S i f = _ from if_neg c61, show zp_f1 S i f = _ from if_pos c45, show zp_f0 S i f = _ from if_neg c22]; done) | (rw [show zp_faults S i f = _ from if_pos c121, show zp_f3 S i f = _ from if_neg (fun h => by have h2 := h.2; rw [zs_lt] at h2; rw [zs_le] at c96; omega), show zp_f2 S i f = _ from if_neg c61, show zp_f1 S i f = _ from if_pos c45, show zp_f0 S i f = _ from if_neg c22]; rfl), hR, zr_same.rfl'⟩
            · skip
              refine zz_iload hX dX5_faults_124 5 rfl ?_
              refine zz_bipush (v := nI 16) hX dX5_faults_126 rfl ?_
              refine zz_ior (z := ((nI 1) ||| (nI 4)) ||| (nI 16)) hX dX5_faults_128 rfl ?_
              refine zz_istore (ls' := [(0, .ref 2), (1, .int (nI i)), (2, .int (nI f)), (3, .ref (1000 + 100 * i)), (4, .ref (1000 + 100 * i + 5)), (5, .int (((nI 1) ||| (nI 4)) ||| (nI 16)))]) hX dX5_faults_129 (Nat.le_of_ble_eq_true rfl) rfl ?_
              refine zz_iload hX dX5_faults_131 5 rfl ?_
              refine zz_iret hX hr rfl (Nat.le_of_ble_eq_true rfl) (Nat.le_of_ble_eq_true rfl) dX5_faults_133 ?_
              unfold zq_ok
              (try rw [z_i]); (try rw [z_f])
              exact ⟨⟨⟨zs_ix_nI hi (by omega), zs_ix_nI hf (by omega)⟩, trivial, trivial⟩, by first | (rw [show zp_faults S i f = _ from if_neg c121, show zp_f3 S i f = _ from if_neg (fun h => by have h2 := h.2; rw [zs_lt] at h2; rw [zs_le] at c96; omega), show zp_f2 S i f = _ from if_neg c61, show zp_f1 S i f = _ from if_pos c45, show zp_f0 S i f = _ from if_neg c22]; done) | (rw [show zp_faults S i f = _ from if_neg c121, show zp_f3 S i f = _ from if_neg (fun h => by have h2 := h.2; rw [zs_lt] at h2; rw [zs_le] at c96; omega), show zp_f2 S i f = _ from if_neg c61, show zp_f1 S i f = _ from if_pos c45, show zp_f0 S i f = _ from if_neg c22]; rfl), hR, zr_same.rfl'⟩
          · skip
            refine zz_iload hX dX5_faults_99 5 rfl ?_
            refine zz_bipush (v := nI 8) hX dX5_faults_101 rfl ?_
            refine zz_ior (z := ((nI 1) ||| (nI 4)) ||| (nI 8)) hX dX5_faults_103 rfl ?_
            refine zz_istore (ls' := [(0, .ref 2), (1, .int (nI i)), (2, .int (nI f)), (3, .ref (1000 + 100 * i)), (4, .ref (1000 + 100 * i + 5)), (5, .int (((nI 1) ||| (nI 4)) ||| (nI 8)))]) hX dX5_faults_104 (Nat.le_of_ble_eq_true rfl) rfl ?_
            refine zz_aload hX dX5_faults_106 4 rfl ?_
            refine zz_getR (y := (1000 + 100 * i + 8)) hX zf_F_X5_259 r1 rfl r4 dX5_faults_108 ?_
            refine zz_iload_n hX dX5_faults_111 2 rfl rfl ?_
            refine zz_iald (x := S 25 (48 * i + f)) hX r10 f rfl (by omega) (by omega) ((u10 f (by omega)).2.1) dX5_faults_112 ?_
            refine zz_aload_n hX dX5_faults_113 3 rfl rfl ?_
            refine zz_getR (y := (1000 + 100 * i + 2)) hX zf_F_X5_167 t1 rfl t4 dX5_faults_114 ?_
            refine zz_iload_n hX dX5_faults_117 2 rfl rfl ?_
            refine zz_vI (x := zp_place S i f) hX zf_M_X5_171 (As := [.int (nI f)]) (st := [.int (S 25 (48 * i + f))]) (K_placeAt S sh mi mr hW hR i hi f (by omega)) t9.1 rfl rfl rfl (by decide) (Nat.le_of_ble_eq_true rfl) (Nat.le_of_ble_eq_true rfl) (Nat.le_of_ble_eq_true rfl) dX5_faults_118 ?_
            refine zz_icmp_eq hX 131 dX5_faults_121 (by decide) (fun c121 => ?_) (fun c121 => ?_)
            · skip
              refine zz_iload hX dX5_faults_131 5 rfl ?_
              refine zz_iret hX hr rfl (Nat.le_of_ble_eq_true rfl) (Nat.le_of_ble_eq_true rfl) dX5_faults_133 ?_
              unfold zq_ok
              (try rw [z_i]); (try rw [z_f])
              exact ⟨⟨⟨zs_ix_nI hi (by omega), zs_ix_nI hf (by omega)⟩, trivial, trivial⟩, by first | (rw [show zp_faults S i f = _ from if_pos c121, show zp_f3 S i f = _ from if_pos ⟨c71, zs_nle c96⟩, show zp_f2 S i f = _ from if_neg c61, show zp_f1 S i f = _ from if_pos c45, show zp_f0 S i f = _ from if_neg c22]; done) | (rw [show zp_faults S i f = _ from if_pos c121, show zp_f3 S i f = _ from if_pos ⟨c71, zs_nle c96⟩, show zp_f2 S i f = _ from if_neg c61, show zp_f1 S i f = _ from if_pos c45, show zp_f0 S i f = _ from if_neg c22]; rfl), hR, zr_same.rfl'⟩
            · skip
              refine zz_iload hX dX5_faults_124 5 rfl ?_
              refine zz_bipush (v := nI 16) hX dX5_faults_126 rfl ?_
              refine zz_ior (z := (((nI 1) ||| (nI 4)) ||| (nI 8)) ||| (nI 16)) hX dX5_faults_128 rfl ?_
              refine zz_istore (ls' := [(0, .ref 2), (1, .int (nI i)), (2, .int (nI f)), (3, .ref (1000 + 100 * i)), (4, .ref (1000 + 100 * i + 5)), (5, .int ((((nI 1) ||| (nI 4)) ||| (nI 8)) ||| (nI 16)))]) hX dX5_faults_129 (Nat.le_of_ble_eq_true rfl) rfl ?_
              refine zz_iload hX dX5_faults_131 5 rfl ?_
              refine zz_iret hX hr rfl (Nat.le_of_ble_eq_true rfl) (Nat.le_of_ble_eq_true rfl) dX5_faults_133 ?_
              unfold zq_ok
              (try rw [z_i]); (try rw [z_f])
              exact ⟨⟨⟨zs_ix_nI hi (by omega), zs_ix_nI hf (by omega)⟩, trivial, trivial⟩, by first | (rw [show zp_faults S i f = _ from if_neg c121, show zp_f3 S i f = _ from if_pos ⟨c71, zs_nle c96⟩, show zp_f2 S i f = _ from if_neg c61, show zp_f1 S i f = _ from if_pos c45, show zp_f0 S i f = _ from if_neg c22]; done) | (rw [show zp_faults S i f = _ from if_neg c121, show zp_f3 S i f = _ from if_pos ⟨c71, zs_nle c96⟩, show zp_f2 S i f = _ from if_neg c61, show zp_f1 S i f = _ from if_pos c45, show zp_f0 S i f = _ from if_neg c22]; rfl), hR, zr_same.rfl'⟩
    · skip
      refine zz_iload hX dX5_faults_48 5 rfl ?_
      refine zz_iconst (v := nI 2) hX dX5_faults_50 rfl ?_
      refine zz_ior (z := (nI 1) ||| (nI 2)) hX dX5_faults_51 rfl ?_
      refine zz_istore (ls' := [(0, .ref 2), (1, .int (nI i)), (2, .int (nI f)), (3, .ref (1000 + 100 * i)), (4, .ref (1000 + 100 * i + 5)), (5, .int ((nI 1) ||| (nI 2)))]) hX dX5_faults_52 (Nat.le_of_ble_eq_true rfl) rfl ?_
      refine zz_aload hX dX5_faults_54 4 rfl ?_
      refine zz_getR (y := (1000 + 100 * i + 10)) hX zf_F_X5_265 r1 rfl r6 dX5_faults_56 ?_
      refine zz_iload_n hX dX5_faults_59 2 rfl rfl ?_
      refine zz_iald (x := S 27 (48 * i + f)) hX r12 f rfl (by omega) (by omega) ((u10 f (by omega)).2.2.2.1) dX5_faults_60 ?_
      refine zz_if_eq hX 70 dX5_faults_61 (by decide) (fun c61 => ?_) (fun c61 => ?_)
      · skip
        refine zz_iload_n hX dX5_faults_70 2 rfl rfl ?_
        refine zz_if_leN hX (by omega) 106 dX5_faults_71 (by decide) (fun c71 => ?_) (fun c71 => ?_)
        · skip
          refine zz_aload hX dX5_faults_106 4 rfl ?_
          refine zz_getR (y := (1000 + 100 * i + 8)) hX zf_F_X5_259 r1 rfl r4 dX5_faults_108 ?_
          refine zz_iload_n hX dX5_faults_111 2 rfl rfl ?_
          refine zz_iald (x := S 25 (48 * i + f)) hX r10 f rfl (by omega) (by omega) ((u10 f (by omega)).2.1) dX5_faults_112 ?_
          refine zz_aload_n hX dX5_faults_113 3 rfl rfl ?_
          refine zz_getR (y := (1000 + 100 * i + 2)) hX zf_F_X5_167 t1 rfl t4 dX5_faults_114 ?_
          refine zz_iload_n hX dX5_faults_117 2 rfl rfl ?_
          refine zz_vI (x := zp_place S i f) hX zf_M_X5_171 (As := [.int (nI f)]) (st := [.int (S 25 (48 * i + f))]) (K_placeAt S sh mi mr hW hR i hi f (by omega)) t9.1 rfl rfl rfl (by decide) (Nat.le_of_ble_eq_true rfl) (Nat.le_of_ble_eq_true rfl) (Nat.le_of_ble_eq_true rfl) dX5_faults_118 ?_
          refine zz_icmp_eq hX 131 dX5_faults_121 (by decide) (fun c121 => ?_) (fun c121 => ?_)
          · skip
            refine zz_iload hX dX5_faults_131 5 rfl ?_
            refine zz_iret hX hr rfl (Nat.le_of_ble_eq_true rfl) (Nat.le_of_ble_eq_true rfl) dX5_faults_133 ?_
            unfold zq_ok
            (try rw [z_i]); (try rw [z_f])
            exact ⟨⟨⟨zs_ix_nI hi (by omega), zs_ix_nI hf (by omega)⟩, trivial, trivial⟩, by first | (rw [show zp_faults S i f = _ from if_pos c121, show zp_f3 S i f = _ from if_neg (fun h => absurd h.1 (by omega)), show zp_f2 S i f = _ from if_pos c61, show zp_f1 S i f = _ from if_neg c45, show zp_f0 S i f = _ from if_neg c22]; done) | (rw [show zp_faults S i f = _ from if_pos c121, show zp_f3 S i f = _ from if_neg (fun h => absurd h.1 (by omega)), show zp_f2 S i f = _ from if_pos c61, show zp_f1 S i f = _ from if_neg c45, show zp_f0 S i f = _ from if_neg c22]; rfl), hR, zr_same.rfl'⟩
          · skip
            refine zz_iload hX dX5_faults_124 5 rfl ?_
            refine zz_bipush (v := nI 16) hX dX5_faults_126 rfl ?_
            refine zz_ior (z := ((nI 1) ||| (nI 2)) ||| (nI 16)) hX dX5_faults_128 rfl ?_
            refine zz_istore (ls' := [(0, .ref 2), (1, .int (nI i)), (2, .int (nI f)), (3, .ref (1000 + 100 * i)), (4, .ref (1000 + 100 * i + 5)), (5, .int (((nI 1) ||| (nI 2)) ||| (nI 16)))]) hX dX5_faults_129 (Nat.le_of_ble_eq_true rfl) rfl ?_
            refine zz_iload hX dX5_faults_131 5 rfl ?_
            refine zz_iret hX hr rfl (Nat.le_of_ble_eq_true rfl) (Nat.le_of_ble_eq_true rfl) dX5_faults_133 ?_
            unfold zq_ok
            (try rw [z_i]); (try rw [z_f])
            exact ⟨⟨⟨zs_ix_nI hi (by omega), zs_ix_nI hf (by omega)⟩, trivial, trivial⟩, by first | (rw [show zp_faults S i f = _ from if_neg c121, show zp_f3 S i f = _ from if_neg (fun h => absurd h.1 (by omega)), show zp_f2 S i f = _ from if_pos c61, show zp_f1 S i f = _ from if_neg c45, show zp_f0 S i f = _ from if_neg c22]; done) | (rw [show zp_faults S i f = _ from if_neg c121, show zp_f3 S i f = _ from if_neg (fun h => absurd h.1 (by omega)), show zp_f2 S i f = _ from if_pos c61, show zp_f1 S i f = _ from if_neg c45, show zp_f0 S i f = _ from if_neg c22]; rfl), hR, zr_same.rfl'⟩
        · skip
          refine zz_aload hX dX5_faults_74 4 rfl ?_
          refine zz_getR (y := (1000 + 100 * i + 9)) hX zf_F_X5_262 r1 rfl r5 dX5_faults_76 ?_
          refine zz_iload_n hX dX5_faults_79 2 rfl rfl ?_
          refine zz_iald (x := S 26 (48 * i + f)) hX r11 f rfl (by omega) (by omega) ((u10 f (by omega)).2.2.1) dX5_faults_80 ?_
          refine zz_aload hX dX5_faults_81 4 rfl ?_
          refine zz_getR (y := (1000 + 100 * i + 9)) hX zf_F_X5_262 r1 rfl r5 dX5_faults_83 ?_
          refine zz_iload_n hX dX5_faults_86 2 rfl rfl ?_
          refine zz_iconst (v := nI 1) hX dX5_faults_87 rfl ?_
          refine zz_isub (z := nI (f - 1)) hX dX5_faults_88 (pk_sub (by omega)) ?_
          refine zz_iald (x := S 26 (48 * i + (f - 1))) hX r11 (f - 1) rfl (by omega) (by omega) ((u10 (f - 1) (by omega)).2.2.1) dX5_faults_89 ?_
          refine zz_isub (z := (S 26 (48 * i + f)) - (S 26 (48 * i + (f - 1)))) hX dX5_faults_90 rfl ?_
          refine zz_abs (z := zs_abs ((S 26 (48 * i + f)) - (S 26 (48 * i + (f - 1))))) hX zf_M_X5_244 zw_abss zw_mi zw_absc (by decide) (Nat.le_of_ble_eq_true rfl) (Nat.le_of_ble_eq_true rfl) (Nat.le_of_ble_eq_true rfl) rfl dX5_faults_91 ?_
          refine zz_bipush (v := nI 20) hX dX5_faults_94 rfl ?_
          refine zz_icmp_le hX 106 dX5_faults_96 (by decide) (fun c96 => ?_) (fun c96 => ?_)
          · skip
            refine zz_aload hX dX5_faults_106 4 rfl ?_
            refine zz_getR (y := (1000 + 100 * i + 8)) hX zf_F_X5_259 r1 rfl r4 dX5_faults_108 ?_
            refine zz_iload_n hX dX5_faults_111 2 rfl rfl ?_
            refine zz_iald (x := S 25 (48 * i + f)) hX r10 f rfl (by omega) (by omega) ((u10 f (by omega)).2.1) dX5_faults_112 ?_
            refine zz_aload_n hX dX5_faults_113 3 rfl rfl ?_
            refine zz_getR (y := (1000 + 100 * i + 2)) hX zf_F_X5_167 t1 rfl t4 dX5_faults_114 ?_
            refine zz_iload_n hX dX5_faults_117 2 rfl rfl ?_
            refine zz_vI (x := zp_place S i f) hX zf_M_X5_171 (As := [.int (nI f)]) (st := [.int (S 25 (48 * i + f))]) (K_placeAt S sh mi mr hW hR i hi f (by omega)) t9.1 rfl rfl rfl (by decide) (Nat.le_of_ble_eq_true rfl) (Nat.le_of_ble_eq_true rfl) (Nat.le_of_ble_eq_true rfl) dX5_faults_118 ?_
            refine zz_icmp_eq hX 131 dX5_faults_121 (by decide) (fun c121 => ?_) (fun c121 => ?_)
            · skip
              refine zz_iload hX dX5_faults_131 5 rfl ?_
              refine zz_iret hX hr rfl (Nat.le_of_ble_eq_true rfl) (Nat.le_of_ble_eq_true rfl) dX5_faults_133 ?_
              unfold zq_ok
              (try rw [z_i]); (try rw [z_f])
              exact ⟨⟨⟨zs_ix_nI hi (by omega), zs_ix_nI hf (by omega)⟩, trivial, trivial⟩, by first | (rw [show zp_faults S i f = _ from if_pos c121, show zp_f3 S i f = _ from if_neg (fun h => by have h2 := h.2; rw [zs_lt] at h2; rw [zs_le] at c96; omega), show zp_f2 S i f = _ from if_pos c61, show zp_f1 S i f = _ from if_neg c45, show zp_f0 S i f = _ from if_neg c22]; done) | (rw [show zp_faults S i f = _ from if_pos c121, show zp_f3 S i f = _ from if_neg (fun h => by have h2 := h.2; rw [zs_lt] at h2; rw [zs_le] at c96; omega), show zp_f2 S i f = _ from if_pos c61, show zp_f1 S i f = _ from if_neg c45, show zp_f0 S i f = _ from if_neg c22]; rfl), hR, zr_same.rfl'⟩
            · skip
              refine zz_iload hX dX5_faults_124 5 rfl ?_
              refine zz_bipush (v := nI 16) hX dX5_faults_126 rfl ?_
              refine zz_ior (z := ((nI 1) ||| (nI 2)) ||| (nI 16)) hX dX5_faults_128 rfl ?_
              refine zz_istore (ls' := [(0, .ref 2), (1, .int (nI i)), (2, .int (nI f)), (3, .ref (1000 + 100 * i)), (4, .ref (1000 + 100 * i + 5)), (5, .int (((nI 1) ||| (nI 2)) ||| (nI 16)))]) hX dX5_faults_129 (Nat.le_of_ble_eq_true rfl) rfl ?_
              refine zz_iload hX dX5_faults_131 5 rfl ?_
              refine zz_iret hX hr rfl (Nat.le_of_ble_eq_true rfl) (Nat.le_of_ble_eq_true rfl) dX5_faults_133 ?_
              unfold zq_ok
              (try rw [z_i]); (try rw [z_f])
              exact ⟨⟨⟨zs_ix_nI hi (by omega), zs_ix_nI hf (by omega)⟩, trivial, trivial⟩, by first | (rw [show zp_faults S i f = _ from if_neg c121, show zp_f3 S i f = _ from if_neg (fun h => by have h2 := h.2; rw [zs_lt] at h2; rw [zs_le] at c96; omega), show zp_f2 S i f = _ from if_pos c61, show zp_f1 S i f = _ from if_neg c45, show zp_f0 S i f = _ from if_neg c22]; done) | (rw [show zp_faults S i f = _ from if_neg c121, show zp_f3 S i f = _ from if_neg (fun h => by have h2 := h.2; rw [zs_lt] at h2; rw [zs_le] at c96; omega), show zp_f2 S i f = _ from if_pos c61, show zp_f1 S i f = _ from if_neg c45, show zp_f0 S i f = _ from if_neg c22]; rfl), hR, zr_same.rfl'⟩
          · skip
            refine zz_iload hX dX5_faults_99 5 rfl ?_
            refine zz_bipush (v := nI 8) hX dX5_faults_101 rfl ?_
            refine zz_ior (z := ((nI 1) ||| (nI 2)) ||| (nI 8)) hX dX5_faults_103 rfl ?_
            refine zz_istore (ls' := [(0, .ref 2), (1, .int (nI i)), (2, .int (nI f)), (3, .ref (1000 + 100 * i)), (4, .ref (1000 + 100 * i + 5)), (5, .int (((nI 1) ||| (nI 2)) ||| (nI 8)))]) hX dX5_faults_104 (Nat.le_of_ble_eq_true rfl) rfl ?_
            refine zz_aload hX dX5_faults_106 4 rfl ?_
            refine zz_getR (y := (1000 + 100 * i + 8)) hX zf_F_X5_259 r1 rfl r4 dX5_faults_108 ?_
            refine zz_iload_n hX dX5_faults_111 2 rfl rfl ?_
            refine zz_iald (x := S 25 (48 * i + f)) hX r10 f rfl (by omega) (by omega) ((u10 f (by omega)).2.1) dX5_faults_112 ?_
            refine zz_aload_n hX dX5_faults_113 3 rfl rfl ?_
            refine zz_getR (y := (1000 + 100 * i + 2)) hX zf_F_X5_167 t1 rfl t4 dX5_faults_114 ?_
            refine zz_iload_n hX dX5_faults_117 2 rfl rfl ?_
            refine zz_vI (x := zp_place S i f) hX zf_M_X5_171 (As := [.int (nI f)]) (st := [.int (S 25 (48 * i + f))]) (K_placeAt S sh mi mr hW hR i hi f (by omega)) t9.1 rfl rfl rfl (by decide) (Nat.le_of_ble_eq_true rfl) (Nat.le_of_ble_eq_true rfl) (Nat.le_of_ble_eq_true rfl) dX5_faults_118 ?_
            refine zz_icmp_eq hX 131 dX5_faults_121 (by decide) (fun c121 => ?_) (fun c121 => ?_)
            · skip
              refine zz_iload hX dX5_faults_131 5 rfl ?_
              refine zz_iret hX hr rfl (Nat.le_of_ble_eq_true rfl) (Nat.le_of_ble_eq_true rfl) dX5_faults_133 ?_
              unfold zq_ok
              (try rw [z_i]); (try rw [z_f])
              exact ⟨⟨⟨zs_ix_nI hi (by omega), zs_ix_nI hf (by omega)⟩, trivial, trivial⟩, by first | (rw [show zp_faults S i f = _ from if_pos c121, show zp_f3 S i f = _ from if_pos ⟨c71, zs_nle c96⟩, show zp_f2 S i f = _ from if_pos c61, show zp_f1 S i f = _ from if_neg c45, show zp_f0 S i f = _ from if_neg c22]; done) | (rw [show zp_faults S i f = _ from if_pos c121, show zp_f3 S i f = _ from if_pos ⟨c71, zs_nle c96⟩, show zp_f2 S i f = _ from if_pos c61, show zp_f1 S i f = _ from if_neg c45, show zp_f0 S i f = _ from if_neg c22]; rfl), hR, zr_same.rfl'⟩
            · skip
              refine zz_iload hX dX5_faults_124 5 rfl ?_
              refine zz_bipush (v := nI 16) hX dX5_faults_126 rfl ?_
              refine zz_ior (z := (((nI 1) ||| (nI 2)) ||| (nI 8)) ||| (nI 16)) hX dX5_faults_128 rfl ?_
              refine zz_istore (ls' := [(0, .ref 2), (1, .int (nI i)), (2, .int (nI f)), (3, .ref (1000 + 100 * i)), (4, .ref (1000 + 100 * i + 5)), (5, .int ((((nI 1) ||| (nI 2)) ||| (nI 8)) ||| (nI 16)))]) hX dX5_faults_129 (Nat.le_of_ble_eq_true rfl) rfl ?_
              refine zz_iload hX dX5_faults_131 5 rfl ?_
              refine zz_iret hX hr rfl (Nat.le_of_ble_eq_true rfl) (Nat.le_of_ble_eq_true rfl) dX5_faults_133 ?_
              unfold zq_ok
              (try rw [z_i]); (try rw [z_f])
              exact ⟨⟨⟨zs_ix_nI hi (by omega), zs_ix_nI hf (by omega)⟩, trivial, trivial⟩, by first | (rw [show zp_faults S i f = _ from if_neg c121, show zp_f3 S i f = _ from if_pos ⟨c71, zs_nle c96⟩, show zp_f2 S i f = _ from if_pos c61, show zp_f1 S i f = _ from if_neg c45, show zp_f0 S i f = _ from if_neg c22]; done) | (rw [show zp_faults S i f = _ from if_neg c121, show zp_f3 S i f = _ from if_pos ⟨c71, zs_nle c96⟩, show zp_f2 S i f = _ from if_pos c61, show zp_f1 S i f = _ from if_neg c45, show zp_f0 S i f = _ from if_neg c22]; rfl), hR, zr_same.rfl'⟩
      · skip
        refine zz_iload hX dX5_faults_64 5 rfl ?_
        refine zz_iconst (v := nI 4) hX dX5_faults_66 rfl ?_
        refine zz_ior (z := ((nI 1) ||| (nI 2)) ||| (nI 4)) hX dX5_faults_67 rfl ?_
        refine zz_istore (ls' := [(0, .ref 2), (1, .int (nI i)), (2, .int (nI f)), (3, .ref (1000 + 100 * i)), (4, .ref (1000 + 100 * i + 5)), (5, .int (((nI 1) ||| (nI 2)) ||| (nI 4)))]) hX dX5_faults_68 (Nat.le_of_ble_eq_true rfl) rfl ?_
        refine zz_iload_n hX dX5_faults_70 2 rfl rfl ?_
        refine zz_if_leN hX (by omega) 106 dX5_faults_71 (by decide) (fun c71 => ?_) (fun c71 => ?_)
        · skip
          refine zz_aload hX dX5_faults_106 4 rfl ?_
          refine zz_getR (y := (1000 + 100 * i + 8)) hX zf_F_X5_259 r1 rfl r4 dX5_faults_108 ?_
          refine zz_iload_n hX dX5_faults_111 2 rfl rfl ?_
          refine zz_iald (x := S 25 (48 * i + f)) hX r10 f rfl (by omega) (by omega) ((u10 f (by omega)).2.1) dX5_faults_112 ?_
          refine zz_aload_n hX dX5_faults_113 3 rfl rfl ?_
          refine zz_getR (y := (1000 + 100 * i + 2)) hX zf_F_X5_167 t1 rfl t4 dX5_faults_114 ?_
          refine zz_iload_n hX dX5_faults_117 2 rfl rfl ?_
          refine zz_vI (x := zp_place S i f) hX zf_M_X5_171 (As := [.int (nI f)]) (st := [.int (S 25 (48 * i + f))]) (K_placeAt S sh mi mr hW hR i hi f (by omega)) t9.1 rfl rfl rfl (by decide) (Nat.le_of_ble_eq_true rfl) (Nat.le_of_ble_eq_true rfl) (Nat.le_of_ble_eq_true rfl) dX5_faults_118 ?_
          refine zz_icmp_eq hX 131 dX5_faults_121 (by decide) (fun c121 => ?_) (fun c121 => ?_)
          · skip
            refine zz_iload hX dX5_faults_131 5 rfl ?_
            refine zz_iret hX hr rfl (Nat.le_of_ble_eq_true rfl) (Nat.le_of_ble_eq_true rfl) dX5_faults_133 ?_
            unfold zq_ok
            (try rw [z_i]); (try rw [z_f])
            exact ⟨⟨⟨zs_ix_nI hi (by omega), zs_ix_nI hf (by omega)⟩, trivial, trivial⟩, by first | (rw [show zp_faults S i f = _ from if_pos c121, show zp_f3 S i f = _ from if_neg (fun h => absurd h.1 (by omega)), show zp_f2 S i f = _ from if_neg c61, show zp_f1 S i f = _ from if_neg c45, show zp_f0 S i f = _ from if_neg c22]; done) | (rw [show zp_faults S i f = _ from if_pos c121, show zp_f3 S i f = _ from if_neg (fun h => absurd h.1 (by omega)), show zp_f2 S i f = _ from if_neg c61, show zp_f1 S i f = _ from if_neg c45, show zp_f0 S i f = _ from if_neg c22]; rfl), hR, zr_same.rfl'⟩
          · skip
            refine zz_iload hX dX5_faults_124 5 rfl ?_
            refine zz_bipush (v := nI 16) hX dX5_faults_126 rfl ?_
            refine zz_ior (z := (((nI 1) ||| (nI 2)) ||| (nI 4)) ||| (nI 16)) hX dX5_faults_128 rfl ?_
            refine zz_istore (ls' := [(0, .ref 2), (1, .int (nI i)), (2, .int (nI f)), (3, .ref (1000 + 100 * i)), (4, .ref (1000 + 100 * i + 5)), (5, .int ((((nI 1) ||| (nI 2)) ||| (nI 4)) ||| (nI 16)))]) hX dX5_faults_129 (Nat.le_of_ble_eq_true rfl) rfl ?_
            refine zz_iload hX dX5_faults_131 5 rfl ?_
            refine zz_iret hX hr rfl (Nat.le_of_ble_eq_true rfl) (Nat.le_of_ble_eq_true rfl) dX5_faults_133 ?_
            unfold zq_ok
            (try rw [z_i]); (try rw [z_f])
            exact ⟨⟨⟨zs_ix_nI hi (by omega), zs_ix_nI hf (by omega)⟩, trivial, trivial⟩, by first | (rw [show zp_faults S i f = _ from if_neg c121, show zp_f3 S i f = _ from if_neg (fun h => absurd h.1 (by omega)), show zp_f2 S i f = _ from if_neg c61, show zp_f1 S i f = _ from if_neg c45, show zp_f0 S i f = _ from if_neg c22]; done) | (rw [show zp_faults S i f = _ from if_neg c121, show zp_f3 S i f = _ from if_neg (fun h => absurd h.1 (by omega)), show zp_f2 S i f = _ from if_neg c61, show zp_f1 S i f = _ from if_neg c45, show zp_f0 S i f = _ from if_neg c22]; rfl), hR, zr_same.rfl'⟩
        · skip
          refine zz_aload hX dX5_faults_74 4 rfl ?_
          refine zz_getR (y := (1000 + 100 * i + 9)) hX zf_F_X5_262 r1 rfl r5 dX5_faults_76 ?_
          refine zz_iload_n hX dX5_faults_79 2 rfl rfl ?_
          refine zz_iald (x := S 26 (48 * i + f)) hX r11 f rfl (by omega) (by omega) ((u10 f (by omega)).2.2.1) dX5_faults_80 ?_
          refine zz_aload hX dX5_faults_81 4 rfl ?_
          refine zz_getR (y := (1000 + 100 * i + 9)) hX zf_F_X5_262 r1 rfl r5 dX5_faults_83 ?_
          refine zz_iload_n hX dX5_faults_86 2 rfl rfl ?_
          refine zz_iconst (v := nI 1) hX dX5_faults_87 rfl ?_
          refine zz_isub (z := nI (f - 1)) hX dX5_faults_88 (pk_sub (by omega)) ?_
          refine zz_iald (x := S 26 (48 * i + (f - 1))) hX r11 (f - 1) rfl (by omega) (by omega) ((u10 (f - 1) (by omega)).2.2.1) dX5_faults_89 ?_
          refine zz_isub (z := (S 26 (48 * i + f)) - (S 26 (48 * i + (f - 1)))) hX dX5_faults_90 rfl ?_
          refine zz_abs (z := zs_abs ((S 26 (48 * i + f)) - (S 26 (48 * i + (f - 1))))) hX zf_M_X5_244 zw_abss zw_mi zw_absc (by decide) (Nat.le_of_ble_eq_true rfl) (Nat.le_of_ble_eq_true rfl) (Nat.le_of_ble_eq_true rfl) rfl dX5_faults_91 ?_
          refine zz_bipush (v := nI 20) hX dX5_faults_94 rfl ?_
          refine zz_icmp_le hX 106 dX5_faults_96 (by decide) (fun c96 => ?_) (fun c96 => ?_)
          · skip
            refine zz_aload hX dX5_faults_106 4 rfl ?_
            refine zz_getR (y := (1000 + 100 * i + 8)) hX zf_F_X5_259 r1 rfl r4 dX5_faults_108 ?_
            refine zz_iload_n hX dX5_faults_111 2 rfl rfl ?_
            refine zz_iald (x := S 25 (48 * i + f)) hX r10 f rfl (by omega) (by omega) ((u10 f (by omega)).2.1) dX5_faults_112 ?_
            refine zz_aload_n hX dX5_faults_113 3 rfl rfl ?_
            refine zz_getR (y := (1000 + 100 * i + 2)) hX zf_F_X5_167 t1 rfl t4 dX5_faults_114 ?_
            refine zz_iload_n hX dX5_faults_117 2 rfl rfl ?_
            refine zz_vI (x := zp_place S i f) hX zf_M_X5_171 (As := [.int (nI f)]) (st := [.int (S 25 (48 * i + f))]) (K_placeAt S sh mi mr hW hR i hi f (by omega)) t9.1 rfl rfl rfl (by decide) (Nat.le_of_ble_eq_true rfl) (Nat.le_of_ble_eq_true rfl) (Nat.le_of_ble_eq_true rfl) dX5_faults_118 ?_
            refine zz_icmp_eq hX 131 dX5_faults_121 (by decide) (fun c121 => ?_) (fun c121 => ?_)
            · skip
              refine zz_iload hX dX5_faults_131 5 rfl ?_
              refine zz_iret hX hr rfl (Nat.le_of_ble_eq_true rfl) (Nat.le_of_ble_eq_true rfl) dX5_faults_133 ?_
              unfold zq_ok
              (try rw [z_i]); (try rw [z_f])
              exact ⟨⟨⟨zs_ix_nI hi (by omega), zs_ix_nI hf (by omega)⟩, trivial, trivial⟩, by first | (rw [show zp_faults S i f = _ from if_pos c121, show zp_f3 S i f = _ from if_neg (fun h => by have h2 := h.2; rw [zs_lt] at h2; rw [zs_le] at c96; omega), show zp_f2 S i f = _ from if_neg c61, show zp_f1 S i f = _ from if_neg c45, show zp_f0 S i f = _ from if_neg c22]; done) | (rw [show zp_faults S i f = _ from if_pos c121, show zp_f3 S i f = _ from if_neg (fun h => by have h2 := h.2; rw [zs_lt] at h2; rw [zs_le] at c96; omega), show zp_f2 S i f = _ from if_neg c61, show zp_f1 S i f = _ from if_neg c45, show zp_f0 S i f = _ from if_neg c22]; rfl), hR, zr_same.rfl'⟩
            · skip
              refine zz_iload hX dX5_faults_124 5 rfl ?_
              refine zz_bipush (v := nI 16) hX dX5_faults_126 rfl ?_
              refine zz_ior (z := (((nI 1) ||| (nI 2)) ||| (nI 4)) ||| (nI 16)) hX dX5_faults_128 rfl ?_
              refine zz_istore (ls' := [(0, .ref 2), (1, .int (nI i)), (2, .int (nI f)), (3, .ref (1000 + 100 * i)), (4, .ref (1000 + 100 * i + 5)), (5, .int ((((nI 1) ||| (nI 2)) ||| (nI 4)) ||| (nI 16)))]) hX dX5_faults_129 (Nat.le_of_ble_eq_true rfl) rfl ?_
              refine zz_iload hX dX5_faults_131 5 rfl ?_
              refine zz_iret hX hr rfl (Nat.le_of_ble_eq_true rfl) (Nat.le_of_ble_eq_true rfl) dX5_faults_133 ?_
              unfold zq_ok
              (try rw [z_i]); (try rw [z_f])
              exact ⟨⟨⟨zs_ix_nI hi (by omega), zs_ix_nI hf (by omega)⟩, trivial, trivial⟩, by first | (rw [show zp_faults S i f = _ from if_neg c121, show zp_f3 S i f = _ from if_neg (fun h => by have h2 := h.2; rw [zs_lt] at h2; rw [zs_le] at c96; omega), show zp_f2 S i f = _ from if_neg c61, show zp_f1 S i f = _ from if_neg c45, show zp_f0 S i f = _ from if_neg c22]; done) | (rw [show zp_faults S i f = _ from if_neg c121, show zp_f3 S i f = _ from if_neg (fun h => by have h2 := h.2; rw [zs_lt] at h2; rw [zs_le] at c96; omega), show zp_f2 S i f = _ from if_neg c61, show zp_f1 S i f = _ from if_neg c45, show zp_f0 S i f = _ from if_neg c22]; rfl), hR, zr_same.rfl'⟩
          · skip
            refine zz_iload hX dX5_faults_99 5 rfl ?_
            refine zz_bipush (v := nI 8) hX dX5_faults_101 rfl ?_
            refine zz_ior (z := (((nI 1) ||| (nI 2)) ||| (nI 4)) ||| (nI 8)) hX dX5_faults_103 rfl ?_
            refine zz_istore (ls' := [(0, .ref 2), (1, .int (nI i)), (2, .int (nI f)), (3, .ref (1000 + 100 * i)), (4, .ref (1000 + 100 * i + 5)), (5, .int ((((nI 1) ||| (nI 2)) ||| (nI 4)) ||| (nI 8)))]) hX dX5_faults_104 (Nat.le_of_ble_eq_true rfl) rfl ?_
            refine zz_aload hX dX5_faults_106 4 rfl ?_
            refine zz_getR (y := (1000 + 100 * i + 8)) hX zf_F_X5_259 r1 rfl r4 dX5_faults_108 ?_
            refine zz_iload_n hX dX5_faults_111 2 rfl rfl ?_
            refine zz_iald (x := S 25 (48 * i + f)) hX r10 f rfl (by omega) (by omega) ((u10 f (by omega)).2.1) dX5_faults_112 ?_
            refine zz_aload_n hX dX5_faults_113 3 rfl rfl ?_
            refine zz_getR (y := (1000 + 100 * i + 2)) hX zf_F_X5_167 t1 rfl t4 dX5_faults_114 ?_
            refine zz_iload_n hX dX5_faults_117 2 rfl rfl ?_
            refine zz_vI (x := zp_place S i f) hX zf_M_X5_171 (As := [.int (nI f)]) (st := [.int (S 25 (48 * i + f))]) (K_placeAt S sh mi mr hW hR i hi f (by omega)) t9.1 rfl rfl rfl (by decide) (Nat.le_of_ble_eq_true rfl) (Nat.le_of_ble_eq_true rfl) (Nat.le_of_ble_eq_true rfl) dX5_faults_118 ?_
            refine zz_icmp_eq hX 131 dX5_faults_121 (by decide) (fun c121 => ?_) (fun c121 => ?_)
            · skip
              refine zz_iload hX dX5_faults_131 5 rfl ?_
              refine zz_iret hX hr rfl (Nat.le_of_ble_eq_true rfl) (Nat.le_of_ble_eq_true rfl) dX5_faults_133 ?_
              unfold zq_ok
              (try rw [z_i]); (try rw [z_f])
              exact ⟨⟨⟨zs_ix_nI hi (by omega), zs_ix_nI hf (by omega)⟩, trivial, trivial⟩, by first | (rw [show zp_faults S i f = _ from if_pos c121, show zp_f3 S i f = _ from if_pos ⟨c71, zs_nle c96⟩, show zp_f2 S i f = _ from if_neg c61, show zp_f1 S i f = _ from if_neg c45, show zp_f0 S i f = _ from if_neg c22]; done) | (rw [show zp_faults S i f = _ from if_pos c121, show zp_f3 S i f = _ from if_pos ⟨c71, zs_nle c96⟩, show zp_f2 S i f = _ from if_neg c61, show zp_f1 S i f = _ from if_neg c45, show zp_f0 S i f = _ from if_neg c22]; rfl), hR, zr_same.rfl'⟩
            · skip
              refine zz_iload hX dX5_faults_124 5 rfl ?_
              refine zz_bipush (v := nI 16) hX dX5_faults_126 rfl ?_
              refine zz_ior (z := ((((nI 1) ||| (nI 2)) ||| (nI 4)) ||| (nI 8)) ||| (nI 16)) hX dX5_faults_128 rfl ?_
              refine zz_istore (ls' := [(0, .ref 2), (1, .int (nI i)), (2, .int (nI f)), (3, .ref (1000 + 100 * i)), (4, .ref (1000 + 100 * i + 5)), (5, .int (((((nI 1) ||| (nI 2)) ||| (nI 4)) ||| (nI 8)) ||| (nI 16)))]) hX dX5_faults_129 (Nat.le_of_ble_eq_true rfl) rfl ?_
              refine zz_iload hX dX5_faults_131 5 rfl ?_
              refine zz_iret hX hr rfl (Nat.le_of_ble_eq_true rfl) (Nat.le_of_ble_eq_true rfl) dX5_faults_133 ?_
              unfold zq_ok
              (try rw [z_i]); (try rw [z_f])
              exact ⟨⟨⟨zs_ix_nI hi (by omega), zs_ix_nI hf (by omega)⟩, trivial, trivial⟩, by first | (rw [show zp_faults S i f = _ from if_neg c121, show zp_f3 S i f = _ from if_pos ⟨c71, zs_nle c96⟩, show zp_f2 S i f = _ from if_neg c61, show zp_f1 S i f = _ from if_neg c45, show zp_f0 S i f = _ from if_neg c22]; done) | (rw [show zp_faults S i f = _ from if_neg c121, show zp_f3 S i f = _ from if_pos ⟨c71, zs_nle c96⟩, show zp_f2 S i f = _ from if_neg c61, show zp_f1 S i f = _ from if_neg c45, show zp_f0 S i f = _ from if_neg c22]; rfl), hR, zr_same.rfl'⟩
  · skip
    refine zz_iconst (v := nI 0) hX dX5_faults_25 rfl ?_
    refine zz_goto hX 30 dX5_faults_26 (by decide) ?_
    refine zz_istore (ls' := [(0, .ref 2), (1, .int (nI i)), (2, .int (nI f)), (3, .ref (1000 + 100 * i)), (4, .ref (1000 + 100 * i + 5)), (5, .int (nI 0))]) hX dX5_faults_30 (Nat.le_of_ble_eq_true rfl) rfl ?_
    refine zz_aload hX dX5_faults_32 4 rfl ?_
    refine zz_getR (y := (1000 + 100 * i + 7)) hX zf_F_X5_256 r1 rfl r3 dX5_faults_34 ?_
    refine zz_iload_n hX dX5_faults_37 2 rfl rfl ?_
    refine zz_iald (x := S 23 (48 * i + f)) hX r9 f rfl (by omega) (by omega) ((u10 f (by omega)).1) dX5_faults_38 ?_
    refine zz_aload_n hX dX5_faults_39 0 rfl rfl ?_
    refine zz_aload_n hX dX5_faults_40 3 rfl rfl ?_
    refine zz_iload_n hX dX5_faults_41 2 rfl rfl ?_
    refine zz_vI (x := zp_mouth S i f) hX zf_M_X5_231 (As := [.ref (1000 + 100 * i), .int (nI f)]) (st := [.int (S 23 (48 * i + f))]) (K_sheetMouth S sh mi mr hW hR i hi f (by omega)) m1 rfl rfl rfl (by decide) (Nat.le_of_ble_eq_true rfl) (Nat.le_of_ble_eq_true rfl) (Nat.le_of_ble_eq_true rfl) dX5_faults_42 ?_
    refine zz_icmp_eq hX 54 dX5_faults_45 (by decide) (fun c45 => ?_) (fun c45 => ?_)
    · skip
      refine zz_aload hX dX5_faults_54 4 rfl ?_
      refine zz_getR (y := (1000 + 100 * i + 10)) hX zf_F_X5_265 r1 rfl r6 dX5_faults_56 ?_
      refine zz_iload_n hX dX5_faults_59 2 rfl rfl ?_
      refine zz_iald (x := S 27 (48 * i + f)) hX r12 f rfl (by omega) (by omega) ((u10 f (by omega)).2.2.2.1) dX5_faults_60 ?_
      refine zz_if_eq hX 70 dX5_faults_61 (by decide) (fun c61 => ?_) (fun c61 => ?_)
      · skip
        refine zz_iload_n hX dX5_faults_70 2 rfl rfl ?_
        refine zz_if_leN hX (by omega) 106 dX5_faults_71 (by decide) (fun c71 => ?_) (fun c71 => ?_)
        · skip
          refine zz_aload hX dX5_faults_106 4 rfl ?_
          refine zz_getR (y := (1000 + 100 * i + 8)) hX zf_F_X5_259 r1 rfl r4 dX5_faults_108 ?_
          refine zz_iload_n hX dX5_faults_111 2 rfl rfl ?_
          refine zz_iald (x := S 25 (48 * i + f)) hX r10 f rfl (by omega) (by omega) ((u10 f (by omega)).2.1) dX5_faults_112 ?_
          refine zz_aload_n hX dX5_faults_113 3 rfl rfl ?_
          refine zz_getR (y := (1000 + 100 * i + 2)) hX zf_F_X5_167 t1 rfl t4 dX5_faults_114 ?_
          refine zz_iload_n hX dX5_faults_117 2 rfl rfl ?_
          refine zz_vI (x := zp_place S i f) hX zf_M_X5_171 (As := [.int (nI f)]) (st := [.int (S 25 (48 * i + f))]) (K_placeAt S sh mi mr hW hR i hi f (by omega)) t9.1 rfl rfl rfl (by decide) (Nat.le_of_ble_eq_true rfl) (Nat.le_of_ble_eq_true rfl) (Nat.le_of_ble_eq_true rfl) dX5_faults_118 ?_
          refine zz_icmp_eq hX 131 dX5_faults_121 (by decide) (fun c121 => ?_) (fun c121 => ?_)
          · skip
            refine zz_iload hX dX5_faults_131 5 rfl ?_
            refine zz_iret hX hr rfl (Nat.le_of_ble_eq_true rfl) (Nat.le_of_ble_eq_true rfl) dX5_faults_133 ?_
            unfold zq_ok
            (try rw [z_i]); (try rw [z_f])
            exact ⟨⟨⟨zs_ix_nI hi (by omega), zs_ix_nI hf (by omega)⟩, trivial, trivial⟩, by first | (rw [show zp_faults S i f = _ from if_pos c121, show zp_f3 S i f = _ from if_neg (fun h => absurd h.1 (by omega)), show zp_f2 S i f = _ from if_pos c61, show zp_f1 S i f = _ from if_pos c45, show zp_f0 S i f = _ from if_pos c22]; done) | (rw [show zp_faults S i f = _ from if_pos c121, show zp_f3 S i f = _ from if_neg (fun h => absurd h.1 (by omega)), show zp_f2 S i f = _ from if_pos c61, show zp_f1 S i f = _ from if_pos c45, show zp_f0 S i f = _ from if_pos c22]; rfl), hR, zr_same.rfl'⟩
          · skip
            refine zz_iload hX dX5_faults_124 5 rfl ?_
            refine zz_bipush (v := nI 16) hX dX5_faults_126 rfl ?_
            refine zz_ior (z := (nI 0) ||| (nI 16)) hX dX5_faults_128 rfl ?_
            refine zz_istore (ls' := [(0, .ref 2), (1, .int (nI i)), (2, .int (nI f)), (3, .ref (1000 + 100 * i)), (4, .ref (1000 + 100 * i + 5)), (5, .int ((nI 0) ||| (nI 16)))]) hX dX5_faults_129 (Nat.le_of_ble_eq_true rfl) rfl ?_
            refine zz_iload hX dX5_faults_131 5 rfl ?_
            refine zz_iret hX hr rfl (Nat.le_of_ble_eq_true rfl) (Nat.le_of_ble_eq_true rfl) dX5_faults_133 ?_
            unfold zq_ok
            (try rw [z_i]); (try rw [z_f])
            exact ⟨⟨⟨zs_ix_nI hi (by omega), zs_ix_nI hf (by omega)⟩, trivial, trivial⟩, by first | (rw [show zp_faults S i f = _ from if_neg c121, show zp_f3 S i f = _ from if_neg (fun h => absurd h.1 (by omega)), show zp_f2 S i f = _ from if_pos c61, show zp_f1 S i f = _ from if_pos c45, show zp_f0 S i f = _ from if_pos c22]; done) | (rw [show zp_faults S i f = _ from if_neg c121, show zp_f3 S i f = _ from if_neg (fun h => absurd h.1 (by omega)), show zp_f2 S i f = _ from if_pos c61, show zp_f1 S i f = _ from if_pos c45, show zp_f0 S i f = _ from if_pos c22]; rfl), hR, zr_same.rfl'⟩
        · skip
          refine zz_aload hX dX5_faults_74 4 rfl ?_
          refine zz_getR (y := (1000 + 100 * i + 9)) hX zf_F_X5_262 r1 rfl r5 dX5_faults_76 ?_
          refine zz_iload_n hX dX5_faults_79 2 rfl rfl ?_
          refine zz_iald (x := S 26 (48 * i + f)) hX r11 f rfl (by omega) (by omega) ((u10 f (by omega)).2.2.1) dX5_faults_80 ?_
          refine zz_aload hX dX5_faults_81 4 rfl ?_
          refine zz_getR (y := (1000 + 100 * i + 9)) hX zf_F_X5_262 r1 rfl r5 dX5_faults_83 ?_
          refine zz_iload_n hX dX5_faults_86 2 rfl rfl ?_
          refine zz_iconst (v := nI 1) hX dX5_faults_87 rfl ?_
          refine zz_isub (z := nI (f - 1)) hX dX5_faults_88 (pk_sub (by omega)) ?_
          refine zz_iald (x := S 26 (48 * i + (f - 1))) hX r11 (f - 1) rfl (by omega) (by omega) ((u10 (f - 1) (by omega)).2.2.1) dX5_faults_89 ?_
          refine zz_isub (z := (S 26 (48 * i + f)) - (S 26 (48 * i + (f - 1)))) hX dX5_faults_90 rfl ?_
          refine zz_abs (z := zs_abs ((S 26 (48 * i + f)) - (S 26 (48 * i + (f - 1))))) hX zf_M_X5_244 zw_abss zw_mi zw_absc (by decide) (Nat.le_of_ble_eq_true rfl) (Nat.le_of_ble_eq_true rfl) (Nat.le_of_ble_eq_true rfl) rfl dX5_faults_91 ?_
          refine zz_bipush (v := nI 20) hX dX5_faults_94 rfl ?_
          refine zz_icmp_le hX 106 dX5_faults_96 (by decide) (fun c96 => ?_) (fun c96 => ?_)
          · skip
            refine zz_aload hX dX5_faults_106 4 rfl ?_
            refine zz_getR (y := (1000 + 100 * i + 8)) hX zf_F_X5_259 r1 rfl r4 dX5_faults_108 ?_
            refine zz_iload_n hX dX5_faults_111 2 rfl rfl ?_
            refine zz_iald (x := S 25 (48 * i + f)) hX r10 f rfl (by omega) (by omega) ((u10 f (by omega)).2.1) dX5_faults_112 ?_
            refine zz_aload_n hX dX5_faults_113 3 rfl rfl ?_
            refine zz_getR (y := (1000 + 100 * i + 2)) hX zf_F_X5_167 t1 rfl t4 dX5_faults_114 ?_
            refine zz_iload_n hX dX5_faults_117 2 rfl rfl ?_
            refine zz_vI (x := zp_place S i f) hX zf_M_X5_171 (As := [.int (nI f)]) (st := [.int (S 25 (48 * i + f))]) (K_placeAt S sh mi mr hW hR i hi f (by omega)) t9.1 rfl rfl rfl (by decide) (Nat.le_of_ble_eq_true rfl) (Nat.le_of_ble_eq_true rfl) (Nat.le_of_ble_eq_true rfl) dX5_faults_118 ?_
            refine zz_icmp_eq hX 131 dX5_faults_121 (by decide) (fun c121 => ?_) (fun c121 => ?_)
            · skip
              refine zz_iload hX dX5_faults_131 5 rfl ?_
              refine zz_iret hX hr rfl (Nat.le_of_ble_eq_true rfl) (Nat.le_of_ble_eq_true rfl) dX5_faults_133 ?_
              unfold zq_ok
              (try rw [z_i]); (try rw [z_f])
              exact ⟨⟨⟨zs_ix_nI hi (by omega), zs_ix_nI hf (by omega)⟩, trivial, trivial⟩, by first | (rw [show zp_faults S i f = _ from if_pos c121, show zp_f3 S i f = _ from if_neg (fun h => by have h2 := h.2; rw [zs_lt] at h2; rw [zs_le] at c96; omega), show zp_f2 S i f = _ from if_pos c61, show zp_f1 S i f = _ from if_pos c45, show zp_f0 S i f = _ from if_pos c22]; done) | (rw [show zp_faults S i f = _ from if_pos c121, show zp_f3 S i f = _ from if_neg (fun h => by have h2 := h.2; rw [zs_lt] at h2; rw [zs_le] at c96; omega), show zp_f2 S i f = _ from if_pos c61, show zp_f1 S i f = _ from if_pos c45, show zp_f0 S i f = _ from if_pos c22]; rfl), hR, zr_same.rfl'⟩
            · skip
              refine zz_iload hX dX5_faults_124 5 rfl ?_
              refine zz_bipush (v := nI 16) hX dX5_faults_126 rfl ?_
              refine zz_ior (z := (nI 0) ||| (nI 16)) hX dX5_faults_128 rfl ?_
              refine zz_istore (ls' := [(0, .ref 2), (1, .int (nI i)), (2, .int (nI f)), (3, .ref (1000 + 100 * i)), (4, .ref (1000 + 100 * i + 5)), (5, .int ((nI 0) ||| (nI 16)))]) hX dX5_faults_129 (Nat.le_of_ble_eq_true rfl) rfl ?_
              refine zz_iload hX dX5_faults_131 5 rfl ?_
              refine zz_iret hX hr rfl (Nat.le_of_ble_eq_true rfl) (Nat.le_of_ble_eq_true rfl) dX5_faults_133 ?_
              unfold zq_ok
              (try rw [z_i]); (try rw [z_f])
              exact ⟨⟨⟨zs_ix_nI hi (by omega), zs_ix_nI hf (by omega)⟩, trivial, trivial⟩, by first | (rw [show zp_faults S i f = _ from if_neg c121, show zp_f3 S i f = _ from if_neg (fun h => by have h2 := h.2; rw [zs_lt] at h2; rw [zs_le] at c96; omega), show zp_f2 S i f = _ from if_pos c61, show zp_f1 S i f = _ from if_pos c45, show zp_f0 S i f = _ from if_pos c22]; done) | (rw [show zp_faults S i f = _ from if_neg c121, show zp_f3 S i f = _ from if_neg (fun h => by have h2 := h.2; rw [zs_lt] at h2; rw [zs_le] at c96; omega), show zp_f2 S i f = _ from if_pos c61, show zp_f1 S i f = _ from if_pos c45, show zp_f0 S i f = _ from if_pos c22]; rfl), hR, zr_same.rfl'⟩
          · skip
            refine zz_iload hX dX5_faults_99 5 rfl ?_
            refine zz_bipush (v := nI 8) hX dX5_faults_101 rfl ?_
            refine zz_ior (z := (nI 0) ||| (nI 8)) hX dX5_faults_103 rfl ?_
            refine zz_istore (ls' := [(0, .ref 2), (1, .int (nI i)), (2, .int (nI f)), (3, .ref (1000 + 100 * i)), (4, .ref (1000 + 100 * i + 5)), (5, .int ((nI 0) ||| (nI 8)))]) hX dX5_faults_104 (Nat.le_of_ble_eq_true rfl) rfl ?_
            refine zz_aload hX dX5_faults_106 4 rfl ?_
            refine zz_getR (y := (1000 + 100 * i + 8)) hX zf_F_X5_259 r1 rfl r4 dX5_faults_108 ?_
            refine zz_iload_n hX dX5_faults_111 2 rfl rfl ?_
            refine zz_iald (x := S 25 (48 * i + f)) hX r10 f rfl (by omega) (by omega) ((u10 f (by omega)).2.1) dX5_faults_112 ?_
            refine zz_aload_n hX dX5_faults_113 3 rfl rfl ?_
            refine zz_getR (y := (1000 + 100 * i + 2)) hX zf_F_X5_167 t1 rfl t4 dX5_faults_114 ?_
            refine zz_iload_n hX dX5_faults_117 2 rfl rfl ?_
            refine zz_vI (x := zp_place S i f) hX zf_M_X5_171 (As := [.int (nI f)]) (st := [.int (S 25 (48 * i + f))]) (K_placeAt S sh mi mr hW hR i hi f (by omega)) t9.1 rfl rfl rfl (by decide) (Nat.le_of_ble_eq_true rfl) (Nat.le_of_ble_eq_true rfl) (Nat.le_of_ble_eq_true rfl) dX5_faults_118 ?_
            refine zz_icmp_eq hX 131 dX5_faults_121 (by decide) (fun c121 => ?_) (fun c121 => ?_)
            · skip
              refine zz_iload hX dX5_faults_131 5 rfl ?_
              refine zz_iret hX hr rfl (Nat.le_of_ble_eq_true rfl) (Nat.le_of_ble_eq_true rfl) dX5_faults_133 ?_
              unfold zq_ok
              (try rw [z_i]); (try rw [z_f])
              exact ⟨⟨⟨zs_ix_nI hi (by omega), zs_ix_nI hf (by omega)⟩, trivial, trivial⟩, by first | (rw [show zp_faults S i f = _ from if_pos c121, show zp_f3 S i f = _ from if_pos ⟨c71, zs_nle c96⟩, show zp_f2 S i f = _ from if_pos c61, show zp_f1 S i f = _ from if_pos c45, show zp_f0 S i f = _ from if_pos c22]; done) | (rw [show zp_faults S i f = _ from if_pos c121, show zp_f3 S i f = _ from if_pos ⟨c71, zs_nle c96⟩, show zp_f2 S i f = _ from if_pos c61, show zp_f1 S i f = _ from if_pos c45, show zp_f0 S i f = _ from if_pos c22]; rfl), hR, zr_same.rfl'⟩
            · skip
              refine zz_iload hX dX5_faults_124 5 rfl ?_
              refine zz_bipush (v := nI 16) hX dX5_faults_126 rfl ?_
              refine zz_ior (z := ((nI 0) ||| (nI 8)) ||| (nI 16)) hX dX5_faults_128 rfl ?_
              refine zz_istore (ls' := [(0, .ref 2), (1, .int (nI i)), (2, .int (nI f)), (3, .ref (1000 + 100 * i)), (4, .ref (1000 + 100 * i + 5)), (5, .int (((nI 0) ||| (nI 8)) ||| (nI 16)))]) hX dX5_faults_129 (Nat.le_of_ble_eq_true rfl) rfl ?_
              refine zz_iload hX dX5_faults_131 5 rfl ?_
              refine zz_iret hX hr rfl (Nat.le_of_ble_eq_true rfl) (Nat.le_of_ble_eq_true rfl) dX5_faults_133 ?_
              unfold zq_ok
              (try rw [z_i]); (try rw [z_f])
              exact ⟨⟨⟨zs_ix_nI hi (by omega), zs_ix_nI hf (by omega)⟩, trivial, trivial⟩, by first | (rw [show zp_faults S i f = _ from if_neg c121, show zp_f3 S i f = _ from if_pos ⟨c71, zs_nle c96⟩, show zp_f2 S i f = _ from if_pos c61, show zp_f1 S i f = _ from if_pos c45, show zp_f0 S i f = _ from if_pos c22]; done) | (rw [show zp_faults S i f = _ from if_neg c121, show zp_f3 S i f = _ from if_pos ⟨c71, zs_nle c96⟩, show zp_f2 S i f = _ from if_pos c61, show zp_f1 S i f = _ from if_pos c45, show zp_f0 S i f = _ from if_pos c22]; rfl), hR, zr_same.rfl'⟩
      · skip
        refine zz_iload hX dX5_faults_64 5 rfl ?_
        refine zz_iconst (v := nI 4) hX dX5_faults_66 rfl ?_
        refine zz_ior (z := (nI 0) ||| (nI 4)) hX dX5_faults_67 rfl ?_
        refine zz_istore (ls' := [(0, .ref 2), (1, .int (nI i)), (2, .int (nI f)), (3, .ref (1000 + 100 * i)), (4, .ref (1000 + 100 * i + 5)), (5, .int ((nI 0) ||| (nI 4)))]) hX dX5_faults_68 (Nat.le_of_ble_eq_true rfl) rfl ?_
        refine zz_iload_n hX dX5_faults_70 2 rfl rfl ?_
        refine zz_if_leN hX (by omega) 106 dX5_faults_71 (by decide) (fun c71 => ?_) (fun c71 => ?_)
        · skip
          refine zz_aload hX dX5_faults_106 4 rfl ?_
          refine zz_getR (y := (1000 + 100 * i + 8)) hX zf_F_X5_259 r1 rfl r4 dX5_faults_108 ?_
          refine zz_iload_n hX dX5_faults_111 2 rfl rfl ?_
          refine zz_iald (x := S 25 (48 * i + f)) hX r10 f rfl (by omega) (by omega) ((u10 f (by omega)).2.1) dX5_faults_112 ?_
          refine zz_aload_n hX dX5_faults_113 3 rfl rfl ?_
          refine zz_getR (y := (1000 + 100 * i + 2)) hX zf_F_X5_167 t1 rfl t4 dX5_faults_114 ?_
          refine zz_iload_n hX dX5_faults_117 2 rfl rfl ?_
          refine zz_vI (x := zp_place S i f) hX zf_M_X5_171 (As := [.int (nI f)]) (st := [.int (S 25 (48 * i + f))]) (K_placeAt S sh mi mr hW hR i hi f (by omega)) t9.1 rfl rfl rfl (by decide) (Nat.le_of_ble_eq_true rfl) (Nat.le_of_ble_eq_true rfl) (Nat.le_of_ble_eq_true rfl) dX5_faults_118 ?_
          refine zz_icmp_eq hX 131 dX5_faults_121 (by decide) (fun c121 => ?_) (fun c121 => ?_)
          · skip
            refine zz_iload hX dX5_faults_131 5 rfl ?_
            refine zz_iret hX hr rfl (Nat.le_of_ble_eq_true rfl) (Nat.le_of_ble_eq_true rfl) dX5_faults_133 ?_
            unfold zq_ok
            (try rw [z_i]); (try rw [z_f])
            exact ⟨⟨⟨zs_ix_nI hi (by omega), zs_ix_nI hf (by omega)⟩, trivial, trivial⟩, by first | (rw [show zp_faults S i f = _ from if_pos c121, show zp_f3 S i f = _ from if_neg (fun h => absurd h.1 (by omega)), show zp_f2 S i f = _ from if_neg c61, show zp_f1 S i f = _ from if_pos c45, show zp_f0 S i f = _ from if_pos c22]; done) | (rw [show zp_faults S i f = _ from if_pos c121, show zp_f3 S i f = _ from if_neg (fun h => absurd h.1 (by omega)), show zp_f2 S i f = _ from if_neg c61, show zp_f1 S i f = _ from if_pos c45, show zp_f0 S i f = _ from if_pos c22]; rfl), hR, zr_same.rfl'⟩
          · skip
            refine zz_iload hX dX5_faults_124 5 rfl ?_
            refine zz_bipush (v := nI 16) hX dX5_faults_126 rfl ?_
            refine zz_ior (z := ((nI 0) ||| (nI 4)) ||| (nI 16)) hX dX5_faults_128 rfl ?_
            refine zz_istore (ls' := [(0, .ref 2), (1, .int (nI i)), (2, .int (nI f)), (3, .ref (1000 + 100 * i)), (4, .ref (1000 + 100 * i + 5)), (5, .int (((nI 0) ||| (nI 4)) ||| (nI 16)))]) hX dX5_faults_129 (Nat.le_of_ble_eq_true rfl) rfl ?_
            refine zz_iload hX dX5_faults_131 5 rfl ?_
            refine zz_iret hX hr rfl (Nat.le_of_ble_eq_true rfl) (Nat.le_of_ble_eq_true rfl) dX5_faults_133 ?_
            unfold zq_ok
            (try rw [z_i]); (try rw [z_f])
            exact ⟨⟨⟨zs_ix_nI hi (by omega), zs_ix_nI hf (by omega)⟩, trivial, trivial⟩, by first | (rw [show zp_faults S i f = _ from if_neg c121, show zp_f3 S i f = _ from if_neg (fun h => absurd h.1 (by omega)), show zp_f2 S i f = _ from if_neg c61, show zp_f1 S i f = _ from if_pos c45, show zp_f0 S i f = _ from if_pos c22]; done) | (rw [show zp_faults S i f = _ from if_neg c121, show zp_f3 S i f = _ from if_neg (fun h => absurd h.1 (by omega)), show zp_f2 S i f = _ from if_neg c61, show zp_f1 S i f = _ from if_pos c45, show zp_f0 S i f = _ from if_pos c22]; rfl), hR, zr_same.rfl'⟩
        · skip
          refine zz_aload hX dX5_faults_74 4 rfl ?_
          refine zz_getR (y := (1000 + 100 * i + 9)) hX zf_F_X5_262 r1 rfl r5 dX5_faults_76 ?_
          refine zz_iload_n hX dX5_faults_79 2 rfl rfl ?_
          refine zz_iald (x := S 26 (48 * i + f)) hX r11 f rfl (by omega) (by omega) ((u10 f (by omega)).2.2.1) dX5_faults_80 ?_
          refine zz_aload hX dX5_faults_81 4 rfl ?_
          refine zz_getR (y := (1000 + 100 * i + 9)) hX zf_F_X5_262 r1 rfl r5 dX5_faults_83 ?_
          refine zz_iload_n hX dX5_faults_86 2 rfl rfl ?_
          refine zz_iconst (v := nI 1) hX dX5_faults_87 rfl ?_
          refine zz_isub (z := nI (f - 1)) hX dX5_faults_88 (pk_sub (by omega)) ?_
          refine zz_iald (x := S 26 (48 * i + (f - 1))) hX r11 (f - 1) rfl (by omega) (by omega) ((u10 (f - 1) (by omega)).2.2.1) dX5_faults_89 ?_
          refine zz_isub (z := (S 26 (48 * i + f)) - (S 26 (48 * i + (f - 1)))) hX dX5_faults_90 rfl ?_
          refine zz_abs (z := zs_abs ((S 26 (48 * i + f)) - (S 26 (48 * i + (f - 1))))) hX zf_M_X5_244 zw_abss zw_mi zw_absc (by decide) (Nat.le_of_ble_eq_true rfl) (Nat.le_of_ble_eq_true rfl) (Nat.le_of_ble_eq_true rfl) rfl dX5_faults_91 ?_
          refine zz_bipush (v := nI 20) hX dX5_faults_94 rfl ?_
          refine zz_icmp_le hX 106 dX5_faults_96 (by decide) (fun c96 => ?_) (fun c96 => ?_)
          · skip
            refine zz_aload hX dX5_faults_106 4 rfl ?_
            refine zz_getR (y := (1000 + 100 * i + 8)) hX zf_F_X5_259 r1 rfl r4 dX5_faults_108 ?_
            refine zz_iload_n hX dX5_faults_111 2 rfl rfl ?_
            refine zz_iald (x := S 25 (48 * i + f)) hX r10 f rfl (by omega) (by omega) ((u10 f (by omega)).2.1) dX5_faults_112 ?_
            refine zz_aload_n hX dX5_faults_113 3 rfl rfl ?_
            refine zz_getR (y := (1000 + 100 * i + 2)) hX zf_F_X5_167 t1 rfl t4 dX5_faults_114 ?_
            refine zz_iload_n hX dX5_faults_117 2 rfl rfl ?_
            refine zz_vI (x := zp_place S i f) hX zf_M_X5_171 (As := [.int (nI f)]) (st := [.int (S 25 (48 * i + f))]) (K_placeAt S sh mi mr hW hR i hi f (by omega)) t9.1 rfl rfl rfl (by decide) (Nat.le_of_ble_eq_true rfl) (Nat.le_of_ble_eq_true rfl) (Nat.le_of_ble_eq_true rfl) dX5_faults_118 ?_
            refine zz_icmp_eq hX 131 dX5_faults_121 (by decide) (fun c121 => ?_) (fun c121 => ?_)
            · skip
              refine zz_iload hX dX5_faults_131 5 rfl ?_
              refine zz_iret hX hr rfl (Nat.le_of_ble_eq_true rfl) (Nat.le_of_ble_eq_true rfl) dX5_faults_133 ?_
              unfold zq_ok
              (try rw [z_i]); (try rw [z_f])
              exact ⟨⟨⟨zs_ix_nI hi (by omega), zs_ix_nI hf (by omega)⟩, trivial, trivial⟩, by first | (rw [show zp_faults S i f = _ from if_pos c121, show zp_f3 S i f = _ from if_neg (fun h => by have h2 := h.2; rw [zs_lt] at h2; rw [zs_le] at c96; omega), show zp_f2 S i f = _ from if_neg c61, show zp_f1 S i f = _ from if_pos c45, show zp_f0 S i f = _ from if_pos c22]; done) | (rw [show zp_faults S i f = _ from if_pos c121, show zp_f3 S i f = _ from if_neg (fun h => by have h2 := h.2; rw [zs_lt] at h2; rw [zs_le] at c96; omega), show zp_f2 S i f = _ from if_neg c61, show zp_f1 S i f = _ from if_pos c45, show zp_f0 S i f = _ from if_pos c22]; rfl), hR, zr_same.rfl'⟩
            · skip
              refine zz_iload hX dX5_faults_124 5 rfl ?_
              refine zz_bipush (v := nI 16) hX dX5_faults_126 rfl ?_
              refine zz_ior (z := ((nI 0) ||| (nI 4)) ||| (nI 16)) hX dX5_faults_128 rfl ?_
              refine zz_istore (ls' := [(0, .ref 2), (1, .int (nI i)), (2, .int (nI f)), (3, .ref (1000 + 100 * i)), (4, .ref (1000 + 100 * i + 5)), (5, .int (((nI 0) ||| (nI 4)) ||| (nI 16)))]) hX dX5_faults_129 (Nat.le_of_ble_eq_true rfl) rfl ?_
              refine zz_iload hX dX5_faults_131 5 rfl ?_
              refine zz_iret hX hr rfl (Nat.le_of_ble_eq_true rfl) (Nat.le_of_ble_eq_true rfl) dX5_faults_133 ?_
              unfold zq_ok
              (try rw [z_i]); (try rw [z_f])
              exact ⟨⟨⟨zs_ix_nI hi (by omega), zs_ix_nI hf (by omega)⟩, trivial, trivial⟩, by first | (rw [show zp_faults S i f = _ from if_neg c121, show zp_f3 S i f = _ from if_neg (fun h => by have h2 := h.2; rw [zs_lt] at h2; rw [zs_le] at c96; omega), show zp_f2 S i f = _ from if_neg c61, show zp_f1 S i f = _ from if_pos c45, show zp_f0 S i f = _ from if_pos c22]; done) | (rw [show zp_faults S i f = _ from if_neg c121, show zp_f3 S i f = _ from if_neg (fun h => by have h2 := h.2; rw [zs_lt] at h2; rw [zs_le] at c96; omega), show zp_f2 S i f = _ from if_neg c61, show zp_f1 S i f = _ from if_pos c45, show zp_f0 S i f = _ from if_pos c22]; rfl), hR, zr_same.rfl'⟩
          · skip
            refine zz_iload hX dX5_faults_99 5 rfl ?_
            refine zz_bipush (v := nI 8) hX dX5_faults_101 rfl ?_
            refine zz_ior (z := ((nI 0) ||| (nI 4)) ||| (nI 8)) hX dX5_faults_103 rfl ?_
            refine zz_istore (ls' := [(0, .ref 2), (1, .int (nI i)), (2, .int (nI f)), (3, .ref (1000 + 100 * i)), (4, .ref (1000 + 100 * i + 5)), (5, .int (((nI 0) ||| (nI 4)) ||| (nI 8)))]) hX dX5_faults_104 (Nat.le_of_ble_eq_true rfl) rfl ?_
            refine zz_aload hX dX5_faults_106 4 rfl ?_
            refine zz_getR (y := (1000 + 100 * i + 8)) hX zf_F_X5_259 r1 rfl r4 dX5_faults_108 ?_
            refine zz_iload_n hX dX5_faults_111 2 rfl rfl ?_
            refine zz_iald (x := S 25 (48 * i + f)) hX r10 f rfl (by omega) (by omega) ((u10 f (by omega)).2.1) dX5_faults_112 ?_
            refine zz_aload_n hX dX5_faults_113 3 rfl rfl ?_
            refine zz_getR (y := (1000 + 100 * i + 2)) hX zf_F_X5_167 t1 rfl t4 dX5_faults_114 ?_
            refine zz_iload_n hX dX5_faults_117 2 rfl rfl ?_
            refine zz_vI (x := zp_place S i f) hX zf_M_X5_171 (As := [.int (nI f)]) (st := [.int (S 25 (48 * i + f))]) (K_placeAt S sh mi mr hW hR i hi f (by omega)) t9.1 rfl rfl rfl (by decide) (Nat.le_of_ble_eq_true rfl) (Nat.le_of_ble_eq_true rfl) (Nat.le_of_ble_eq_true rfl) dX5_faults_118 ?_
            refine zz_icmp_eq hX 131 dX5_faults_121 (by decide) (fun c121 => ?_) (fun c121 => ?_)
            · skip
              refine zz_iload hX dX5_faults_131 5 rfl ?_
              refine zz_iret hX hr rfl (Nat.le_of_ble_eq_true rfl) (Nat.le_of_ble_eq_true rfl) dX5_faults_133 ?_
              unfold zq_ok
              (try rw [z_i]); (try rw [z_f])
              exact ⟨⟨⟨zs_ix_nI hi (by omega), zs_ix_nI hf (by omega)⟩, trivial, trivial⟩, by first | (rw [show zp_faults S i f = _ from if_pos c121, show zp_f3 S i f = _ from if_pos ⟨c71, zs_nle c96⟩, show zp_f2 S i f = _ from if_neg c61, show zp_f1 S i f = _ from if_pos c45, show zp_f0 S i f = _ from if_pos c22]; done) | (rw [show zp_faults S i f = _ from if_pos c121, show zp_f3 S i f = _ from if_pos ⟨c71, zs_nle c96⟩, show zp_f2 S i f = _ from if_neg c61, show zp_f1 S i f = _ from if_pos c45, show zp_f0 S i f = _ from if_pos c22]; rfl), hR, zr_same.rfl'⟩
            · skip
              refine zz_iload hX dX5_faults_124 5 rfl ?_
              refine zz_bipush (v := nI 16) hX dX5_faults_126 rfl ?_
              refine zz_ior (z := (((nI 0) ||| (nI 4)) ||| (nI 8)) ||| (nI 16)) hX dX5_faults_128 rfl ?_
              refine zz_istore (ls' := [(0, .ref 2), (1, .int (nI i)), (2, .int (nI f)), (3, .ref (1000 + 100 * i)), (4, .ref (1000 + 100 * i + 5)), (5, .int ((((nI 0) ||| (nI 4)) ||| (nI 8)) ||| (nI 16)))]) hX dX5_faults_129 (Nat.le_of_ble_eq_true rfl) rfl ?_
              refine zz_iload hX dX5_faults_131 5 rfl ?_
              refine zz_iret hX hr rfl (Nat.le_of_ble_eq_true rfl) (Nat.le_of_ble_eq_true rfl) dX5_faults_133 ?_
              unfold zq_ok
              (try rw [z_i]); (try rw [z_f])
              exact ⟨⟨⟨zs_ix_nI hi (by omega), zs_ix_nI hf (by omega)⟩, trivial, trivial⟩, by first | (rw [show zp_faults S i f = _ from if_neg c121, show zp_f3 S i f = _ from if_pos ⟨c71, zs_nle c96⟩, show zp_f2 S i f = _ from if_neg c61, show zp_f1 S i f = _ from if_pos c45, show zp_f0 S i f = _ from if_pos c22]; done) | (rw [show zp_faults S i f = _ from if_neg c121, show zp_f3 S i f = _ from if_pos ⟨c71, zs_nle c96⟩, show zp_f2 S i f = _ from if_neg c61, show zp_f1 S i f = _ from if_pos c45, show zp_f0 S i f = _ from if_pos c22]; rfl), hR, zr_same.rfl'⟩
    · skip
      refine zz_iload hX dX5_faults_48 5 rfl ?_
      refine zz_iconst (v := nI 2) hX dX5_faults_50 rfl ?_
      refine zz_ior (z := (nI 0) ||| (nI 2)) hX dX5_faults_51 rfl ?_
      refine zz_istore (ls' := [(0, .ref 2), (1, .int (nI i)), (2, .int (nI f)), (3, .ref (1000 + 100 * i)), (4, .ref (1000 + 100 * i + 5)), (5, .int ((nI 0) ||| (nI 2)))]) hX dX5_faults_52 (Nat.le_of_ble_eq_true rfl) rfl ?_
      refine zz_aload hX dX5_faults_54 4 rfl ?_
      refine zz_getR (y := (1000 + 100 * i + 10)) hX zf_F_X5_265 r1 rfl r6 dX5_faults_56 ?_
      refine zz_iload_n hX dX5_faults_59 2 rfl rfl ?_
      refine zz_iald (x := S 27 (48 * i + f)) hX r12 f rfl (by omega) (by omega) ((u10 f (by omega)).2.2.2.1) dX5_faults_60 ?_
      refine zz_if_eq hX 70 dX5_faults_61 (by decide) (fun c61 => ?_) (fun c61 => ?_)
      · skip
        refine zz_iload_n hX dX5_faults_70 2 rfl rfl ?_
        refine zz_if_leN hX (by omega) 106 dX5_faults_71 (by decide) (fun c71 => ?_) (fun c71 => ?_)
        · skip
          refine zz_aload hX dX5_faults_106 4 rfl ?_
          refine zz_getR (y := (1000 + 100 * i + 8)) hX zf_F_X5_259 r1 rfl r4 dX5_faults_108 ?_
          refine zz_iload_n hX dX5_faults_111 2 rfl rfl ?_
          refine zz_iald (x := S 25 (48 * i + f)) hX r10 f rfl (by omega) (by omega) ((u10 f (by omega)).2.1) dX5_faults_112 ?_
          refine zz_aload_n hX dX5_faults_113 3 rfl rfl ?_
          refine zz_getR (y := (1000 + 100 * i + 2)) hX zf_F_X5_167 t1 rfl t4 dX5_faults_114 ?_
          refine zz_iload_n hX dX5_faults_117 2 rfl rfl ?_
          refine zz_vI (x := zp_place S i f) hX zf_M_X5_171 (As := [.int (nI f)]) (st := [.int (S 25 (48 * i + f))]) (K_placeAt S sh mi mr hW hR i hi f (by omega)) t9.1 rfl rfl rfl (by decide) (Nat.le_of_ble_eq_true rfl) (Nat.le_of_ble_eq_true rfl) (Nat.le_of_ble_eq_true rfl) dX5_faults_118 ?_
          refine zz_icmp_eq hX 131 dX5_faults_121 (by decide) (fun c121 => ?_) (fun c121 => ?_)
          · skip
            refine zz_iload hX dX5_faults_131 5 rfl ?_
            refine zz_iret hX hr rfl (Nat.le_of_ble_eq_true rfl) (Nat.le_of_ble_eq_true rfl) dX5_faults_133 ?_
            unfold zq_ok
            (try rw [z_i]); (try rw [z_f])
            exact ⟨⟨⟨zs_ix_nI hi (by omega), zs_ix_nI hf (by omega)⟩, trivial, trivial⟩, by first | (rw [show zp_faults S i f = _ from if_pos c121, show zp_f3 S i f = _ from if_neg (fun h => absurd h.1 (by omega)), show zp_f2 S i f = _ from if_pos c61, show zp_f1 S i f = _ from if_neg c45, show zp_f0 S i f = _ from if_pos c22]; done) | (rw [show zp_faults S i f = _ from if_pos c121, show zp_f3 S i f = _ from if_neg (fun h => absurd h.1 (by omega)), show zp_f2 S i f = _ from if_pos c61, show zp_f1 S i f = _ from if_neg c45, show zp_f0 S i f = _ from if_pos c22]; rfl), hR, zr_same.rfl'⟩
          · skip
            refine zz_iload hX dX5_faults_124 5 rfl ?_
            refine zz_bipush (v := nI 16) hX dX5_faults_126 rfl ?_
            refine zz_ior (z := ((nI 0) ||| (nI 2)) ||| (nI 16)) hX dX5_faults_128 rfl ?_
            refine zz_istore (ls' := [(0, .ref 2), (1, .int (nI i)), (2, .int (nI f)), (3, .ref (1000 + 100 * i)), (4, .ref (1000 + 100 * i + 5)), (5, .int (((nI 0) ||| (nI 2)) ||| (nI 16)))]) hX dX5_faults_129 (Nat.le_of_ble_eq_true rfl) rfl ?_
            refine zz_iload hX dX5_faults_131 5 rfl ?_
            refine zz_iret hX hr rfl (Nat.le_of_ble_eq_true rfl) (Nat.le_of_ble_eq_true rfl) dX5_faults_133 ?_
            unfold zq_ok
            (try rw [z_i]); (try rw [z_f])
            exact ⟨⟨⟨zs_ix_nI hi (by omega), zs_ix_nI hf (by omega)⟩, trivial, trivial⟩, by first | (rw [show zp_faults S i f = _ from if_neg c121, show zp_f3 S i f = _ from if_neg (fun h => absurd h.1 (by omega)), show zp_f2 S i f = _ from if_pos c61, show zp_f1 S i f = _ from if_neg c45, show zp_f0 S i f = _ from if_pos c22]; done) | (rw [show zp_faults S i f = _ from if_neg c121, show zp_f3 S i f = _ from if_neg (fun h => absurd h.1 (by omega)), show zp_f2 S i f = _ from if_pos c61, show zp_f1 S i f = _ from if_neg c45, show zp_f0 S i f = _ from if_pos c22]; rfl), hR, zr_same.rfl'⟩
        · skip
          refine zz_aload hX dX5_faults_74 4 rfl ?_
          refine zz_getR (y := (1000 + 100 * i + 9)) hX zf_F_X5_262 r1 rfl r5 dX5_faults_76 ?_
          refine zz_iload_n hX dX5_faults_79 2 rfl rfl ?_
          refine zz_iald (x := S 26 (48 * i + f)) hX r11 f rfl (by omega) (by omega) ((u10 f (by omega)).2.2.1) dX5_faults_80 ?_
          refine zz_aload hX dX5_faults_81 4 rfl ?_
          refine zz_getR (y := (1000 + 100 * i + 9)) hX zf_F_X5_262 r1 rfl r5 dX5_faults_83 ?_
          refine zz_iload_n hX dX5_faults_86 2 rfl rfl ?_
          refine zz_iconst (v := nI 1) hX dX5_faults_87 rfl ?_
          refine zz_isub (z := nI (f - 1)) hX dX5_faults_88 (pk_sub (by omega)) ?_
          refine zz_iald (x := S 26 (48 * i + (f - 1))) hX r11 (f - 1) rfl (by omega) (by omega) ((u10 (f - 1) (by omega)).2.2.1) dX5_faults_89 ?_
          refine zz_isub (z := (S 26 (48 * i + f)) - (S 26 (48 * i + (f - 1)))) hX dX5_faults_90 rfl ?_
          refine zz_abs (z := zs_abs ((S 26 (48 * i + f)) - (S 26 (48 * i + (f - 1))))) hX zf_M_X5_244 zw_abss zw_mi zw_absc (by decide) (Nat.le_of_ble_eq_true rfl) (Nat.le_of_ble_eq_true rfl) (Nat.le_of_ble_eq_true rfl) rfl dX5_faults_91 ?_
          refine zz_bipush (v := nI 20) hX dX5_faults_94 rfl ?_
          refine zz_icmp_le hX 106 dX5_faults_96 (by decide) (fun c96 => ?_) (fun c96 => ?_)
          · skip
            refine zz_aload hX dX5_faults_106 4 rfl ?_
            refine zz_getR (y := (1000 + 100 * i + 8)) hX zf_F_X5_259 r1 rfl r4 dX5_faults_108 ?_
            refine zz_iload_n hX dX5_faults_111 2 rfl rfl ?_
            refine zz_iald (x := S 25 (48 * i + f)) hX r10 f rfl (by omega) (by omega) ((u10 f (by omega)).2.1) dX5_faults_112 ?_
            refine zz_aload_n hX dX5_faults_113 3 rfl rfl ?_
            refine zz_getR (y := (1000 + 100 * i + 2)) hX zf_F_X5_167 t1 rfl t4 dX5_faults_114 ?_
            refine zz_iload_n hX dX5_faults_117 2 rfl rfl ?_
            refine zz_vI (x := zp_place S i f) hX zf_M_X5_171 (As := [.int (nI f)]) (st := [.int (S 25 (48 * i + f))]) (K_placeAt S sh mi mr hW hR i hi f (by omega)) t9.1 rfl rfl rfl (by decide) (Nat.le_of_ble_eq_true rfl) (Nat.le_of_ble_eq_true rfl) (Nat.le_of_ble_eq_true rfl) dX5_faults_118 ?_
            refine zz_icmp_eq hX 131 dX5_faults_121 (by decide) (fun c121 => ?_) (fun c121 => ?_)
            · skip
              refine zz_iload hX dX5_faults_131 5 rfl ?_
              refine zz_iret hX hr rfl (Nat.le_of_ble_eq_true rfl) (Nat.le_of_ble_eq_true rfl) dX5_faults_133 ?_
              unfold zq_ok
              (try rw [z_i]); (try rw [z_f])
              exact ⟨⟨⟨zs_ix_nI hi (by omega), zs_ix_nI hf (by omega)⟩, trivial, trivial⟩, by first | (rw [show zp_faults S i f = _ from if_pos c121, show zp_f3 S i f = _ from if_neg (fun h => by have h2 := h.2; rw [zs_lt] at h2; rw [zs_le] at c96; omega), show zp_f2 S i f = _ from if_pos c61, show zp_f1 S i f = _ from if_neg c45, show zp_f0 S i f = _ from if_pos c22]; done) | (rw [show zp_faults S i f = _ from if_pos c121, show zp_f3 S i f = _ from if_neg (fun h => by have h2 := h.2; rw [zs_lt] at h2; rw [zs_le] at c96; omega), show zp_f2 S i f = _ from if_pos c61, show zp_f1 S i f = _ from if_neg c45, show zp_f0 S i f = _ from if_pos c22]; rfl), hR, zr_same.rfl'⟩
            · skip
              refine zz_iload hX dX5_faults_124 5 rfl ?_
              refine zz_bipush (v := nI 16) hX dX5_faults_126 rfl ?_
              refine zz_ior (z := ((nI 0) ||| (nI 2)) ||| (nI 16)) hX dX5_faults_128 rfl ?_
              refine zz_istore (ls' := [(0, .ref 2), (1, .int (nI i)), (2, .int (nI f)), (3, .ref (1000 + 100 * i)), (4, .ref (1000 + 100 * i + 5)), (5, .int (((nI 0) ||| (nI 2)) ||| (nI 16)))]) hX dX5_faults_129 (Nat.le_of_ble_eq_true rfl) rfl ?_
              refine zz_iload hX dX5_faults_131 5 rfl ?_
              refine zz_iret hX hr rfl (Nat.le_of_ble_eq_true rfl) (Nat.le_of_ble_eq_true rfl) dX5_faults_133 ?_
              unfold zq_ok
              (try rw [z_i]); (try rw [z_f])
              exact ⟨⟨⟨zs_ix_nI hi (by omega), zs_ix_nI hf (by omega)⟩, trivial, trivial⟩, by first | (rw [show zp_faults S i f = _ from if_neg c121, show zp_f3 S i f = _ from if_neg (fun h => by have h2 := h.2; rw [zs_lt] at h2; rw [zs_le] at c96; omega), show zp_f2 S i f = _ from if_pos c61, show zp_f1 S i f = _ from if_neg c45, show zp_f0 S i f = _ from if_pos c22]; done) | (rw [show zp_faults S i f = _ from if_neg c121, show zp_f3 S i f = _ from if_neg (fun h => by have h2 := h.2; rw [zs_lt] at h2; rw [zs_le] at c96; omega), show zp_f2 S i f = _ from if_pos c61, show zp_f1 S i f = _ from if_neg c45, show zp_f0 S i f = _ from if_pos c22]; rfl), hR, zr_same.rfl'⟩
          · skip
            refine zz_iload hX dX5_faults_99 5 rfl ?_
            refine zz_bipush (v := nI 8) hX dX5_faults_101 rfl ?_
            refine zz_ior (z := ((nI 0) ||| (nI 2)) ||| (nI 8)) hX dX5_faults_103 rfl ?_
            refine zz_istore (ls' := [(0, .ref 2), (1, .int (nI i)), (2, .int (nI f)), (3, .ref (1000 + 100 * i)), (4, .ref (1000 + 100 * i + 5)), (5, .int (((nI 0) ||| (nI 2)) ||| (nI 8)))]) hX dX5_faults_104 (Nat.le_of_ble_eq_true rfl) rfl ?_
            refine zz_aload hX dX5_faults_106 4 rfl ?_
            refine zz_getR (y := (1000 + 100 * i + 8)) hX zf_F_X5_259 r1 rfl r4 dX5_faults_108 ?_
            refine zz_iload_n hX dX5_faults_111 2 rfl rfl ?_
            refine zz_iald (x := S 25 (48 * i + f)) hX r10 f rfl (by omega) (by omega) ((u10 f (by omega)).2.1) dX5_faults_112 ?_
            refine zz_aload_n hX dX5_faults_113 3 rfl rfl ?_
            refine zz_getR (y := (1000 + 100 * i + 2)) hX zf_F_X5_167 t1 rfl t4 dX5_faults_114 ?_
            refine zz_iload_n hX dX5_faults_117 2 rfl rfl ?_
            refine zz_vI (x := zp_place S i f) hX zf_M_X5_171 (As := [.int (nI f)]) (st := [.int (S 25 (48 * i + f))]) (K_placeAt S sh mi mr hW hR i hi f (by omega)) t9.1 rfl rfl rfl (by decide) (Nat.le_of_ble_eq_true rfl) (Nat.le_of_ble_eq_true rfl) (Nat.le_of_ble_eq_true rfl) dX5_faults_118 ?_
            refine zz_icmp_eq hX 131 dX5_faults_121 (by decide) (fun c121 => ?_) (fun c121 => ?_)
            · skip
              refine zz_iload hX dX5_faults_131 5 rfl ?_
              refine zz_iret hX hr rfl (Nat.le_of_ble_eq_true rfl) (Nat.le_of_ble_eq_true rfl) dX5_faults_133 ?_
              unfold zq_ok
              (try rw [z_i]); (try rw [z_f])
              exact ⟨⟨⟨zs_ix_nI hi (by omega), zs_ix_nI hf (by omega)⟩, trivial, trivial⟩, by first | (rw [show zp_faults S i f = _ from if_pos c121, show zp_f3 S i f = _ from if_pos ⟨c71, zs_nle c96⟩, show zp_f2 S i f = _ from if_pos c61, show zp_f1 S i f = _ from if_neg c45, show zp_f0 S i f = _ from if_pos c22]; done) | (rw [show zp_faults S i f = _ from if_pos c121, show zp_f3 S i f = _ from if_pos ⟨c71, zs_nle c96⟩, show zp_f2 S i f = _ from if_pos c61, show zp_f1 S i f = _ from if_neg c45, show zp_f0 S i f = _ from if_pos c22]; rfl), hR, zr_same.rfl'⟩
            · skip
              refine zz_iload hX dX5_faults_124 5 rfl ?_
              refine zz_bipush (v := nI 16) hX dX5_faults_126 rfl ?_
              refine zz_ior (z := (((nI 0) ||| (nI 2)) ||| (nI 8)) ||| (nI 16)) hX dX5_faults_128 rfl ?_
              refine zz_istore (ls' := [(0, .ref 2), (1, .int (nI i)), (2, .int (nI f)), (3, .ref (1000 + 100 * i)), (4, .ref (1000 + 100 * i + 5)), (5, .int ((((nI 0) ||| (nI 2)) ||| (nI 8)) ||| (nI 16)))]) hX dX5_faults_129 (Nat.le_of_ble_eq_true rfl) rfl ?_
              refine zz_iload hX dX5_faults_131 5 rfl ?_
              refine zz_iret hX hr rfl (Nat.le_of_ble_eq_true rfl) (Nat.le_of_ble_eq_true rfl) dX5_faults_133 ?_
              unfold zq_ok
              (try rw [z_i]); (try rw [z_f])
              exact ⟨⟨⟨zs_ix_nI hi (by omega), zs_ix_nI hf (by omega)⟩, trivial, trivial⟩, by first | (rw [show zp_faults S i f = _ from if_neg c121, show zp_f3 S i f = _ from if_pos ⟨c71, zs_nle c96⟩, show zp_f2 S i f = _ from if_pos c61, show zp_f1 S i f = _ from if_neg c45, show zp_f0 S i f = _ from if_pos c22]; done) | (rw [show zp_faults S i f = _ from if_neg c121, show zp_f3 S i f = _ from if_pos ⟨c71, zs_nle c96⟩, show zp_f2 S i f = _ from if_pos c61, show zp_f1 S i f = _ from if_neg c45, show zp_f0 S i f = _ from if_pos c22]; rfl), hR, zr_same.rfl'⟩
      · skip
        refine zz_iload hX dX5_faults_64 5 rfl ?_
        refine zz_iconst (v := nI 4) hX dX5_faults_66 rfl ?_
        refine zz_ior (z := ((nI 0) ||| (nI 2)) ||| (nI 4)) hX dX5_faults_67 rfl ?_
        refine zz_istore (ls' := [(0, .ref 2), (1, .int (nI i)), (2, .int (nI f)), (3, .ref (1000 + 100 * i)), (4, .ref (1000 + 100 * i + 5)), (5, .int (((nI 0) ||| (nI 2)) ||| (nI 4)))]) hX dX5_faults_68 (Nat.le_of_ble_eq_true rfl) rfl ?_
        refine zz_iload_n hX dX5_faults_70 2 rfl rfl ?_
        refine zz_if_leN hX (by omega) 106 dX5_faults_71 (by decide) (fun c71 => ?_) (fun c71 => ?_)
        · skip
          refine zz_aload hX dX5_faults_106 4 rfl ?_
          refine zz_getR (y := (1000 + 100 * i + 8)) hX zf_F_X5_259 r1 rfl r4 dX5_faults_108 ?_
          refine zz_iload_n hX dX5_faults_111 2 rfl rfl ?_
          refine zz_iald (x := S 25 (48 * i + f)) hX r10 f rfl (by omega) (by omega) ((u10 f (by omega)).2.1) dX5_faults_112 ?_
          refine zz_aload_n hX dX5_faults_113 3 rfl rfl ?_
          refine zz_getR (y := (1000 + 100 * i + 2)) hX zf_F_X5_167 t1 rfl t4 dX5_faults_114 ?_
          refine zz_iload_n hX dX5_faults_117 2 rfl rfl ?_
          refine zz_vI (x := zp_place S i f) hX zf_M_X5_171 (As := [.int (nI f)]) (st := [.int (S 25 (48 * i + f))]) (K_placeAt S sh mi mr hW hR i hi f (by omega)) t9.1 rfl rfl rfl (by decide) (Nat.le_of_ble_eq_true rfl) (Nat.le_of_ble_eq_true rfl) (Nat.le_of_ble_eq_true rfl) dX5_faults_118 ?_
          refine zz_icmp_eq hX 131 dX5_faults_121 (by decide) (fun c121 => ?_) (fun c121 => ?_)
          · skip
            refine zz_iload hX dX5_faults_131 5 rfl ?_
            refine zz_iret hX hr rfl (Nat.le_of_ble_eq_true rfl) (Nat.le_of_ble_eq_true rfl) dX5_faults_133 ?_
            unfold zq_ok
            (try rw [z_i]); (try rw [z_f])
            exact ⟨⟨⟨zs_ix_nI hi (by omega), zs_ix_nI hf (by omega)⟩, trivial, trivial⟩, by first | (rw [show zp_faults S i f = _ from if_pos c121, show zp_f3 S i f = _ from if_neg (fun h => absurd h.1 (by omega)), show zp_f2 S i f = _ from if_neg c61, show zp_f1 S i f = _ from if_neg c45, show zp_f0 S i f = _ from if_pos c22]; done) | (rw [show zp_faults S i f = _ from if_pos c121, show zp_f3 S i f = _ from if_neg (fun h => absurd h.1 (by omega)), show zp_f2 S i f = _ from if_neg c61, show zp_f1 S i f = _ from if_neg c45, show zp_f0 S i f = _ from if_pos c22]; rfl), hR, zr_same.rfl'⟩
          · skip
            refine zz_iload hX dX5_faults_124 5 rfl ?_
            refine zz_bipush (v := nI 16) hX dX5_faults_126 rfl ?_
            refine zz_ior (z := (((nI 0) ||| (nI 2)) ||| (nI 4)) ||| (nI 16)) hX dX5_faults_128 rfl ?_
            refine zz_istore (ls' := [(0, .ref 2), (1, .int (nI i)), (2, .int (nI f)), (3, .ref (1000 + 100 * i)), (4, .ref (1000 + 100 * i + 5)), (5, .int ((((nI 0) ||| (nI 2)) ||| (nI 4)) ||| (nI 16)))]) hX dX5_faults_129 (Nat.le_of_ble_eq_true rfl) rfl ?_
            refine zz_iload hX dX5_faults_131 5 rfl ?_
            refine zz_iret hX hr rfl (Nat.le_of_ble_eq_true rfl) (Nat.le_of_ble_eq_true rfl) dX5_faults_133 ?_
            unfold zq_ok
            (try rw [z_i]); (try rw [z_f])
            exact ⟨⟨⟨zs_ix_nI hi (by omega), zs_ix_nI hf (by omega)⟩, trivial, trivial⟩, by first | (rw [show zp_faults S i f = _ from if_neg c121, show zp_f3 S i f = _ from if_neg (fun h => absurd h.1 (by omega)), show zp_f2 S i f = _ from if_neg c61, show zp_f1 S i f = _ from if_neg c45, show zp_f0 S i f = _ from if_pos c22]; done) | (rw [show zp_faults S i f = _ from if_neg c121, show zp_f3 S i f = _ from if_neg (fun h => absurd h.1 (by omega)), show zp_f2 S i f = _ from if_neg c61, show zp_f1 S i f = _ from if_neg c45, show zp_f0 S i f = _ from if_pos c22]; rfl), hR, zr_same.rfl'⟩
        · skip
          refine zz_aload hX dX5_faults_74 4 rfl ?_
          refine zz_getR (y := (1000 + 100 * i + 9)) hX zf_F_X5_262 r1 rfl r5 dX5_faults_76 ?_
          refine zz_iload_n hX dX5_faults_79 2 rfl rfl ?_
          refine zz_iald (x := S 26 (48 * i + f)) hX r11 f rfl (by omega) (by omega) ((u10 f (by omega)).2.2.1) dX5_faults_80 ?_
          refine zz_aload hX dX5_faults_81 4 rfl ?_
          refine zz_getR (y := (1000 + 100 * i + 9)) hX zf_F_X5_262 r1 rfl r5 dX5_faults_83 ?_
          refine zz_iload_n hX dX5_faults_86 2 rfl rfl ?_
          refine zz_iconst (v := nI 1) hX dX5_faults_87 rfl ?_
          refine zz_isub (z := nI (f - 1)) hX dX5_faults_88 (pk_sub (by omega)) ?_
          refine zz_iald (x := S 26 (48 * i + (f - 1))) hX r11 (f - 1) rfl (by omega) (by omega) ((u10 (f - 1) (by omega)).2.2.1) dX5_faults_89 ?_
          refine zz_isub (z := (S 26 (48 * i + f)) - (S 26 (48 * i + (f - 1)))) hX dX5_faults_90 rfl ?_
          refine zz_abs (z := zs_abs ((S 26 (48 * i + f)) - (S 26 (48 * i + (f - 1))))) hX zf_M_X5_244 zw_abss zw_mi zw_absc (by decide) (Nat.le_of_ble_eq_true rfl) (Nat.le_of_ble_eq_true rfl) (Nat.le_of_ble_eq_true rfl) rfl dX5_faults_91 ?_
          refine zz_bipush (v := nI 20) hX dX5_faults_94 rfl ?_
          refine zz_icmp_le hX 106 dX5_faults_96 (by decide) (fun c96 => ?_) (fun c96 => ?_)
          · skip
            refine zz_aload hX dX5_faults_106 4 rfl ?_
            refine zz_getR (y := (1000 + 100 * i + 8)) hX zf_F_X5_259 r1 rfl r4 dX5_faults_108 ?_
            refine zz_iload_n hX dX5_faults_111 2 rfl rfl ?_
            refine zz_iald (x := S 25 (48 * i + f)) hX r10 f rfl (by omega) (by omega) ((u10 f (by omega)).2.1) dX5_faults_112 ?_
            refine zz_aload_n hX dX5_faults_113 3 rfl rfl ?_
            refine zz_getR (y := (1000 + 100 * i + 2)) hX zf_F_X5_167 t1 rfl t4 dX5_faults_114 ?_
            refine zz_iload_n hX dX5_faults_117 2 rfl rfl ?_
            refine zz_vI (x := zp_place S i f) hX zf_M_X5_171 (As := [.int (nI f)]) (st := [.int (S 25 (48 * i + f))]) (K_placeAt S sh mi mr hW hR i hi f (by omega)) t9.1 rfl rfl rfl (by decide) (Nat.le_of_ble_eq_true rfl) (Nat.le_of_ble_eq_true rfl) (Nat.le_of_ble_eq_true rfl) dX5_faults_118 ?_
            refine zz_icmp_eq hX 131 dX5_faults_121 (by decide) (fun c121 => ?_) (fun c121 => ?_)
            · skip
              refine zz_iload hX dX5_faults_131 5 rfl ?_
              refine zz_iret hX hr rfl (Nat.le_of_ble_eq_true rfl) (Nat.le_of_ble_eq_true rfl) dX5_faults_133 ?_
              unfold zq_ok
              (try rw [z_i]); (try rw [z_f])
              exact ⟨⟨⟨zs_ix_nI hi (by omega), zs_ix_nI hf (by omega)⟩, trivial, trivial⟩, by first | (rw [show zp_faults S i f = _ from if_pos c121, show zp_f3 S i f = _ from if_neg (fun h => by have h2 := h.2; rw [zs_lt] at h2; rw [zs_le] at c96; omega), show zp_f2 S i f = _ from if_neg c61, show zp_f1 S i f = _ from if_neg c45, show zp_f0 S i f = _ from if_pos c22]; done) | (rw [show zp_faults S i f = _ from if_pos c121, show zp_f3 S i f = _ from if_neg (fun h => by have h2 := h.2; rw [zs_lt] at h2; rw [zs_le] at c96; omega), show zp_f2 S i f = _ from if_neg c61, show zp_f1 S i f = _ from if_neg c45, show zp_f0 S i f = _ from if_pos c22]; rfl), hR, zr_same.rfl'⟩
            · skip
              refine zz_iload hX dX5_faults_124 5 rfl ?_
              refine zz_bipush (v := nI 16) hX dX5_faults_126 rfl ?_
              refine zz_ior (z := (((nI 0) ||| (nI 2)) ||| (nI 4)) ||| (nI 16)) hX dX5_faults_128 rfl ?_
              refine zz_istore (ls' := [(0, .ref 2), (1, .int (nI i)), (2, .int (nI f)), (3, .ref (1000 + 100 * i)), (4, .ref (1000 + 100 * i + 5)), (5, .int ((((nI 0) ||| (nI 2)) ||| (nI 4)) ||| (nI 16)))]) hX dX5_faults_129 (Nat.le_of_ble_eq_true rfl) rfl ?_
              refine zz_iload hX dX5_faults_131 5 rfl ?_
              refine zz_iret hX hr rfl (Nat.le_of_ble_eq_true rfl) (Nat.le_of_ble_eq_true rfl) dX5_faults_133 ?_
              unfold zq_ok
              (try rw [z_i]); (try rw [z_f])
              exact ⟨⟨⟨zs_ix_nI hi (by omega), zs_ix_nI hf (by omega)⟩, trivial, trivial⟩, by first | (rw [show zp_faults S i f = _ from if_neg c121, show zp_f3 S i f = _ from if_neg (fun h => by have h2 := h.2; rw [zs_lt] at h2; rw [zs_le] at c96; omega), show zp_f2 S i f = _ from if_neg c61, show zp_f1 S i f = _ from if_neg c45, show zp_f0 S i f = _ from if_pos c22]; done) | (rw [show zp_faults S i f = _ from if_neg c121, show zp_f3 S i f = _ from if_neg (fun h => by have h2 := h.2; rw [zs_lt] at h2; rw [zs_le] at c96; omega), show zp_f2 S i f = _ from if_neg c61, show zp_f1 S i f = _ from if_neg c45, show zp_f0 S i f = _ from if_pos c22]; rfl), hR, zr_same.rfl'⟩
          · skip
            refine zz_iload hX dX5_faults_99 5 rfl ?_
            refine zz_bipush (v := nI 8) hX dX5_faults_101 rfl ?_
            refine zz_ior (z := (((nI 0) ||| (nI 2)) ||| (nI 4)) ||| (nI 8)) hX dX5_faults_103 rfl ?_
            refine zz_istore (ls' := [(0, .ref 2), (1, .int (nI i)), (2, .int (nI f)), (3, .ref (1000 + 100 * i)), (4, .ref (1000 + 100 * i + 5)), (5, .int ((((nI 0) ||| (nI 2)) ||| (nI 4)) ||| (nI 8)))]) hX dX5_faults_104 (Nat.le_of_ble_eq_true rfl) rfl ?_
            refine zz_aload hX dX5_faults_106 4 rfl ?_
            refine zz_getR (y := (1000 + 100 * i + 8)) hX zf_F_X5_259 r1 rfl r4 dX5_faults_108 ?_
            refine zz_iload_n hX dX5_faults_111 2 rfl rfl ?_
            refine zz_iald (x := S 25 (48 * i + f)) hX r10 f rfl (by omega) (by omega) ((u10 f (by omega)).2.1) dX5_faults_112 ?_
            refine zz_aload_n hX dX5_faults_113 3 rfl rfl ?_
            refine zz_getR (y := (1000 + 100 * i + 2)) hX zf_F_X5_167 t1 rfl t4 dX5_faults_114 ?_
            refine zz_iload_n hX dX5_faults_117 2 rfl rfl ?_
            refine zz_vI (x := zp_place S i f) hX zf_M_X5_171 (As := [.int (nI f)]) (st := [.int (S 25 (48 * i + f))]) (K_placeAt S sh mi mr hW hR i hi f (by omega)) t9.1 rfl rfl rfl (by decide) (Nat.le_of_ble_eq_true rfl) (Nat.le_of_ble_eq_true rfl) (Nat.le_of_ble_eq_true rfl) dX5_faults_118 ?_
            refine zz_icmp_eq hX 131 dX5_faults_121 (by decide) (fun c121 => ?_) (fun c121 => ?_)
            · skip
              refine zz_iload hX dX5_faults_131 5 rfl ?_
              refine zz_iret hX hr rfl (Nat.le_of_ble_eq_true rfl) (Nat.le_of_ble_eq_true rfl) dX5_faults_133 ?_
              unfold zq_ok
              (try rw [z_i]); (try rw [z_f])
              exact ⟨⟨⟨zs_ix_nI hi (by omega), zs_ix_nI hf (by omega)⟩, trivial, trivial⟩, by first | (rw [show zp_faults S i f = _ from if_pos c121, show zp_f3 S i f = _ from if_pos ⟨c71, zs_nle c96⟩, show zp_f2 S i f = _ from if_neg c61, show zp_f1 S i f = _ from if_neg c45, show zp_f0 S i f = _ from if_pos c22]; done) | (rw [show zp_faults S i f = _ from if_pos c121, show zp_f3 S i f = _ from if_pos ⟨c71, zs_nle c96⟩, show zp_f2 S i f = _ from if_neg c61, show zp_f1 S i f = _ from if_neg c45, show zp_f0 S i f = _ from if_pos c22]; rfl), hR, zr_same.rfl'⟩
            · skip
              refine zz_iload hX dX5_faults_124 5 rfl ?_
              refine zz_bipush (v := nI 16) hX dX5_faults_126 rfl ?_
              refine zz_ior (z := ((((nI 0) ||| (nI 2)) ||| (nI 4)) ||| (nI 8)) ||| (nI 16)) hX dX5_faults_128 rfl ?_
              refine zz_istore (ls' := [(0, .ref 2), (1, .int (nI i)), (2, .int (nI f)), (3, .ref (1000 + 100 * i)), (4, .ref (1000 + 100 * i + 5)), (5, .int (((((nI 0) ||| (nI 2)) ||| (nI 4)) ||| (nI 8)) ||| (nI 16)))]) hX dX5_faults_129 (Nat.le_of_ble_eq_true rfl) rfl ?_
              refine zz_iload hX dX5_faults_131 5 rfl ?_
              refine zz_iret hX hr rfl (Nat.le_of_ble_eq_true rfl) (Nat.le_of_ble_eq_true rfl) dX5_faults_133 ?_
              unfold zq_ok
              (try rw [z_i]); (try rw [z_f])
              exact ⟨⟨⟨zs_ix_nI hi (by omega), zs_ix_nI hf (by omega)⟩, trivial, trivial⟩, by first | (rw [show zp_faults S i f = _ from if_neg c121, show zp_f3 S i f = _ from if_pos ⟨c71, zs_nle c96⟩, show zp_f2 S i f = _ from if_neg c61, show zp_f1 S i f = _ from if_neg c45, show zp_f0 S i f = _ from if_pos c22]; done) | (rw [show zp_faults S i f = _ from if_neg c121, show zp_f3 S i f = _ from if_pos ⟨c71, zs_nle c96⟩, show zp_f2 S i f = _ from if_neg c61, show zp_f1 S i f = _ from if_neg c45, show zp_f0 S i f = _ from if_pos c22]; rfl), hR, zr_same.rfl'⟩

set_option maxRecDepth 20000 in
theorem P_anew (S : zS) (sh : zm_Sh) (mi : zm_Mi) (mr : zm_Mr) (hW : zW S) (hR : zR S sh mi mr) (s fx : Int32) : zz_Con yX5_anew (.code yX5_anew cX5_anew 5 (some Jvm.ClassFile.FieldType.int)) 10 10 60 [.ref 2, .int s, .int fx] sh mi mr (zq_ok ((zs_ix s (zv_ns S)) ∧ (zs_ix fx (zv_fr S (zn s)))) (True) ((fx < nI (zv_sk S (zn s))) ∧ (zp_cut S s = -1)) (nI (zv_sk S (zn s) - zn fx)) (zm_u2 S 15 (zn s) (nI (zn fx))) sh mi mr) (zq_no ((zs_ix s (zv_ns S)) ∧ (zs_ix fx (zv_fr S (zn s)))) (True) ((fx < nI (zv_sk S (zn s))) ∧ (zp_cut S s = -1)) sh mi mr) := by
  refine zz_begin RX5 [(0, .ref 2), (1, .int s), (2, .int fx)] (by decide) rfl rfl (Nat.le_of_ble_eq_true rfl) rfl ?_
  intro Γ D E ad hX hr hN hT
  obtain ⟨hRm, hRp, hRv, hRs, hRf⟩ := id hR
  obtain ⟨m1, m2, m3, m4, m5, m6, m7, m8, m9, m10, m11, m12, m13, m14, m15, m16, m17, m18, m19, m20⟩ := hRm
  obtain ⟨hWp, hWv, hWs, hWk, hWr, hWf⟩ := id hW
  obtain ⟨p0, p1, p2, p3, p4, p5⟩ := hWp
  obtain ⟨v0, v1, v2, v3, v4⟩ := hWv
  obtain ⟨s0, s1, s2, s3⟩ := hWs
  obtain ⟨f0, f1, f2, f3⟩ := hWf
  refine zz_aload_n hX dX5_anew_0 0 rfl rfl ?_
  refine zz_iload_n hX dX5_anew_1 1 rfl rfl ?_
  refine zz_callV hX zf_M_X5_106 (As := [.int s]) (st := []) (K_shotAt S sh mi mr hW hR s) m1 rfl rfl rfl (by decide) (Nat.le_of_ble_eq_true rfl) (Nat.le_of_ble_eq_true rfl) (Nat.le_of_ble_eq_true rfl) dX5_anew_2 ?_ ?_
  rotate_left
  · rintro e9 s9 i9 m9 ⟨x2, rfl, rfl, rfl, rfl⟩ -; exact zz_out hX hT (Nat.le_of_ble_eq_true rfl) (Nat.le_of_ble_eq_true rfl) (by unfold zq_no; skip; exact ⟨Or.inl ⟨rfl, fun h => x2 (h.1)⟩, rfl, rfl, rfl⟩)
  rintro v9 s9 i9 m9 ⟨i, hi, rfl, rfl, e2, e3, e4⟩ -
  obtain rfl := e2.symm
  obtain rfl := e3.symm
  obtain rfl := e4.symm
  have z_i : zn (nI i) = i := nI_clamp (n := i) (by omega)
  obtain ⟨a1, a2, a3, a4, a5, a6, a7, a8⟩ := zR_sh hW hR hi
  obtain ⟨t1, t2, t3, t4, t5, t6, t7, t8, t9, t10⟩ := a3
  obtain ⟨r1, r2, r3, r4, r5, r6, r7, r8, r9, r10, r11, r12, r13, r14, r15⟩ := t10
  obtain ⟨u1, u2, u3, u4, u5, u6, u7, u8, u9, u10⟩ := hRs i hi
  obtain ⟨b1, b2, b3, b4, b5, b6, b7, b8, b9, b10, b11, b12, b13⟩ := s2 i hi
  refine zz_astore_n (ls' := [(0, .ref 2), (1, .int (nI i)), (2, .int fx), (3, .ref (1000 + 100 * i))]) hX dX5_anew_5 rfl (Nat.le_of_ble_eq_true rfl) rfl ?_
  refine zz_aload_n hX dX5_anew_6 3 rfl rfl ?_
  refine zz_iload_n hX dX5_anew_7 2 rfl rfl ?_
  refine zz_sC hX zf_M_X5_142 (As := [.ref (1000 + 100 * i), .int fx]) (st := []) (K_needFrame S sh mi mr hW hR i hi fx) rfl rfl (by decide) (Nat.le_of_ble_eq_true rfl) (Nat.le_of_ble_eq_true rfl) (Nat.le_of_ble_eq_true rfl) dX5_anew_8 (fun p8 => ?_) (fun x8 => zz_out hX hT (Nat.le_of_ble_eq_true rfl) (Nat.le_of_ble_eq_true rfl) (by unfold zq_no; (try rw [z_i]); exact ⟨Or.inl ⟨rfl, fun h => x8 (h.2)⟩, rfl, rfl, rfl⟩))
  obtain ⟨f, hf, rfl⟩ := zs_ix_of p8 (by omega)
  have z_f : zn (nI f) = f := nI_clamp (n := f) (by omega)
  refine zz_aload_n hX dX5_anew_11 3 rfl rfl ?_
  refine zz_iload_n hX dX5_anew_12 2 rfl rfl ?_
  refine zz_vI (x := zz_bi (nI f < nI (zv_sk S i))) hX zf_M_X5_208 (As := [.int (nI f)]) (st := []) (K_isStruck S sh mi mr hW hR i hi (nI f)) t1 rfl rfl rfl (by decide) (Nat.le_of_ble_eq_true rfl) (Nat.le_of_ble_eq_true rfl) (Nat.le_of_ble_eq_true rfl) dX5_anew_13 ?_
  refine zz_if_neB hX 29 dX5_anew_16 (by decide) (fun c16 => ?_) (fun c16 => ?_)
  · skip
    refine zz_aload_n hX dX5_anew_29 0 rfl rfl ?_
    refine zz_iload_n hX dX5_anew_30 1 rfl rfl ?_
    refine zz_vI (x := zp_cut S (nI i)) hX zf_M_X5_213 (As := [.int (nI i)]) (st := []) (K_cutIndex S sh mi mr hW hR (nI i)) m1 rfl rfl rfl (by decide) (Nat.le_of_ble_eq_true rfl) (Nat.le_of_ble_eq_true rfl) (Nat.le_of_ble_eq_true rfl) dX5_anew_31 ?_
    refine zz_iconst (v := (-1)) hX dX5_anew_34 rfl ?_
    refine zz_icmp_eq hX 48 dX5_anew_35 (by decide) (fun c35 => ?_) (fun c35 => ?_)
    · skip
      refine zz_aload_n hX dX5_anew_48 3 rfl rfl ?_
      refine zz_getR (y := (1000 + 100 * i + 5)) hX zf_F_X5_182 t1 rfl t5 dX5_anew_49 ?_
      refine zz_getI (x := nI (zv_sk S i)) hX zf_F_X5_186.r r1 rfl (a6) dX5_anew_52 ?_
      refine zz_iload_n hX dX5_anew_55 2 rfl rfl ?_
      refine zz_isub (z := nI ((zv_sk S i) - f)) hX dX5_anew_56 (pk_sub (by have := c16; rw [zs_lt, nI_toInt (by omega), nI_toInt (by omega)] at this; omega)) ?_
      refine zz_istore (ls' := [(0, .ref 2), (1, .int (nI i)), (2, .int (nI f)), (3, .ref (1000 + 100 * i)), (4, .int (nI ((zv_sk S i) - f)))]) hX dX5_anew_57 (Nat.le_of_ble_eq_true rfl) rfl ?_
      refine zz_aload_n hX dX5_anew_59 3 rfl rfl ?_
      refine zz_getR (y := (1000 + 100 * i + 5)) hX zf_F_X5_182 t1 rfl t5 dX5_anew_60 ?_
      refine zz_iload_n hX dX5_anew_63 2 rfl rfl ?_
      refine zz_putI hX zf_F_X5_186 r1 rfl rfl rfl dX5_anew_64 ?_
      refine zz_iload hX dX5_anew_67 4 rfl ?_
      refine zz_iret hX hr rfl (Nat.le_of_ble_eq_true rfl) (Nat.le_of_ble_eq_true rfl) dX5_anew_69 ?_
      unfold zq_ok
      (try rw [z_i]); (try rw [z_f])
      exact ⟨⟨⟨zs_ix_nI hi (by omega), zs_ix_nI hf (by omega)⟩, trivial, ⟨c16, c35⟩⟩, rfl, (zR_less hW hR hi (by have := c16; rw [zs_lt, nI_toInt (by omega), nI_toInt (by omega)] at this; omega)), (zr_fr zr_same.rfl' (by unfold zr_out; omega))⟩
    · skip
      refine zz_throw hX hT zf_T_X5_216 dX5_anew_38 dX5_anew_41 dX5_anew_42 dX5_anew_44 dX5_anew_47 (by decide) (Nat.le_of_ble_eq_true rfl) (Nat.le_of_ble_eq_true rfl) (Nat.le_of_ble_eq_true rfl) ?_
      unfold zq_no; (try rw [z_i]); (try rw [z_f]); exact ⟨Or.inr (Or.inr ⟨rfl, ⟨zs_ix_nI hi (by omega), zs_ix_nI hf (by omega)⟩, trivial, fun h => c35 h.2⟩), rfl, rfl, rfl⟩
  · skip
    refine zz_throw hX hT zf_T_X5_211 dX5_anew_19 dX5_anew_22 dX5_anew_23 dX5_anew_25 dX5_anew_28 (by decide) (Nat.le_of_ble_eq_true rfl) (Nat.le_of_ble_eq_true rfl) (Nat.le_of_ble_eq_true rfl) ?_
    unfold zq_no; (try rw [z_i]); (try rw [z_f]); exact ⟨Or.inr (Or.inr ⟨rfl, ⟨zs_ix_nI hi (by omega), zs_ix_nI hf (by omega)⟩, trivial, fun h => c16 h.1⟩), rfl, rfl, rfl⟩

