set_option maxRecDepth 20000 in
theorem P_film (S : zS) (sh : zm_Sh) (mi : zm_Mi) (mr : zm_Mr) (hW : zW S) (hR : zR S sh mi mr) (x : Int32) : zz_Con yX5_film (.code yX5_film cX5_film 5 (some Jvm.ClassFile.FieldType.int)) 10 10 60 [.ref 2, .int x] sh mi mr (zq_ok (((0 : Int32) ≤ x)) (True) (True) (zp_atfilm S x) S sh mi mr) (zq_no (((0 : Int32) ≤ x)) (True) (True) sh mi mr) := by
  refine zz_begin RX5 [(0, .ref 2), (1, .int x)] (by decide) rfl rfl (Nat.le_of_ble_eq_true rfl) rfl ?_
  intro Γ D E ad hX hr hN hT
  obtain ⟨hRm, hRp, hRv, hRs, hRf⟩ := id hR
  obtain ⟨m1, m2, m3, m4, m5, m6, m7, m8, m9, m10, m11, m12, m13, m14, m15, m16, m17, m18, m19, m20⟩ := hRm
  obtain ⟨hWp, hWv, hWs, hWk, hWr, hWf⟩ := id hW
  obtain ⟨p0, p1, p2, p3, p4, p5⟩ := hWp
  obtain ⟨v0, v1, v2, v3, v4⟩ := hWv
  obtain ⟨s0, s1, s2, s3⟩ := hWs
  obtain ⟨f0, f1, f2, f3⟩ := hWf
  refine zz_iload_n hX dX5_film_0 1 rfl rfl ?_
  refine zz_if_ge hX 15 dX5_film_1 (by decide) (fun c1 => ?_) (fun c1 => ?_)
  · skip
    refine zz_iconst (v := nI 0) hX dX5_film_15 rfl ?_
    refine zz_istore_n (ls' := [(0, .ref 2), (1, .int x), (2, .int (nI 0))]) hX dX5_film_16 rfl (Nat.le_of_ble_eq_true rfl) rfl ?_
    refine zz_iconst (v := nI 0) hX dX5_film_17 rfl ?_
    refine zz_istore_n (ls' := [(0, .ref 2), (1, .int x), (2, .int (nI 0)), (3, .int (nI 0))]) hX dX5_film_18 rfl (Nat.le_of_ble_eq_true rfl) rfl ?_
    refine zz_lcl (ls' := [(0, .ref 2), (1, .int x), (2, .int (zs_sum (fun q => S 11 (zv_fl S q)) 0)), (3, .int (nI 0))]) (rfl) ?_
    have L19 : ∀ (k19 : Nat) (k : Nat), zv_nf S - k < k19 → (k ≤ zv_nf S) → (zp_atfilm S x = zs_fst (fun k => x - zs_sum (fun q => S 11 (zv_fl S q)) k < S 11 (zv_fl S k)) (fun k => nI 100 * S 29 k + x - zs_sum (fun q => S 11 (zv_fl S q)) k) (zv_nf S - k) k) → zz Γ (D, E, 5, ad, sh) (zz_End Γ (D, E, 5, ad, sh) (zq_ok (((0 : Int32) ≤ x)) (True) (True) (zp_atfilm S x) S sh mi mr) (zq_no (((0 : Int32) ≤ x)) (True) (True) sh mi mr) 10 60) 0 0 sh mi mr 19 [(0, .ref 2), (1, .int x), (2, .int (zs_sum (fun q => S 11 (zv_fl S q)) k)), (3, .int (nI k))] [] := by
      intro k19
      induction k19 with
      | zero => intro k hk19; exact absurd hk19 (Nat.not_lt_zero _)
      | succ k19 ih19 =>
        intro k hk19 hk9 hall
        refine zz_iload_n hX dX5_film_19 3 rfl rfl ?_
        refine zz_aload_n hX dX5_film_20 0 rfl rfl ?_
        refine zz_getI (x := nI (zv_nf S)) hX zf_F_X5_50.r m1 rfl ((m16.trans f0)) dX5_film_21 ?_
        refine zz_icmp_geN hX (by omega) (by omega) 76 dX5_film_24 (by decide) (fun c24 => ?_) (fun c24 => ?_)
        · skip
          refine zz_iconst (v := (-1)) hX dX5_film_76 rfl ?_
          refine zz_iret hX hr rfl (Nat.le_of_ble_eq_true rfl) (Nat.le_of_ble_eq_true rfl) dX5_film_77 ?_
          unfold zq_ok
          skip
          exact ⟨⟨c1, trivial, trivial⟩, by rw [hall, zs_fst_end (by omega)], hR, zr_same.rfl'⟩
        · skip
          refine zz_aload_n hX dX5_film_27 0 rfl rfl ?_
          refine zz_getR (y := 5) hX zf_F_X5_35.r m1 rfl m5 dX5_film_28 ?_
          refine zz_aload_n hX dX5_film_31 0 rfl rfl ?_
          refine zz_getR (y := 7) hX zf_F_X5_46.r m1 rfl m7 dX5_film_32 ?_
          refine zz_iload_n hX dX5_film_35 3 rfl rfl ?_
          refine zz_iald (x := S 29 k) hX m12 k rfl (by omega) (by decide) ((m20 k (by omega))) dX5_film_36 ?_
          refine zz_aald (y := (1000 + 100 * zv_fl S k)) hX m10 (by decide) (by decide) (zv_fl S k) (f2 k c24).1 (by have := (f2 k c24).2; omega) (by decide) (hRs _ (f2 k c24).2).1 dX5_film_37 ?_
          refine zz_getI (x := S 11 (zv_fl S k)) hX zf_F_X5_235 (hRs _ (f2 k c24).2).2.1.1 rfl ((hRs _ (f2 k c24).2).2.2.1) dX5_film_38 ?_
          refine zz_istore (ls' := [(0, .ref 2), (1, .int x), (2, .int (zs_sum (fun q => S 11 (zv_fl S q)) k)), (3, .int (nI k)), (4, .int (S 11 (zv_fl S k)))]) hX dX5_film_41 (Nat.le_of_ble_eq_true rfl) rfl ?_
          refine zz_iload_n hX dX5_film_43 1 rfl rfl ?_
          refine zz_iload_n hX dX5_film_44 2 rfl rfl ?_
          refine zz_isub (z := x - (zs_sum (fun q => S 11 (zv_fl S q)) k)) hX dX5_film_45 rfl ?_
          refine zz_iload hX dX5_film_46 4 rfl ?_
          refine zz_icmp_ge hX 65 dX5_film_48 (by decide) (fun c48 => ?_) (fun c48 => ?_)
          · skip
            refine zz_iload_n hX dX5_film_65 2 rfl rfl ?_
            refine zz_iload hX dX5_film_66 4 rfl ?_
            refine zz_iadd (z := (zs_sum (fun q => S 11 (zv_fl S q)) k) + (S 11 (zv_fl S k))) hX dX5_film_68 rfl ?_
            refine zz_istore_n (ls' := [(0, .ref 2), (1, .int x), (2, .int ((zs_sum (fun q => S 11 (zv_fl S q)) k) + (S 11 (zv_fl S k)))), (3, .int (nI k)), (4, .int (S 11 (zv_fl S k)))]) hX dX5_film_69 rfl (Nat.le_of_ble_eq_true rfl) rfl ?_
            refine zz_iinc (v := nI (k + 1)) (ls' := [(0, .ref 2), (1, .int x), (2, .int ((zs_sum (fun q => S 11 (zv_fl S q)) k) + (S 11 (zv_fl S k)))), (3, .int (nI (k + 1))), (4, .int (S 11 (zv_fl S k)))]) hX dX5_film_70 3 rfl (nI_1 _) (Nat.le_of_ble_eq_true rfl) rfl ?_
            refine zz_goto hX 19 dX5_film_73 (by decide) ?_
            refine zz_pick (ls' := [(0, .ref 2), (1, .int x), (2, .int ((zs_sum (fun q => S 11 (zv_fl S q)) k) + (S 11 (zv_fl S k)))), (3, .int (nI (k + 1)))]) [0, 1, 2, 3] rfl ?_
            refine zz_lcl (ls' := [(0, .ref 2), (1, .int x), (2, .int (zs_sum (fun q => S 11 (zv_fl S q)) (k + 1))), (3, .int (nI (k + 1)))]) rfl ?_
            exact ih19 (k + 1) (by omega) (by omega) (hall.trans (zs_fst_step c24 (fun h => by rw [zs_lt] at h; rw [zs_le] at c48; omega)))
          · skip
            refine zz_bipush (v := nI 100) hX dX5_film_51 rfl ?_
            refine zz_aload_n hX dX5_film_53 0 rfl rfl ?_
            refine zz_getR (y := 7) hX zf_F_X5_46.r m1 rfl m7 dX5_film_54 ?_
            refine zz_iload_n hX dX5_film_57 3 rfl rfl ?_
            refine zz_iald (x := S 29 k) hX m12 k rfl (by omega) (by decide) ((m20 k (by omega))) dX5_film_58 ?_
            refine zz_imul (z := (nI 100) * (S 29 k)) hX dX5_film_59 rfl ?_
            refine zz_iload_n hX dX5_film_60 1 rfl rfl ?_
            refine zz_iadd (z := ((nI 100) * (S 29 k)) + x) hX dX5_film_61 rfl ?_
            refine zz_iload_n hX dX5_film_62 2 rfl rfl ?_
            refine zz_isub (z := (((nI 100) * (S 29 k)) + x) - (zs_sum (fun q => S 11 (zv_fl S q)) k)) hX dX5_film_63 rfl ?_
            refine zz_iret hX hr rfl (Nat.le_of_ble_eq_true rfl) (Nat.le_of_ble_eq_true rfl) dX5_film_64 ?_
            unfold zq_ok
            skip
            exact ⟨⟨c1, trivial, trivial⟩, by rw [hall, zs_fst_hit (g := fun k => x - zs_sum (fun q => S 11 (zv_fl S q)) k < S 11 (zv_fl S k)) c24 (zs_nle c48)], hR, zr_same.rfl'⟩
    exact L19 ((zv_nf S - 0 + 1)) 0 (by omega) (Nat.zero_le _) rfl
  · skip
    refine zz_throwW hX hT zf_T_X5_273 dX5_film_4 dX5_film_7 dX5_film_8 dX5_film_11 dX5_film_14 (by decide) (Nat.le_of_ble_eq_true rfl) (Nat.le_of_ble_eq_true rfl) (Nat.le_of_ble_eq_true rfl) ?_
    unfold zq_no; skip; exact ⟨Or.inl ⟨rfl, fun h => c1 h⟩, rfl, rfl, rfl⟩

set_option maxRecDepth 20000 in
theorem P_wants (S : zS) (sh : zm_Sh) (mi : zm_Mi) (mr : zm_Mr) (hW : zW S) (hR : zR S sh mi mr) (s x : Int32) : zz_Con yX5_wants (.code yX5_wants cX5_wants 8 (some Jvm.ClassFile.FieldType.int)) 10 10 60 [.ref 2, .int s, .int x] sh mi mr (zq_ok ((zs_ix s (zv_ns S))) ((nI 0 ≤ x ∧ x ≤ nI 9)) (True) (zp_wants S (zn s) x (zv_fr S (zn s))) S sh mi mr) (zq_no ((zs_ix s (zv_ns S))) ((nI 0 ≤ x ∧ x ≤ nI 9)) (True) sh mi mr) := by
  refine zz_begin RX5 [(0, .ref 2), (1, .int s), (2, .int x)] (by decide) rfl rfl (Nat.le_of_ble_eq_true rfl) rfl ?_
  intro Γ D E ad hX hr hN hT
  obtain ⟨hRm, hRp, hRv, hRs, hRf⟩ := id hR
  obtain ⟨m1, m2, m3, m4, m5, m6, m7, m8, m9, m10, m11, m12, m13, m14, m15, m16, m17, m18, m19, m20⟩ := hRm
  obtain ⟨hWp, hWv, hWs, hWk, hWr, hWf⟩ := id hW
  obtain ⟨p0, p1, p2, p3, p4, p5⟩ := hWp
  obtain ⟨v0, v1, v2, v3, v4⟩ := hWv
  obtain ⟨s0, s1, s2, s3⟩ := hWs
  obtain ⟨f0, f1, f2, f3⟩ := hWf
  refine zz_aload_n hX dX5_wants_0 0 rfl rfl ?_
  refine zz_iload_n hX dX5_wants_1 1 rfl rfl ?_
  refine zz_callV hX zf_M_X5_106 (As := [.int s]) (st := []) (K_shotAt S sh mi mr hW hR s) m1 rfl rfl rfl (by decide) (Nat.le_of_ble_eq_true rfl) (Nat.le_of_ble_eq_true rfl) (Nat.le_of_ble_eq_true rfl) dX5_wants_2 ?_ ?_
  rotate_left
  · rintro e9 s9 i9 m9 ⟨x2, rfl, rfl, rfl, rfl⟩ -; exact zz_out hX hT (Nat.le_of_ble_eq_true rfl) (Nat.le_of_ble_eq_true rfl) (by unfold zq_no; skip; exact ⟨Or.inl ⟨rfl, fun h => x2 (h)⟩, rfl, rfl, rfl⟩)
  rintro v9 s9 i9 m9 ⟨i, hi, rfl, rfl, e2, e3, e4⟩ -
  obtain rfl := e2.symm
  obtain rfl := e3.symm
  obtain rfl := e4.symm
  have z_i : zn (nI i) = i := nI_clamp (n := i) (by omega)
  obtain ⟨a1, a2, a3, a4, a5, a6, a7, a8⟩ := zR_sh hW hR hi
  obtain ⟨t1, t2, t3, t4, t5, t6, t7, t8, t9, t10⟩ := a3
  obtain ⟨r1, r2, r3, r4, r5, r6, r7, r8, r9, r10, r11, r12, r13, r14, r15⟩ := t10
  obtain ⟨u1, u2, u3, u4, u5, u6, u7, u8, u9, u10⟩ := hRs i hi
  obtain ⟨b1, b2, b3, b4, b5, b6, b7, b8, b9, b10, b11, b12, b13⟩ := s2 i hi
  refine zz_astore_n (ls' := [(0, .ref 2), (1, .int (nI i)), (2, .int x), (3, .ref (1000 + 100 * i))]) hX dX5_wants_5 rfl (Nat.le_of_ble_eq_true rfl) rfl ?_
  refine zz_iload_n hX dX5_wants_6 2 rfl rfl ?_
  refine zz_sC hX zf_M_X5_77 (As := [.int x]) (st := []) (k_needSound x sh mi mr) rfl rfl (by decide) (Nat.le_of_ble_eq_true rfl) (Nat.le_of_ble_eq_true rfl) (Nat.le_of_ble_eq_true rfl) dX5_wants_7 (fun p7 => ?_) (fun x7 => zz_out hX hT (Nat.le_of_ble_eq_true rfl) (Nat.le_of_ble_eq_true rfl) (by unfold zq_no; (try rw [z_i]); exact ⟨Or.inr (Or.inl ⟨rfl, zs_ix_nI hi (by omega), fun h => x7 (h)⟩), rfl, rfl, rfl⟩))
  refine zz_iconst (v := nI 0) hX dX5_wants_10 rfl ?_
  refine zz_istore (ls' := [(0, .ref 2), (1, .int (nI i)), (2, .int x), (3, .ref (1000 + 100 * i)), (4, .int (nI 0))]) hX dX5_wants_11 (Nat.le_of_ble_eq_true rfl) rfl ?_
  refine zz_iconst (v := (-1)) hX dX5_wants_13 rfl ?_
  refine zz_istore (ls' := [(0, .ref 2), (1, .int (nI i)), (2, .int x), (3, .ref (1000 + 100 * i)), (4, .int (nI 0)), (5, .int (-1))]) hX dX5_wants_14 (Nat.le_of_ble_eq_true rfl) rfl ?_
  refine zz_iconst (v := nI 0) hX dX5_wants_16 rfl ?_
  refine zz_istore (ls' := [(0, .ref 2), (1, .int (nI i)), (2, .int x), (3, .ref (1000 + 100 * i)), (4, .int (nI 0)), (5, .int (-1)), (6, .int (nI 0))]) hX dX5_wants_17 (Nat.le_of_ble_eq_true rfl) rfl ?_
  refine zz_lcl (ls' := [(0, .ref 2), (1, .int (nI i)), (2, .int x), (3, .ref (1000 + 100 * i)), (4, .int (zp_wants S i x 0)), (5, .int (zp_bef S i 0)), (6, .int (nI 0))]) (rfl) ?_
  have L19 : ∀ (k19 : Nat) (k : Nat), zv_fr S i - k < k19 → (k ≤ zv_fr S i) → zz Γ (D, E, 8, ad, sh) (zz_End Γ (D, E, 8, ad, sh) (zq_ok ((zs_ix (nI i) (zv_ns S))) ((nI 0 ≤ x ∧ x ≤ nI 9)) (True) (zp_wants S (zn (nI i)) x (zv_fr S (zn (nI i)))) S sh mi mr) (zq_no ((zs_ix (nI i) (zv_ns S))) ((nI 0 ≤ x ∧ x ≤ nI 9)) (True) sh mi mr) 10 60) 2 12 sh mi mr 19 [(0, .ref 2), (1, .int (nI i)), (2, .int x), (3, .ref (1000 + 100 * i)), (4, .int (zp_wants S i x k)), (5, .int (zp_bef S i k)), (6, .int (nI k))] [] := by
    intro k19
    induction k19 with
    | zero => intro k hk19; exact absurd hk19 (Nat.not_lt_zero _)
    | succ k19 ih19 =>
      intro k hk19 hk9
      refine zz_iload hX dX5_wants_19 6 rfl ?_
      refine zz_aload_n hX dX5_wants_21 3 rfl rfl ?_
      refine zz_getI (x := nI (zv_fr S i)) hX zf_F_X5_235 t1 rfl (a4) dX5_wants_22 ?_
      refine zz_icmp_geN hX (by omega) (by omega) 63 dX5_wants_25 (by decide) (fun c25 => ?_) (fun c25 => ?_)
      · skip
        refine zz_iload hX dX5_wants_63 4 rfl ?_
        refine zz_iret hX hr rfl (Nat.le_of_ble_eq_true rfl) (Nat.le_of_ble_eq_true rfl) dX5_wants_65 ?_
        unfold zq_ok
        (try rw [z_i])
        exact ⟨⟨zs_ix_nI hi (by omega), p7, trivial⟩, by rw [show k = zv_fr S i by omega], hR, zr_same.rfl'⟩
      · skip
        refine zz_aload_n hX dX5_wants_28 0 rfl rfl ?_
        refine zz_aload_n hX dX5_wants_29 3 rfl rfl ?_
        refine zz_iload hX dX5_wants_30 6 rfl ?_
        refine zz_vI (x := zp_mouth S i k) hX zf_M_X5_231 (As := [.ref (1000 + 100 * i), .int (nI k)]) (st := []) (K_sheetMouth S sh mi mr hW hR i hi k (by omega)) m1 rfl rfl rfl (by decide) (Nat.le_of_ble_eq_true rfl) (Nat.le_of_ble_eq_true rfl) (Nat.le_of_ble_eq_true rfl) dX5_wants_32 ?_
        refine zz_istore (ls' := [(0, .ref 2), (1, .int (nI i)), (2, .int x), (3, .ref (1000 + 100 * i)), (4, .int (zp_wants S i x k)), (5, .int (zp_bef S i k)), (6, .int (nI k)), (7, .int (zp_mouth S i k))]) hX dX5_wants_35 (Nat.le_of_ble_eq_true rfl) rfl ?_
        refine zz_iload hX dX5_wants_37 7 rfl ?_
        refine zz_iload_n hX dX5_wants_39 2 rfl rfl ?_
        refine zz_icmp_ne hX 53 dX5_wants_40 (by decide) (fun c40 => ?_) (fun c40 => ?_)
        · skip
          refine zz_iload hX dX5_wants_53 7 rfl ?_
          refine zz_istore (ls' := [(0, .ref 2), (1, .int (nI i)), (2, .int x), (3, .ref (1000 + 100 * i)), (4, .int (zp_wants S i x k)), (5, .int (zp_mouth S i k)), (6, .int (nI k)), (7, .int (zp_mouth S i k))]) hX dX5_wants_55 (Nat.le_of_ble_eq_true rfl) rfl ?_
          refine zz_iinc (v := nI (k + 1)) (ls' := [(0, .ref 2), (1, .int (nI i)), (2, .int x), (3, .ref (1000 + 100 * i)), (4, .int (zp_wants S i x k)), (5, .int (zp_mouth S i k)), (6, .int (nI (k + 1))), (7, .int (zp_mouth S i k))]) hX dX5_wants_57 6 rfl (nI_1 _) (Nat.le_of_ble_eq_true rfl) rfl ?_
          refine zz_goto hX 19 dX5_wants_60 (by decide) ?_
          refine zz_pick (ls' := [(0, .ref 2), (1, .int (nI i)), (2, .int x), (3, .ref (1000 + 100 * i)), (4, .int (zp_wants S i x k)), (5, .int (zp_mouth S i k)), (6, .int (nI (k + 1)))]) [0, 1, 2, 3, 4, 5, 6] rfl ?_
          refine zz_lcl (ls' := [(0, .ref 2), (1, .int (nI i)), (2, .int x), (3, .ref (1000 + 100 * i)), (4, .int (zp_wants S i x (k + 1))), (5, .int (zp_bef S i (k + 1))), (6, .int (nI (k + 1)))]) (by rw [show zp_wants S i x (k + 1) = _ from if_neg (fun h => c40 h.1), show zp_bef S i (k + 1) = zp_mouth S i k from if_neg (by omega)]) ?_
          exact ih19 (k + 1) (by omega) (by omega)
        · skip
          refine zz_iload hX dX5_wants_43 7 rfl ?_
          refine zz_iload hX dX5_wants_45 5 rfl ?_
          refine zz_icmp_eq hX 53 dX5_wants_47 (by decide) (fun c47 => ?_) (fun c47 => ?_)
          · skip
            refine zz_iload hX dX5_wants_53 7 rfl ?_
            refine zz_istore (ls' := [(0, .ref 2), (1, .int (nI i)), (2, .int x), (3, .ref (1000 + 100 * i)), (4, .int (zp_wants S i x k)), (5, .int (zp_mouth S i k)), (6, .int (nI k)), (7, .int (zp_mouth S i k))]) hX dX5_wants_55 (Nat.le_of_ble_eq_true rfl) rfl ?_
            refine zz_iinc (v := nI (k + 1)) (ls' := [(0, .ref 2), (1, .int (nI i)), (2, .int x), (3, .ref (1000 + 100 * i)), (4, .int (zp_wants S i x k)), (5, .int (zp_mouth S i k)), (6, .int (nI (k + 1))), (7, .int (zp_mouth S i k))]) hX dX5_wants_57 6 rfl (nI_1 _) (Nat.le_of_ble_eq_true rfl) rfl ?_
            refine zz_goto hX 19 dX5_wants_60 (by decide) ?_
            refine zz_pick (ls' := [(0, .ref 2), (1, .int (nI i)), (2, .int x), (3, .ref (1000 + 100 * i)), (4, .int (zp_wants S i x k)), (5, .int (zp_mouth S i k)), (6, .int (nI (k + 1)))]) [0, 1, 2, 3, 4, 5, 6] rfl ?_
            refine zz_lcl (ls' := [(0, .ref 2), (1, .int (nI i)), (2, .int x), (3, .ref (1000 + 100 * i)), (4, .int (zp_wants S i x (k + 1))), (5, .int (zp_bef S i (k + 1))), (6, .int (nI (k + 1)))]) (by rw [show zp_wants S i x (k + 1) = _ from if_neg (fun h => h.2 c47), show zp_bef S i (k + 1) = zp_mouth S i k from if_neg (by omega)]) ?_
            exact ih19 (k + 1) (by omega) (by omega)
          · skip
            refine zz_iinc (v := zp_wants S i x k + 1) (ls' := [(0, .ref 2), (1, .int (nI i)), (2, .int x), (3, .ref (1000 + 100 * i)), (4, .int (zp_wants S i x k + 1)), (5, .int (zp_bef S i k)), (6, .int (nI k)), (7, .int (zp_mouth S i k))]) hX dX5_wants_50 4 rfl rfl (Nat.le_of_ble_eq_true rfl) rfl ?_
            refine zz_iload hX dX5_wants_53 7 rfl ?_
            refine zz_istore (ls' := [(0, .ref 2), (1, .int (nI i)), (2, .int x), (3, .ref (1000 + 100 * i)), (4, .int (zp_wants S i x k + 1)), (5, .int (zp_mouth S i k)), (6, .int (nI k)), (7, .int (zp_mouth S i k))]) hX dX5_wants_55 (Nat.le_of_ble_eq_true rfl) rfl ?_
            refine zz_iinc (v := nI (k + 1)) (ls' := [(0, .ref 2), (1, .int (nI i)), (2, .int x), (3, .ref (1000 + 100 * i)), (4, .int (zp_wants S i x k + 1)), (5, .int (zp_mouth S i k)), (6, .int (nI (k + 1))), (7, .int (zp_mouth S i k))]) hX dX5_wants_57 6 rfl (nI_1 _) (Nat.le_of_ble_eq_true rfl) rfl ?_
            refine zz_goto hX 19 dX5_wants_60 (by decide) ?_
            refine zz_pick (ls' := [(0, .ref 2), (1, .int (nI i)), (2, .int x), (3, .ref (1000 + 100 * i)), (4, .int (zp_wants S i x k + 1)), (5, .int (zp_mouth S i k)), (6, .int (nI (k + 1)))]) [0, 1, 2, 3, 4, 5, 6] rfl ?_
            refine zz_lcl (ls' := [(0, .ref 2), (1, .int (nI i)), (2, .int x), (3, .ref (1000 + 100 * i)), (4, .int (zp_wants S i x (k + 1))), (5, .int (zp_bef S i (k + 1))), (6, .int (nI (k + 1)))]) (by rw [show zp_wants S i x (k + 1) = _ from if_pos ⟨c40, c47⟩, show zp_bef S i (k + 1) = zp_mouth S i k from if_neg (by omega)]) ?_
            exact ih19 (k + 1) (by omega) (by omega)
  exact L19 ((zv_fr S i - 0 + 1)) 0 (by omega) (Nat.zero_le _)

set_option maxRecDepth 20000 in
theorem P_wears (S : zS) (sh : zm_Sh) (mi : zm_Mi) (mr : zm_Mr) (hW : zW S) (hR : zR S sh mi mr) (s jx : Int32) : zz_Con yX5_wears (.code yX5_wears cX5_wears 8 (some Jvm.ClassFile.FieldType.int)) 10 10 60 [.ref 2, .int s, .int jx] sh mi mr (zq_ok ((zs_ix s (zv_ns S)) ∧ (zs_ix jx (zv_jn S (zv_pu S (zn s))))) (True) (True) ((zp_wr S (zn s) (zn jx) (zv_fr S (zn s) - zv_sk S (zn s))).2) S sh mi mr) (zq_no ((zs_ix s (zv_ns S)) ∧ (zs_ix jx (zv_jn S (zv_pu S (zn s))))) (True) (True) sh mi mr) := by
  refine zz_begin RX5 [(0, .ref 2), (1, .int s), (2, .int jx)] (by decide) rfl rfl (Nat.le_of_ble_eq_true rfl) rfl ?_
  intro Γ D E ad hX hr hN hT
  obtain ⟨hRm, hRp, hRv, hRs, hRf⟩ := id hR
  obtain ⟨m1, m2, m3, m4, m5, m6, m7, m8, m9, m10, m11, m12, m13, m14, m15, m16, m17, m18, m19, m20⟩ := hRm
  obtain ⟨hWp, hWv, hWs, hWk, hWr, hWf⟩ := id hW
  obtain ⟨p0, p1, p2, p3, p4, p5⟩ := hWp
  obtain ⟨v0, v1, v2, v3, v4⟩ := hWv
  obtain ⟨s0, s1, s2, s3⟩ := hWs
  obtain ⟨f0, f1, f2, f3⟩ := hWf
  refine zz_aload_n hX dX5_wears_0 0 rfl rfl ?_
  refine zz_iload_n hX dX5_wears_1 1 rfl rfl ?_
  refine zz_callV hX zf_M_X5_106 (As := [.int s]) (st := []) (K_shotAt S sh mi mr hW hR s) m1 rfl rfl rfl (by decide) (Nat.le_of_ble_eq_true rfl) (Nat.le_of_ble_eq_true rfl) (Nat.le_of_ble_eq_true rfl) dX5_wears_2 ?_ ?_
  rotate_left
  · rintro e9 s9 i9 m9 ⟨x2, rfl, rfl, rfl, rfl⟩ -; exact zz_out hX hT (Nat.le_of_ble_eq_true rfl) (Nat.le_of_ble_eq_true rfl) (by unfold zq_no; skip; exact ⟨Or.inl ⟨rfl, fun h => x2 (h.1)⟩, rfl, rfl, rfl⟩)
  rintro v9 s9 i9 m9 ⟨i, hi, rfl, rfl, e2, e3, e4⟩ -
  obtain rfl := e2.symm
  obtain rfl := e3.symm
  obtain rfl := e4.symm
  have z_i : zn (nI i) = i := nI_clamp (n := i) (by omega)
  obtain ⟨a1, a2, a3, a4, a5, a6, a7, a8⟩ := zR_sh hW hR hi
  obtain ⟨t1, t2, t3, t4, t5, t6, t7, t8, t9, t10⟩ := a3
  obtain ⟨r1, r2, r3, r4, r5, r6, r7, r8, r9, r10, r11, r12, r13, r14, r15⟩ := t10
  obtain ⟨u1, u2, u3, u4, u5, u6, u7, u8, u9, u10⟩ := hRs i hi
  obtain ⟨b1, b2, b3, b4, b5, b6, b7, b8, b9, b10, b11, b12, b13⟩ := s2 i hi
  refine zz_astore_n (ls' := [(0, .ref 2), (1, .int (nI i)), (2, .int jx), (3, .ref (1000 + 100 * i))]) hX dX5_wears_5 rfl (Nat.le_of_ble_eq_true rfl) rfl ?_
  refine zz_aload_n hX dX5_wears_6 3 rfl rfl ?_
  refine zz_getR (y := (200 + 4 * zv_pu S i)) hX zf_F_X5_134 t1 rfl t2 dX5_wears_7 ?_
  refine zz_iload_n hX dX5_wears_10 2 rfl rfl ?_
  refine zz_sC hX zf_M_X5_138 (As := [.ref (200 + 4 * zv_pu S i), .int jx]) (st := []) (K_needJoint S sh mi mr hW hR (zv_pu S i) b2 jx) rfl rfl (by decide) (Nat.le_of_ble_eq_true rfl) (Nat.le_of_ble_eq_true rfl) (Nat.le_of_ble_eq_true rfl) dX5_wears_11 (fun p11 => ?_) (fun x11 => zz_out hX hT (Nat.le_of_ble_eq_true rfl) (Nat.le_of_ble_eq_true rfl) (by unfold zq_no; (try rw [z_i]); exact ⟨Or.inl ⟨rfl, fun h => x11 (h.2)⟩, rfl, rfl, rfl⟩))
  obtain ⟨j, hj, rfl⟩ := zs_ix_of p11 (by omega)
  have z_j : zn (nI j) = j := nI_clamp (n := j) (by omega)
  refine zz_aload_n hX dX5_wears_14 3 rfl rfl ?_
  refine zz_getR (y := (200 + 4 * zv_pu S i)) hX zf_F_X5_134 t1 rfl t2 dX5_wears_15 ?_
  refine zz_getR (y := (200 + 4 * zv_pu S i + 1)) hX zf_F_X5_238 (hRp (zv_pu S i) b2).2.1.1 rfl (hRp (zv_pu S i) b2).2.1.2.1 dX5_wears_18 ?_
  refine zz_iload_n hX dX5_wears_21 2 rfl rfl ?_
  refine zz_iald (x := S 2 (6 * zv_pu S i + j)) hX (hRp (zv_pu S i) b2).2.1.2.2.2.2.1 j rfl (by omega) (by omega) (((hRp (zv_pu S i) b2).2.2.2.1 j (by omega))) dX5_wears_22 ?_
  refine zz_istore (ls' := [(0, .ref 2), (1, .int (nI i)), (2, .int (nI j)), (3, .ref (1000 + 100 * i)), (4, .int (S 2 (6 * zv_pu S i + j)))]) hX dX5_wears_23 (Nat.le_of_ble_eq_true rfl) rfl ?_
  refine zz_iconst (v := nI 0) hX dX5_wears_25 rfl ?_
  refine zz_istore (ls' := [(0, .ref 2), (1, .int (nI i)), (2, .int (nI j)), (3, .ref (1000 + 100 * i)), (4, .int (S 2 (6 * zv_pu S i + j))), (5, .int (nI 0))]) hX dX5_wears_26 (Nat.le_of_ble_eq_true rfl) rfl ?_
  refine zz_aload_n hX dX5_wears_28 3 rfl rfl ?_
  refine zz_getR (y := (1000 + 100 * i + 5)) hX zf_F_X5_182 t1 rfl t5 dX5_wears_29 ?_
  refine zz_getI (x := nI (zv_sk S i)) hX zf_F_X5_186.r r1 rfl (a6) dX5_wears_32 ?_
  refine zz_istore (ls' := [(0, .ref 2), (1, .int (nI i)), (2, .int (nI j)), (3, .ref (1000 + 100 * i)), (4, .int (S 2 (6 * zv_pu S i + j))), (5, .int (nI 0)), (6, .int (nI (zv_sk S i)))]) hX dX5_wears_35 (Nat.le_of_ble_eq_true rfl) rfl ?_
  refine zz_lcl (ls' := [(0, .ref 2), (1, .int (nI i)), (2, .int (nI j)), (3, .ref (1000 + 100 * i)), (4, .int ((zp_wr S i j 0).1)), (5, .int ((zp_wr S i j 0).2)), (6, .int (nI (zv_sk S i + 0)))]) (rfl) ?_
  have L37 : ∀ (k37 : Nat) (m : Nat), zv_fr S i - zv_sk S i - m < k37 → (zv_sk S i + m ≤ zv_fr S i) → zz Γ (D, E, 8, ad, sh) (zz_End Γ (D, E, 8, ad, sh) (zq_ok ((zs_ix (nI i) (zv_ns S)) ∧ (zs_ix (nI j) (zv_jn S (zv_pu S (zn (nI i)))))) (True) (True) ((zp_wr S (zn (nI i)) (zn (nI j)) (zv_fr S (zn (nI i)) - zv_sk S (zn (nI i)))).2) S sh mi mr) (zq_no ((zs_ix (nI i) (zv_ns S)) ∧ (zs_ix (nI j) (zv_jn S (zv_pu S (zn (nI i)))))) (True) (True) sh mi mr) 10 60) 2 12 sh mi mr 37 [(0, .ref 2), (1, .int (nI i)), (2, .int (nI j)), (3, .ref (1000 + 100 * i)), (4, .int ((zp_wr S i j m).1)), (5, .int ((zp_wr S i j m).2)), (6, .int (nI (zv_sk S i + m)))] [] := by
    intro k37
    induction k37 with
    | zero => intro m hk37; exact absurd hk37 (Nat.not_lt_zero _)
    | succ k37 ih37 =>
      intro m hk37 hk9
      refine zz_iload hX dX5_wears_37 6 rfl ?_
      refine zz_aload_n hX dX5_wears_39 3 rfl rfl ?_
      refine zz_getI (x := nI (zv_fr S i)) hX zf_F_X5_235 t1 rfl (a4) dX5_wears_40 ?_
      refine zz_icmp_geN hX (by omega) (by omega) 89 dX5_wears_43 (by decide) (fun c43 => ?_) (fun c43 => ?_)
      · skip
        refine zz_iload hX dX5_wears_89 5 rfl ?_
        refine zz_iret hX hr rfl (Nat.le_of_ble_eq_true rfl) (Nat.le_of_ble_eq_true rfl) dX5_wears_91 ?_
        unfold zq_ok
        (try rw [z_i]); (try rw [z_j])
        exact ⟨⟨⟨zs_ix_nI hi (by omega), zs_ix_nI hj (by omega)⟩, trivial, trivial⟩, by rw [show m = zv_fr S i - zv_sk S i by omega], hR, zr_same.rfl'⟩
      · skip
        refine zz_aload_n hX dX5_wears_46 3 rfl rfl ?_
        refine zz_iload hX dX5_wears_47 6 rfl ?_
        refine zz_vI (x := zz_bi (zp_held S i (zv_sk S i + m))) hX zf_M_X5_149 (As := [.int (nI (zv_sk S i + m))]) (st := []) (K_isHeld S sh mi mr hW hR i hi (zv_sk S i + m) (by omega)) t1 rfl rfl rfl (by decide) (Nat.le_of_ble_eq_true rfl) (Nat.le_of_ble_eq_true rfl) (Nat.le_of_ble_eq_true rfl) dX5_wears_49 ?_
        refine zz_if_neB hX 83 dX5_wears_52 (by decide) (fun c52 => ?_) (fun c52 => ?_)
        · skip
          refine zz_iinc (v := nI ((zv_sk S i + m) + 1)) (ls' := [(0, .ref 2), (1, .int (nI i)), (2, .int (nI j)), (3, .ref (1000 + 100 * i)), (4, .int ((zp_wr S i j m).1)), (5, .int ((zp_wr S i j m).2)), (6, .int (nI ((zv_sk S i + m) + 1)))]) hX dX5_wears_83 6 rfl (nI_1 _) (Nat.le_of_ble_eq_true rfl) rfl ?_
          refine zz_goto hX 37 dX5_wears_86 (by decide) ?_
          refine zz_pick (ls' := [(0, .ref 2), (1, .int (nI i)), (2, .int (nI j)), (3, .ref (1000 + 100 * i)), (4, .int ((zp_wr S i j m).1)), (5, .int ((zp_wr S i j m).2)), (6, .int (nI ((zv_sk S i + m) + 1)))]) [0, 1, 2, 3, 4, 5, 6] rfl ?_
          refine zz_lcl (ls' := [(0, .ref 2), (1, .int (nI i)), (2, .int (nI j)), (3, .ref (1000 + 100 * i)), (4, .int ((zp_wr S i j (m + 1)).1)), (5, .int ((zp_wr S i j (m + 1)).2)), (6, .int (nI (zv_sk S i + (m + 1))))]) (by have e : zp_wr S i j (m + 1) = _ := if_pos c52; first | (rw [e]; done) | (rw [e]; rfl)) ?_
          exact ih37 (m + 1) (by omega) (by omega)
        · skip
          refine zz_aload_n hX dX5_wears_55 3 rfl rfl ?_
          refine zz_iload_n hX dX5_wears_56 2 rfl rfl ?_
          refine zz_iload hX dX5_wears_57 6 rfl ?_
          refine zz_vI (x := zp_deg S i j (zv_sk S i + m)) hX zf_M_X5_154 (As := [.int (nI j), .int (nI (zv_sk S i + m))]) (st := []) (K_sheetDegree S sh mi mr hW hR i hi j hj (zv_sk S i + m) (by omega)) t1 rfl rfl rfl (by decide) (Nat.le_of_ble_eq_true rfl) (Nat.le_of_ble_eq_true rfl) (Nat.le_of_ble_eq_true rfl) dX5_wears_59 ?_
          refine zz_istore (ls' := [(0, .ref 2), (1, .int (nI i)), (2, .int (nI j)), (3, .ref (1000 + 100 * i)), (4, .int ((zp_wr S i j m).1)), (5, .int ((zp_wr S i j m).2)), (6, .int (nI (zv_sk S i + m))), (7, .int (zp_deg S i j (zv_sk S i + m)))]) hX dX5_wears_62 (Nat.le_of_ble_eq_true rfl) rfl ?_
          refine zz_iload hX dX5_wears_64 5 rfl ?_
          refine zz_iload hX dX5_wears_66 4 rfl ?_
          refine zz_iload hX dX5_wears_68 7 rfl ?_
          refine zz_sI (x := zs_sw ((zp_wr S i j m).1) (zp_deg S i j (zv_sk S i + m))) hX zf_M_X5_241 (As := [.int ((zp_wr S i j m).1), .int (zp_deg S i j (zv_sk S i + m))]) (st := [.int ((zp_wr S i j m).2)]) (k_shorterWay ((zp_wr S i j m).1) (zp_deg S i j (zv_sk S i + m)) sh mi mr) rfl rfl (by decide) (Nat.le_of_ble_eq_true rfl) (Nat.le_of_ble_eq_true rfl) (Nat.le_of_ble_eq_true rfl) dX5_wears_70 ?_
          refine zz_abs (z := zs_abs (zs_sw ((zp_wr S i j m).1) (zp_deg S i j (zv_sk S i + m)))) hX zf_M_X5_244 zw_abss zw_mi zw_absc (by decide) (Nat.le_of_ble_eq_true rfl) (Nat.le_of_ble_eq_true rfl) (Nat.le_of_ble_eq_true rfl) rfl dX5_wears_73 ?_
          refine zz_iadd (z := ((zp_wr S i j m).2) + (zs_abs (zs_sw ((zp_wr S i j m).1) (zp_deg S i j (zv_sk S i + m))))) hX dX5_wears_76 rfl ?_
          refine zz_istore (ls' := [(0, .ref 2), (1, .int (nI i)), (2, .int (nI j)), (3, .ref (1000 + 100 * i)), (4, .int ((zp_wr S i j m).1)), (5, .int (((zp_wr S i j m).2) + (zs_abs (zs_sw ((zp_wr S i j m).1) (zp_deg S i j (zv_sk S i + m)))))), (6, .int (nI (zv_sk S i + m))), (7, .int (zp_deg S i j (zv_sk S i + m)))]) hX dX5_wears_77 (Nat.le_of_ble_eq_true rfl) rfl ?_
          refine zz_iload hX dX5_wears_79 7 rfl ?_
          refine zz_istore (ls' := [(0, .ref 2), (1, .int (nI i)), (2, .int (nI j)), (3, .ref (1000 + 100 * i)), (4, .int (zp_deg S i j (zv_sk S i + m))), (5, .int (((zp_wr S i j m).2) + (zs_abs (zs_sw ((zp_wr S i j m).1) (zp_deg S i j (zv_sk S i + m)))))), (6, .int (nI (zv_sk S i + m))), (7, .int (zp_deg S i j (zv_sk S i + m)))]) hX dX5_wears_81 (Nat.le_of_ble_eq_true rfl) rfl ?_
          refine zz_iinc (v := nI ((zv_sk S i + m) + 1)) (ls' := [(0, .ref 2), (1, .int (nI i)), (2, .int (nI j)), (3, .ref (1000 + 100 * i)), (4, .int (zp_deg S i j (zv_sk S i + m))), (5, .int (((zp_wr S i j m).2) + (zs_abs (zs_sw ((zp_wr S i j m).1) (zp_deg S i j (zv_sk S i + m)))))), (6, .int (nI ((zv_sk S i + m) + 1))), (7, .int (zp_deg S i j (zv_sk S i + m)))]) hX dX5_wears_83 6 rfl (nI_1 _) (Nat.le_of_ble_eq_true rfl) rfl ?_
          refine zz_goto hX 37 dX5_wears_86 (by decide) ?_
          refine zz_pick (ls' := [(0, .ref 2), (1, .int (nI i)), (2, .int (nI j)), (3, .ref (1000 + 100 * i)), (4, .int (zp_deg S i j (zv_sk S i + m))), (5, .int (((zp_wr S i j m).2) + (zs_abs (zs_sw ((zp_wr S i j m).1) (zp_deg S i j (zv_sk S i + m)))))), (6, .int (nI ((zv_sk S i + m) + 1)))]) [0, 1, 2, 3, 4, 5, 6] rfl ?_
          refine zz_lcl (ls' := [(0, .ref 2), (1, .int (nI i)), (2, .int (nI j)), (3, .ref (1000 + 100 * i)), (4, .int ((zp_wr S i j (m + 1)).1)), (5, .int ((zp_wr S i j (m + 1)).2)), (6, .int (nI (zv_sk S i + (m + 1))))]) (by have e : zp_wr S i j (m + 1) = _ := if_neg c52; first | (rw [e]; done) | (rw [e]; rfl)) ?_
          exact ih37 (m + 1) (by omega) (by omega)
  exact L37 ((zv_fr S i - zv_sk S i - 0 + 1)) 0 (by omega) b12

