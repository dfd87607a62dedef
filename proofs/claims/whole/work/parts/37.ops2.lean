/-! ===== the reference's longer calls ===== -/
theorem zM_out {S : zS} {sh : zm_Sh} {mi : zm_Mi} {mr : zm_Mr} {q : Nat} {x : Int32} (h : zM S sh mi mr) (hn : zv_nf S ≤ 8) : zM (zt_out S q) sh (zs_shf (zm_u2 (zm_u2 mi 1 30 x) 1 28 (nI (zv_nf S - 1))) 129 q (zv_nf S - 1)) mr := by
  obtain ⟨h1, h2, h3, h4⟩ := h
  refine ⟨h1, h2, fun r k hr hk => ?_, fun r hr h0 => ?_⟩
  · by_cases e : r = 29
    · subst e
      have hk8 : k < 8 := hk
      show zs_shf _ 129 q (zv_nf S - 1) 129 k = zt_out S q 29 k
      unfold zt_out
      rw [if_neg (show ¬ ((29 : Nat) = 28 ∧ k = 0) by omega)]
      unfold zs_shf
      by_cases c : q ≤ k ∧ k < zv_nf S - 1
      · rw [if_pos ⟨rfl, c⟩, if_pos ⟨rfl, c⟩, zm_u2l (by decide), zm_u2l (by decide)]
        exact h3 29 (k + 1) (by decide) (show k + 1 < 8 by omega)
      · rw [if_neg (fun z => c z.2), if_neg (fun z => c z.2), zm_u2l (by decide), zm_u2l (by decide)]
        exact h3 29 k (by decide) hk
    · have e28 : r ≠ 28 := fun z => by rw [z] at hr; exact absurd hr (by decide)
      rw [zs_shf_r (Or.inr (by omega)), zm_u2l (by omega), zm_u2l (by omega), zt_out_r e28 e]
      exact h3 r k hr hk
  · rw [zs_shf_r (Or.inr (by decide))]
    by_cases e : r = 28
    · rw [e, zm_u2s]; exact (if_pos ⟨rfl, rfl⟩).symm
    · have e29 : r ≠ 29 := fun z => by rw [z] at h0; exact absurd h0 (by decide)
      rw [zm_u2k e, zm_u2k (by omega), zt_out_r e e29]
      exact h4 r hr h0
theorem zp_wr_in {S : zS} (hW : zW S) (i j : Nat) (hj : j < 6) (hs : ∀ m, zv_sk S i + m < zv_fr S i → zv_sk S i + m < 48) : ∀ m, zv_sk S i + m ≤ zv_fr S i → zv_in (zp_wr S i j m).1 0 359
  | 0, _ => hW.1.2.2.2.1 _
  | m + 1, h => by
    have ih := zp_wr_in hW i j hj hs m (by omega)
    show zv_in (if zp_held S i (zv_sk S i + m) then zp_wr S i j m else (zp_deg S i j (zv_sk S i + m), _)).1 0 359
    split
    · exact ih
    · exact zp_deg_in hW i j _ (hs m (by omega))
theorem zs_abs20 {z : Int32} (h : -1000000000 ≤ z.toInt ∧ z.toInt ≤ 1000000000) : nI 20 < zs_abs z ↔ (nI 20 < z ∨ z < -20) := by
  have e20 : (nI 20).toInt = 20 := by rw [nI_toInt (by decide)]; rfl
  have em : (-20 : Int32).toInt = -20 := by decide
  unfold zs_abs
  by_cases h0 : 0 ≤ z
  · rw [if_pos h0]
    rw [zs_le, Int32.toInt_zero] at h0
    rw [zs_lt, zs_lt, e20, em]; omega
  · rw [if_neg h0]
    rw [zs_le, Int32.toInt_zero] at h0
    rw [zs_lt, zs_lt, zs_lt, zs_smallS (by rw [Int32.toInt_zero]; omega) (by rw [Int32.toInt_zero]; omega), e20, em, Int32.toInt_zero]; omega
set_option maxRecDepth 20000 in
theorem MP_cutOut (S : zS) (sh : zm_Sh) (mi : zm_Mi) (mr : zm_Mr) (hW : zW S) (hM : zM S sh mi mr) (s : Int32)  : zz_Con yX6_cutOut (.code yX6_cutOut cX6_cutOut 4 (some Jvm.ClassFile.FieldType.int)) 6 0 0 [.ref 1, .int s] sh mi mr (zq_m ((zs_ix s (zv_ns S))) (True) ((¬ zp_cut S s = -1)) (nI 1) (nI 0) (nI 2) (zp_film (zt_out S (zn (zp_cut S s)))) S (zt_out S (zn (zp_cut S s))) sh mi mr) zz_none := by
  refine zz_begin RX6 [(0, .ref 1), (1, .int s)] (by decide) rfl rfl (Nat.le_of_ble_eq_true rfl) rfl ?_
  intro Γ D E ad hX hr hN hT
  obtain ⟨hWp, hWv, hWs, hWk, hWr, hWf⟩ := id hW
  obtain ⟨p0, p1, p2, p3, p4, p5⟩ := hWp
  obtain ⟨v0, v1, v2, v3, v4⟩ := hWv
  obtain ⟨s0, s1, s2, s3⟩ := hWs
  obtain ⟨f0, f1, f2, f3⟩ := hWf
  by_cases hA0 : zs_ix s (zv_ns S)
  rotate_left
  · skip
    refine zz_aload_n hX dX6_cutOut_0 0 rfl rfl ?_
    refine zz_iload_n hX dX6_cutOut_1 1 rfl rfl ?_
    refine zz_vI (x := zz_bi (zs_ix s (zv_ns S))) hX zf_M_X6_105 (As := [.int s]) (st := []) (M_isShot S sh mi mr hW hM s) hM.1 rfl rfl rfl (by decide) (Nat.le_of_ble_eq_true rfl) (Nat.le_of_ble_eq_true rfl) (Nat.le_of_ble_eq_true rfl) dX6_cutOut_2 ?_
    refine zz_if_eqB hX 16 dX6_cutOut_5 (by decide) (fun c5 => ?_) (fun c5 => absurd c5 (show ¬ (zs_ix s (zv_ns S)) from hA0))
    refine zz_iconst (v := (-1)) hX dX6_cutOut_16 rfl ?_
    refine zz_istore_n (ls' := [(0, .ref 1), (1, .int s), (2, .int (-1))]) hX dX6_cutOut_17 rfl (Nat.le_of_ble_eq_true rfl) rfl ?_
    refine zz_aload_n hX dX6_cutOut_18 0 rfl rfl ?_
    refine zz_aload_n hX dX6_cutOut_19 0 rfl rfl ?_
    refine zz_iload_n hX dX6_cutOut_20 1 rfl rfl ?_
    refine zz_vI (x := zz_bi (zs_ix s (zv_ns S))) hX zf_M_X6_105 (As := [.int s]) (st := [.ref 1]) (M_isShot S sh mi mr hW hM s) hM.1 rfl rfl rfl (by decide) (Nat.le_of_ble_eq_true rfl) (Nat.le_of_ble_eq_true rfl) (Nat.le_of_ble_eq_true rfl) dX6_cutOut_21 ?_
    refine zz_if_neB hX 31 dX6_cutOut_24 (by decide) (fun c24 => absurd c24 (show ¬ (zs_ix s (zv_ns S)) from hA0)) (fun c24 => ?_)
    refine zz_iconst (v := nI 1) hX dX6_cutOut_27 rfl ?_
    refine zz_goto hX 41 dX6_cutOut_28 (by decide) ?_
    refine zz_vI (x := nI 1) hX zf_M_X6_108 (As := [.int (nI 1)]) (st := []) (m_fails1 sh mi mr hM.1) hM.1 rfl rfl rfl (by decide) (Nat.le_of_ble_eq_true rfl) (Nat.le_of_ble_eq_true rfl) (Nat.le_of_ble_eq_true rfl) dX6_cutOut_41 ?_
    refine zz_if_eq hX 49 dX6_cutOut_44 (by decide) (fun c => absurd c (by decide)) (fun _ => ?_)
    refine zz_iconst (v := nI 0) hX dX6_cutOut_47 rfl ?_
    refine zz_iret hX hr rfl (Nat.le_of_ble_eq_true rfl) (Nat.le_of_ble_eq_true rfl) dX6_cutOut_48 ?_
    exact ⟨_, rfl, Or.inr (Or.inl ⟨(fun h => hA0 (h)), (zm_u2s), (zM_th hM)⟩), (zr_mf zr_same.rfl' (by unfold zr_mout; omega))⟩
  obtain ⟨i, hi, rfl⟩ := zs_ix_of hA0 (by omega)
  have z_i : zn (nI i) = i := nI_clamp (n := i) (by omega)
  obtain ⟨b1, b2, b3, b4, b5, b6, b7, b8, b9, b10, b11, b12, b13⟩ := s2 i hi
  have hjn9 := (p2 _ b2).2.2
  by_cases hC0 : ¬ zp_cut S (nI i) = -1
  rotate_left
  · skip
    refine zz_aload_n hX dX6_cutOut_0 0 rfl rfl ?_
    refine zz_iload_n hX dX6_cutOut_1 1 rfl rfl ?_
    refine zz_vI (x := zz_bi (zs_ix (nI i) (zv_ns S))) hX zf_M_X6_105 (As := [.int (nI i)]) (st := []) (M_isShot S sh mi mr hW hM (nI i)) hM.1 rfl rfl rfl (by decide) (Nat.le_of_ble_eq_true rfl) (Nat.le_of_ble_eq_true rfl) (Nat.le_of_ble_eq_true rfl) dX6_cutOut_2 ?_
    refine zz_if_eqB hX 16 dX6_cutOut_5 (by decide) (fun c5 => absurd (show zs_ix (nI i) (zv_ns S) from hA0) c5) (fun c5 => ?_)
    refine zz_aload_n hX dX6_cutOut_8 0 rfl rfl ?_
    refine zz_iload_n hX dX6_cutOut_9 1 rfl rfl ?_
    refine zz_vI (x := zp_cut S (nI i)) hX zf_M_X6_196 (As := [.int (nI i)]) (st := []) (M_inFilm S sh mi mr hW hM (nI i)) hM.1 rfl rfl rfl (by decide) (Nat.le_of_ble_eq_true rfl) (Nat.le_of_ble_eq_true rfl) (Nat.le_of_ble_eq_true rfl) dX6_cutOut_10 ?_
    refine zz_goto hX 17 dX6_cutOut_13 (by decide) ?_
    refine zz_istore_n (ls' := [(0, .ref 1), (1, .int (nI i)), (2, .int (zp_cut S (nI i)))]) hX dX6_cutOut_17 rfl (Nat.le_of_ble_eq_true rfl) rfl ?_
    refine zz_aload_n hX dX6_cutOut_18 0 rfl rfl ?_
    refine zz_aload_n hX dX6_cutOut_19 0 rfl rfl ?_
    refine zz_iload_n hX dX6_cutOut_20 1 rfl rfl ?_
    refine zz_vI (x := zz_bi (zs_ix (nI i) (zv_ns S))) hX zf_M_X6_105 (As := [.int (nI i)]) (st := [.ref 1]) (M_isShot S sh mi mr hW hM (nI i)) hM.1 rfl rfl rfl (by decide) (Nat.le_of_ble_eq_true rfl) (Nat.le_of_ble_eq_true rfl) (Nat.le_of_ble_eq_true rfl) dX6_cutOut_21 ?_
    refine zz_if_neB hX 31 dX6_cutOut_24 (by decide) (fun c24 => ?_) (fun c24 => absurd (show zs_ix (nI i) (zv_ns S) from hA0) c24)
    refine zz_iload_n hX dX6_cutOut_31 2 rfl rfl ?_
    refine zz_iconst (v := (-1)) hX dX6_cutOut_32 rfl ?_
    refine zz_icmp_ne hX 40 dX6_cutOut_33 (by decide) (fun c33 => absurd c33 hC0) (fun c33 => ?_)
    refine zz_iconst (v := nI 2) hX dX6_cutOut_36 rfl ?_
    refine zz_goto hX 41 dX6_cutOut_37 (by decide) ?_
    refine zz_vI (x := nI 1) hX zf_M_X6_108 (As := [.int (nI 2)]) (st := []) (m_fails2 sh mi mr hM.1) hM.1 rfl rfl rfl (by decide) (Nat.le_of_ble_eq_true rfl) (Nat.le_of_ble_eq_true rfl) (Nat.le_of_ble_eq_true rfl) dX6_cutOut_41 ?_
    refine zz_if_eq hX 49 dX6_cutOut_44 (by decide) (fun c => absurd c (by decide)) (fun _ => ?_)
    refine zz_iconst (v := nI 0) hX dX6_cutOut_47 rfl ?_
    refine zz_iret hX hr rfl (Nat.le_of_ble_eq_true rfl) (Nat.le_of_ble_eq_true rfl) dX6_cutOut_48 ?_
    exact ⟨_, rfl, Or.inr (Or.inr (Or.inr ⟨hA0, trivial, (fun h => hC0 (h)), (zm_u2s), (zM_th hM)⟩)), (zr_mf zr_same.rfl' (by unfold zr_mout; omega))⟩
  obtain ⟨q, hq, e9⟩ := zp_cut_some hW hC0
  have z_q : zn (nI q) = q := nI_clamp (n := q) (by omega)
  refine zz_aload_n hX dX6_cutOut_0 0 rfl rfl ?_
  refine zz_iload_n hX dX6_cutOut_1 1 rfl rfl ?_
  refine zz_vI (x := zz_bi (zs_ix (nI i) (zv_ns S))) hX zf_M_X6_105 (As := [.int (nI i)]) (st := []) (M_isShot S sh mi mr hW hM (nI i)) hM.1 rfl rfl rfl (by decide) (Nat.le_of_ble_eq_true rfl) (Nat.le_of_ble_eq_true rfl) (Nat.le_of_ble_eq_true rfl) dX6_cutOut_2 ?_
  refine zz_if_eqB hX 16 dX6_cutOut_5 (by decide) (fun c5 => absurd (show zs_ix (nI i) (zv_ns S) from hA0) c5) (fun c5 => ?_)
  refine zz_aload_n hX dX6_cutOut_8 0 rfl rfl ?_
  refine zz_iload_n hX dX6_cutOut_9 1 rfl rfl ?_
  refine zz_vI (x := zp_cut S (nI i)) hX zf_M_X6_196 (As := [.int (nI i)]) (st := []) (M_inFilm S sh mi mr hW hM (nI i)) hM.1 rfl rfl rfl (by decide) (Nat.le_of_ble_eq_true rfl) (Nat.le_of_ble_eq_true rfl) (Nat.le_of_ble_eq_true rfl) dX6_cutOut_10 ?_
  refine zz_goto hX 17 dX6_cutOut_13 (by decide) ?_
  refine zz_istore_n (ls' := [(0, .ref 1), (1, .int (nI i)), (2, .int (zp_cut S (nI i)))]) hX dX6_cutOut_17 rfl (Nat.le_of_ble_eq_true rfl) rfl ?_
  refine zz_lcl (ls' := [(0, .ref 1), (1, .int (nI i)), (2, .int (nI q))]) (by rw [e9]) ?_
  refine zz_aload_n hX dX6_cutOut_18 0 rfl rfl ?_
  refine zz_aload_n hX dX6_cutOut_19 0 rfl rfl ?_
  refine zz_iload_n hX dX6_cutOut_20 1 rfl rfl ?_
  refine zz_vI (x := zz_bi (zs_ix (nI i) (zv_ns S))) hX zf_M_X6_105 (As := [.int (nI i)]) (st := [.ref 1]) (M_isShot S sh mi mr hW hM (nI i)) hM.1 rfl rfl rfl (by decide) (Nat.le_of_ble_eq_true rfl) (Nat.le_of_ble_eq_true rfl) (Nat.le_of_ble_eq_true rfl) dX6_cutOut_21 ?_
  refine zz_if_neB hX 31 dX6_cutOut_24 (by decide) (fun c24 => ?_) (fun c24 => absurd (show zs_ix (nI i) (zv_ns S) from hA0) c24)
  refine zz_iload_n hX dX6_cutOut_31 2 rfl rfl ?_
  refine zz_iconst (v := (-1)) hX dX6_cutOut_32 rfl ?_
  refine zz_icmp_ne hX 40 dX6_cutOut_33 (by decide) (fun c33 => ?_) (fun c33 => absurd c33 (zs_nm1 (by omega)))
  refine zz_iconst (v := nI 0) hX dX6_cutOut_40 rfl ?_
  refine zz_vI (x := nI 0) hX zf_M_X6_108 (As := [.int (nI 0)]) (st := []) (m_fails0 sh mi mr hM.1) hM.1 rfl rfl rfl (by decide) (Nat.le_of_ble_eq_true rfl) (Nat.le_of_ble_eq_true rfl) (Nat.le_of_ble_eq_true rfl) dX6_cutOut_41 ?_
  refine zz_if_eq hX 49 dX6_cutOut_44 (by decide) (fun _ => ?_) (fun c => absurd c (by decide))
  refine zz_aload_n hX dX6_cutOut_49 0 rfl rfl ?_
  refine zz_dup hX dX6_cutOut_50 rfl ?_
  refine zz_getI (x := nI (zv_nf S)) hX zf_F_X6_190.r hM.1 rfl (((zm_u2k (by decide))).trans (((zM_c28 hM).trans f0))) dX6_cutOut_51 ?_
  refine zz_iconst (v := nI 1) hX dX6_cutOut_54 rfl ?_
  refine zz_isub (z := nI ((zv_nf S) - 1)) hX dX6_cutOut_55 (pk_sub (by omega)) ?_
  refine zz_putI hX zf_F_X6_190 hM.1 rfl rfl rfl dX6_cutOut_56 ?_
  refine zz_iload_n hX dX6_cutOut_59 2 rfl rfl ?_
  refine zz_istore_n (ls' := [(0, .ref 1), (1, .int (nI i)), (2, .int (nI q)), (3, .int (nI q))]) hX dX6_cutOut_60 rfl (Nat.le_of_ble_eq_true rfl) rfl ?_
  refine zz_mem (zs_shf_0 (m := (zm_u2 (zm_u2 mi 1 30 (nI 0)) 1 28 (nI (zv_nf S - 1)))) (l := 129) (q := q)).symm ?_
  have L61 : ∀ (k61 : Nat) (k : Nat), zv_nf S - k < k61 → (q ≤ k) → (k ≤ zv_nf S - 1) → zz Γ (D, E, 4, ad, sh) (zz_End Γ (D, E, 4, ad, sh) (zq_m ((zs_ix (nI i) (zv_ns S))) (True) ((¬ zp_cut S (nI i) = -1)) (nI 1) (nI 0) (nI 2) (zp_film (zt_out S (zn (zp_cut S (nI i))))) S (zt_out S (zn (zp_cut S (nI i)))) sh mi mr) zz_none 0 0) 0 0 sh (zs_shf (zm_u2 (zm_u2 mi 1 30 (nI 0)) 1 28 (nI (zv_nf S - 1))) 129 q k) mr 61 [(0, .ref 1), (1, .int (nI i)), (2, .int (nI q)), (3, .int (nI k))] [] := by
    intro k61
    induction k61 with
    | zero => intro k hk61; exact absurd hk61 (Nat.not_lt_zero _)
    | succ k61 ih61 =>
      intro k hk61 hk8 hk9
      refine zz_iload_n hX dX6_cutOut_61 3 rfl rfl ?_
      refine zz_aload_n hX dX6_cutOut_62 0 rfl rfl ?_
      refine zz_getI (x := nI (zv_nf S - 1)) hX zf_F_X6_190.r hM.1 rfl (((zs_shf_r (Or.inr (by decide))).trans zm_u2s)) dX6_cutOut_63 ?_
      refine zz_icmp_geN hX (by omega) (by omega) 89 dX6_cutOut_66 (by decide) (fun c66 => ?_) (fun c66 => ?_)
      · skip
        obtain rfl : k = zv_nf S - 1 := by omega
        refine zz_aload_n hX dX6_cutOut_89 0 rfl rfl ?_
        refine zz_vI (x := zp_film (zt_out S q)) hX zf_M_X6_198 (As := []) (st := []) (M_framesInFilm (zt_out S q) sh (zs_shf (zm_u2 (zm_u2 mi 1 30 (nI 0)) 1 28 (nI (zv_nf S - 1))) 129 q (zv_nf S - 1)) mr (zW_out hW hq) (zM_out hM f1)) hM.1 rfl rfl rfl (by decide) (Nat.le_of_ble_eq_true rfl) (Nat.le_of_ble_eq_true rfl) (Nat.le_of_ble_eq_true rfl) dX6_cutOut_90 ?_
        refine zz_iret hX hr rfl (Nat.le_of_ble_eq_true rfl) (Nat.le_of_ble_eq_true rfl) dX6_cutOut_93 ?_
        exact ⟨_, rfl, Or.inl ⟨hA0, trivial, hC0, ((zs_shf_r (Or.inr (by decide))).trans ((zm_u2k (by decide)).trans zm_u2s)), (by rw [e9, z_q]), (by rw [e9, z_q]; exact zM_out hM f1)⟩, (fun l hl => by unfold zr_mout at hl; exact ⟨rfl, funext fun b => (zs_shf_r (Or.inr (by omega))).trans ((zm_u2l (by omega)).trans (zm_u2l (by omega))), rfl⟩)⟩
      · skip
        refine zz_aload_n hX dX6_cutOut_69 0 rfl rfl ?_
        refine zz_getR (y := 129) hX zf_F_X6_80.r hM.1 rfl (zM_r29 hM).1 dX6_cutOut_70 ?_
        refine zz_iload_n hX dX6_cutOut_73 3 rfl rfl ?_
        refine zz_aload_n hX dX6_cutOut_74 0 rfl rfl ?_
        refine zz_getR (y := 129) hX zf_F_X6_80.r hM.1 rfl (zM_r29 hM).1 dX6_cutOut_75 ?_
        refine zz_iload_n hX dX6_cutOut_78 3 rfl rfl ?_
        refine zz_iconst (v := nI 1) hX dX6_cutOut_79 rfl ?_
        refine zz_iadd (z := nI (k + 1)) hX dX6_cutOut_80 (nI_add _ _) ?_
        refine zz_iald (x := (zm_u2 (zm_u2 mi 1 30 (nI 0)) 1 28 (nI (zv_nf S - 1))) 129 (k + 1)) hX (zM_r29 hM).2 (k + 1) rfl (by omega) (by decide) ((zs_shf_r (Or.inl (by omega)))) dX6_cutOut_81 ?_
        refine zz_iast hX (zM_r29 hM).2 k rfl (by omega) (by decide) dX6_cutOut_82 ?_
        refine zz_iinc (v := nI (k + 1)) (ls' := [(0, .ref 1), (1, .int (nI i)), (2, .int (nI q)), (3, .int (nI (k + 1)))]) hX dX6_cutOut_83 3 rfl (nI_1 _) (Nat.le_of_ble_eq_true rfl) rfl ?_
        refine zz_goto hX 61 dX6_cutOut_86 (by decide) ?_
        refine zz_mem (zs_shf_s (by omega)) ?_
        exact ih61 (k + 1) (by omega) (by omega) (by omega)
  exact L61 ((zv_nf S - q + 1)) q (by omega) (Nat.le_refl _) (by omega)

set_option maxRecDepth 20000 in
theorem MP_wants (S : zS) (sh : zm_Sh) (mi : zm_Mi) (mr : zm_Mr) (hW : zW S) (hM : zM S sh mi mr) (s x : Int32)  : zz_Con yX6_wants (.code yX6_wants cX6_wants 5 (some Jvm.ClassFile.FieldType.int)) 6 0 0 [.ref 1, .int s, .int x] sh mi mr (zq_m ((zs_ix s (zv_ns S))) ((nI 0 ≤ x ∧ x ≤ nI 9)) (True) (nI 1) (nI 2) (nI 0) (zp_wants S (zn s) x (zv_fr S (zn s))) S S sh mi mr) zz_none := by
  refine zz_begin RX6 [(0, .ref 1), (1, .int s), (2, .int x)] (by decide) rfl rfl (Nat.le_of_ble_eq_true rfl) rfl ?_
  intro Γ D E ad hX hr hN hT
  obtain ⟨hWp, hWv, hWs, hWk, hWr, hWf⟩ := id hW
  obtain ⟨p0, p1, p2, p3, p4, p5⟩ := hWp
  obtain ⟨v0, v1, v2, v3, v4⟩ := hWv
  obtain ⟨s0, s1, s2, s3⟩ := hWs
  obtain ⟨f0, f1, f2, f3⟩ := hWf
  by_cases hA0 : zs_ix s (zv_ns S)
  rotate_left
  · skip
    refine zz_aload_n hX dX6_wants_0 0 rfl rfl ?_
    refine zz_aload_n hX dX6_wants_1 0 rfl rfl ?_
    refine zz_iload_n hX dX6_wants_2 1 rfl rfl ?_
    refine zz_vI (x := zz_bi (zs_ix s (zv_ns S))) hX zf_M_X6_105 (As := [.int s]) (st := [.ref 1]) (M_isShot S sh mi mr hW hM s) hM.1 rfl rfl rfl (by decide) (Nat.le_of_ble_eq_true rfl) (Nat.le_of_ble_eq_true rfl) (Nat.le_of_ble_eq_true rfl) dX6_wants_3 ?_
    refine zz_if_neB hX 13 dX6_wants_6 (by decide) (fun c6 => absurd c6 (show ¬ (zs_ix s (zv_ns S)) from hA0)) (fun c6 => ?_)
    refine zz_iconst (v := nI 1) hX dX6_wants_9 rfl ?_
    refine zz_goto hX 25 dX6_wants_10 (by decide) ?_
    refine zz_vI (x := nI 1) hX zf_M_X6_108 (As := [.int (nI 1)]) (st := []) (m_fails1 sh mi mr hM.1) hM.1 rfl rfl rfl (by decide) (Nat.le_of_ble_eq_true rfl) (Nat.le_of_ble_eq_true rfl) (Nat.le_of_ble_eq_true rfl) dX6_wants_25 ?_
    refine zz_if_eq hX 33 dX6_wants_28 (by decide) (fun c => absurd c (by decide)) (fun _ => ?_)
    refine zz_iconst (v := nI 0) hX dX6_wants_31 rfl ?_
    refine zz_iret hX hr rfl (Nat.le_of_ble_eq_true rfl) (Nat.le_of_ble_eq_true rfl) dX6_wants_32 ?_
    exact ⟨_, rfl, Or.inr (Or.inl ⟨(fun h => hA0 (h)), (zm_u2s), (zM_th hM)⟩), (zr_mf zr_same.rfl' (by unfold zr_mout; omega))⟩
  obtain ⟨i, hi, rfl⟩ := zs_ix_of hA0 (by omega)
  have z_i : zn (nI i) = i := nI_clamp (n := i) (by omega)
  obtain ⟨b1, b2, b3, b4, b5, b6, b7, b8, b9, b10, b11, b12, b13⟩ := s2 i hi
  have hjn9 := (p2 _ b2).2.2
  by_cases hB0 : nI 0 ≤ x ∧ x ≤ nI 9
  rotate_left
  · skip
    refine zz_aload_n hX dX6_wants_0 0 rfl rfl ?_
    refine zz_aload_n hX dX6_wants_1 0 rfl rfl ?_
    refine zz_iload_n hX dX6_wants_2 1 rfl rfl ?_
    refine zz_vI (x := zz_bi (zs_ix (nI i) (zv_ns S))) hX zf_M_X6_105 (As := [.int (nI i)]) (st := [.ref 1]) (M_isShot S sh mi mr hW hM (nI i)) hM.1 rfl rfl rfl (by decide) (Nat.le_of_ble_eq_true rfl) (Nat.le_of_ble_eq_true rfl) (Nat.le_of_ble_eq_true rfl) dX6_wants_3 ?_
    refine zz_if_neB hX 13 dX6_wants_6 (by decide) (fun c6 => ?_) (fun c6 => absurd (show zs_ix (nI i) (zv_ns S) from hA0) c6)
    refine zz_iload_n hX dX6_wants_13 2 rfl rfl ?_
    refine zz_sI (x := zz_bi (nI 0 ≤ x ∧ x ≤ nI 9)) hX zf_M_X6_111 (As := [.int x]) (st := [.ref 1]) (m_isSound x sh mi mr) rfl rfl (by decide) (Nat.le_of_ble_eq_true rfl) (Nat.le_of_ble_eq_true rfl) (Nat.le_of_ble_eq_true rfl) dX6_wants_14 ?_
    refine zz_if_eqB hX 24 dX6_wants_17 (by decide) (fun c17 => ?_) (fun c17 => absurd c17 (show ¬ (nI 0 ≤ x ∧ x ≤ nI 9) from hB0))
    refine zz_iconst (v := nI 2) hX dX6_wants_24 rfl ?_
    refine zz_vI (x := nI 1) hX zf_M_X6_108 (As := [.int (nI 2)]) (st := []) (m_fails2 sh mi mr hM.1) hM.1 rfl rfl rfl (by decide) (Nat.le_of_ble_eq_true rfl) (Nat.le_of_ble_eq_true rfl) (Nat.le_of_ble_eq_true rfl) dX6_wants_25 ?_
    refine zz_if_eq hX 33 dX6_wants_28 (by decide) (fun c => absurd c (by decide)) (fun _ => ?_)
    refine zz_iconst (v := nI 0) hX dX6_wants_31 rfl ?_
    refine zz_iret hX hr rfl (Nat.le_of_ble_eq_true rfl) (Nat.le_of_ble_eq_true rfl) dX6_wants_32 ?_
    exact ⟨_, rfl, Or.inr (Or.inr (Or.inl ⟨hA0, (fun h => hB0 (h)), (zm_u2s), (zM_th hM)⟩)), (zr_mf zr_same.rfl' (by unfold zr_mout; omega))⟩
  refine zz_aload_n hX dX6_wants_0 0 rfl rfl ?_
  refine zz_aload_n hX dX6_wants_1 0 rfl rfl ?_
  refine zz_iload_n hX dX6_wants_2 1 rfl rfl ?_
  refine zz_vI (x := zz_bi (zs_ix (nI i) (zv_ns S))) hX zf_M_X6_105 (As := [.int (nI i)]) (st := [.ref 1]) (M_isShot S sh mi mr hW hM (nI i)) hM.1 rfl rfl rfl (by decide) (Nat.le_of_ble_eq_true rfl) (Nat.le_of_ble_eq_true rfl) (Nat.le_of_ble_eq_true rfl) dX6_wants_3 ?_
  refine zz_if_neB hX 13 dX6_wants_6 (by decide) (fun c6 => ?_) (fun c6 => absurd (show zs_ix (nI i) (zv_ns S) from hA0) c6)
  refine zz_iload_n hX dX6_wants_13 2 rfl rfl ?_
  refine zz_sI (x := zz_bi (nI 0 ≤ x ∧ x ≤ nI 9)) hX zf_M_X6_111 (As := [.int x]) (st := [.ref 1]) (m_isSound x sh mi mr) rfl rfl (by decide) (Nat.le_of_ble_eq_true rfl) (Nat.le_of_ble_eq_true rfl) (Nat.le_of_ble_eq_true rfl) dX6_wants_14 ?_
  refine zz_if_eqB hX 24 dX6_wants_17 (by decide) (fun c17 => absurd (show nI 0 ≤ x ∧ x ≤ nI 9 from hB0) c17) (fun c17 => ?_)
  refine zz_iconst (v := nI 0) hX dX6_wants_20 rfl ?_
  refine zz_goto hX 25 dX6_wants_21 (by decide) ?_
  refine zz_vI (x := nI 0) hX zf_M_X6_108 (As := [.int (nI 0)]) (st := []) (m_fails0 sh mi mr hM.1) hM.1 rfl rfl rfl (by decide) (Nat.le_of_ble_eq_true rfl) (Nat.le_of_ble_eq_true rfl) (Nat.le_of_ble_eq_true rfl) dX6_wants_25 ?_
  refine zz_if_eq hX 33 dX6_wants_28 (by decide) (fun _ => ?_) (fun c => absurd c (by decide))
  refine zz_iconst (v := nI 0) hX dX6_wants_33 rfl ?_
  refine zz_istore_n (ls' := [(0, .ref 1), (1, .int (nI i)), (2, .int x), (3, .int (nI 0))]) hX dX6_wants_34 rfl (Nat.le_of_ble_eq_true rfl) rfl ?_
  refine zz_iconst (v := nI 0) hX dX6_wants_35 rfl ?_
  refine zz_istore (ls' := [(0, .ref 1), (1, .int (nI i)), (2, .int x), (3, .int (nI 0)), (4, .int (nI 0))]) hX dX6_wants_36 (Nat.le_of_ble_eq_true rfl) rfl ?_
  refine zz_lcl (ls' := [(0, .ref 1), (1, .int (nI i)), (2, .int x), (3, .int (zp_wants S i x 0)), (4, .int (nI 0))]) rfl ?_
  have L38 : ∀ (k38 : Nat) (k : Nat), zv_fr S i - k < k38 → (k ≤ zv_fr S i) → zz Γ (D, E, 5, ad, sh) (zz_End Γ (D, E, 5, ad, sh) (zq_m ((zs_ix (nI i) (zv_ns S))) ((nI 0 ≤ x ∧ x ≤ nI 9)) (True) (nI 1) (nI 2) (nI 0) (zp_wants S (zn (nI i)) x (zv_fr S (zn (nI i)))) S S sh mi mr) zz_none 0 0) 0 0 sh (zm_u2 mi 1 30 (nI 0)) mr 38 [(0, .ref 1), (1, .int (nI i)), (2, .int x), (3, .int (zp_wants S i x k)), (4, .int (nI k))] [] := by
    intro k38
    induction k38 with
    | zero => intro k hk38; exact absurd hk38 (Nat.not_lt_zero _)
    | succ k38 ih38 =>
      intro k hk38 hk9
      refine zz_iload hX dX6_wants_38 4 rfl ?_
      refine zz_aload_n hX dX6_wants_40 0 rfl rfl ?_
      refine zz_getR (y := 111) hX zf_F_X6_34.r hM.1 rfl (zM_r11 hM).1 dX6_wants_41 ?_
      refine zz_iload_n hX dX6_wants_44 1 rfl rfl ?_
      refine zz_iald (x := nI (zv_fr S i)) hX (zM_r11 hM).2 i rfl (by omega) (by decide) (((zm_u2l (by decide))).trans (((zM_v11 hM (k := i) (by omega)).trans (s2 i hi).2.2.1))) dX6_wants_45 ?_
      refine zz_icmp_geN hX (by omega) (by omega) 92 dX6_wants_46 (by decide) (fun c46 => ?_) (fun c46 => ?_)
      · skip
        refine zz_iload_n hX dX6_wants_92 3 rfl rfl ?_
        refine zz_iret hX hr rfl (Nat.le_of_ble_eq_true rfl) (Nat.le_of_ble_eq_true rfl) dX6_wants_93 ?_
        exact ⟨_, rfl, Or.inl ⟨hA0, hB0, trivial, (zm_u2s), (by rw [z_i, show k = zv_fr S i by omega]), (by (try rw [z_i]); exact (zM_th hM))⟩, (zr_mf zr_same.rfl' (by unfold zr_mout; omega))⟩
      · skip
        refine zz_iload_n hX dX6_wants_49 3 rfl rfl ?_
        refine zz_aload_n hX dX6_wants_50 0 rfl rfl ?_
        refine zz_iload_n hX dX6_wants_51 1 rfl rfl ?_
        refine zz_iload hX dX6_wants_52 4 rfl ?_
        refine zz_vI (x := zp_mouth S i k) hX zf_M_X6_157 (As := [.int (nI i), .int (nI k)]) (st := [.int (zp_wants S i x k)]) (M_mouthAt S sh (zm_u2 mi 1 30 (nI 0)) mr hW (zM_th hM) i hi k (by omega)) hM.1 rfl rfl rfl (by decide) (Nat.le_of_ble_eq_true rfl) (Nat.le_of_ble_eq_true rfl) (Nat.le_of_ble_eq_true rfl) dX6_wants_54 ?_
        refine zz_iload_n hX dX6_wants_57 2 rfl rfl ?_
        refine zz_icmp_ne hX 83 dX6_wants_58 (by decide) (fun c58 => ?_) (fun c58 => ?_)
        · skip
          refine zz_iconst (v := nI 0) hX dX6_wants_83 rfl ?_
          refine zz_iadd (z := (zp_wants S i x k) + (nI 0)) hX dX6_wants_84 rfl ?_
          refine zz_istore_n (ls' := [(0, .ref 1), (1, .int (nI i)), (2, .int x), (3, .int ((zp_wants S i x k) + (nI 0))), (4, .int (nI k))]) hX dX6_wants_85 rfl (Nat.le_of_ble_eq_true rfl) rfl ?_
          refine zz_iinc (v := nI (k + 1)) (ls' := [(0, .ref 1), (1, .int (nI i)), (2, .int x), (3, .int ((zp_wants S i x k) + (nI 0))), (4, .int (nI (k + 1)))]) hX dX6_wants_86 4 rfl (nI_1 _) (Nat.le_of_ble_eq_true rfl) rfl ?_
          refine zz_goto hX 38 dX6_wants_89 (by decide) ?_
          refine zz_lcl (ls' := [(0, .ref 1), (1, .int (nI i)), (2, .int x), (3, .int (zp_wants S i x (k + 1))), (4, .int (nI (k + 1)))]) (by rw [show zp_wants S i x (k + 1) = zp_wants S i x k from if_neg (fun h => c58 h.1), show zp_wants S i x k + nI 0 = zp_wants S i x k from Int32.add_zero _]) ?_
          exact ih38 (k + 1) (by omega) (by omega)
        · skip
          refine zz_iload hX dX6_wants_61 4 rfl ?_
          refine zz_if_eqN hX (by omega) 79 dX6_wants_63 (by decide) (fun c63 => ?_) (fun c63 => ?_)
          · skip
            refine zz_iconst (v := nI 1) hX dX6_wants_79 rfl ?_
            refine zz_goto hX 84 dX6_wants_80 (by decide) ?_
            refine zz_iadd (z := (zp_wants S i x k) + (nI 1)) hX dX6_wants_84 rfl ?_
            refine zz_istore_n (ls' := [(0, .ref 1), (1, .int (nI i)), (2, .int x), (3, .int ((zp_wants S i x k) + (nI 1))), (4, .int (nI k))]) hX dX6_wants_85 rfl (Nat.le_of_ble_eq_true rfl) rfl ?_
            refine zz_iinc (v := nI (k + 1)) (ls' := [(0, .ref 1), (1, .int (nI i)), (2, .int x), (3, .int ((zp_wants S i x k) + (nI 1))), (4, .int (nI (k + 1)))]) hX dX6_wants_86 4 rfl (nI_1 _) (Nat.le_of_ble_eq_true rfl) rfl ?_
            refine zz_goto hX 38 dX6_wants_89 (by decide) ?_
            refine zz_lcl (ls' := [(0, .ref 1), (1, .int (nI i)), (2, .int x), (3, .int (zp_wants S i x (k + 1))), (4, .int (nI (k + 1)))]) (by rw [show zp_wants S i x (k + 1) = zp_wants S i x k + nI 1 from if_pos ⟨c58, fun h => by rw [show zp_bef S i k = -1 from if_pos c63, c58] at h; rw [h] at hB0; exact absurd hB0.1 (by decide)⟩]) ?_
            exact ih38 (k + 1) (by omega) (by omega)
          · skip
            refine zz_aload_n hX dX6_wants_66 0 rfl rfl ?_
            refine zz_iload_n hX dX6_wants_67 1 rfl rfl ?_
            refine zz_iload hX dX6_wants_68 4 rfl ?_
            refine zz_iconst (v := nI 1) hX dX6_wants_70 rfl ?_
            refine zz_isub (z := nI (k - 1)) hX dX6_wants_71 (pk_sub (by omega)) ?_
            refine zz_vI (x := zp_mouth S i (k - 1)) hX zf_M_X6_157 (As := [.int (nI i), .int (nI (k - 1))]) (st := [.int (zp_wants S i x k)]) (M_mouthAt S sh (zm_u2 mi 1 30 (nI 0)) mr hW (zM_th hM) i hi (k - 1) (by omega)) hM.1 rfl rfl rfl (by decide) (Nat.le_of_ble_eq_true rfl) (Nat.le_of_ble_eq_true rfl) (Nat.le_of_ble_eq_true rfl) dX6_wants_72 ?_
            refine zz_iload_n hX dX6_wants_75 2 rfl rfl ?_
            refine zz_icmp_eq hX 83 dX6_wants_76 (by decide) (fun c76 => ?_) (fun c76 => ?_)
            · skip
              refine zz_iconst (v := nI 0) hX dX6_wants_83 rfl ?_
              refine zz_iadd (z := (zp_wants S i x k) + (nI 0)) hX dX6_wants_84 rfl ?_
              refine zz_istore_n (ls' := [(0, .ref 1), (1, .int (nI i)), (2, .int x), (3, .int ((zp_wants S i x k) + (nI 0))), (4, .int (nI k))]) hX dX6_wants_85 rfl (Nat.le_of_ble_eq_true rfl) rfl ?_
              refine zz_iinc (v := nI (k + 1)) (ls' := [(0, .ref 1), (1, .int (nI i)), (2, .int x), (3, .int ((zp_wants S i x k) + (nI 0))), (4, .int (nI (k + 1)))]) hX dX6_wants_86 4 rfl (nI_1 _) (Nat.le_of_ble_eq_true rfl) rfl ?_
              refine zz_goto hX 38 dX6_wants_89 (by decide) ?_
              refine zz_lcl (ls' := [(0, .ref 1), (1, .int (nI i)), (2, .int x), (3, .int (zp_wants S i x (k + 1))), (4, .int (nI (k + 1)))]) (by rw [show zp_wants S i x (k + 1) = zp_wants S i x k from if_neg (fun h => h.2 (by rw [show zp_bef S i k = zp_mouth S i (k - 1) from if_neg c63, c58, c76])), show zp_wants S i x k + nI 0 = zp_wants S i x k from Int32.add_zero _]) ?_
              exact ih38 (k + 1) (by omega) (by omega)
            · skip
              refine zz_iconst (v := nI 1) hX dX6_wants_79 rfl ?_
              refine zz_goto hX 84 dX6_wants_80 (by decide) ?_
              refine zz_iadd (z := (zp_wants S i x k) + (nI 1)) hX dX6_wants_84 rfl ?_
              refine zz_istore_n (ls' := [(0, .ref 1), (1, .int (nI i)), (2, .int x), (3, .int ((zp_wants S i x k) + (nI 1))), (4, .int (nI k))]) hX dX6_wants_85 rfl (Nat.le_of_ble_eq_true rfl) rfl ?_
              refine zz_iinc (v := nI (k + 1)) (ls' := [(0, .ref 1), (1, .int (nI i)), (2, .int x), (3, .int ((zp_wants S i x k) + (nI 1))), (4, .int (nI (k + 1)))]) hX dX6_wants_86 4 rfl (nI_1 _) (Nat.le_of_ble_eq_true rfl) rfl ?_
              refine zz_goto hX 38 dX6_wants_89 (by decide) ?_
              refine zz_lcl (ls' := [(0, .ref 1), (1, .int (nI i)), (2, .int x), (3, .int (zp_wants S i x (k + 1))), (4, .int (nI (k + 1)))]) (by rw [show zp_wants S i x (k + 1) = zp_wants S i x k + nI 1 from if_pos ⟨c58, fun h => c76 (by rw [show zp_bef S i k = zp_mouth S i (k - 1) from if_neg c63, c58] at h; exact h.symm)⟩]) ?_
              exact ih38 (k + 1) (by omega) (by omega)
  exact L38 ((zv_fr S i - 0 + 1)) 0 (by omega) (Nat.zero_le _)

set_option maxRecDepth 20000 in
theorem MP_wears (S : zS) (sh : zm_Sh) (mi : zm_Mi) (mr : zm_Mr) (hW : zW S) (hM : zM S sh mi mr) (s jx : Int32)  : zz_Con yX6_wears (.code yX6_wears cX6_wears 6 (some Jvm.ClassFile.FieldType.int)) 6 0 0 [.ref 1, .int s, .int jx] sh mi mr (zq_m ((zs_ix s (zv_ns S)) ∧ (zs_ix jx (zv_jn S (zv_pu S (zn s))))) (True) (True) (nI 1) (nI 0) (nI 0) ((zp_wr S (zn s) (zn jx) (zv_fr S (zn s) - zv_sk S (zn s))).2) S S sh mi mr) zz_none := by
  refine zz_begin RX6 [(0, .ref 1), (1, .int s), (2, .int jx)] (by decide) rfl rfl (Nat.le_of_ble_eq_true rfl) rfl ?_
  intro Γ D E ad hX hr hN hT
  obtain ⟨hWp, hWv, hWs, hWk, hWr, hWf⟩ := id hW
  obtain ⟨p0, p1, p2, p3, p4, p5⟩ := hWp
  obtain ⟨v0, v1, v2, v3, v4⟩ := hWv
  obtain ⟨s0, s1, s2, s3⟩ := hWs
  obtain ⟨f0, f1, f2, f3⟩ := hWf
  by_cases hA0 : zs_ix s (zv_ns S)
  rotate_left
  · skip
    refine zz_aload_n hX dX6_wears_0 0 rfl rfl ?_
    refine zz_aload_n hX dX6_wears_1 0 rfl rfl ?_
    refine zz_iload_n hX dX6_wears_2 1 rfl rfl ?_
    refine zz_iload_n hX dX6_wears_3 2 rfl rfl ?_
    refine zz_vI (x := zz_bi (zs_ix s (zv_ns S) ∧ zs_ix jx (zv_jn S (zv_pu S (zn s))))) hX zf_M_X6_138 (As := [.int s, .int jx]) (st := [.ref 1]) (M_isJointOf S sh mi mr hW hM s jx) hM.1 rfl rfl rfl (by decide) (Nat.le_of_ble_eq_true rfl) (Nat.le_of_ble_eq_true rfl) (Nat.le_of_ble_eq_true rfl) dX6_wears_4 ?_
    refine zz_if_eqB hX 14 dX6_wears_7 (by decide) (fun c7 => ?_) (fun c7 => absurd c7 (show ¬ (zs_ix s (zv_ns S) ∧ zs_ix jx (zv_jn S (zv_pu S (zn s)))) from (fun h => hA0 (h.1))))
    refine zz_iconst (v := nI 1) hX dX6_wears_14 rfl ?_
    refine zz_vI (x := nI 1) hX zf_M_X6_108 (As := [.int (nI 1)]) (st := []) (m_fails1 sh mi mr hM.1) hM.1 rfl rfl rfl (by decide) (Nat.le_of_ble_eq_true rfl) (Nat.le_of_ble_eq_true rfl) (Nat.le_of_ble_eq_true rfl) dX6_wears_15 ?_
    refine zz_if_eq hX 23 dX6_wears_18 (by decide) (fun c => absurd c (by decide)) (fun _ => ?_)
    refine zz_iconst (v := nI 0) hX dX6_wears_21 rfl ?_
    refine zz_iret hX hr rfl (Nat.le_of_ble_eq_true rfl) (Nat.le_of_ble_eq_true rfl) dX6_wears_22 ?_
    exact ⟨_, rfl, Or.inr (Or.inl ⟨(fun h => hA0 (h.1)), (zm_u2s), (zM_th hM)⟩), (zr_mf zr_same.rfl' (by unfold zr_mout; omega))⟩
  obtain ⟨i, hi, rfl⟩ := zs_ix_of hA0 (by omega)
  have z_i : zn (nI i) = i := nI_clamp (n := i) (by omega)
  obtain ⟨b1, b2, b3, b4, b5, b6, b7, b8, b9, b10, b11, b12, b13⟩ := s2 i hi
  have hjn9 := (p2 _ b2).2.2
  by_cases hA1 : zs_ix jx (zv_jn S (zv_pu S (zn (nI i))))
  rotate_left
  · skip
    have hA1n : ¬ (zs_ix jx (zv_jn S (zv_pu S (i)))) := by have q9 := hA1; (try rw [z_i] at q9); exact q9
    refine zz_aload_n hX dX6_wears_0 0 rfl rfl ?_
    refine zz_aload_n hX dX6_wears_1 0 rfl rfl ?_
    refine zz_iload_n hX dX6_wears_2 1 rfl rfl ?_
    refine zz_iload_n hX dX6_wears_3 2 rfl rfl ?_
    refine zz_vI (x := zz_bi (zs_ix (nI i) (zv_ns S) ∧ zs_ix jx (zv_jn S (zv_pu S (zn (nI i)))))) hX zf_M_X6_138 (As := [.int (nI i), .int jx]) (st := [.ref 1]) (M_isJointOf S sh mi mr hW hM (nI i) jx) hM.1 rfl rfl rfl (by decide) (Nat.le_of_ble_eq_true rfl) (Nat.le_of_ble_eq_true rfl) (Nat.le_of_ble_eq_true rfl) dX6_wears_4 ?_
    refine zz_if_eqB hX 14 dX6_wears_7 (by decide) (fun c7 => ?_) (fun c7 => absurd c7 (show ¬ (zs_ix (nI i) (zv_ns S) ∧ zs_ix jx (zv_jn S (zv_pu S (zn (nI i))))) from (fun h => hA1 (h.2))))
    refine zz_iconst (v := nI 1) hX dX6_wears_14 rfl ?_
    refine zz_vI (x := nI 1) hX zf_M_X6_108 (As := [.int (nI 1)]) (st := []) (m_fails1 sh mi mr hM.1) hM.1 rfl rfl rfl (by decide) (Nat.le_of_ble_eq_true rfl) (Nat.le_of_ble_eq_true rfl) (Nat.le_of_ble_eq_true rfl) dX6_wears_15 ?_
    refine zz_if_eq hX 23 dX6_wears_18 (by decide) (fun c => absurd c (by decide)) (fun _ => ?_)
    refine zz_iconst (v := nI 0) hX dX6_wears_21 rfl ?_
    refine zz_iret hX hr rfl (Nat.le_of_ble_eq_true rfl) (Nat.le_of_ble_eq_true rfl) dX6_wears_22 ?_
    exact ⟨_, rfl, Or.inr (Or.inl ⟨(fun h => hA1 (h.2)), (zm_u2s), (zM_th hM)⟩), (zr_mf zr_same.rfl' (by unfold zr_mout; omega))⟩
  have hA1n : zs_ix jx (zv_jn S (zv_pu S (i))) := by have q9 := hA1; (try rw [z_i] at q9); exact q9
  obtain ⟨j, hj, rfl⟩ := zs_ix_of hA1n (by omega)
  have z_j : zn (nI j) = j := nI_clamp (n := j) (by omega)
  refine zz_aload_n hX dX6_wears_0 0 rfl rfl ?_
  refine zz_aload_n hX dX6_wears_1 0 rfl rfl ?_
  refine zz_iload_n hX dX6_wears_2 1 rfl rfl ?_
  refine zz_iload_n hX dX6_wears_3 2 rfl rfl ?_
  refine zz_vI (x := zz_bi (zs_ix (nI i) (zv_ns S) ∧ zs_ix (nI j) (zv_jn S (zv_pu S (zn (nI i)))))) hX zf_M_X6_138 (As := [.int (nI i), .int (nI j)]) (st := [.ref 1]) (M_isJointOf S sh mi mr hW hM (nI i) (nI j)) hM.1 rfl rfl rfl (by decide) (Nat.le_of_ble_eq_true rfl) (Nat.le_of_ble_eq_true rfl) (Nat.le_of_ble_eq_true rfl) dX6_wears_4 ?_
  refine zz_if_eqB hX 14 dX6_wears_7 (by decide) (fun c7 => absurd (show zs_ix (nI i) (zv_ns S) ∧ zs_ix (nI j) (zv_jn S (zv_pu S (zn (nI i)))) from ⟨hA0, hA1⟩) c7) (fun c7 => ?_)
  refine zz_iconst (v := nI 0) hX dX6_wears_10 rfl ?_
  refine zz_goto hX 15 dX6_wears_11 (by decide) ?_
  refine zz_vI (x := nI 0) hX zf_M_X6_108 (As := [.int (nI 0)]) (st := []) (m_fails0 sh mi mr hM.1) hM.1 rfl rfl rfl (by decide) (Nat.le_of_ble_eq_true rfl) (Nat.le_of_ble_eq_true rfl) (Nat.le_of_ble_eq_true rfl) dX6_wears_15 ?_
  refine zz_if_eq hX 23 dX6_wears_18 (by decide) (fun _ => ?_) (fun c => absurd c (by decide))
  refine zz_aload_n hX dX6_wears_23 0 rfl rfl ?_
  refine zz_getR (y := 102) hX zf_F_X6_13.r hM.1 rfl (zM_r2 hM).1 dX6_wears_24 ?_
  refine zz_bipush (v := nI 6) hX dX6_wears_27 rfl ?_
  refine zz_aload_n hX dX6_wears_29 0 rfl rfl ?_
  refine zz_getR (y := 110) hX zf_F_X6_31.r hM.1 rfl (zM_r10 hM).1 dX6_wears_30 ?_
  refine zz_iload_n hX dX6_wears_33 1 rfl rfl ?_
  refine zz_iald (x := nI (zv_pu S i)) hX (zM_r10 hM).2 i rfl (by omega) (by decide) (((zm_u2l (by decide))).trans (((zM_v10 hM (k := i) (by omega)).trans (s2 i hi).1))) dX6_wears_34 ?_
  refine zz_imul (z := nI (6 * (zv_pu S i))) hX dX6_wears_35 (pk_mul _ _) ?_
  refine zz_iload_n hX dX6_wears_36 2 rfl rfl ?_
  refine zz_iadd (z := nI (6 * (zv_pu S i) + j)) hX dX6_wears_37 (nI_add _ _) ?_
  refine zz_iald (x := S 2 (6 * (zv_pu S i) + j)) hX (zM_r2 hM).2 (6 * (zv_pu S i) + j) rfl (by omega) (by decide) (((zm_u2l (by decide))).trans ((zM_v2 hM (k := 6 * (zv_pu S i) + j) (by omega)))) dX6_wears_38 ?_
  refine zz_istore_n (ls' := [(0, .ref 1), (1, .int (nI i)), (2, .int (nI j)), (3, .int (S 2 (6 * (zv_pu S i) + j)))]) hX dX6_wears_39 rfl (Nat.le_of_ble_eq_true rfl) rfl ?_
  refine zz_iconst (v := nI 0) hX dX6_wears_40 rfl ?_
  refine zz_istore (ls' := [(0, .ref 1), (1, .int (nI i)), (2, .int (nI j)), (3, .int (S 2 (6 * (zv_pu S i) + j))), (4, .int (nI 0))]) hX dX6_wears_41 (Nat.le_of_ble_eq_true rfl) rfl ?_
  refine zz_aload_n hX dX6_wears_43 0 rfl rfl ?_
  refine zz_getR (y := 115) hX zf_F_X6_46.r hM.1 rfl (zM_r15 hM).1 dX6_wears_44 ?_
  refine zz_iload_n hX dX6_wears_47 1 rfl rfl ?_
  refine zz_iald (x := nI (zv_sk S i)) hX (zM_r15 hM).2 i rfl (by omega) (by decide) (((zm_u2l (by decide))).trans (((zM_v15 hM (k := i) (by omega)).trans (s2 i hi).2.2.2.2.2.2.2.2.2.2.1))) dX6_wears_48 ?_
  refine zz_istore (ls' := [(0, .ref 1), (1, .int (nI i)), (2, .int (nI j)), (3, .int (S 2 (6 * (zv_pu S i) + j))), (4, .int (nI 0)), (5, .int (nI (zv_sk S i)))]) hX dX6_wears_49 (Nat.le_of_ble_eq_true rfl) rfl ?_
  refine zz_lcl (ls' := [(0, .ref 1), (1, .int (nI i)), (2, .int (nI j)), (3, .int ((zp_wr S i j 0).1)), (4, .int ((zp_wr S i j 0).2)), (5, .int (nI (zv_sk S i + 0)))]) rfl ?_
  have L51 : ∀ (k51 : Nat) (m : Nat), zv_fr S i - zv_sk S i - m < k51 → (zv_sk S i + m ≤ zv_fr S i) → zz Γ (D, E, 6, ad, sh) (zz_End Γ (D, E, 6, ad, sh) (zq_m ((zs_ix (nI i) (zv_ns S)) ∧ (zs_ix (nI j) (zv_jn S (zv_pu S (zn (nI i)))))) (True) (True) (nI 1) (nI 0) (nI 0) ((zp_wr S (zn (nI i)) (zn (nI j)) (zv_fr S (zn (nI i)) - zv_sk S (zn (nI i)))).2) S S sh mi mr) zz_none 0 0) 0 0 sh (zm_u2 mi 1 30 (nI 0)) mr 51 [(0, .ref 1), (1, .int (nI i)), (2, .int (nI j)), (3, .int ((zp_wr S i j m).1)), (4, .int ((zp_wr S i j m).2)), (5, .int (nI (zv_sk S i + m)))] [] := by
    intro k51
    induction k51 with
    | zero => intro m hk51; exact absurd hk51 (Nat.not_lt_zero _)
    | succ k51 ih51 =>
      intro m hk51 hk9
      refine zz_iload hX dX6_wears_51 5 rfl ?_
      refine zz_aload_n hX dX6_wears_53 0 rfl rfl ?_
      refine zz_getR (y := 111) hX zf_F_X6_34.r hM.1 rfl (zM_r11 hM).1 dX6_wears_54 ?_
      refine zz_iload_n hX dX6_wears_57 1 rfl rfl ?_
      refine zz_iald (x := nI (zv_fr S i)) hX (zM_r11 hM).2 i rfl (by omega) (by decide) (((zm_u2l (by decide))).trans (((zM_v11 hM (k := i) (by omega)).trans (s2 i hi).2.2.1))) dX6_wears_58 ?_
      refine zz_icmp_geN hX (by omega) (by omega) 104 dX6_wears_59 (by decide) (fun c59 => ?_) (fun c59 => ?_)
      · skip
        refine zz_iload hX dX6_wears_104 4 rfl ?_
        refine zz_iret hX hr rfl (Nat.le_of_ble_eq_true rfl) (Nat.le_of_ble_eq_true rfl) dX6_wears_106 ?_
        exact ⟨_, rfl, Or.inl ⟨⟨hA0, hA1⟩, trivial, trivial, (zm_u2s), (by rw [z_i, z_j, show zv_fr S i - zv_sk S i = m by omega]), (by (try rw [z_i]); (try rw [z_j]); exact (zM_th hM))⟩, (zr_mf zr_same.rfl' (by unfold zr_mout; omega))⟩
      · skip
        refine zz_aload_n hX dX6_wears_62 0 rfl rfl ?_
        refine zz_iload_n hX dX6_wears_63 1 rfl rfl ?_
        refine zz_iload hX dX6_wears_64 5 rfl ?_
        refine zz_vI (x := zz_bi (zp_held S i (zv_sk S i + m))) hX zf_M_X6_123 (As := [.int (nI i), .int (nI (zv_sk S i + m))]) (st := []) (M_isHeld S sh (zm_u2 mi 1 30 (nI 0)) mr hW (zM_th hM) i hi (zv_sk S i + m) (by omega)) hM.1 rfl rfl rfl (by decide) (Nat.le_of_ble_eq_true rfl) (Nat.le_of_ble_eq_true rfl) (Nat.le_of_ble_eq_true rfl) dX6_wears_66 ?_
        refine zz_if_neB hX 98 dX6_wears_69 (by decide) (fun c69 => ?_) (fun c69 => ?_)
        · skip
          refine zz_iinc (v := nI ((zv_sk S i + m) + 1)) (ls' := [(0, .ref 1), (1, .int (nI i)), (2, .int (nI j)), (3, .int ((zp_wr S i j m).1)), (4, .int ((zp_wr S i j m).2)), (5, .int (nI ((zv_sk S i + m) + 1)))]) hX dX6_wears_98 5 rfl (nI_1 _) (Nat.le_of_ble_eq_true rfl) rfl ?_
          refine zz_goto hX 51 dX6_wears_101 (by decide) ?_
          refine zz_lcl (ls' := [(0, .ref 1), (1, .int (nI i)), (2, .int (nI j)), (3, .int ((zp_wr S i j (m + 1)).1)), (4, .int ((zp_wr S i j (m + 1)).2)), (5, .int (nI (zv_sk S i + (m + 1))))]) (by first | (rw [show zp_wr S i j (m + 1) = zp_wr S i j m from if_pos c69]; done) | (rw [show zp_wr S i j (m + 1) = zp_wr S i j m from if_pos c69]; rfl)) ?_
          exact ih51 (m + 1) (by omega) (by omega)
        · skip
          have ha9 := zp_wr_in hW i j (by omega) (fun m hm => by omega) m hk9
          have hb9 := zp_deg_in hW i j (zv_sk S i + m) (by omega)
          refine zz_iload hX dX6_wears_72 4 rfl ?_
          refine zz_iload_n hX dX6_wears_74 3 rfl rfl ?_
          refine zz_aload_n hX dX6_wears_75 0 rfl rfl ?_
          refine zz_iload_n hX dX6_wears_76 1 rfl rfl ?_
          refine zz_iload_n hX dX6_wears_77 2 rfl rfl ?_
          refine zz_iload hX dX6_wears_78 5 rfl ?_
          refine zz_vI (x := zp_deg S i j (zv_sk S i + m)) hX zf_M_X6_144 (As := [.int (nI i), .int (nI j), .int (nI (zv_sk S i + m))]) (st := [.int ((zp_wr S i j m).1), .int ((zp_wr S i j m).2)]) (M_degreeAt S sh (zm_u2 mi 1 30 (nI 0)) mr hW (zM_th hM) i hi j (by omega) (zv_sk S i + m) (by omega)) hM.1 rfl rfl rfl (by decide) (Nat.le_of_ble_eq_true rfl) (Nat.le_of_ble_eq_true rfl) (Nat.le_of_ble_eq_true rfl) dX6_wears_80 ?_
          refine zz_sI (x := zs_abs (zs_sw ((zp_wr S i j m).1) (zp_deg S i j (zv_sk S i + m)))) hX zf_M_X6_170 (As := [.int ((zp_wr S i j m).1), .int (zp_deg S i j (zv_sk S i + m))]) (st := [.int ((zp_wr S i j m).2)]) (m_shorter ((zp_wr S i j m).1) (zp_deg S i j (zv_sk S i + m)) ha9 hb9 sh (zm_u2 mi 1 30 (nI 0)) mr) rfl rfl (by decide) (Nat.le_of_ble_eq_true rfl) (Nat.le_of_ble_eq_true rfl) (Nat.le_of_ble_eq_true rfl) dX6_wears_83 ?_
          refine zz_iadd (z := ((zp_wr S i j m).2) + (zs_abs (zs_sw ((zp_wr S i j m).1) (zp_deg S i j (zv_sk S i + m))))) hX dX6_wears_86 rfl ?_
          refine zz_istore (ls' := [(0, .ref 1), (1, .int (nI i)), (2, .int (nI j)), (3, .int ((zp_wr S i j m).1)), (4, .int (((zp_wr S i j m).2) + (zs_abs (zs_sw ((zp_wr S i j m).1) (zp_deg S i j (zv_sk S i + m)))))), (5, .int (nI (zv_sk S i + m)))]) hX dX6_wears_87 (Nat.le_of_ble_eq_true rfl) rfl ?_
          refine zz_aload_n hX dX6_wears_89 0 rfl rfl ?_
          refine zz_iload_n hX dX6_wears_90 1 rfl rfl ?_
          refine zz_iload_n hX dX6_wears_91 2 rfl rfl ?_
          refine zz_iload hX dX6_wears_92 5 rfl ?_
          refine zz_vI (x := zp_deg S i j (zv_sk S i + m)) hX zf_M_X6_144 (As := [.int (nI i), .int (nI j), .int (nI (zv_sk S i + m))]) (st := []) (M_degreeAt S sh (zm_u2 mi 1 30 (nI 0)) mr hW (zM_th hM) i hi j (by omega) (zv_sk S i + m) (by omega)) hM.1 rfl rfl rfl (by decide) (Nat.le_of_ble_eq_true rfl) (Nat.le_of_ble_eq_true rfl) (Nat.le_of_ble_eq_true rfl) dX6_wears_94 ?_
          refine zz_istore_n (ls' := [(0, .ref 1), (1, .int (nI i)), (2, .int (nI j)), (3, .int (zp_deg S i j (zv_sk S i + m))), (4, .int (((zp_wr S i j m).2) + (zs_abs (zs_sw ((zp_wr S i j m).1) (zp_deg S i j (zv_sk S i + m)))))), (5, .int (nI (zv_sk S i + m)))]) hX dX6_wears_97 rfl (Nat.le_of_ble_eq_true rfl) rfl ?_
          refine zz_iinc (v := nI ((zv_sk S i + m) + 1)) (ls' := [(0, .ref 1), (1, .int (nI i)), (2, .int (nI j)), (3, .int (zp_deg S i j (zv_sk S i + m))), (4, .int (((zp_wr S i j m).2) + (zs_abs (zs_sw ((zp_wr S i j m).1) (zp_deg S i j (zv_sk S i + m)))))), (5, .int (nI ((zv_sk S i + m) + 1)))]) hX dX6_wears_98 5 rfl (nI_1 _) (Nat.le_of_ble_eq_true rfl) rfl ?_
          refine zz_goto hX 51 dX6_wears_101 (by decide) ?_
          refine zz_lcl (ls' := [(0, .ref 1), (1, .int (nI i)), (2, .int (nI j)), (3, .int ((zp_wr S i j (m + 1)).1)), (4, .int ((zp_wr S i j (m + 1)).2)), (5, .int (nI (zv_sk S i + (m + 1))))]) (by first | (have e : zp_wr S i j (m + 1) = _ := if_neg c69; rw [e]; done) | (have e : zp_wr S i j (m + 1) = _ := if_neg c69; rw [e]; rfl)) ?_
          exact ih51 (m + 1) (by omega) (by omega)
  exact L51 ((zv_fr S i - zv_sk S i - 0 + 1)) 0 (by omega) b12

set_option maxRecDepth 20000 in
theorem MP_faults (S : zS) (sh : zm_Sh) (mi : zm_Mi) (mr : zm_Mr) (hW : zW S) (hM : zM S sh mi mr) (s fx : Int32)  : zz_Con yX6_faults (.code yX6_faults cX6_faults 7 (some Jvm.ClassFile.FieldType.int)) 6 0 0 [.ref 1, .int s, .int fx] sh mi mr (zq_m ((zs_ix s (zv_ns S)) ∧ (zs_ix fx (zv_sk S (zn s)))) (True) (True) (nI 1) (nI 0) (nI 0) (zp_faults S (zn s) (zn fx)) S S sh mi mr) zz_none := by
  refine zz_begin RX6 [(0, .ref 1), (1, .int s), (2, .int fx)] (by decide) rfl rfl (Nat.le_of_ble_eq_true rfl) rfl ?_
  intro Γ D E ad hX hr hN hT
  obtain ⟨hWp, hWv, hWs, hWk, hWr, hWf⟩ := id hW
  obtain ⟨p0, p1, p2, p3, p4, p5⟩ := hWp
  obtain ⟨v0, v1, v2, v3, v4⟩ := hWv
  obtain ⟨s0, s1, s2, s3⟩ := hWs
  obtain ⟨f0, f1, f2, f3⟩ := hWf
  by_cases hA0 : zs_ix s (zv_ns S)
  rotate_left
  · skip
    refine zz_aload_n hX dX6_faults_0 0 rfl rfl ?_
    refine zz_aload_n hX dX6_faults_1 0 rfl rfl ?_
    refine zz_iload_n hX dX6_faults_2 1 rfl rfl ?_
    refine zz_iload_n hX dX6_faults_3 2 rfl rfl ?_
    refine zz_vI (x := zz_bi (zs_ix s (zv_ns S) ∧ zs_ix fx (zv_sk S (zn s)))) hX zf_M_X6_193 (As := [.int s, .int fx]) (st := [.ref 1]) (M_isStruck S sh mi mr hW hM s fx) hM.1 rfl rfl rfl (by decide) (Nat.le_of_ble_eq_true rfl) (Nat.le_of_ble_eq_true rfl) (Nat.le_of_ble_eq_true rfl) dX6_faults_4 ?_
    refine zz_if_eqB hX 14 dX6_faults_7 (by decide) (fun c7 => ?_) (fun c7 => absurd c7 (show ¬ (zs_ix s (zv_ns S) ∧ zs_ix fx (zv_sk S (zn s))) from (fun h => hA0 (h.1))))
    refine zz_iconst (v := nI 1) hX dX6_faults_14 rfl ?_
    refine zz_vI (x := nI 1) hX zf_M_X6_108 (As := [.int (nI 1)]) (st := []) (m_fails1 sh mi mr hM.1) hM.1 rfl rfl rfl (by decide) (Nat.le_of_ble_eq_true rfl) (Nat.le_of_ble_eq_true rfl) (Nat.le_of_ble_eq_true rfl) dX6_faults_15 ?_
    refine zz_if_eq hX 23 dX6_faults_18 (by decide) (fun c => absurd c (by decide)) (fun _ => ?_)
    refine zz_iconst (v := nI 0) hX dX6_faults_21 rfl ?_
    refine zz_iret hX hr rfl (Nat.le_of_ble_eq_true rfl) (Nat.le_of_ble_eq_true rfl) dX6_faults_22 ?_
    exact ⟨_, rfl, Or.inr (Or.inl ⟨(fun h => hA0 (h.1)), (zm_u2s), (zM_th hM)⟩), (zr_mf zr_same.rfl' (by unfold zr_mout; omega))⟩
  obtain ⟨i, hi, rfl⟩ := zs_ix_of hA0 (by omega)
  have z_i : zn (nI i) = i := nI_clamp (n := i) (by omega)
  obtain ⟨b1, b2, b3, b4, b5, b6, b7, b8, b9, b10, b11, b12, b13⟩ := s2 i hi
  have hjn9 := (p2 _ b2).2.2
  by_cases hA1 : zs_ix fx (zv_sk S (zn (nI i)))
  rotate_left
  · skip
    have hA1n : ¬ (zs_ix fx (zv_sk S (i))) := by have q9 := hA1; (try rw [z_i] at q9); exact q9
    refine zz_aload_n hX dX6_faults_0 0 rfl rfl ?_
    refine zz_aload_n hX dX6_faults_1 0 rfl rfl ?_
    refine zz_iload_n hX dX6_faults_2 1 rfl rfl ?_
    refine zz_iload_n hX dX6_faults_3 2 rfl rfl ?_
    refine zz_vI (x := zz_bi (zs_ix (nI i) (zv_ns S) ∧ zs_ix fx (zv_sk S (zn (nI i))))) hX zf_M_X6_193 (As := [.int (nI i), .int fx]) (st := [.ref 1]) (M_isStruck S sh mi mr hW hM (nI i) fx) hM.1 rfl rfl rfl (by decide) (Nat.le_of_ble_eq_true rfl) (Nat.le_of_ble_eq_true rfl) (Nat.le_of_ble_eq_true rfl) dX6_faults_4 ?_
    refine zz_if_eqB hX 14 dX6_faults_7 (by decide) (fun c7 => ?_) (fun c7 => absurd c7 (show ¬ (zs_ix (nI i) (zv_ns S) ∧ zs_ix fx (zv_sk S (zn (nI i)))) from (fun h => hA1 (h.2))))
    refine zz_iconst (v := nI 1) hX dX6_faults_14 rfl ?_
    refine zz_vI (x := nI 1) hX zf_M_X6_108 (As := [.int (nI 1)]) (st := []) (m_fails1 sh mi mr hM.1) hM.1 rfl rfl rfl (by decide) (Nat.le_of_ble_eq_true rfl) (Nat.le_of_ble_eq_true rfl) (Nat.le_of_ble_eq_true rfl) dX6_faults_15 ?_
    refine zz_if_eq hX 23 dX6_faults_18 (by decide) (fun c => absurd c (by decide)) (fun _ => ?_)
    refine zz_iconst (v := nI 0) hX dX6_faults_21 rfl ?_
    refine zz_iret hX hr rfl (Nat.le_of_ble_eq_true rfl) (Nat.le_of_ble_eq_true rfl) dX6_faults_22 ?_
    exact ⟨_, rfl, Or.inr (Or.inl ⟨(fun h => hA1 (h.2)), (zm_u2s), (zM_th hM)⟩), (zr_mf zr_same.rfl' (by unfold zr_mout; omega))⟩
  have hA1n : zs_ix fx (zv_sk S (i)) := by have q9 := hA1; (try rw [z_i] at q9); exact q9
  obtain ⟨f, hf, rfl⟩ := zs_ix_of hA1n (by omega)
  have z_f : zn (nI f) = f := nI_clamp (n := f) (by omega)
  refine zz_aload_n hX dX6_faults_0 0 rfl rfl ?_
  refine zz_aload_n hX dX6_faults_1 0 rfl rfl ?_
  refine zz_iload_n hX dX6_faults_2 1 rfl rfl ?_
  refine zz_iload_n hX dX6_faults_3 2 rfl rfl ?_
  refine zz_vI (x := zz_bi (zs_ix (nI i) (zv_ns S) ∧ zs_ix (nI f) (zv_sk S (zn (nI i))))) hX zf_M_X6_193 (As := [.int (nI i), .int (nI f)]) (st := [.ref 1]) (M_isStruck S sh mi mr hW hM (nI i) (nI f)) hM.1 rfl rfl rfl (by decide) (Nat.le_of_ble_eq_true rfl) (Nat.le_of_ble_eq_true rfl) (Nat.le_of_ble_eq_true rfl) dX6_faults_4 ?_
  refine zz_if_eqB hX 14 dX6_faults_7 (by decide) (fun c7 => absurd (show zs_ix (nI i) (zv_ns S) ∧ zs_ix (nI f) (zv_sk S (zn (nI i))) from ⟨hA0, hA1⟩) c7) (fun c7 => ?_)
  refine zz_iconst (v := nI 0) hX dX6_faults_10 rfl ?_
  refine zz_goto hX 15 dX6_faults_11 (by decide) ?_
  refine zz_vI (x := nI 0) hX zf_M_X6_108 (As := [.int (nI 0)]) (st := []) (m_fails0 sh mi mr hM.1) hM.1 rfl rfl rfl (by decide) (Nat.le_of_ble_eq_true rfl) (Nat.le_of_ble_eq_true rfl) (Nat.le_of_ble_eq_true rfl) dX6_faults_15 ?_
  refine zz_if_eq hX 23 dX6_faults_18 (by decide) (fun _ => ?_) (fun c => absurd c (by decide))
  refine zz_bipush (v := nI 48) hX dX6_faults_23 rfl ?_
  refine zz_iload_n hX dX6_faults_25 1 rfl rfl ?_
  refine zz_imul (z := nI (48 * i)) hX dX6_faults_26 (pk_mul _ _) ?_
  refine zz_iload_n hX dX6_faults_27 2 rfl rfl ?_
  refine zz_iadd (z := nI (48 * i + f)) hX dX6_faults_28 (nI_add _ _) ?_
  refine zz_istore_n (ls' := [(0, .ref 1), (1, .int (nI i)), (2, .int (nI f)), (3, .int (nI (48 * i + f)))]) hX dX6_faults_29 rfl (Nat.le_of_ble_eq_true rfl) rfl ?_
  refine zz_iconst (v := nI 0) hX dX6_faults_30 rfl ?_
  refine zz_istore (ls' := [(0, .ref 1), (1, .int (nI i)), (2, .int (nI f)), (3, .int (nI (48 * i + f))), (4, .int (nI 0))]) hX dX6_faults_31 (Nat.le_of_ble_eq_true rfl) rfl ?_
  refine zz_iconst (v := nI 0) hX dX6_faults_33 rfl ?_
  refine zz_istore (ls' := [(0, .ref 1), (1, .int (nI i)), (2, .int (nI f)), (3, .int (nI (48 * i + f))), (4, .int (nI 0)), (5, .int (nI 0))]) hX dX6_faults_34 (Nat.le_of_ble_eq_true rfl) rfl ?_
  refine zz_lcl (ls' := [(0, .ref 1), (1, .int (nI i)), (2, .int (nI f)), (3, .int (nI (48 * i + f))), (4, .int (zz_bi (zs_any (fun j => ¬ S 22 (48 * (6 * i + j) + f) = zp_deg S i j f) 0 = true))), (5, .int (nI 0))]) rfl ?_
  have L36 : ∀ (k36 : Nat) (j : Nat), zv_jn S (zv_pu S i) - j < k36 → (j ≤ zv_jn S (zv_pu S i)) → zz Γ (D, E, 7, ad, sh) (zz_End Γ (D, E, 7, ad, sh) (zq_m ((zs_ix (nI i) (zv_ns S)) ∧ (zs_ix (nI f) (zv_sk S (zn (nI i))))) (True) (True) (nI 1) (nI 0) (nI 0) (zp_faults S (zn (nI i)) (zn (nI f))) S S sh mi mr) zz_none 0 0) 0 0 sh (zm_u2 mi 1 30 (nI 0)) mr 36 [(0, .ref 1), (1, .int (nI i)), (2, .int (nI f)), (3, .int (nI (48 * i + f))), (4, .int (zz_bi (zs_any (fun j => ¬ S 22 (48 * (6 * i + j) + f) = zp_deg S i j f) j = true))), (5, .int (nI j))] [] := by
    intro k36
    induction k36 with
    | zero => intro j hk36; exact absurd hk36 (Nat.not_lt_zero _)
    | succ k36 ih36 =>
      intro j hk36 hj9
      refine zz_iload hX dX6_faults_36 5 rfl ?_
      refine zz_aload_n hX dX6_faults_38 0 rfl rfl ?_
      refine zz_getR (y := 101) hX zf_F_X6_7.r hM.1 rfl (zM_r1 hM).1 dX6_faults_39 ?_
      refine zz_aload_n hX dX6_faults_42 0 rfl rfl ?_
      refine zz_getR (y := 110) hX zf_F_X6_31.r hM.1 rfl (zM_r10 hM).1 dX6_faults_43 ?_
      refine zz_iload_n hX dX6_faults_46 1 rfl rfl ?_
      refine zz_iald (x := nI (zv_pu S i)) hX (zM_r10 hM).2 i rfl (by omega) (by decide) (((zm_u2l (by decide))).trans (((zM_v10 hM (k := i) (by omega)).trans (s2 i hi).1))) dX6_faults_47 ?_
      refine zz_iald (x := nI (zv_jn S (zv_pu S i))) hX (zM_r1 hM).2 (zv_pu S i) rfl (by omega) (by decide) (((zm_u2l (by decide))).trans (((zM_v1 hM (k := zv_pu S i) (by omega)).trans (p2 (zv_pu S i) b2).1))) dX6_faults_48 ?_
      refine zz_icmp_geN hX (by omega) (by omega) 95 dX6_faults_49 (by decide) (fun c49 => ?_) (fun c49 => ?_)
      · skip
        refine zz_lcl (ls' := [(0, .ref 1), (1, .int (nI i)), (2, .int (nI f)), (3, .int (nI (48 * i + f))), (4, .int (zz_bi (zs_any (fun j => ¬ S 22 (48 * (6 * i + j) + f) = zp_deg S i j f) (zv_jn S (zv_pu S i)) = true))), (5, .int (nI j))]) (by rw [show j = zv_jn S (zv_pu S i) by omega]) ?_
        refine zz_iload_n hX dX6_faults_95 2 rfl rfl ?_
        refine zz_if_neN hX (by omega) 103 dX6_faults_96 (by decide) (fun c96 => ?_) (fun c96 => ?_)
        · skip
          have hr9 := hWr i f hi hf
          have hr8 := hWr i (f - 1) hi (by omega)
          have hl9 : -1000000000 ≤ (S 26 (48 * i + f) - S 26 (48 * i + (f - 1))).toInt ∧ (S 26 (48 * i + f) - S 26 (48 * i + (f - 1))).toInt ≤ 1000000000 := by have q1 := hr9.2; have q2 := hr8.2; unfold zv_in at q1 q2; rw [zs_smallS (by omega) (by omega)]; omega
          have hab := zs_abs20 hl9
          refine zz_aload_n hX dX6_faults_103 0 rfl rfl ?_
          refine zz_getR (y := 126) hX zf_F_X6_74.r hM.1 rfl (zM_r26 hM).1 dX6_faults_104 ?_
          refine zz_iload_n hX dX6_faults_107 3 rfl rfl ?_
          refine zz_iald (x := S 26 (48 * i + f)) hX (zM_r26 hM).2 (48 * i + f) rfl (by omega) (by decide) (((zm_u2l (by decide))).trans ((zM_v26 hM (k := 48 * i + f) (by omega)))) dX6_faults_108 ?_
          refine zz_aload_n hX dX6_faults_109 0 rfl rfl ?_
          refine zz_getR (y := 126) hX zf_F_X6_74.r hM.1 rfl (zM_r26 hM).1 dX6_faults_110 ?_
          refine zz_iload_n hX dX6_faults_113 3 rfl rfl ?_
          refine zz_iconst (v := nI 1) hX dX6_faults_114 rfl ?_
          refine zz_isub (z := nI ((48 * i + f) - 1)) hX dX6_faults_115 (pk_sub (by omega)) ?_
          refine zz_iald (x := S 26 (48 * i + (f - 1))) hX (zM_r26 hM).2 ((48 * i + f) - 1) rfl (by omega) (by decide) (((zm_u2l (by decide))).trans ((by rw [show (48 * i + f) - 1 = 48 * i + (f - 1) by omega]; exact zM_v26 hM (k := 48 * i + (f - 1)) (by omega)))) dX6_faults_116 ?_
          refine zz_isub (z := (S 26 (48 * i + f)) - (S 26 (48 * i + (f - 1)))) hX dX6_faults_117 rfl ?_
          refine zz_istore (ls' := [(0, .ref 1), (1, .int (nI i)), (2, .int (nI f)), (3, .int (nI (48 * i + f))), (4, .int (zz_bi (zs_any (fun j => ¬ S 22 (48 * (6 * i + j) + f) = zp_deg S i j f) (zv_jn S (zv_pu S i)) = true))), (5, .int ((S 26 (48 * i + f)) - (S 26 (48 * i + (f - 1)))))]) hX dX6_faults_118 (Nat.le_of_ble_eq_true rfl) rfl ?_
          refine zz_iload hX dX6_faults_120 4 rfl ?_
          refine zz_if_eqB hX 129 dX6_faults_122 (by decide) (fun c122 => ?_) (fun c122 => ?_)
          · skip
            refine zz_iconst (v := nI 0) hX dX6_faults_129 rfl ?_
            refine zz_aload_n hX dX6_faults_130 0 rfl rfl ?_
            refine zz_getR (y := 123) hX zf_F_X6_65.r hM.1 rfl (zM_r23 hM).1 dX6_faults_131 ?_
            refine zz_iload_n hX dX6_faults_134 3 rfl rfl ?_
            refine zz_iald (x := S 23 (48 * i + f)) hX (zM_r23 hM).2 (48 * i + f) rfl (by omega) (by decide) (((zm_u2l (by decide))).trans ((zM_v23 hM (k := 48 * i + f) (by omega)))) dX6_faults_135 ?_
            refine zz_aload_n hX dX6_faults_136 0 rfl rfl ?_
            refine zz_iload_n hX dX6_faults_137 1 rfl rfl ?_
            refine zz_iload_n hX dX6_faults_138 2 rfl rfl ?_
            refine zz_vI (x := zp_mouth S i f) hX zf_M_X6_157 (As := [.int (nI i), .int (nI f)]) (st := [.int (S 23 (48 * i + f)), .int (nI 0)]) (M_mouthAt S sh (zm_u2 mi 1 30 (nI 0)) mr hW (zM_th hM) i hi f (by omega)) hM.1 rfl rfl rfl (by decide) (Nat.le_of_ble_eq_true rfl) (Nat.le_of_ble_eq_true rfl) (Nat.le_of_ble_eq_true rfl) dX6_faults_139 ?_
            refine zz_icmp_eq hX 149 dX6_faults_142 (by decide) (fun c142 => ?_) (fun c142 => ?_)
            · skip
              refine zz_iconst (v := nI 0) hX dX6_faults_149 rfl ?_
              refine zz_iadd (z := nI 0) hX dX6_faults_150 rfl ?_
              refine zz_aload_n hX dX6_faults_151 0 rfl rfl ?_
              refine zz_getR (y := 127) hX zf_F_X6_77.r hM.1 rfl (zM_r27 hM).1 dX6_faults_152 ?_
              refine zz_iload_n hX dX6_faults_155 3 rfl rfl ?_
              refine zz_iald (x := S 27 (48 * i + f)) hX (zM_r27 hM).2 (48 * i + f) rfl (by omega) (by decide) (((zm_u2l (by decide))).trans ((zM_v27 hM (k := 48 * i + f) (by omega)))) dX6_faults_156 ?_
              refine zz_if_eq hX 164 dX6_faults_157 (by decide) (fun c157 => ?_) (fun c157 => ?_)
              · skip
                refine zz_iconst (v := nI 0) hX dX6_faults_164 rfl ?_
                refine zz_iadd (z := nI 0) hX dX6_faults_165 rfl ?_
                refine zz_istore (ls' := [(0, .ref 1), (1, .int (nI i)), (2, .int (nI f)), (3, .int (nI (48 * i + f))), (4, .int (zz_bi (zs_any (fun j => ¬ S 22 (48 * (6 * i + j) + f) = zp_deg S i j f) (zv_jn S (zv_pu S i)) = true))), (5, .int ((S 26 (48 * i + f)) - (S 26 (48 * i + (f - 1))))), (6, .int (nI 0))]) hX dX6_faults_166 (Nat.le_of_ble_eq_true rfl) rfl ?_
                refine zz_iload hX dX6_faults_168 6 rfl ?_
                refine zz_iload hX dX6_faults_170 5 rfl ?_
                refine zz_bipush (v := nI 20) hX dX6_faults_172 rfl ?_
                refine zz_icmp_gt hX 184 dX6_faults_174 (by decide) (fun c174 => ?_) (fun c174 => ?_)
                · skip
                  refine zz_bipush (v := nI 8) hX dX6_faults_184 rfl ?_
                  refine zz_goto hX 190 dX6_faults_186 (by decide) ?_
                  refine zz_iadd (z := nI 8) hX dX6_faults_190 rfl ?_
                  refine zz_aload_n hX dX6_faults_191 0 rfl rfl ?_
                  refine zz_getR (y := 125) hX zf_F_X6_71.r hM.1 rfl (zM_r25 hM).1 dX6_faults_192 ?_
                  refine zz_iload_n hX dX6_faults_195 3 rfl rfl ?_
                  refine zz_iald (x := S 25 (48 * i + f)) hX (zM_r25 hM).2 (48 * i + f) rfl (by omega) (by decide) (((zm_u2l (by decide))).trans ((zM_v25 hM (k := 48 * i + f) (by omega)))) dX6_faults_196 ?_
                  refine zz_aload_n hX dX6_faults_197 0 rfl rfl ?_
                  refine zz_iload_n hX dX6_faults_198 1 rfl rfl ?_
                  refine zz_iload_n hX dX6_faults_199 2 rfl rfl ?_
                  refine zz_vI (x := zp_place S i f) hX zf_M_X6_148 (As := [.int (nI i), .int (nI f)]) (st := [.int (S 25 (48 * i + f)), .int (nI 8)]) (M_placeAt S sh (zm_u2 mi 1 30 (nI 0)) mr hW (zM_th hM) i hi f (by omega)) hM.1 rfl rfl rfl (by decide) (Nat.le_of_ble_eq_true rfl) (Nat.le_of_ble_eq_true rfl) (Nat.le_of_ble_eq_true rfl) dX6_faults_200 ?_
                  refine zz_icmp_eq hX 211 dX6_faults_203 (by decide) (fun c203 => ?_) (fun c203 => ?_)
                  · skip
                    refine zz_iconst (v := nI 0) hX dX6_faults_211 rfl ?_
                    refine zz_iadd (z := nI 8) hX dX6_faults_212 rfl ?_
                    refine zz_iret hX hr rfl (Nat.le_of_ble_eq_true rfl) (Nat.le_of_ble_eq_true rfl) dX6_faults_213 ?_
                    exact ⟨_, rfl, Or.inl ⟨⟨hA0, hA1⟩, trivial, trivial, (zm_u2s), (by first | (rw [z_i, z_f, show zp_faults S i f = _ from if_pos c203, show zp_f3 S i f = _ from if_pos ⟨by omega, hab.mpr (Or.inl c174)⟩, show zp_f2 S i f = _ from if_pos c157, show zp_f1 S i f = _ from if_pos c142, show zp_f0 S i f = _ from if_pos (Bool.eq_false_iff.mpr c122)]; done) | (rw [z_i, z_f, show zp_faults S i f = _ from if_pos c203, show zp_f3 S i f = _ from if_pos ⟨by omega, hab.mpr (Or.inl c174)⟩, show zp_f2 S i f = _ from if_pos c157, show zp_f1 S i f = _ from if_pos c142, show zp_f0 S i f = _ from if_pos (Bool.eq_false_iff.mpr c122)]; rfl) | (rw [z_i, z_f, show zp_faults S i f = _ from if_pos c203, show zp_f3 S i f = _ from if_pos ⟨by omega, hab.mpr (Or.inl c174)⟩, show zp_f2 S i f = _ from if_pos c157, show zp_f1 S i f = _ from if_pos c142, show zp_f0 S i f = _ from if_pos (Bool.eq_false_iff.mpr c122)]; decide)), (by (try rw [z_i]); (try rw [z_f]); exact (zM_th hM))⟩, (zr_mf zr_same.rfl' (by unfold zr_mout; omega))⟩
                  · skip
                    refine zz_bipush (v := nI 16) hX dX6_faults_206 rfl ?_
                    refine zz_goto hX 212 dX6_faults_208 (by decide) ?_
                    refine zz_iadd (z := nI 24) hX dX6_faults_212 rfl ?_
                    refine zz_iret hX hr rfl (Nat.le_of_ble_eq_true rfl) (Nat.le_of_ble_eq_true rfl) dX6_faults_213 ?_
                    exact ⟨_, rfl, Or.inl ⟨⟨hA0, hA1⟩, trivial, trivial, (zm_u2s), (by first | (rw [z_i, z_f, show zp_faults S i f = _ from if_neg c203, show zp_f3 S i f = _ from if_pos ⟨by omega, hab.mpr (Or.inl c174)⟩, show zp_f2 S i f = _ from if_pos c157, show zp_f1 S i f = _ from if_pos c142, show zp_f0 S i f = _ from if_pos (Bool.eq_false_iff.mpr c122)]; done) | (rw [z_i, z_f, show zp_faults S i f = _ from if_neg c203, show zp_f3 S i f = _ from if_pos ⟨by omega, hab.mpr (Or.inl c174)⟩, show zp_f2 S i f = _ from if_pos c157, show zp_f1 S i f = _ from if_pos c142, show zp_f0 S i f = _ from if_pos (Bool.eq_false_iff.mpr c122)]; rfl) | (rw [z_i, z_f, show zp_faults S i f = _ from if_neg c203, show zp_f3 S i f = _ from if_pos ⟨by omega, hab.mpr (Or.inl c174)⟩, show zp_f2 S i f = _ from if_pos c157, show zp_f1 S i f = _ from if_pos c142, show zp_f0 S i f = _ from if_pos (Bool.eq_false_iff.mpr c122)]; decide)), (by (try rw [z_i]); (try rw [z_f]); exact (zM_th hM))⟩, (zr_mf zr_same.rfl' (by unfold zr_mout; omega))⟩
                · skip
                  refine zz_iload hX dX6_faults_177 5 rfl ?_
                  refine zz_bipush (v := (-20)) hX dX6_faults_179 rfl ?_
                  refine zz_icmp_ge hX 189 dX6_faults_181 (by decide) (fun c181 => ?_) (fun c181 => ?_)
                  · skip
                    refine zz_iconst (v := nI 0) hX dX6_faults_189 rfl ?_
                    refine zz_iadd (z := nI 0) hX dX6_faults_190 rfl ?_
                    refine zz_aload_n hX dX6_faults_191 0 rfl rfl ?_
                    refine zz_getR (y := 125) hX zf_F_X6_71.r hM.1 rfl (zM_r25 hM).1 dX6_faults_192 ?_
                    refine zz_iload_n hX dX6_faults_195 3 rfl rfl ?_
                    refine zz_iald (x := S 25 (48 * i + f)) hX (zM_r25 hM).2 (48 * i + f) rfl (by omega) (by decide) (((zm_u2l (by decide))).trans ((zM_v25 hM (k := 48 * i + f) (by omega)))) dX6_faults_196 ?_
                    refine zz_aload_n hX dX6_faults_197 0 rfl rfl ?_
                    refine zz_iload_n hX dX6_faults_198 1 rfl rfl ?_
                    refine zz_iload_n hX dX6_faults_199 2 rfl rfl ?_
                    refine zz_vI (x := zp_place S i f) hX zf_M_X6_148 (As := [.int (nI i), .int (nI f)]) (st := [.int (S 25 (48 * i + f)), .int (nI 0)]) (M_placeAt S sh (zm_u2 mi 1 30 (nI 0)) mr hW (zM_th hM) i hi f (by omega)) hM.1 rfl rfl rfl (by decide) (Nat.le_of_ble_eq_true rfl) (Nat.le_of_ble_eq_true rfl) (Nat.le_of_ble_eq_true rfl) dX6_faults_200 ?_
                    refine zz_icmp_eq hX 211 dX6_faults_203 (by decide) (fun c203 => ?_) (fun c203 => ?_)
                    · skip
                      refine zz_iconst (v := nI 0) hX dX6_faults_211 rfl ?_
                      refine zz_iadd (z := nI 0) hX dX6_faults_212 rfl ?_
                      refine zz_iret hX hr rfl (Nat.le_of_ble_eq_true rfl) (Nat.le_of_ble_eq_true rfl) dX6_faults_213 ?_
                      exact ⟨_, rfl, Or.inl ⟨⟨hA0, hA1⟩, trivial, trivial, (zm_u2s), (by first | (rw [z_i, z_f, show zp_faults S i f = _ from if_pos c203, show zp_f3 S i f = _ from if_neg (fun h => (hab.mp h.2).elim c174 (fun h2 => zs_le_n c181 h2)), show zp_f2 S i f = _ from if_pos c157, show zp_f1 S i f = _ from if_pos c142, show zp_f0 S i f = _ from if_pos (Bool.eq_false_iff.mpr c122)]; done) | (rw [z_i, z_f, show zp_faults S i f = _ from if_pos c203, show zp_f3 S i f = _ from if_neg (fun h => (hab.mp h.2).elim c174 (fun h2 => zs_le_n c181 h2)), show zp_f2 S i f = _ from if_pos c157, show zp_f1 S i f = _ from if_pos c142, show zp_f0 S i f = _ from if_pos (Bool.eq_false_iff.mpr c122)]; rfl) | (rw [z_i, z_f, show zp_faults S i f = _ from if_pos c203, show zp_f3 S i f = _ from if_neg (fun h => (hab.mp h.2).elim c174 (fun h2 => zs_le_n c181 h2)), show zp_f2 S i f = _ from if_pos c157, show zp_f1 S i f = _ from if_pos c142, show zp_f0 S i f = _ from if_pos (Bool.eq_false_iff.mpr c122)]; decide)), (by (try rw [z_i]); (try rw [z_f]); exact (zM_th hM))⟩, (zr_mf zr_same.rfl' (by unfold zr_mout; omega))⟩
                    · skip
                      refine zz_bipush (v := nI 16) hX dX6_faults_206 rfl ?_
                      refine zz_goto hX 212 dX6_faults_208 (by decide) ?_
                      refine zz_iadd (z := nI 16) hX dX6_faults_212 rfl ?_
                      refine zz_iret hX hr rfl (Nat.le_of_ble_eq_true rfl) (Nat.le_of_ble_eq_true rfl) dX6_faults_213 ?_
                      exact ⟨_, rfl, Or.inl ⟨⟨hA0, hA1⟩, trivial, trivial, (zm_u2s), (by first | (rw [z_i, z_f, show zp_faults S i f = _ from if_neg c203, show zp_f3 S i f = _ from if_neg (fun h => (hab.mp h.2).elim c174 (fun h2 => zs_le_n c181 h2)), show zp_f2 S i f = _ from if_pos c157, show zp_f1 S i f = _ from if_pos c142, show zp_f0 S i f = _ from if_pos (Bool.eq_false_iff.mpr c122)]; done) | (rw [z_i, z_f, show zp_faults S i f = _ from if_neg c203, show zp_f3 S i f = _ from if_neg (fun h => (hab.mp h.2).elim c174 (fun h2 => zs_le_n c181 h2)), show zp_f2 S i f = _ from if_pos c157, show zp_f1 S i f = _ from if_pos c142, show zp_f0 S i f = _ from if_pos (Bool.eq_false_iff.mpr c122)]; rfl) | (rw [z_i, z_f, show zp_faults S i f = _ from if_neg c203, show zp_f3 S i f = _ from if_neg (fun h => (hab.mp h.2).elim c174 (fun h2 => zs_le_n c181 h2)), show zp_f2 S i f = _ from if_pos c157, show zp_f1 S i f = _ from if_pos c142, show zp_f0 S i f = _ from if_pos (Bool.eq_false_iff.mpr c122)]; decide)), (by (try rw [z_i]); (try rw [z_f]); exact (zM_th hM))⟩, (zr_mf zr_same.rfl' (by unfold zr_mout; omega))⟩
                  · skip
                    refine zz_bipush (v := nI 8) hX dX6_faults_184 rfl ?_
                    refine zz_goto hX 190 dX6_faults_186 (by decide) ?_
                    refine zz_iadd (z := nI 8) hX dX6_faults_190 rfl ?_
                    refine zz_aload_n hX dX6_faults_191 0 rfl rfl ?_
                    refine zz_getR (y := 125) hX zf_F_X6_71.r hM.1 rfl (zM_r25 hM).1 dX6_faults_192 ?_
                    refine zz_iload_n hX dX6_faults_195 3 rfl rfl ?_
                    refine zz_iald (x := S 25 (48 * i + f)) hX (zM_r25 hM).2 (48 * i + f) rfl (by omega) (by decide) (((zm_u2l (by decide))).trans ((zM_v25 hM (k := 48 * i + f) (by omega)))) dX6_faults_196 ?_
                    refine zz_aload_n hX dX6_faults_197 0 rfl rfl ?_
                    refine zz_iload_n hX dX6_faults_198 1 rfl rfl ?_
                    refine zz_iload_n hX dX6_faults_199 2 rfl rfl ?_
                    refine zz_vI (x := zp_place S i f) hX zf_M_X6_148 (As := [.int (nI i), .int (nI f)]) (st := [.int (S 25 (48 * i + f)), .int (nI 8)]) (M_placeAt S sh (zm_u2 mi 1 30 (nI 0)) mr hW (zM_th hM) i hi f (by omega)) hM.1 rfl rfl rfl (by decide) (Nat.le_of_ble_eq_true rfl) (Nat.le_of_ble_eq_true rfl) (Nat.le_of_ble_eq_true rfl) dX6_faults_200 ?_
                    refine zz_icmp_eq hX 211 dX6_faults_203 (by decide) (fun c203 => ?_) (fun c203 => ?_)
                    · skip
                      refine zz_iconst (v := nI 0) hX dX6_faults_211 rfl ?_
                      refine zz_iadd (z := nI 8) hX dX6_faults_212 rfl ?_
                      refine zz_iret hX hr rfl (Nat.le_of_ble_eq_true rfl) (Nat.le_of_ble_eq_true rfl) dX6_faults_213 ?_
                      exact ⟨_, rfl, Or.inl ⟨⟨hA0, hA1⟩, trivial, trivial, (zm_u2s), (by first | (rw [z_i, z_f, show zp_faults S i f = _ from if_pos c203, show zp_f3 S i f = _ from if_pos ⟨by omega, hab.mpr (Or.inr (zs_nle c181))⟩, show zp_f2 S i f = _ from if_pos c157, show zp_f1 S i f = _ from if_pos c142, show zp_f0 S i f = _ from if_pos (Bool.eq_false_iff.mpr c122)]; done) | (rw [z_i, z_f, show zp_faults S i f = _ from if_pos c203, show zp_f3 S i f = _ from if_pos ⟨by omega, hab.mpr (Or.inr (zs_nle c181))⟩, show zp_f2 S i f = _ from if_pos c157, show zp_f1 S i f = _ from if_pos c142, show zp_f0 S i f = _ from if_pos (Bool.eq_false_iff.mpr c122)]; rfl) | (rw [z_i, z_f, show zp_faults S i f = _ from if_pos c203, show zp_f3 S i f = _ from if_pos ⟨by omega, hab.mpr (Or.inr (zs_nle c181))⟩, show zp_f2 S i f = _ from if_pos c157, show zp_f1 S i f = _ from if_pos c142, show zp_f0 S i f = _ from if_pos (Bool.eq_false_iff.mpr c122)]; decide)), (by (try rw [z_i]); (try rw [z_f]); exact (zM_th hM))⟩, (zr_mf zr_same.rfl' (by unfold zr_mout; omega))⟩
                    · skip
                      refine zz_bipush (v := nI 16) hX dX6_faults_206 rfl ?_
                      refine zz_goto hX 212 dX6_faults_208 (by decide) ?_
                      refine zz_iadd (z := nI 24) hX dX6_faults_212 rfl ?_
                      refine zz_iret hX hr rfl (Nat.le_of_ble_eq_true rfl) (Nat.le_of_ble_eq_true rfl) dX6_faults_213 ?_
                      exact ⟨_, rfl, Or.inl ⟨⟨hA0, hA1⟩, trivial, trivial, (zm_u2s), (by first | (rw [z_i, z_f, show zp_faults S i f = _ from if_neg c203, show zp_f3 S i f = _ from if_pos ⟨by omega, hab.mpr (Or.inr (zs_nle c181))⟩, show zp_f2 S i f = _ from if_pos c157, show zp_f1 S i f = _ from if_pos c142, show zp_f0 S i f = _ from if_pos (Bool.eq_false_iff.mpr c122)]; done) | (rw [z_i, z_f, show zp_faults S i f = _ from if_neg c203, show zp_f3 S i f = _ from if_pos ⟨by omega, hab.mpr (Or.inr (zs_nle c181))⟩, show zp_f2 S i f = _ from if_pos c157, show zp_f1 S i f = _ from if_pos c142, show zp_f0 S i f = _ from if_pos (Bool.eq_false_iff.mpr c122)]; rfl) | (rw [z_i, z_f, show zp_faults S i f = _ from if_neg c203, show zp_f3 S i f = _ from if_pos ⟨by omega, hab.mpr (Or.inr (zs_nle c181))⟩, show zp_f2 S i f = _ from if_pos c157, show zp_f1 S i f = _ from if_pos c142, show zp_f0 S i f = _ from if_pos (Bool.eq_false_iff.mpr c122)]; decide)), (by (try rw [z_i]); (try rw [z_f]); exact (zM_th hM))⟩, (zr_mf zr_same.rfl' (by unfold zr_mout; omega))⟩
              · skip
                refine zz_iconst (v := nI 4) hX dX6_faults_160 rfl ?_
                refine zz_goto hX 165 dX6_faults_161 (by decide) ?_
                refine zz_iadd (z := nI 4) hX dX6_faults_165 rfl ?_
                refine zz_istore (ls' := [(0, .ref 1), (1, .int (nI i)), (2, .int (nI f)), (3, .int (nI (48 * i + f))), (4, .int (zz_bi (zs_any (fun j => ¬ S 22 (48 * (6 * i + j) + f) = zp_deg S i j f) (zv_jn S (zv_pu S i)) = true))), (5, .int ((S 26 (48 * i + f)) - (S 26 (48 * i + (f - 1))))), (6, .int (nI 4))]) hX dX6_faults_166 (Nat.le_of_ble_eq_true rfl) rfl ?_
                refine zz_iload hX dX6_faults_168 6 rfl ?_
                refine zz_iload hX dX6_faults_170 5 rfl ?_
                refine zz_bipush (v := nI 20) hX dX6_faults_172 rfl ?_
                refine zz_icmp_gt hX 184 dX6_faults_174 (by decide) (fun c174 => ?_) (fun c174 => ?_)
                · skip
                  refine zz_bipush (v := nI 8) hX dX6_faults_184 rfl ?_
                  refine zz_goto hX 190 dX6_faults_186 (by decide) ?_
                  refine zz_iadd (z := nI 12) hX dX6_faults_190 rfl ?_
                  refine zz_aload_n hX dX6_faults_191 0 rfl rfl ?_
                  refine zz_getR (y := 125) hX zf_F_X6_71.r hM.1 rfl (zM_r25 hM).1 dX6_faults_192 ?_
                  refine zz_iload_n hX dX6_faults_195 3 rfl rfl ?_
                  refine zz_iald (x := S 25 (48 * i + f)) hX (zM_r25 hM).2 (48 * i + f) rfl (by omega) (by decide) (((zm_u2l (by decide))).trans ((zM_v25 hM (k := 48 * i + f) (by omega)))) dX6_faults_196 ?_
                  refine zz_aload_n hX dX6_faults_197 0 rfl rfl ?_
                  refine zz_iload_n hX dX6_faults_198 1 rfl rfl ?_
                  refine zz_iload_n hX dX6_faults_199 2 rfl rfl ?_
                  refine zz_vI (x := zp_place S i f) hX zf_M_X6_148 (As := [.int (nI i), .int (nI f)]) (st := [.int (S 25 (48 * i + f)), .int (nI 12)]) (M_placeAt S sh (zm_u2 mi 1 30 (nI 0)) mr hW (zM_th hM) i hi f (by omega)) hM.1 rfl rfl rfl (by decide) (Nat.le_of_ble_eq_true rfl) (Nat.le_of_ble_eq_true rfl) (Nat.le_of_ble_eq_true rfl) dX6_faults_200 ?_
                  refine zz_icmp_eq hX 211 dX6_faults_203 (by decide) (fun c203 => ?_) (fun c203 => ?_)
                  · skip
                    refine zz_iconst (v := nI 0) hX dX6_faults_211 rfl ?_
                    refine zz_iadd (z := nI 12) hX dX6_faults_212 rfl ?_
                    refine zz_iret hX hr rfl (Nat.le_of_ble_eq_true rfl) (Nat.le_of_ble_eq_true rfl) dX6_faults_213 ?_
                    exact ⟨_, rfl, Or.inl ⟨⟨hA0, hA1⟩, trivial, trivial, (zm_u2s), (by first | (rw [z_i, z_f, show zp_faults S i f = _ from if_pos c203, show zp_f3 S i f = _ from if_pos ⟨by omega, hab.mpr (Or.inl c174)⟩, show zp_f2 S i f = _ from if_neg c157, show zp_f1 S i f = _ from if_pos c142, show zp_f0 S i f = _ from if_pos (Bool.eq_false_iff.mpr c122)]; done) | (rw [z_i, z_f, show zp_faults S i f = _ from if_pos c203, show zp_f3 S i f = _ from if_pos ⟨by omega, hab.mpr (Or.inl c174)⟩, show zp_f2 S i f = _ from if_neg c157, show zp_f1 S i f = _ from if_pos c142, show zp_f0 S i f = _ from if_pos (Bool.eq_false_iff.mpr c122)]; rfl) | (rw [z_i, z_f, show zp_faults S i f = _ from if_pos c203, show zp_f3 S i f = _ from if_pos ⟨by omega, hab.mpr (Or.inl c174)⟩, show zp_f2 S i f = _ from if_neg c157, show zp_f1 S i f = _ from if_pos c142, show zp_f0 S i f = _ from if_pos (Bool.eq_false_iff.mpr c122)]; decide)), (by (try rw [z_i]); (try rw [z_f]); exact (zM_th hM))⟩, (zr_mf zr_same.rfl' (by unfold zr_mout; omega))⟩
                  · skip
                    refine zz_bipush (v := nI 16) hX dX6_faults_206 rfl ?_
                    refine zz_goto hX 212 dX6_faults_208 (by decide) ?_
                    refine zz_iadd (z := nI 28) hX dX6_faults_212 rfl ?_
                    refine zz_iret hX hr rfl (Nat.le_of_ble_eq_true rfl) (Nat.le_of_ble_eq_true rfl) dX6_faults_213 ?_
                    exact ⟨_, rfl, Or.inl ⟨⟨hA0, hA1⟩, trivial, trivial, (zm_u2s), (by first | (rw [z_i, z_f, show zp_faults S i f = _ from if_neg c203, show zp_f3 S i f = _ from if_pos ⟨by omega, hab.mpr (Or.inl c174)⟩, show zp_f2 S i f = _ from if_neg c157, show zp_f1 S i f = _ from if_pos c142, show zp_f0 S i f = _ from if_pos (Bool.eq_false_iff.mpr c122)]; done) | (rw [z_i, z_f, show zp_faults S i f = _ from if_neg c203, show zp_f3 S i f = _ from if_pos ⟨by omega, hab.mpr (Or.inl c174)⟩, show zp_f2 S i f = _ from if_neg c157, show zp_f1 S i f = _ from if_pos c142, show zp_f0 S i f = _ from if_pos (Bool.eq_false_iff.mpr c122)]; rfl) | (rw [z_i, z_f, show zp_faults S i f = _ from if_neg c203, show zp_f3 S i f = _ from if_pos ⟨by omega, hab.mpr (Or.inl c174)⟩, show zp_f2 S i f = _ from if_neg c157, show zp_f1 S i f = _ from if_pos c142, show zp_f0 S i f = _ from if_pos (Bool.eq_false_iff.mpr c122)]; decide)), (by (try rw [z_i]); (try rw [z_f]); exact (zM_th hM))⟩, (zr_mf zr_same.rfl' (by unfold zr_mout; omega))⟩
                · skip
                  refine zz_iload hX dX6_faults_177 5 rfl ?_
                  refine zz_bipush (v := (-20)) hX dX6_faults_179 rfl ?_
                  refine zz_icmp_ge hX 189 dX6_faults_181 (by decide) (fun c181 => ?_) (fun c181 => ?_)
                  · skip
                    refine zz_iconst (v := nI 0) hX dX6_faults_189 rfl ?_
                    refine zz_iadd (z := nI 4) hX dX6_faults_190 rfl ?_
                    refine zz_aload_n hX dX6_faults_191 0 rfl rfl ?_
                    refine zz_getR (y := 125) hX zf_F_X6_71.r hM.1 rfl (zM_r25 hM).1 dX6_faults_192 ?_
                    refine zz_iload_n hX dX6_faults_195 3 rfl rfl ?_
                    refine zz_iald (x := S 25 (48 * i + f)) hX (zM_r25 hM).2 (48 * i + f) rfl (by omega) (by decide) (((zm_u2l (by decide))).trans ((zM_v25 hM (k := 48 * i + f) (by omega)))) dX6_faults_196 ?_
                    refine zz_aload_n hX dX6_faults_197 0 rfl rfl ?_
                    refine zz_iload_n hX dX6_faults_198 1 rfl rfl ?_
                    refine zz_iload_n hX dX6_faults_199 2 rfl rfl ?_
                    refine zz_vI (x := zp_place S i f) hX zf_M_X6_148 (As := [.int (nI i), .int (nI f)]) (st := [.int (S 25 (48 * i + f)), .int (nI 4)]) (M_placeAt S sh (zm_u2 mi 1 30 (nI 0)) mr hW (zM_th hM) i hi f (by omega)) hM.1 rfl rfl rfl (by decide) (Nat.le_of_ble_eq_true rfl) (Nat.le_of_ble_eq_true rfl) (Nat.le_of_ble_eq_true rfl) dX6_faults_200 ?_
                    refine zz_icmp_eq hX 211 dX6_faults_203 (by decide) (fun c203 => ?_) (fun c203 => ?_)
                    · skip
                      refine zz_iconst (v := nI 0) hX dX6_faults_211 rfl ?_
                      refine zz_iadd (z := nI 4) hX dX6_faults_212 rfl ?_
                      refine zz_iret hX hr rfl (Nat.le_of_ble_eq_true rfl) (Nat.le_of_ble_eq_true rfl) dX6_faults_213 ?_
                      exact ⟨_, rfl, Or.inl ⟨⟨hA0, hA1⟩, trivial, trivial, (zm_u2s), (by first | (rw [z_i, z_f, show zp_faults S i f = _ from if_pos c203, show zp_f3 S i f = _ from if_neg (fun h => (hab.mp h.2).elim c174 (fun h2 => zs_le_n c181 h2)), show zp_f2 S i f = _ from if_neg c157, show zp_f1 S i f = _ from if_pos c142, show zp_f0 S i f = _ from if_pos (Bool.eq_false_iff.mpr c122)]; done) | (rw [z_i, z_f, show zp_faults S i f = _ from if_pos c203, show zp_f3 S i f = _ from if_neg (fun h => (hab.mp h.2).elim c174 (fun h2 => zs_le_n c181 h2)), show zp_f2 S i f = _ from if_neg c157, show zp_f1 S i f = _ from if_pos c142, show zp_f0 S i f = _ from if_pos (Bool.eq_false_iff.mpr c122)]; rfl) | (rw [z_i, z_f, show zp_faults S i f = _ from if_pos c203, show zp_f3 S i f = _ from if_neg (fun h => (hab.mp h.2).elim c174 (fun h2 => zs_le_n c181 h2)), show zp_f2 S i f = _ from if_neg c157, show zp_f1 S i f = _ from if_pos c142, show zp_f0 S i f = _ from if_pos (Bool.eq_false_iff.mpr c122)]; decide)), (by (try rw [z_i]); (try rw [z_f]); exact (zM_th hM))⟩, (zr_mf zr_same.rfl' (by unfold zr_mout; omega))⟩
                    · skip
                      refine zz_bipush (v := nI 16) hX dX6_faults_206 rfl ?_
                      refine zz_goto hX 212 dX6_faults_208 (by decide) ?_
                      refine zz_iadd (z := nI 20) hX dX6_faults_212 rfl ?_
                      refine zz_iret hX hr rfl (Nat.le_of_ble_eq_true rfl) (Nat.le_of_ble_eq_true rfl) dX6_faults_213 ?_
                      exact ⟨_, rfl, Or.inl ⟨⟨hA0, hA1⟩, trivial, trivial, (zm_u2s), (by first | (rw [z_i, z_f, show zp_faults S i f = _ from if_neg c203, show zp_f3 S i f = _ from if_neg (fun h => (hab.mp h.2).elim c174 (fun h2 => zs_le_n c181 h2)), show zp_f2 S i f = _ from if_neg c157, show zp_f1 S i f = _ from if_pos c142, show zp_f0 S i f = _ from if_pos (Bool.eq_false_iff.mpr c122)]; done) | (rw [z_i, z_f, show zp_faults S i f = _ from if_neg c203, show zp_f3 S i f = _ from if_neg (fun h => (hab.mp h.2).elim c174 (fun h2 => zs_le_n c181 h2)), show zp_f2 S i f = _ from if_neg c157, show zp_f1 S i f = _ from if_pos c142, show zp_f0 S i f = _ from if_pos (Bool.eq_false_iff.mpr c122)]; rfl) | (rw [z_i, z_f, show zp_faults S i f = _ from if_neg c203, show zp_f3 S i f = _ from if_neg (fun h => (hab.mp h.2).elim c174 (fun h2 => zs_le_n c181 h2)), show zp_f2 S i f = _ from if_neg c157, show zp_f1 S i f = _ from if_pos c142, show zp_f0 S i f = _ from if_pos (Bool.eq_false_iff.mpr c122)]; decide)), (by (try rw [z_i]); (try rw [z_f]); exact (zM_th hM))⟩, (zr_mf zr_same.rfl' (by unfold zr_mout; omega))⟩
                  · skip
                    refine zz_bipush (v := nI 8) hX dX6_faults_184 rfl ?_
                    refine zz_goto hX 190 dX6_faults_186 (by decide) ?_
                    refine zz_iadd (z := nI 12) hX dX6_faults_190 rfl ?_
                    refine zz_aload_n hX dX6_faults_191 0 rfl rfl ?_
                    refine zz_getR (y := 125) hX zf_F_X6_71.r hM.1 rfl (zM_r25 hM).1 dX6_faults_192 ?_
                    refine zz_iload_n hX dX6_faults_195 3 rfl rfl ?_
                    refine zz_iald (x := S 25 (48 * i + f)) hX (zM_r25 hM).2 (48 * i + f) rfl (by omega) (by decide) (((zm_u2l (by decide))).trans ((zM_v25 hM (k := 48 * i + f) (by omega)))) dX6_faults_196 ?_
                    refine zz_aload_n hX dX6_faults_197 0 rfl rfl ?_
                    refine zz_iload_n hX dX6_faults_198 1 rfl rfl ?_
                    refine zz_iload_n hX dX6_faults_199 2 rfl rfl ?_
                    refine zz_vI (x := zp_place S i f) hX zf_M_X6_148 (As := [.int (nI i), .int (nI f)]) (st := [.int (S 25 (48 * i + f)), .int (nI 12)]) (M_placeAt S sh (zm_u2 mi 1 30 (nI 0)) mr hW (zM_th hM) i hi f (by omega)) hM.1 rfl rfl rfl (by decide) (Nat.le_of_ble_eq_true rfl) (Nat.le_of_ble_eq_true rfl) (Nat.le_of_ble_eq_true rfl) dX6_faults_200 ?_
                    refine zz_icmp_eq hX 211 dX6_faults_203 (by decide) (fun c203 => ?_) (fun c203 => ?_)
                    · skip
                      refine zz_iconst (v := nI 0) hX dX6_faults_211 rfl ?_
                      refine zz_iadd (z := nI 12) hX dX6_faults_212 rfl ?_
                      refine zz_iret hX hr rfl (Nat.le_of_ble_eq_true rfl) (Nat.le_of_ble_eq_true rfl) dX6_faults_213 ?_
                      exact ⟨_, rfl, Or.inl ⟨⟨hA0, hA1⟩, trivial, trivial, (zm_u2s), (by first | (rw [z_i, z_f, show zp_faults S i f = _ from if_pos c203, show zp_f3 S i f = _ from if_pos ⟨by omega, hab.mpr (Or.inr (zs_nle c181))⟩, show zp_f2 S i f = _ from if_neg c157, show zp_f1 S i f = _ from if_pos c142, show zp_f0 S i f = _ from if_pos (Bool.eq_false_iff.mpr c122)]; done) | (rw [z_i, z_f, show zp_faults S i f = _ from if_pos c203, show zp_f3 S i f = _ from if_pos ⟨by omega, hab.mpr (Or.inr (zs_nle c181))⟩, show zp_f2 S i f = _ from if_neg c157, show zp_f1 S i f = _ from if_pos c142, show zp_f0 S i f = _ from if_pos (Bool.eq_false_iff.mpr c122)]; rfl) | (rw [z_i, z_f, show zp_faults S i f = _ from if_pos c203, show zp_f3 S i f = _ from if_pos ⟨by omega, hab.mpr (Or.inr (zs_nle c181))⟩, show zp_f2 S i f = _ from if_neg c157, show zp_f1 S i f = _ from if_pos c142, show zp_f0 S i f = _ from if_pos (Bool.eq_false_iff.mpr c122)]; decide)), (by (try rw [z_i]); (try rw [z_f]); exact (zM_th hM))⟩, (zr_mf zr_same.rfl' (by unfold zr_mout; omega))⟩
                    · skip
                      refine zz_bipush (v := nI 16) hX dX6_faults_206 rfl ?_
                      refine zz_goto hX 212 dX6_faults_208 (by decide) ?_
                      refine zz_iadd (z := nI 28) hX dX6_faults_212 rfl ?_
                      refine zz_iret hX hr rfl (Nat.le_of_ble_eq_true rfl) (Nat.le_of_ble_eq_true rfl) dX6_faults_213 ?_
                      exact ⟨_, rfl, Or.inl ⟨⟨hA0, hA1⟩, trivial, trivial, (zm_u2s), (by first | (rw [z_i, z_f, show zp_faults S i f = _ from if_neg c203, show zp_f3 S i f = _ from if_pos ⟨by omega, hab.mpr (Or.inr (zs_nle c181))⟩, show zp_f2 S i f = _ from if_neg c157, show zp_f1 S i f = _ from if_pos c142, show zp_f0 S i f = _ from if_pos (Bool.eq_false_iff.mpr c122)]; done) | (rw [z_i, z_f, show zp_faults S i f = _ from if_neg c203, show zp_f3 S i f = _ from if_pos ⟨by omega, hab.mpr (Or.inr (zs_nle c181))⟩, show zp_f2 S i f = _ from if_neg c157, show zp_f1 S i f = _ from if_pos c142, show zp_f0 S i f = _ from if_pos (Bool.eq_false_iff.mpr c122)]; rfl) | (rw [z_i, z_f, show zp_faults S i f = _ from if_neg c203, show zp_f3 S i f = _ from if_pos ⟨by omega, hab.mpr (Or.inr (zs_nle c181))⟩, show zp_f2 S i f = _ from if_neg c157, show zp_f1 S i f = _ from if_pos c142, show zp_f0 S i f = _ from if_pos (Bool.eq_false_iff.mpr c122)]; decide)), (by (try rw [z_i]); (try rw [z_f]); exact (zM_th hM))⟩, (zr_mf zr_same.rfl' (by unfold zr_mout; omega))⟩
            · skip
              refine zz_iconst (v := nI 2) hX dX6_faults_145 rfl ?_
              refine zz_goto hX 150 dX6_faults_146 (by decide) ?_
              refine zz_iadd (z := nI 2) hX dX6_faults_150 rfl ?_
              refine zz_aload_n hX dX6_faults_151 0 rfl rfl ?_
              refine zz_getR (y := 127) hX zf_F_X6_77.r hM.1 rfl (zM_r27 hM).1 dX6_faults_152 ?_
              refine zz_iload_n hX dX6_faults_155 3 rfl rfl ?_
              refine zz_iald (x := S 27 (48 * i + f)) hX (zM_r27 hM).2 (48 * i + f) rfl (by omega) (by decide) (((zm_u2l (by decide))).trans ((zM_v27 hM (k := 48 * i + f) (by omega)))) dX6_faults_156 ?_
              refine zz_if_eq hX 164 dX6_faults_157 (by decide) (fun c157 => ?_) (fun c157 => ?_)
              · skip
                refine zz_iconst (v := nI 0) hX dX6_faults_164 rfl ?_
                refine zz_iadd (z := nI 2) hX dX6_faults_165 rfl ?_
                refine zz_istore (ls' := [(0, .ref 1), (1, .int (nI i)), (2, .int (nI f)), (3, .int (nI (48 * i + f))), (4, .int (zz_bi (zs_any (fun j => ¬ S 22 (48 * (6 * i + j) + f) = zp_deg S i j f) (zv_jn S (zv_pu S i)) = true))), (5, .int ((S 26 (48 * i + f)) - (S 26 (48 * i + (f - 1))))), (6, .int (nI 2))]) hX dX6_faults_166 (Nat.le_of_ble_eq_true rfl) rfl ?_
                refine zz_iload hX dX6_faults_168 6 rfl ?_
                refine zz_iload hX dX6_faults_170 5 rfl ?_
                refine zz_bipush (v := nI 20) hX dX6_faults_172 rfl ?_
                refine zz_icmp_gt hX 184 dX6_faults_174 (by decide) (fun c174 => ?_) (fun c174 => ?_)
                · skip
                  refine zz_bipush (v := nI 8) hX dX6_faults_184 rfl ?_
                  refine zz_goto hX 190 dX6_faults_186 (by decide) ?_
                  refine zz_iadd (z := nI 10) hX dX6_faults_190 rfl ?_
                  refine zz_aload_n hX dX6_faults_191 0 rfl rfl ?_
                  refine zz_getR (y := 125) hX zf_F_X6_71.r hM.1 rfl (zM_r25 hM).1 dX6_faults_192 ?_
                  refine zz_iload_n hX dX6_faults_195 3 rfl rfl ?_
                  refine zz_iald (x := S 25 (48 * i + f)) hX (zM_r25 hM).2 (48 * i + f) rfl (by omega) (by decide) (((zm_u2l (by decide))).trans ((zM_v25 hM (k := 48 * i + f) (by omega)))) dX6_faults_196 ?_
                  refine zz_aload_n hX dX6_faults_197 0 rfl rfl ?_
                  refine zz_iload_n hX dX6_faults_198 1 rfl rfl ?_
                  refine zz_iload_n hX dX6_faults_199 2 rfl rfl ?_
                  refine zz_vI (x := zp_place S i f) hX zf_M_X6_148 (As := [.int (nI i), .int (nI f)]) (st := [.int (S 25 (48 * i + f)), .int (nI 10)]) (M_placeAt S sh (zm_u2 mi 1 30 (nI 0)) mr hW (zM_th hM) i hi f (by omega)) hM.1 rfl rfl rfl (by decide) (Nat.le_of_ble_eq_true rfl) (Nat.le_of_ble_eq_true rfl) (Nat.le_of_ble_eq_true rfl) dX6_faults_200 ?_
                  refine zz_icmp_eq hX 211 dX6_faults_203 (by decide) (fun c203 => ?_) (fun c203 => ?_)
                  · skip
                    refine zz_iconst (v := nI 0) hX dX6_faults_211 rfl ?_
                    refine zz_iadd (z := nI 10) hX dX6_faults_212 rfl ?_
                    refine zz_iret hX hr rfl (Nat.le_of_ble_eq_true rfl) (Nat.le_of_ble_eq_true rfl) dX6_faults_213 ?_
                    exact ⟨_, rfl, Or.inl ⟨⟨hA0, hA1⟩, trivial, trivial, (zm_u2s), (by first | (rw [z_i, z_f, show zp_faults S i f = _ from if_pos c203, show zp_f3 S i f = _ from if_pos ⟨by omega, hab.mpr (Or.inl c174)⟩, show zp_f2 S i f = _ from if_pos c157, show zp_f1 S i f = _ from if_neg c142, show zp_f0 S i f = _ from if_pos (Bool.eq_false_iff.mpr c122)]; done) | (rw [z_i, z_f, show zp_faults S i f = _ from if_pos c203, show zp_f3 S i f = _ from if_pos ⟨by omega, hab.mpr (Or.inl c174)⟩, show zp_f2 S i f = _ from if_pos c157, show zp_f1 S i f = _ from if_neg c142, show zp_f0 S i f = _ from if_pos (Bool.eq_false_iff.mpr c122)]; rfl) | (rw [z_i, z_f, show zp_faults S i f = _ from if_pos c203, show zp_f3 S i f = _ from if_pos ⟨by omega, hab.mpr (Or.inl c174)⟩, show zp_f2 S i f = _ from if_pos c157, show zp_f1 S i f = _ from if_neg c142, show zp_f0 S i f = _ from if_pos (Bool.eq_false_iff.mpr c122)]; decide)), (by (try rw [z_i]); (try rw [z_f]); exact (zM_th hM))⟩, (zr_mf zr_same.rfl' (by unfold zr_mout; omega))⟩
                  · skip
                    refine zz_bipush (v := nI 16) hX dX6_faults_206 rfl ?_
                    refine zz_goto hX 212 dX6_faults_208 (by decide) ?_
                    refine zz_iadd (z := nI 26) hX dX6_faults_212 rfl ?_
                    refine zz_iret hX hr rfl (Nat.le_of_ble_eq_true rfl) (Nat.le_of_ble_eq_true rfl) dX6_faults_213 ?_
                    exact ⟨_, rfl, Or.inl ⟨⟨hA0, hA1⟩, trivial, trivial, (zm_u2s), (by first | (rw [z_i, z_f, show zp_faults S i f = _ from if_neg c203, show zp_f3 S i f = _ from if_pos ⟨by omega, hab.mpr (Or.inl c174)⟩, show zp_f2 S i f = _ from if_pos c157, show zp_f1 S i f = _ from if_neg c142, show zp_f0 S i f = _ from if_pos (Bool.eq_false_iff.mpr c122)]; done) | (rw [z_i, z_f, show zp_faults S i f = _ from if_neg c203, show zp_f3 S i f = _ from if_pos ⟨by omega, hab.mpr (Or.inl c174)⟩, show zp_f2 S i f = _ from if_pos c157, show zp_f1 S i f = _ from if_neg c142, show zp_f0 S i f = _ from if_pos (Bool.eq_false_iff.mpr c122)]; rfl) | (rw [z_i, z_f, show zp_faults S i f = _ from if_neg c203, show zp_f3 S i f = _ from if_pos ⟨by omega, hab.mpr (Or.inl c174)⟩, show zp_f2 S i f = _ from if_pos c157, show zp_f1 S i f = _ from if_neg c142, show zp_f0 S i f = _ from if_pos (Bool.eq_false_iff.mpr c122)]; decide)), (by (try rw [z_i]); (try rw [z_f]); exact (zM_th hM))⟩, (zr_mf zr_same.rfl' (by unfold zr_mout; omega))⟩
                · skip
                  refine zz_iload hX dX6_faults_177 5 rfl ?_
                  refine zz_bipush (v := (-20)) hX dX6_faults_179 rfl ?_
                  refine zz_icmp_ge hX 189 dX6_faults_181 (by decide) (fun c181 => ?_) (fun c181 => ?_)
                  · skip
                    refine zz_iconst (v := nI 0) hX dX6_faults_189 rfl ?_
                    refine zz_iadd (z := nI 2) hX dX6_faults_190 rfl ?_
                    refine zz_aload_n hX dX6_faults_191 0 rfl rfl ?_
                    refine zz_getR (y := 125) hX zf_F_X6_71.r hM.1 rfl (zM_r25 hM).1 dX6_faults_192 ?_
                    refine zz_iload_n hX dX6_faults_195 3 rfl rfl ?_
                    refine zz_iald (x := S 25 (48 * i + f)) hX (zM_r25 hM).2 (48 * i + f) rfl (by omega) (by decide) (((zm_u2l (by decide))).trans ((zM_v25 hM (k := 48 * i + f) (by omega)))) dX6_faults_196 ?_
                    refine zz_aload_n hX dX6_faults_197 0 rfl rfl ?_
                    refine zz_iload_n hX dX6_faults_198 1 rfl rfl ?_
                    refine zz_iload_n hX dX6_faults_199 2 rfl rfl ?_
                    refine zz_vI (x := zp_place S i f) hX zf_M_X6_148 (As := [.int (nI i), .int (nI f)]) (st := [.int (S 25 (48 * i + f)), .int (nI 2)]) (M_placeAt S sh (zm_u2 mi 1 30 (nI 0)) mr hW (zM_th hM) i hi f (by omega)) hM.1 rfl rfl rfl (by decide) (Nat.le_of_ble_eq_true rfl) (Nat.le_of_ble_eq_true rfl) (Nat.le_of_ble_eq_true rfl) dX6_faults_200 ?_
                    refine zz_icmp_eq hX 211 dX6_faults_203 (by decide) (fun c203 => ?_) (fun c203 => ?_)
                    · skip
                      refine zz_iconst (v := nI 0) hX dX6_faults_211 rfl ?_
                      refine zz_iadd (z := nI 2) hX dX6_faults_212 rfl ?_
                      refine zz_iret hX hr rfl (Nat.le_of_ble_eq_true rfl) (Nat.le_of_ble_eq_true rfl) dX6_faults_213 ?_
                      exact ⟨_, rfl, Or.inl ⟨⟨hA0, hA1⟩, trivial, trivial, (zm_u2s), (by first | (rw [z_i, z_f, show zp_faults S i f = _ from if_pos c203, show zp_f3 S i f = _ from if_neg (fun h => (hab.mp h.2).elim c174 (fun h2 => zs_le_n c181 h2)), show zp_f2 S i f = _ from if_pos c157, show zp_f1 S i f = _ from if_neg c142, show zp_f0 S i f = _ from if_pos (Bool.eq_false_iff.mpr c122)]; done) | (rw [z_i, z_f, show zp_faults S i f = _ from if_pos c203, show zp_f3 S i f = _ from if_neg (fun h => (hab.mp h.2).elim c174 (fun h2 => zs_le_n c181 h2)), show zp_f2 S i f = _ from if_pos c157, show zp_f1 S i f = _ from if_neg c142, show zp_f0 S i f = _ from if_pos (Bool.eq_false_iff.mpr c122)]; rfl) | (rw [z_i, z_f, show zp_faults S i f = _ from if_pos c203, show zp_f3 S i f = _ from if_neg (fun h => (hab.mp h.2).elim c174 (fun h2 => zs_le_n c181 h2)), show zp_f2 S i f = _ from if_pos c157, show zp_f1 S i f = _ from if_neg c142, show zp_f0 S i f = _ from if_pos (Bool.eq_false_iff.mpr c122)]; decide)), (by (try rw [z_i]); (try rw [z_f]); exact (zM_th hM))⟩, (zr_mf zr_same.rfl' (by unfold zr_mout; omega))⟩
                    · skip
                      refine zz_bipush (v := nI 16) hX dX6_faults_206 rfl ?_
                      refine zz_goto hX 212 dX6_faults_208 (by decide) ?_
                      refine zz_iadd (z := nI 18) hX dX6_faults_212 rfl ?_
                      refine zz_iret hX hr rfl (Nat.le_of_ble_eq_true rfl) (Nat.le_of_ble_eq_true rfl) dX6_faults_213 ?_
                      exact ⟨_, rfl, Or.inl ⟨⟨hA0, hA1⟩, trivial, trivial, (zm_u2s), (by first | (rw [z_i, z_f, show zp_faults S i f = _ from if_neg c203, show zp_f3 S i f = _ from if_neg (fun h => (hab.mp h.2).elim c174 (fun h2 => zs_le_n c181 h2)), show zp_f2 S i f = _ from if_pos c157, show zp_f1 S i f = _ from if_neg c142, show zp_f0 S i f = _ from if_pos (Bool.eq_false_iff.mpr c122)]; done) | (rw [z_i, z_f, show zp_faults S i f = _ from if_neg c203, show zp_f3 S i f = _ from if_neg (fun h => (hab.mp h.2).elim c174 (fun h2 => zs_le_n c181 h2)), show zp_f2 S i f = _ from if_pos c157, show zp_f1 S i f = _ from if_neg c142, show zp_f0 S i f = _ from if_pos (Bool.eq_false_iff.mpr c122)]; rfl) | (rw [z_i, z_f, show zp_faults S i f = _ from if_neg c203, show zp_f3 S i f = _ from if_neg (fun h => (hab.mp h.2).elim c174 (fun h2 => zs_le_n c181 h2)), show zp_f2 S i f = _ from if_pos c157, show zp_f1 S i f = _ from if_neg c142, show zp_f0 S i f = _ from if_pos (Bool.eq_false_iff.mpr c122)]; decide)), (by (try rw [z_i]); (try rw [z_f]); exact (zM_th hM))⟩, (zr_mf zr_same.rfl' (by unfold zr_mout; omega))⟩
                  · skip
                    refine zz_bipush (v := nI 8) hX dX6_faults_184 rfl ?_
                    refine zz_goto hX 190 dX6_faults_186 (by decide) ?_
                    refine zz_iadd (z := nI 10) hX dX6_faults_190 rfl ?_
                    refine zz_aload_n hX dX6_faults_191 0 rfl rfl ?_
                    refine zz_getR (y := 125) hX zf_F_X6_71.r hM.1 rfl (zM_r25 hM).1 dX6_faults_192 ?_
                    refine zz_iload_n hX dX6_faults_195 3 rfl rfl ?_
                    refine zz_iald (x := S 25 (48 * i + f)) hX (zM_r25 hM).2 (48 * i + f) rfl (by omega) (by decide) (((zm_u2l (by decide))).trans ((zM_v25 hM (k := 48 * i + f) (by omega)))) dX6_faults_196 ?_
                    refine zz_aload_n hX dX6_faults_197 0 rfl rfl ?_
                    refine zz_iload_n hX dX6_faults_198 1 rfl rfl ?_
                    refine zz_iload_n hX dX6_faults_199 2 rfl rfl ?_
                    refine zz_vI (x := zp_place S i f) hX zf_M_X6_148 (As := [.int (nI i), .int (nI f)]) (st := [.int (S 25 (48 * i + f)), .int (nI 10)]) (M_placeAt S sh (zm_u2 mi 1 30 (nI 0)) mr hW (zM_th hM) i hi f (by omega)) hM.1 rfl rfl rfl (by decide) (Nat.le_of_ble_eq_true rfl) (Nat.le_of_ble_eq_true rfl) (Nat.le_of_ble_eq_true rfl) dX6_faults_200 ?_
                    refine zz_icmp_eq hX 211 dX6_faults_203 (by decide) (fun c203 => ?_) (fun c203 => ?_)
                    · skip
                      refine zz_iconst (v := nI 0) hX dX6_faults_211 rfl ?_
                      refine zz_iadd (z := nI 10) hX dX6_faults_212 rfl ?_
                      refine zz_iret hX hr rfl (Nat.le_of_ble_eq_true rfl) (Nat.le_of_ble_eq_true rfl) dX6_faults_213 ?_
                      exact ⟨_, rfl, Or.inl ⟨⟨hA0, hA1⟩, trivial, trivial, (zm_u2s), (by first | (rw [z_i, z_f, show zp_faults S i f = _ from if_pos c203, show zp_f3 S i f = _ from if_pos ⟨by omega, hab.mpr (Or.inr (zs_nle c181))⟩, show zp_f2 S i f = _ from if_pos c157, show zp_f1 S i f = _ from if_neg c142, show zp_f0 S i f = _ from if_pos (Bool.eq_false_iff.mpr c122)]; done) | (rw [z_i, z_f, show zp_faults S i f = _ from if_pos c203, show zp_f3 S i f = _ from if_pos ⟨by omega, hab.mpr (Or.inr (zs_nle c181))⟩, show zp_f2 S i f = _ from if_pos c157, show zp_f1 S i f = _ from if_neg c142, show zp_f0 S i f = _ from if_pos (Bool.eq_false_iff.mpr c122)]; rfl) | (rw [z_i, z_f, show zp_faults S i f = _ from if_pos c203, show zp_f3 S i f = _ from if_pos ⟨by omega, hab.mpr (Or.inr (zs_nle c181))⟩, show zp_f2 S i f = _ from if_pos c157, show zp_f1 S i f = _ from if_neg c142, show zp_f0 S i f = _ from if_pos (Bool.eq_false_iff.mpr c122)]; decide)), (by (try rw [z_i]); (try rw [z_f]); exact (zM_th hM))⟩, (zr_mf zr_same.rfl' (by unfold zr_mout; omega))⟩
                    · skip
                      refine zz_bipush (v := nI 16) hX dX6_faults_206 rfl ?_
                      refine zz_goto hX 212 dX6_faults_208 (by decide) ?_
                      refine zz_iadd (z := nI 26) hX dX6_faults_212 rfl ?_
                      refine zz_iret hX hr rfl (Nat.le_of_ble_eq_true rfl) (Nat.le_of_ble_eq_true rfl) dX6_faults_213 ?_
                      exact ⟨_, rfl, Or.inl ⟨⟨hA0, hA1⟩, trivial, trivial, (zm_u2s), (by first | (rw [z_i, z_f, show zp_faults S i f = _ from if_neg c203, show zp_f3 S i f = _ from if_pos ⟨by omega, hab.mpr (Or.inr (zs_nle c181))⟩, show zp_f2 S i f = _ from if_pos c157, show zp_f1 S i f = _ from if_neg c142, show zp_f0 S i f = _ from if_pos (Bool.eq_false_iff.mpr c122)]; done) | (rw [z_i, z_f, show zp_faults S i f = _ from if_neg c203, show zp_f3 S i f = _ from if_pos ⟨by omega, hab.mpr (Or.inr (zs_nle c181))⟩, show zp_f2 S i f = _ from if_pos c157, show zp_f1 S i f = _ from if_neg c142, show zp_f0 S i f = _ from if_pos (Bool.eq_false_iff.mpr c122)]; rfl) | (rw [z_i, z_f, show zp_faults S i f = _ from if_neg c203, show zp_f3 S i f = _ from if_pos ⟨by omega, hab.mpr (Or.inr (zs_nle c181))⟩, show zp_f2 S i f = _ from if_pos c157, show zp_f1 S i f = _ from if_neg c142, show zp_f0 S i f = _ from if_pos (Bool.eq_false_iff.mpr c122)]; decide)), (by (try rw [z_i]); (try rw [z_f]); exact (zM_th hM))⟩, (zr_mf zr_same.rfl' (by unfold zr_mout; omega))⟩
              · skip
                refine zz_iconst (v := nI 4) hX dX6_faults_160 rfl ?_
                refine zz_goto hX 165 dX6_faults_161 (by decide) ?_
                refine zz_iadd (z := nI 6) hX dX6_faults_165 rfl ?_
                refine zz_istore (ls' := [(0, .ref 1), (1, .int (nI i)), (2, .int (nI f)), (3, .int (nI (48 * i + f))), (4, .int (zz_bi (zs_any (fun j => ¬ S 22 (48 * (6 * i + j) + f) = zp_deg S i j f) (zv_jn S (zv_pu S i)) = true))), (5, .int ((S 26 (48 * i + f)) - (S 26 (48 * i + (f - 1))))), (6, .int (nI 6))]) hX dX6_faults_166 (Nat.le_of_ble_eq_true rfl) rfl ?_
                refine zz_iload hX dX6_faults_168 6 rfl ?_
                refine zz_iload hX dX6_faults_170 5 rfl ?_
                refine zz_bipush (v := nI 20) hX dX6_faults_172 rfl ?_
                refine zz_icmp_gt hX 184 dX6_faults_174 (by decide) (fun c174 => ?_) (fun c174 => ?_)
                · skip
                  refine zz_bipush (v := nI 8) hX dX6_faults_184 rfl ?_
                  refine zz_goto hX 190 dX6_faults_186 (by decide) ?_
                  refine zz_iadd (z := nI 14) hX dX6_faults_190 rfl ?_
                  refine zz_aload_n hX dX6_faults_191 0 rfl rfl ?_
                  refine zz_getR (y := 125) hX zf_F_X6_71.r hM.1 rfl (zM_r25 hM).1 dX6_faults_192 ?_
                  refine zz_iload_n hX dX6_faults_195 3 rfl rfl ?_
                  refine zz_iald (x := S 25 (48 * i + f)) hX (zM_r25 hM).2 (48 * i + f) rfl (by omega) (by decide) (((zm_u2l (by decide))).trans ((zM_v25 hM (k := 48 * i + f) (by omega)))) dX6_faults_196 ?_
                  refine zz_aload_n hX dX6_faults_197 0 rfl rfl ?_
                  refine zz_iload_n hX dX6_faults_198 1 rfl rfl ?_
                  refine zz_iload_n hX dX6_faults_199 2 rfl rfl ?_
                  refine zz_vI (x := zp_place S i f) hX zf_M_X6_148 (As := [.int (nI i), .int (nI f)]) (st := [.int (S 25 (48 * i + f)), .int (nI 14)]) (M_placeAt S sh (zm_u2 mi 1 30 (nI 0)) mr hW (zM_th hM) i hi f (by omega)) hM.1 rfl rfl rfl (by decide) (Nat.le_of_ble_eq_true rfl) (Nat.le_of_ble_eq_true rfl) (Nat.le_of_ble_eq_true rfl) dX6_faults_200 ?_
                  refine zz_icmp_eq hX 211 dX6_faults_203 (by decide) (fun c203 => ?_) (fun c203 => ?_)
                  · skip
                    refine zz_iconst (v := nI 0) hX dX6_faults_211 rfl ?_
                    refine zz_iadd (z := nI 14) hX dX6_faults_212 rfl ?_
                    refine zz_iret hX hr rfl (Nat.le_of_ble_eq_true rfl) (Nat.le_of_ble_eq_true rfl) dX6_faults_213 ?_
                    exact ⟨_, rfl, Or.inl ⟨⟨hA0, hA1⟩, trivial, trivial, (zm_u2s), (by first | (rw [z_i, z_f, show zp_faults S i f = _ from if_pos c203, show zp_f3 S i f = _ from if_pos ⟨by omega, hab.mpr (Or.inl c174)⟩, show zp_f2 S i f = _ from if_neg c157, show zp_f1 S i f = _ from if_neg c142, show zp_f0 S i f = _ from if_pos (Bool.eq_false_iff.mpr c122)]; done) | (rw [z_i, z_f, show zp_faults S i f = _ from if_pos c203, show zp_f3 S i f = _ from if_pos ⟨by omega, hab.mpr (Or.inl c174)⟩, show zp_f2 S i f = _ from if_neg c157, show zp_f1 S i f = _ from if_neg c142, show zp_f0 S i f = _ from if_pos (Bool.eq_false_iff.mpr c122)]; rfl) | (rw [z_i, z_f, show zp_faults S i f = _ from if_pos c203, show zp_f3 S i f = _ from if_pos ⟨by omega, hab.mpr (Or.inl c174)⟩, show zp_f2 S i f = _ from if_neg c157, show zp_f1 S i f = _ from if_neg c142, show zp_f0 S i f = _ from if_pos (Bool.eq_false_iff.mpr c122)]; decide)), (by (try rw [z_i]); (try rw [z_f]); exact (zM_th hM))⟩, (zr_mf zr_same.rfl' (by unfold zr_mout; omega))⟩
                  · skip
                    refine zz_bipush (v := nI 16) hX dX6_faults_206 rfl ?_
                    refine zz_goto hX 212 dX6_faults_208 (by decide) ?_
                    refine zz_iadd (z := nI 30) hX dX6_faults_212 rfl ?_
                    refine zz_iret hX hr rfl (Nat.le_of_ble_eq_true rfl) (Nat.le_of_ble_eq_true rfl) dX6_faults_213 ?_
                    exact ⟨_, rfl, Or.inl ⟨⟨hA0, hA1⟩, trivial, trivial, (zm_u2s), (by first | (rw [z_i, z_f, show zp_faults S i f = _ from if_neg c203, show zp_f3 S i f = _ from if_pos ⟨by omega, hab.mpr (Or.inl c174)⟩, show zp_f2 S i f = _ from if_neg c157, show zp_f1 S i f = _ from if_neg c142, show zp_f0 S i f = _ from if_pos (Bool.eq_false_iff.mpr c122)]; done) | (rw [z_i, z_f, show zp_faults S i f = _ from if_neg c203, show zp_f3 S i f = _ from if_pos ⟨by omega, hab.mpr (Or.inl c174)⟩, show zp_f2 S i f = _ from if_neg c157, show zp_f1 S i f = _ from if_neg c142, show zp_f0 S i f = _ from if_pos (Bool.eq_false_iff.mpr c122)]; rfl) | (rw [z_i, z_f, show zp_faults S i f = _ from if_neg c203, show zp_f3 S i f = _ from if_pos ⟨by omega, hab.mpr (Or.inl c174)⟩, show zp_f2 S i f = _ from if_neg c157, show zp_f1 S i f = _ from if_neg c142, show zp_f0 S i f = _ from if_pos (Bool.eq_false_iff.mpr c122)]; decide)), (by (try rw [z_i]); (try rw [z_f]); exact (zM_th hM))⟩, (zr_mf zr_same.rfl' (by unfold zr_mout; omega))⟩
                · skip
                  refine zz_iload hX dX6_faults_177 5 rfl ?_
                  refine zz_bipush (v := (-20)) hX dX6_faults_179 rfl ?_
                  refine zz_icmp_ge hX 189 dX6_faults_181 (by decide) (fun c181 => ?_) (fun c181 => ?_)
                  · skip
                    refine zz_iconst (v := nI 0) hX dX6_faults_189 rfl ?_
                    refine zz_iadd (z := nI 6) hX dX6_faults_190 rfl ?_
                    refine zz_aload_n hX dX6_faults_191 0 rfl rfl ?_
                    refine zz_getR (y := 125) hX zf_F_X6_71.r hM.1 rfl (zM_r25 hM).1 dX6_faults_192 ?_
                    refine zz_iload_n hX dX6_faults_195 3 rfl rfl ?_
                    refine zz_iald (x := S 25 (48 * i + f)) hX (zM_r25 hM).2 (48 * i + f) rfl (by omega) (by decide) (((zm_u2l (by decide))).trans ((zM_v25 hM (k := 48 * i + f) (by omega)))) dX6_faults_196 ?_
                    refine zz_aload_n hX dX6_faults_197 0 rfl rfl ?_
                    refine zz_iload_n hX dX6_faults_198 1 rfl rfl ?_
                    refine zz_iload_n hX dX6_faults_199 2 rfl rfl ?_
                    refine zz_vI (x := zp_place S i f) hX zf_M_X6_148 (As := [.int (nI i), .int (nI f)]) (st := [.int (S 25 (48 * i + f)), .int (nI 6)]) (M_placeAt S sh (zm_u2 mi 1 30 (nI 0)) mr hW (zM_th hM) i hi f (by omega)) hM.1 rfl rfl rfl (by decide) (Nat.le_of_ble_eq_true rfl) (Nat.le_of_ble_eq_true rfl) (Nat.le_of_ble_eq_true rfl) dX6_faults_200 ?_
                    refine zz_icmp_eq hX 211 dX6_faults_203 (by decide) (fun c203 => ?_) (fun c203 => ?_)
                    · skip
                      refine zz_iconst (v := nI 0) hX dX6_faults_211 rfl ?_
                      refine zz_iadd (z := nI 6) hX dX6_faults_212 rfl ?_
                      refine zz_iret hX hr rfl (Nat.le_of_ble_eq_true rfl) (Nat.le_of_ble_eq_true rfl) dX6_faults_213 ?_
                      exact ⟨_, rfl, Or.inl ⟨⟨hA0, hA1⟩, trivial, trivial, (zm_u2s), (by first | (rw [z_i, z_f, show zp_faults S i f = _ from if_pos c203, show zp_f3 S i f = _ from if_neg (fun h => (hab.mp h.2).elim c174 (fun h2 => zs_le_n c181 h2)), show zp_f2 S i f = _ from if_neg c157, show zp_f1 S i f = _ from if_neg c142, show zp_f0 S i f = _ from if_pos (Bool.eq_false_iff.mpr c122)]; done) | (rw [z_i, z_f, show zp_faults S i f = _ from if_pos c203, show zp_f3 S i f = _ from if_neg (fun h => (hab.mp h.2).elim c174 (fun h2 => zs_le_n c181 h2)), show zp_f2 S i f = _ from if_neg c157, show zp_f1 S i f = _ from if_neg c142, show zp_f0 S i f = _ from if_pos (Bool.eq_false_iff.mpr c122)]; rfl) | (rw [z_i, z_f, show zp_faults S i f = _ from if_pos c203, show zp_f3 S i f = _ from if_neg (fun h => (hab.mp h.2).elim c174 (fun h2 => zs_le_n c181 h2)), show zp_f2 S i f = _ from if_neg c157, show zp_f1 S i f = _ from if_neg c142, show zp_f0 S i f = _ from if_pos (Bool.eq_false_iff.mpr c122)]; decide)), (by (try rw [z_i]); (try rw [z_f]); exact (zM_th hM))⟩, (zr_mf zr_same.rfl' (by unfold zr_mout; omega))⟩
                    · skip
                      refine zz_bipush (v := nI 16) hX dX6_faults_206 rfl ?_
                      refine zz_goto hX 212 dX6_faults_208 (by decide) ?_
                      refine zz_iadd (z := nI 22) hX dX6_faults_212 rfl ?_
                      refine zz_iret hX hr rfl (Nat.le_of_ble_eq_true rfl) (Nat.le_of_ble_eq_true rfl) dX6_faults_213 ?_
                      exact ⟨_, rfl, Or.inl ⟨⟨hA0, hA1⟩, trivial, trivial, (zm_u2s), (by first | (rw [z_i, z_f, show zp_faults S i f = _ from if_neg c203, show zp_f3 S i f = _ from if_neg (fun h => (hab.mp h.2).elim c174 (fun h2 => zs_le_n c181 h2)), show zp_f2 S i f = _ from if_neg c157, show zp_f1 S i f = _ from if_neg c142, show zp_f0 S i f = _ from if_pos (Bool.eq_false_iff.mpr c122)]; done) | (rw [z_i, z_f, show zp_faults S i f = _ from if_neg c203, show zp_f3 S i f = _ from if_neg (fun h => (hab.mp h.2).elim c174 (fun h2 => zs_le_n c181 h2)), show zp_f2 S i f = _ from if_neg c157, show zp_f1 S i f = _ from if_neg c142, show zp_f0 S i f = _ from if_pos (Bool.eq_false_iff.mpr c122)]; rfl) | (rw [z_i, z_f, show zp_faults S i f = _ from if_neg c203, show zp_f3 S i f = _ from if_neg (fun h => (hab.mp h.2).elim c174 (fun h2 => zs_le_n c181 h2)), show zp_f2 S i f = _ from if_neg c157, show zp_f1 S i f = _ from if_neg c142, show zp_f0 S i f = _ from if_pos (Bool.eq_false_iff.mpr c122)]; decide)), (by (try rw [z_i]); (try rw [z_f]); exact (zM_th hM))⟩, (zr_mf zr_same.rfl' (by unfold zr_mout; omega))⟩
                  · skip
                    refine zz_bipush (v := nI 8) hX dX6_faults_184 rfl ?_
                    refine zz_goto hX 190 dX6_faults_186 (by decide) ?_
                    refine zz_iadd (z := nI 14) hX dX6_faults_190 rfl ?_
                    refine zz_aload_n hX dX6_faults_191 0 rfl rfl ?_
                    refine zz_getR (y := 125) hX zf_F_X6_71.r hM.1 rfl (zM_r25 hM).1 dX6_faults_192 ?_
                    refine zz_iload_n hX dX6_faults_195 3 rfl rfl ?_
                    refine zz_iald (x := S 25 (48 * i + f)) hX (zM_r25 hM).2 (48 * i + f) rfl (by omega) (by decide) (((zm_u2l (by decide))).trans ((zM_v25 hM (k := 48 * i + f) (by omega)))) dX6_faults_196 ?_
                    refine zz_aload_n hX dX6_faults_197 0 rfl rfl ?_
                    refine zz_iload_n hX dX6_faults_198 1 rfl rfl ?_
                    refine zz_iload_n hX dX6_faults_199 2 rfl rfl ?_
                    refine zz_vI (x := zp_place S i f) hX zf_M_X6_148 (As := [.int (nI i), .int (nI f)]) (st := [.int (S 25 (48 * i + f)), .int (nI 14)]) (M_placeAt S sh (zm_u2 mi 1 30 (nI 0)) mr hW (zM_th hM) i hi f (by omega)) hM.1 rfl rfl rfl (by decide) (Nat.le_of_ble_eq_true rfl) (Nat.le_of_ble_eq_true rfl) (Nat.le_of_ble_eq_true rfl) dX6_faults_200 ?_
                    refine zz_icmp_eq hX 211 dX6_faults_203 (by decide) (fun c203 => ?_) (fun c203 => ?_)
                    · skip
                      refine zz_iconst (v := nI 0) hX dX6_faults_211 rfl ?_
                      refine zz_iadd (z := nI 14) hX dX6_faults_212 rfl ?_
                      refine zz_iret hX hr rfl (Nat.le_of_ble_eq_true rfl) (Nat.le_of_ble_eq_true rfl) dX6_faults_213 ?_
                      exact ⟨_, rfl, Or.inl ⟨⟨hA0, hA1⟩, trivial, trivial, (zm_u2s), (by first | (rw [z_i, z_f, show zp_faults S i f = _ from if_pos c203, show zp_f3 S i f = _ from if_pos ⟨by omega, hab.mpr (Or.inr (zs_nle c181))⟩, show zp_f2 S i f = _ from if_neg c157, show zp_f1 S i f = _ from if_neg c142, show zp_f0 S i f = _ from if_pos (Bool.eq_false_iff.mpr c122)]; done) | (rw [z_i, z_f, show zp_faults S i f = _ from if_pos c203, show zp_f3 S i f = _ from if_pos ⟨by omega, hab.mpr (Or.inr (zs_nle c181))⟩, show zp_f2 S i f = _ from if_neg c157, show zp_f1 S i f = _ from if_neg c142, show zp_f0 S i f = _ from if_pos (Bool.eq_false_iff.mpr c122)]; rfl) | (rw [z_i, z_f, show zp_faults S i f = _ from if_pos c203, show zp_f3 S i f = _ from if_pos ⟨by omega, hab.mpr (Or.inr (zs_nle c181))⟩, show zp_f2 S i f = _ from if_neg c157, show zp_f1 S i f = _ from if_neg c142, show zp_f0 S i f = _ from if_pos (Bool.eq_false_iff.mpr c122)]; decide)), (by (try rw [z_i]); (try rw [z_f]); exact (zM_th hM))⟩, (zr_mf zr_same.rfl' (by unfold zr_mout; omega))⟩
                    · skip
                      refine zz_bipush (v := nI 16) hX dX6_faults_206 rfl ?_
                      refine zz_goto hX 212 dX6_faults_208 (by decide) ?_
                      refine zz_iadd (z := nI 30) hX dX6_faults_212 rfl ?_
                      refine zz_iret hX hr rfl (Nat.le_of_ble_eq_true rfl) (Nat.le_of_ble_eq_true rfl) dX6_faults_213 ?_
                      exact ⟨_, rfl, Or.inl ⟨⟨hA0, hA1⟩, trivial, trivial, (zm_u2s), (by first | (rw [z_i, z_f, show zp_faults S i f = _ from if_neg c203, show zp_f3 S i f = _ from if_pos ⟨by omega, hab.mpr (Or.inr (zs_nle c181))⟩, show zp_f2 S i f = _ from if_neg c157, show zp_f1 S i f = _ from if_neg c142, show zp_f0 S i f = _ from if_pos (Bool.eq_false_iff.mpr c122)]; done) | (rw [z_i, z_f, show zp_faults S i f = _ from if_neg c203, show zp_f3 S i f = _ from if_pos ⟨by omega, hab.mpr (Or.inr (zs_nle c181))⟩, show zp_f2 S i f = _ from if_neg c157, show zp_f1 S i f = _ from if_neg c142, show zp_f0 S i f = _ from if_pos (Bool.eq_false_iff.mpr c122)]; rfl) | (rw [z_i, z_f, show zp_faults S i f = _ from if_neg c203, show zp_f3 S i f = _ from if_pos ⟨by omega, hab.mpr (Or.inr (zs_nle c181))⟩, show zp_f2 S i f = _ from if_neg c157, show zp_f1 S i f = _ from if_neg c142, show zp_f0 S i f = _ from if_pos (Bool.eq_false_iff.mpr c122)]; decide)), (by (try rw [z_i]); (try rw [z_f]); exact (zM_th hM))⟩, (zr_mf zr_same.rfl' (by unfold zr_mout; omega))⟩
          · skip
            refine zz_iconst (v := nI 1) hX dX6_faults_125 rfl ?_
            refine zz_goto hX 130 dX6_faults_126 (by decide) ?_
            refine zz_aload_n hX dX6_faults_130 0 rfl rfl ?_
            refine zz_getR (y := 123) hX zf_F_X6_65.r hM.1 rfl (zM_r23 hM).1 dX6_faults_131 ?_
            refine zz_iload_n hX dX6_faults_134 3 rfl rfl ?_
            refine zz_iald (x := S 23 (48 * i + f)) hX (zM_r23 hM).2 (48 * i + f) rfl (by omega) (by decide) (((zm_u2l (by decide))).trans ((zM_v23 hM (k := 48 * i + f) (by omega)))) dX6_faults_135 ?_
            refine zz_aload_n hX dX6_faults_136 0 rfl rfl ?_
            refine zz_iload_n hX dX6_faults_137 1 rfl rfl ?_
            refine zz_iload_n hX dX6_faults_138 2 rfl rfl ?_
            refine zz_vI (x := zp_mouth S i f) hX zf_M_X6_157 (As := [.int (nI i), .int (nI f)]) (st := [.int (S 23 (48 * i + f)), .int (nI 1)]) (M_mouthAt S sh (zm_u2 mi 1 30 (nI 0)) mr hW (zM_th hM) i hi f (by omega)) hM.1 rfl rfl rfl (by decide) (Nat.le_of_ble_eq_true rfl) (Nat.le_of_ble_eq_true rfl) (Nat.le_of_ble_eq_true rfl) dX6_faults_139 ?_
            refine zz_icmp_eq hX 149 dX6_faults_142 (by decide) (fun c142 => ?_) (fun c142 => ?_)
            · skip
              refine zz_iconst (v := nI 0) hX dX6_faults_149 rfl ?_
              refine zz_iadd (z := nI 1) hX dX6_faults_150 rfl ?_
              refine zz_aload_n hX dX6_faults_151 0 rfl rfl ?_
              refine zz_getR (y := 127) hX zf_F_X6_77.r hM.1 rfl (zM_r27 hM).1 dX6_faults_152 ?_
              refine zz_iload_n hX dX6_faults_155 3 rfl rfl ?_
              refine zz_iald (x := S 27 (48 * i + f)) hX (zM_r27 hM).2 (48 * i + f) rfl (by omega) (by decide) (((zm_u2l (by decide))).trans ((zM_v27 hM (k := 48 * i + f) (by omega)))) dX6_faults_156 ?_
              refine zz_if_eq hX 164 dX6_faults_157 (by decide) (fun c157 => ?_) (fun c157 => ?_)
              · skip
                refine zz_iconst (v := nI 0) hX dX6_faults_164 rfl ?_
                refine zz_iadd (z := nI 1) hX dX6_faults_165 rfl ?_
                refine zz_istore (ls' := [(0, .ref 1), (1, .int (nI i)), (2, .int (nI f)), (3, .int (nI (48 * i + f))), (4, .int (zz_bi (zs_any (fun j => ¬ S 22 (48 * (6 * i + j) + f) = zp_deg S i j f) (zv_jn S (zv_pu S i)) = true))), (5, .int ((S 26 (48 * i + f)) - (S 26 (48 * i + (f - 1))))), (6, .int (nI 1))]) hX dX6_faults_166 (Nat.le_of_ble_eq_true rfl) rfl ?_
                refine zz_iload hX dX6_faults_168 6 rfl ?_
                refine zz_iload hX dX6_faults_170 5 rfl ?_
                refine zz_bipush (v := nI 20) hX dX6_faults_172 rfl ?_
                refine zz_icmp_gt hX 184 dX6_faults_174 (by decide) (fun c174 => ?_) (fun c174 => ?_)
                · skip
                  refine zz_bipush (v := nI 8) hX dX6_faults_184 rfl ?_
                  refine zz_goto hX 190 dX6_faults_186 (by decide) ?_
                  refine zz_iadd (z := nI 9) hX dX6_faults_190 rfl ?_
                  refine zz_aload_n hX dX6_faults_191 0 rfl rfl ?_
                  refine zz_getR (y := 125) hX zf_F_X6_71.r hM.1 rfl (zM_r25 hM).1 dX6_faults_192 ?_
                  refine zz_iload_n hX dX6_faults_195 3 rfl rfl ?_
                  refine zz_iald (x := S 25 (48 * i + f)) hX (zM_r25 hM).2 (48 * i + f) rfl (by omega) (by decide) (((zm_u2l (by decide))).trans ((zM_v25 hM (k := 48 * i + f) (by omega)))) dX6_faults_196 ?_
                  refine zz_aload_n hX dX6_faults_197 0 rfl rfl ?_
                  refine zz_iload_n hX dX6_faults_198 1 rfl rfl ?_
                  refine zz_iload_n hX dX6_faults_199 2 rfl rfl ?_
                  refine zz_vI (x := zp_place S i f) hX zf_M_X6_148 (As := [.int (nI i), .int (nI f)]) (st := [.int (S 25 (48 * i + f)), .int (nI 9)]) (M_placeAt S sh (zm_u2 mi 1 30 (nI 0)) mr hW (zM_th hM) i hi f (by omega)) hM.1 rfl rfl rfl (by decide) (Nat.le_of_ble_eq_true rfl) (Nat.le_of_ble_eq_true rfl) (Nat.le_of_ble_eq_true rfl) dX6_faults_200 ?_
                  refine zz_icmp_eq hX 211 dX6_faults_203 (by decide) (fun c203 => ?_) (fun c203 => ?_)
                  · skip
                    refine zz_iconst (v := nI 0) hX dX6_faults_211 rfl ?_
                    refine zz_iadd (z := nI 9) hX dX6_faults_212 rfl ?_
                    refine zz_iret hX hr rfl (Nat.le_of_ble_eq_true rfl) (Nat.le_of_ble_eq_true rfl) dX6_faults_213 ?_
                    exact ⟨_, rfl, Or.inl ⟨⟨hA0, hA1⟩, trivial, trivial, (zm_u2s), (by first | (rw [z_i, z_f, show zp_faults S i f = _ from if_pos c203, show zp_f3 S i f = _ from if_pos ⟨by omega, hab.mpr (Or.inl c174)⟩, show zp_f2 S i f = _ from if_pos c157, show zp_f1 S i f = _ from if_pos c142, show zp_f0 S i f = _ from if_neg (fun h => by rw [c122] at h; cases h)]; done) | (rw [z_i, z_f, show zp_faults S i f = _ from if_pos c203, show zp_f3 S i f = _ from if_pos ⟨by omega, hab.mpr (Or.inl c174)⟩, show zp_f2 S i f = _ from if_pos c157, show zp_f1 S i f = _ from if_pos c142, show zp_f0 S i f = _ from if_neg (fun h => by rw [c122] at h; cases h)]; rfl) | (rw [z_i, z_f, show zp_faults S i f = _ from if_pos c203, show zp_f3 S i f = _ from if_pos ⟨by omega, hab.mpr (Or.inl c174)⟩, show zp_f2 S i f = _ from if_pos c157, show zp_f1 S i f = _ from if_pos c142, show zp_f0 S i f = _ from if_neg (fun h => by rw [c122] at h; cases h)]; decide)), (by (try rw [z_i]); (try rw [z_f]); exact (zM_th hM))⟩, (zr_mf zr_same.rfl' (by unfold zr_mout; omega))⟩
                  · skip
                    refine zz_bipush (v := nI 16) hX dX6_faults_206 rfl ?_
                    refine zz_goto hX 212 dX6_faults_208 (by decide) ?_
                    refine zz_iadd (z := nI 25) hX dX6_faults_212 rfl ?_
                    refine zz_iret hX hr rfl (Nat.le_of_ble_eq_true rfl) (Nat.le_of_ble_eq_true rfl) dX6_faults_213 ?_
                    exact ⟨_, rfl, Or.inl ⟨⟨hA0, hA1⟩, trivial, trivial, (zm_u2s), (by first | (rw [z_i, z_f, show zp_faults S i f = _ from if_neg c203, show zp_f3 S i f = _ from if_pos ⟨by omega, hab.mpr (Or.inl c174)⟩, show zp_f2 S i f = _ from if_pos c157, show zp_f1 S i f = _ from if_pos c142, show zp_f0 S i f = _ from if_neg (fun h => by rw [c122] at h; cases h)]; done) | (rw [z_i, z_f, show zp_faults S i f = _ from if_neg c203, show zp_f3 S i f = _ from if_pos ⟨by omega, hab.mpr (Or.inl c174)⟩, show zp_f2 S i f = _ from if_pos c157, show zp_f1 S i f = _ from if_pos c142, show zp_f0 S i f = _ from if_neg (fun h => by rw [c122] at h; cases h)]; rfl) | (rw [z_i, z_f, show zp_faults S i f = _ from if_neg c203, show zp_f3 S i f = _ from if_pos ⟨by omega, hab.mpr (Or.inl c174)⟩, show zp_f2 S i f = _ from if_pos c157, show zp_f1 S i f = _ from if_pos c142, show zp_f0 S i f = _ from if_neg (fun h => by rw [c122] at h; cases h)]; decide)), (by (try rw [z_i]); (try rw [z_f]); exact (zM_th hM))⟩, (zr_mf zr_same.rfl' (by unfold zr_mout; omega))⟩
                · skip
                  refine zz_iload hX dX6_faults_177 5 rfl ?_
                  refine zz_bipush (v := (-20)) hX dX6_faults_179 rfl ?_
                  refine zz_icmp_ge hX 189 dX6_faults_181 (by decide) (fun c181 => ?_) (fun c181 => ?_)
                  · skip
                    refine zz_iconst (v := nI 0) hX dX6_faults_189 rfl ?_
                    refine zz_iadd (z := nI 1) hX dX6_faults_190 rfl ?_
                    refine zz_aload_n hX dX6_faults_191 0 rfl rfl ?_
                    refine zz_getR (y := 125) hX zf_F_X6_71.r hM.1 rfl (zM_r25 hM).1 dX6_faults_192 ?_
                    refine zz_iload_n hX dX6_faults_195 3 rfl rfl ?_
                    refine zz_iald (x := S 25 (48 * i + f)) hX (zM_r25 hM).2 (48 * i + f) rfl (by omega) (by decide) (((zm_u2l (by decide))).trans ((zM_v25 hM (k := 48 * i + f) (by omega)))) dX6_faults_196 ?_
                    refine zz_aload_n hX dX6_faults_197 0 rfl rfl ?_
                    refine zz_iload_n hX dX6_faults_198 1 rfl rfl ?_
                    refine zz_iload_n hX dX6_faults_199 2 rfl rfl ?_
                    refine zz_vI (x := zp_place S i f) hX zf_M_X6_148 (As := [.int (nI i), .int (nI f)]) (st := [.int (S 25 (48 * i + f)), .int (nI 1)]) (M_placeAt S sh (zm_u2 mi 1 30 (nI 0)) mr hW (zM_th hM) i hi f (by omega)) hM.1 rfl rfl rfl (by decide) (Nat.le_of_ble_eq_true rfl) (Nat.le_of_ble_eq_true rfl) (Nat.le_of_ble_eq_true rfl) dX6_faults_200 ?_
                    refine zz_icmp_eq hX 211 dX6_faults_203 (by decide) (fun c203 => ?_) (fun c203 => ?_)
                    · skip
                      refine zz_iconst (v := nI 0) hX dX6_faults_211 rfl ?_
                      refine zz_iadd (z := nI 1) hX dX6_faults_212 rfl ?_
                      refine zz_iret hX hr rfl (Nat.le_of_ble_eq_true rfl) (Nat.le_of_ble_eq_true rfl) dX6_faults_213 ?_
                      exact ⟨_, rfl, Or.inl ⟨⟨hA0, hA1⟩, trivial, trivial, (zm_u2s), (by first | (rw [z_i, z_f, show zp_faults S i f = _ from if_pos c203, show zp_f3 S i f = _ from if_neg (fun h => (hab.mp h.2).elim c174 (fun h2 => zs_le_n c181 h2)), show zp_f2 S i f = _ from if_pos c157, show zp_f1 S i f = _ from if_pos c142, show zp_f0 S i f = _ from if_neg (fun h => by rw [c122] at h; cases h)]; done) | (rw [z_i, z_f, show zp_faults S i f = _ from if_pos c203, show zp_f3 S i f = _ from if_neg (fun h => (hab.mp h.2).elim c174 (fun h2 => zs_le_n c181 h2)), show zp_f2 S i f = _ from if_pos c157, show zp_f1 S i f = _ from if_pos c142, show zp_f0 S i f = _ from if_neg (fun h => by rw [c122] at h; cases h)]; rfl) | (rw [z_i, z_f, show zp_faults S i f = _ from if_pos c203, show zp_f3 S i f = _ from if_neg (fun h => (hab.mp h.2).elim c174 (fun h2 => zs_le_n c181 h2)), show zp_f2 S i f = _ from if_pos c157, show zp_f1 S i f = _ from if_pos c142, show zp_f0 S i f = _ from if_neg (fun h => by rw [c122] at h; cases h)]; decide)), (by (try rw [z_i]); (try rw [z_f]); exact (zM_th hM))⟩, (zr_mf zr_same.rfl' (by unfold zr_mout; omega))⟩
                    · skip
                      refine zz_bipush (v := nI 16) hX dX6_faults_206 rfl ?_
                      refine zz_goto hX 212 dX6_faults_208 (by decide) ?_
                      refine zz_iadd (z := nI 17) hX dX6_faults_212 rfl ?_
                      refine zz_iret hX hr rfl (Nat.le_of_ble_eq_true rfl) (Nat.le_of_ble_eq_true rfl) dX6_faults_213 ?_
                      exact ⟨_, rfl, Or.inl ⟨⟨hA0, hA1⟩, trivial, trivial, (zm_u2s), (by first | (rw [z_i, z_f, show zp_faults S i f = _ from if_neg c203, show zp_f3 S i f = _ from if_neg (fun h => (hab.mp h.2).elim c174 (fun h2 => zs_le_n c181 h2)), show zp_f2 S i f = _ from if_pos c157, show zp_f1 S i f = _ from if_pos c142, show zp_f0 S i f = _ from if_neg (fun h => by rw [c122] at h; cases h)]; done) | (rw [z_i, z_f, show zp_faults S i f = _ from if_neg c203, show zp_f3 S i f = _ from if_neg (fun h => (hab.mp h.2).elim c174 (fun h2 => zs_le_n c181 h2)), show zp_f2 S i f = _ from if_pos c157, show zp_f1 S i f = _ from if_pos c142, show zp_f0 S i f = _ from if_neg (fun h => by rw [c122] at h; cases h)]; rfl) | (rw [z_i, z_f, show zp_faults S i f = _ from if_neg c203, show zp_f3 S i f = _ from if_neg (fun h => (hab.mp h.2).elim c174 (fun h2 => zs_le_n c181 h2)), show zp_f2 S i f = _ from if_pos c157, show zp_f1 S i f = _ from if_pos c142, show zp_f0 S i f = _ from if_neg (fun h => by rw [c122] at h; cases h)]; decide)), (by (try rw [z_i]); (try rw [z_f]); exact (zM_th hM))⟩, (zr_mf zr_same.rfl' (by unfold zr_mout; omega))⟩
                  · skip
                    refine zz_bipush (v := nI 8) hX dX6_faults_184 rfl ?_
                    refine zz_goto hX 190 dX6_faults_186 (by decide) ?_
                    refine zz_iadd (z := nI 9) hX dX6_faults_190 rfl ?_
                    refine zz_aload_n hX dX6_faults_191 0 rfl rfl ?_
                    refine zz_getR (y := 125) hX zf_F_X6_71.r hM.1 rfl (zM_r25 hM).1 dX6_faults_192 ?_
                    refine zz_iload_n hX dX6_faults_195 3 rfl rfl ?_
                    refine zz_iald (x := S 25 (48 * i + f)) hX (zM_r25 hM).2 (48 * i + f) rfl (by omega) (by decide) (((zm_u2l (by decide))).trans ((zM_v25 hM (k := 48 * i + f) (by omega)))) dX6_faults_196 ?_
                    refine zz_aload_n hX dX6_faults_197 0 rfl rfl ?_
                    refine zz_iload_n hX dX6_faults_198 1 rfl rfl ?_
                    refine zz_iload_n hX dX6_faults_199 2 rfl rfl ?_
                    refine zz_vI (x := zp_place S i f) hX zf_M_X6_148 (As := [.int (nI i), .int (nI f)]) (st := [.int (S 25 (48 * i + f)), .int (nI 9)]) (M_placeAt S sh (zm_u2 mi 1 30 (nI 0)) mr hW (zM_th hM) i hi f (by omega)) hM.1 rfl rfl rfl (by decide) (Nat.le_of_ble_eq_true rfl) (Nat.le_of_ble_eq_true rfl) (Nat.le_of_ble_eq_true rfl) dX6_faults_200 ?_
                    refine zz_icmp_eq hX 211 dX6_faults_203 (by decide) (fun c203 => ?_) (fun c203 => ?_)
                    · skip
                      refine zz_iconst (v := nI 0) hX dX6_faults_211 rfl ?_
                      refine zz_iadd (z := nI 9) hX dX6_faults_212 rfl ?_
                      refine zz_iret hX hr rfl (Nat.le_of_ble_eq_true rfl) (Nat.le_of_ble_eq_true rfl) dX6_faults_213 ?_
                      exact ⟨_, rfl, Or.inl ⟨⟨hA0, hA1⟩, trivial, trivial, (zm_u2s), (by first | (rw [z_i, z_f, show zp_faults S i f = _ from if_pos c203, show zp_f3 S i f = _ from if_pos ⟨by omega, hab.mpr (Or.inr (zs_nle c181))⟩, show zp_f2 S i f = _ from if_pos c157, show zp_f1 S i f = _ from if_pos c142, show zp_f0 S i f = _ from if_neg (fun h => by rw [c122] at h; cases h)]; done) | (rw [z_i, z_f, show zp_faults S i f = _ from if_pos c203, show zp_f3 S i f = _ from if_pos ⟨by omega, hab.mpr (Or.inr (zs_nle c181))⟩, show zp_f2 S i f = _ from if_pos c157, show zp_f1 S i f = _ from if_pos c142, show zp_f0 S i f = _ from if_neg (fun h => by rw [c122] at h; cases h)]; rfl) | (rw [z_i, z_f, show zp_faults S i f = _ from if_pos c203, show zp_f3 S i f = _ from if_pos ⟨by omega, hab.mpr (Or.inr (zs_nle c181))⟩, show zp_f2 S i f = _ from if_pos c157, show zp_f1 S i f = _ from if_pos c142, show zp_f0 S i f = _ from if_neg (fun h => by rw [c122] at h; cases h)]; decide)), (by (try rw [z_i]); (try rw [z_f]); exact (zM_th hM))⟩, (zr_mf zr_same.rfl' (by unfold zr_mout; omega))⟩
                    · skip
                      refine zz_bipush (v := nI 16) hX dX6_faults_206 rfl ?_
                      refine zz_goto hX 212 dX6_faults_208 (by decide) ?_
                      refine zz_iadd (z := nI 25) hX dX6_faults_212 rfl ?_
                      refine zz_iret hX hr rfl (Nat.le_of_ble_eq_true rfl) (Nat.le_of_ble_eq_true rfl) dX6_faults_213 ?_
                      exact ⟨_, rfl, Or.inl ⟨⟨hA0, hA1⟩, trivial, trivial, (zm_u2s), (by first | (rw [z_i, z_f, show zp_faults S i f = _ from if_neg c203, show zp_f3 S i f = _ from if_pos ⟨by omega, hab.mpr (Or.inr (zs_nle c181))⟩, show zp_f2 S i f = _ from if_pos c157, show zp_f1 S i f = _ from if_pos c142, show zp_f0 S i f = _ from if_neg (fun h => by rw [c122] at h; cases h)]; done) | (rw [z_i, z_f, show zp_faults S i f = _ from if_neg c203, show zp_f3 S i f = _ from if_pos ⟨by omega, hab.mpr (Or.inr (zs_nle c181))⟩, show zp_f2 S i f = _ from if_pos c157, show zp_f1 S i f = _ from if_pos c142, show zp_f0 S i f = _ from if_neg (fun h => by rw [c122] at h; cases h)]; rfl) | (rw [z_i, z_f, show zp_faults S i f = _ from if_neg c203, show zp_f3 S i f = _ from if_pos ⟨by omega, hab.mpr (Or.inr (zs_nle c181))⟩, show zp_f2 S i f = _ from if_pos c157, show zp_f1 S i f = _ from if_pos c142, show zp_f0 S i f = _ from if_neg (fun h => by rw [c122] at h; cases h)]; decide)), (by (try rw [z_i]); (try rw [z_f]); exact (zM_th hM))⟩, (zr_mf zr_same.rfl' (by unfold zr_mout; omega))⟩
              · skip
                refine zz_iconst (v := nI 4) hX dX6_faults_160 rfl ?_
                refine zz_goto hX 165 dX6_faults_161 (by decide) ?_
                refine zz_iadd (z := nI 5) hX dX6_faults_165 rfl ?_
                refine zz_istore (ls' := [(0, .ref 1), (1, .int (nI i)), (2, .int (nI f)), (3, .int (nI (48 * i + f))), (4, .int (zz_bi (zs_any (fun j => ¬ S 22 (48 * (6 * i + j) + f) = zp_deg S i j f) (zv_jn S (zv_pu S i)) = true))), (5, .int ((S 26 (48 * i + f)) - (S 26 (48 * i + (f - 1))))), (6, .int (nI 5))]) hX dX6_faults_166 (Nat.le_of_ble_eq_true rfl) rfl ?_
                refine zz_iload hX dX6_faults_168 6 rfl ?_
                refine zz_iload hX dX6_faults_170 5 rfl ?_
                refine zz_bipush (v := nI 20) hX dX6_faults_172 rfl ?_
                refine zz_icmp_gt hX 184 dX6_faults_174 (by decide) (fun c174 => ?_) (fun c174 => ?_)
                · skip
                  refine zz_bipush (v := nI 8) hX dX6_faults_184 rfl ?_
                  refine zz_goto hX 190 dX6_faults_186 (by decide) ?_
                  refine zz_iadd (z := nI 13) hX dX6_faults_190 rfl ?_
                  refine zz_aload_n hX dX6_faults_191 0 rfl rfl ?_
                  refine zz_getR (y := 125) hX zf_F_X6_71.r hM.1 rfl (zM_r25 hM).1 dX6_faults_192 ?_
                  refine zz_iload_n hX dX6_faults_195 3 rfl rfl ?_
                  refine zz_iald (x := S 25 (48 * i + f)) hX (zM_r25 hM).2 (48 * i + f) rfl (by omega) (by decide) (((zm_u2l (by decide))).trans ((zM_v25 hM (k := 48 * i + f) (by omega)))) dX6_faults_196 ?_
                  refine zz_aload_n hX dX6_faults_197 0 rfl rfl ?_
                  refine zz_iload_n hX dX6_faults_198 1 rfl rfl ?_
                  refine zz_iload_n hX dX6_faults_199 2 rfl rfl ?_
                  refine zz_vI (x := zp_place S i f) hX zf_M_X6_148 (As := [.int (nI i), .int (nI f)]) (st := [.int (S 25 (48 * i + f)), .int (nI 13)]) (M_placeAt S sh (zm_u2 mi 1 30 (nI 0)) mr hW (zM_th hM) i hi f (by omega)) hM.1 rfl rfl rfl (by decide) (Nat.le_of_ble_eq_true rfl) (Nat.le_of_ble_eq_true rfl) (Nat.le_of_ble_eq_true rfl) dX6_faults_200 ?_
                  refine zz_icmp_eq hX 211 dX6_faults_203 (by decide) (fun c203 => ?_) (fun c203 => ?_)
                  · skip
                    refine zz_iconst (v := nI 0) hX dX6_faults_211 rfl ?_
                    refine zz_iadd (z := nI 13) hX dX6_faults_212 rfl ?_
                    refine zz_iret hX hr rfl (Nat.le_of_ble_eq_true rfl) (Nat.le_of_ble_eq_true rfl) dX6_faults_213 ?_
                    exact ⟨_, rfl, Or.inl ⟨⟨hA0, hA1⟩, trivial, trivial, (zm_u2s), (by first | (rw [z_i, z_f, show zp_faults S i f = _ from if_pos c203, show zp_f3 S i f = _ from if_pos ⟨by omega, hab.mpr (Or.inl c174)⟩, show zp_f2 S i f = _ from if_neg c157, show zp_f1 S i f = _ from if_pos c142, show zp_f0 S i f = _ from if_neg (fun h => by rw [c122] at h; cases h)]; done) | (rw [z_i, z_f, show zp_faults S i f = _ from if_pos c203, show zp_f3 S i f = _ from if_pos ⟨by omega, hab.mpr (Or.inl c174)⟩, show zp_f2 S i f = _ from if_neg c157, show zp_f1 S i f = _ from if_pos c142, show zp_f0 S i f = _ from if_neg (fun h => by rw [c122] at h; cases h)]; rfl) | (rw [z_i, z_f, show zp_faults S i f = _ from if_pos c203, show zp_f3 S i f = _ from if_pos ⟨by omega, hab.mpr (Or.inl c174)⟩, show zp_f2 S i f = _ from if_neg c157, show zp_f1 S i f = _ from if_pos c142, show zp_f0 S i f = _ from if_neg (fun h => by rw [c122] at h; cases h)]; decide)), (by (try rw [z_i]); (try rw [z_f]); exact (zM_th hM))⟩, (zr_mf zr_same.rfl' (by unfold zr_mout; omega))⟩
                  · skip
                    refine zz_bipush (v := nI 16) hX dX6_faults_206 rfl ?_
                    refine zz_goto hX 212 dX6_faults_208 (by decide) ?_
                    refine zz_iadd (z := nI 29) hX dX6_faults_212 rfl ?_
                    refine zz_iret hX hr rfl (Nat.le_of_ble_eq_true rfl) (Nat.le_of_ble_eq_true rfl) dX6_faults_213 ?_
                    exact ⟨_, rfl, Or.inl ⟨⟨hA0, hA1⟩, trivial, trivial, (zm_u2s), (by first | (rw [z_i, z_f, show zp_faults S i f = _ from if_neg c203, show zp_f3 S i f = _ from if_pos ⟨by omega, hab.mpr (Or.inl c174)⟩, show zp_f2 S i f = _ from if_neg c157, show zp_f1 S i f = _ from if_pos c142, show zp_f0 S i f = _ from if_neg (fun h => by rw [c122] at h; cases h)]; done) | (rw [z_i, z_f, show zp_faults S i f = _ from if_neg c203, show zp_f3 S i f = _ from if_pos ⟨by omega, hab.mpr (Or.inl c174)⟩, show zp_f2 S i f = _ from if_neg c157, show zp_f1 S i f = _ from if_pos c142, show zp_f0 S i f = _ from if_neg (fun h => by rw [c122] at h; cases h)]; rfl) | (rw [z_i, z_f, show zp_faults S i f = _ from if_neg c203, show zp_f3 S i f = _ from if_pos ⟨by omega, hab.mpr (Or.inl c174)⟩, show zp_f2 S i f = _ from if_neg c157, show zp_f1 S i f = _ from if_pos c142, show zp_f0 S i f = _ from if_neg (fun h => by rw [c122] at h; cases h)]; decide)), (by (try rw [z_i]); (try rw [z_f]); exact (zM_th hM))⟩, (zr_mf zr_same.rfl' (by unfold zr_mout; omega))⟩
                · skip
                  refine zz_iload hX dX6_faults_177 5 rfl ?_
                  refine zz_bipush (v := (-20)) hX dX6_faults_179 rfl ?_
                  refine zz_icmp_ge hX 189 dX6_faults_181 (by decide) (fun c181 => ?_) (fun c181 => ?_)
                  · skip
                    refine zz_iconst (v := nI 0) hX dX6_faults_189 rfl ?_
                    refine zz_iadd (z := nI 5) hX dX6_faults_190 rfl ?_
                    refine zz_aload_n hX dX6_faults_191 0 rfl rfl ?_
                    refine zz_getR (y := 125) hX zf_F_X6_71.r hM.1 rfl (zM_r25 hM).1 dX6_faults_192 ?_
                    refine zz_iload_n hX dX6_faults_195 3 rfl rfl ?_
                    refine zz_iald (x := S 25 (48 * i + f)) hX (zM_r25 hM).2 (48 * i + f) rfl (by omega) (by decide) (((zm_u2l (by decide))).trans ((zM_v25 hM (k := 48 * i + f) (by omega)))) dX6_faults_196 ?_
                    refine zz_aload_n hX dX6_faults_197 0 rfl rfl ?_
                    refine zz_iload_n hX dX6_faults_198 1 rfl rfl ?_
                    refine zz_iload_n hX dX6_faults_199 2 rfl rfl ?_
                    refine zz_vI (x := zp_place S i f) hX zf_M_X6_148 (As := [.int (nI i), .int (nI f)]) (st := [.int (S 25 (48 * i + f)), .int (nI 5)]) (M_placeAt S sh (zm_u2 mi 1 30 (nI 0)) mr hW (zM_th hM) i hi f (by omega)) hM.1 rfl rfl rfl (by decide) (Nat.le_of_ble_eq_true rfl) (Nat.le_of_ble_eq_true rfl) (Nat.le_of_ble_eq_true rfl) dX6_faults_200 ?_
                    refine zz_icmp_eq hX 211 dX6_faults_203 (by decide) (fun c203 => ?_) (fun c203 => ?_)
                    · skip
                      refine zz_iconst (v := nI 0) hX dX6_faults_211 rfl ?_
                      refine zz_iadd (z := nI 5) hX dX6_faults_212 rfl ?_
                      refine zz_iret hX hr rfl (Nat.le_of_ble_eq_true rfl) (Nat.le_of_ble_eq_true rfl) dX6_faults_213 ?_
                      exact ⟨_, rfl, Or.inl ⟨⟨hA0, hA1⟩, trivial, trivial, (zm_u2s), (by first | (rw [z_i, z_f, show zp_faults S i f = _ from if_pos c203, show zp_f3 S i f = _ from if_neg (fun h => (hab.mp h.2).elim c174 (fun h2 => zs_le_n c181 h2)), show zp_f2 S i f = _ from if_neg c157, show zp_f1 S i f = _ from if_pos c142, show zp_f0 S i f = _ from if_neg (fun h => by rw [c122] at h; cases h)]; done) | (rw [z_i, z_f, show zp_faults S i f = _ from if_pos c203, show zp_f3 S i f = _ from if_neg (fun h => (hab.mp h.2).elim c174 (fun h2 => zs_le_n c181 h2)), show zp_f2 S i f = _ from if_neg c157, show zp_f1 S i f = _ from if_pos c142, show zp_f0 S i f = _ from if_neg (fun h => by rw [c122] at h; cases h)]; rfl) | (rw [z_i, z_f, show zp_faults S i f = _ from if_pos c203, show zp_f3 S i f = _ from if_neg (fun h => (hab.mp h.2).elim c174 (fun h2 => zs_le_n c181 h2)), show zp_f2 S i f = _ from if_neg c157, show zp_f1 S i f = _ from if_pos c142, show zp_f0 S i f = _ from if_neg (fun h => by rw [c122] at h; cases h)]; decide)), (by (try rw [z_i]); (try rw [z_f]); exact (zM_th hM))⟩, (zr_mf zr_same.rfl' (by unfold zr_mout; omega))⟩
                    · skip
                      refine zz_bipush (v := nI 16) hX dX6_faults_206 rfl ?_
                      refine zz_goto hX 212 dX6_faults_208 (by decide) ?_
                      refine zz_iadd (z := nI 21) hX dX6_faults_212 rfl ?_
                      refine zz_iret hX hr rfl (Nat.le_of_ble_eq_true rfl) (Nat.le_of_ble_eq_true rfl) dX6_faults_213 ?_
                      exact ⟨_, rfl, Or.inl ⟨⟨hA0, hA1⟩, trivial, trivial, (zm_u2s), (by first | (rw [z_i, z_f, show zp_faults S i f = _ from if_neg c203, show zp_f3 S i f = _ from if_neg (fun h => (hab.mp h.2).elim c174 (fun h2 => zs_le_n c181 h2)), show zp_f2 S i f = _ from if_neg c157, show zp_f1 S i f = _ from if_pos c142, show zp_f0 S i f = _ from if_neg (fun h => by rw [c122] at h; cases h)]; done) | (rw [z_i, z_f, show zp_faults S i f = _ from if_neg c203, show zp_f3 S i f = _ from if_neg (fun h => (hab.mp h.2).elim c174 (fun h2 => zs_le_n c181 h2)), show zp_f2 S i f = _ from if_neg c157, show zp_f1 S i f = _ from if_pos c142, show zp_f0 S i f = _ from if_neg (fun h => by rw [c122] at h; cases h)]; rfl) | (rw [z_i, z_f, show zp_faults S i f = _ from if_neg c203, show zp_f3 S i f = _ from if_neg (fun h => (hab.mp h.2).elim c174 (fun h2 => zs_le_n c181 h2)), show zp_f2 S i f = _ from if_neg c157, show zp_f1 S i f = _ from if_pos c142, show zp_f0 S i f = _ from if_neg (fun h => by rw [c122] at h; cases h)]; decide)), (by (try rw [z_i]); (try rw [z_f]); exact (zM_th hM))⟩, (zr_mf zr_same.rfl' (by unfold zr_mout; omega))⟩
                  · skip
                    refine zz_bipush (v := nI 8) hX dX6_faults_184 rfl ?_
                    refine zz_goto hX 190 dX6_faults_186 (by decide) ?_
                    refine zz_iadd (z := nI 13) hX dX6_faults_190 rfl ?_
                    refine zz_aload_n hX dX6_faults_191 0 rfl rfl ?_
                    refine zz_getR (y := 125) hX zf_F_X6_71.r hM.1 rfl (zM_r25 hM).1 dX6_faults_192 ?_
                    refine zz_iload_n hX dX6_faults_195 3 rfl rfl ?_
                    refine zz_iald (x := S 25 (48 * i + f)) hX (zM_r25 hM).2 (48 * i + f) rfl (by omega) (by decide) (((zm_u2l (by decide))).trans ((zM_v25 hM (k := 48 * i + f) (by omega)))) dX6_faults_196 ?_
                    refine zz_aload_n hX dX6_faults_197 0 rfl rfl ?_
                    refine zz_iload_n hX dX6_faults_198 1 rfl rfl ?_
                    refine zz_iload_n hX dX6_faults_199 2 rfl rfl ?_
                    refine zz_vI (x := zp_place S i f) hX zf_M_X6_148 (As := [.int (nI i), .int (nI f)]) (st := [.int (S 25 (48 * i + f)), .int (nI 13)]) (M_placeAt S sh (zm_u2 mi 1 30 (nI 0)) mr hW (zM_th hM) i hi f (by omega)) hM.1 rfl rfl rfl (by decide) (Nat.le_of_ble_eq_true rfl) (Nat.le_of_ble_eq_true rfl) (Nat.le_of_ble_eq_true rfl) dX6_faults_200 ?_
                    refine zz_icmp_eq hX 211 dX6_faults_203 (by decide) (fun c203 => ?_) (fun c203 => ?_)
                    · skip
                      refine zz_iconst (v := nI 0) hX dX6_faults_211 rfl ?_
                      refine zz_iadd (z := nI 13) hX dX6_faults_212 rfl ?_
                      refine zz_iret hX hr rfl (Nat.le_of_ble_eq_true rfl) (Nat.le_of_ble_eq_true rfl) dX6_faults_213 ?_
                      exact ⟨_, rfl, Or.inl ⟨⟨hA0, hA1⟩, trivial, trivial, (zm_u2s), (by first | (rw [z_i, z_f, show zp_faults S i f = _ from if_pos c203, show zp_f3 S i f = _ from if_pos ⟨by omega, hab.mpr (Or.inr (zs_nle c181))⟩, show zp_f2 S i f = _ from if_neg c157, show zp_f1 S i f = _ from if_pos c142, show zp_f0 S i f = _ from if_neg (fun h => by rw [c122] at h; cases h)]; done) | (rw [z_i, z_f, show zp_faults S i f = _ from if_pos c203, show zp_f3 S i f = _ from if_pos ⟨by omega, hab.mpr (Or.inr (zs_nle c181))⟩, show zp_f2 S i f = _ from if_neg c157, show zp_f1 S i f = _ from if_pos c142, show zp_f0 S i f = _ from if_neg (fun h => by rw [c122] at h; cases h)]; rfl) | (rw [z_i, z_f, show zp_faults S i f = _ from if_pos c203, show zp_f3 S i f = _ from if_pos ⟨by omega, hab.mpr (Or.inr (zs_nle c181))⟩, show zp_f2 S i f = _ from if_neg c157, show zp_f1 S i f = _ from if_pos c142, show zp_f0 S i f = _ from if_neg (fun h => by rw [c122] at h; cases h)]; decide)), (by (try rw [z_i]); (try rw [z_f]); exact (zM_th hM))⟩, (zr_mf zr_same.rfl' (by unfold zr_mout; omega))⟩
                    · skip
                      refine zz_bipush (v := nI 16) hX dX6_faults_206 rfl ?_
                      refine zz_goto hX 212 dX6_faults_208 (by decide) ?_
                      refine zz_iadd (z := nI 29) hX dX6_faults_212 rfl ?_
                      refine zz_iret hX hr rfl (Nat.le_of_ble_eq_true rfl) (Nat.le_of_ble_eq_true rfl) dX6_faults_213 ?_
                      exact ⟨_, rfl, Or.inl ⟨⟨hA0, hA1⟩, trivial, trivial, (zm_u2s), (by first | (rw [z_i, z_f, show zp_faults S i f = _ from if_neg c203, show zp_f3 S i f = _ from if_pos ⟨by omega, hab.mpr (Or.inr (zs_nle c181))⟩, show zp_f2 S i f = _ from if_neg c157, show zp_f1 S i f = _ from if_pos c142, show zp_f0 S i f = _ from if_neg (fun h => by rw [c122] at h; cases h)]; done) | (rw [z_i, z_f, show zp_faults S i f = _ from if_neg c203, show zp_f3 S i f = _ from if_pos ⟨by omega, hab.mpr (Or.inr (zs_nle c181))⟩, show zp_f2 S i f = _ from if_neg c157, show zp_f1 S i f = _ from if_pos c142, show zp_f0 S i f = _ from if_neg (fun h => by rw [c122] at h; cases h)]; rfl) | (rw [z_i, z_f, show zp_faults S i f = _ from if_neg c203, show zp_f3 S i f = _ from if_pos ⟨by omega, hab.mpr (Or.inr (zs_nle c181))⟩, show zp_f2 S i f = _ from if_neg c157, show zp_f1 S i f = _ from if_pos c142, show zp_f0 S i f = _ from if_neg (fun h => by rw [c122] at h; cases h)]; decide)), (by (try rw [z_i]); (try rw [z_f]); exact (zM_th hM))⟩, (zr_mf zr_same.rfl' (by unfold zr_mout; omega))⟩
            · skip
              refine zz_iconst (v := nI 2) hX dX6_faults_145 rfl ?_
              refine zz_goto hX 150 dX6_faults_146 (by decide) ?_
              refine zz_iadd (z := nI 3) hX dX6_faults_150 rfl ?_
              refine zz_aload_n hX dX6_faults_151 0 rfl rfl ?_
              refine zz_getR (y := 127) hX zf_F_X6_77.r hM.1 rfl (zM_r27 hM).1 dX6_faults_152 ?_
              refine zz_iload_n hX dX6_faults_155 3 rfl rfl ?_
              refine zz_iald (x := S 27 (48 * i + f)) hX (zM_r27 hM).2 (48 * i + f) rfl (by omega) (by decide) (((zm_u2l (by decide))).trans ((zM_v27 hM (k := 48 * i + f) (by omega)))) dX6_faults_156 ?_
              refine zz_if_eq hX 164 dX6_faults_157 (by decide) (fun c157 => ?_) (fun c157 => ?_)
              · skip
                refine zz_iconst (v := nI 0) hX dX6_faults_164 rfl ?_
                refine zz_iadd (z := nI 3) hX dX6_faults_165 rfl ?_
                refine zz_istore (ls' := [(0, .ref 1), (1, .int (nI i)), (2, .int (nI f)), (3, .int (nI (48 * i + f))), (4, .int (zz_bi (zs_any (fun j => ¬ S 22 (48 * (6 * i + j) + f) = zp_deg S i j f) (zv_jn S (zv_pu S i)) = true))), (5, .int ((S 26 (48 * i + f)) - (S 26 (48 * i + (f - 1))))), (6, .int (nI 3))]) hX dX6_faults_166 (Nat.le_of_ble_eq_true rfl) rfl ?_
                refine zz_iload hX dX6_faults_168 6 rfl ?_
                refine zz_iload hX dX6_faults_170 5 rfl ?_
                refine zz_bipush (v := nI 20) hX dX6_faults_172 rfl ?_
                refine zz_icmp_gt hX 184 dX6_faults_174 (by decide) (fun c174 => ?_) (fun c174 => ?_)
                · skip
                  refine zz_bipush (v := nI 8) hX dX6_faults_184 rfl ?_
                  refine zz_goto hX 190 dX6_faults_186 (by decide) ?_
                  refine zz_iadd (z := nI 11) hX dX6_faults_190 rfl ?_
                  refine zz_aload_n hX dX6_faults_191 0 rfl rfl ?_
                  refine zz_getR (y := 125) hX zf_F_X6_71.r hM.1 rfl (zM_r25 hM).1 dX6_faults_192 ?_
                  refine zz_iload_n hX dX6_faults_195 3 rfl rfl ?_
                  refine zz_iald (x := S 25 (48 * i + f)) hX (zM_r25 hM).2 (48 * i + f) rfl (by omega) (by decide) (((zm_u2l (by decide))).trans ((zM_v25 hM (k := 48 * i + f) (by omega)))) dX6_faults_196 ?_
                  refine zz_aload_n hX dX6_faults_197 0 rfl rfl ?_
                  refine zz_iload_n hX dX6_faults_198 1 rfl rfl ?_
                  refine zz_iload_n hX dX6_faults_199 2 rfl rfl ?_
                  refine zz_vI (x := zp_place S i f) hX zf_M_X6_148 (As := [.int (nI i), .int (nI f)]) (st := [.int (S 25 (48 * i + f)), .int (nI 11)]) (M_placeAt S sh (zm_u2 mi 1 30 (nI 0)) mr hW (zM_th hM) i hi f (by omega)) hM.1 rfl rfl rfl (by decide) (Nat.le_of_ble_eq_true rfl) (Nat.le_of_ble_eq_true rfl) (Nat.le_of_ble_eq_true rfl) dX6_faults_200 ?_
                  refine zz_icmp_eq hX 211 dX6_faults_203 (by decide) (fun c203 => ?_) (fun c203 => ?_)
                  · skip
                    refine zz_iconst (v := nI 0) hX dX6_faults_211 rfl ?_
                    refine zz_iadd (z := nI 11) hX dX6_faults_212 rfl ?_
                    refine zz_iret hX hr rfl (Nat.le_of_ble_eq_true rfl) (Nat.le_of_ble_eq_true rfl) dX6_faults_213 ?_
                    exact ⟨_, rfl, Or.inl ⟨⟨hA0, hA1⟩, trivial, trivial, (zm_u2s), (by first | (rw [z_i, z_f, show zp_faults S i f = _ from if_pos c203, show zp_f3 S i f = _ from if_pos ⟨by omega, hab.mpr (Or.inl c174)⟩, show zp_f2 S i f = _ from if_pos c157, show zp_f1 S i f = _ from if_neg c142, show zp_f0 S i f = _ from if_neg (fun h => by rw [c122] at h; cases h)]; done) | (rw [z_i, z_f, show zp_faults S i f = _ from if_pos c203, show zp_f3 S i f = _ from if_pos ⟨by omega, hab.mpr (Or.inl c174)⟩, show zp_f2 S i f = _ from if_pos c157, show zp_f1 S i f = _ from if_neg c142, show zp_f0 S i f = _ from if_neg (fun h => by rw [c122] at h; cases h)]; rfl) | (rw [z_i, z_f, show zp_faults S i f = _ from if_pos c203, show zp_f3 S i f = _ from if_pos ⟨by omega, hab.mpr (Or.inl c174)⟩, show zp_f2 S i f = _ from if_pos c157, show zp_f1 S i f = _ from if_neg c142, show zp_f0 S i f = _ from if_neg (fun h => by rw [c122] at h; cases h)]; decide)), (by (try rw [z_i]); (try rw [z_f]); exact (zM_th hM))⟩, (zr_mf zr_same.rfl' (by unfold zr_mout; omega))⟩
                  · skip
                    refine zz_bipush (v := nI 16) hX dX6_faults_206 rfl ?_
                    refine zz_goto hX 212 dX6_faults_208 (by decide) ?_
                    refine zz_iadd (z := nI 27) hX dX6_faults_212 rfl ?_
                    refine zz_iret hX hr rfl (Nat.le_of_ble_eq_true rfl) (Nat.le_of_ble_eq_true rfl) dX6_faults_213 ?_
                    exact ⟨_, rfl, Or.inl ⟨⟨hA0, hA1⟩, trivial, trivial, (zm_u2s), (by first | (rw [z_i, z_f, show zp_faults S i f = _ from if_neg c203, show zp_f3 S i f = _ from if_pos ⟨by omega, hab.mpr (Or.inl c174)⟩, show zp_f2 S i f = _ from if_pos c157, show zp_f1 S i f = _ from if_neg c142, show zp_f0 S i f = _ from if_neg (fun h => by rw [c122] at h; cases h)]; done) | (rw [z_i, z_f, show zp_faults S i f = _ from if_neg c203, show zp_f3 S i f = _ from if_pos ⟨by omega, hab.mpr (Or.inl c174)⟩, show zp_f2 S i f = _ from if_pos c157, show zp_f1 S i f = _ from if_neg c142, show zp_f0 S i f = _ from if_neg (fun h => by rw [c122] at h; cases h)]; rfl) | (rw [z_i, z_f, show zp_faults S i f = _ from if_neg c203, show zp_f3 S i f = _ from if_pos ⟨by omega, hab.mpr (Or.inl c174)⟩, show zp_f2 S i f = _ from if_pos c157, show zp_f1 S i f = _ from if_neg c142, show zp_f0 S i f = _ from if_neg (fun h => by rw [c122] at h; cases h)]; decide)), (by (try rw [z_i]); (try rw [z_f]); exact (zM_th hM))⟩, (zr_mf zr_same.rfl' (by unfold zr_mout; omega))⟩
                · skip
                  refine zz_iload hX dX6_faults_177 5 rfl ?_
                  refine zz_bipush (v := (-20)) hX dX6_faults_179 rfl ?_
                  refine zz_icmp_ge hX 189 dX6_faults_181 (by decide) (fun c181 => ?_) (fun c181 => ?_)
                  · skip
                    refine zz_iconst (v := nI 0) hX dX6_faults_189 rfl ?_
                    refine zz_iadd (z := nI 3) hX dX6_faults_190 rfl ?_
                    refine zz_aload_n hX dX6_faults_191 0 rfl rfl ?_
                    refine zz_getR (y := 125) hX zf_F_X6_71.r hM.1 rfl (zM_r25 hM).1 dX6_faults_192 ?_
                    refine zz_iload_n hX dX6_faults_195 3 rfl rfl ?_
                    refine zz_iald (x := S 25 (48 * i + f)) hX (zM_r25 hM).2 (48 * i + f) rfl (by omega) (by decide) (((zm_u2l (by decide))).trans ((zM_v25 hM (k := 48 * i + f) (by omega)))) dX6_faults_196 ?_
                    refine zz_aload_n hX dX6_faults_197 0 rfl rfl ?_
                    refine zz_iload_n hX dX6_faults_198 1 rfl rfl ?_
                    refine zz_iload_n hX dX6_faults_199 2 rfl rfl ?_
                    refine zz_vI (x := zp_place S i f) hX zf_M_X6_148 (As := [.int (nI i), .int (nI f)]) (st := [.int (S 25 (48 * i + f)), .int (nI 3)]) (M_placeAt S sh (zm_u2 mi 1 30 (nI 0)) mr hW (zM_th hM) i hi f (by omega)) hM.1 rfl rfl rfl (by decide) (Nat.le_of_ble_eq_true rfl) (Nat.le_of_ble_eq_true rfl) (Nat.le_of_ble_eq_true rfl) dX6_faults_200 ?_
                    refine zz_icmp_eq hX 211 dX6_faults_203 (by decide) (fun c203 => ?_) (fun c203 => ?_)
                    · skip
                      refine zz_iconst (v := nI 0) hX dX6_faults_211 rfl ?_
                      refine zz_iadd (z := nI 3) hX dX6_faults_212 rfl ?_
                      refine zz_iret hX hr rfl (Nat.le_of_ble_eq_true rfl) (Nat.le_of_ble_eq_true rfl) dX6_faults_213 ?_
                      exact ⟨_, rfl, Or.inl ⟨⟨hA0, hA1⟩, trivial, trivial, (zm_u2s), (by first | (rw [z_i, z_f, show zp_faults S i f = _ from if_pos c203, show zp_f3 S i f = _ from if_neg (fun h => (hab.mp h.2).elim c174 (fun h2 => zs_le_n c181 h2)), show zp_f2 S i f = _ from if_pos c157, show zp_f1 S i f = _ from if_neg c142, show zp_f0 S i f = _ from if_neg (fun h => by rw [c122] at h; cases h)]; done) | (rw [z_i, z_f, show zp_faults S i f = _ from if_pos c203, show zp_f3 S i f = _ from if_neg (fun h => (hab.mp h.2).elim c174 (fun h2 => zs_le_n c181 h2)), show zp_f2 S i f = _ from if_pos c157, show zp_f1 S i f = _ from if_neg c142, show zp_f0 S i f = _ from if_neg (fun h => by rw [c122] at h; cases h)]; rfl) | (rw [z_i, z_f, show zp_faults S i f = _ from if_pos c203, show zp_f3 S i f = _ from if_neg (fun h => (hab.mp h.2).elim c174 (fun h2 => zs_le_n c181 h2)), show zp_f2 S i f = _ from if_pos c157, show zp_f1 S i f = _ from if_neg c142, show zp_f0 S i f = _ from if_neg (fun h => by rw [c122] at h; cases h)]; decide)), (by (try rw [z_i]); (try rw [z_f]); exact (zM_th hM))⟩, (zr_mf zr_same.rfl' (by unfold zr_mout; omega))⟩
                    · skip
                      refine zz_bipush (v := nI 16) hX dX6_faults_206 rfl ?_
                      refine zz_goto hX 212 dX6_faults_208 (by decide) ?_
                      refine zz_iadd (z := nI 19) hX dX6_faults_212 rfl ?_
                      refine zz_iret hX hr rfl (Nat.le_of_ble_eq_true rfl) (Nat.le_of_ble_eq_true rfl) dX6_faults_213 ?_
                      exact ⟨_, rfl, Or.inl ⟨⟨hA0, hA1⟩, trivial, trivial, (zm_u2s), (by first | (rw [z_i, z_f, show zp_faults S i f = _ from if_neg c203, show zp_f3 S i f = _ from if_neg (fun h => (hab.mp h.2).elim c174 (fun h2 => zs_le_n c181 h2)), show zp_f2 S i f = _ from if_pos c157, show zp_f1 S i f = _ from if_neg c142, show zp_f0 S i f = _ from if_neg (fun h => by rw [c122] at h; cases h)]; done) | (rw [z_i, z_f, show zp_faults S i f = _ from if_neg c203, show zp_f3 S i f = _ from if_neg (fun h => (hab.mp h.2).elim c174 (fun h2 => zs_le_n c181 h2)), show zp_f2 S i f = _ from if_pos c157, show zp_f1 S i f = _ from if_neg c142, show zp_f0 S i f = _ from if_neg (fun h => by rw [c122] at h; cases h)]; rfl) | (rw [z_i, z_f, show zp_faults S i f = _ from if_neg c203, show zp_f3 S i f = _ from if_neg (fun h => (hab.mp h.2).elim c174 (fun h2 => zs_le_n c181 h2)), show zp_f2 S i f = _ from if_pos c157, show zp_f1 S i f = _ from if_neg c142, show zp_f0 S i f = _ from if_neg (fun h => by rw [c122] at h; cases h)]; decide)), (by (try rw [z_i]); (try rw [z_f]); exact (zM_th hM))⟩, (zr_mf zr_same.rfl' (by unfold zr_mout; omega))⟩
                  · skip
                    refine zz_bipush (v := nI 8) hX dX6_faults_184 rfl ?_
                    refine zz_goto hX 190 dX6_faults_186 (by decide) ?_
                    refine zz_iadd (z := nI 11) hX dX6_faults_190 rfl ?_
                    refine zz_aload_n hX dX6_faults_191 0 rfl rfl ?_
                    refine zz_getR (y := 125) hX zf_F_X6_71.r hM.1 rfl (zM_r25 hM).1 dX6_faults_192 ?_
                    refine zz_iload_n hX dX6_faults_195 3 rfl rfl ?_
                    refine zz_iald (x := S 25 (48 * i + f)) hX (zM_r25 hM).2 (48 * i + f) rfl (by omega) (by decide) (((zm_u2l (by decide))).trans ((zM_v25 hM (k := 48 * i + f) (by omega)))) dX6_faults_196 ?_
                    refine zz_aload_n hX dX6_faults_197 0 rfl rfl ?_
                    refine zz_iload_n hX dX6_faults_198 1 rfl rfl ?_
                    refine zz_iload_n hX dX6_faults_199 2 rfl rfl ?_
                    refine zz_vI (x := zp_place S i f) hX zf_M_X6_148 (As := [.int (nI i), .int (nI f)]) (st := [.int (S 25 (48 * i + f)), .int (nI 11)]) (M_placeAt S sh (zm_u2 mi 1 30 (nI 0)) mr hW (zM_th hM) i hi f (by omega)) hM.1 rfl rfl rfl (by decide) (Nat.le_of_ble_eq_true rfl) (Nat.le_of_ble_eq_true rfl) (Nat.le_of_ble_eq_true rfl) dX6_faults_200 ?_
                    refine zz_icmp_eq hX 211 dX6_faults_203 (by decide) (fun c203 => ?_) (fun c203 => ?_)
                    · skip
                      refine zz_iconst (v := nI 0) hX dX6_faults_211 rfl ?_
                      refine zz_iadd (z := nI 11) hX dX6_faults_212 rfl ?_
                      refine zz_iret hX hr rfl (Nat.le_of_ble_eq_true rfl) (Nat.le_of_ble_eq_true rfl) dX6_faults_213 ?_
                      exact ⟨_, rfl, Or.inl ⟨⟨hA0, hA1⟩, trivial, trivial, (zm_u2s), (by first | (rw [z_i, z_f, show zp_faults S i f = _ from if_pos c203, show zp_f3 S i f = _ from if_pos ⟨by omega, hab.mpr (Or.inr (zs_nle c181))⟩, show zp_f2 S i f = _ from if_pos c157, show zp_f1 S i f = _ from if_neg c142, show zp_f0 S i f = _ from if_neg (fun h => by rw [c122] at h; cases h)]; done) | (rw [z_i, z_f, show zp_faults S i f = _ from if_pos c203, show zp_f3 S i f = _ from if_pos ⟨by omega, hab.mpr (Or.inr (zs_nle c181))⟩, show zp_f2 S i f = _ from if_pos c157, show zp_f1 S i f = _ from if_neg c142, show zp_f0 S i f = _ from if_neg (fun h => by rw [c122] at h; cases h)]; rfl) | (rw [z_i, z_f, show zp_faults S i f = _ from if_pos c203, show zp_f3 S i f = _ from if_pos ⟨by omega, hab.mpr (Or.inr (zs_nle c181))⟩, show zp_f2 S i f = _ from if_pos c157, show zp_f1 S i f = _ from if_neg c142, show zp_f0 S i f = _ from if_neg (fun h => by rw [c122] at h; cases h)]; decide)), (by (try rw [z_i]); (try rw [z_f]); exact (zM_th hM))⟩, (zr_mf zr_same.rfl' (by unfold zr_mout; omega))⟩
                    · skip
                      refine zz_bipush (v := nI 16) hX dX6_faults_206 rfl ?_
                      refine zz_goto hX 212 dX6_faults_208 (by decide) ?_
                      refine zz_iadd (z := nI 27) hX dX6_faults_212 rfl ?_
                      refine zz_iret hX hr rfl (Nat.le_of_ble_eq_true rfl) (Nat.le_of_ble_eq_true rfl) dX6_faults_213 ?_
                      exact ⟨_, rfl, Or.inl ⟨⟨hA0, hA1⟩, trivial, trivial, (zm_u2s), (by first | (rw [z_i, z_f, show zp_faults S i f = _ from if_neg c203, show zp_f3 S i f = _ from if_pos ⟨by omega, hab.mpr (Or.inr (zs_nle c181))⟩, show zp_f2 S i f = _ from if_pos c157, show zp_f1 S i f = _ from if_neg c142, show zp_f0 S i f = _ from if_neg (fun h => by rw [c122] at h; cases h)]; done) | (rw [z_i, z_f, show zp_faults S i f = _ from if_neg c203, show zp_f3 S i f = _ from if_pos ⟨by omega, hab.mpr (Or.inr (zs_nle c181))⟩, show zp_f2 S i f = _ from if_pos c157, show zp_f1 S i f = _ from if_neg c142, show zp_f0 S i f = _ from if_neg (fun h => by rw [c122] at h; cases h)]; rfl) | (rw [z_i, z_f, show zp_faults S i f = _ from if_neg c203, show zp_f3 S i f = _ from if_pos ⟨by omega, hab.mpr (Or.inr (zs_nle c181))⟩, show zp_f2 S i f = _ from if_pos c157, show zp_f1 S i f = _ from if_neg c142, show zp_f0 S i f = _ from if_neg (fun h => by rw [c122] at h; cases h)]; decide)), (by (try rw [z_i]); (try rw [z_f]); exact (zM_th hM))⟩, (zr_mf zr_same.rfl' (by unfold zr_mout; omega))⟩
              · skip
                refine zz_iconst (v := nI 4) hX dX6_faults_160 rfl ?_
                refine zz_goto hX 165 dX6_faults_161 (by decide) ?_
                refine zz_iadd (z := nI 7) hX dX6_faults_165 rfl ?_
                refine zz_istore (ls' := [(0, .ref 1), (1, .int (nI i)), (2, .int (nI f)), (3, .int (nI (48 * i + f))), (4, .int (zz_bi (zs_any (fun j => ¬ S 22 (48 * (6 * i + j) + f) = zp_deg S i j f) (zv_jn S (zv_pu S i)) = true))), (5, .int ((S 26 (48 * i + f)) - (S 26 (48 * i + (f - 1))))), (6, .int (nI 7))]) hX dX6_faults_166 (Nat.le_of_ble_eq_true rfl) rfl ?_
                refine zz_iload hX dX6_faults_168 6 rfl ?_
                refine zz_iload hX dX6_faults_170 5 rfl ?_
                refine zz_bipush (v := nI 20) hX dX6_faults_172 rfl ?_
                refine zz_icmp_gt hX 184 dX6_faults_174 (by decide) (fun c174 => ?_) (fun c174 => ?_)
                · skip
                  refine zz_bipush (v := nI 8) hX dX6_faults_184 rfl ?_
                  refine zz_goto hX 190 dX6_faults_186 (by decide) ?_
                  refine zz_iadd (z := nI 15) hX dX6_faults_190 rfl ?_
                  refine zz_aload_n hX dX6_faults_191 0 rfl rfl ?_
                  refine zz_getR (y := 125) hX zf_F_X6_71.r hM.1 rfl (zM_r25 hM).1 dX6_faults_192 ?_
                  refine zz_iload_n hX dX6_faults_195 3 rfl rfl ?_
                  refine zz_iald (x := S 25 (48 * i + f)) hX (zM_r25 hM).2 (48 * i + f) rfl (by omega) (by decide) (((zm_u2l (by decide))).trans ((zM_v25 hM (k := 48 * i + f) (by omega)))) dX6_faults_196 ?_
                  refine zz_aload_n hX dX6_faults_197 0 rfl rfl ?_
                  refine zz_iload_n hX dX6_faults_198 1 rfl rfl ?_
                  refine zz_iload_n hX dX6_faults_199 2 rfl rfl ?_
                  refine zz_vI (x := zp_place S i f) hX zf_M_X6_148 (As := [.int (nI i), .int (nI f)]) (st := [.int (S 25 (48 * i + f)), .int (nI 15)]) (M_placeAt S sh (zm_u2 mi 1 30 (nI 0)) mr hW (zM_th hM) i hi f (by omega)) hM.1 rfl rfl rfl (by decide) (Nat.le_of_ble_eq_true rfl) (Nat.le_of_ble_eq_true rfl) (Nat.le_of_ble_eq_true rfl) dX6_faults_200 ?_
                  refine zz_icmp_eq hX 211 dX6_faults_203 (by decide) (fun c203 => ?_) (fun c203 => ?_)
                  · skip
                    refine zz_iconst (v := nI 0) hX dX6_faults_211 rfl ?_
                    refine zz_iadd (z := nI 15) hX dX6_faults_212 rfl ?_
                    refine zz_iret hX hr rfl (Nat.le_of_ble_eq_true rfl) (Nat.le_of_ble_eq_true rfl) dX6_faults_213 ?_
                    exact ⟨_, rfl, Or.inl ⟨⟨hA0, hA1⟩, trivial, trivial, (zm_u2s), (by first | (rw [z_i, z_f, show zp_faults S i f = _ from if_pos c203, show zp_f3 S i f = _ from if_pos ⟨by omega, hab.mpr (Or.inl c174)⟩, show zp_f2 S i f = _ from if_neg c157, show zp_f1 S i f = _ from if_neg c142, show zp_f0 S i f = _ from if_neg (fun h => by rw [c122] at h; cases h)]; done) | (rw [z_i, z_f, show zp_faults S i f = _ from if_pos c203, show zp_f3 S i f = _ from if_pos ⟨by omega, hab.mpr (Or.inl c174)⟩, show zp_f2 S i f = _ from if_neg c157, show zp_f1 S i f = _ from if_neg c142, show zp_f0 S i f = _ from if_neg (fun h => by rw [c122] at h; cases h)]; rfl) | (rw [z_i, z_f, show zp_faults S i f = _ from if_pos c203, show zp_f3 S i f = _ from if_pos ⟨by omega, hab.mpr (Or.inl c174)⟩, show zp_f2 S i f = _ from if_neg c157, show zp_f1 S i f = _ from if_neg c142, show zp_f0 S i f = _ from if_neg (fun h => by rw [c122] at h; cases h)]; decide)), (by (try rw [z_i]); (try rw [z_f]); exact (zM_th hM))⟩, (zr_mf zr_same.rfl' (by unfold zr_mout; omega))⟩
                  · skip
                    refine zz_bipush (v := nI 16) hX dX6_faults_206 rfl ?_
                    refine zz_goto hX 212 dX6_faults_208 (by decide) ?_
                    refine zz_iadd (z := nI 31) hX dX6_faults_212 rfl ?_
                    refine zz_iret hX hr rfl (Nat.le_of_ble_eq_true rfl) (Nat.le_of_ble_eq_true rfl) dX6_faults_213 ?_
                    exact ⟨_, rfl, Or.inl ⟨⟨hA0, hA1⟩, trivial, trivial, (zm_u2s), (by first | (rw [z_i, z_f, show zp_faults S i f = _ from if_neg c203, show zp_f3 S i f = _ from if_pos ⟨by omega, hab.mpr (Or.inl c174)⟩, show zp_f2 S i f = _ from if_neg c157, show zp_f1 S i f = _ from if_neg c142, show zp_f0 S i f = _ from if_neg (fun h => by rw [c122] at h; cases h)]; done) | (rw [z_i, z_f, show zp_faults S i f = _ from if_neg c203, show zp_f3 S i f = _ from if_pos ⟨by omega, hab.mpr (Or.inl c174)⟩, show zp_f2 S i f = _ from if_neg c157, show zp_f1 S i f = _ from if_neg c142, show zp_f0 S i f = _ from if_neg (fun h => by rw [c122] at h; cases h)]; rfl) | (rw [z_i, z_f, show zp_faults S i f = _ from if_neg c203, show zp_f3 S i f = _ from if_pos ⟨by omega, hab.mpr (Or.inl c174)⟩, show zp_f2 S i f = _ from if_neg c157, show zp_f1 S i f = _ from if_neg c142, show zp_f0 S i f = _ from if_neg (fun h => by rw [c122] at h; cases h)]; decide)), (by (try rw [z_i]); (try rw [z_f]); exact (zM_th hM))⟩, (zr_mf zr_same.rfl' (by unfold zr_mout; omega))⟩
                · skip
                  refine zz_iload hX dX6_faults_177 5 rfl ?_
                  refine zz_bipush (v := (-20)) hX dX6_faults_179 rfl ?_
                  refine zz_icmp_ge hX 189 dX6_faults_181 (by decide) (fun c181 => ?_) (fun c181 => ?_)
                  · skip
                    refine zz_iconst (v := nI 0) hX dX6_faults_189 rfl ?_
                    refine zz_iadd (z := nI 7) hX dX6_faults_190 rfl ?_
                    refine zz_aload_n hX dX6_faults_191 0 rfl rfl ?_
                    refine zz_getR (y := 125) hX zf_F_X6_71.r hM.1 rfl (zM_r25 hM).1 dX6_faults_192 ?_
                    refine zz_iload_n hX dX6_faults_195 3 rfl rfl ?_
                    refine zz_iald (x := S 25 (48 * i + f)) hX (zM_r25 hM).2 (48 * i + f) rfl (by omega) (by decide) (((zm_u2l (by decide))).trans ((zM_v25 hM (k := 48 * i + f) (by omega)))) dX6_faults_196 ?_
                    refine zz_aload_n hX dX6_faults_197 0 rfl rfl ?_
                    refine zz_iload_n hX dX6_faults_198 1 rfl rfl ?_
                    refine zz_iload_n hX dX6_faults_199 2 rfl rfl ?_
                    refine zz_vI (x := zp_place S i f) hX zf_M_X6_148 (As := [.int (nI i), .int (nI f)]) (st := [.int (S 25 (48 * i + f)), .int (nI 7)]) (M_placeAt S sh (zm_u2 mi 1 30 (nI 0)) mr hW (zM_th hM) i hi f (by omega)) hM.1 rfl rfl rfl (by decide) (Nat.le_of_ble_eq_true rfl) (Nat.le_of_ble_eq_true rfl) (Nat.le_of_ble_eq_true rfl) dX6_faults_200 ?_
                    refine zz_icmp_eq hX 211 dX6_faults_203 (by decide) (fun c203 => ?_) (fun c203 => ?_)
                    · skip
                      refine zz_iconst (v := nI 0) hX dX6_faults_211 rfl ?_
                      refine zz_iadd (z := nI 7) hX dX6_faults_212 rfl ?_
                      refine zz_iret hX hr rfl (Nat.le_of_ble_eq_true rfl) (Nat.le_of_ble_eq_true rfl) dX6_faults_213 ?_
                      exact ⟨_, rfl, Or.inl ⟨⟨hA0, hA1⟩, trivial, trivial, (zm_u2s), (by first | (rw [z_i, z_f, show zp_faults S i f = _ from if_pos c203, show zp_f3 S i f = _ from if_neg (fun h => (hab.mp h.2).elim c174 (fun h2 => zs_le_n c181 h2)), show zp_f2 S i f = _ from if_neg c157, show zp_f1 S i f = _ from if_neg c142, show zp_f0 S i f = _ from if_neg (fun h => by rw [c122] at h; cases h)]; done) | (rw [z_i, z_f, show zp_faults S i f = _ from if_pos c203, show zp_f3 S i f = _ from if_neg (fun h => (hab.mp h.2).elim c174 (fun h2 => zs_le_n c181 h2)), show zp_f2 S i f = _ from if_neg c157, show zp_f1 S i f = _ from if_neg c142, show zp_f0 S i f = _ from if_neg (fun h => by rw [c122] at h; cases h)]; rfl) | (rw [z_i, z_f, show zp_faults S i f = _ from if_pos c203, show zp_f3 S i f = _ from if_neg (fun h => (hab.mp h.2).elim c174 (fun h2 => zs_le_n c181 h2)), show zp_f2 S i f = _ from if_neg c157, show zp_f1 S i f = _ from if_neg c142, show zp_f0 S i f = _ from if_neg (fun h => by rw [c122] at h; cases h)]; decide)), (by (try rw [z_i]); (try rw [z_f]); exact (zM_th hM))⟩, (zr_mf zr_same.rfl' (by unfold zr_mout; omega))⟩
                    · skip
                      refine zz_bipush (v := nI 16) hX dX6_faults_206 rfl ?_
                      refine zz_goto hX 212 dX6_faults_208 (by decide) ?_
                      refine zz_iadd (z := nI 23) hX dX6_faults_212 rfl ?_
                      refine zz_iret hX hr rfl (Nat.le_of_ble_eq_true rfl) (Nat.le_of_ble_eq_true rfl) dX6_faults_213 ?_
                      exact ⟨_, rfl, Or.inl ⟨⟨hA0, hA1⟩, trivial, trivial, (zm_u2s), (by first | (rw [z_i, z_f, show zp_faults S i f = _ from if_neg c203, show zp_f3 S i f = _ from if_neg (fun h => (hab.mp h.2).elim c174 (fun h2 => zs_le_n c181 h2)), show zp_f2 S i f = _ from if_neg c157, show zp_f1 S i f = _ from if_neg c142, show zp_f0 S i f = _ from if_neg (fun h => by rw [c122] at h; cases h)]; done) | (rw [z_i, z_f, show zp_faults S i f = _ from if_neg c203, show zp_f3 S i f = _ from if_neg (fun h => (hab.mp h.2).elim c174 (fun h2 => zs_le_n c181 h2)), show zp_f2 S i f = _ from if_neg c157, show zp_f1 S i f = _ from if_neg c142, show zp_f0 S i f = _ from if_neg (fun h => by rw [c122] at h; cases h)]; rfl) | (rw [z_i, z_f, show zp_faults S i f = _ from if_neg c203, show zp_f3 S i f = _ from if_neg (fun h => (hab.mp h.2).elim c174 (fun h2 => zs_le_n c181 h2)), show zp_f2 S i f = _ from if_neg c157, show zp_f1 S i f = _ from if_neg c142, show zp_f0 S i f = _ from if_neg (fun h => by rw [c122] at h; cases h)]; decide)), (by (try rw [z_i]); (try rw [z_f]); exact (zM_th hM))⟩, (zr_mf zr_same.rfl' (by unfold zr_mout; omega))⟩
                  · skip
                    refine zz_bipush (v := nI 8) hX dX6_faults_184 rfl ?_
                    refine zz_goto hX 190 dX6_faults_186 (by decide) ?_
                    refine zz_iadd (z := nI 15) hX dX6_faults_190 rfl ?_
                    refine zz_aload_n hX dX6_faults_191 0 rfl rfl ?_
                    refine zz_getR (y := 125) hX zf_F_X6_71.r hM.1 rfl (zM_r25 hM).1 dX6_faults_192 ?_
                    refine zz_iload_n hX dX6_faults_195 3 rfl rfl ?_
                    refine zz_iald (x := S 25 (48 * i + f)) hX (zM_r25 hM).2 (48 * i + f) rfl (by omega) (by decide) (((zm_u2l (by decide))).trans ((zM_v25 hM (k := 48 * i + f) (by omega)))) dX6_faults_196 ?_
                    refine zz_aload_n hX dX6_faults_197 0 rfl rfl ?_
                    refine zz_iload_n hX dX6_faults_198 1 rfl rfl ?_
                    refine zz_iload_n hX dX6_faults_199 2 rfl rfl ?_
                    refine zz_vI (x := zp_place S i f) hX zf_M_X6_148 (As := [.int (nI i), .int (nI f)]) (st := [.int (S 25 (48 * i + f)), .int (nI 15)]) (M_placeAt S sh (zm_u2 mi 1 30 (nI 0)) mr hW (zM_th hM) i hi f (by omega)) hM.1 rfl rfl rfl (by decide) (Nat.le_of_ble_eq_true rfl) (Nat.le_of_ble_eq_true rfl) (Nat.le_of_ble_eq_true rfl) dX6_faults_200 ?_
                    refine zz_icmp_eq hX 211 dX6_faults_203 (by decide) (fun c203 => ?_) (fun c203 => ?_)
                    · skip
                      refine zz_iconst (v := nI 0) hX dX6_faults_211 rfl ?_
                      refine zz_iadd (z := nI 15) hX dX6_faults_212 rfl ?_
                      refine zz_iret hX hr rfl (Nat.le_of_ble_eq_true rfl) (Nat.le_of_ble_eq_true rfl) dX6_faults_213 ?_
                      exact ⟨_, rfl, Or.inl ⟨⟨hA0, hA1⟩, trivial, trivial, (zm_u2s), (by first | (rw [z_i, z_f, show zp_faults S i f = _ from if_pos c203, show zp_f3 S i f = _ from if_pos ⟨by omega, hab.mpr (Or.inr (zs_nle c181))⟩, show zp_f2 S i f = _ from if_neg c157, show zp_f1 S i f = _ from if_neg c142, show zp_f0 S i f = _ from if_neg (fun h => by rw [c122] at h; cases h)]; done) | (rw [z_i, z_f, show zp_faults S i f = _ from if_pos c203, show zp_f3 S i f = _ from if_pos ⟨by omega, hab.mpr (Or.inr (zs_nle c181))⟩, show zp_f2 S i f = _ from if_neg c157, show zp_f1 S i f = _ from if_neg c142, show zp_f0 S i f = _ from if_neg (fun h => by rw [c122] at h; cases h)]; rfl) | (rw [z_i, z_f, show zp_faults S i f = _ from if_pos c203, show zp_f3 S i f = _ from if_pos ⟨by omega, hab.mpr (Or.inr (zs_nle c181))⟩, show zp_f2 S i f = _ from if_neg c157, show zp_f1 S i f = _ from if_neg c142, show zp_f0 S i f = _ from if_neg (fun h => by rw [c122] at h; cases h)]; decide)), (by (try rw [z_i]); (try rw [z_f]); exact (zM_th hM))⟩, (zr_mf zr_same.rfl' (by unfold zr_mout; omega))⟩
                    · skip
                      refine zz_bipush (v := nI 16) hX dX6_faults_206 rfl ?_
                      refine zz_goto hX 212 dX6_faults_208 (by decide) ?_
                      refine zz_iadd (z := nI 31) hX dX6_faults_212 rfl ?_
                      refine zz_iret hX hr rfl (Nat.le_of_ble_eq_true rfl) (Nat.le_of_ble_eq_true rfl) dX6_faults_213 ?_
                      exact ⟨_, rfl, Or.inl ⟨⟨hA0, hA1⟩, trivial, trivial, (zm_u2s), (by first | (rw [z_i, z_f, show zp_faults S i f = _ from if_neg c203, show zp_f3 S i f = _ from if_pos ⟨by omega, hab.mpr (Or.inr (zs_nle c181))⟩, show zp_f2 S i f = _ from if_neg c157, show zp_f1 S i f = _ from if_neg c142, show zp_f0 S i f = _ from if_neg (fun h => by rw [c122] at h; cases h)]; done) | (rw [z_i, z_f, show zp_faults S i f = _ from if_neg c203, show zp_f3 S i f = _ from if_pos ⟨by omega, hab.mpr (Or.inr (zs_nle c181))⟩, show zp_f2 S i f = _ from if_neg c157, show zp_f1 S i f = _ from if_neg c142, show zp_f0 S i f = _ from if_neg (fun h => by rw [c122] at h; cases h)]; rfl) | (rw [z_i, z_f, show zp_faults S i f = _ from if_neg c203, show zp_f3 S i f = _ from if_pos ⟨by omega, hab.mpr (Or.inr (zs_nle c181))⟩, show zp_f2 S i f = _ from if_neg c157, show zp_f1 S i f = _ from if_neg c142, show zp_f0 S i f = _ from if_neg (fun h => by rw [c122] at h; cases h)]; decide)), (by (try rw [z_i]); (try rw [z_f]); exact (zM_th hM))⟩, (zr_mf zr_same.rfl' (by unfold zr_mout; omega))⟩
        · skip
          refine zz_iconst (v := nI 0) hX dX6_faults_99 rfl ?_
          refine zz_goto hX 118 dX6_faults_100 (by decide) ?_
          refine zz_istore (ls' := [(0, .ref 1), (1, .int (nI i)), (2, .int (nI f)), (3, .int (nI (48 * i + f))), (4, .int (zz_bi (zs_any (fun j => ¬ S 22 (48 * (6 * i + j) + f) = zp_deg S i j f) (zv_jn S (zv_pu S i)) = true))), (5, .int (nI 0))]) hX dX6_faults_118 (Nat.le_of_ble_eq_true rfl) rfl ?_
          refine zz_iload hX dX6_faults_120 4 rfl ?_
          refine zz_if_eqB hX 129 dX6_faults_122 (by decide) (fun c122 => ?_) (fun c122 => ?_)
          · skip
            refine zz_iconst (v := nI 0) hX dX6_faults_129 rfl ?_
            refine zz_aload_n hX dX6_faults_130 0 rfl rfl ?_
            refine zz_getR (y := 123) hX zf_F_X6_65.r hM.1 rfl (zM_r23 hM).1 dX6_faults_131 ?_
            refine zz_iload_n hX dX6_faults_134 3 rfl rfl ?_
            refine zz_iald (x := S 23 (48 * i + f)) hX (zM_r23 hM).2 (48 * i + f) rfl (by omega) (by decide) (((zm_u2l (by decide))).trans ((zM_v23 hM (k := 48 * i + f) (by omega)))) dX6_faults_135 ?_
            refine zz_aload_n hX dX6_faults_136 0 rfl rfl ?_
            refine zz_iload_n hX dX6_faults_137 1 rfl rfl ?_
            refine zz_iload_n hX dX6_faults_138 2 rfl rfl ?_
            refine zz_vI (x := zp_mouth S i f) hX zf_M_X6_157 (As := [.int (nI i), .int (nI f)]) (st := [.int (S 23 (48 * i + f)), .int (nI 0)]) (M_mouthAt S sh (zm_u2 mi 1 30 (nI 0)) mr hW (zM_th hM) i hi f (by omega)) hM.1 rfl rfl rfl (by decide) (Nat.le_of_ble_eq_true rfl) (Nat.le_of_ble_eq_true rfl) (Nat.le_of_ble_eq_true rfl) dX6_faults_139 ?_
            refine zz_icmp_eq hX 149 dX6_faults_142 (by decide) (fun c142 => ?_) (fun c142 => ?_)
            · skip
              refine zz_iconst (v := nI 0) hX dX6_faults_149 rfl ?_
              refine zz_iadd (z := nI 0) hX dX6_faults_150 rfl ?_
              refine zz_aload_n hX dX6_faults_151 0 rfl rfl ?_
              refine zz_getR (y := 127) hX zf_F_X6_77.r hM.1 rfl (zM_r27 hM).1 dX6_faults_152 ?_
              refine zz_iload_n hX dX6_faults_155 3 rfl rfl ?_
              refine zz_iald (x := S 27 (48 * i + f)) hX (zM_r27 hM).2 (48 * i + f) rfl (by omega) (by decide) (((zm_u2l (by decide))).trans ((zM_v27 hM (k := 48 * i + f) (by omega)))) dX6_faults_156 ?_
              refine zz_if_eq hX 164 dX6_faults_157 (by decide) (fun c157 => ?_) (fun c157 => ?_)
              · skip
                refine zz_iconst (v := nI 0) hX dX6_faults_164 rfl ?_
                refine zz_iadd (z := nI 0) hX dX6_faults_165 rfl ?_
                refine zz_istore (ls' := [(0, .ref 1), (1, .int (nI i)), (2, .int (nI f)), (3, .int (nI (48 * i + f))), (4, .int (zz_bi (zs_any (fun j => ¬ S 22 (48 * (6 * i + j) + f) = zp_deg S i j f) (zv_jn S (zv_pu S i)) = true))), (5, .int (nI 0)), (6, .int (nI 0))]) hX dX6_faults_166 (Nat.le_of_ble_eq_true rfl) rfl ?_
                refine zz_iload hX dX6_faults_168 6 rfl ?_
                refine zz_iload hX dX6_faults_170 5 rfl ?_
                refine zz_bipush (v := nI 20) hX dX6_faults_172 rfl ?_
                refine zz_icmp_gt hX 184 dX6_faults_174 (by decide) (fun c => absurd c (by decide)) (fun _ => ?_)
                refine zz_iload hX dX6_faults_177 5 rfl ?_
                refine zz_bipush (v := (-20)) hX dX6_faults_179 rfl ?_
                refine zz_icmp_ge hX 189 dX6_faults_181 (by decide) (fun _ => ?_) (fun c => absurd c (by decide))
                refine zz_iconst (v := nI 0) hX dX6_faults_189 rfl ?_
                refine zz_iadd (z := nI 0) hX dX6_faults_190 rfl ?_
                refine zz_aload_n hX dX6_faults_191 0 rfl rfl ?_
                refine zz_getR (y := 125) hX zf_F_X6_71.r hM.1 rfl (zM_r25 hM).1 dX6_faults_192 ?_
                refine zz_iload_n hX dX6_faults_195 3 rfl rfl ?_
                refine zz_iald (x := S 25 (48 * i + f)) hX (zM_r25 hM).2 (48 * i + f) rfl (by omega) (by decide) (((zm_u2l (by decide))).trans ((zM_v25 hM (k := 48 * i + f) (by omega)))) dX6_faults_196 ?_
                refine zz_aload_n hX dX6_faults_197 0 rfl rfl ?_
                refine zz_iload_n hX dX6_faults_198 1 rfl rfl ?_
                refine zz_iload_n hX dX6_faults_199 2 rfl rfl ?_
                refine zz_vI (x := zp_place S i f) hX zf_M_X6_148 (As := [.int (nI i), .int (nI f)]) (st := [.int (S 25 (48 * i + f)), .int (nI 0)]) (M_placeAt S sh (zm_u2 mi 1 30 (nI 0)) mr hW (zM_th hM) i hi f (by omega)) hM.1 rfl rfl rfl (by decide) (Nat.le_of_ble_eq_true rfl) (Nat.le_of_ble_eq_true rfl) (Nat.le_of_ble_eq_true rfl) dX6_faults_200 ?_
                refine zz_icmp_eq hX 211 dX6_faults_203 (by decide) (fun c203 => ?_) (fun c203 => ?_)
                · skip
                  refine zz_iconst (v := nI 0) hX dX6_faults_211 rfl ?_
                  refine zz_iadd (z := nI 0) hX dX6_faults_212 rfl ?_
                  refine zz_iret hX hr rfl (Nat.le_of_ble_eq_true rfl) (Nat.le_of_ble_eq_true rfl) dX6_faults_213 ?_
                  exact ⟨_, rfl, Or.inl ⟨⟨hA0, hA1⟩, trivial, trivial, (zm_u2s), (by first | (rw [z_i, z_f, show zp_faults S i f = _ from if_pos c203, show zp_f3 S i f = _ from if_neg (fun h => absurd h.1 (by omega)), show zp_f2 S i f = _ from if_pos c157, show zp_f1 S i f = _ from if_pos c142, show zp_f0 S i f = _ from if_pos (Bool.eq_false_iff.mpr c122)]; done) | (rw [z_i, z_f, show zp_faults S i f = _ from if_pos c203, show zp_f3 S i f = _ from if_neg (fun h => absurd h.1 (by omega)), show zp_f2 S i f = _ from if_pos c157, show zp_f1 S i f = _ from if_pos c142, show zp_f0 S i f = _ from if_pos (Bool.eq_false_iff.mpr c122)]; rfl) | (rw [z_i, z_f, show zp_faults S i f = _ from if_pos c203, show zp_f3 S i f = _ from if_neg (fun h => absurd h.1 (by omega)), show zp_f2 S i f = _ from if_pos c157, show zp_f1 S i f = _ from if_pos c142, show zp_f0 S i f = _ from if_pos (Bool.eq_false_iff.mpr c122)]; decide)), (by (try rw [z_i]); (try rw [z_f]); exact (zM_th hM))⟩, (zr_mf zr_same.rfl' (by unfold zr_mout; omega))⟩
                · skip
                  refine zz_bipush (v := nI 16) hX dX6_faults_206 rfl ?_
                  refine zz_goto hX 212 dX6_faults_208 (by decide) ?_
                  refine zz_iadd (z := nI 16) hX dX6_faults_212 rfl ?_
                  refine zz_iret hX hr rfl (Nat.le_of_ble_eq_true rfl) (Nat.le_of_ble_eq_true rfl) dX6_faults_213 ?_
                  exact ⟨_, rfl, Or.inl ⟨⟨hA0, hA1⟩, trivial, trivial, (zm_u2s), (by first | (rw [z_i, z_f, show zp_faults S i f = _ from if_neg c203, show zp_f3 S i f = _ from if_neg (fun h => absurd h.1 (by omega)), show zp_f2 S i f = _ from if_pos c157, show zp_f1 S i f = _ from if_pos c142, show zp_f0 S i f = _ from if_pos (Bool.eq_false_iff.mpr c122)]; done) | (rw [z_i, z_f, show zp_faults S i f = _ from if_neg c203, show zp_f3 S i f = _ from if_neg (fun h => absurd h.1 (by omega)), show zp_f2 S i f = _ from if_pos c157, show zp_f1 S i f = _ from if_pos c142, show zp_f0 S i f = _ from if_pos (Bool.eq_false_iff.mpr c122)]; rfl) | (rw [z_i, z_f, show zp_faults S i f = _ from if_neg c203, show zp_f3 S i f = _ from if_neg (fun h => absurd h.1 (by omega)), show zp_f2 S i f = _ from if_pos c157, show zp_f1 S i f = _ from if_pos c142, show zp_f0 S i f = _ from if_pos (Bool.eq_false_iff.mpr c122)]; decide)), (by (try rw [z_i]); (try rw [z_f]); exact (zM_th hM))⟩, (zr_mf zr_same.rfl' (by unfold zr_mout; omega))⟩
              · skip
                refine zz_iconst (v := nI 4) hX dX6_faults_160 rfl ?_
                refine zz_goto hX 165 dX6_faults_161 (by decide) ?_
                refine zz_iadd (z := nI 4) hX dX6_faults_165 rfl ?_
                refine zz_istore (ls' := [(0, .ref 1), (1, .int (nI i)), (2, .int (nI f)), (3, .int (nI (48 * i + f))), (4, .int (zz_bi (zs_any (fun j => ¬ S 22 (48 * (6 * i + j) + f) = zp_deg S i j f) (zv_jn S (zv_pu S i)) = true))), (5, .int (nI 0)), (6, .int (nI 4))]) hX dX6_faults_166 (Nat.le_of_ble_eq_true rfl) rfl ?_
                refine zz_iload hX dX6_faults_168 6 rfl ?_
                refine zz_iload hX dX6_faults_170 5 rfl ?_
                refine zz_bipush (v := nI 20) hX dX6_faults_172 rfl ?_
                refine zz_icmp_gt hX 184 dX6_faults_174 (by decide) (fun c => absurd c (by decide)) (fun _ => ?_)
                refine zz_iload hX dX6_faults_177 5 rfl ?_
                refine zz_bipush (v := (-20)) hX dX6_faults_179 rfl ?_
                refine zz_icmp_ge hX 189 dX6_faults_181 (by decide) (fun _ => ?_) (fun c => absurd c (by decide))
                refine zz_iconst (v := nI 0) hX dX6_faults_189 rfl ?_
                refine zz_iadd (z := nI 4) hX dX6_faults_190 rfl ?_
                refine zz_aload_n hX dX6_faults_191 0 rfl rfl ?_
                refine zz_getR (y := 125) hX zf_F_X6_71.r hM.1 rfl (zM_r25 hM).1 dX6_faults_192 ?_
                refine zz_iload_n hX dX6_faults_195 3 rfl rfl ?_
                refine zz_iald (x := S 25 (48 * i + f)) hX (zM_r25 hM).2 (48 * i + f) rfl (by omega) (by decide) (((zm_u2l (by decide))).trans ((zM_v25 hM (k := 48 * i + f) (by omega)))) dX6_faults_196 ?_
                refine zz_aload_n hX dX6_faults_197 0 rfl rfl ?_
                refine zz_iload_n hX dX6_faults_198 1 rfl rfl ?_
                refine zz_iload_n hX dX6_faults_199 2 rfl rfl ?_
                refine zz_vI (x := zp_place S i f) hX zf_M_X6_148 (As := [.int (nI i), .int (nI f)]) (st := [.int (S 25 (48 * i + f)), .int (nI 4)]) (M_placeAt S sh (zm_u2 mi 1 30 (nI 0)) mr hW (zM_th hM) i hi f (by omega)) hM.1 rfl rfl rfl (by decide) (Nat.le_of_ble_eq_true rfl) (Nat.le_of_ble_eq_true rfl) (Nat.le_of_ble_eq_true rfl) dX6_faults_200 ?_
                refine zz_icmp_eq hX 211 dX6_faults_203 (by decide) (fun c203 => ?_) (fun c203 => ?_)
                · skip
                  refine zz_iconst (v := nI 0) hX dX6_faults_211 rfl ?_
                  refine zz_iadd (z := nI 4) hX dX6_faults_212 rfl ?_
                  refine zz_iret hX hr rfl (Nat.le_of_ble_eq_true rfl) (Nat.le_of_ble_eq_true rfl) dX6_faults_213 ?_
                  exact ⟨_, rfl, Or.inl ⟨⟨hA0, hA1⟩, trivial, trivial, (zm_u2s), (by first | (rw [z_i, z_f, show zp_faults S i f = _ from if_pos c203, show zp_f3 S i f = _ from if_neg (fun h => absurd h.1 (by omega)), show zp_f2 S i f = _ from if_neg c157, show zp_f1 S i f = _ from if_pos c142, show zp_f0 S i f = _ from if_pos (Bool.eq_false_iff.mpr c122)]; done) | (rw [z_i, z_f, show zp_faults S i f = _ from if_pos c203, show zp_f3 S i f = _ from if_neg (fun h => absurd h.1 (by omega)), show zp_f2 S i f = _ from if_neg c157, show zp_f1 S i f = _ from if_pos c142, show zp_f0 S i f = _ from if_pos (Bool.eq_false_iff.mpr c122)]; rfl) | (rw [z_i, z_f, show zp_faults S i f = _ from if_pos c203, show zp_f3 S i f = _ from if_neg (fun h => absurd h.1 (by omega)), show zp_f2 S i f = _ from if_neg c157, show zp_f1 S i f = _ from if_pos c142, show zp_f0 S i f = _ from if_pos (Bool.eq_false_iff.mpr c122)]; decide)), (by (try rw [z_i]); (try rw [z_f]); exact (zM_th hM))⟩, (zr_mf zr_same.rfl' (by unfold zr_mout; omega))⟩
                · skip
                  refine zz_bipush (v := nI 16) hX dX6_faults_206 rfl ?_
                  refine zz_goto hX 212 dX6_faults_208 (by decide) ?_
                  refine zz_iadd (z := nI 20) hX dX6_faults_212 rfl ?_
                  refine zz_iret hX hr rfl (Nat.le_of_ble_eq_true rfl) (Nat.le_of_ble_eq_true rfl) dX6_faults_213 ?_
                  exact ⟨_, rfl, Or.inl ⟨⟨hA0, hA1⟩, trivial, trivial, (zm_u2s), (by first | (rw [z_i, z_f, show zp_faults S i f = _ from if_neg c203, show zp_f3 S i f = _ from if_neg (fun h => absurd h.1 (by omega)), show zp_f2 S i f = _ from if_neg c157, show zp_f1 S i f = _ from if_pos c142, show zp_f0 S i f = _ from if_pos (Bool.eq_false_iff.mpr c122)]; done) | (rw [z_i, z_f, show zp_faults S i f = _ from if_neg c203, show zp_f3 S i f = _ from if_neg (fun h => absurd h.1 (by omega)), show zp_f2 S i f = _ from if_neg c157, show zp_f1 S i f = _ from if_pos c142, show zp_f0 S i f = _ from if_pos (Bool.eq_false_iff.mpr c122)]; rfl) | (rw [z_i, z_f, show zp_faults S i f = _ from if_neg c203, show zp_f3 S i f = _ from if_neg (fun h => absurd h.1 (by omega)), show zp_f2 S i f = _ from if_neg c157, show zp_f1 S i f = _ from if_pos c142, show zp_f0 S i f = _ from if_pos (Bool.eq_false_iff.mpr c122)]; decide)), (by (try rw [z_i]); (try rw [z_f]); exact (zM_th hM))⟩, (zr_mf zr_same.rfl' (by unfold zr_mout; omega))⟩
            · skip
              refine zz_iconst (v := nI 2) hX dX6_faults_145 rfl ?_
              refine zz_goto hX 150 dX6_faults_146 (by decide) ?_
              refine zz_iadd (z := nI 2) hX dX6_faults_150 rfl ?_
              refine zz_aload_n hX dX6_faults_151 0 rfl rfl ?_
              refine zz_getR (y := 127) hX zf_F_X6_77.r hM.1 rfl (zM_r27 hM).1 dX6_faults_152 ?_
              refine zz_iload_n hX dX6_faults_155 3 rfl rfl ?_
              refine zz_iald (x := S 27 (48 * i + f)) hX (zM_r27 hM).2 (48 * i + f) rfl (by omega) (by decide) (((zm_u2l (by decide))).trans ((zM_v27 hM (k := 48 * i + f) (by omega)))) dX6_faults_156 ?_
              refine zz_if_eq hX 164 dX6_faults_157 (by decide) (fun c157 => ?_) (fun c157 => ?_)
              · skip
                refine zz_iconst (v := nI 0) hX dX6_faults_164 rfl ?_
                refine zz_iadd (z := nI 2) hX dX6_faults_165 rfl ?_
                refine zz_istore (ls' := [(0, .ref 1), (1, .int (nI i)), (2, .int (nI f)), (3, .int (nI (48 * i + f))), (4, .int (zz_bi (zs_any (fun j => ¬ S 22 (48 * (6 * i + j) + f) = zp_deg S i j f) (zv_jn S (zv_pu S i)) = true))), (5, .int (nI 0)), (6, .int (nI 2))]) hX dX6_faults_166 (Nat.le_of_ble_eq_true rfl) rfl ?_
                refine zz_iload hX dX6_faults_168 6 rfl ?_
                refine zz_iload hX dX6_faults_170 5 rfl ?_
                refine zz_bipush (v := nI 20) hX dX6_faults_172 rfl ?_
                refine zz_icmp_gt hX 184 dX6_faults_174 (by decide) (fun c => absurd c (by decide)) (fun _ => ?_)
                refine zz_iload hX dX6_faults_177 5 rfl ?_
                refine zz_bipush (v := (-20)) hX dX6_faults_179 rfl ?_
                refine zz_icmp_ge hX 189 dX6_faults_181 (by decide) (fun _ => ?_) (fun c => absurd c (by decide))
                refine zz_iconst (v := nI 0) hX dX6_faults_189 rfl ?_
                refine zz_iadd (z := nI 2) hX dX6_faults_190 rfl ?_
                refine zz_aload_n hX dX6_faults_191 0 rfl rfl ?_
                refine zz_getR (y := 125) hX zf_F_X6_71.r hM.1 rfl (zM_r25 hM).1 dX6_faults_192 ?_
                refine zz_iload_n hX dX6_faults_195 3 rfl rfl ?_
                refine zz_iald (x := S 25 (48 * i + f)) hX (zM_r25 hM).2 (48 * i + f) rfl (by omega) (by decide) (((zm_u2l (by decide))).trans ((zM_v25 hM (k := 48 * i + f) (by omega)))) dX6_faults_196 ?_
                refine zz_aload_n hX dX6_faults_197 0 rfl rfl ?_
                refine zz_iload_n hX dX6_faults_198 1 rfl rfl ?_
                refine zz_iload_n hX dX6_faults_199 2 rfl rfl ?_
                refine zz_vI (x := zp_place S i f) hX zf_M_X6_148 (As := [.int (nI i), .int (nI f)]) (st := [.int (S 25 (48 * i + f)), .int (nI 2)]) (M_placeAt S sh (zm_u2 mi 1 30 (nI 0)) mr hW (zM_th hM) i hi f (by omega)) hM.1 rfl rfl rfl (by decide) (Nat.le_of_ble_eq_true rfl) (Nat.le_of_ble_eq_true rfl) (Nat.le_of_ble_eq_true rfl) dX6_faults_200 ?_
                refine zz_icmp_eq hX 211 dX6_faults_203 (by decide) (fun c203 => ?_) (fun c203 => ?_)
                · skip
                  refine zz_iconst (v := nI 0) hX dX6_faults_211 rfl ?_
                  refine zz_iadd (z := nI 2) hX dX6_faults_212 rfl ?_
                  refine zz_iret hX hr rfl (Nat.le_of_ble_eq_true rfl) (Nat.le_of_ble_eq_true rfl) dX6_faults_213 ?_
                  exact ⟨_, rfl, Or.inl ⟨⟨hA0, hA1⟩, trivial, trivial, (zm_u2s), (by first | (rw [z_i, z_f, show zp_faults S i f = _ from if_pos c203, show zp_f3 S i f = _ from if_neg (fun h => absurd h.1 (by omega)), show zp_f2 S i f = _ from if_pos c157, show zp_f1 S i f = _ from if_neg c142, show zp_f0 S i f = _ from if_pos (Bool.eq_false_iff.mpr c122)]; done) | (rw [z_i, z_f, show zp_faults S i f = _ from if_pos c203, show zp_f3 S i f = _ from if_neg (fun h => absurd h.1 (by omega)), show zp_f2 S i f = _ from if_pos c157, show zp_f1 S i f = _ from if_neg c142, show zp_f0 S i f = _ from if_pos (Bool.eq_false_iff.mpr c122)]; rfl) | (rw [z_i, z_f, show zp_faults S i f = _ from if_pos c203, show zp_f3 S i f = _ from if_neg (fun h => absurd h.1 (by omega)), show zp_f2 S i f = _ from if_pos c157, show zp_f1 S i f = _ from if_neg c142, show zp_f0 S i f = _ from if_pos (Bool.eq_false_iff.mpr c122)]; decide)), (by (try rw [z_i]); (try rw [z_f]); exact (zM_th hM))⟩, (zr_mf zr_same.rfl' (by unfold zr_mout; omega))⟩
                · skip
                  refine zz_bipush (v := nI 16) hX dX6_faults_206 rfl ?_
                  refine zz_goto hX 212 dX6_faults_208 (by decide) ?_
                  refine zz_iadd (z := nI 18) hX dX6_faults_212 rfl ?_
                  refine zz_iret hX hr rfl (Nat.le_of_ble_eq_true rfl) (Nat.le_of_ble_eq_true rfl) dX6_faults_213 ?_
                  exact ⟨_, rfl, Or.inl ⟨⟨hA0, hA1⟩, trivial, trivial, (zm_u2s), (by first | (rw [z_i, z_f, show zp_faults S i f = _ from if_neg c203, show zp_f3 S i f = _ from if_neg (fun h => absurd h.1 (by omega)), show zp_f2 S i f = _ from if_pos c157, show zp_f1 S i f = _ from if_neg c142, show zp_f0 S i f = _ from if_pos (Bool.eq_false_iff.mpr c122)]; done) | (rw [z_i, z_f, show zp_faults S i f = _ from if_neg c203, show zp_f3 S i f = _ from if_neg (fun h => absurd h.1 (by omega)), show zp_f2 S i f = _ from if_pos c157, show zp_f1 S i f = _ from if_neg c142, show zp_f0 S i f = _ from if_pos (Bool.eq_false_iff.mpr c122)]; rfl) | (rw [z_i, z_f, show zp_faults S i f = _ from if_neg c203, show zp_f3 S i f = _ from if_neg (fun h => absurd h.1 (by omega)), show zp_f2 S i f = _ from if_pos c157, show zp_f1 S i f = _ from if_neg c142, show zp_f0 S i f = _ from if_pos (Bool.eq_false_iff.mpr c122)]; decide)), (by (try rw [z_i]); (try rw [z_f]); exact (zM_th hM))⟩, (zr_mf zr_same.rfl' (by unfold zr_mout; omega))⟩
              · skip
                refine zz_iconst (v := nI 4) hX dX6_faults_160 rfl ?_
                refine zz_goto hX 165 dX6_faults_161 (by decide) ?_
                refine zz_iadd (z := nI 6) hX dX6_faults_165 rfl ?_
                refine zz_istore (ls' := [(0, .ref 1), (1, .int (nI i)), (2, .int (nI f)), (3, .int (nI (48 * i + f))), (4, .int (zz_bi (zs_any (fun j => ¬ S 22 (48 * (6 * i + j) + f) = zp_deg S i j f) (zv_jn S (zv_pu S i)) = true))), (5, .int (nI 0)), (6, .int (nI 6))]) hX dX6_faults_166 (Nat.le_of_ble_eq_true rfl) rfl ?_
                refine zz_iload hX dX6_faults_168 6 rfl ?_
                refine zz_iload hX dX6_faults_170 5 rfl ?_
                refine zz_bipush (v := nI 20) hX dX6_faults_172 rfl ?_
                refine zz_icmp_gt hX 184 dX6_faults_174 (by decide) (fun c => absurd c (by decide)) (fun _ => ?_)
                refine zz_iload hX dX6_faults_177 5 rfl ?_
                refine zz_bipush (v := (-20)) hX dX6_faults_179 rfl ?_
                refine zz_icmp_ge hX 189 dX6_faults_181 (by decide) (fun _ => ?_) (fun c => absurd c (by decide))
                refine zz_iconst (v := nI 0) hX dX6_faults_189 rfl ?_
                refine zz_iadd (z := nI 6) hX dX6_faults_190 rfl ?_
                refine zz_aload_n hX dX6_faults_191 0 rfl rfl ?_
                refine zz_getR (y := 125) hX zf_F_X6_71.r hM.1 rfl (zM_r25 hM).1 dX6_faults_192 ?_
                refine zz_iload_n hX dX6_faults_195 3 rfl rfl ?_
                refine zz_iald (x := S 25 (48 * i + f)) hX (zM_r25 hM).2 (48 * i + f) rfl (by omega) (by decide) (((zm_u2l (by decide))).trans ((zM_v25 hM (k := 48 * i + f) (by omega)))) dX6_faults_196 ?_
                refine zz_aload_n hX dX6_faults_197 0 rfl rfl ?_
                refine zz_iload_n hX dX6_faults_198 1 rfl rfl ?_
                refine zz_iload_n hX dX6_faults_199 2 rfl rfl ?_
                refine zz_vI (x := zp_place S i f) hX zf_M_X6_148 (As := [.int (nI i), .int (nI f)]) (st := [.int (S 25 (48 * i + f)), .int (nI 6)]) (M_placeAt S sh (zm_u2 mi 1 30 (nI 0)) mr hW (zM_th hM) i hi f (by omega)) hM.1 rfl rfl rfl (by decide) (Nat.le_of_ble_eq_true rfl) (Nat.le_of_ble_eq_true rfl) (Nat.le_of_ble_eq_true rfl) dX6_faults_200 ?_
                refine zz_icmp_eq hX 211 dX6_faults_203 (by decide) (fun c203 => ?_) (fun c203 => ?_)
                · skip
                  refine zz_iconst (v := nI 0) hX dX6_faults_211 rfl ?_
                  refine zz_iadd (z := nI 6) hX dX6_faults_212 rfl ?_
                  refine zz_iret hX hr rfl (Nat.le_of_ble_eq_true rfl) (Nat.le_of_ble_eq_true rfl) dX6_faults_213 ?_
                  exact ⟨_, rfl, Or.inl ⟨⟨hA0, hA1⟩, trivial, trivial, (zm_u2s), (by first | (rw [z_i, z_f, show zp_faults S i f = _ from if_pos c203, show zp_f3 S i f = _ from if_neg (fun h => absurd h.1 (by omega)), show zp_f2 S i f = _ from if_neg c157, show zp_f1 S i f = _ from if_neg c142, show zp_f0 S i f = _ from if_pos (Bool.eq_false_iff.mpr c122)]; done) | (rw [z_i, z_f, show zp_faults S i f = _ from if_pos c203, show zp_f3 S i f = _ from if_neg (fun h => absurd h.1 (by omega)), show zp_f2 S i f = _ from if_neg c157, show zp_f1 S i f = _ from if_neg c142, show zp_f0 S i f = _ from if_pos (Bool.eq_false_iff.mpr c122)]; rfl) | (rw [z_i, z_f, show zp_faults S i f = _ from if_pos c203, show zp_f3 S i f = _ from if_neg (fun h => absurd h.1 (by omega)), show zp_f2 S i f = _ from if_neg c157, show zp_f1 S i f = _ from if_neg c142, show zp_f0 S i f = _ from if_pos (Bool.eq_false_iff.mpr c122)]; decide)), (by (try rw [z_i]); (try rw [z_f]); exact (zM_th hM))⟩, (zr_mf zr_same.rfl' (by unfold zr_mout; omega))⟩
                · skip
                  refine zz_bipush (v := nI 16) hX dX6_faults_206 rfl ?_
                  refine zz_goto hX 212 dX6_faults_208 (by decide) ?_
                  refine zz_iadd (z := nI 22) hX dX6_faults_212 rfl ?_
                  refine zz_iret hX hr rfl (Nat.le_of_ble_eq_true rfl) (Nat.le_of_ble_eq_true rfl) dX6_faults_213 ?_
                  exact ⟨_, rfl, Or.inl ⟨⟨hA0, hA1⟩, trivial, trivial, (zm_u2s), (by first | (rw [z_i, z_f, show zp_faults S i f = _ from if_neg c203, show zp_f3 S i f = _ from if_neg (fun h => absurd h.1 (by omega)), show zp_f2 S i f = _ from if_neg c157, show zp_f1 S i f = _ from if_neg c142, show zp_f0 S i f = _ from if_pos (Bool.eq_false_iff.mpr c122)]; done) | (rw [z_i, z_f, show zp_faults S i f = _ from if_neg c203, show zp_f3 S i f = _ from if_neg (fun h => absurd h.1 (by omega)), show zp_f2 S i f = _ from if_neg c157, show zp_f1 S i f = _ from if_neg c142, show zp_f0 S i f = _ from if_pos (Bool.eq_false_iff.mpr c122)]; rfl) | (rw [z_i, z_f, show zp_faults S i f = _ from if_neg c203, show zp_f3 S i f = _ from if_neg (fun h => absurd h.1 (by omega)), show zp_f2 S i f = _ from if_neg c157, show zp_f1 S i f = _ from if_neg c142, show zp_f0 S i f = _ from if_pos (Bool.eq_false_iff.mpr c122)]; decide)), (by (try rw [z_i]); (try rw [z_f]); exact (zM_th hM))⟩, (zr_mf zr_same.rfl' (by unfold zr_mout; omega))⟩
          · skip
            refine zz_iconst (v := nI 1) hX dX6_faults_125 rfl ?_
            refine zz_goto hX 130 dX6_faults_126 (by decide) ?_
            refine zz_aload_n hX dX6_faults_130 0 rfl rfl ?_
            refine zz_getR (y := 123) hX zf_F_X6_65.r hM.1 rfl (zM_r23 hM).1 dX6_faults_131 ?_
            refine zz_iload_n hX dX6_faults_134 3 rfl rfl ?_
            refine zz_iald (x := S 23 (48 * i + f)) hX (zM_r23 hM).2 (48 * i + f) rfl (by omega) (by decide) (((zm_u2l (by decide))).trans ((zM_v23 hM (k := 48 * i + f) (by omega)))) dX6_faults_135 ?_
            refine zz_aload_n hX dX6_faults_136 0 rfl rfl ?_
            refine zz_iload_n hX dX6_faults_137 1 rfl rfl ?_
            refine zz_iload_n hX dX6_faults_138 2 rfl rfl ?_
            refine zz_vI (x := zp_mouth S i f) hX zf_M_X6_157 (As := [.int (nI i), .int (nI f)]) (st := [.int (S 23 (48 * i + f)), .int (nI 1)]) (M_mouthAt S sh (zm_u2 mi 1 30 (nI 0)) mr hW (zM_th hM) i hi f (by omega)) hM.1 rfl rfl rfl (by decide) (Nat.le_of_ble_eq_true rfl) (Nat.le_of_ble_eq_true rfl) (Nat.le_of_ble_eq_true rfl) dX6_faults_139 ?_
            refine zz_icmp_eq hX 149 dX6_faults_142 (by decide) (fun c142 => ?_) (fun c142 => ?_)
            · skip
              refine zz_iconst (v := nI 0) hX dX6_faults_149 rfl ?_
              refine zz_iadd (z := nI 1) hX dX6_faults_150 rfl ?_
              refine zz_aload_n hX dX6_faults_151 0 rfl rfl ?_
              refine zz_getR (y := 127) hX zf_F_X6_77.r hM.1 rfl (zM_r27 hM).1 dX6_faults_152 ?_
              refine zz_iload_n hX dX6_faults_155 3 rfl rfl ?_
              refine zz_iald (x := S 27 (48 * i + f)) hX (zM_r27 hM).2 (48 * i + f) rfl (by omega) (by decide) (((zm_u2l (by decide))).trans ((zM_v27 hM (k := 48 * i + f) (by omega)))) dX6_faults_156 ?_
              refine zz_if_eq hX 164 dX6_faults_157 (by decide) (fun c157 => ?_) (fun c157 => ?_)
              · skip
                refine zz_iconst (v := nI 0) hX dX6_faults_164 rfl ?_
                refine zz_iadd (z := nI 1) hX dX6_faults_165 rfl ?_
                refine zz_istore (ls' := [(0, .ref 1), (1, .int (nI i)), (2, .int (nI f)), (3, .int (nI (48 * i + f))), (4, .int (zz_bi (zs_any (fun j => ¬ S 22 (48 * (6 * i + j) + f) = zp_deg S i j f) (zv_jn S (zv_pu S i)) = true))), (5, .int (nI 0)), (6, .int (nI 1))]) hX dX6_faults_166 (Nat.le_of_ble_eq_true rfl) rfl ?_
                refine zz_iload hX dX6_faults_168 6 rfl ?_
                refine zz_iload hX dX6_faults_170 5 rfl ?_
                refine zz_bipush (v := nI 20) hX dX6_faults_172 rfl ?_
                refine zz_icmp_gt hX 184 dX6_faults_174 (by decide) (fun c => absurd c (by decide)) (fun _ => ?_)
                refine zz_iload hX dX6_faults_177 5 rfl ?_
                refine zz_bipush (v := (-20)) hX dX6_faults_179 rfl ?_
                refine zz_icmp_ge hX 189 dX6_faults_181 (by decide) (fun _ => ?_) (fun c => absurd c (by decide))
                refine zz_iconst (v := nI 0) hX dX6_faults_189 rfl ?_
                refine zz_iadd (z := nI 1) hX dX6_faults_190 rfl ?_
                refine zz_aload_n hX dX6_faults_191 0 rfl rfl ?_
                refine zz_getR (y := 125) hX zf_F_X6_71.r hM.1 rfl (zM_r25 hM).1 dX6_faults_192 ?_
                refine zz_iload_n hX dX6_faults_195 3 rfl rfl ?_
                refine zz_iald (x := S 25 (48 * i + f)) hX (zM_r25 hM).2 (48 * i + f) rfl (by omega) (by decide) (((zm_u2l (by decide))).trans ((zM_v25 hM (k := 48 * i + f) (by omega)))) dX6_faults_196 ?_
                refine zz_aload_n hX dX6_faults_197 0 rfl rfl ?_
                refine zz_iload_n hX dX6_faults_198 1 rfl rfl ?_
                refine zz_iload_n hX dX6_faults_199 2 rfl rfl ?_
                refine zz_vI (x := zp_place S i f) hX zf_M_X6_148 (As := [.int (nI i), .int (nI f)]) (st := [.int (S 25 (48 * i + f)), .int (nI 1)]) (M_placeAt S sh (zm_u2 mi 1 30 (nI 0)) mr hW (zM_th hM) i hi f (by omega)) hM.1 rfl rfl rfl (by decide) (Nat.le_of_ble_eq_true rfl) (Nat.le_of_ble_eq_true rfl) (Nat.le_of_ble_eq_true rfl) dX6_faults_200 ?_
                refine zz_icmp_eq hX 211 dX6_faults_203 (by decide) (fun c203 => ?_) (fun c203 => ?_)
                · skip
                  refine zz_iconst (v := nI 0) hX dX6_faults_211 rfl ?_
                  refine zz_iadd (z := nI 1) hX dX6_faults_212 rfl ?_
                  refine zz_iret hX hr rfl (Nat.le_of_ble_eq_true rfl) (Nat.le_of_ble_eq_true rfl) dX6_faults_213 ?_
                  exact ⟨_, rfl, Or.inl ⟨⟨hA0, hA1⟩, trivial, trivial, (zm_u2s), (by first | (rw [z_i, z_f, show zp_faults S i f = _ from if_pos c203, show zp_f3 S i f = _ from if_neg (fun h => absurd h.1 (by omega)), show zp_f2 S i f = _ from if_pos c157, show zp_f1 S i f = _ from if_pos c142, show zp_f0 S i f = _ from if_neg (fun h => by rw [c122] at h; cases h)]; done) | (rw [z_i, z_f, show zp_faults S i f = _ from if_pos c203, show zp_f3 S i f = _ from if_neg (fun h => absurd h.1 (by omega)), show zp_f2 S i f = _ from if_pos c157, show zp_f1 S i f = _ from if_pos c142, show zp_f0 S i f = _ from if_neg (fun h => by rw [c122] at h; cases h)]; rfl) | (rw [z_i, z_f, show zp_faults S i f = _ from if_pos c203, show zp_f3 S i f = _ from if_neg (fun h => absurd h.1 (by omega)), show zp_f2 S i f = _ from if_pos c157, show zp_f1 S i f = _ from if_pos c142, show zp_f0 S i f = _ from if_neg (fun h => by rw [c122] at h; cases h)]; decide)), (by (try rw [z_i]); (try rw [z_f]); exact (zM_th hM))⟩, (zr_mf zr_same.rfl' (by unfold zr_mout; omega))⟩
                · skip
                  refine zz_bipush (v := nI 16) hX dX6_faults_206 rfl ?_
                  refine zz_goto hX 212 dX6_faults_208 (by decide) ?_
                  refine zz_iadd (z := nI 17) hX dX6_faults_212 rfl ?_
                  refine zz_iret hX hr rfl (Nat.le_of_ble_eq_true rfl) (Nat.le_of_ble_eq_true rfl) dX6_faults_213 ?_
                  exact ⟨_, rfl, Or.inl ⟨⟨hA0, hA1⟩, trivial, trivial, (zm_u2s), (by first | (rw [z_i, z_f, show zp_faults S i f = _ from if_neg c203, show zp_f3 S i f = _ from if_neg (fun h => absurd h.1 (by omega)), show zp_f2 S i f = _ from if_pos c157, show zp_f1 S i f = _ from if_pos c142, show zp_f0 S i f = _ from if_neg (fun h => by rw [c122] at h; cases h)]; done) | (rw [z_i, z_f, show zp_faults S i f = _ from if_neg c203, show zp_f3 S i f = _ from if_neg (fun h => absurd h.1 (by omega)), show zp_f2 S i f = _ from if_pos c157, show zp_f1 S i f = _ from if_pos c142, show zp_f0 S i f = _ from if_neg (fun h => by rw [c122] at h; cases h)]; rfl) | (rw [z_i, z_f, show zp_faults S i f = _ from if_neg c203, show zp_f3 S i f = _ from if_neg (fun h => absurd h.1 (by omega)), show zp_f2 S i f = _ from if_pos c157, show zp_f1 S i f = _ from if_pos c142, show zp_f0 S i f = _ from if_neg (fun h => by rw [c122] at h; cases h)]; decide)), (by (try rw [z_i]); (try rw [z_f]); exact (zM_th hM))⟩, (zr_mf zr_same.rfl' (by unfold zr_mout; omega))⟩
              · skip
                refine zz_iconst (v := nI 4) hX dX6_faults_160 rfl ?_
                refine zz_goto hX 165 dX6_faults_161 (by decide) ?_
                refine zz_iadd (z := nI 5) hX dX6_faults_165 rfl ?_
                refine zz_istore (ls' := [(0, .ref 1), (1, .int (nI i)), (2, .int (nI f)), (3, .int (nI (48 * i + f))), (4, .int (zz_bi (zs_any (fun j => ¬ S 22 (48 * (6 * i + j) + f) = zp_deg S i j f) (zv_jn S (zv_pu S i)) = true))), (5, .int (nI 0)), (6, .int (nI 5))]) hX dX6_faults_166 (Nat.le_of_ble_eq_true rfl) rfl ?_
                refine zz_iload hX dX6_faults_168 6 rfl ?_
                refine zz_iload hX dX6_faults_170 5 rfl ?_
                refine zz_bipush (v := nI 20) hX dX6_faults_172 rfl ?_
                refine zz_icmp_gt hX 184 dX6_faults_174 (by decide) (fun c => absurd c (by decide)) (fun _ => ?_)
                refine zz_iload hX dX6_faults_177 5 rfl ?_
                refine zz_bipush (v := (-20)) hX dX6_faults_179 rfl ?_
                refine zz_icmp_ge hX 189 dX6_faults_181 (by decide) (fun _ => ?_) (fun c => absurd c (by decide))
                refine zz_iconst (v := nI 0) hX dX6_faults_189 rfl ?_
                refine zz_iadd (z := nI 5) hX dX6_faults_190 rfl ?_
                refine zz_aload_n hX dX6_faults_191 0 rfl rfl ?_
                refine zz_getR (y := 125) hX zf_F_X6_71.r hM.1 rfl (zM_r25 hM).1 dX6_faults_192 ?_
                refine zz_iload_n hX dX6_faults_195 3 rfl rfl ?_
                refine zz_iald (x := S 25 (48 * i + f)) hX (zM_r25 hM).2 (48 * i + f) rfl (by omega) (by decide) (((zm_u2l (by decide))).trans ((zM_v25 hM (k := 48 * i + f) (by omega)))) dX6_faults_196 ?_
                refine zz_aload_n hX dX6_faults_197 0 rfl rfl ?_
                refine zz_iload_n hX dX6_faults_198 1 rfl rfl ?_
                refine zz_iload_n hX dX6_faults_199 2 rfl rfl ?_
                refine zz_vI (x := zp_place S i f) hX zf_M_X6_148 (As := [.int (nI i), .int (nI f)]) (st := [.int (S 25 (48 * i + f)), .int (nI 5)]) (M_placeAt S sh (zm_u2 mi 1 30 (nI 0)) mr hW (zM_th hM) i hi f (by omega)) hM.1 rfl rfl rfl (by decide) (Nat.le_of_ble_eq_true rfl) (Nat.le_of_ble_eq_true rfl) (Nat.le_of_ble_eq_true rfl) dX6_faults_200 ?_
                refine zz_icmp_eq hX 211 dX6_faults_203 (by decide) (fun c203 => ?_) (fun c203 => ?_)
                · skip
                  refine zz_iconst (v := nI 0) hX dX6_faults_211 rfl ?_
                  refine zz_iadd (z := nI 5) hX dX6_faults_212 rfl ?_
                  refine zz_iret hX hr rfl (Nat.le_of_ble_eq_true rfl) (Nat.le_of_ble_eq_true rfl) dX6_faults_213 ?_
                  exact ⟨_, rfl, Or.inl ⟨⟨hA0, hA1⟩, trivial, trivial, (zm_u2s), (by first | (rw [z_i, z_f, show zp_faults S i f = _ from if_pos c203, show zp_f3 S i f = _ from if_neg (fun h => absurd h.1 (by omega)), show zp_f2 S i f = _ from if_neg c157, show zp_f1 S i f = _ from if_pos c142, show zp_f0 S i f = _ from if_neg (fun h => by rw [c122] at h; cases h)]; done) | (rw [z_i, z_f, show zp_faults S i f = _ from if_pos c203, show zp_f3 S i f = _ from if_neg (fun h => absurd h.1 (by omega)), show zp_f2 S i f = _ from if_neg c157, show zp_f1 S i f = _ from if_pos c142, show zp_f0 S i f = _ from if_neg (fun h => by rw [c122] at h; cases h)]; rfl) | (rw [z_i, z_f, show zp_faults S i f = _ from if_pos c203, show zp_f3 S i f = _ from if_neg (fun h => absurd h.1 (by omega)), show zp_f2 S i f = _ from if_neg c157, show zp_f1 S i f = _ from if_pos c142, show zp_f0 S i f = _ from if_neg (fun h => by rw [c122] at h; cases h)]; decide)), (by (try rw [z_i]); (try rw [z_f]); exact (zM_th hM))⟩, (zr_mf zr_same.rfl' (by unfold zr_mout; omega))⟩
                · skip
                  refine zz_bipush (v := nI 16) hX dX6_faults_206 rfl ?_
                  refine zz_goto hX 212 dX6_faults_208 (by decide) ?_
                  refine zz_iadd (z := nI 21) hX dX6_faults_212 rfl ?_
                  refine zz_iret hX hr rfl (Nat.le_of_ble_eq_true rfl) (Nat.le_of_ble_eq_true rfl) dX6_faults_213 ?_
                  exact ⟨_, rfl, Or.inl ⟨⟨hA0, hA1⟩, trivial, trivial, (zm_u2s), (by first | (rw [z_i, z_f, show zp_faults S i f = _ from if_neg c203, show zp_f3 S i f = _ from if_neg (fun h => absurd h.1 (by omega)), show zp_f2 S i f = _ from if_neg c157, show zp_f1 S i f = _ from if_pos c142, show zp_f0 S i f = _ from if_neg (fun h => by rw [c122] at h; cases h)]; done) | (rw [z_i, z_f, show zp_faults S i f = _ from if_neg c203, show zp_f3 S i f = _ from if_neg (fun h => absurd h.1 (by omega)), show zp_f2 S i f = _ from if_neg c157, show zp_f1 S i f = _ from if_pos c142, show zp_f0 S i f = _ from if_neg (fun h => by rw [c122] at h; cases h)]; rfl) | (rw [z_i, z_f, show zp_faults S i f = _ from if_neg c203, show zp_f3 S i f = _ from if_neg (fun h => absurd h.1 (by omega)), show zp_f2 S i f = _ from if_neg c157, show zp_f1 S i f = _ from if_pos c142, show zp_f0 S i f = _ from if_neg (fun h => by rw [c122] at h; cases h)]; decide)), (by (try rw [z_i]); (try rw [z_f]); exact (zM_th hM))⟩, (zr_mf zr_same.rfl' (by unfold zr_mout; omega))⟩
            · skip
              refine zz_iconst (v := nI 2) hX dX6_faults_145 rfl ?_
              refine zz_goto hX 150 dX6_faults_146 (by decide) ?_
              refine zz_iadd (z := nI 3) hX dX6_faults_150 rfl ?_
              refine zz_aload_n hX dX6_faults_151 0 rfl rfl ?_
              refine zz_getR (y := 127) hX zf_F_X6_77.r hM.1 rfl (zM_r27 hM).1 dX6_faults_152 ?_
              refine zz_iload_n hX dX6_faults_155 3 rfl rfl ?_
              refine zz_iald (x := S 27 (48 * i + f)) hX (zM_r27 hM).2 (48 * i + f) rfl (by omega) (by decide) (((zm_u2l (by decide))).trans ((zM_v27 hM (k := 48 * i + f) (by omega)))) dX6_faults_156 ?_
              refine zz_if_eq hX 164 dX6_faults_157 (by decide) (fun c157 => ?_) (fun c157 => ?_)
              · skip
                refine zz_iconst (v := nI 0) hX dX6_faults_164 rfl ?_
                refine zz_iadd (z := nI 3) hX dX6_faults_165 rfl ?_
                refine zz_istore (ls' := [(0, .ref 1), (1, .int (nI i)), (2, .int (nI f)), (3, .int (nI (48 * i + f))), (4, .int (zz_bi (zs_any (fun j => ¬ S 22 (48 * (6 * i + j) + f) = zp_deg S i j f) (zv_jn S (zv_pu S i)) = true))), (5, .int (nI 0)), (6, .int (nI 3))]) hX dX6_faults_166 (Nat.le_of_ble_eq_true rfl) rfl ?_
                refine zz_iload hX dX6_faults_168 6 rfl ?_
                refine zz_iload hX dX6_faults_170 5 rfl ?_
                refine zz_bipush (v := nI 20) hX dX6_faults_172 rfl ?_
                refine zz_icmp_gt hX 184 dX6_faults_174 (by decide) (fun c => absurd c (by decide)) (fun _ => ?_)
                refine zz_iload hX dX6_faults_177 5 rfl ?_
                refine zz_bipush (v := (-20)) hX dX6_faults_179 rfl ?_
                refine zz_icmp_ge hX 189 dX6_faults_181 (by decide) (fun _ => ?_) (fun c => absurd c (by decide))
                refine zz_iconst (v := nI 0) hX dX6_faults_189 rfl ?_
                refine zz_iadd (z := nI 3) hX dX6_faults_190 rfl ?_
                refine zz_aload_n hX dX6_faults_191 0 rfl rfl ?_
                refine zz_getR (y := 125) hX zf_F_X6_71.r hM.1 rfl (zM_r25 hM).1 dX6_faults_192 ?_
                refine zz_iload_n hX dX6_faults_195 3 rfl rfl ?_
                refine zz_iald (x := S 25 (48 * i + f)) hX (zM_r25 hM).2 (48 * i + f) rfl (by omega) (by decide) (((zm_u2l (by decide))).trans ((zM_v25 hM (k := 48 * i + f) (by omega)))) dX6_faults_196 ?_
                refine zz_aload_n hX dX6_faults_197 0 rfl rfl ?_
                refine zz_iload_n hX dX6_faults_198 1 rfl rfl ?_
                refine zz_iload_n hX dX6_faults_199 2 rfl rfl ?_
                refine zz_vI (x := zp_place S i f) hX zf_M_X6_148 (As := [.int (nI i), .int (nI f)]) (st := [.int (S 25 (48 * i + f)), .int (nI 3)]) (M_placeAt S sh (zm_u2 mi 1 30 (nI 0)) mr hW (zM_th hM) i hi f (by omega)) hM.1 rfl rfl rfl (by decide) (Nat.le_of_ble_eq_true rfl) (Nat.le_of_ble_eq_true rfl) (Nat.le_of_ble_eq_true rfl) dX6_faults_200 ?_
                refine zz_icmp_eq hX 211 dX6_faults_203 (by decide) (fun c203 => ?_) (fun c203 => ?_)
                · skip
                  refine zz_iconst (v := nI 0) hX dX6_faults_211 rfl ?_
                  refine zz_iadd (z := nI 3) hX dX6_faults_212 rfl ?_
                  refine zz_iret hX hr rfl (Nat.le_of_ble_eq_true rfl) (Nat.le_of_ble_eq_true rfl) dX6_faults_213 ?_
                  exact ⟨_, rfl, Or.inl ⟨⟨hA0, hA1⟩, trivial, trivial, (zm_u2s), (by first | (rw [z_i, z_f, show zp_faults S i f = _ from if_pos c203, show zp_f3 S i f = _ from if_neg (fun h => absurd h.1 (by omega)), show zp_f2 S i f = _ from if_pos c157, show zp_f1 S i f = _ from if_neg c142, show zp_f0 S i f = _ from if_neg (fun h => by rw [c122] at h; cases h)]; done) | (rw [z_i, z_f, show zp_faults S i f = _ from if_pos c203, show zp_f3 S i f = _ from if_neg (fun h => absurd h.1 (by omega)), show zp_f2 S i f = _ from if_pos c157, show zp_f1 S i f = _ from if_neg c142, show zp_f0 S i f = _ from if_neg (fun h => by rw [c122] at h; cases h)]; rfl) | (rw [z_i, z_f, show zp_faults S i f = _ from if_pos c203, show zp_f3 S i f = _ from if_neg (fun h => absurd h.1 (by omega)), show zp_f2 S i f = _ from if_pos c157, show zp_f1 S i f = _ from if_neg c142, show zp_f0 S i f = _ from if_neg (fun h => by rw [c122] at h; cases h)]; decide)), (by (try rw [z_i]); (try rw [z_f]); exact (zM_th hM))⟩, (zr_mf zr_same.rfl' (by unfold zr_mout; omega))⟩
                · skip
                  refine zz_bipush (v := nI 16) hX dX6_faults_206 rfl ?_
                  refine zz_goto hX 212 dX6_faults_208 (by decide) ?_
                  refine zz_iadd (z := nI 19) hX dX6_faults_212 rfl ?_
                  refine zz_iret hX hr rfl (Nat.le_of_ble_eq_true rfl) (Nat.le_of_ble_eq_true rfl) dX6_faults_213 ?_
                  exact ⟨_, rfl, Or.inl ⟨⟨hA0, hA1⟩, trivial, trivial, (zm_u2s), (by first | (rw [z_i, z_f, show zp_faults S i f = _ from if_neg c203, show zp_f3 S i f = _ from if_neg (fun h => absurd h.1 (by omega)), show zp_f2 S i f = _ from if_pos c157, show zp_f1 S i f = _ from if_neg c142, show zp_f0 S i f = _ from if_neg (fun h => by rw [c122] at h; cases h)]; done) | (rw [z_i, z_f, show zp_faults S i f = _ from if_neg c203, show zp_f3 S i f = _ from if_neg (fun h => absurd h.1 (by omega)), show zp_f2 S i f = _ from if_pos c157, show zp_f1 S i f = _ from if_neg c142, show zp_f0 S i f = _ from if_neg (fun h => by rw [c122] at h; cases h)]; rfl) | (rw [z_i, z_f, show zp_faults S i f = _ from if_neg c203, show zp_f3 S i f = _ from if_neg (fun h => absurd h.1 (by omega)), show zp_f2 S i f = _ from if_pos c157, show zp_f1 S i f = _ from if_neg c142, show zp_f0 S i f = _ from if_neg (fun h => by rw [c122] at h; cases h)]; decide)), (by (try rw [z_i]); (try rw [z_f]); exact (zM_th hM))⟩, (zr_mf zr_same.rfl' (by unfold zr_mout; omega))⟩
              · skip
                refine zz_iconst (v := nI 4) hX dX6_faults_160 rfl ?_
                refine zz_goto hX 165 dX6_faults_161 (by decide) ?_
                refine zz_iadd (z := nI 7) hX dX6_faults_165 rfl ?_
                refine zz_istore (ls' := [(0, .ref 1), (1, .int (nI i)), (2, .int (nI f)), (3, .int (nI (48 * i + f))), (4, .int (zz_bi (zs_any (fun j => ¬ S 22 (48 * (6 * i + j) + f) = zp_deg S i j f) (zv_jn S (zv_pu S i)) = true))), (5, .int (nI 0)), (6, .int (nI 7))]) hX dX6_faults_166 (Nat.le_of_ble_eq_true rfl) rfl ?_
                refine zz_iload hX dX6_faults_168 6 rfl ?_
                refine zz_iload hX dX6_faults_170 5 rfl ?_
                refine zz_bipush (v := nI 20) hX dX6_faults_172 rfl ?_
                refine zz_icmp_gt hX 184 dX6_faults_174 (by decide) (fun c => absurd c (by decide)) (fun _ => ?_)
                refine zz_iload hX dX6_faults_177 5 rfl ?_
                refine zz_bipush (v := (-20)) hX dX6_faults_179 rfl ?_
                refine zz_icmp_ge hX 189 dX6_faults_181 (by decide) (fun _ => ?_) (fun c => absurd c (by decide))
                refine zz_iconst (v := nI 0) hX dX6_faults_189 rfl ?_
                refine zz_iadd (z := nI 7) hX dX6_faults_190 rfl ?_
                refine zz_aload_n hX dX6_faults_191 0 rfl rfl ?_
                refine zz_getR (y := 125) hX zf_F_X6_71.r hM.1 rfl (zM_r25 hM).1 dX6_faults_192 ?_
                refine zz_iload_n hX dX6_faults_195 3 rfl rfl ?_
                refine zz_iald (x := S 25 (48 * i + f)) hX (zM_r25 hM).2 (48 * i + f) rfl (by omega) (by decide) (((zm_u2l (by decide))).trans ((zM_v25 hM (k := 48 * i + f) (by omega)))) dX6_faults_196 ?_
                refine zz_aload_n hX dX6_faults_197 0 rfl rfl ?_
                refine zz_iload_n hX dX6_faults_198 1 rfl rfl ?_
                refine zz_iload_n hX dX6_faults_199 2 rfl rfl ?_
                refine zz_vI (x := zp_place S i f) hX zf_M_X6_148 (As := [.int (nI i), .int (nI f)]) (st := [.int (S 25 (48 * i + f)), .int (nI 7)]) (M_placeAt S sh (zm_u2 mi 1 30 (nI 0)) mr hW (zM_th hM) i hi f (by omega)) hM.1 rfl rfl rfl (by decide) (Nat.le_of_ble_eq_true rfl) (Nat.le_of_ble_eq_true rfl) (Nat.le_of_ble_eq_true rfl) dX6_faults_200 ?_
                refine zz_icmp_eq hX 211 dX6_faults_203 (by decide) (fun c203 => ?_) (fun c203 => ?_)
                · skip
                  refine zz_iconst (v := nI 0) hX dX6_faults_211 rfl ?_
                  refine zz_iadd (z := nI 7) hX dX6_faults_212 rfl ?_
                  refine zz_iret hX hr rfl (Nat.le_of_ble_eq_true rfl) (Nat.le_of_ble_eq_true rfl) dX6_faults_213 ?_
                  exact ⟨_, rfl, Or.inl ⟨⟨hA0, hA1⟩, trivial, trivial, (zm_u2s), (by first | (rw [z_i, z_f, show zp_faults S i f = _ from if_pos c203, show zp_f3 S i f = _ from if_neg (fun h => absurd h.1 (by omega)), show zp_f2 S i f = _ from if_neg c157, show zp_f1 S i f = _ from if_neg c142, show zp_f0 S i f = _ from if_neg (fun h => by rw [c122] at h; cases h)]; done) | (rw [z_i, z_f, show zp_faults S i f = _ from if_pos c203, show zp_f3 S i f = _ from if_neg (fun h => absurd h.1 (by omega)), show zp_f2 S i f = _ from if_neg c157, show zp_f1 S i f = _ from if_neg c142, show zp_f0 S i f = _ from if_neg (fun h => by rw [c122] at h; cases h)]; rfl) | (rw [z_i, z_f, show zp_faults S i f = _ from if_pos c203, show zp_f3 S i f = _ from if_neg (fun h => absurd h.1 (by omega)), show zp_f2 S i f = _ from if_neg c157, show zp_f1 S i f = _ from if_neg c142, show zp_f0 S i f = _ from if_neg (fun h => by rw [c122] at h; cases h)]; decide)), (by (try rw [z_i]); (try rw [z_f]); exact (zM_th hM))⟩, (zr_mf zr_same.rfl' (by unfold zr_mout; omega))⟩
                · skip
                  refine zz_bipush (v := nI 16) hX dX6_faults_206 rfl ?_
                  refine zz_goto hX 212 dX6_faults_208 (by decide) ?_
                  refine zz_iadd (z := nI 23) hX dX6_faults_212 rfl ?_
                  refine zz_iret hX hr rfl (Nat.le_of_ble_eq_true rfl) (Nat.le_of_ble_eq_true rfl) dX6_faults_213 ?_
                  exact ⟨_, rfl, Or.inl ⟨⟨hA0, hA1⟩, trivial, trivial, (zm_u2s), (by first | (rw [z_i, z_f, show zp_faults S i f = _ from if_neg c203, show zp_f3 S i f = _ from if_neg (fun h => absurd h.1 (by omega)), show zp_f2 S i f = _ from if_neg c157, show zp_f1 S i f = _ from if_neg c142, show zp_f0 S i f = _ from if_neg (fun h => by rw [c122] at h; cases h)]; done) | (rw [z_i, z_f, show zp_faults S i f = _ from if_neg c203, show zp_f3 S i f = _ from if_neg (fun h => absurd h.1 (by omega)), show zp_f2 S i f = _ from if_neg c157, show zp_f1 S i f = _ from if_neg c142, show zp_f0 S i f = _ from if_neg (fun h => by rw [c122] at h; cases h)]; rfl) | (rw [z_i, z_f, show zp_faults S i f = _ from if_neg c203, show zp_f3 S i f = _ from if_neg (fun h => absurd h.1 (by omega)), show zp_f2 S i f = _ from if_neg c157, show zp_f1 S i f = _ from if_neg c142, show zp_f0 S i f = _ from if_neg (fun h => by rw [c122] at h; cases h)]; decide)), (by (try rw [z_i]); (try rw [z_f]); exact (zM_th hM))⟩, (zr_mf zr_same.rfl' (by unfold zr_mout; omega))⟩
      · skip
        refine zz_iload hX dX6_faults_52 4 rfl ?_
        refine zz_if_neB hX 82 dX6_faults_54 (by decide) (fun c54 => ?_) (fun c54 => ?_)
        · skip
          refine zz_iconst (v := nI 1) hX dX6_faults_82 rfl ?_
          refine zz_goto hX 87 dX6_faults_83 (by decide) ?_
          refine zz_istore (ls' := [(0, .ref 1), (1, .int (nI i)), (2, .int (nI f)), (3, .int (nI (48 * i + f))), (4, .int (nI 1)), (5, .int (nI j))]) hX dX6_faults_87 (Nat.le_of_ble_eq_true rfl) rfl ?_
          refine zz_iinc (v := nI (j + 1)) (ls' := [(0, .ref 1), (1, .int (nI i)), (2, .int (nI f)), (3, .int (nI (48 * i + f))), (4, .int (nI 1)), (5, .int (nI (j + 1)))]) hX dX6_faults_89 5 rfl (nI_1 _) (Nat.le_of_ble_eq_true rfl) rfl ?_
          refine zz_goto hX 36 dX6_faults_92 (by decide) ?_
          have g1 : zz_bi (zs_any (fun j => ¬ S 22 (48 * (6 * i + j) + f) = zp_deg S i j f) (j + 1) = true) = 1 := zz_bi_t ((zs_any_s (p := (fun j => ¬ S 22 (48 * (6 * i + j) + f) = zp_deg S i j f)) j).mpr (Or.inl c54))
          refine zz_lcl (ls' := [(0, .ref 1), (1, .int (nI i)), (2, .int (nI f)), (3, .int (nI (48 * i + f))), (4, .int (zz_bi (zs_any (fun j => ¬ S 22 (48 * (6 * i + j) + f) = zp_deg S i j f) (j + 1) = true))), (5, .int (nI (j + 1)))]) (by rw [g1]; try rfl) ?_
          exact ih36 (j + 1) (by omega) (by omega)
        · skip
          refine zz_aload_n hX dX6_faults_57 0 rfl rfl ?_
          refine zz_getR (y := 122) hX zf_F_X6_62.r hM.1 rfl (zM_r22 hM).1 dX6_faults_58 ?_
          refine zz_aload_n hX dX6_faults_61 0 rfl rfl ?_
          refine zz_iload_n hX dX6_faults_62 1 rfl rfl ?_
          refine zz_iload hX dX6_faults_63 5 rfl ?_
          refine zz_vI (x := nI (48 * (6 * i + j))) hX zf_M_X6_127 (As := [.int (nI i), .int (nI j)]) (st := [.ref 122]) (m_row sh (zm_u2 mi 1 30 (nI 0)) mr i j) hM.1 rfl rfl rfl (by decide) (Nat.le_of_ble_eq_true rfl) (Nat.le_of_ble_eq_true rfl) (Nat.le_of_ble_eq_true rfl) dX6_faults_65 ?_
          refine zz_iload_n hX dX6_faults_68 2 rfl rfl ?_
          refine zz_iadd (z := nI (48 * (6 * i + j) + f)) hX dX6_faults_69 (nI_add _ _) ?_
          refine zz_iald (x := S 22 (48 * (6 * i + j) + f)) hX (zM_r22 hM).2 (48 * (6 * i + j) + f) rfl (by omega) (by decide) (((zm_u2l (by decide))).trans ((zM_v22 hM (k := 48 * (6 * i + j) + f) (by omega)))) dX6_faults_70 ?_
          refine zz_aload_n hX dX6_faults_71 0 rfl rfl ?_
          refine zz_iload_n hX dX6_faults_72 1 rfl rfl ?_
          refine zz_iload hX dX6_faults_73 5 rfl ?_
          refine zz_iload_n hX dX6_faults_75 2 rfl rfl ?_
          refine zz_vI (x := zp_deg S i j f) hX zf_M_X6_144 (As := [.int (nI i), .int (nI j), .int (nI f)]) (st := [.int (S 22 (48 * (6 * i + j) + f))]) (M_degreeAt S sh (zm_u2 mi 1 30 (nI 0)) mr hW (zM_th hM) i hi j (by omega) f (by omega)) hM.1 rfl rfl rfl (by decide) (Nat.le_of_ble_eq_true rfl) (Nat.le_of_ble_eq_true rfl) (Nat.le_of_ble_eq_true rfl) dX6_faults_76 ?_
          refine zz_icmp_eq hX 86 dX6_faults_79 (by decide) (fun c79 => ?_) (fun c79 => ?_)
          · skip
            refine zz_iconst (v := nI 0) hX dX6_faults_86 rfl ?_
            refine zz_istore (ls' := [(0, .ref 1), (1, .int (nI i)), (2, .int (nI f)), (3, .int (nI (48 * i + f))), (4, .int (nI 0)), (5, .int (nI j))]) hX dX6_faults_87 (Nat.le_of_ble_eq_true rfl) rfl ?_
            refine zz_iinc (v := nI (j + 1)) (ls' := [(0, .ref 1), (1, .int (nI i)), (2, .int (nI f)), (3, .int (nI (48 * i + f))), (4, .int (nI 0)), (5, .int (nI (j + 1)))]) hX dX6_faults_89 5 rfl (nI_1 _) (Nat.le_of_ble_eq_true rfl) rfl ?_
            refine zz_goto hX 36 dX6_faults_92 (by decide) ?_
            have g1 : zz_bi (zs_any (fun j => ¬ S 22 (48 * (6 * i + j) + f) = zp_deg S i j f) (j + 1) = true) = 0 := zz_bi_f (fun hh => (fun h => h.elim c54 (fun h2 => h2 c79)) ((zs_any_s (p := (fun j => ¬ S 22 (48 * (6 * i + j) + f) = zp_deg S i j f)) j).mp hh))
            refine zz_lcl (ls' := [(0, .ref 1), (1, .int (nI i)), (2, .int (nI f)), (3, .int (nI (48 * i + f))), (4, .int (zz_bi (zs_any (fun j => ¬ S 22 (48 * (6 * i + j) + f) = zp_deg S i j f) (j + 1) = true))), (5, .int (nI (j + 1)))]) (by rw [g1]; try rfl) ?_
            exact ih36 (j + 1) (by omega) (by omega)
          · skip
            refine zz_iconst (v := nI 1) hX dX6_faults_82 rfl ?_
            refine zz_goto hX 87 dX6_faults_83 (by decide) ?_
            refine zz_istore (ls' := [(0, .ref 1), (1, .int (nI i)), (2, .int (nI f)), (3, .int (nI (48 * i + f))), (4, .int (nI 1)), (5, .int (nI j))]) hX dX6_faults_87 (Nat.le_of_ble_eq_true rfl) rfl ?_
            refine zz_iinc (v := nI (j + 1)) (ls' := [(0, .ref 1), (1, .int (nI i)), (2, .int (nI f)), (3, .int (nI (48 * i + f))), (4, .int (nI 1)), (5, .int (nI (j + 1)))]) hX dX6_faults_89 5 rfl (nI_1 _) (Nat.le_of_ble_eq_true rfl) rfl ?_
            refine zz_goto hX 36 dX6_faults_92 (by decide) ?_
            have g1 : zz_bi (zs_any (fun j => ¬ S 22 (48 * (6 * i + j) + f) = zp_deg S i j f) (j + 1) = true) = 1 := zz_bi_t ((zs_any_s (p := (fun j => ¬ S 22 (48 * (6 * i + j) + f) = zp_deg S i j f)) j).mpr (Or.inr c79))
            refine zz_lcl (ls' := [(0, .ref 1), (1, .int (nI i)), (2, .int (nI f)), (3, .int (nI (48 * i + f))), (4, .int (zz_bi (zs_any (fun j => ¬ S 22 (48 * (6 * i + j) + f) = zp_deg S i j f) (j + 1) = true))), (5, .int (nI (j + 1)))]) (by rw [g1]; try rfl) ?_
            exact ih36 (j + 1) (by omega) (by omega)
  exact L36 ((zv_jn S (zv_pu S i) - 0 + 1)) 0 (by omega) (Nat.zero_le _)

