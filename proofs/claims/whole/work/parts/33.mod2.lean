/-! ===== the reference's mouths, reasons, camera, film ===== -/
def zp_wnt (S : zS) (i : Nat) : Int32 := if zp_held S i (zv_sk S i) then -1 else zp_want S i (zv_sk S i)
theorem zs_left {x y s : Int32} (hx : 0 ≤ x.toInt ∧ x.toInt ≤ 100) (hy : 0 ≤ y.toInt ∧ y.toInt ≤ 24) (hs : 0 ≤ s.toInt ∧ s.toInt ≤ 300) : x - s < y ↔ x < s + y := by
  rw [zs_lt, zs_lt, zs_smallS (by omega) (by omega), zs_small (by omega) (by omega)]
  omega
theorem zs_subsub {x s y : Int32} : x - s - y = x - (s + y) := by rw [Int32.sub_sub]
set_option maxRecDepth 20000 in
theorem M_mouthAt (S : zS) (sh : zm_Sh) (mi : zm_Mi) (mr : zm_Mr) (hW : zW S) (hM : zM S sh mi mr) (i : Nat) (hi : i < zv_ns S) (f : Nat) (hf : f < 48) : zz_Con yX6_mouthAt (.code yX6_mouthAt cX6_mouthAt 6 (some Jvm.ClassFile.FieldType.int)) 1 0 0 [.ref 1, .int (nI i), .int (nI f)] sh mi mr (zz_q (some (.int (zp_mouth S i f))) sh mi mr) zz_none := by
  refine zz_begin RX6 [(0, .ref 1), (1, .int (nI i)), (2, .int (nI f))] (by decide) rfl rfl (Nat.le_of_ble_eq_true rfl) rfl ?_
  intro Γ D E ad hX hr hN hT
  obtain ⟨hWp, hWv, hWs, hWk, hWr, hWf⟩ := id hW
  obtain ⟨p0, p1, p2, p3, p4, p5⟩ := hWp
  obtain ⟨v0, v1, v2, v3, v4⟩ := hWv
  obtain ⟨s0, s1, s2, s3⟩ := hWs
  obtain ⟨f0, f1, f2, f3⟩ := hWf
  obtain ⟨b1, b2, b3, b4, b5, b6, b7, b8, b9, b10, b11, b12, b13⟩ := s2 i hi
  have hpf := zs_pf_le (zv_st S i) f
  have LL : zz Γ (D, E, 6, ad, sh) (zz_End Γ (D, E, 6, ad, sh) (zz_q (some (.int (zp_mouth S i f))) sh mi mr) zz_none 0 0) 0 0 sh mi mr 16 [(0, .ref 1), (1, .int (nI i)), (2, .int (nI f))] [.int (nI (zs_pf (zv_st S i) f))] := by
    refine zz_istore_n (ls' := [(0, .ref 1), (1, .int (nI i)), (2, .int (nI f)), (3, .int (nI (zs_pf (zv_st S i) f)))]) hX dX6_mouthAt_16 rfl (Nat.le_of_ble_eq_true rfl) rfl ?_
    refine zz_aload_n hX dX6_mouthAt_17 0 rfl rfl ?_
    refine zz_getR (y := 113) hX zf_F_X6_40.r hM.1 rfl (zM_r13 hM).1 dX6_mouthAt_18 ?_
    refine zz_iload_n hX dX6_mouthAt_21 1 rfl rfl ?_
    refine zz_iald (x := S 13 i) hX (zM_r13 hM).2 i rfl (by omega) (by decide) ((zM_v13 hM (k := i) (by omega))) dX6_mouthAt_22 ?_
    refine zz_istore (ls' := [(0, .ref 1), (1, .int (nI i)), (2, .int (nI f)), (3, .int (nI (zs_pf (zv_st S i) f))), (4, .int (S 13 i))]) hX dX6_mouthAt_23 (Nat.le_of_ble_eq_true rfl) rfl ?_
    refine zz_iconst (v := nI 0) hX dX6_mouthAt_25 rfl ?_
    refine zz_istore (ls' := [(0, .ref 1), (1, .int (nI i)), (2, .int (nI f)), (3, .int (nI (zs_pf (zv_st S i) f))), (4, .int (S 13 i)), (5, .int (nI 0))]) hX dX6_mouthAt_26 (Nat.le_of_ble_eq_true rfl) rfl ?_
    by_cases hv : S 13 i = -1
    · skip
      refine zz_lcl (ls' := [(0, .ref 1), (1, .int (nI i)), (2, .int (nI f)), (3, .int (nI (zs_pf (zv_st S i) f))), (4, .int (-1)), (5, .int (nI 0))]) (by rw [hv]) ?_
      refine zz_iload hX dX6_mouthAt_28 4 rfl ?_
      refine zz_iconst (v := (-1)) hX dX6_mouthAt_30 rfl ?_
      refine zz_icmp_eq hX 99 dX6_mouthAt_31 (by decide) (fun _ => ?_) (fun c => absurd c (by decide))
      refine zz_iconst (v := (-1)) hX dX6_mouthAt_99 rfl ?_
      refine zz_iret hX hr rfl (Nat.le_of_ble_eq_true rfl) (Nat.le_of_ble_eq_true rfl) dX6_mouthAt_100 ?_
      exact ⟨by rw [show zp_mouth S i f = -1 from if_pos hv], rfl, rfl, rfl⟩
    · skip
      obtain ⟨v, hv9, hv8⟩ := zs_ix_of (b9.resolve_left hv) (by omega)
      have z_v : zn (S 13 i) = v := by rw [hv8]; exact nI_clamp (n := v) (by omega)
      have vv := v2 v (by omega)
      refine zz_lcl (ls' := [(0, .ref 1), (1, .int (nI i)), (2, .int (nI f)), (3, .int (nI (zs_pf (zv_st S i) f) - zs_sum (fun q => S 8 (12 * v + q)) 0)), (4, .int (nI v)), (5, .int (nI 0))]) (by rw [hv8, show nI (zs_pf (zv_st S i) f) - zs_sum (fun q => S 8 (12 * v + q)) 0 = nI (zs_pf (zv_st S i) f) from Int32.sub_zero _]) ?_
      have L28 : ∀ (k28 : Nat) (k : Nat), zv_sc S v - k < k28 → (k ≤ zv_sc S v) → (zs_fst (fun k => nI (zs_pf (zv_st S i) f) < zs_sum (fun q => S 8 (12 * v + q)) (k + 1)) (fun k => S 7 (12 * v + k)) (zv_sc S v) 0 = zs_fst (fun k => nI (zs_pf (zv_st S i) f) < zs_sum (fun q => S 8 (12 * v + q)) (k + 1)) (fun k => S 7 (12 * v + k)) (zv_sc S v - k) k) → zz Γ (D, E, 6, ad, sh) (zz_End Γ (D, E, 6, ad, sh) (zz_q (some (.int (zp_mouth S i f))) sh mi mr) zz_none 0 0) 0 0 sh mi mr 28 [(0, .ref 1), (1, .int (nI i)), (2, .int (nI f)), (3, .int (nI (zs_pf (zv_st S i) f) - zs_sum (fun q => S 8 (12 * v + q)) k)), (4, .int (nI v)), (5, .int (nI k))] [] := by
        intro k28
        induction k28 with
        | zero => intro k hk28; exact absurd hk28 (Nat.not_lt_zero _)
        | succ k28 ih28 =>
          intro k hk28 hk9 hq
          have hsm9 := zs_sum_in (f := fun q => S 8 (12 * v + q)) (n := zv_sc S v) k hk9 (by omega) (fun q hq9 => (v4 v q (by omega) hq9).2)
          refine zz_iload hX dX6_mouthAt_28 4 rfl ?_
          refine zz_iconst (v := (-1)) hX dX6_mouthAt_30 rfl ?_
          refine zz_icmp_eq hX 99 dX6_mouthAt_31 (by decide) (fun c31 => absurd c31 (zs_nm1 (by omega))) (fun c31 => ?_)
          refine zz_iload hX dX6_mouthAt_34 5 rfl ?_
          refine zz_aload_n hX dX6_mouthAt_36 0 rfl rfl ?_
          refine zz_getR (y := 106) hX zf_F_X6_22.r hM.1 rfl (zM_r6 hM).1 dX6_mouthAt_37 ?_
          refine zz_iload hX dX6_mouthAt_40 4 rfl ?_
          refine zz_iald (x := nI (zv_sc S v)) hX (zM_r6 hM).2 v rfl (by omega) (by decide) (((zM_v6 hM (k := v) (by omega)).trans vv.1)) dX6_mouthAt_42 ?_
          refine zz_icmp_geN hX (by omega) (by omega) 99 dX6_mouthAt_43 (by decide) (fun c43 => ?_) (fun c43 => ?_)
          · skip
            refine zz_iconst (v := (-1)) hX dX6_mouthAt_99 rfl ?_
            refine zz_iret hX hr rfl (Nat.le_of_ble_eq_true rfl) (Nat.le_of_ble_eq_true rfl) dX6_mouthAt_100 ?_
            have e9 : zp_mouth S i f = -1 := by
              unfold zp_mouth
              rw [if_neg hv, z_v]
              exact hq.trans (zs_fst_end (by omega))
            exact ⟨by rw [e9], rfl, rfl, rfl⟩
          · skip
            refine zz_iload_n hX dX6_mouthAt_46 3 rfl rfl ?_
            refine zz_aload_n hX dX6_mouthAt_47 0 rfl rfl ?_
            refine zz_getR (y := 108) hX zf_F_X6_28.r hM.1 rfl (zM_r8 hM).1 dX6_mouthAt_48 ?_
            refine zz_bipush (v := nI 12) hX dX6_mouthAt_51 rfl ?_
            refine zz_iload hX dX6_mouthAt_53 4 rfl ?_
            refine zz_imul (z := nI (12 * v)) hX dX6_mouthAt_55 (pk_mul _ _) ?_
            refine zz_iload hX dX6_mouthAt_56 5 rfl ?_
            refine zz_iadd (z := nI (12 * v + k)) hX dX6_mouthAt_58 (nI_add _ _) ?_
            refine zz_iald (x := S 8 (12 * v + k)) hX (zM_r8 hM).2 (12 * v + k) rfl (by omega) (by decide) ((zM_v8 hM (k := 12 * v + k) (by omega))) dX6_mouthAt_59 ?_
            refine zz_icmp_ge hX 77 dX6_mouthAt_60 (by decide) (fun c60 => ?_) (fun c60 => ?_)
            · skip
              refine zz_iload_n hX dX6_mouthAt_77 3 rfl rfl ?_
              refine zz_aload_n hX dX6_mouthAt_78 0 rfl rfl ?_
              refine zz_getR (y := 108) hX zf_F_X6_28.r hM.1 rfl (zM_r8 hM).1 dX6_mouthAt_79 ?_
              refine zz_bipush (v := nI 12) hX dX6_mouthAt_82 rfl ?_
              refine zz_iload hX dX6_mouthAt_84 4 rfl ?_
              refine zz_imul (z := nI (12 * v)) hX dX6_mouthAt_86 (pk_mul _ _) ?_
              refine zz_iload hX dX6_mouthAt_87 5 rfl ?_
              refine zz_iadd (z := nI (12 * v + k)) hX dX6_mouthAt_89 (nI_add _ _) ?_
              refine zz_iald (x := S 8 (12 * v + k)) hX (zM_r8 hM).2 (12 * v + k) rfl (by omega) (by decide) ((zM_v8 hM (k := 12 * v + k) (by omega))) dX6_mouthAt_90 ?_
              refine zz_isub (z := (nI (zs_pf (zv_st S i) f) - zs_sum (fun q => S 8 (12 * v + q)) k) - (S 8 (12 * v + k))) hX dX6_mouthAt_91 rfl ?_
              refine zz_istore_n (ls' := [(0, .ref 1), (1, .int (nI i)), (2, .int (nI f)), (3, .int ((nI (zs_pf (zv_st S i) f) - zs_sum (fun q => S 8 (12 * v + q)) k) - (S 8 (12 * v + k)))), (4, .int (nI v)), (5, .int (nI k))]) hX dX6_mouthAt_92 rfl (Nat.le_of_ble_eq_true rfl) rfl ?_
              refine zz_iinc (v := nI (k + 1)) (ls' := [(0, .ref 1), (1, .int (nI i)), (2, .int (nI f)), (3, .int ((nI (zs_pf (zv_st S i) f) - zs_sum (fun q => S 8 (12 * v + q)) k) - (S 8 (12 * v + k)))), (4, .int (nI v)), (5, .int (nI (k + 1)))]) hX dX6_mouthAt_93 5 rfl (nI_1 _) (Nat.le_of_ble_eq_true rfl) rfl ?_
              refine zz_goto hX 28 dX6_mouthAt_96 (by decide) ?_
              refine zz_lcl (ls' := [(0, .ref 1), (1, .int (nI i)), (2, .int (nI f)), (3, .int (nI (zs_pf (zv_st S i) f) - zs_sum (fun q => S 8 (12 * v + q)) (k + 1))), (4, .int (nI v)), (5, .int (nI (k + 1)))]) (by rw [show nI (zs_pf (zv_st S i) f) - zs_sum (fun q => S 8 (12 * v + q)) k - S 8 (12 * v + k) = nI (zs_pf (zv_st S i) f) - zs_sum (fun q => S 8 (12 * v + q)) (k + 1) from zs_subsub]) ?_
              exact ih28 (k + 1) (by omega) (by omega) (hq.trans (zs_fst_step (g := (fun k => nI (zs_pf (zv_st S i) f) < zs_sum (fun q => S 8 (12 * v + q)) (k + 1))) (v := (fun k => S 7 (12 * v + k))) c43 (fun h => by have h2 := (zs_left (x := nI (zs_pf (zv_st S i) f)) (y := S 8 (12 * v + k)) ⟨by rw [nI_toInt (by omega)]; omega, by rw [nI_toInt (by omega)]; omega⟩ ⟨by have := (v4 v k (by omega) c43).2.1; omega, (v4 v k (by omega) c43).2.2⟩ ⟨hsm9.1, by omega⟩).mpr h; rw [zs_lt] at h2; rw [zs_le] at c60; omega)))
            · skip
              refine zz_aload_n hX dX6_mouthAt_63 0 rfl rfl ?_
              refine zz_getR (y := 107) hX zf_F_X6_25.r hM.1 rfl (zM_r7 hM).1 dX6_mouthAt_64 ?_
              refine zz_bipush (v := nI 12) hX dX6_mouthAt_67 rfl ?_
              refine zz_iload hX dX6_mouthAt_69 4 rfl ?_
              refine zz_imul (z := nI (12 * v)) hX dX6_mouthAt_71 (pk_mul _ _) ?_
              refine zz_iload hX dX6_mouthAt_72 5 rfl ?_
              refine zz_iadd (z := nI (12 * v + k)) hX dX6_mouthAt_74 (nI_add _ _) ?_
              refine zz_iald (x := S 7 (12 * v + k)) hX (zM_r7 hM).2 (12 * v + k) rfl (by omega) (by decide) ((zM_v7 hM (k := 12 * v + k) (by omega))) dX6_mouthAt_75 ?_
              refine zz_iret hX hr rfl (Nat.le_of_ble_eq_true rfl) (Nat.le_of_ble_eq_true rfl) dX6_mouthAt_76 ?_
              have e9 : zp_mouth S i f = S 7 (12 * v + k) := by
                unfold zp_mouth
                rw [if_neg hv, z_v]
                exact hq.trans (zs_fst_hit (g := (fun k => nI (zs_pf (zv_st S i) f) < zs_sum (fun q => S 8 (12 * v + q)) (k + 1))) (v := (fun k => S 7 (12 * v + k))) c43 ((zs_left (x := nI (zs_pf (zv_st S i) f)) (y := S 8 (12 * v + k)) ⟨by rw [nI_toInt (by omega)]; omega, by rw [nI_toInt (by omega)]; omega⟩ ⟨by have := (v4 v k (by omega) c43).2.1; omega, (v4 v k (by omega) c43).2.2⟩ ⟨hsm9.1, by omega⟩).mp (by rw [zs_lt]; rw [zs_le] at c60; omega)))
              exact ⟨by rw [e9], rfl, rfl, rfl⟩
      exact L28 ((zv_sc S v - 0 + 1)) 0 (by omega) (Nat.zero_le _) rfl
  refine zz_aload_n hX dX6_mouthAt_0 0 rfl rfl ?_
  refine zz_iload_n hX dX6_mouthAt_1 1 rfl rfl ?_
  refine zz_iload_n hX dX6_mouthAt_2 2 rfl rfl ?_
  refine zz_vI (x := zz_bi (zp_held S i f)) hX zf_M_X6_123 (As := [.int (nI i), .int (nI f)]) (st := []) (M_isHeld S sh mi mr hW hM i hi f (by omega)) hM.1 rfl rfl rfl (by decide) (Nat.le_of_ble_eq_true rfl) (Nat.le_of_ble_eq_true rfl) (Nat.le_of_ble_eq_true rfl) dX6_mouthAt_3 ?_
  refine zz_if_eqB hX 15 dX6_mouthAt_6 (by decide) (fun c6 => ?_) (fun c6 => ?_)
  · skip
    refine zz_iload_n hX dX6_mouthAt_15 2 rfl rfl ?_
    refine zz_top (congrArg nI (show f = zs_pf (zv_st S i) f from (Classical.byContradiction fun q => c6 (fun e => q e.symm)))) ?_
    exact LL
  · skip
    refine zz_iload_n hX dX6_mouthAt_9 2 rfl rfl ?_
    refine zz_iconst (v := nI 1) hX dX6_mouthAt_10 rfl ?_
    refine zz_isub (z := nI (f - 1)) hX dX6_mouthAt_11 (pk_sub (by have := zs_pf_held0 c6; omega)) ?_
    refine zz_goto hX 16 dX6_mouthAt_12 (by decide) ?_
    refine zz_top (congrArg nI (show f - 1 = zs_pf (zv_st S i) f from (zs_pf_of_held c6).symm)) ?_
    exact LL

set_option maxRecDepth 20000 in
theorem M_wanted (S : zS) (sh : zm_Sh) (mi : zm_Mi) (mr : zm_Mr) (hW : zW S) (hM : zM S sh mi mr) (i : Nat) (hi : i < zv_ns S) (hk : zv_sk S i < zv_fr S i) : zz_Con yX6_wanted (.code yX6_wanted cX6_wanted 4 (some Jvm.ClassFile.FieldType.int)) 2 0 0 [.ref 1, .int (nI i)] sh mi mr (zz_q (some (.int (zp_wnt S i))) sh mi mr) zz_none := by
  refine zz_begin RX6 [(0, .ref 1), (1, .int (nI i))] (by decide) rfl rfl (Nat.le_of_ble_eq_true rfl) rfl ?_
  intro Γ D E ad hX hr hN hT
  obtain ⟨hWp, hWv, hWs, hWk, hWr, hWf⟩ := id hW
  obtain ⟨p0, p1, p2, p3, p4, p5⟩ := hWp
  obtain ⟨v0, v1, v2, v3, v4⟩ := hWv
  obtain ⟨s0, s1, s2, s3⟩ := hWs
  obtain ⟨f0, f1, f2, f3⟩ := hWf
  obtain ⟨b1, b2, b3, b4, b5, b6, b7, b8, b9, b10, b11, b12, b13⟩ := s2 i hi
  refine zz_aload_n hX dX6_wanted_0 0 rfl rfl ?_
  refine zz_getR (y := 115) hX zf_F_X6_46.r hM.1 rfl (zM_r15 hM).1 dX6_wanted_1 ?_
  refine zz_iload_n hX dX6_wanted_4 1 rfl rfl ?_
  refine zz_iald (x := nI (zv_sk S i)) hX (zM_r15 hM).2 i rfl (by omega) (by decide) (((zM_v15 hM (k := i) (by omega)).trans (s2 i hi).2.2.2.2.2.2.2.2.2.2.1)) dX6_wanted_5 ?_
  refine zz_istore_n (ls' := [(0, .ref 1), (1, .int (nI i)), (2, .int (nI (zv_sk S i)))]) hX dX6_wanted_6 rfl (Nat.le_of_ble_eq_true rfl) rfl ?_
  refine zz_aload_n hX dX6_wanted_7 0 rfl rfl ?_
  refine zz_iload_n hX dX6_wanted_8 1 rfl rfl ?_
  refine zz_iload_n hX dX6_wanted_9 2 rfl rfl ?_
  refine zz_vI (x := zp_mouth S i (zv_sk S i)) hX zf_M_X6_157 (As := [.int (nI i), .int (nI (zv_sk S i))]) (st := []) (M_mouthAt S sh mi mr hW hM i hi (zv_sk S i) (by omega)) hM.1 rfl rfl rfl (by decide) (Nat.le_of_ble_eq_true rfl) (Nat.le_of_ble_eq_true rfl) (Nat.le_of_ble_eq_true rfl) dX6_wanted_10 ?_
  refine zz_istore_n (ls' := [(0, .ref 1), (1, .int (nI i)), (2, .int (nI (zv_sk S i))), (3, .int (zp_mouth S i (zv_sk S i)))]) hX dX6_wanted_13 rfl (Nat.le_of_ble_eq_true rfl) rfl ?_
  refine zz_aload_n hX dX6_wanted_14 0 rfl rfl ?_
  refine zz_iload_n hX dX6_wanted_15 1 rfl rfl ?_
  refine zz_iload_n hX dX6_wanted_16 2 rfl rfl ?_
  refine zz_vI (x := zz_bi (zp_held S i (zv_sk S i))) hX zf_M_X6_123 (As := [.int (nI i), .int (nI (zv_sk S i))]) (st := []) (M_isHeld S sh mi mr hW hM i hi (zv_sk S i) (by omega)) hM.1 rfl rfl rfl (by decide) (Nat.le_of_ble_eq_true rfl) (Nat.le_of_ble_eq_true rfl) (Nat.le_of_ble_eq_true rfl) dX6_wanted_17 ?_
  refine zz_if_neB hX 44 dX6_wanted_20 (by decide) (fun c20 => ?_) (fun c20 => ?_)
  · skip
    refine zz_iconst (v := (-1)) hX dX6_wanted_44 rfl ?_
    refine zz_goto hX 49 dX6_wanted_45 (by decide) ?_
    refine zz_iret hX hr rfl (Nat.le_of_ble_eq_true rfl) (Nat.le_of_ble_eq_true rfl) dX6_wanted_49 ?_
    exact ⟨by rw [show zp_wnt S i = -1 from if_pos c20], rfl, rfl, rfl⟩
  · skip
    refine zz_iload_n hX dX6_wanted_23 2 rfl rfl ?_
    refine zz_if_leN hX (by omega) 48 dX6_wanted_24 (by decide) (fun c24 => ?_) (fun c24 => ?_)
    · skip
      refine zz_iload_n hX dX6_wanted_48 3 rfl rfl ?_
      refine zz_iret hX hr rfl (Nat.le_of_ble_eq_true rfl) (Nat.le_of_ble_eq_true rfl) dX6_wanted_49 ?_
      exact ⟨by unfold zp_wnt; rw [if_neg c20]; unfold zp_want zp_last; rw [if_pos c24]; split <;> rename_i h9 <;> first | rw [h9] | rfl, rfl, rfl, rfl⟩
    · skip
      refine zz_iload_n hX dX6_wanted_27 3 rfl rfl ?_
      refine zz_aload_n hX dX6_wanted_28 0 rfl rfl ?_
      refine zz_getR (y := 123) hX zf_F_X6_65.r hM.1 rfl (zM_r23 hM).1 dX6_wanted_29 ?_
      refine zz_bipush (v := nI 48) hX dX6_wanted_32 rfl ?_
      refine zz_iload_n hX dX6_wanted_34 1 rfl rfl ?_
      refine zz_imul (z := nI (48 * i)) hX dX6_wanted_35 (pk_mul _ _) ?_
      refine zz_iload_n hX dX6_wanted_36 2 rfl rfl ?_
      refine zz_iadd (z := nI (48 * i + (zv_sk S i))) hX dX6_wanted_37 (nI_add _ _) ?_
      refine zz_iconst (v := nI 1) hX dX6_wanted_38 rfl ?_
      refine zz_isub (z := nI ((48 * i + (zv_sk S i)) - 1)) hX dX6_wanted_39 (pk_sub (by omega)) ?_
      refine zz_iald (x := S 23 ((48 * i + (zv_sk S i)) - 1)) hX (zM_r23 hM).2 ((48 * i + (zv_sk S i)) - 1) rfl (by omega) (by decide) ((zM_v23 hM (k := (48 * i + (zv_sk S i)) - 1) (by omega))) dX6_wanted_40 ?_
      refine zz_icmp_ne hX 48 dX6_wanted_41 (by decide) (fun c41 => ?_) (fun c41 => ?_)
      · skip
        refine zz_iload_n hX dX6_wanted_48 3 rfl rfl ?_
        refine zz_iret hX hr rfl (Nat.le_of_ble_eq_true rfl) (Nat.le_of_ble_eq_true rfl) dX6_wanted_49 ?_
        exact ⟨by unfold zp_wnt; rw [if_neg c20]; unfold zp_want zp_last; rw [if_neg (show ¬ zv_sk S i = 0 by omega), show 48 * i + (zv_sk S i - 1) = 48 * i + zv_sk S i - 1 by omega, if_neg c41], rfl, rfl, rfl⟩
      · skip
        refine zz_iconst (v := (-1)) hX dX6_wanted_44 rfl ?_
        refine zz_goto hX 49 dX6_wanted_45 (by decide) ?_
        refine zz_iret hX hr rfl (Nat.le_of_ble_eq_true rfl) (Nat.le_of_ble_eq_true rfl) dX6_wanted_49 ?_
        exact ⟨by unfold zp_wnt; rw [if_neg c20]; unfold zp_want zp_last; rw [if_neg (show ¬ zv_sk S i = 0 by omega), show 48 * i + (zv_sk S i - 1) = 48 * i + zv_sk S i - 1 by omega, if_pos c41], rfl, rfl, rfl⟩

set_option maxRecDepth 20000 in
theorem M_isBroken (S : zS) (sh : zm_Sh) (mi : zm_Mi) (mr : zm_Mr) (hW : zW S) (hM : zM S sh mi mr) (p : Nat) (hp : p < zv_np S) : zz_Con yX6_isBroken (.code yX6_isBroken cX6_isBroken 4 (some Jvm.ClassFile.FieldType.boolean)) 0 0 0 [.ref 1, .int (nI p)] sh mi mr (zz_q (some (.int (zz_bi (zp_brk S p)))) sh mi mr) zz_none := by
  refine zz_begin RX6 [(0, .ref 1), (1, .int (nI p))] (by decide) rfl rfl (Nat.le_of_ble_eq_true rfl) rfl ?_
  intro Γ D E ad hX hr hN hT
  obtain ⟨hWp, hWv, hWs, hWk, hWr, hWf⟩ := id hW
  obtain ⟨p0, p1, p2, p3, p4, p5⟩ := hWp
  obtain ⟨v0, v1, v2, v3, v4⟩ := hWv
  obtain ⟨s0, s1, s2, s3⟩ := hWs
  obtain ⟨f0, f1, f2, f3⟩ := hWf
  have hjn9 := (p2 p hp).2.2
  refine zz_iconst (v := nI 0) hX dX6_isBroken_0 rfl ?_
  refine zz_istore_n (ls' := [(0, .ref 1), (1, .int (nI p)), (2, .int (nI 0))]) hX dX6_isBroken_1 rfl (Nat.le_of_ble_eq_true rfl) rfl ?_
  refine zz_iconst (v := nI 0) hX dX6_isBroken_2 rfl ?_
  refine zz_istore_n (ls' := [(0, .ref 1), (1, .int (nI p)), (2, .int (nI 0)), (3, .int (nI 0))]) hX dX6_isBroken_3 rfl (Nat.le_of_ble_eq_true rfl) rfl ?_
  refine zz_lcl (ls' := [(0, .ref 1), (1, .int (nI p)), (2, .int (zz_bi (zs_any (fun j => nI 1000 ≤ S 3 (6 * p + j)) 0 = true))), (3, .int (nI 0))]) rfl ?_
  have L4 : ∀ (k4 : Nat) (k : Nat), zv_jn S p - k < k4 → (k ≤ zv_jn S p) → zz Γ (D, E, 4, ad, sh) (zz_End Γ (D, E, 4, ad, sh) (zz_q (some (.int (zz_bi (zp_brk S p)))) sh mi mr) zz_none 0 0) 0 0 sh mi mr 4 [(0, .ref 1), (1, .int (nI p)), (2, .int (zz_bi (zs_any (fun j => nI 1000 ≤ S 3 (6 * p + j)) k = true))), (3, .int (nI k))] [] := by
    intro k4
    induction k4 with
    | zero => intro k hk4; exact absurd hk4 (Nat.not_lt_zero _)
    | succ k4 ih4 =>
      intro k hk4 hk9
      refine zz_iload_n hX dX6_isBroken_4 3 rfl rfl ?_
      refine zz_aload_n hX dX6_isBroken_5 0 rfl rfl ?_
      refine zz_getR (y := 101) hX zf_F_X6_7.r hM.1 rfl (zM_r1 hM).1 dX6_isBroken_6 ?_
      refine zz_iload_n hX dX6_isBroken_9 1 rfl rfl ?_
      refine zz_iald (x := nI (zv_jn S p)) hX (zM_r1 hM).2 p rfl (by omega) (by decide) (((zM_v1 hM (k := p) (by omega)).trans (p2 p hp).1)) dX6_isBroken_10 ?_
      refine zz_icmp_geN hX (by omega) (by omega) 47 dX6_isBroken_11 (by decide) (fun c11 => ?_) (fun c11 => ?_)
      · skip
        refine zz_iload_n hX dX6_isBroken_47 2 rfl rfl ?_
        refine zz_iret hX hr (zk_nbi _) (Nat.le_of_ble_eq_true rfl) (Nat.le_of_ble_eq_true rfl) dX6_isBroken_48 ?_
        exact ⟨by rw [show k = zv_jn S p by omega], rfl, rfl, rfl⟩
      · skip
        refine zz_iload_n hX dX6_isBroken_14 2 rfl rfl ?_
        refine zz_if_neB hX 35 dX6_isBroken_15 (by decide) (fun c15 => ?_) (fun c15 => ?_)
        · skip
          refine zz_iconst (v := nI 1) hX dX6_isBroken_35 rfl ?_
          refine zz_goto hX 40 dX6_isBroken_36 (by decide) ?_
          refine zz_istore_n (ls' := [(0, .ref 1), (1, .int (nI p)), (2, .int (nI 1)), (3, .int (nI k))]) hX dX6_isBroken_40 rfl (Nat.le_of_ble_eq_true rfl) rfl ?_
          refine zz_iinc (v := nI (k + 1)) (ls' := [(0, .ref 1), (1, .int (nI p)), (2, .int (nI 1)), (3, .int (nI (k + 1)))]) hX dX6_isBroken_41 3 rfl (nI_1 _) (Nat.le_of_ble_eq_true rfl) rfl ?_
          refine zz_goto hX 4 dX6_isBroken_44 (by decide) ?_
          refine zz_lcl (ls' := [(0, .ref 1), (1, .int (nI p)), (2, .int (zz_bi (zs_any (fun j => nI 1000 ≤ S 3 (6 * p + j)) (k + 1) = true))), (3, .int (nI (k + 1)))]) (congrArg (fun z => [(0, Value.ref 1), (1, .int (nI p)), (2, .int z), (3, .int (nI (k + 1)))]) ((zz_bi_t ((zs_any_s (p := (fun j => nI 1000 ≤ S 3 (6 * p + j))) k).mpr (Or.inl c15))).symm)) ?_
          exact ih4 (k + 1) (by omega) (by omega)
        · skip
          refine zz_aload_n hX dX6_isBroken_18 0 rfl rfl ?_
          refine zz_getR (y := 103) hX zf_F_X6_16.r hM.1 rfl (zM_r3 hM).1 dX6_isBroken_19 ?_
          refine zz_bipush (v := nI 6) hX dX6_isBroken_22 rfl ?_
          refine zz_iload_n hX dX6_isBroken_24 1 rfl rfl ?_
          refine zz_imul (z := nI (6 * p)) hX dX6_isBroken_25 (pk_mul _ _) ?_
          refine zz_iload_n hX dX6_isBroken_26 3 rfl rfl ?_
          refine zz_iadd (z := nI (6 * p + k)) hX dX6_isBroken_27 (nI_add _ _) ?_
          refine zz_iald (x := S 3 (6 * p + k)) hX (zM_r3 hM).2 (6 * p + k) rfl (by omega) (by decide) ((zM_v3 hM (k := 6 * p + k) (by omega))) dX6_isBroken_28 ?_
          refine zz_sipush (v := nI 1000) hX dX6_isBroken_29 rfl ?_
          refine zz_icmp_lt hX 39 dX6_isBroken_32 (by decide) (fun c32 => ?_) (fun c32 => ?_)
          · skip
            refine zz_iconst (v := nI 0) hX dX6_isBroken_39 rfl ?_
            refine zz_istore_n (ls' := [(0, .ref 1), (1, .int (nI p)), (2, .int (nI 0)), (3, .int (nI k))]) hX dX6_isBroken_40 rfl (Nat.le_of_ble_eq_true rfl) rfl ?_
            refine zz_iinc (v := nI (k + 1)) (ls' := [(0, .ref 1), (1, .int (nI p)), (2, .int (nI 0)), (3, .int (nI (k + 1)))]) hX dX6_isBroken_41 3 rfl (nI_1 _) (Nat.le_of_ble_eq_true rfl) rfl ?_
            refine zz_goto hX 4 dX6_isBroken_44 (by decide) ?_
            refine zz_lcl (ls' := [(0, .ref 1), (1, .int (nI p)), (2, .int (zz_bi (zs_any (fun j => nI 1000 ≤ S 3 (6 * p + j)) (k + 1) = true))), (3, .int (nI (k + 1)))]) (congrArg (fun z => [(0, Value.ref 1), (1, .int (nI p)), (2, .int z), (3, .int (nI (k + 1)))]) ((zz_bi_f (fun h => ((zs_any_s (p := (fun j => nI 1000 ≤ S 3 (6 * p + j))) k).mp h).elim c15 (fun h2 => by have h3 : nI 1000 ≤ S 3 (6 * p + k) := h2; rw [zs_le] at h3; rw [zs_lt] at c32; omega))).symm)) ?_
            exact ih4 (k + 1) (by omega) (by omega)
          · skip
            refine zz_iconst (v := nI 1) hX dX6_isBroken_35 rfl ?_
            refine zz_goto hX 40 dX6_isBroken_36 (by decide) ?_
            refine zz_istore_n (ls' := [(0, .ref 1), (1, .int (nI p)), (2, .int (nI 1)), (3, .int (nI k))]) hX dX6_isBroken_40 rfl (Nat.le_of_ble_eq_true rfl) rfl ?_
            refine zz_iinc (v := nI (k + 1)) (ls' := [(0, .ref 1), (1, .int (nI p)), (2, .int (nI 1)), (3, .int (nI (k + 1)))]) hX dX6_isBroken_41 3 rfl (nI_1 _) (Nat.le_of_ble_eq_true rfl) rfl ?_
            refine zz_goto hX 4 dX6_isBroken_44 (by decide) ?_
            refine zz_lcl (ls' := [(0, .ref 1), (1, .int (nI p)), (2, .int (zz_bi (zs_any (fun j => nI 1000 ≤ S 3 (6 * p + j)) (k + 1) = true))), (3, .int (nI (k + 1)))]) (congrArg (fun z => [(0, Value.ref 1), (1, .int (nI p)), (2, .int z), (3, .int (nI (k + 1)))]) ((zz_bi_t ((zs_any_s (p := (fun j => nI 1000 ≤ S 3 (6 * p + j))) k).mpr (Or.inr (show nI 1000 ≤ S 3 (6 * p + k) by rw [zs_le]; rw [zs_lt] at c32; omega)))).symm)) ?_
            exact ih4 (k + 1) (by omega) (by omega)
  exact L4 ((zv_jn S p - 0 + 1)) 0 (by omega) (Nat.zero_le _)

set_option maxRecDepth 20000 in
theorem m_shorter (a b : Int32) (ha : zv_in a 0 359) (hb : zv_in b 0 359) (sh : zm_Sh) (mi : zm_Mi) (mr : zm_Mr) : zz_Con yX6_shorter (.code yX6_shorter cX6_shorter 3 (some Jvm.ClassFile.FieldType.int)) 0 0 0 [.int a, .int b] sh mi mr (zz_q (some (.int (zs_abs (zs_sw a b)))) sh mi mr) zz_none := by
  refine zz_begin RX6 [(0, .int a), (1, .int b)] (by decide) rfl rfl (Nat.le_of_ble_eq_true rfl) rfl ?_
  intro Γ D E ad hX hr hN hT
  refine zz_iload_n hX dX6_shorter_0 0 rfl rfl ?_
  refine zz_iload_n hX dX6_shorter_1 1 rfl rfl ?_
  refine zz_icmp_le hX 11 dX6_shorter_2 (by decide) (fun c2 => ?_) (fun c2 => ?_)
  · skip
    refine zz_iload_n hX dX6_shorter_11 1 rfl rfl ?_
    refine zz_iload_n hX dX6_shorter_12 0 rfl rfl ?_
    refine zz_isub (z := b - a) hX dX6_shorter_13 rfl ?_
    refine zz_istore_n (ls' := [(0, .int a), (1, .int b), (2, .int (b - a))]) hX dX6_shorter_14 rfl (Nat.le_of_ble_eq_true rfl) rfl ?_
    refine zz_iload_n hX dX6_shorter_15 2 rfl rfl ?_
    refine zz_sipush (v := nI 180) hX dX6_shorter_16 rfl ?_
    refine zz_icmp_le hX 30 dX6_shorter_19 (by decide) (fun c19 => ?_) (fun c19 => ?_)
    · skip
      refine zz_iload_n hX dX6_shorter_30 2 rfl rfl ?_
      refine zz_iret hX hr rfl (Nat.le_of_ble_eq_true rfl) (Nat.le_of_ble_eq_true rfl) dX6_shorter_31 ?_
      have e9 := zs_short_eq ha hb
      rw [if_pos c2, if_pos c19] at e9
      exact ⟨by rw [← e9], rfl, rfl, rfl⟩
    · skip
      refine zz_sipush (v := nI 360) hX dX6_shorter_22 rfl ?_
      refine zz_iload_n hX dX6_shorter_25 2 rfl rfl ?_
      refine zz_isub (z := (nI 360) - (b - a)) hX dX6_shorter_26 rfl ?_
      refine zz_goto hX 31 dX6_shorter_27 (by decide) ?_
      refine zz_iret hX hr rfl (Nat.le_of_ble_eq_true rfl) (Nat.le_of_ble_eq_true rfl) dX6_shorter_31 ?_
      have e9 := zs_short_eq ha hb
      rw [if_pos c2, if_neg c19] at e9
      exact ⟨by rw [← e9], rfl, rfl, rfl⟩
  · skip
    refine zz_iload_n hX dX6_shorter_5 0 rfl rfl ?_
    refine zz_iload_n hX dX6_shorter_6 1 rfl rfl ?_
    refine zz_isub (z := a - b) hX dX6_shorter_7 rfl ?_
    refine zz_goto hX 14 dX6_shorter_8 (by decide) ?_
    refine zz_istore_n (ls' := [(0, .int a), (1, .int b), (2, .int (a - b))]) hX dX6_shorter_14 rfl (Nat.le_of_ble_eq_true rfl) rfl ?_
    refine zz_iload_n hX dX6_shorter_15 2 rfl rfl ?_
    refine zz_sipush (v := nI 180) hX dX6_shorter_16 rfl ?_
    refine zz_icmp_le hX 30 dX6_shorter_19 (by decide) (fun c19 => ?_) (fun c19 => ?_)
    · skip
      refine zz_iload_n hX dX6_shorter_30 2 rfl rfl ?_
      refine zz_iret hX hr rfl (Nat.le_of_ble_eq_true rfl) (Nat.le_of_ble_eq_true rfl) dX6_shorter_31 ?_
      have e9 := zs_short_eq ha hb
      rw [if_neg c2, if_pos c19] at e9
      exact ⟨by rw [← e9], rfl, rfl, rfl⟩
    · skip
      refine zz_sipush (v := nI 360) hX dX6_shorter_22 rfl ?_
      refine zz_iload_n hX dX6_shorter_25 2 rfl rfl ?_
      refine zz_isub (z := (nI 360) - (a - b)) hX dX6_shorter_26 rfl ?_
      refine zz_goto hX 31 dX6_shorter_27 (by decide) ?_
      refine zz_iret hX hr rfl (Nat.le_of_ble_eq_true rfl) (Nat.le_of_ble_eq_true rfl) dX6_shorter_31 ?_
      have e9 := zs_short_eq ha hb
      rw [if_neg c2, if_neg c19] at e9
      exact ⟨by rw [← e9], rfl, rfl, rfl⟩

set_option maxRecDepth 20000 in
theorem M_inFilm (S : zS) (sh : zm_Sh) (mi : zm_Mi) (mr : zm_Mr) (hW : zW S) (hM : zM S sh mi mr) (s : Int32) : zz_Con yX6_inFilm (.code yX6_inFilm cX6_inFilm 4 (some Jvm.ClassFile.FieldType.int)) 0 0 0 [.ref 1, .int s] sh mi mr (zz_q (some (.int (zp_cut S s))) sh mi mr) zz_none := by
  refine zz_begin RX6 [(0, .ref 1), (1, .int s)] (by decide) rfl rfl (Nat.le_of_ble_eq_true rfl) rfl ?_
  intro Γ D E ad hX hr hN hT
  obtain ⟨hWp, hWv, hWs, hWk, hWr, hWf⟩ := id hW
  obtain ⟨p0, p1, p2, p3, p4, p5⟩ := hWp
  obtain ⟨v0, v1, v2, v3, v4⟩ := hWv
  obtain ⟨s0, s1, s2, s3⟩ := hWs
  obtain ⟨f0, f1, f2, f3⟩ := hWf
  refine zz_iconst (v := (-1)) hX dX6_inFilm_0 rfl ?_
  refine zz_istore_n (ls' := [(0, .ref 1), (1, .int s), (2, .int (-1))]) hX dX6_inFilm_1 rfl (Nat.le_of_ble_eq_true rfl) rfl ?_
  refine zz_iconst (v := nI 0) hX dX6_inFilm_2 rfl ?_
  refine zz_istore_n (ls' := [(0, .ref 1), (1, .int s), (2, .int (-1)), (3, .int (nI 0))]) hX dX6_inFilm_3 rfl (Nat.le_of_ble_eq_true rfl) rfl ?_
  refine zz_lcl (ls' := [(0, .ref 1), (1, .int s), (2, .int (zs_up (fun k => S 29 k = s) 0)), (3, .int (nI 0))]) rfl ?_
  have L4 : ∀ (k4 : Nat) (k : Nat), zv_nf S - k < k4 → (k ≤ zv_nf S) → zz Γ (D, E, 4, ad, sh) (zz_End Γ (D, E, 4, ad, sh) (zz_q (some (.int (zp_cut S s))) sh mi mr) zz_none 0 0) 0 0 sh mi mr 4 [(0, .ref 1), (1, .int s), (2, .int (zs_up (fun k => S 29 k = s) k)), (3, .int (nI k))] [] := by
    intro k4
    induction k4 with
    | zero => intro k hk4; exact absurd hk4 (Nat.not_lt_zero _)
    | succ k4 ih4 =>
      intro k hk4 hk9
      refine zz_iload_n hX dX6_inFilm_4 3 rfl rfl ?_
      refine zz_aload_n hX dX6_inFilm_5 0 rfl rfl ?_
      refine zz_getI (x := nI (zv_nf S)) hX zf_F_X6_190.r hM.1 rfl (((zM_c28 hM).trans f0)) dX6_inFilm_6 ?_
      refine zz_icmp_geN hX (by omega) (by omega) 34 dX6_inFilm_9 (by decide) (fun c9 => ?_) (fun c9 => ?_)
      · skip
        refine zz_iload_n hX dX6_inFilm_34 2 rfl rfl ?_
        refine zz_iret hX hr rfl (Nat.le_of_ble_eq_true rfl) (Nat.le_of_ble_eq_true rfl) dX6_inFilm_35 ?_
        have e9 : zp_cut S s = zs_up (fun k => S 29 k = s) k := by
          rw [show k = zv_nf S by omega]
          exact (zs_up_fst (fun a b h1 h2 g1 g2 => f3.1 a b h1 h2 (congrArg zn (g1.trans g2.symm)))).symm
        exact ⟨by rw [e9], rfl, rfl, rfl⟩
      · skip
        refine zz_aload_n hX dX6_inFilm_12 0 rfl rfl ?_
        refine zz_getR (y := 129) hX zf_F_X6_80.r hM.1 rfl (zM_r29 hM).1 dX6_inFilm_13 ?_
        refine zz_iload_n hX dX6_inFilm_16 3 rfl rfl ?_
        refine zz_iald (x := S 29 k) hX (zM_r29 hM).2 k rfl (by omega) (by decide) ((zM_v29 hM (k := k) (by omega))) dX6_inFilm_17 ?_
        refine zz_iload_n hX dX6_inFilm_18 1 rfl rfl ?_
        refine zz_icmp_ne hX 26 dX6_inFilm_19 (by decide) (fun c19 => ?_) (fun c19 => ?_)
        · skip
          refine zz_iload_n hX dX6_inFilm_26 2 rfl rfl ?_
          refine zz_istore_n (ls' := [(0, .ref 1), (1, .int s), (2, .int (zs_up (fun k => S 29 k = s) k)), (3, .int (nI k))]) hX dX6_inFilm_27 rfl (Nat.le_of_ble_eq_true rfl) rfl ?_
          refine zz_iinc (v := nI (k + 1)) (ls' := [(0, .ref 1), (1, .int s), (2, .int (zs_up (fun k => S 29 k = s) k)), (3, .int (nI (k + 1)))]) hX dX6_inFilm_28 3 rfl (nI_1 _) (Nat.le_of_ble_eq_true rfl) rfl ?_
          refine zz_goto hX 4 dX6_inFilm_31 (by decide) ?_
          refine zz_lcl (ls' := [(0, .ref 1), (1, .int s), (2, .int (zs_up (fun k => S 29 k = s) (k + 1))), (3, .int (nI (k + 1)))]) (congrArg (fun z => [(0, Value.ref 1), (1, .int s), (2, .int z), (3, .int (nI (k + 1)))]) ((show zs_up (fun k => S 29 k = s) (k + 1) = _ from if_neg c19).symm)) ?_
          exact ih4 (k + 1) (by omega) (by omega)
        · skip
          refine zz_iload_n hX dX6_inFilm_22 3 rfl rfl ?_
          refine zz_goto hX 27 dX6_inFilm_23 (by decide) ?_
          refine zz_istore_n (ls' := [(0, .ref 1), (1, .int s), (2, .int (nI k)), (3, .int (nI k))]) hX dX6_inFilm_27 rfl (Nat.le_of_ble_eq_true rfl) rfl ?_
          refine zz_iinc (v := nI (k + 1)) (ls' := [(0, .ref 1), (1, .int s), (2, .int (nI k)), (3, .int (nI (k + 1)))]) hX dX6_inFilm_28 3 rfl (nI_1 _) (Nat.le_of_ble_eq_true rfl) rfl ?_
          refine zz_goto hX 4 dX6_inFilm_31 (by decide) ?_
          refine zz_lcl (ls' := [(0, .ref 1), (1, .int s), (2, .int (zs_up (fun k => S 29 k = s) (k + 1))), (3, .int (nI (k + 1)))]) (congrArg (fun z => [(0, Value.ref 1), (1, .int s), (2, .int z), (3, .int (nI (k + 1)))]) ((show zs_up (fun k => S 29 k = s) (k + 1) = _ from if_pos c19).symm)) ?_
          exact ih4 (k + 1) (by omega) (by omega)
  exact L4 ((zv_nf S - 0 + 1)) 0 (by omega) (Nat.zero_le _)

set_option maxRecDepth 20000 in
theorem M_framesInFilm (S : zS) (sh : zm_Sh) (mi : zm_Mi) (mr : zm_Mr) (hW : zW S) (hM : zM S sh mi mr)  : zz_Con yX6_framesInFilm (.code yX6_framesInFilm cX6_framesInFilm 3 (some Jvm.ClassFile.FieldType.int)) 0 0 0 [.ref 1] sh mi mr (zz_q (some (.int (zp_film S))) sh mi mr) zz_none := by
  refine zz_begin RX6 [(0, .ref 1)] (by decide) rfl rfl (Nat.le_of_ble_eq_true rfl) rfl ?_
  intro Γ D E ad hX hr hN hT
  obtain ⟨hWp, hWv, hWs, hWk, hWr, hWf⟩ := id hW
  obtain ⟨p0, p1, p2, p3, p4, p5⟩ := hWp
  obtain ⟨v0, v1, v2, v3, v4⟩ := hWv
  obtain ⟨s0, s1, s2, s3⟩ := hWs
  obtain ⟨f0, f1, f2, f3⟩ := hWf
  refine zz_iconst (v := nI 0) hX dX6_framesInFilm_0 rfl ?_
  refine zz_istore_n (ls' := [(0, .ref 1), (1, .int (nI 0))]) hX dX6_framesInFilm_1 rfl (Nat.le_of_ble_eq_true rfl) rfl ?_
  refine zz_iconst (v := nI 0) hX dX6_framesInFilm_2 rfl ?_
  refine zz_istore_n (ls' := [(0, .ref 1), (1, .int (nI 0)), (2, .int (nI 0))]) hX dX6_framesInFilm_3 rfl (Nat.le_of_ble_eq_true rfl) rfl ?_
  refine zz_lcl (ls' := [(0, .ref 1), (1, .int (zs_sum (fun k => S 11 (zv_fl S k)) 0)), (2, .int (nI 0))]) rfl ?_
  have L4 : ∀ (k4 : Nat) (k : Nat), zv_nf S - k < k4 → (k ≤ zv_nf S) → zz Γ (D, E, 3, ad, sh) (zz_End Γ (D, E, 3, ad, sh) (zz_q (some (.int (zp_film S))) sh mi mr) zz_none 0 0) 0 0 sh mi mr 4 [(0, .ref 1), (1, .int (zs_sum (fun k => S 11 (zv_fl S k)) k)), (2, .int (nI k))] [] := by
    intro k4
    induction k4 with
    | zero => intro k hk4; exact absurd hk4 (Nat.not_lt_zero _)
    | succ k4 ih4 =>
      intro k hk4 hk9
      refine zz_iload_n hX dX6_framesInFilm_4 2 rfl rfl ?_
      refine zz_aload_n hX dX6_framesInFilm_5 0 rfl rfl ?_
      refine zz_getI (x := nI (zv_nf S)) hX zf_F_X6_190.r hM.1 rfl (((zM_c28 hM).trans f0)) dX6_framesInFilm_6 ?_
      refine zz_icmp_geN hX (by omega) (by omega) 32 dX6_framesInFilm_9 (by decide) (fun c9 => ?_) (fun c9 => ?_)
      · skip
        refine zz_iload_n hX dX6_framesInFilm_32 1 rfl rfl ?_
        refine zz_iret hX hr rfl (Nat.le_of_ble_eq_true rfl) (Nat.le_of_ble_eq_true rfl) dX6_framesInFilm_33 ?_
        exact ⟨by rw [show k = zv_nf S by omega]; rfl, rfl, rfl, rfl⟩
      · skip
        refine zz_iload_n hX dX6_framesInFilm_12 1 rfl rfl ?_
        refine zz_aload_n hX dX6_framesInFilm_13 0 rfl rfl ?_
        refine zz_getR (y := 111) hX zf_F_X6_34.r hM.1 rfl (zM_r11 hM).1 dX6_framesInFilm_14 ?_
        refine zz_aload_n hX dX6_framesInFilm_17 0 rfl rfl ?_
        refine zz_getR (y := 129) hX zf_F_X6_80.r hM.1 rfl (zM_r29 hM).1 dX6_framesInFilm_18 ?_
        refine zz_iload_n hX dX6_framesInFilm_21 2 rfl rfl ?_
        refine zz_iald (x := nI (zv_fl S k)) hX (zM_r29 hM).2 k rfl (by omega) (by decide) (((zM_v29 hM (k := k) (by omega)).trans (f2 k c9).1)) dX6_framesInFilm_22 ?_
        refine zz_iald (x := S 11 (zv_fl S k)) hX (zM_r11 hM).2 (zv_fl S k) rfl (by have := (f2 k c9).2; omega) (by decide) ((zM_v11 hM (k := zv_fl S k) (by have := (f2 k c9).2; omega))) dX6_framesInFilm_23 ?_
        refine zz_iadd (z := (zs_sum (fun k => S 11 (zv_fl S k)) k) + (S 11 (zv_fl S k))) hX dX6_framesInFilm_24 rfl ?_
        refine zz_istore_n (ls' := [(0, .ref 1), (1, .int ((zs_sum (fun k => S 11 (zv_fl S k)) k) + (S 11 (zv_fl S k)))), (2, .int (nI k))]) hX dX6_framesInFilm_25 rfl (Nat.le_of_ble_eq_true rfl) rfl ?_
        refine zz_iinc (v := nI (k + 1)) (ls' := [(0, .ref 1), (1, .int ((zs_sum (fun k => S 11 (zv_fl S k)) k) + (S 11 (zv_fl S k)))), (2, .int (nI (k + 1)))]) hX dX6_framesInFilm_26 2 rfl (nI_1 _) (Nat.le_of_ble_eq_true rfl) rfl ?_
        refine zz_goto hX 4 dX6_framesInFilm_29 (by decide) ?_
        exact ih4 (k + 1) (by omega) (by omega)
  exact L4 ((zv_nf S - 0 + 1)) 0 (by omega) (Nat.zero_le _)

theorem zs_le_n {a b : Int32} (h : a ≤ b) : ¬ b < a := fun q => by rw [zs_lt] at q; rw [zs_le] at h; omega
theorem zs_st_next {o : Nat → Int32} {k : Nat} {its t' : Int32} (h1 : zv_in (o (k + 1)) (-999) 999) (h0 : zv_in (o k) (-999) 999) (hi : (0 < o (k + 1) - o k ∧ its = 1) ∨ (¬ 0 < o (k + 1) - o k ∧ o (k + 1) - o k < 0 ∧ its = -1) ∨ (¬ 0 < o (k + 1) - o k ∧ ¬ o (k + 1) - o k < 0 ∧ its = (zs_cs o k).1))
    (ht : (¬ (zs_cs o k).2 = 0 ∧ t' = 1) ∨ ((zs_cs o k).2 = 0 ∧ its * (zs_cs o k).1 < 0 ∧ t' = 1) ∨ ((zs_cs o k).2 = 0 ∧ ¬ its * (zs_cs o k).1 < 0 ∧ t' = 0)) : zs_cs o (k + 1) = (its, t') := by
  have hc := zs_cmp_of h1 h0
  obtain ⟨hw, hv⟩ := zs_cs_in o k
  show (if zs_cmp (o (k + 1)) (o k) = 0 then zs_cs o k else (zs_cmp (o (k + 1)) (o k), if ¬ (zs_cs o k).2 = 0 then 1 else if 0 ≤ (zs_cs o k).1 * zs_cmp (o (k + 1)) (o k) then 0 else 1)) = _
  rw [hc]
  generalize zs_cs o k = W at *
  obtain ⟨w, t⟩ := W
  dsimp only at *
  generalize o (k + 1) - o k = m at *
  have fin : ∀ c : Int32, (c = 1 ∨ c = -1) → its = c → (if c = 0 then ((w, t) : Int32 × Int32) else (c, if ¬ t = 0 then 1 else if 0 ≤ w * c then 0 else 1)) = (its, t') := by
    intro c hcc e
    subst e
    rcases hw with rfl | rfl | rfl <;> rcases hv with rfl | ⟨rfl, -⟩ <;> rcases hcc with rfl | rfl <;> rcases ht with ⟨a, rfl⟩ | ⟨a, b, rfl⟩ | ⟨a, b, rfl⟩ <;> first | rfl | decide | (exfalso; revert a; decide) | (exfalso; revert b; decide)
  rcases hi with ⟨g1, e⟩ | ⟨g1, g2, e⟩ | ⟨g1, g2, e⟩
  · rw [if_pos g1]; exact fin 1 (Or.inl rfl) e
  · rw [if_neg g1, if_pos g2]; exact fin (-1) (Or.inr rfl) e
  · rw [if_neg g1, if_neg g2, if_pos rfl]
    subst e
    rcases hw with rfl | rfl | rfl <;> rcases hv with rfl | ⟨rfl, -⟩ <;> rcases ht with ⟨a, rfl⟩ | ⟨a, b, rfl⟩ | ⟨a, b, rfl⟩ <;> first | rfl | decide | (exfalso; revert a; decide) | (exfalso; revert b; decide)
theorem zs_st_end {o : Nat → Int32} {k : Nat} {play : Int32} : o k - (if (zs_cs o k).2 = 0 then 0 else (zs_cs o k).1 * play) = zs_cam o k play := by
  obtain ⟨hw, ht⟩ := zs_cs_in o k
  unfold zs_cam
  generalize zs_cs o k = W at *
  obtain ⟨w, t⟩ := W
  dsimp only at *
  rcases ht with rfl | ⟨rfl, h0⟩
  · rw [if_pos rfl, if_pos rfl]; exact Int32.sub_zero _
  · rw [if_neg (by decide), if_neg (by decide)]
    rcases hw with rfl | rfl | rfl
    · rw [if_pos (by decide)]
      rw [← Int32.neg_eq_neg_one_mul, Int32.sub_neg]
    · exact absurd rfl h0
    · rw [if_neg (by decide), Int32.one_mul]
set_option maxRecDepth 20000 in
theorem M_stays (S : zS) (sh : zm_Sh) (mi : zm_Mi) (mr : zm_Mr) (hW : zW S) (hM : zM S sh mi mr) (i : Nat) (hi : i < zv_ns S) (f : Nat) (hf : f < 48) (ho : ∀ k, k ≤ f → zv_in (S 24 (48 * i + k)) (-999) 999) : zz_Con yX6_stays (.code yX6_stays cX6_stays 8 (some Jvm.ClassFile.FieldType.int)) 0 0 0 [.ref 1, .int (nI i), .int (nI f)] sh mi mr (zz_q (some (.int (zs_cam (fun k => S 24 (48 * i + k)) f (S 20 0)))) sh mi mr) zz_none := by
  refine zz_begin RX6 [(0, .ref 1), (1, .int (nI i)), (2, .int (nI f))] (by decide) rfl rfl (Nat.le_of_ble_eq_true rfl) rfl ?_
  intro Γ D E ad hX hr hN hT
  obtain ⟨hWp, hWv, hWs, hWk, hWr, hWf⟩ := id hW
  obtain ⟨p0, p1, p2, p3, p4, p5⟩ := hWp
  obtain ⟨v0, v1, v2, v3, v4⟩ := hWv
  obtain ⟨s0, s1, s2, s3⟩ := hWs
  obtain ⟨f0, f1, f2, f3⟩ := hWf
  obtain ⟨b1, b2, b3, b4, b5, b6, b7, b8, b9, b10, b11, b12, b13⟩ := s2 i hi
  refine zz_iconst (v := nI 0) hX dX6_stays_0 rfl ?_
  refine zz_istore_n (ls' := [(0, .ref 1), (1, .int (nI i)), (2, .int (nI f)), (3, .int (nI 0))]) hX dX6_stays_1 rfl (Nat.le_of_ble_eq_true rfl) rfl ?_
  refine zz_iconst (v := nI 0) hX dX6_stays_2 rfl ?_
  refine zz_istore (ls' := [(0, .ref 1), (1, .int (nI i)), (2, .int (nI f)), (3, .int (nI 0)), (4, .int (nI 0))]) hX dX6_stays_3 (Nat.le_of_ble_eq_true rfl) rfl ?_
  refine zz_iconst (v := nI 1) hX dX6_stays_5 rfl ?_
  refine zz_istore (ls' := [(0, .ref 1), (1, .int (nI i)), (2, .int (nI f)), (3, .int (nI 0)), (4, .int (nI 0)), (5, .int (nI 1))]) hX dX6_stays_6 (Nat.le_of_ble_eq_true rfl) rfl ?_
  refine zz_lcl (ls' := [(0, .ref 1), (1, .int (nI i)), (2, .int (nI f)), (3, .int ((zs_cs (fun k => S 24 (48 * i + k)) 0).1)), (4, .int ((zs_cs (fun k => S 24 (48 * i + k)) 0).2)), (5, .int (nI (0 + 1)))]) rfl ?_
  have L8 : ∀ (k8 : Nat) (k : Nat), f - k < k8 → (k ≤ f) → zz Γ (D, E, 8, ad, sh) (zz_End Γ (D, E, 8, ad, sh) (zz_q (some (.int (zs_cam (fun k => S 24 (48 * i + k)) f (S 20 0)))) sh mi mr) zz_none 0 0) 0 0 sh mi mr 8 [(0, .ref 1), (1, .int (nI i)), (2, .int (nI f)), (3, .int ((zs_cs (fun k => S 24 (48 * i + k)) k).1)), (4, .int ((zs_cs (fun k => S 24 (48 * i + k)) k).2)), (5, .int (nI (k + 1)))] [] := by
    intro k8
    induction k8 with
    | zero => intro k hk8; exact absurd hk8 (Nat.not_lt_zero _)
    | succ k8 ih8 =>
      intro k hk8 hk9
      refine zz_iload hX dX6_stays_8 5 rfl ?_
      refine zz_iload_n hX dX6_stays_10 2 rfl rfl ?_
      refine zz_icmp_gtN hX (by omega) (by omega) 92 dX6_stays_11 (by decide) (fun c11 => ?_) (fun c11 => ?_)
      · skip
        refine zz_aload_n hX dX6_stays_92 0 rfl rfl ?_
        refine zz_getR (y := 124) hX zf_F_X6_68.r hM.1 rfl (zM_r24 hM).1 dX6_stays_93 ?_
        refine zz_bipush (v := nI 48) hX dX6_stays_96 rfl ?_
        refine zz_iload_n hX dX6_stays_98 1 rfl rfl ?_
        refine zz_imul (z := nI (48 * i)) hX dX6_stays_99 (pk_mul _ _) ?_
        refine zz_iload_n hX dX6_stays_100 2 rfl rfl ?_
        refine zz_iadd (z := nI (48 * i + f)) hX dX6_stays_101 (nI_add _ _) ?_
        refine zz_iald (x := S 24 (48 * i + f)) hX (zM_r24 hM).2 (48 * i + f) rfl (by omega) (by decide) ((zM_v24 hM (k := 48 * i + f) (by omega))) dX6_stays_102 ?_
        refine zz_iload hX dX6_stays_103 4 rfl ?_
        refine zz_if_eq hX 117 dX6_stays_105 (by decide) (fun c105 => ?_) (fun c105 => ?_)
        · skip
          refine zz_iconst (v := nI 0) hX dX6_stays_117 rfl ?_
          refine zz_isub (z := (S 24 (48 * i + f)) - (nI 0)) hX dX6_stays_118 rfl ?_
          refine zz_iret hX hr rfl (Nat.le_of_ble_eq_true rfl) (Nat.le_of_ble_eq_true rfl) dX6_stays_119 ?_
          obtain rfl : k = f := by omega
          have e9 := zs_st_end (o := (fun k => S 24 (48 * i + k))) (k := k) (play := S 20 0)
          rw [if_pos c105] at e9
          exact ⟨by rw [← e9]; first | rfl | done, rfl, rfl, rfl⟩
        · skip
          refine zz_iload_n hX dX6_stays_108 3 rfl rfl ?_
          refine zz_aload_n hX dX6_stays_109 0 rfl rfl ?_
          refine zz_getI (x := S 20 0) hX zf_F_X6_151.r hM.1 rfl ((zM_c20 hM)) dX6_stays_110 ?_
          refine zz_imul (z := ((zs_cs (fun k => S 24 (48 * i + k)) k).1) * (S 20 0)) hX dX6_stays_113 rfl ?_
          refine zz_goto hX 118 dX6_stays_114 (by decide) ?_
          refine zz_isub (z := (S 24 (48 * i + f)) - (((zs_cs (fun k => S 24 (48 * i + k)) k).1) * (S 20 0))) hX dX6_stays_118 rfl ?_
          refine zz_iret hX hr rfl (Nat.le_of_ble_eq_true rfl) (Nat.le_of_ble_eq_true rfl) dX6_stays_119 ?_
          obtain rfl : k = f := by omega
          have e9 := zs_st_end (o := (fun k => S 24 (48 * i + k))) (k := k) (play := S 20 0)
          rw [if_neg c105] at e9
          exact ⟨by rw [← e9]; first | rfl | done, rfl, rfl, rfl⟩
      · skip
        refine zz_aload_n hX dX6_stays_14 0 rfl rfl ?_
        refine zz_getR (y := 124) hX zf_F_X6_68.r hM.1 rfl (zM_r24 hM).1 dX6_stays_15 ?_
        refine zz_bipush (v := nI 48) hX dX6_stays_18 rfl ?_
        refine zz_iload_n hX dX6_stays_20 1 rfl rfl ?_
        refine zz_imul (z := nI (48 * i)) hX dX6_stays_21 (pk_mul _ _) ?_
        refine zz_iload hX dX6_stays_22 5 rfl ?_
        refine zz_iadd (z := nI (48 * i + (k + 1))) hX dX6_stays_24 (nI_add _ _) ?_
        refine zz_iald (x := S 24 (48 * i + (k + 1))) hX (zM_r24 hM).2 (48 * i + (k + 1)) rfl (by omega) (by decide) ((zM_v24 hM (k := 48 * i + (k + 1)) (by omega))) dX6_stays_25 ?_
        refine zz_aload_n hX dX6_stays_26 0 rfl rfl ?_
        refine zz_getR (y := 124) hX zf_F_X6_68.r hM.1 rfl (zM_r24 hM).1 dX6_stays_27 ?_
        refine zz_bipush (v := nI 48) hX dX6_stays_30 rfl ?_
        refine zz_iload_n hX dX6_stays_32 1 rfl rfl ?_
        refine zz_imul (z := nI (48 * i)) hX dX6_stays_33 (pk_mul _ _) ?_
        refine zz_iload hX dX6_stays_34 5 rfl ?_
        refine zz_iadd (z := nI (48 * i + (k + 1))) hX dX6_stays_36 (nI_add _ _) ?_
        refine zz_iconst (v := nI 1) hX dX6_stays_37 rfl ?_
        refine zz_isub (z := nI (48 * i + k)) hX dX6_stays_38 (pk_sub (by omega)) ?_
        refine zz_iald (x := S 24 (48 * i + k)) hX (zM_r24 hM).2 (48 * i + k) rfl (by omega) (by decide) ((zM_v24 hM (k := 48 * i + k) (by omega))) dX6_stays_39 ?_
        refine zz_isub (z := (S 24 (48 * i + (k + 1))) - (S 24 (48 * i + k))) hX dX6_stays_40 rfl ?_
        refine zz_istore (ls' := [(0, .ref 1), (1, .int (nI i)), (2, .int (nI f)), (3, .int ((zs_cs (fun k => S 24 (48 * i + k)) k).1)), (4, .int ((zs_cs (fun k => S 24 (48 * i + k)) k).2)), (5, .int (nI (k + 1))), (6, .int ((S 24 (48 * i + (k + 1))) - (S 24 (48 * i + k))))]) hX dX6_stays_41 (Nat.le_of_ble_eq_true rfl) rfl ?_
        refine zz_iload hX dX6_stays_43 6 rfl ?_
        refine zz_if_le hX 52 dX6_stays_45 (by decide) (fun c45 => ?_) (fun c45 => ?_)
        · skip
          refine zz_iload hX dX6_stays_52 6 rfl ?_
          refine zz_if_ge hX 61 dX6_stays_54 (by decide) (fun c54 => ?_) (fun c54 => ?_)
          · skip
            refine zz_iload_n hX dX6_stays_61 3 rfl rfl ?_
            refine zz_istore (ls' := [(0, .ref 1), (1, .int (nI i)), (2, .int (nI f)), (3, .int ((zs_cs (fun k => S 24 (48 * i + k)) k).1)), (4, .int ((zs_cs (fun k => S 24 (48 * i + k)) k).2)), (5, .int (nI (k + 1))), (6, .int ((S 24 (48 * i + (k + 1))) - (S 24 (48 * i + k)))), (7, .int ((zs_cs (fun k => S 24 (48 * i + k)) k).1))]) hX dX6_stays_62 (Nat.le_of_ble_eq_true rfl) rfl ?_
            refine zz_iload hX dX6_stays_64 4 rfl ?_
            refine zz_if_ne hX 76 dX6_stays_66 (by decide) (fun c66 => ?_) (fun c66 => ?_)
            · skip
              refine zz_iconst (v := nI 1) hX dX6_stays_76 rfl ?_
              refine zz_goto hX 81 dX6_stays_77 (by decide) ?_
              refine zz_istore (ls' := [(0, .ref 1), (1, .int (nI i)), (2, .int (nI f)), (3, .int ((zs_cs (fun k => S 24 (48 * i + k)) k).1)), (4, .int (nI 1)), (5, .int (nI (k + 1))), (6, .int ((S 24 (48 * i + (k + 1))) - (S 24 (48 * i + k)))), (7, .int ((zs_cs (fun k => S 24 (48 * i + k)) k).1))]) hX dX6_stays_81 (Nat.le_of_ble_eq_true rfl) rfl ?_
              refine zz_iload hX dX6_stays_83 7 rfl ?_
              refine zz_istore_n (ls' := [(0, .ref 1), (1, .int (nI i)), (2, .int (nI f)), (3, .int ((zs_cs (fun k => S 24 (48 * i + k)) k).1)), (4, .int (nI 1)), (5, .int (nI (k + 1))), (6, .int ((S 24 (48 * i + (k + 1))) - (S 24 (48 * i + k)))), (7, .int ((zs_cs (fun k => S 24 (48 * i + k)) k).1))]) hX dX6_stays_85 rfl (Nat.le_of_ble_eq_true rfl) rfl ?_
              refine zz_iinc (v := nI ((k + 1) + 1)) (ls' := [(0, .ref 1), (1, .int (nI i)), (2, .int (nI f)), (3, .int ((zs_cs (fun k => S 24 (48 * i + k)) k).1)), (4, .int (nI 1)), (5, .int (nI ((k + 1) + 1))), (6, .int ((S 24 (48 * i + (k + 1))) - (S 24 (48 * i + k)))), (7, .int ((zs_cs (fun k => S 24 (48 * i + k)) k).1))]) hX dX6_stays_86 5 rfl (nI_1 _) (Nat.le_of_ble_eq_true rfl) rfl ?_
              refine zz_goto hX 8 dX6_stays_89 (by decide) ?_
              refine zz_pick (ls' := [(0, .ref 1), (1, .int (nI i)), (2, .int (nI f)), (3, .int ((zs_cs (fun k => S 24 (48 * i + k)) k).1)), (4, .int (nI 1)), (5, .int (nI ((k + 1) + 1)))]) [0, 1, 2, 3, 4, 5] rfl ?_
              have hst := zs_st_next (o := (fun k => S 24 (48 * i + k))) (k := k) (its := (zs_cs (fun k => S 24 (48 * i + k)) k).1) (t' := nI 1) (ho (k + 1) (by omega)) (ho k (by omega)) (Or.inr (Or.inr ⟨zs_le_n c45, zs_le_n c54, rfl⟩)) (Or.inl ⟨c66, rfl⟩)
              refine zz_lcl (ls' := [(0, .ref 1), (1, .int (nI i)), (2, .int (nI f)), (3, .int ((zs_cs (fun k => S 24 (48 * i + k)) (k + 1)).1)), (4, .int ((zs_cs (fun k => S 24 (48 * i + k)) (k + 1)).2)), (5, .int (nI (k + 1 + 1)))]) (by rw [hst]; try rfl) ?_
              exact ih8 (k + 1) (by omega) (by omega)
            · skip
              refine zz_iload hX dX6_stays_69 7 rfl ?_
              refine zz_iload_n hX dX6_stays_71 3 rfl rfl ?_
              refine zz_imul (z := ((zs_cs (fun k => S 24 (48 * i + k)) k).1) * ((zs_cs (fun k => S 24 (48 * i + k)) k).1)) hX dX6_stays_72 rfl ?_
              refine zz_if_ge hX 80 dX6_stays_73 (by decide) (fun c73 => ?_) (fun c73 => ?_)
              · skip
                refine zz_iconst (v := nI 0) hX dX6_stays_80 rfl ?_
                refine zz_istore (ls' := [(0, .ref 1), (1, .int (nI i)), (2, .int (nI f)), (3, .int ((zs_cs (fun k => S 24 (48 * i + k)) k).1)), (4, .int (nI 0)), (5, .int (nI (k + 1))), (6, .int ((S 24 (48 * i + (k + 1))) - (S 24 (48 * i + k)))), (7, .int ((zs_cs (fun k => S 24 (48 * i + k)) k).1))]) hX dX6_stays_81 (Nat.le_of_ble_eq_true rfl) rfl ?_
                refine zz_iload hX dX6_stays_83 7 rfl ?_
                refine zz_istore_n (ls' := [(0, .ref 1), (1, .int (nI i)), (2, .int (nI f)), (3, .int ((zs_cs (fun k => S 24 (48 * i + k)) k).1)), (4, .int (nI 0)), (5, .int (nI (k + 1))), (6, .int ((S 24 (48 * i + (k + 1))) - (S 24 (48 * i + k)))), (7, .int ((zs_cs (fun k => S 24 (48 * i + k)) k).1))]) hX dX6_stays_85 rfl (Nat.le_of_ble_eq_true rfl) rfl ?_
                refine zz_iinc (v := nI ((k + 1) + 1)) (ls' := [(0, .ref 1), (1, .int (nI i)), (2, .int (nI f)), (3, .int ((zs_cs (fun k => S 24 (48 * i + k)) k).1)), (4, .int (nI 0)), (5, .int (nI ((k + 1) + 1))), (6, .int ((S 24 (48 * i + (k + 1))) - (S 24 (48 * i + k)))), (7, .int ((zs_cs (fun k => S 24 (48 * i + k)) k).1))]) hX dX6_stays_86 5 rfl (nI_1 _) (Nat.le_of_ble_eq_true rfl) rfl ?_
                refine zz_goto hX 8 dX6_stays_89 (by decide) ?_
                refine zz_pick (ls' := [(0, .ref 1), (1, .int (nI i)), (2, .int (nI f)), (3, .int ((zs_cs (fun k => S 24 (48 * i + k)) k).1)), (4, .int (nI 0)), (5, .int (nI ((k + 1) + 1)))]) [0, 1, 2, 3, 4, 5] rfl ?_
                have hst := zs_st_next (o := (fun k => S 24 (48 * i + k))) (k := k) (its := (zs_cs (fun k => S 24 (48 * i + k)) k).1) (t' := nI 0) (ho (k + 1) (by omega)) (ho k (by omega)) (Or.inr (Or.inr ⟨zs_le_n c45, zs_le_n c54, rfl⟩)) (Or.inr (Or.inr ⟨c66, zs_le_n c73, rfl⟩))
                refine zz_lcl (ls' := [(0, .ref 1), (1, .int (nI i)), (2, .int (nI f)), (3, .int ((zs_cs (fun k => S 24 (48 * i + k)) (k + 1)).1)), (4, .int ((zs_cs (fun k => S 24 (48 * i + k)) (k + 1)).2)), (5, .int (nI (k + 1 + 1)))]) (by rw [hst]; try rfl) ?_
                exact ih8 (k + 1) (by omega) (by omega)
              · skip
                refine zz_iconst (v := nI 1) hX dX6_stays_76 rfl ?_
                refine zz_goto hX 81 dX6_stays_77 (by decide) ?_
                refine zz_istore (ls' := [(0, .ref 1), (1, .int (nI i)), (2, .int (nI f)), (3, .int ((zs_cs (fun k => S 24 (48 * i + k)) k).1)), (4, .int (nI 1)), (5, .int (nI (k + 1))), (6, .int ((S 24 (48 * i + (k + 1))) - (S 24 (48 * i + k)))), (7, .int ((zs_cs (fun k => S 24 (48 * i + k)) k).1))]) hX dX6_stays_81 (Nat.le_of_ble_eq_true rfl) rfl ?_
                refine zz_iload hX dX6_stays_83 7 rfl ?_
                refine zz_istore_n (ls' := [(0, .ref 1), (1, .int (nI i)), (2, .int (nI f)), (3, .int ((zs_cs (fun k => S 24 (48 * i + k)) k).1)), (4, .int (nI 1)), (5, .int (nI (k + 1))), (6, .int ((S 24 (48 * i + (k + 1))) - (S 24 (48 * i + k)))), (7, .int ((zs_cs (fun k => S 24 (48 * i + k)) k).1))]) hX dX6_stays_85 rfl (Nat.le_of_ble_eq_true rfl) rfl ?_
                refine zz_iinc (v := nI ((k + 1) + 1)) (ls' := [(0, .ref 1), (1, .int (nI i)), (2, .int (nI f)), (3, .int ((zs_cs (fun k => S 24 (48 * i + k)) k).1)), (4, .int (nI 1)), (5, .int (nI ((k + 1) + 1))), (6, .int ((S 24 (48 * i + (k + 1))) - (S 24 (48 * i + k)))), (7, .int ((zs_cs (fun k => S 24 (48 * i + k)) k).1))]) hX dX6_stays_86 5 rfl (nI_1 _) (Nat.le_of_ble_eq_true rfl) rfl ?_
                refine zz_goto hX 8 dX6_stays_89 (by decide) ?_
                refine zz_pick (ls' := [(0, .ref 1), (1, .int (nI i)), (2, .int (nI f)), (3, .int ((zs_cs (fun k => S 24 (48 * i + k)) k).1)), (4, .int (nI 1)), (5, .int (nI ((k + 1) + 1)))]) [0, 1, 2, 3, 4, 5] rfl ?_
                have hst := zs_st_next (o := (fun k => S 24 (48 * i + k))) (k := k) (its := (zs_cs (fun k => S 24 (48 * i + k)) k).1) (t' := nI 1) (ho (k + 1) (by omega)) (ho k (by omega)) (Or.inr (Or.inr ⟨zs_le_n c45, zs_le_n c54, rfl⟩)) (Or.inr (Or.inl ⟨c66, zs_nle c73, rfl⟩))
                refine zz_lcl (ls' := [(0, .ref 1), (1, .int (nI i)), (2, .int (nI f)), (3, .int ((zs_cs (fun k => S 24 (48 * i + k)) (k + 1)).1)), (4, .int ((zs_cs (fun k => S 24 (48 * i + k)) (k + 1)).2)), (5, .int (nI (k + 1 + 1)))]) (by rw [hst]; try rfl) ?_
                exact ih8 (k + 1) (by omega) (by omega)
          · skip
            refine zz_iconst (v := (-1)) hX dX6_stays_57 rfl ?_
            refine zz_goto hX 62 dX6_stays_58 (by decide) ?_
            refine zz_istore (ls' := [(0, .ref 1), (1, .int (nI i)), (2, .int (nI f)), (3, .int ((zs_cs (fun k => S 24 (48 * i + k)) k).1)), (4, .int ((zs_cs (fun k => S 24 (48 * i + k)) k).2)), (5, .int (nI (k + 1))), (6, .int ((S 24 (48 * i + (k + 1))) - (S 24 (48 * i + k)))), (7, .int (-1))]) hX dX6_stays_62 (Nat.le_of_ble_eq_true rfl) rfl ?_
            refine zz_iload hX dX6_stays_64 4 rfl ?_
            refine zz_if_ne hX 76 dX6_stays_66 (by decide) (fun c66 => ?_) (fun c66 => ?_)
            · skip
              refine zz_iconst (v := nI 1) hX dX6_stays_76 rfl ?_
              refine zz_goto hX 81 dX6_stays_77 (by decide) ?_
              refine zz_istore (ls' := [(0, .ref 1), (1, .int (nI i)), (2, .int (nI f)), (3, .int ((zs_cs (fun k => S 24 (48 * i + k)) k).1)), (4, .int (nI 1)), (5, .int (nI (k + 1))), (6, .int ((S 24 (48 * i + (k + 1))) - (S 24 (48 * i + k)))), (7, .int (-1))]) hX dX6_stays_81 (Nat.le_of_ble_eq_true rfl) rfl ?_
              refine zz_iload hX dX6_stays_83 7 rfl ?_
              refine zz_istore_n (ls' := [(0, .ref 1), (1, .int (nI i)), (2, .int (nI f)), (3, .int (-1)), (4, .int (nI 1)), (5, .int (nI (k + 1))), (6, .int ((S 24 (48 * i + (k + 1))) - (S 24 (48 * i + k)))), (7, .int (-1))]) hX dX6_stays_85 rfl (Nat.le_of_ble_eq_true rfl) rfl ?_
              refine zz_iinc (v := nI ((k + 1) + 1)) (ls' := [(0, .ref 1), (1, .int (nI i)), (2, .int (nI f)), (3, .int (-1)), (4, .int (nI 1)), (5, .int (nI ((k + 1) + 1))), (6, .int ((S 24 (48 * i + (k + 1))) - (S 24 (48 * i + k)))), (7, .int (-1))]) hX dX6_stays_86 5 rfl (nI_1 _) (Nat.le_of_ble_eq_true rfl) rfl ?_
              refine zz_goto hX 8 dX6_stays_89 (by decide) ?_
              refine zz_pick (ls' := [(0, .ref 1), (1, .int (nI i)), (2, .int (nI f)), (3, .int (-1)), (4, .int (nI 1)), (5, .int (nI ((k + 1) + 1)))]) [0, 1, 2, 3, 4, 5] rfl ?_
              have hst := zs_st_next (o := (fun k => S 24 (48 * i + k))) (k := k) (its := (-1)) (t' := nI 1) (ho (k + 1) (by omega)) (ho k (by omega)) (Or.inr (Or.inl ⟨zs_le_n c45, zs_nle c54, rfl⟩)) (Or.inl ⟨c66, rfl⟩)
              refine zz_lcl (ls' := [(0, .ref 1), (1, .int (nI i)), (2, .int (nI f)), (3, .int ((zs_cs (fun k => S 24 (48 * i + k)) (k + 1)).1)), (4, .int ((zs_cs (fun k => S 24 (48 * i + k)) (k + 1)).2)), (5, .int (nI (k + 1 + 1)))]) (by rw [hst]; try rfl) ?_
              exact ih8 (k + 1) (by omega) (by omega)
            · skip
              refine zz_iload hX dX6_stays_69 7 rfl ?_
              refine zz_iload_n hX dX6_stays_71 3 rfl rfl ?_
              refine zz_imul (z := (-1) * ((zs_cs (fun k => S 24 (48 * i + k)) k).1)) hX dX6_stays_72 rfl ?_
              refine zz_if_ge hX 80 dX6_stays_73 (by decide) (fun c73 => ?_) (fun c73 => ?_)
              · skip
                refine zz_iconst (v := nI 0) hX dX6_stays_80 rfl ?_
                refine zz_istore (ls' := [(0, .ref 1), (1, .int (nI i)), (2, .int (nI f)), (3, .int ((zs_cs (fun k => S 24 (48 * i + k)) k).1)), (4, .int (nI 0)), (5, .int (nI (k + 1))), (6, .int ((S 24 (48 * i + (k + 1))) - (S 24 (48 * i + k)))), (7, .int (-1))]) hX dX6_stays_81 (Nat.le_of_ble_eq_true rfl) rfl ?_
                refine zz_iload hX dX6_stays_83 7 rfl ?_
                refine zz_istore_n (ls' := [(0, .ref 1), (1, .int (nI i)), (2, .int (nI f)), (3, .int (-1)), (4, .int (nI 0)), (5, .int (nI (k + 1))), (6, .int ((S 24 (48 * i + (k + 1))) - (S 24 (48 * i + k)))), (7, .int (-1))]) hX dX6_stays_85 rfl (Nat.le_of_ble_eq_true rfl) rfl ?_
                refine zz_iinc (v := nI ((k + 1) + 1)) (ls' := [(0, .ref 1), (1, .int (nI i)), (2, .int (nI f)), (3, .int (-1)), (4, .int (nI 0)), (5, .int (nI ((k + 1) + 1))), (6, .int ((S 24 (48 * i + (k + 1))) - (S 24 (48 * i + k)))), (7, .int (-1))]) hX dX6_stays_86 5 rfl (nI_1 _) (Nat.le_of_ble_eq_true rfl) rfl ?_
                refine zz_goto hX 8 dX6_stays_89 (by decide) ?_
                refine zz_pick (ls' := [(0, .ref 1), (1, .int (nI i)), (2, .int (nI f)), (3, .int (-1)), (4, .int (nI 0)), (5, .int (nI ((k + 1) + 1)))]) [0, 1, 2, 3, 4, 5] rfl ?_
                have hst := zs_st_next (o := (fun k => S 24 (48 * i + k))) (k := k) (its := (-1)) (t' := nI 0) (ho (k + 1) (by omega)) (ho k (by omega)) (Or.inr (Or.inl ⟨zs_le_n c45, zs_nle c54, rfl⟩)) (Or.inr (Or.inr ⟨c66, zs_le_n c73, rfl⟩))
                refine zz_lcl (ls' := [(0, .ref 1), (1, .int (nI i)), (2, .int (nI f)), (3, .int ((zs_cs (fun k => S 24 (48 * i + k)) (k + 1)).1)), (4, .int ((zs_cs (fun k => S 24 (48 * i + k)) (k + 1)).2)), (5, .int (nI (k + 1 + 1)))]) (by rw [hst]; try rfl) ?_
                exact ih8 (k + 1) (by omega) (by omega)
              · skip
                refine zz_iconst (v := nI 1) hX dX6_stays_76 rfl ?_
                refine zz_goto hX 81 dX6_stays_77 (by decide) ?_
                refine zz_istore (ls' := [(0, .ref 1), (1, .int (nI i)), (2, .int (nI f)), (3, .int ((zs_cs (fun k => S 24 (48 * i + k)) k).1)), (4, .int (nI 1)), (5, .int (nI (k + 1))), (6, .int ((S 24 (48 * i + (k + 1))) - (S 24 (48 * i + k)))), (7, .int (-1))]) hX dX6_stays_81 (Nat.le_of_ble_eq_true rfl) rfl ?_
                refine zz_iload hX dX6_stays_83 7 rfl ?_
                refine zz_istore_n (ls' := [(0, .ref 1), (1, .int (nI i)), (2, .int (nI f)), (3, .int (-1)), (4, .int (nI 1)), (5, .int (nI (k + 1))), (6, .int ((S 24 (48 * i + (k + 1))) - (S 24 (48 * i + k)))), (7, .int (-1))]) hX dX6_stays_85 rfl (Nat.le_of_ble_eq_true rfl) rfl ?_
                refine zz_iinc (v := nI ((k + 1) + 1)) (ls' := [(0, .ref 1), (1, .int (nI i)), (2, .int (nI f)), (3, .int (-1)), (4, .int (nI 1)), (5, .int (nI ((k + 1) + 1))), (6, .int ((S 24 (48 * i + (k + 1))) - (S 24 (48 * i + k)))), (7, .int (-1))]) hX dX6_stays_86 5 rfl (nI_1 _) (Nat.le_of_ble_eq_true rfl) rfl ?_
                refine zz_goto hX 8 dX6_stays_89 (by decide) ?_
                refine zz_pick (ls' := [(0, .ref 1), (1, .int (nI i)), (2, .int (nI f)), (3, .int (-1)), (4, .int (nI 1)), (5, .int (nI ((k + 1) + 1)))]) [0, 1, 2, 3, 4, 5] rfl ?_
                have hst := zs_st_next (o := (fun k => S 24 (48 * i + k))) (k := k) (its := (-1)) (t' := nI 1) (ho (k + 1) (by omega)) (ho k (by omega)) (Or.inr (Or.inl ⟨zs_le_n c45, zs_nle c54, rfl⟩)) (Or.inr (Or.inl ⟨c66, zs_nle c73, rfl⟩))
                refine zz_lcl (ls' := [(0, .ref 1), (1, .int (nI i)), (2, .int (nI f)), (3, .int ((zs_cs (fun k => S 24 (48 * i + k)) (k + 1)).1)), (4, .int ((zs_cs (fun k => S 24 (48 * i + k)) (k + 1)).2)), (5, .int (nI (k + 1 + 1)))]) (by rw [hst]; try rfl) ?_
                exact ih8 (k + 1) (by omega) (by omega)
        · skip
          refine zz_iconst (v := nI 1) hX dX6_stays_48 rfl ?_
          refine zz_goto hX 62 dX6_stays_49 (by decide) ?_
          refine zz_istore (ls' := [(0, .ref 1), (1, .int (nI i)), (2, .int (nI f)), (3, .int ((zs_cs (fun k => S 24 (48 * i + k)) k).1)), (4, .int ((zs_cs (fun k => S 24 (48 * i + k)) k).2)), (5, .int (nI (k + 1))), (6, .int ((S 24 (48 * i + (k + 1))) - (S 24 (48 * i + k)))), (7, .int (nI 1))]) hX dX6_stays_62 (Nat.le_of_ble_eq_true rfl) rfl ?_
          refine zz_iload hX dX6_stays_64 4 rfl ?_
          refine zz_if_ne hX 76 dX6_stays_66 (by decide) (fun c66 => ?_) (fun c66 => ?_)
          · skip
            refine zz_iconst (v := nI 1) hX dX6_stays_76 rfl ?_
            refine zz_goto hX 81 dX6_stays_77 (by decide) ?_
            refine zz_istore (ls' := [(0, .ref 1), (1, .int (nI i)), (2, .int (nI f)), (3, .int ((zs_cs (fun k => S 24 (48 * i + k)) k).1)), (4, .int (nI 1)), (5, .int (nI (k + 1))), (6, .int ((S 24 (48 * i + (k + 1))) - (S 24 (48 * i + k)))), (7, .int (nI 1))]) hX dX6_stays_81 (Nat.le_of_ble_eq_true rfl) rfl ?_
            refine zz_iload hX dX6_stays_83 7 rfl ?_
            refine zz_istore_n (ls' := [(0, .ref 1), (1, .int (nI i)), (2, .int (nI f)), (3, .int (nI 1)), (4, .int (nI 1)), (5, .int (nI (k + 1))), (6, .int ((S 24 (48 * i + (k + 1))) - (S 24 (48 * i + k)))), (7, .int (nI 1))]) hX dX6_stays_85 rfl (Nat.le_of_ble_eq_true rfl) rfl ?_
            refine zz_iinc (v := nI ((k + 1) + 1)) (ls' := [(0, .ref 1), (1, .int (nI i)), (2, .int (nI f)), (3, .int (nI 1)), (4, .int (nI 1)), (5, .int (nI ((k + 1) + 1))), (6, .int ((S 24 (48 * i + (k + 1))) - (S 24 (48 * i + k)))), (7, .int (nI 1))]) hX dX6_stays_86 5 rfl (nI_1 _) (Nat.le_of_ble_eq_true rfl) rfl ?_
            refine zz_goto hX 8 dX6_stays_89 (by decide) ?_
            refine zz_pick (ls' := [(0, .ref 1), (1, .int (nI i)), (2, .int (nI f)), (3, .int (nI 1)), (4, .int (nI 1)), (5, .int (nI ((k + 1) + 1)))]) [0, 1, 2, 3, 4, 5] rfl ?_
            have hst := zs_st_next (o := (fun k => S 24 (48 * i + k))) (k := k) (its := nI 1) (t' := nI 1) (ho (k + 1) (by omega)) (ho k (by omega)) (Or.inl ⟨zs_nle c45, rfl⟩) (Or.inl ⟨c66, rfl⟩)
            refine zz_lcl (ls' := [(0, .ref 1), (1, .int (nI i)), (2, .int (nI f)), (3, .int ((zs_cs (fun k => S 24 (48 * i + k)) (k + 1)).1)), (4, .int ((zs_cs (fun k => S 24 (48 * i + k)) (k + 1)).2)), (5, .int (nI (k + 1 + 1)))]) (by rw [hst]; try rfl) ?_
            exact ih8 (k + 1) (by omega) (by omega)
          · skip
            refine zz_iload hX dX6_stays_69 7 rfl ?_
            refine zz_iload_n hX dX6_stays_71 3 rfl rfl ?_
            refine zz_imul (z := (nI 1) * ((zs_cs (fun k => S 24 (48 * i + k)) k).1)) hX dX6_stays_72 rfl ?_
            refine zz_if_ge hX 80 dX6_stays_73 (by decide) (fun c73 => ?_) (fun c73 => ?_)
            · skip
              refine zz_iconst (v := nI 0) hX dX6_stays_80 rfl ?_
              refine zz_istore (ls' := [(0, .ref 1), (1, .int (nI i)), (2, .int (nI f)), (3, .int ((zs_cs (fun k => S 24 (48 * i + k)) k).1)), (4, .int (nI 0)), (5, .int (nI (k + 1))), (6, .int ((S 24 (48 * i + (k + 1))) - (S 24 (48 * i + k)))), (7, .int (nI 1))]) hX dX6_stays_81 (Nat.le_of_ble_eq_true rfl) rfl ?_
              refine zz_iload hX dX6_stays_83 7 rfl ?_
              refine zz_istore_n (ls' := [(0, .ref 1), (1, .int (nI i)), (2, .int (nI f)), (3, .int (nI 1)), (4, .int (nI 0)), (5, .int (nI (k + 1))), (6, .int ((S 24 (48 * i + (k + 1))) - (S 24 (48 * i + k)))), (7, .int (nI 1))]) hX dX6_stays_85 rfl (Nat.le_of_ble_eq_true rfl) rfl ?_
              refine zz_iinc (v := nI ((k + 1) + 1)) (ls' := [(0, .ref 1), (1, .int (nI i)), (2, .int (nI f)), (3, .int (nI 1)), (4, .int (nI 0)), (5, .int (nI ((k + 1) + 1))), (6, .int ((S 24 (48 * i + (k + 1))) - (S 24 (48 * i + k)))), (7, .int (nI 1))]) hX dX6_stays_86 5 rfl (nI_1 _) (Nat.le_of_ble_eq_true rfl) rfl ?_
              refine zz_goto hX 8 dX6_stays_89 (by decide) ?_
              refine zz_pick (ls' := [(0, .ref 1), (1, .int (nI i)), (2, .int (nI f)), (3, .int (nI 1)), (4, .int (nI 0)), (5, .int (nI ((k + 1) + 1)))]) [0, 1, 2, 3, 4, 5] rfl ?_
              have hst := zs_st_next (o := (fun k => S 24 (48 * i + k))) (k := k) (its := nI 1) (t' := nI 0) (ho (k + 1) (by omega)) (ho k (by omega)) (Or.inl ⟨zs_nle c45, rfl⟩) (Or.inr (Or.inr ⟨c66, zs_le_n c73, rfl⟩))
              refine zz_lcl (ls' := [(0, .ref 1), (1, .int (nI i)), (2, .int (nI f)), (3, .int ((zs_cs (fun k => S 24 (48 * i + k)) (k + 1)).1)), (4, .int ((zs_cs (fun k => S 24 (48 * i + k)) (k + 1)).2)), (5, .int (nI (k + 1 + 1)))]) (by rw [hst]; try rfl) ?_
              exact ih8 (k + 1) (by omega) (by omega)
            · skip
              refine zz_iconst (v := nI 1) hX dX6_stays_76 rfl ?_
              refine zz_goto hX 81 dX6_stays_77 (by decide) ?_
              refine zz_istore (ls' := [(0, .ref 1), (1, .int (nI i)), (2, .int (nI f)), (3, .int ((zs_cs (fun k => S 24 (48 * i + k)) k).1)), (4, .int (nI 1)), (5, .int (nI (k + 1))), (6, .int ((S 24 (48 * i + (k + 1))) - (S 24 (48 * i + k)))), (7, .int (nI 1))]) hX dX6_stays_81 (Nat.le_of_ble_eq_true rfl) rfl ?_
              refine zz_iload hX dX6_stays_83 7 rfl ?_
              refine zz_istore_n (ls' := [(0, .ref 1), (1, .int (nI i)), (2, .int (nI f)), (3, .int (nI 1)), (4, .int (nI 1)), (5, .int (nI (k + 1))), (6, .int ((S 24 (48 * i + (k + 1))) - (S 24 (48 * i + k)))), (7, .int (nI 1))]) hX dX6_stays_85 rfl (Nat.le_of_ble_eq_true rfl) rfl ?_
              refine zz_iinc (v := nI ((k + 1) + 1)) (ls' := [(0, .ref 1), (1, .int (nI i)), (2, .int (nI f)), (3, .int (nI 1)), (4, .int (nI 1)), (5, .int (nI ((k + 1) + 1))), (6, .int ((S 24 (48 * i + (k + 1))) - (S 24 (48 * i + k)))), (7, .int (nI 1))]) hX dX6_stays_86 5 rfl (nI_1 _) (Nat.le_of_ble_eq_true rfl) rfl ?_
              refine zz_goto hX 8 dX6_stays_89 (by decide) ?_
              refine zz_pick (ls' := [(0, .ref 1), (1, .int (nI i)), (2, .int (nI f)), (3, .int (nI 1)), (4, .int (nI 1)), (5, .int (nI ((k + 1) + 1)))]) [0, 1, 2, 3, 4, 5] rfl ?_
              have hst := zs_st_next (o := (fun k => S 24 (48 * i + k))) (k := k) (its := nI 1) (t' := nI 1) (ho (k + 1) (by omega)) (ho k (by omega)) (Or.inl ⟨zs_nle c45, rfl⟩) (Or.inr (Or.inl ⟨c66, zs_nle c73, rfl⟩))
              refine zz_lcl (ls' := [(0, .ref 1), (1, .int (nI i)), (2, .int (nI f)), (3, .int ((zs_cs (fun k => S 24 (48 * i + k)) (k + 1)).1)), (4, .int ((zs_cs (fun k => S 24 (48 * i + k)) (k + 1)).2)), (5, .int (nI (k + 1 + 1)))]) (by rw [hst]; try rfl) ?_
              exact ih8 (k + 1) (by omega) (by omega)
  exact L8 ((f - 0 + 1)) 0 (by omega) (Nat.zero_le _)

