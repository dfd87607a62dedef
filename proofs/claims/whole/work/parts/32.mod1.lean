/-! ===== the reference's methods of the sheet ===== -/
set_option maxRecDepth 20000 in
theorem m_nearU (sh : zm_Sh) (mi : zm_Mi) (mr : zm_Mr) (K len r f : Nat) (E : Int32) (hK : sh K = some (1, len)) (hr : r + 48 ≤ len) (hlen : len < 2304 + 1) (hf : f < 48) : zz_Con yX6_nearest (.code yX6_nearest cX6_nearest 6 (some Jvm.ClassFile.FieldType.int)) 0 0 0 [.ref K, .int (nI r), .int (nI f), .int (-1), .int E] sh mi mr (zz_q (some (.int (zs_up (fun x => ¬ mi K (r + x) = E) (f + 1)))) sh mi mr) zz_none := by
  refine zz_begin RX6 [(0, .ref K), (1, .int (nI r)), (2, .int (nI f)), (3, .int (-1)), (4, .int E)] (by decide) rfl rfl (Nat.le_of_ble_eq_true rfl) rfl ?_
  intro Γ D E9 ad hX hr hN hT
  refine zz_iload_n hX dX6_nearest_0 2 rfl rfl ?_
  refine zz_istore (ls' := [(0, .ref K), (1, .int (nI r)), (2, .int (nI f)), (3, .int (-1)), (4, .int E), (5, .int (nI f))]) hX dX6_nearest_1 (Nat.le_of_ble_eq_true rfl) rfl ?_
  have L3 : ∀ q : Nat, q ≤ 48 → zs_up (fun x => ¬ mi K (r + x) = E) (f + 1) = zs_up (fun x => ¬ mi K (r + x) = E) q → zz Γ (D, E9, 6, ad, sh) (zz_End Γ (D, E9, 6, ad, sh) (zz_q (some (.int (zs_up (fun x => ¬ mi K (r + x) = E) (f + 1)))) sh mi mr) zz_none 0 0) 0 0 sh mi mr 3 [(0, .ref K), (1, .int (nI r)), (2, .int (nI f)), (3, .int (-1)), (4, .int E), (5, .int (nI q + (-1)))] [] := by
    intro q
    induction q with
    | zero =>
      intro _ hq
      refine zz_lcl (ls' := [(0, .ref K), (1, .int (nI r)), (2, .int (nI f)), (3, .int (-1)), (4, .int E), (5, .int (-1))]) rfl ?_
      refine zz_iload hX dX6_nearest_3 5 rfl ?_
      refine zz_if_lt hX 35 dX6_nearest_5 (by decide) (fun _ => ?_) (fun c => absurd c (by decide))
      refine zz_iload hX dX6_nearest_35 5 rfl ?_
      refine zz_bipush (v := nI 48) hX dX6_nearest_37 rfl ?_
      refine zz_icmp_ge hX 52 dX6_nearest_39 (by decide) (fun c => absurd c (by decide)) (fun _ => ?_)
      refine zz_iload hX dX6_nearest_42 5 rfl ?_
      refine zz_if_lt hX 52 dX6_nearest_44 (by decide) (fun _ => ?_) (fun c => absurd c (by decide))
      refine zz_iconst (v := (-1)) hX dX6_nearest_52 rfl ?_
      refine zz_iret hX hr rfl (Nat.le_of_ble_eq_true rfl) (Nat.le_of_ble_eq_true rfl) dX6_nearest_53 ?_
      exact ⟨by rw [hq]; rfl, rfl, rfl, rfl⟩
    | succ i ih =>
      intro hi hq
      refine zz_lcl (ls' := [(0, .ref K), (1, .int (nI r)), (2, .int (nI f)), (3, .int (-1)), (4, .int E), (5, .int (nI i))]) (by rw [pk_m1]) ?_
      refine zz_iload hX dX6_nearest_3 5 rfl ?_
      refine zz_if_lt hX 35 dX6_nearest_5 (by decide) (fun c5 => absurd c5 (nI_pos (by omega))) (fun c5 => ?_)
      refine zz_iload hX dX6_nearest_8 5 rfl ?_
      refine zz_bipush (v := nI 48) hX dX6_nearest_10 rfl ?_
      refine zz_icmp_geN hX (by omega) (by decide) 35 dX6_nearest_12 (by decide) (fun c12 => absurd c12 (by omega)) (fun c12 => ?_)
      refine zz_aload_n hX dX6_nearest_15 0 rfl rfl ?_
      refine zz_iload_n hX dX6_nearest_16 1 rfl rfl ?_
      refine zz_iload hX dX6_nearest_17 5 rfl ?_
      refine zz_iadd (z := nI (r + i)) hX dX6_nearest_19 (nI_add _ _) ?_
      refine zz_iald (x := mi K (r + i)) hX hK (r + i) rfl (by omega) (by omega) rfl dX6_nearest_20 ?_
      refine zz_iload hX dX6_nearest_21 4 rfl ?_
      refine zz_icmp_ne hX 35 dX6_nearest_23 (by decide) (fun c23 => ?_) (fun c23 => ?_)
      · skip
        refine zz_iload hX dX6_nearest_35 5 rfl ?_
        refine zz_bipush (v := nI 48) hX dX6_nearest_37 rfl ?_
        refine zz_icmp_geN hX (by omega) (by decide) 52 dX6_nearest_39 (by decide) (fun c39 => absurd c39 (by omega)) (fun c39 => ?_)
        refine zz_iload hX dX6_nearest_42 5 rfl ?_
        refine zz_if_lt hX 52 dX6_nearest_44 (by decide) (fun c44 => absurd c44 (nI_pos (by omega))) (fun c44 => ?_)
        refine zz_iload hX dX6_nearest_47 5 rfl ?_
        refine zz_goto hX 53 dX6_nearest_49 (by decide) ?_
        refine zz_iret hX hr rfl (Nat.le_of_ble_eq_true rfl) (Nat.le_of_ble_eq_true rfl) dX6_nearest_53 ?_
        exact ⟨by rw [hq]; exact congrArg (fun z => some (Value.int z)) (if_pos c23).symm, rfl, rfl, rfl⟩
      · skip
        refine zz_iload hX dX6_nearest_26 5 rfl ?_
        refine zz_iload_n hX dX6_nearest_28 3 rfl rfl ?_
        refine zz_iadd (z := (nI i) + (-1)) hX dX6_nearest_29 rfl ?_
        refine zz_istore (ls' := [(0, .ref K), (1, .int (nI r)), (2, .int (nI f)), (3, .int (-1)), (4, .int E), (5, .int ((nI i) + (-1)))]) hX dX6_nearest_30 (Nat.le_of_ble_eq_true rfl) rfl ?_
        refine zz_goto hX 3 dX6_nearest_32 (by decide) ?_
        exact ih (by omega) (hq.trans (if_neg (fun h => h c23)))
  refine zz_lcl (ls' := [(0, .ref K), (1, .int (nI r)), (2, .int (nI f)), (3, .int (-1)), (4, .int E), (5, .int (nI (f + 1) + (-1)))]) (by rw [pk_m1]) ?_
  exact L3 (f + 1) (by omega) rfl

set_option maxRecDepth 20000 in
theorem m_nearD (sh : zm_Sh) (mi : zm_Mi) (mr : zm_Mr) (K len r f : Nat) (E : Int32) (hK : sh K = some (1, len)) (hr : r + 48 ≤ len) (hlen : len < 2304 + 1) (hf : f < 48) : zz_Con yX6_nearest (.code yX6_nearest cX6_nearest 6 (some Jvm.ClassFile.FieldType.int)) 0 0 0 [.ref K, .int (nI r), .int (nI f), .int (nI 1), .int E] sh mi mr (zz_q (some (.int (zs_fst (fun x => ¬ mi K (r + x) = E) nI (48 - f) f))) sh mi mr) zz_none := by
  refine zz_begin RX6 [(0, .ref K), (1, .int (nI r)), (2, .int (nI f)), (3, .int (nI 1)), (4, .int E)] (by decide) rfl rfl (Nat.le_of_ble_eq_true rfl) rfl ?_
  intro Γ D E9 ad hX hr hN hT
  refine zz_iload_n hX dX6_nearest_0 2 rfl rfl ?_
  refine zz_istore (ls' := [(0, .ref K), (1, .int (nI r)), (2, .int (nI f)), (3, .int (nI 1)), (4, .int E), (5, .int (nI f))]) hX dX6_nearest_1 (Nat.le_of_ble_eq_true rfl) rfl ?_
  have L3 : ∀ (k3 : Nat) (i : Nat), 48 - i < k3 → (i ≤ 48) → (zs_fst (fun x => ¬ mi K (r + x) = E) nI (48 - f) f = zs_fst (fun x => ¬ mi K (r + x) = E) nI (48 - i) i) → zz Γ (D, E9, 6, ad, sh) (zz_End Γ (D, E9, 6, ad, sh) (zz_q (some (.int (zs_fst (fun x => ¬ mi K (r + x) = E) nI (48 - f) f))) sh mi mr) zz_none 0 0) 0 0 sh mi mr 3 [(0, .ref K), (1, .int (nI r)), (2, .int (nI f)), (3, .int (nI 1)), (4, .int E), (5, .int (nI i))] [] := by
    intro k3
    induction k3 with
    | zero => intro i hk3; exact absurd hk3 (Nat.not_lt_zero _)
    | succ k3 ih3 =>
      intro i hk3 hi hq
      refine zz_iload hX dX6_nearest_3 5 rfl ?_
      refine zz_if_lt hX 35 dX6_nearest_5 (by decide) (fun c5 => absurd c5 (nI_pos (by omega))) (fun c5 => ?_)
      refine zz_iload hX dX6_nearest_8 5 rfl ?_
      refine zz_bipush (v := nI 48) hX dX6_nearest_10 rfl ?_
      refine zz_icmp_geN hX (by omega) (by decide) 35 dX6_nearest_12 (by decide) (fun c12 => ?_) (fun c12 => ?_)
      · skip
        refine zz_iload hX dX6_nearest_35 5 rfl ?_
        refine zz_bipush (v := nI 48) hX dX6_nearest_37 rfl ?_
        refine zz_icmp_geN hX (by omega) (by decide) 52 dX6_nearest_39 (by decide) (fun c39 => ?_) (fun c39 => absurd c39 (by omega))
        refine zz_iconst (v := (-1)) hX dX6_nearest_52 rfl ?_
        refine zz_iret hX hr rfl (Nat.le_of_ble_eq_true rfl) (Nat.le_of_ble_eq_true rfl) dX6_nearest_53 ?_
        exact ⟨by rw [hq, zs_fst_end c12], rfl, rfl, rfl⟩
      · skip
        refine zz_aload_n hX dX6_nearest_15 0 rfl rfl ?_
        refine zz_iload_n hX dX6_nearest_16 1 rfl rfl ?_
        refine zz_iload hX dX6_nearest_17 5 rfl ?_
        refine zz_iadd (z := nI (r + i)) hX dX6_nearest_19 (nI_add _ _) ?_
        refine zz_iald (x := mi K (r + i)) hX hK (r + i) rfl (by omega) (by omega) rfl dX6_nearest_20 ?_
        refine zz_iload hX dX6_nearest_21 4 rfl ?_
        refine zz_icmp_ne hX 35 dX6_nearest_23 (by decide) (fun c23 => ?_) (fun c23 => ?_)
        · skip
          refine zz_iload hX dX6_nearest_35 5 rfl ?_
          refine zz_bipush (v := nI 48) hX dX6_nearest_37 rfl ?_
          refine zz_icmp_geN hX (by omega) (by decide) 52 dX6_nearest_39 (by decide) (fun c39 => absurd c39 (by omega)) (fun c39 => ?_)
          refine zz_iload hX dX6_nearest_42 5 rfl ?_
          refine zz_if_lt hX 52 dX6_nearest_44 (by decide) (fun c44 => absurd c44 (nI_pos (by omega))) (fun c44 => ?_)
          refine zz_iload hX dX6_nearest_47 5 rfl ?_
          refine zz_goto hX 53 dX6_nearest_49 (by decide) ?_
          refine zz_iret hX hr rfl (Nat.le_of_ble_eq_true rfl) (Nat.le_of_ble_eq_true rfl) dX6_nearest_53 ?_
          exact ⟨by rw [hq, zs_fst_hit (g := (fun x => ¬ mi K (r + x) = E)) c12 c23], rfl, rfl, rfl⟩
        · skip
          refine zz_iload hX dX6_nearest_26 5 rfl ?_
          refine zz_iload_n hX dX6_nearest_28 3 rfl rfl ?_
          refine zz_iadd (z := nI (i + 1)) hX dX6_nearest_29 (nI_add _ _) ?_
          refine zz_istore (ls' := [(0, .ref K), (1, .int (nI r)), (2, .int (nI f)), (3, .int (nI 1)), (4, .int E), (5, .int (nI (i + 1)))]) hX dX6_nearest_30 (Nat.le_of_ble_eq_true rfl) rfl ?_
          refine zz_goto hX 3 dX6_nearest_32 (by decide) ?_
          exact ih3 (i + 1) (by omega) (by omega) (hq.trans (zs_fst_step c12 (fun h => h c23)))
  exact L3 ((48 - f + 1)) f (by omega) (by omega) rfl

theorem M_keyU (S : zS) (sh : zm_Sh) (mi : zm_Mi) (mr : zm_Mr) (hW : zW S) (hM : zM S sh mi mr) (f : Nat) (hf : f < 48) (i j : Nat) (hi : i < 8) (hj : j < 6) : zz_Con yX6_nearest (.code yX6_nearest cX6_nearest 6 (some Jvm.ClassFile.FieldType.int)) 0 0 0 [.ref 118, .int (nI (48 * (6 * i + j))), .int (nI f), .int (-1), .int (-1)] sh mi mr (zz_q (some (.int (zs_up (fun x => ¬ S 18 (48 * (6 * i + j) + x) = (-1)) (f + 1)))) sh mi mr) zz_none := by
  have h := m_nearU sh mi mr 118 2304 (48 * (6 * i + j)) f (-1) (zM_r18 hM).2 (by omega) (by decide) hf
  rw [zs_up_congr (g := (fun x => ¬ mi 118 (48 * (6 * i + j) + x) = (-1))) (g' := (fun x => ¬ S 18 (48 * (6 * i + j) + x) = (-1))) (f + 1) (fun x hx => by rw [zM_v18 hM (by omega)])] at h
  exact h
theorem M_keyD (S : zS) (sh : zm_Sh) (mi : zm_Mi) (mr : zm_Mr) (hW : zW S) (hM : zM S sh mi mr) (f : Nat) (hf : f < 48) (i j : Nat) (hi : i < 8) (hj : j < 6) : zz_Con yX6_nearest (.code yX6_nearest cX6_nearest 6 (some Jvm.ClassFile.FieldType.int)) 0 0 0 [.ref 118, .int (nI (48 * (6 * i + j))), .int (nI f), .int (nI 1), .int (-1)] sh mi mr (zz_q (some (.int (zs_fst (fun x => ¬ S 18 (48 * (6 * i + j) + x) = (-1)) nI (48 - f) f))) sh mi mr) zz_none := by
  have h := m_nearD sh mi mr 118 2304 (48 * (6 * i + j)) f (-1) (zM_r18 hM).2 (by omega) (by decide) hf
  rw [zs_fst_congr (g := (fun x => ¬ mi 118 (48 * (6 * i + j) + x) = (-1))) (g' := (fun x => ¬ S 18 (48 * (6 * i + j) + x) = (-1))) (v := nI) (v' := nI) (48 - f) f (fun x _ hx => by rw [zM_v18 hM (by omega)]) (fun _ _ _ _ => rfl)] at h
  exact h
theorem M_camU (S : zS) (sh : zm_Sh) (mi : zm_Mi) (mr : zm_Mr) (hW : zW S) (hM : zM S sh mi mr) (f : Nat) (hf : f < 48) (i : Nat) (hi : i < 8) : zz_Con yX6_nearest (.code yX6_nearest cX6_nearest 6 (some Jvm.ClassFile.FieldType.int)) 0 0 0 [.ref 119, .int (nI (48 * i)), .int (nI f), .int (-1), .int 100000] sh mi mr (zz_q (some (.int (zs_up (fun x => ¬ S 19 (48 * i + x) = 100000) (f + 1)))) sh mi mr) zz_none := by
  have h := m_nearU sh mi mr 119 384 (48 * i) f 100000 (zM_r19 hM).2 (by omega) (by decide) hf
  rw [zs_up_congr (g := (fun x => ¬ mi 119 (48 * i + x) = 100000)) (g' := (fun x => ¬ S 19 (48 * i + x) = 100000)) (f + 1) (fun x hx => by rw [zM_v19 hM (by omega)])] at h
  exact h
theorem M_camD (S : zS) (sh : zm_Sh) (mi : zm_Mi) (mr : zm_Mr) (hW : zW S) (hM : zM S sh mi mr) (f : Nat) (hf : f < 48) (i : Nat) (hi : i < 8) : zz_Con yX6_nearest (.code yX6_nearest cX6_nearest 6 (some Jvm.ClassFile.FieldType.int)) 0 0 0 [.ref 119, .int (nI (48 * i)), .int (nI f), .int (nI 1), .int 100000] sh mi mr (zz_q (some (.int (zs_fst (fun x => ¬ S 19 (48 * i + x) = 100000) nI (48 - f) f))) sh mi mr) zz_none := by
  have h := m_nearD sh mi mr 119 384 (48 * i) f 100000 (zM_r19 hM).2 (by omega) (by decide) hf
  rw [zs_fst_congr (g := (fun x => ¬ mi 119 (48 * i + x) = 100000)) (g' := (fun x => ¬ S 19 (48 * i + x) = 100000)) (v := nI) (v' := nI) (48 - f) f (fun x _ hx => by rw [zM_v19 hM (by omega)]) (fun _ _ _ _ => rfl)] at h
  exact h
theorem zs_pf_of_held {stp f : Nat} (h : ¬ zs_pf stp f = f) : zs_pf stp f = f - 1 := by
  unfold zs_pf at h ⊢
  by_cases q : stp = 2 ∧ f % 2 = 1
  · rw [if_pos q]
  · rw [if_neg q] at h; exact absurd rfl h
theorem zs_pf_held0 {stp f : Nat} (h : ¬ zs_pf stp f = f) : 0 < f := Nat.pos_of_ne_zero (fun e => h (by rw [e]; exact zs_pf_0 _))
set_option maxRecDepth 20000 in
theorem M_degreeAt (S : zS) (sh : zm_Sh) (mi : zm_Mi) (mr : zm_Mr) (hW : zW S) (hM : zM S sh mi mr) (i : Nat) (hi : i < zv_ns S) (j : Nat) (hj : j < 6) (f : Nat) (hf : f < 48) : zz_Con yX6_degreeAt (.code yX6_degreeAt cX6_degreeAt 9 (some Jvm.ClassFile.FieldType.int)) 1 0 0 [.ref 1, .int (nI i), .int (nI j), .int (nI f)] sh mi mr (zz_q (some (.int (zp_deg S i j f))) sh mi mr) zz_none := by
  refine zz_begin RX6 [(0, .ref 1), (1, .int (nI i)), (2, .int (nI j)), (3, .int (nI f))] (by decide) rfl rfl (Nat.le_of_ble_eq_true rfl) rfl ?_
  intro Γ D E ad hX hr hN hT
  obtain ⟨hWp, hWv, hWs, hWk, hWr, hWf⟩ := id hW
  obtain ⟨p0, p1, p2, p3, p4, p5⟩ := hWp
  obtain ⟨v0, v1, v2, v3, v4⟩ := hWv
  obtain ⟨s0, s1, s2, s3⟩ := hWs
  obtain ⟨f0, f1, f2, f3⟩ := hWf
  obtain ⟨b1, b2, b3, b4, b5, b6, b7, b8, b9, b10, b11, b12, b13⟩ := s2 i hi
  have hpf := zs_pf_le (zv_st S i) f
  have LL : zz Γ (D, E, 9, ad, sh) (zz_End Γ (D, E, 9, ad, sh) (zz_q (some (.int (zp_deg S i j f))) sh mi mr) zz_none 0 0) 0 0 sh mi mr 16 [(0, .ref 1), (1, .int (nI i)), (2, .int (nI j)), (3, .int (nI f))] [.int (nI (zs_pf (zv_st S i) f))] := by
    refine zz_istore (ls' := [(0, .ref 1), (1, .int (nI i)), (2, .int (nI j)), (3, .int (nI f)), (4, .int (nI (zs_pf (zv_st S i) f)))]) hX dX6_degreeAt_16 (Nat.le_of_ble_eq_true rfl) rfl ?_
    refine zz_aload_n hX dX6_degreeAt_18 0 rfl rfl ?_
    refine zz_iload_n hX dX6_degreeAt_19 1 rfl rfl ?_
    refine zz_iload_n hX dX6_degreeAt_20 2 rfl rfl ?_
    refine zz_vI (x := nI (48 * (6 * i + j))) hX zf_M_X6_127 (As := [.int (nI i), .int (nI j)]) (st := []) (m_row sh mi mr i j) hM.1 rfl rfl rfl (by decide) (Nat.le_of_ble_eq_true rfl) (Nat.le_of_ble_eq_true rfl) (Nat.le_of_ble_eq_true rfl) dX6_degreeAt_21 ?_
    refine zz_istore (ls' := [(0, .ref 1), (1, .int (nI i)), (2, .int (nI j)), (3, .int (nI f)), (4, .int (nI (zs_pf (zv_st S i) f))), (5, .int (nI (48 * (6 * i + j))))]) hX dX6_degreeAt_24 (Nat.le_of_ble_eq_true rfl) rfl ?_
    refine zz_aload_n hX dX6_degreeAt_26 0 rfl rfl ?_
    refine zz_getR (y := 118) hX zf_F_X6_56.r hM.1 rfl (zM_r18 hM).1 dX6_degreeAt_27 ?_
    refine zz_iload hX dX6_degreeAt_30 5 rfl ?_
    refine zz_iload hX dX6_degreeAt_32 4 rfl ?_
    refine zz_iconst (v := (-1)) hX dX6_degreeAt_34 rfl ?_
    refine zz_iconst (v := (-1)) hX dX6_degreeAt_35 rfl ?_
    refine zz_sI (x := zs_up (fun x => ¬ S 18 (48 * (6 * i + j) + x) = (-1)) ((zs_pf (zv_st S i) f) + 1)) hX zf_M_X6_131 (As := [.ref 118, .int (nI (48 * (6 * i + j))), .int (nI (zs_pf (zv_st S i) f)), .int (-1), .int (-1)]) (st := []) (M_keyU S sh mi mr hW hM (zs_pf (zv_st S i) f) (by omega) i j (by omega) hj) rfl rfl (by decide) (Nat.le_of_ble_eq_true rfl) (Nat.le_of_ble_eq_true rfl) (Nat.le_of_ble_eq_true rfl) dX6_degreeAt_36 ?_
    refine zz_istore (ls' := [(0, .ref 1), (1, .int (nI i)), (2, .int (nI j)), (3, .int (nI f)), (4, .int (nI (zs_pf (zv_st S i) f))), (5, .int (nI (48 * (6 * i + j)))), (6, .int (zs_up (fun x => ¬ S 18 (48 * (6 * i + j) + x) = (-1)) ((zs_pf (zv_st S i) f) + 1)))]) hX dX6_degreeAt_39 (Nat.le_of_ble_eq_true rfl) rfl ?_
    refine zz_aload_n hX dX6_degreeAt_41 0 rfl rfl ?_
    refine zz_getR (y := 118) hX zf_F_X6_56.r hM.1 rfl (zM_r18 hM).1 dX6_degreeAt_42 ?_
    refine zz_iload hX dX6_degreeAt_45 5 rfl ?_
    refine zz_iload hX dX6_degreeAt_47 4 rfl ?_
    refine zz_iconst (v := nI 1) hX dX6_degreeAt_49 rfl ?_
    refine zz_iconst (v := (-1)) hX dX6_degreeAt_50 rfl ?_
    refine zz_sI (x := zs_fst (fun x => ¬ S 18 (48 * (6 * i + j) + x) = (-1)) nI (48 - (zs_pf (zv_st S i) f)) (zs_pf (zv_st S i) f)) hX zf_M_X6_131 (As := [.ref 118, .int (nI (48 * (6 * i + j))), .int (nI (zs_pf (zv_st S i) f)), .int (nI 1), .int (-1)]) (st := []) (M_keyD S sh mi mr hW hM (zs_pf (zv_st S i) f) (by omega) i j (by omega) hj) rfl rfl (by decide) (Nat.le_of_ble_eq_true rfl) (Nat.le_of_ble_eq_true rfl) (Nat.le_of_ble_eq_true rfl) dX6_degreeAt_51 ?_
    refine zz_istore (ls' := [(0, .ref 1), (1, .int (nI i)), (2, .int (nI j)), (3, .int (nI f)), (4, .int (nI (zs_pf (zv_st S i) f))), (5, .int (nI (48 * (6 * i + j)))), (6, .int (zs_up (fun x => ¬ S 18 (48 * (6 * i + j) + x) = (-1)) ((zs_pf (zv_st S i) f) + 1))), (7, .int (zs_fst (fun x => ¬ S 18 (48 * (6 * i + j) + x) = (-1)) nI (48 - (zs_pf (zv_st S i) f)) (zs_pf (zv_st S i) f)))]) hX dX6_degreeAt_54 (Nat.le_of_ble_eq_true rfl) rfl ?_
    rcases zs_up_cases (fun x => ¬ S 18 (48 * (6 * i + j) + x) = (-1)) ((zs_pf (zv_st S i) f) + 1) with ⟨hu, -⟩ | ⟨p, hp9, hgp, hu, -⟩ <;> rcases zs_fst_cases (fun x => ¬ S 18 (48 * (6 * i + j) + x) = (-1)) nI (48 - (zs_pf (zv_st S i) f)) (zs_pf (zv_st S i) f) with ⟨hv, -⟩ | ⟨q, hq8, hq9, hgq, hv, -⟩
    · skip
      refine zz_lcl (ls' := [(0, .ref 1), (1, .int (nI i)), (2, .int (nI j)), (3, .int (nI f)), (4, .int (nI (zs_pf (zv_st S i) f))), (5, .int (nI (48 * (6 * i + j)))), (6, .int (-1)), (7, .int (-1))]) (by rw [hu, hv]) ?_
      refine zz_iload hX dX6_degreeAt_56 6 rfl ?_
      refine zz_iconst (v := (-1)) hX dX6_degreeAt_58 rfl ?_
      refine zz_icmp_eq hX 68 dX6_degreeAt_59 (by decide) (fun _ => ?_) (fun c => absurd c (by decide))
      refine zz_iload hX dX6_degreeAt_68 6 rfl ?_
      refine zz_iload hX dX6_degreeAt_70 7 rfl ?_
      refine zz_icmp_ne hX 79 dX6_degreeAt_72 (by decide) (fun c => absurd c (by decide)) (fun _ => ?_)
      refine zz_iconst (v := nI 0) hX dX6_degreeAt_75 rfl ?_
      refine zz_goto hX 100 dX6_degreeAt_76 (by decide) ?_
      refine zz_iret hX hr rfl (Nat.le_of_ble_eq_true rfl) (Nat.le_of_ble_eq_true rfl) dX6_degreeAt_100 ?_
      exact ⟨by rw [show zp_deg S i j f = zs_val zs_mixR (fun x => S 18 (48 * (6 * i + j) + x)) (zs_up (fun x => ¬ S 18 (48 * (6 * i + j) + x) = (-1)) ((zs_pf (zv_st S i) f) + 1)) (zs_fst (fun x => ¬ S 18 (48 * (6 * i + j) + x) = (-1)) nI (48 - (zs_pf (zv_st S i) f)) (zs_pf (zv_st S i) f)) (nI (zs_pf (zv_st S i) f)) from rfl, hu, hv]; rfl, rfl, rfl, rfl⟩
    · skip
      refine zz_lcl (ls' := [(0, .ref 1), (1, .int (nI i)), (2, .int (nI j)), (3, .int (nI f)), (4, .int (nI (zs_pf (zv_st S i) f))), (5, .int (nI (48 * (6 * i + j)))), (6, .int (-1)), (7, .int (nI q))]) (by rw [hu, hv]) ?_
      refine zz_iload hX dX6_degreeAt_56 6 rfl ?_
      refine zz_iconst (v := (-1)) hX dX6_degreeAt_58 rfl ?_
      refine zz_icmp_eq hX 68 dX6_degreeAt_59 (by decide) (fun _ => ?_) (fun c => absurd c (by decide))
      refine zz_iload hX dX6_degreeAt_68 6 rfl ?_
      refine zz_iload hX dX6_degreeAt_70 7 rfl ?_
      refine zz_icmp_ne hX 79 dX6_degreeAt_72 (by decide) (fun c72 => ?_) (fun c72 => absurd c72.symm (zs_nm1 (by omega)))
      refine zz_aload_n hX dX6_degreeAt_79 0 rfl rfl ?_
      refine zz_getR (y := 118) hX zf_F_X6_56.r hM.1 rfl (zM_r18 hM).1 dX6_degreeAt_80 ?_
      refine zz_iload hX dX6_degreeAt_83 5 rfl ?_
      refine zz_iload hX dX6_degreeAt_85 6 rfl ?_
      refine zz_iconst (v := (-1)) hX dX6_degreeAt_87 rfl ?_
      refine zz_icmp_ne hX 96 dX6_degreeAt_88 (by decide) (fun c => absurd c (by decide)) (fun _ => ?_)
      refine zz_iload hX dX6_degreeAt_91 7 rfl ?_
      refine zz_goto hX 98 dX6_degreeAt_93 (by decide) ?_
      refine zz_iadd (z := nI (48 * (6 * i + j) + q)) hX dX6_degreeAt_98 (nI_add _ _) ?_
      refine zz_iald (x := S 18 (48 * (6 * i + j) + q)) hX (zM_r18 hM).2 (48 * (6 * i + j) + q) rfl (by omega) (by decide) ((zM_v18 hM (k := 48 * (6 * i + j) + q) (by omega))) dX6_degreeAt_99 ?_
      refine zz_iret hX hr rfl (Nat.le_of_ble_eq_true rfl) (Nat.le_of_ble_eq_true rfl) dX6_degreeAt_100 ?_
      have e9 : zp_deg S i j f = S 18 (48 * (6 * i + j) + q) := by
        rw [show zp_deg S i j f = zs_val zs_mixR (fun x => S 18 (48 * (6 * i + j) + x)) (zs_up (fun x => ¬ S 18 (48 * (6 * i + j) + x) = (-1)) ((zs_pf (zv_st S i) f) + 1)) (zs_fst (fun x => ¬ S 18 (48 * (6 * i + j) + x) = (-1)) nI (48 - (zs_pf (zv_st S i) f)) (zs_pf (zv_st S i) f)) (nI (zs_pf (zv_st S i) f)) from rfl, hu, hv]
        unfold zs_val
        rw [if_pos rfl, if_neg (zs_nm1 (by omega)), nI_clamp (by omega)]
      exact ⟨by rw [e9], rfl, rfl, rfl⟩
    · skip
      refine zz_lcl (ls' := [(0, .ref 1), (1, .int (nI i)), (2, .int (nI j)), (3, .int (nI f)), (4, .int (nI (zs_pf (zv_st S i) f))), (5, .int (nI (48 * (6 * i + j)))), (6, .int (nI p)), (7, .int (-1))]) (by rw [hu, hv]) ?_
      refine zz_iload hX dX6_degreeAt_56 6 rfl ?_
      refine zz_iconst (v := (-1)) hX dX6_degreeAt_58 rfl ?_
      refine zz_icmp_eq hX 68 dX6_degreeAt_59 (by decide) (fun c59 => absurd c59 (zs_nm1 (by omega))) (fun c59 => ?_)
      refine zz_iload hX dX6_degreeAt_62 7 rfl ?_
      refine zz_iconst (v := (-1)) hX dX6_degreeAt_64 rfl ?_
      refine zz_icmp_ne hX 101 dX6_degreeAt_65 (by decide) (fun c => absurd c (by decide)) (fun _ => ?_)
      refine zz_iload hX dX6_degreeAt_68 6 rfl ?_
      refine zz_iload hX dX6_degreeAt_70 7 rfl ?_
      refine zz_icmp_ne hX 79 dX6_degreeAt_72 (by decide) (fun c72 => ?_) (fun c72 => absurd c72 (zs_nm1 (by omega)))
      refine zz_aload_n hX dX6_degreeAt_79 0 rfl rfl ?_
      refine zz_getR (y := 118) hX zf_F_X6_56.r hM.1 rfl (zM_r18 hM).1 dX6_degreeAt_80 ?_
      refine zz_iload hX dX6_degreeAt_83 5 rfl ?_
      refine zz_iload hX dX6_degreeAt_85 6 rfl ?_
      refine zz_iconst (v := (-1)) hX dX6_degreeAt_87 rfl ?_
      refine zz_icmp_ne hX 96 dX6_degreeAt_88 (by decide) (fun c88 => ?_) (fun c88 => absurd c88 (zs_nm1 (by omega)))
      refine zz_iload hX dX6_degreeAt_96 6 rfl ?_
      refine zz_iadd (z := nI (48 * (6 * i + j) + p)) hX dX6_degreeAt_98 (nI_add _ _) ?_
      refine zz_iald (x := S 18 (48 * (6 * i + j) + p)) hX (zM_r18 hM).2 (48 * (6 * i + j) + p) rfl (by omega) (by decide) ((zM_v18 hM (k := 48 * (6 * i + j) + p) (by omega))) dX6_degreeAt_99 ?_
      refine zz_iret hX hr rfl (Nat.le_of_ble_eq_true rfl) (Nat.le_of_ble_eq_true rfl) dX6_degreeAt_100 ?_
      have e9 : zp_deg S i j f = S 18 (48 * (6 * i + j) + p) := by
        rw [show zp_deg S i j f = zs_val zs_mixR (fun x => S 18 (48 * (6 * i + j) + x)) (zs_up (fun x => ¬ S 18 (48 * (6 * i + j) + x) = (-1)) ((zs_pf (zv_st S i) f) + 1)) (zs_fst (fun x => ¬ S 18 (48 * (6 * i + j) + x) = (-1)) nI (48 - (zs_pf (zv_st S i) f)) (zs_pf (zv_st S i) f)) (nI (zs_pf (zv_st S i) f)) from rfl, hu, hv]
        unfold zs_val
        rw [if_neg (zs_nm1 (by omega)), if_pos (by rw [zs_le, nI_toInt (by omega)]; show (-1 : Int) ≤ p; omega), nI_clamp (by omega)]
      exact ⟨by rw [e9], rfl, rfl, rfl⟩
    · skip
      refine zz_lcl (ls' := [(0, .ref 1), (1, .int (nI i)), (2, .int (nI j)), (3, .int (nI f)), (4, .int (nI (zs_pf (zv_st S i) f))), (5, .int (nI (48 * (6 * i + j)))), (6, .int (nI p)), (7, .int (nI q))]) (by rw [hu, hv]) ?_
      refine zz_iload hX dX6_degreeAt_56 6 rfl ?_
      refine zz_iconst (v := (-1)) hX dX6_degreeAt_58 rfl ?_
      refine zz_icmp_eq hX 68 dX6_degreeAt_59 (by decide) (fun c59 => absurd c59 (zs_nm1 (by omega))) (fun c59 => ?_)
      refine zz_iload hX dX6_degreeAt_62 7 rfl ?_
      refine zz_iconst (v := (-1)) hX dX6_degreeAt_64 rfl ?_
      refine zz_icmp_ne hX 101 dX6_degreeAt_65 (by decide) (fun c65 => ?_) (fun c65 => absurd c65 (zs_nm1 (by omega)))
      refine zz_iload hX dX6_degreeAt_101 6 rfl ?_
      refine zz_iload hX dX6_degreeAt_103 7 rfl ?_
      refine zz_icmp_neN hX (by omega) (by omega) 119 dX6_degreeAt_105 (by decide) (fun c105 => ?_) (fun c105 => ?_)
      · skip
        refine zz_aload_n hX dX6_degreeAt_119 0 rfl rfl ?_
        refine zz_getR (y := 118) hX zf_F_X6_56.r hM.1 rfl (zM_r18 hM).1 dX6_degreeAt_120 ?_
        refine zz_iload hX dX6_degreeAt_123 5 rfl ?_
        refine zz_iload hX dX6_degreeAt_125 7 rfl ?_
        refine zz_iadd (z := nI (48 * (6 * i + j) + q)) hX dX6_degreeAt_127 (nI_add _ _) ?_
        refine zz_iald (x := S 18 (48 * (6 * i + j) + q)) hX (zM_r18 hM).2 (48 * (6 * i + j) + q) rfl (by omega) (by decide) ((zM_v18 hM (k := 48 * (6 * i + j) + q) (by omega))) dX6_degreeAt_128 ?_
        refine zz_aload_n hX dX6_degreeAt_129 0 rfl rfl ?_
        refine zz_getR (y := 118) hX zf_F_X6_56.r hM.1 rfl (zM_r18 hM).1 dX6_degreeAt_130 ?_
        refine zz_iload hX dX6_degreeAt_133 5 rfl ?_
        refine zz_iload hX dX6_degreeAt_135 6 rfl ?_
        refine zz_iadd (z := nI (48 * (6 * i + j) + p)) hX dX6_degreeAt_137 (nI_add _ _) ?_
        refine zz_iald (x := S 18 (48 * (6 * i + j) + p)) hX (zM_r18 hM).2 (48 * (6 * i + j) + p) rfl (by omega) (by decide) ((zM_v18 hM (k := 48 * (6 * i + j) + p) (by omega))) dX6_degreeAt_138 ?_
        refine zz_isub (z := (S 18 (48 * (6 * i + j) + q)) - (S 18 (48 * (6 * i + j) + p))) hX dX6_degreeAt_139 rfl ?_
        refine zz_sipush (v := nI 360) hX dX6_degreeAt_140 rfl ?_
        refine zz_iadd (z := ((S 18 (48 * (6 * i + j) + q)) - (S 18 (48 * (6 * i + j) + p))) + (nI 360)) hX dX6_degreeAt_143 rfl ?_
        refine zz_sipush (v := nI 360) hX dX6_degreeAt_144 rfl ?_
        refine zz_irem (z := zs_rem (((S 18 (48 * (6 * i + j) + q)) - (S 18 (48 * (6 * i + j) + p))) + (nI 360)) (nI 360)) hX dX6_degreeAt_147 (by decide) rfl ?_
        refine zz_istore (ls' := [(0, .ref 1), (1, .int (nI i)), (2, .int (nI j)), (3, .int (nI f)), (4, .int (nI (zs_pf (zv_st S i) f))), (5, .int (nI (48 * (6 * i + j)))), (6, .int (nI p)), (7, .int (nI q)), (8, .int (zs_rem (((S 18 (48 * (6 * i + j) + q)) - (S 18 (48 * (6 * i + j) + p))) + (nI 360)) (nI 360)))]) hX dX6_degreeAt_148 (Nat.le_of_ble_eq_true rfl) rfl ?_
        refine zz_iload hX dX6_degreeAt_150 8 rfl ?_
        refine zz_sipush (v := nI 180) hX dX6_degreeAt_152 rfl ?_
        refine zz_icmp_le hX 167 dX6_degreeAt_155 (by decide) (fun c155 => ?_) (fun c155 => ?_)
        · skip
          refine zz_iload hX dX6_degreeAt_167 8 rfl ?_
          refine zz_istore (ls' := [(0, .ref 1), (1, .int (nI i)), (2, .int (nI j)), (3, .int (nI f)), (4, .int (nI (zs_pf (zv_st S i) f))), (5, .int (nI (48 * (6 * i + j)))), (6, .int (nI p)), (7, .int (nI q)), (8, .int (zs_rem (((S 18 (48 * (6 * i + j) + q)) - (S 18 (48 * (6 * i + j) + p))) + (nI 360)) (nI 360)))]) hX dX6_degreeAt_169 (Nat.le_of_ble_eq_true rfl) rfl ?_
          refine zz_aload_n hX dX6_degreeAt_171 0 rfl rfl ?_
          refine zz_getR (y := 118) hX zf_F_X6_56.r hM.1 rfl (zM_r18 hM).1 dX6_degreeAt_172 ?_
          refine zz_iload hX dX6_degreeAt_175 5 rfl ?_
          refine zz_iload hX dX6_degreeAt_177 6 rfl ?_
          refine zz_iadd (z := nI (48 * (6 * i + j) + p)) hX dX6_degreeAt_179 (nI_add _ _) ?_
          refine zz_iald (x := S 18 (48 * (6 * i + j) + p)) hX (zM_r18 hM).2 (48 * (6 * i + j) + p) rfl (by omega) (by decide) ((zM_v18 hM (k := 48 * (6 * i + j) + p) (by omega))) dX6_degreeAt_180 ?_
          refine zz_iload hX dX6_degreeAt_181 8 rfl ?_
          refine zz_iload hX dX6_degreeAt_183 4 rfl ?_
          refine zz_iload hX dX6_degreeAt_185 6 rfl ?_
          refine zz_isub (z := nI ((zs_pf (zv_st S i) f) - p)) hX dX6_degreeAt_187 (pk_sub (by omega)) ?_
          refine zz_imul (z := (zs_rem (((S 18 (48 * (6 * i + j) + q)) - (S 18 (48 * (6 * i + j) + p))) + (nI 360)) (nI 360)) * (nI ((zs_pf (zv_st S i) f) - p))) hX dX6_degreeAt_188 rfl ?_
          refine zz_iload hX dX6_degreeAt_189 7 rfl ?_
          refine zz_iload hX dX6_degreeAt_191 6 rfl ?_
          refine zz_isub (z := nI (q - p)) hX dX6_degreeAt_193 (pk_sub (by omega)) ?_
          refine zz_idiv (z := ((zs_rem (((S 18 (48 * (6 * i + j) + q)) - (S 18 (48 * (6 * i + j) + p))) + (nI 360)) (nI 360)) * (nI ((zs_pf (zv_st S i) f) - p))) / (nI (q - p))) hX dX6_degreeAt_194 (nI_ne0 (by omega) (by omega)) rfl ?_
          refine zz_iadd (z := (S 18 (48 * (6 * i + j) + p)) + (((zs_rem (((S 18 (48 * (6 * i + j) + q)) - (S 18 (48 * (6 * i + j) + p))) + (nI 360)) (nI 360)) * (nI ((zs_pf (zv_st S i) f) - p))) / (nI (q - p)))) hX dX6_degreeAt_195 rfl ?_
          refine zz_sipush (v := nI 360) hX dX6_degreeAt_196 rfl ?_
          refine zz_iadd (z := ((S 18 (48 * (6 * i + j) + p)) + (((zs_rem (((S 18 (48 * (6 * i + j) + q)) - (S 18 (48 * (6 * i + j) + p))) + (nI 360)) (nI 360)) * (nI ((zs_pf (zv_st S i) f) - p))) / (nI (q - p)))) + (nI 360)) hX dX6_degreeAt_199 rfl ?_
          refine zz_sipush (v := nI 360) hX dX6_degreeAt_200 rfl ?_
          refine zz_irem (z := zs_rem (((S 18 (48 * (6 * i + j) + p)) + (((zs_rem (((S 18 (48 * (6 * i + j) + q)) - (S 18 (48 * (6 * i + j) + p))) + (nI 360)) (nI 360)) * (nI ((zs_pf (zv_st S i) f) - p))) / (nI (q - p)))) + (nI 360)) (nI 360)) hX dX6_degreeAt_203 (by decide) rfl ?_
          refine zz_iret hX hr rfl (Nat.le_of_ble_eq_true rfl) (Nat.le_of_ble_eq_true rfl) dX6_degreeAt_204 ?_
          have e9 : zp_deg S i j f = zs_mixR (S 18 (48 * (6 * i + j) + p)) (S 18 (48 * (6 * i + j) + q)) (nI ((zs_pf (zv_st S i) f) - p)) (nI (q - p)) := by
            rw [show zp_deg S i j f = zs_val zs_mixR (fun x => S 18 (48 * (6 * i + j) + x)) (zs_up (fun x => ¬ S 18 (48 * (6 * i + j) + x) = (-1)) ((zs_pf (zv_st S i) f) + 1)) (zs_fst (fun x => ¬ S 18 (48 * (6 * i + j) + x) = (-1)) nI (48 - (zs_pf (zv_st S i) f)) (zs_pf (zv_st S i) f)) (nI (zs_pf (zv_st S i) f)) from rfl, hu, hv]
            unfold zs_val
            rw [if_neg (zs_nm1 (by omega)), if_neg (by rw [zs_le, nI_toInt (by omega), nI_toInt (by omega)]; omega), nI_clamp (by omega), nI_clamp (by omega), pk_sub (by omega), pk_sub (by omega)]
          have e8 := zs_mixR_eq (a := S 18 (48 * (6 * i + j) + p)) (b := S 18 (48 * (6 * i + j) + q)) (p := (zs_pf (zv_st S i) f) - p) (q := q - p) ((hWk.1 _).resolve_left hgp) ((hWk.1 _).resolve_left hgq) (by omega) (by omega)
          rw [if_pos c155] at e8
          exact ⟨by rw [e9, ← e8], rfl, rfl, rfl⟩
        · skip
          refine zz_iload hX dX6_degreeAt_158 8 rfl ?_
          refine zz_sipush (v := nI 360) hX dX6_degreeAt_160 rfl ?_
          refine zz_isub (z := (zs_rem (((S 18 (48 * (6 * i + j) + q)) - (S 18 (48 * (6 * i + j) + p))) + (nI 360)) (nI 360)) - (nI 360)) hX dX6_degreeAt_163 rfl ?_
          refine zz_goto hX 169 dX6_degreeAt_164 (by decide) ?_
          refine zz_istore (ls' := [(0, .ref 1), (1, .int (nI i)), (2, .int (nI j)), (3, .int (nI f)), (4, .int (nI (zs_pf (zv_st S i) f))), (5, .int (nI (48 * (6 * i + j)))), (6, .int (nI p)), (7, .int (nI q)), (8, .int ((zs_rem (((S 18 (48 * (6 * i + j) + q)) - (S 18 (48 * (6 * i + j) + p))) + (nI 360)) (nI 360)) - (nI 360)))]) hX dX6_degreeAt_169 (Nat.le_of_ble_eq_true rfl) rfl ?_
          refine zz_aload_n hX dX6_degreeAt_171 0 rfl rfl ?_
          refine zz_getR (y := 118) hX zf_F_X6_56.r hM.1 rfl (zM_r18 hM).1 dX6_degreeAt_172 ?_
          refine zz_iload hX dX6_degreeAt_175 5 rfl ?_
          refine zz_iload hX dX6_degreeAt_177 6 rfl ?_
          refine zz_iadd (z := nI (48 * (6 * i + j) + p)) hX dX6_degreeAt_179 (nI_add _ _) ?_
          refine zz_iald (x := S 18 (48 * (6 * i + j) + p)) hX (zM_r18 hM).2 (48 * (6 * i + j) + p) rfl (by omega) (by decide) ((zM_v18 hM (k := 48 * (6 * i + j) + p) (by omega))) dX6_degreeAt_180 ?_
          refine zz_iload hX dX6_degreeAt_181 8 rfl ?_
          refine zz_iload hX dX6_degreeAt_183 4 rfl ?_
          refine zz_iload hX dX6_degreeAt_185 6 rfl ?_
          refine zz_isub (z := nI ((zs_pf (zv_st S i) f) - p)) hX dX6_degreeAt_187 (pk_sub (by omega)) ?_
          refine zz_imul (z := ((zs_rem (((S 18 (48 * (6 * i + j) + q)) - (S 18 (48 * (6 * i + j) + p))) + (nI 360)) (nI 360)) - (nI 360)) * (nI ((zs_pf (zv_st S i) f) - p))) hX dX6_degreeAt_188 rfl ?_
          refine zz_iload hX dX6_degreeAt_189 7 rfl ?_
          refine zz_iload hX dX6_degreeAt_191 6 rfl ?_
          refine zz_isub (z := nI (q - p)) hX dX6_degreeAt_193 (pk_sub (by omega)) ?_
          refine zz_idiv (z := (((zs_rem (((S 18 (48 * (6 * i + j) + q)) - (S 18 (48 * (6 * i + j) + p))) + (nI 360)) (nI 360)) - (nI 360)) * (nI ((zs_pf (zv_st S i) f) - p))) / (nI (q - p))) hX dX6_degreeAt_194 (nI_ne0 (by omega) (by omega)) rfl ?_
          refine zz_iadd (z := (S 18 (48 * (6 * i + j) + p)) + ((((zs_rem (((S 18 (48 * (6 * i + j) + q)) - (S 18 (48 * (6 * i + j) + p))) + (nI 360)) (nI 360)) - (nI 360)) * (nI ((zs_pf (zv_st S i) f) - p))) / (nI (q - p)))) hX dX6_degreeAt_195 rfl ?_
          refine zz_sipush (v := nI 360) hX dX6_degreeAt_196 rfl ?_
          refine zz_iadd (z := ((S 18 (48 * (6 * i + j) + p)) + ((((zs_rem (((S 18 (48 * (6 * i + j) + q)) - (S 18 (48 * (6 * i + j) + p))) + (nI 360)) (nI 360)) - (nI 360)) * (nI ((zs_pf (zv_st S i) f) - p))) / (nI (q - p)))) + (nI 360)) hX dX6_degreeAt_199 rfl ?_
          refine zz_sipush (v := nI 360) hX dX6_degreeAt_200 rfl ?_
          refine zz_irem (z := zs_rem (((S 18 (48 * (6 * i + j) + p)) + ((((zs_rem (((S 18 (48 * (6 * i + j) + q)) - (S 18 (48 * (6 * i + j) + p))) + (nI 360)) (nI 360)) - (nI 360)) * (nI ((zs_pf (zv_st S i) f) - p))) / (nI (q - p)))) + (nI 360)) (nI 360)) hX dX6_degreeAt_203 (by decide) rfl ?_
          refine zz_iret hX hr rfl (Nat.le_of_ble_eq_true rfl) (Nat.le_of_ble_eq_true rfl) dX6_degreeAt_204 ?_
          have e9 : zp_deg S i j f = zs_mixR (S 18 (48 * (6 * i + j) + p)) (S 18 (48 * (6 * i + j) + q)) (nI ((zs_pf (zv_st S i) f) - p)) (nI (q - p)) := by
            rw [show zp_deg S i j f = zs_val zs_mixR (fun x => S 18 (48 * (6 * i + j) + x)) (zs_up (fun x => ¬ S 18 (48 * (6 * i + j) + x) = (-1)) ((zs_pf (zv_st S i) f) + 1)) (zs_fst (fun x => ¬ S 18 (48 * (6 * i + j) + x) = (-1)) nI (48 - (zs_pf (zv_st S i) f)) (zs_pf (zv_st S i) f)) (nI (zs_pf (zv_st S i) f)) from rfl, hu, hv]
            unfold zs_val
            rw [if_neg (zs_nm1 (by omega)), if_neg (by rw [zs_le, nI_toInt (by omega), nI_toInt (by omega)]; omega), nI_clamp (by omega), nI_clamp (by omega), pk_sub (by omega), pk_sub (by omega)]
          have e8 := zs_mixR_eq (a := S 18 (48 * (6 * i + j) + p)) (b := S 18 (48 * (6 * i + j) + q)) (p := (zs_pf (zv_st S i) f) - p) (q := q - p) ((hWk.1 _).resolve_left hgp) ((hWk.1 _).resolve_left hgq) (by omega) (by omega)
          rw [if_neg c155] at e8
          exact ⟨by rw [e9, ← e8], rfl, rfl, rfl⟩
      · skip
        refine zz_aload_n hX dX6_degreeAt_108 0 rfl rfl ?_
        refine zz_getR (y := 118) hX zf_F_X6_56.r hM.1 rfl (zM_r18 hM).1 dX6_degreeAt_109 ?_
        refine zz_iload hX dX6_degreeAt_112 5 rfl ?_
        refine zz_iload hX dX6_degreeAt_114 6 rfl ?_
        refine zz_iadd (z := nI (48 * (6 * i + j) + p)) hX dX6_degreeAt_116 (nI_add _ _) ?_
        refine zz_iald (x := S 18 (48 * (6 * i + j) + p)) hX (zM_r18 hM).2 (48 * (6 * i + j) + p) rfl (by omega) (by decide) ((zM_v18 hM (k := 48 * (6 * i + j) + p) (by omega))) dX6_degreeAt_117 ?_
        refine zz_iret hX hr rfl (Nat.le_of_ble_eq_true rfl) (Nat.le_of_ble_eq_true rfl) dX6_degreeAt_118 ?_
        have e9 : zp_deg S i j f = S 18 (48 * (6 * i + j) + p) := by
          rw [show zp_deg S i j f = zs_val zs_mixR (fun x => S 18 (48 * (6 * i + j) + x)) (zs_up (fun x => ¬ S 18 (48 * (6 * i + j) + x) = (-1)) ((zs_pf (zv_st S i) f) + 1)) (zs_fst (fun x => ¬ S 18 (48 * (6 * i + j) + x) = (-1)) nI (48 - (zs_pf (zv_st S i) f)) (zs_pf (zv_st S i) f)) (nI (zs_pf (zv_st S i) f)) from rfl, hu, hv]
          unfold zs_val
          rw [if_neg (zs_nm1 (by omega)), if_pos (by rw [c105]; exact zs_le.mpr (Int.le_refl _)), nI_clamp (by omega)]
        exact ⟨by rw [e9], rfl, rfl, rfl⟩
  refine zz_aload_n hX dX6_degreeAt_0 0 rfl rfl ?_
  refine zz_iload_n hX dX6_degreeAt_1 1 rfl rfl ?_
  refine zz_iload_n hX dX6_degreeAt_2 3 rfl rfl ?_
  refine zz_vI (x := zz_bi (zp_held S i f)) hX zf_M_X6_123 (As := [.int (nI i), .int (nI f)]) (st := []) (M_isHeld S sh mi mr hW hM i hi f (by omega)) hM.1 rfl rfl rfl (by decide) (Nat.le_of_ble_eq_true rfl) (Nat.le_of_ble_eq_true rfl) (Nat.le_of_ble_eq_true rfl) dX6_degreeAt_3 ?_
  refine zz_if_eqB hX 15 dX6_degreeAt_6 (by decide) (fun c6 => ?_) (fun c6 => ?_)
  · skip
    refine zz_iload_n hX dX6_degreeAt_15 3 rfl rfl ?_
    refine zz_top (congrArg nI (show f = zs_pf (zv_st S i) f from (Classical.byContradiction fun q => c6 (fun e => q e.symm)))) ?_
    exact LL
  · skip
    refine zz_iload_n hX dX6_degreeAt_9 3 rfl rfl ?_
    refine zz_iconst (v := nI 1) hX dX6_degreeAt_10 rfl ?_
    refine zz_isub (z := nI (f - 1)) hX dX6_degreeAt_11 (pk_sub (by have := zs_pf_held0 c6; omega)) ?_
    refine zz_goto hX 16 dX6_degreeAt_12 (by decide) ?_
    refine zz_top (congrArg nI (show f - 1 = zs_pf (zv_st S i) f from (zs_pf_of_held c6).symm)) ?_
    exact LL

set_option maxRecDepth 20000 in
theorem M_placeAt (S : zS) (sh : zm_Sh) (mi : zm_Mi) (mr : zm_Mr) (hW : zW S) (hM : zM S sh mi mr) (i : Nat) (hi : i < zv_ns S) (f : Nat) (hf : f < 48) : zz_Con yX6_placeAt (.code yX6_placeAt cX6_placeAt 7 (some Jvm.ClassFile.FieldType.int)) 1 0 0 [.ref 1, .int (nI i), .int (nI f)] sh mi mr (zz_q (some (.int (zp_place S i f))) sh mi mr) zz_none := by
  refine zz_begin RX6 [(0, .ref 1), (1, .int (nI i)), (2, .int (nI f))] (by decide) rfl rfl (Nat.le_of_ble_eq_true rfl) rfl ?_
  intro Γ D E ad hX hr hN hT
  obtain ⟨hWp, hWv, hWs, hWk, hWr, hWf⟩ := id hW
  obtain ⟨p0, p1, p2, p3, p4, p5⟩ := hWp
  obtain ⟨v0, v1, v2, v3, v4⟩ := hWv
  obtain ⟨s0, s1, s2, s3⟩ := hWs
  obtain ⟨f0, f1, f2, f3⟩ := hWf
  obtain ⟨b1, b2, b3, b4, b5, b6, b7, b8, b9, b10, b11, b12, b13⟩ := s2 i hi
  refine zz_bipush (v := nI 48) hX dX6_placeAt_0 rfl ?_
  refine zz_iload_n hX dX6_placeAt_2 1 rfl rfl ?_
  refine zz_imul (z := nI (48 * i)) hX dX6_placeAt_3 (pk_mul _ _) ?_
  refine zz_istore_n (ls' := [(0, .ref 1), (1, .int (nI i)), (2, .int (nI f)), (3, .int (nI (48 * i)))]) hX dX6_placeAt_4 rfl (Nat.le_of_ble_eq_true rfl) rfl ?_
  refine zz_aload_n hX dX6_placeAt_5 0 rfl rfl ?_
  refine zz_getR (y := 119) hX zf_F_X6_59.r hM.1 rfl (zM_r19 hM).1 dX6_placeAt_6 ?_
  refine zz_iload_n hX dX6_placeAt_9 3 rfl rfl ?_
  refine zz_iload_n hX dX6_placeAt_10 2 rfl rfl ?_
  refine zz_iconst (v := (-1)) hX dX6_placeAt_11 rfl ?_
  refine zz_ldc (v := 100000) hX zw_con_X6_83 dX6_placeAt_12 ?_
  refine zz_sI (x := zs_up (fun x => ¬ S 19 (48 * i + x) = 100000) (f + 1)) hX zf_M_X6_131 (As := [.ref 119, .int (nI (48 * i)), .int (nI f), .int (-1), .int 100000]) (st := []) (M_camU S sh mi mr hW hM f hf i (by omega)) rfl rfl (by decide) (Nat.le_of_ble_eq_true rfl) (Nat.le_of_ble_eq_true rfl) (Nat.le_of_ble_eq_true rfl) dX6_placeAt_14 ?_
  refine zz_istore (ls' := [(0, .ref 1), (1, .int (nI i)), (2, .int (nI f)), (3, .int (nI (48 * i))), (4, .int (zs_up (fun x => ¬ S 19 (48 * i + x) = 100000) (f + 1)))]) hX dX6_placeAt_17 (Nat.le_of_ble_eq_true rfl) rfl ?_
  refine zz_aload_n hX dX6_placeAt_19 0 rfl rfl ?_
  refine zz_getR (y := 119) hX zf_F_X6_59.r hM.1 rfl (zM_r19 hM).1 dX6_placeAt_20 ?_
  refine zz_iload_n hX dX6_placeAt_23 3 rfl rfl ?_
  refine zz_iload_n hX dX6_placeAt_24 2 rfl rfl ?_
  refine zz_iconst (v := nI 1) hX dX6_placeAt_25 rfl ?_
  refine zz_ldc (v := 100000) hX zw_con_X6_83 dX6_placeAt_26 ?_
  refine zz_sI (x := zs_fst (fun x => ¬ S 19 (48 * i + x) = 100000) nI (48 - f) f) hX zf_M_X6_131 (As := [.ref 119, .int (nI (48 * i)), .int (nI f), .int (nI 1), .int 100000]) (st := []) (M_camD S sh mi mr hW hM f hf i (by omega)) rfl rfl (by decide) (Nat.le_of_ble_eq_true rfl) (Nat.le_of_ble_eq_true rfl) (Nat.le_of_ble_eq_true rfl) dX6_placeAt_28 ?_
  refine zz_istore (ls' := [(0, .ref 1), (1, .int (nI i)), (2, .int (nI f)), (3, .int (nI (48 * i))), (4, .int (zs_up (fun x => ¬ S 19 (48 * i + x) = 100000) (f + 1))), (5, .int (zs_fst (fun x => ¬ S 19 (48 * i + x) = 100000) nI (48 - f) f))]) hX dX6_placeAt_31 (Nat.le_of_ble_eq_true rfl) rfl ?_
  rcases zs_up_cases (fun x => ¬ S 19 (48 * i + x) = 100000) (f + 1) with ⟨hu, -⟩ | ⟨p, hp9, hgp, hu, -⟩ <;> rcases zs_fst_cases (fun x => ¬ S 19 (48 * i + x) = 100000) nI (48 - f) f with ⟨hv, -⟩ | ⟨q, hq8, hq9, hgq, hv, -⟩
  · skip
    refine zz_lcl (ls' := [(0, .ref 1), (1, .int (nI i)), (2, .int (nI f)), (3, .int (nI (48 * i))), (4, .int (-1)), (5, .int (-1))]) (by rw [hu, hv]) ?_
    refine zz_iload hX dX6_placeAt_33 4 rfl ?_
    refine zz_iconst (v := (-1)) hX dX6_placeAt_35 rfl ?_
    refine zz_icmp_eq hX 45 dX6_placeAt_36 (by decide) (fun _ => ?_) (fun c => absurd c (by decide))
    refine zz_iload hX dX6_placeAt_45 4 rfl ?_
    refine zz_iload hX dX6_placeAt_47 5 rfl ?_
    refine zz_icmp_ne hX 56 dX6_placeAt_49 (by decide) (fun c => absurd c (by decide)) (fun _ => ?_)
    refine zz_iconst (v := nI 0) hX dX6_placeAt_52 rfl ?_
    refine zz_goto hX 76 dX6_placeAt_53 (by decide) ?_
    refine zz_iret hX hr rfl (Nat.le_of_ble_eq_true rfl) (Nat.le_of_ble_eq_true rfl) dX6_placeAt_76 ?_
    exact ⟨by rw [show zp_place S i f = zs_val zs_mixC (fun x => S 19 (48 * i + x)) (zs_up (fun x => ¬ S 19 (48 * i + x) = 100000) (f + 1)) (zs_fst (fun x => ¬ S 19 (48 * i + x) = 100000) nI (48 - f) f) (nI f) from rfl, hu, hv]; rfl, rfl, rfl, rfl⟩
  · skip
    refine zz_lcl (ls' := [(0, .ref 1), (1, .int (nI i)), (2, .int (nI f)), (3, .int (nI (48 * i))), (4, .int (-1)), (5, .int (nI q))]) (by rw [hu, hv]) ?_
    refine zz_iload hX dX6_placeAt_33 4 rfl ?_
    refine zz_iconst (v := (-1)) hX dX6_placeAt_35 rfl ?_
    refine zz_icmp_eq hX 45 dX6_placeAt_36 (by decide) (fun _ => ?_) (fun c => absurd c (by decide))
    refine zz_iload hX dX6_placeAt_45 4 rfl ?_
    refine zz_iload hX dX6_placeAt_47 5 rfl ?_
    refine zz_icmp_ne hX 56 dX6_placeAt_49 (by decide) (fun c49 => ?_) (fun c49 => absurd c49.symm (zs_nm1 (by omega)))
    refine zz_aload_n hX dX6_placeAt_56 0 rfl rfl ?_
    refine zz_getR (y := 119) hX zf_F_X6_59.r hM.1 rfl (zM_r19 hM).1 dX6_placeAt_57 ?_
    refine zz_iload_n hX dX6_placeAt_60 3 rfl rfl ?_
    refine zz_iload hX dX6_placeAt_61 4 rfl ?_
    refine zz_iconst (v := (-1)) hX dX6_placeAt_63 rfl ?_
    refine zz_icmp_ne hX 72 dX6_placeAt_64 (by decide) (fun c => absurd c (by decide)) (fun _ => ?_)
    refine zz_iload hX dX6_placeAt_67 5 rfl ?_
    refine zz_goto hX 74 dX6_placeAt_69 (by decide) ?_
    refine zz_iadd (z := nI (48 * i + q)) hX dX6_placeAt_74 (nI_add _ _) ?_
    refine zz_iald (x := S 19 (48 * i + q)) hX (zM_r19 hM).2 (48 * i + q) rfl (by omega) (by decide) ((zM_v19 hM (k := 48 * i + q) (by omega))) dX6_placeAt_75 ?_
    refine zz_iret hX hr rfl (Nat.le_of_ble_eq_true rfl) (Nat.le_of_ble_eq_true rfl) dX6_placeAt_76 ?_
    have e9 : zp_place S i f = S 19 (48 * i + q) := by
      rw [show zp_place S i f = zs_val zs_mixC (fun x => S 19 (48 * i + x)) (zs_up (fun x => ¬ S 19 (48 * i + x) = 100000) (f + 1)) (zs_fst (fun x => ¬ S 19 (48 * i + x) = 100000) nI (48 - f) f) (nI f) from rfl, hu, hv]
      unfold zs_val
      rw [if_pos rfl, if_neg (zs_nm1 (by omega)), nI_clamp (by omega)]
    exact ⟨by rw [e9], rfl, rfl, rfl⟩
  · skip
    refine zz_lcl (ls' := [(0, .ref 1), (1, .int (nI i)), (2, .int (nI f)), (3, .int (nI (48 * i))), (4, .int (nI p)), (5, .int (-1))]) (by rw [hu, hv]) ?_
    refine zz_iload hX dX6_placeAt_33 4 rfl ?_
    refine zz_iconst (v := (-1)) hX dX6_placeAt_35 rfl ?_
    refine zz_icmp_eq hX 45 dX6_placeAt_36 (by decide) (fun c36 => absurd c36 (zs_nm1 (by omega))) (fun c36 => ?_)
    refine zz_iload hX dX6_placeAt_39 5 rfl ?_
    refine zz_iconst (v := (-1)) hX dX6_placeAt_41 rfl ?_
    refine zz_icmp_ne hX 77 dX6_placeAt_42 (by decide) (fun c => absurd c (by decide)) (fun _ => ?_)
    refine zz_iload hX dX6_placeAt_45 4 rfl ?_
    refine zz_iload hX dX6_placeAt_47 5 rfl ?_
    refine zz_icmp_ne hX 56 dX6_placeAt_49 (by decide) (fun c49 => ?_) (fun c49 => absurd c49 (zs_nm1 (by omega)))
    refine zz_aload_n hX dX6_placeAt_56 0 rfl rfl ?_
    refine zz_getR (y := 119) hX zf_F_X6_59.r hM.1 rfl (zM_r19 hM).1 dX6_placeAt_57 ?_
    refine zz_iload_n hX dX6_placeAt_60 3 rfl rfl ?_
    refine zz_iload hX dX6_placeAt_61 4 rfl ?_
    refine zz_iconst (v := (-1)) hX dX6_placeAt_63 rfl ?_
    refine zz_icmp_ne hX 72 dX6_placeAt_64 (by decide) (fun c64 => ?_) (fun c64 => absurd c64 (zs_nm1 (by omega)))
    refine zz_iload hX dX6_placeAt_72 4 rfl ?_
    refine zz_iadd (z := nI (48 * i + p)) hX dX6_placeAt_74 (nI_add _ _) ?_
    refine zz_iald (x := S 19 (48 * i + p)) hX (zM_r19 hM).2 (48 * i + p) rfl (by omega) (by decide) ((zM_v19 hM (k := 48 * i + p) (by omega))) dX6_placeAt_75 ?_
    refine zz_iret hX hr rfl (Nat.le_of_ble_eq_true rfl) (Nat.le_of_ble_eq_true rfl) dX6_placeAt_76 ?_
    have e9 : zp_place S i f = S 19 (48 * i + p) := by
      rw [show zp_place S i f = zs_val zs_mixC (fun x => S 19 (48 * i + x)) (zs_up (fun x => ¬ S 19 (48 * i + x) = 100000) (f + 1)) (zs_fst (fun x => ¬ S 19 (48 * i + x) = 100000) nI (48 - f) f) (nI f) from rfl, hu, hv]
      unfold zs_val
      rw [if_neg (zs_nm1 (by omega)), if_pos (by rw [zs_le, nI_toInt (by omega)]; show (-1 : Int) ≤ p; omega), nI_clamp (by omega)]
    exact ⟨by rw [e9], rfl, rfl, rfl⟩
  · skip
    refine zz_lcl (ls' := [(0, .ref 1), (1, .int (nI i)), (2, .int (nI f)), (3, .int (nI (48 * i))), (4, .int (nI p)), (5, .int (nI q))]) (by rw [hu, hv]) ?_
    refine zz_iload hX dX6_placeAt_33 4 rfl ?_
    refine zz_iconst (v := (-1)) hX dX6_placeAt_35 rfl ?_
    refine zz_icmp_eq hX 45 dX6_placeAt_36 (by decide) (fun c36 => absurd c36 (zs_nm1 (by omega))) (fun c36 => ?_)
    refine zz_iload hX dX6_placeAt_39 5 rfl ?_
    refine zz_iconst (v := (-1)) hX dX6_placeAt_41 rfl ?_
    refine zz_icmp_ne hX 77 dX6_placeAt_42 (by decide) (fun c42 => ?_) (fun c42 => absurd c42 (zs_nm1 (by omega)))
    refine zz_aload_n hX dX6_placeAt_77 0 rfl rfl ?_
    refine zz_getR (y := 119) hX zf_F_X6_59.r hM.1 rfl (zM_r19 hM).1 dX6_placeAt_78 ?_
    refine zz_iload_n hX dX6_placeAt_81 3 rfl rfl ?_
    refine zz_iload hX dX6_placeAt_82 5 rfl ?_
    refine zz_iadd (z := nI (48 * i + q)) hX dX6_placeAt_84 (nI_add _ _) ?_
    refine zz_iald (x := S 19 (48 * i + q)) hX (zM_r19 hM).2 (48 * i + q) rfl (by omega) (by decide) ((zM_v19 hM (k := 48 * i + q) (by omega))) dX6_placeAt_85 ?_
    refine zz_aload_n hX dX6_placeAt_86 0 rfl rfl ?_
    refine zz_getR (y := 119) hX zf_F_X6_59.r hM.1 rfl (zM_r19 hM).1 dX6_placeAt_87 ?_
    refine zz_iload_n hX dX6_placeAt_90 3 rfl rfl ?_
    refine zz_iload hX dX6_placeAt_91 4 rfl ?_
    refine zz_iadd (z := nI (48 * i + p)) hX dX6_placeAt_93 (nI_add _ _) ?_
    refine zz_iald (x := S 19 (48 * i + p)) hX (zM_r19 hM).2 (48 * i + p) rfl (by omega) (by decide) ((zM_v19 hM (k := 48 * i + p) (by omega))) dX6_placeAt_94 ?_
    refine zz_isub (z := (S 19 (48 * i + q)) - (S 19 (48 * i + p))) hX dX6_placeAt_95 rfl ?_
    refine zz_istore (ls' := [(0, .ref 1), (1, .int (nI i)), (2, .int (nI f)), (3, .int (nI (48 * i))), (4, .int (nI p)), (5, .int (nI q)), (6, .int ((S 19 (48 * i + q)) - (S 19 (48 * i + p))))]) hX dX6_placeAt_96 (Nat.le_of_ble_eq_true rfl) rfl ?_
    refine zz_iload hX dX6_placeAt_98 4 rfl ?_
    refine zz_iload hX dX6_placeAt_100 5 rfl ?_
    refine zz_icmp_neN hX (by omega) (by omega) 117 dX6_placeAt_102 (by decide) (fun c102 => ?_) (fun c102 => ?_)
    · skip
      refine zz_aload_n hX dX6_placeAt_117 0 rfl rfl ?_
      refine zz_getR (y := 119) hX zf_F_X6_59.r hM.1 rfl (zM_r19 hM).1 dX6_placeAt_118 ?_
      refine zz_iload_n hX dX6_placeAt_121 3 rfl rfl ?_
      refine zz_iload hX dX6_placeAt_122 4 rfl ?_
      refine zz_iadd (z := nI (48 * i + p)) hX dX6_placeAt_124 (nI_add _ _) ?_
      refine zz_iald (x := S 19 (48 * i + p)) hX (zM_r19 hM).2 (48 * i + p) rfl (by omega) (by decide) ((zM_v19 hM (k := 48 * i + p) (by omega))) dX6_placeAt_125 ?_
      refine zz_iload hX dX6_placeAt_126 6 rfl ?_
      refine zz_iload_n hX dX6_placeAt_128 2 rfl rfl ?_
      refine zz_iload hX dX6_placeAt_129 4 rfl ?_
      refine zz_isub (z := nI (f - p)) hX dX6_placeAt_131 (pk_sub (by omega)) ?_
      refine zz_imul (z := ((S 19 (48 * i + q)) - (S 19 (48 * i + p))) * (nI (f - p))) hX dX6_placeAt_132 rfl ?_
      refine zz_iload hX dX6_placeAt_133 5 rfl ?_
      refine zz_iload hX dX6_placeAt_135 4 rfl ?_
      refine zz_isub (z := nI (q - p)) hX dX6_placeAt_137 (pk_sub (by omega)) ?_
      refine zz_idiv (z := (((S 19 (48 * i + q)) - (S 19 (48 * i + p))) * (nI (f - p))) / (nI (q - p))) hX dX6_placeAt_138 (nI_ne0 (by omega) (by omega)) rfl ?_
      refine zz_iadd (z := (S 19 (48 * i + p)) + ((((S 19 (48 * i + q)) - (S 19 (48 * i + p))) * (nI (f - p))) / (nI (q - p)))) hX dX6_placeAt_139 rfl ?_
      refine zz_iret hX hr rfl (Nat.le_of_ble_eq_true rfl) (Nat.le_of_ble_eq_true rfl) dX6_placeAt_140 ?_
      have e9 : zp_place S i f = zs_mixC (S 19 (48 * i + p)) (S 19 (48 * i + q)) (nI (f - p)) (nI (q - p)) := by
        rw [show zp_place S i f = zs_val zs_mixC (fun x => S 19 (48 * i + x)) (zs_up (fun x => ¬ S 19 (48 * i + x) = 100000) (f + 1)) (zs_fst (fun x => ¬ S 19 (48 * i + x) = 100000) nI (48 - f) f) (nI f) from rfl, hu, hv]
        unfold zs_val
        rw [if_neg (zs_nm1 (by omega)), if_neg (by rw [zs_le, nI_toInt (by omega), nI_toInt (by omega)]; omega), nI_clamp (by omega), nI_clamp (by omega), pk_sub (by omega), pk_sub (by omega)]
      exact ⟨by rw [e9]; rfl, rfl, rfl, rfl⟩
    · skip
      refine zz_aload_n hX dX6_placeAt_105 0 rfl rfl ?_
      refine zz_getR (y := 119) hX zf_F_X6_59.r hM.1 rfl (zM_r19 hM).1 dX6_placeAt_106 ?_
      refine zz_iload_n hX dX6_placeAt_109 3 rfl rfl ?_
      refine zz_iload hX dX6_placeAt_110 4 rfl ?_
      refine zz_iadd (z := nI (48 * i + p)) hX dX6_placeAt_112 (nI_add _ _) ?_
      refine zz_iald (x := S 19 (48 * i + p)) hX (zM_r19 hM).2 (48 * i + p) rfl (by omega) (by decide) ((zM_v19 hM (k := 48 * i + p) (by omega))) dX6_placeAt_113 ?_
      refine zz_goto hX 140 dX6_placeAt_114 (by decide) ?_
      refine zz_iret hX hr rfl (Nat.le_of_ble_eq_true rfl) (Nat.le_of_ble_eq_true rfl) dX6_placeAt_140 ?_
      have e9 : zp_place S i f = S 19 (48 * i + p) := by
        rw [show zp_place S i f = zs_val zs_mixC (fun x => S 19 (48 * i + x)) (zs_up (fun x => ¬ S 19 (48 * i + x) = 100000) (f + 1)) (zs_fst (fun x => ¬ S 19 (48 * i + x) = 100000) nI (48 - f) f) (nI f) from rfl, hu, hv]
        unfold zs_val
        rw [if_neg (zs_nm1 (by omega)), if_pos (by rw [c102]; exact zs_le.mpr (Int.le_refl _)), nI_clamp (by omega)]
      exact ⟨by rw [e9], rfl, rfl, rfl⟩

